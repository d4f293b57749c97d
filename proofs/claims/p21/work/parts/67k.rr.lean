/-! ===== the reference's rows, as lists ===== -/
def RowR (S : PS) (x r : Nat) (L : List Nat) : Prop := zA S x 1219 r = (L.length : Int) ∧ ∀ (k c : Nat), L[k]? = some c → zA S x 1218 (600 * r + k) = (c : Int)
def CmO (S T : PS) (x r w : Nat) (c : Int) : Prop := (∀ j, zA T x 1219 j = if j = r then zA S x 1219 r + 1 else zA S x 1219 j) ∧ (∀ j : Nat, zA T x 1218 j = if j = 600 * r + w then c else if 600 * r + w < j ∧ (j : Int) ≤ 600 * r + zA S x 1219 r then zA S x 1218 (j - 1) else zA S x 1218 j) ∧ 0 ≤ zA S x 1219 r ∧ zA S x 1219 r < 600 ∧ (w : Int) ≤ zA S x 1219 r
def GoO (S T : PS) (x r i : Nat) : Prop := (∀ j, zA T x 1219 j = if j = r then zA S x 1219 r - 1 else zA S x 1219 j) ∧ (∀ j : Nat, zA T x 1218 j = if 600 * r + i ≤ j ∧ (j : Int) < 600 * r + (zA S x 1219 r - 1) then zA S x 1218 (j + 1) else zA S x 1218 j) ∧ zA S x 1219 r ≤ 600 ∧ (i : Int) < zA S x 1219 r
theorem RowR_last {S T : PS} {x r : Nat} {c : Int} {d : Nat} {L : List Nat} (h : RowR S x r L) (ho : CmO S T x r L.length c) (hd : c = (d : Int)) : RowR T x r (L ++ [d]) := by
  obtain ⟨h1, h2⟩ := h
  obtain ⟨o1, o2, o3⟩ := ho
  refine ⟨by rw [o1 r, if_pos rfl, h1, List.length_append]; rfl, fun k e he => ?_⟩
  rw [o2]
  by_cases z : k = L.length
  · subst z
    rw [List.getElem?_append_right (Nat.le_refl _), Nat.sub_self] at he
    cases he
    rw [if_pos rfl, hd]
  · have hk : k < L.length := by
      have := (List.getElem?_eq_some_iff.mp he).1
      rw [List.length_append] at this
      have h3 : k < L.length + 1 := this
      omega
    rw [List.getElem?_append_left hk] at he
    rw [if_neg (by omega), if_neg (by omega)]
    exact h2 k e he
theorem RowR_first {S T : PS} {x r : Nat} {c : Int} {d : Nat} {L : List Nat} (h : RowR S x r L) (ho : CmO S T x r 0 c) (hd : c = (d : Int)) : RowR T x r (d :: L) := by
  obtain ⟨h1, h2⟩ := h
  obtain ⟨o1, o2, o3⟩ := ho
  refine ⟨by rw [o1 r, if_pos rfl, h1]; rfl, fun k e he => ?_⟩
  rw [o2]
  cases k with
  | zero => cases he; rw [if_pos rfl, hd]
  | succ k =>
    have he2 : L[k]? = some e := he
    have hk := (List.getElem?_eq_some_iff.mp he2).1
    rw [if_neg (by omega), if_pos (by omega), show 600 * r + (k + 1) - 1 = 600 * r + k by omega]
    exact h2 k e he2
theorem RowR_goes {S T : PS} {x r i : Nat} {L : List Nat} (h : RowR S x r L) (ho : GoO S T x r i) (hi : i < L.length) : RowR T x r (L.eraseIdx i) := by
  obtain ⟨h1, h2⟩ := h
  obtain ⟨o1, o2, o3⟩ := ho
  refine ⟨by rw [o1 r, if_pos rfl, h1, List.length_eraseIdx, if_pos hi]; omega, fun k e he => ?_⟩
  have hk := (List.getElem?_eq_some_iff.mp he).1
  rw [List.length_eraseIdx, if_pos hi] at hk
  rw [List.getElem?_eraseIdx] at he
  rw [o2]
  by_cases z : k < i
  · rw [if_pos z] at he
    rw [if_neg (by omega)]
    exact h2 k e he
  · rw [if_neg z] at he
    rw [if_pos (by omega)]
    exact h2 (k + 1) e he
theorem z1219 {S : PS} {x : Nat} (hG : GX S) (hx : At S x 12) (j : Nat) : 0 ≤ zA S x 1219 j ∧ zA S x 1219 j ≤ 600 := by
  obtain ⟨q, k1, k2, -⟩ := gQ_12_1219 hG hx
  rw [zA_eq, mA_eq k1]
  exact gE_594 hG k2 j
theorem RowR_cmx {S T : PS} {x r w q : Nat} {c : Int} {L : List Nat} (hG : GX S) (hx : At S x 12) (hq : q ≠ r) (h : RowR S x q L) (ho : CmO S T x r w c) : RowR T x q L := by
  have hz := z1219 hG hx q
  obtain ⟨h1, h2⟩ := h
  obtain ⟨o1, o2, o3⟩ := ho
  refine ⟨by rw [o1 q, if_neg hq]; exact h1, fun k e he => ?_⟩
  have hk := (List.getElem?_eq_some_iff.mp he).1
  rw [o2, if_neg (by omega), if_neg (by omega)]
  exact h2 k e he
theorem RowR_gox {S T : PS} {x r i q : Nat} {L : List Nat} (hG : GX S) (hx : At S x 12) (hq : q ≠ r) (h : RowR S x q L) (ho : GoO S T x r i) : RowR T x q L := by
  have hz := z1219 hG hx q
  obtain ⟨h1, h2⟩ := h
  obtain ⟨o1, o2, o3⟩ := ho
  refine ⟨by rw [o1 q, if_neg hq]; exact h1, fun k e he => ?_⟩
  have hk := (List.getElem?_eq_some_iff.mp he).1
  rw [o2, if_neg (by omega)]
  exact h2 k e he
/-- the first of the least -/
def Fst (f : Nat → Int) (L : List Nat) (i : Nat) : Prop := ∃ c, L[i]? = some c ∧ ∀ j d, L[j]? = some d → f c ≤ f d ∧ (j < i → f c < f d)
theorem Fst_u {f : Nat → Int} {L : List Nat} {i j : Nat} (hi : Fst f L i) (hj : Fst f L j) : i = j := by
  obtain ⟨c, c1, c2⟩ := hi
  obtain ⟨d, d1, d2⟩ := hj
  have h1 := c2 j d d1
  have h2 := d2 i c c1
  rcases Nat.lt_trichotomy i j with z | z | z
  · have := h2.2 z; omega
  · exact z
  · have := h1.2 z; omega
theorem thN_Fst {f : Nat → Int} {L : List Nat} (hf : ∀ c, c ∈ L → f c < 2147483647) : ∀ k, k ≤ L.length → (k = 0 ∧ thN f L k = (-1, 2147483647)) ∨ ∃ i c, i < k ∧ L[i]? = some c ∧ thN f L k = ((i : Int), f c) ∧ ∀ j d, j < k → L[j]? = some d → f c ≤ f d ∧ (j < i → f c < f d)
  | 0, _ => Or.inl ⟨rfl, rfl⟩
  | k + 1, hk => by
    obtain ⟨e, he⟩ : ∃ e, L[k]? = some e := ⟨_, List.getElem?_eq_getElem (by omega)⟩
    refine Or.inr ?_
    rcases thN_Fst hf k (by omega) with ⟨h0, h1⟩ | ⟨i, c, i1, i2, i3, i4⟩
    · refine ⟨k, e, by omega, he, thN_y he (by rw [h1]; exact hf e (List.mem_of_getElem? he)), fun j d hj hd => ?_⟩
      rw [show j = k by omega, he] at hd
      cases hd
      exact ⟨Int.le_refl _, fun z => by omega⟩
    · by_cases z : f e < f c
      · refine ⟨k, e, by omega, he, thN_y he (by rw [i3]; exact z), fun j d hj hd => ?_⟩
        by_cases y : j = k
        · rw [y, he] at hd
          cases hd
          exact ⟨Int.le_refl _, fun w => by omega⟩
        · have := i4 j d (by omega) hd
          exact ⟨by omega, fun _ => by omega⟩
      · refine ⟨i, c, by omega, i2, by rw [thN_n he (by rw [i3]; exact z), i3], fun j d hj hd => ?_⟩
        by_cases y : j = k
        · rw [y, he] at hd
          cases hd
          exact ⟨by omega, fun w => by omega⟩
        · exact i4 j d (by omega) hd
theorem thN_is {f : Nat → Int} {L : List Nat} {i : Nat} (hf : ∀ c, c ∈ L → f c < 2147483647) (h : Fst f L i) : (thN f L L.length).1 = (i : Int) := by
  have hl : i < L.length := by
    obtain ⟨c, c1, -⟩ := h
    exact (List.getElem?_eq_some_iff.mp c1).1
  rcases thN_Fst hf L.length (Nat.le_refl _) with ⟨h0, -⟩ | ⟨j, c, j1, j2, j3, j4⟩
  · omega
  · rw [j3]
    have : j = i := Fst_u ⟨c, j2, fun q d hd => j4 q d (List.getElem?_eq_some_iff.mp hd).1 hd⟩ h
    show (j : Int) = (i : Int)
    omega
theorem thS_min {F : Nat → Int} {n : Nat} : ∀ (k : Nat) (b : Int), k ≤ n → ((b = -1 ∧ k = n) ∨ (∃ i : Nat, b = (i : Int) ∧ k ≤ i ∧ i < n ∧ ∀ j, k ≤ j → j < n → F i ≤ F j ∧ (j < i → F i < F j))) → (n = 0 ∧ thS F k b = -1) ∨ ∃ i : Nat, thS F k b = (i : Int) ∧ i < n ∧ ∀ j, j < n → F i ≤ F j ∧ (j < i → F i < F j)
  | 0, b, _, h => by
    rcases h with ⟨h1, h2⟩ | ⟨i, h1, h2, h3, h4⟩
    · exact Or.inl ⟨h2.symm, h1⟩
    · exact Or.inr ⟨i, h1, h3, fun j hj => h4 j (Nat.zero_le _) hj⟩
  | k + 1, b, hk, h => by
    show (n = 0 ∧ thS F k (if b = -1 ∨ F k ≤ F b.toNat then (k : Int) else b) = -1) ∨ ∃ i : Nat, thS F k (if b = -1 ∨ F k ≤ F b.toNat then (k : Int) else b) = (i : Int) ∧ i < n ∧ ∀ j, j < n → F i ≤ F j ∧ (j < i → F i < F j)
    refine thS_min k _ (by omega) (Or.inr ?_)
    rcases h with ⟨h1, h2⟩ | ⟨i, h1, h2, h3, h4⟩
    · rw [if_pos (Or.inl h1)]
      exact ⟨k, rfl, Nat.le_refl _, by omega, fun j a c => by rw [show j = k by omega]; exact ⟨Int.le_refl _, fun z => by omega⟩⟩
    · by_cases z : F k ≤ F i
      · rw [if_pos (Or.inr (by rw [h1, Int.toNat_natCast]; exact z))]
        refine ⟨k, rfl, Nat.le_refl _, by omega, fun j a c => ?_⟩
        by_cases y : j = k
        · rw [y]; exact ⟨Int.le_refl _, fun w => by omega⟩
        · have := (h4 j (by omega) c).1
          exact ⟨by omega, fun w => by omega⟩
      · rw [if_neg (fun w => by
          rcases w with w | w
          · omega
          · rw [h1, Int.toNat_natCast] at w; exact z w)]
        refine ⟨i, h1, by omega, h3, fun j a c => ?_⟩
        by_cases y : j = k
        · rw [y]; exact ⟨by omega, fun _ => by omega⟩
        · exact h4 j (by omega) c
def PlZ (S : PS) (x : Nat) (pl sd : Nat → Int32) : Prop := ∀ c : Nat, c < 600 → zA S x 1208 c = (pl c).toInt ∧ zA S x 1207 c = (sd c).toInt
def PlR (S : PS) (x : Nat) (A : Pt) : Prop := PlZ S x (qpl A) (qsd A)
def EnR (S : PS) (x : Nat) (p : Int) (E : En) : Prop := (∀ c : Nat, c < 600 → (elen E c).toInt = lenZ S x (c : Int) ∧ (∀ q : Int32, 0 ≤ q.toInt → q.toInt < lenZ S x (c : Int) → (efn E c q).toInt = fnZ S x (c : Int) q.toInt ∧ (efn E c q).toInt < 2147483647) ∧ ∀ q, ebr E c q ↔ brI (mA S x 1203 ((c : Int) / 60).toNat) (mA S x 1206 ((c : Int) / 60).toNat) (Int32.ofInt ((c : Int) % 60)) q) ∧ eday E = pI S 1245 x ∧ (epot E).toInt = p ∧ eaim E = mA S x 1212 p.toNat ∧ efind E = mA S x 1213 p.toNat
theorem zA_nat {S : PS} {x g i : Nat} {v : Int32} (h : mA S x g i = v) : zA S x g i = v.toInt := by rw [zA_eq, h]
theorem thZ_thi {S : PS} {x : Nat} {p : Int} {E : En} {A : Pt} (hp : 0 ≤ p) (hr : RowR S x (3 * p + 1).toNat (qe A)) (hv : ∀ k c, (qe A)[k]? = some c → thF S x p k = (finF E A c).toInt) (hb : ∀ c, c ∈ qe A → (finF E A c).toInt < 2147483647) : thZ S x p = thiF E A := by
  unfold thZ thiF
  have hn : (zA S x 1219 (3 * p + 1).toNat).toNat = (qe A).length := by rw [hr.1]; omega
  rw [hn]
  rcases thS_min (F := thF S x p) (qe A).length (-1) (Nat.le_refl _) (Or.inl ⟨rfl, rfl⟩) with ⟨h0, h1⟩ | ⟨i, h1, h2, h3⟩
  · rw [h1, h0]
    rfl
  · rw [h1]
    obtain ⟨c, hc⟩ : ∃ c, (qe A)[i]? = some c := ⟨_, List.getElem?_eq_getElem h2⟩
    refine (thN_is hb ⟨c, hc, fun j d hd => ?_⟩).symm
    have := h3 j (List.getElem?_eq_some_iff.mp hd).1
    rw [hv i c hc, hv j d hd] at this
    exact this
/-- the ends of a pot: their places are below their lengths, so their fineness is what the reference reads -/
theorem end_fn {S : PS} {x : Nat} {p : Int} {E : En} {A : Pt} {k c : Nat} (hG : GX S) (hx : At S x 12) (hM : MI S x) (hp0 : 0 ≤ p) (hp3 : p ≤ 3) (hr : RowR S x (3 * p + 1).toNat (qe A)) (hE : EnR S x p E) (hP : PlR S x A) (hk : (qe A)[k]? = some c) : c < 600 ∧ 0 ≤ (qpl A c).toInt ∧ (qpl A c).toInt < lenZ S x (c : Int) ∧ (finF E A c).toInt = fnZ S x (c : Int) (qpl A c).toInt ∧ (finF E A c).toInt < 2147483647 := by
  have hl := (List.getElem?_eq_some_iff.mp hk).1
  have h18 := hr.2 k c hk
  have hlo := gI_12_1201 hG hx
  have hm := MI_2 hM (r := 3 * p + 1) (k := (k : Int)) (by omega) (by omega) (by omega) (by have := hr.1; omega)
  have ei : (600 * (3 * p + 1) + (k : Int)).toNat = 600 * (3 * p + 1).toNat + k := by omega
  rw [ei, h18] at hm
  have hc : c < 600 := by omega
  have hal := (MI_alive hM (c := (c : Int)) (r := 3 * p + 1) (k := (k : Int)) hlo.2 (by omega) (by omega) (by omega) (by have := hr.1; omega) (by rw [ei, h18])).2.2.2
  have h08 : zA S x 1208 c = (qpl A c).toInt := (hP c hc).1
  rw [Int.toNat_natCast, h08] at hal
  have h0 : 0 ≤ (qpl A c).toInt := by
    rw [← h08, zA_eq]
    obtain ⟨q, k1, k2, -⟩ := gQ_12_1208 hG hx
    rw [mA_eq k1]
    exact (gE_374 hG k2 c).1
  obtain ⟨e1, e2⟩ := (hE.1 c hc).2.1 (qpl A c) h0 hal
  exact ⟨hc, h0, hal, e1, e2⟩
theorem thF_fin {S : PS} {x : Nat} {p : Int} {E : En} {A : Pt} {k c : Nat} (hG : GX S) (hx : At S x 12) (hM : MI S x) (hp0 : 0 ≤ p) (hp3 : p ≤ 3) (hr : RowR S x (3 * p + 1).toNat (qe A)) (hE : EnR S x p E) (hP : PlR S x A) (hk : (qe A)[k]? = some c) : thF S x p k = (finF E A c).toInt := by
  obtain ⟨h1, -, -, h4, -⟩ := end_fn hG hx hM hp0 hp3 hr hE hP hk
  unfold thF
  rw [show (600 * (3 * p + 1) + (k : Int)).toNat = 600 * (3 * p + 1).toNat + k by omega, hr.2 k c hk, Int.toNat_natCast, (hP c h1).1, h4]
theorem thZ_is {S : PS} {x : Nat} {p : Int} {E : En} {A : Pt} (hG : GX S) (hx : At S x 12) (hM : MI S x) (hp0 : 0 ≤ p) (hp3 : p ≤ 3) (hr : RowR S x (3 * p + 1).toNat (qe A)) (hE : EnR S x p E) (hP : PlR S x A) : thZ S x p = thiF E A := thZ_thi hp0 hr (fun k c hk => thF_fin hG hx hM hp0 hp3 hr hE hP hk) (fun c hc => by
  obtain ⟨k, hk⟩ := List.mem_iff_getElem?.mp hc
  exact (end_fn hG hx hM hp0 hp3 hr hE hP hk).2.2.2.2)
/-! ===== the reference's metres ===== -/
def MtR (S : PS) (x m : Nat) (t : Mt) : Prop := zA S x 1235 m = (t.length : Int) ∧ ∀ (k : Nat) (z : Nat × Int32), t[k]? = some z → zA S x 1236 (12 * m + k) = 1000 * (z.1 : Int) + z.2.toInt ∧ 0 ≤ z.2.toInt ∧ z.2.toInt < 1000
def GrW (S : PS) (x p : Nat) (g : List Mt) : Prop := zA S x 1237 p = (g.length : Int) ∧ ∀ (k : Nat) (t : Mt), g[k]? = some t → MtR S x (12000 + 300 * p + k) t
def SkR (S : PS) (x k : Nat) (s : Sk) : Prop := (zA S x 1240 k = s.1.toInt ∧ zA S x 1241 k = s.2.1.toInt ∧ zA S x 1242 k = s.2.2.1.toInt) ∧ zA S x 1239 (k + 1) = zA S x 1239 k + (s.2.2.2.length : Int) ∧ ∀ (j : Nat) (t : Mt), s.2.2.2[j]? = some t → MtR S x ((zA S x 1239 k).toNat + j) t
def SkW (S : PS) (x : Nat) (L : List Sk) : Prop := (pI S 1238 x).toInt = (L.length : Int) ∧ ∀ (k : Nat) (s : Sk), L[k]? = some s → SkR S x k s
theorem z1235 {S : PS} {x : Nat} (hG : GX S) (hx : At S x 12) (j : Nat) : 0 ≤ zA S x 1235 j ∧ zA S x 1235 j ≤ 12 := by
  obtain ⟨q, k1, k2, -⟩ := gQ_12_1235 hG hx
  rw [zA_eq, mA_eq k1]
  exact gE_914 hG k2 j
theorem z1239 {S : PS} {x : Nat} (hG : GX S) (hx : At S x 12) (j : Nat) : 0 ≤ zA S x 1239 j ∧ zA S x 1239 j ≤ 12000 := by
  obtain ⟨q, k1, k2, -⟩ := gQ_12_1239 hG hx
  rw [zA_eq, mA_eq k1]
  exact gE_994 hG k2 j
theorem MtR_w {S : PS} {x m : Nat} {t : Mt} (hG : GX S) (hx : At S x 12) (h : MtR S x m t) : t.length ≤ 12 := by
  have := z1235 hG hx m
  have := h.1
  omega
theorem MtR_to {S T : PS} {x m n : Nat} {t : Mt} (hw : t.length ≤ 12) (h5 : zA T x 1235 n = zA S x 1235 m) (h6 : ∀ k : Nat, k < 12 → zA T x 1236 (12 * n + k) = zA S x 1236 (12 * m + k)) (h : MtR S x m t) : MtR T x n t := ⟨by rw [h5]; exact h.1, fun k z hk => by
  have := (List.getElem?_eq_some_iff.mp hk).1
  rw [h6 k (by omega)]
  exact h.2 k z hk⟩
theorem GrW_eq {S T : PS} {x p : Nat} {g : List Mt} (h5 : zA T x 1235 = zA S x 1235) (h6 : zA T x 1236 = zA S x 1236) (h7 : zA T x 1237 p = zA S x 1237 p) (h : GrW S x p g) : GrW T x p g := ⟨by rw [h7]; exact h.1, fun k t hk => by
  obtain ⟨a, b⟩ := h.2 k t hk
  exact ⟨by rw [h5]; exact a, fun j z hj => by rw [h6]; exact b j z hj⟩⟩
theorem SkW_eq {S T : PS} {x : Nat} {L : List Sk} (h8 : (pI T 1238 x).toInt = (pI S 1238 x).toInt) (h0 : zA T x 1240 = zA S x 1240) (h1 : zA T x 1241 = zA S x 1241) (h2 : zA T x 1242 = zA S x 1242) (h9 : zA T x 1239 = zA S x 1239) (hm : ∀ (m : Nat) (t : Mt), (m : Int) < 12000 → MtR S x m t → MtR T x m t) (hG : GX S) (hx : At S x 12) (h : SkW S x L) : SkW T x L := ⟨by rw [h8]; exact h.1, fun k s hk => by
  obtain ⟨a, b, c⟩ := h.2 k s hk
  refine ⟨by rw [h0, h1, h2]; exact a, by rw [h9]; exact b, fun j t hj => ?_⟩
  rw [h9]
  have := (List.getElem?_eq_some_iff.mp hj).1
  have z1 := z1239 hG hx k
  have z2 := z1239 hG hx (k + 1)
  exact hm _ t (by omega) (c j t hj)⟩
/-- while a pot's metres are copied -/
def CuP (S T : PS) (x : Nat) (to gr n w : Int) : Prop := (∀ j : Nat, zA T x 1235 j = if to ≤ (j : Int) ∧ (j : Int) < to + n then zA S x 1235 (gr - to + (j : Int)).toNat else zA S x 1235 j) ∧ ∀ j : Nat, zA T x 1236 j = if 12 * to ≤ (j : Int) ∧ (j : Int) < 12 * to + w then zA S x 1236 (12 * gr - 12 * to + (j : Int)).toNat else zA S x 1236 j
theorem CuP_0 {S T : PS} {x : Nat} {to gr : Int} (h5 : zA T x 1235 = zA S x 1235) (h6 : zA T x 1236 = zA S x 1236) : CuP S T x to gr 0 0 := ⟨fun j => by rw [h5, if_neg (by omega)], fun j => by rw [h6, if_neg (by omega)]⟩
theorem CuP_e {S T U : PS} {x : Nat} {to gr n w v i : Int} (h : CuP S T x to gr n w) (h0 : 0 ≤ to) (hn : 0 ≤ n) (hg : to + n < gr) (hi : i = to + n) (hv : zA T x 1235 (gr + n).toNat = v) (h5 : ∀ j, zA U x 1235 j = if j = i.toNat then v else zA T x 1235 j) (h6 : zA U x 1236 = zA T x 1236) : CuP S U x to gr (n + 1) w := ⟨fun j => by
  rw [h5 j]
  by_cases e : j = i.toNat
  · rw [if_pos e, if_pos (by omega), ← hv, h.1, if_neg (by omega), show (gr - to + (j : Int)).toNat = (gr + n).toNat by omega]
  · rw [if_neg e, h.1 j]
    by_cases c : to ≤ (j : Int) ∧ (j : Int) < to + n
    · rw [if_pos c, if_pos (by omega)]
    · rw [if_neg c, if_neg (by omega)], fun j => by rw [h6]; exact h.2 j⟩
theorem CuP_d {S T U : PS} {x : Nat} {to gr n w v i s : Int} (h : CuP S T x to gr n w) (h0 : 0 ≤ to) (hw : 0 ≤ w) (hg : 12 * to + w < 12 * gr) (hi : i = 12 * to + w) (hs : s = 12 * gr + w) (hv : zA T x 1236 s.toNat = v) (h6 : ∀ j, zA U x 1236 j = if j = i.toNat then v else zA T x 1236 j) (h5 : zA U x 1235 = zA T x 1235) : CuP S U x to gr n (w + 1) := ⟨fun j => by rw [h5]; exact h.1 j, fun j => by
  rw [h6 j]
  by_cases e : j = i.toNat
  · rw [if_pos e, if_pos (by omega), ← hv, h.2, if_neg (by omega), show (12 * gr - 12 * to + (j : Int)).toNat = s.toNat by omega]
  · rw [if_neg e, h.2 j]
    by_cases c : 12 * to ≤ (j : Int) ∧ (j : Int) < 12 * to + w
    · rw [if_pos c, if_pos (by omega)]
    · rw [if_neg c, if_neg (by omega)]⟩
theorem CuP_to {S T U : PS} {x : Nat} {to gr n w : Int} (h5 : zA U x 1235 = zA T x 1235) (h6 : zA U x 1236 = zA T x 1236) (h : CuP S T x to gr n w) : CuP S U x to gr n w := ⟨fun j => by rw [h5]; exact h.1 j, fun j => by rw [h6]; exact h.2 j⟩
/-- what is cut lies behind the skeins before it -/
theorem sk_mono {S : PS} {x : Nat} {L : List Sk} (h : SkW S x L) : ∀ d k : Nat, k + d ≤ L.length → zA S x 1239 k ≤ zA S x 1239 (k + d)
  | 0, k, _ => Int.le_refl _
  | d + 1, k, hk => by
    have h1 := sk_mono h d k (by omega)
    obtain ⟨s, hs⟩ : ∃ s, L[k + d]? = some s := ⟨_, List.getElem?_eq_getElem (by omega)⟩
    have h2 := (h.2 (k + d) s hs).2.1
    have e : k + (d + 1) = k + d + 1 := by omega
    rw [e]
    omega
theorem SkW_cut {S T : PS} {x : Nat} {L : List Sk} {g : List Mt} {p d a : Int32} {pz : Int} (hG : GX S) (hx : At S x 12) (hp0 : 0 ≤ pz) (hp : p.toInt = pz) (hc : CuP S T x (zA S x 1239 L.length) (12000 + 300 * pz) (g.length : Int) (12 * (g.length : Int))) (hb : zA S x 1239 L.length + (g.length : Int) ≤ 12000) (h8 : (pI T 1238 x).toInt = (pI S 1238 x).toInt + 1) (h0 : ∀ j, zA T x 1240 j = if j = L.length then p.toInt else zA S x 1240 j) (h1 : ∀ j, zA T x 1241 j = if j = L.length then d.toInt else zA S x 1241 j) (h2 : ∀ j, zA T x 1242 j = if j = L.length then a.toInt else zA S x 1242 j) (h9 : ∀ j, zA T x 1239 j = if j = L.length + 1 then zA S x 1239 L.length + (g.length : Int) else zA S x 1239 j) (hg : GrW S x pz.toNat g) (h : SkW S x L) : SkW T x (L ++ [(p, d, a, g)]) := by
  have zt := z1239 hG hx L.length
  have hgl : ∀ t, t ∈ g → t.length ≤ 12 := fun t ht => by
    obtain ⟨k, hk⟩ := List.mem_iff_getElem?.mp ht
    exact MtR_w hG hx (hg.2 k t hk)
  refine ⟨by rw [h8, h.1, List.length_append]; rfl, fun k s hk => ?_⟩
  by_cases e : k = L.length
  · have hs : s = (p, d, a, g) := by
      rw [e, List.getElem?_append_right (Nat.le_refl _), Nat.sub_self] at hk
      exact (Option.some.inj hk).symm
    rw [hs, e]
    refine ⟨⟨by rw [h0, if_pos rfl], by rw [h1, if_pos rfl], by rw [h2, if_pos rfl]⟩, ?_, fun j t hj => ?_⟩
    · rw [h9, if_pos rfl, h9, if_neg (by omega)]
    · have hj' : g[j]? = some t := hj
      have hl := (List.getElem?_eq_some_iff.mp hj').1
      rw [h9, if_neg (by omega)]
      refine MtR_to (hgl t (List.mem_of_getElem? hj')) ?_ (fun i hi => ?_) (hg.2 j t hj')
      · rw [hc.1, if_pos (by omega)]
        congr 1
        omega
      · rw [hc.2, if_pos (by omega)]
        congr 1
        omega
  · have hl := (List.getElem?_eq_some_iff.mp hk).1
    rw [List.length_append] at hl
    have hl2 : k < L.length + 1 := hl
    rw [List.getElem?_append_left (by omega)] at hk
    obtain ⟨b1, b2, b3⟩ := h.2 k s hk
    have hm : zA S x 1239 (k + 1) ≤ zA S x 1239 L.length := by
      have := sk_mono h (L.length - (k + 1)) (k + 1) (by omega)
      rw [show k + 1 + (L.length - (k + 1)) = L.length by omega] at this
      exact this
    have z1 := z1239 hG hx k
    refine ⟨⟨by rw [h0, if_neg e]; exact b1.1, by rw [h1, if_neg e]; exact b1.2.1, by rw [h2, if_neg e]; exact b1.2.2⟩, by rw [h9, if_neg (by omega), h9, if_neg (by omega)]; exact b2, fun j t hj => ?_⟩
    have hj' := (List.getElem?_eq_some_iff.mp hj).1
    rw [h9, if_neg (by omega)]
    refine MtR_to (MtR_w hG hx (b3 j t hj)) ?_ (fun i hi => ?_) (b3 j t hj)
    · rw [hc.1, if_neg (by omega)]
    · rw [hc.2, if_neg (by omega)]
theorem GrW_cut {S T : PS} {x q : Nat} {to gr n : Int} {g : List Mt} (hG : GX S) (hx : At S x 12) (hc : CuP S T x to gr n (12 * n)) (hb : to + n ≤ 12000) (h7 : zA T x 1237 q = zA S x 1237 q) (h : GrW S x q g) : GrW T x q g := ⟨by rw [h7]; exact h.1, fun k t hk => by
  refine MtR_to (MtR_w hG hx (h.2 k t hk)) ?_ (fun i hi => ?_) (h.2 k t hk)
  · rw [hc.1, if_neg (by omega)]
  · rw [hc.2, if_neg (by omega)]⟩
theorem CuP_c {S T : PS} {x : Nat} {to gr n w n' w' : Int} (h : CuP S T x to gr n w) (hn : n = n') (hw : w = w') : CuP S T x to gr n' w' := by
  subst hn hw
  exact h
def CuO (S T : PS) (x : Nat) (p : Int) : Prop := ∃ to : Int, zA S x 1239 (pI S 1238 x).toInt.toNat = to ∧ CuP S T x to (12000 + 300 * p) (zA S x 1237 p.toNat) (12 * zA S x 1237 p.toNat) ∧ to + zA S x 1237 p.toNat ≤ 12000 ∧ (∀ j, zA T x 1240 j = if j = (pI S 1238 x).toInt.toNat then p else zA S x 1240 j) ∧ (∀ j, zA T x 1241 j = if j = (pI S 1238 x).toInt.toNat then (pI S 1245 x).toInt else zA S x 1241 j) ∧ (∀ j, zA T x 1242 j = if j = (pI S 1238 x).toInt.toNat then zA S x 1212 p.toNat else zA S x 1242 j) ∧ ∀ j, zA T x 1239 j = if j = (pI S 1238 x).toInt.toNat + 1 then to + zA S x 1237 p.toNat else zA S x 1239 j
def CuN (S T : PS) (x : Nat) : Prop := zA T x 1235 = zA S x 1235 ∧ zA T x 1236 = zA S x 1236 ∧ zA T x 1239 = zA S x 1239 ∧ zA T x 1240 = zA S x 1240 ∧ zA T x 1241 = zA S x 1241 ∧ zA T x 1242 = zA S x 1242
theorem MtR_eq {S T : PS} {x m : Nat} {t : Mt} (h5 : zA T x 1235 = zA S x 1235) (h6 : zA T x 1236 = zA S x 1236) (h : MtR S x m t) : MtR T x m t := ⟨by rw [h5]; exact h.1, fun k z hk => by rw [h6]; exact h.2 k z hk⟩
theorem SkW_n {S T : PS} {x : Nat} {L : List Sk} (h8 : (pI T 1238 x).toInt = (pI S 1238 x).toInt) (hn : CuN S T x) (h : SkW S x L) : SkW T x L := by
  obtain ⟨a5, a6, a9, a0, a1, a2⟩ := hn
  refine ⟨by rw [h8]; exact h.1, fun k s hk => ?_⟩
  obtain ⟨b1, b2, b3⟩ := h.2 k s hk
  exact ⟨by rw [a0, a1, a2]; exact b1, by rw [a9]; exact b2, fun j t hj => by rw [a9]; exact MtR_eq a5 a6 (b3 j t hj)⟩
theorem SkW_o {S T : PS} {x : Nat} {p : Int} {L : List Sk} {g : List Mt} {a b c : Int32} (hG : GX S) (hx : At S x 12) (hp : 0 ≤ p) (ha : a.toInt = p) (hb : b = pI S 1245 x) (hc : c = mA S x 1212 p.toNat) (h8 : (pI T 1238 x).toInt = (pI S 1238 x).toInt + 1) (ho : CuO S T x p) (hg : GrW S x p.toNat g) (h : SkW S x L) : SkW T x (L ++ [(a, b, c, g)]) := by
  obtain ⟨to, k1, k2, k3, k4, k5, k6, k7⟩ := ho
  have hl : (pI S 1238 x).toInt.toNat = L.length := by have := h.1; omega
  rw [hl] at k1 k4 k5 k6 k7
  rw [hg.1] at k2 k3 k7
  rw [← k1] at k2 k3 k7
  exact SkW_cut hG hx hp ha k2 k3 h8 (fun j => by rw [k4 j, ha]) (fun j => by rw [k5 j, hb]) (fun j => by rw [k6 j, hc, zA_eq]) k7 hg h
theorem SkW_m5 {S T : PS} {x : Nat} {L : List Sk} {m v : Int} (hG : GX S) (hx : At S x 12) (h8 : (pI T 1238 x).toInt = (pI S 1238 x).toInt) (h0 : zA T x 1240 = zA S x 1240) (h1 : zA T x 1241 = zA S x 1241) (h2 : zA T x 1242 = zA S x 1242) (h9 : zA T x 1239 = zA S x 1239) (hm : 12000 ≤ m) (f : ∀ j, zA T x 1235 j = if j = m.toNat then v else zA S x 1235 j) (e6 : zA T x 1236 = zA S x 1236) (h : SkW S x L) : SkW T x L := SkW_eq h8 h0 h1 h2 h9 (fun k t hk ht => MtR_to (MtR_w hG hx ht) (by rw [f, if_neg (by omega)]) (fun i _ => by rw [e6]) ht) hG hx h
theorem SkW_m6 {S T : PS} {x : Nat} {L : List Sk} {m v : Int} (hG : GX S) (hx : At S x 12) (h8 : (pI T 1238 x).toInt = (pI S 1238 x).toInt) (h0 : zA T x 1240 = zA S x 1240) (h1 : zA T x 1241 = zA S x 1241) (h2 : zA T x 1242 = zA S x 1242) (h9 : zA T x 1239 = zA S x 1239) (hm : 144000 ≤ m) (f : ∀ j, zA T x 1236 j = if j = m.toNat then v else zA S x 1236 j) (e5 : zA T x 1235 = zA S x 1235) (h : SkW S x L) : SkW T x L := SkW_eq h8 h0 h1 h2 h9 (fun k t hk ht => MtR_to (MtR_w hG hx ht) (by rw [e5]) (fun i hi => by rw [f, if_neg (by omega)]) ht) hG hx h
/-- the cells of a metre that is being laid -/
def MtL (T : PS) (x : Nat) (m k : Int) (L : List Nat) (pl : Nat → Int32) : Prop := ∀ (j c : Nat), (j : Int) < k → L[j]? = some c → zA T x 1236 (12 * m + (j : Int)).toNat = 1000 * (c : Int) + (pl c).toInt ∧ 0 ≤ (pl c).toInt ∧ (pl c).toInt < 1000
theorem MtL_0 {T : PS} {x : Nat} {m : Int} {L : List Nat} {pl : Nat → Int32} : MtL T x m 0 L pl := fun j c hj _ => absurd hj (by omega)
theorem MtL_s {T U : PS} {x c : Nat} {m k v i : Int} {L : List Nat} {pl : Nat → Int32} (hm : 0 ≤ m) (hk : 0 ≤ k) (hc : L[k.toNat]? = some c) (hi : i = 12 * m + k) (hv : v = 1000 * (c : Int) + (pl c).toInt ∧ 0 ≤ (pl c).toInt ∧ (pl c).toInt < 1000) (f : ∀ j, zA U x 1236 j = if j = i.toNat then v else zA T x 1236 j) (h : MtL T x m k L pl) : MtL U x m (k + 1) L pl := fun j d hj hd => by
  rw [f]
  by_cases e : (j : Int) = k
  · rw [show j = k.toNat by omega, hc] at hd
    cases hd
    rw [if_pos (by omega)]
    exact hv
  · rw [if_neg (by omega)]
    exact h j d (by omega) hd
theorem MtL_eq {T U : PS} {x : Nat} {m k : Int} {L : List Nat} {pl : Nat → Int32} (e : zA U x 1236 = zA T x 1236) (h : MtL T x m k L pl) : MtL U x m k L pl := fun j c hj hc => by rw [e]; exact h j c hj hc
def PotW (S : PS) (x : Nat) (p : Int) (A : Pt) : Prop := RowR S x (3 * p + 0).toNat (qb A) ∧ RowR S x (3 * p + 1).toNat (qe A) ∧ RowR S x (3 * p + 2).toNat (ql A) ∧ zA S x 1215 p.toNat = (qst A).toInt ∧ zA S x 1214 p.toNat = (qse A).toInt ∧ GrW S x p.toNat (qg A) ∧ zA S x 1216 p.toNat = (qdr A).toInt ∧ zA S x 1217 p.toNat = (qtk A).toInt ∧ SkW S x (qsk A) ∧ PlR S x A
def RuX (S : PS) (x : Nat) (i : Int) (r : Ru) : Prop := mA S x 1221 i.toNat = r.1 ∧ mA S x 1222 i.toNat = r.2.1 ∧ zA S x 1223 i.toNat = (r.2.2.length : Int) ∧ ∀ (j : Nat) (c : Int32 × Int32 × Int32), r.2.2[j]? = some c → mA S x 1224 (4 * i + (j : Int)).toNat = c.1 ∧ mA S x 1225 (4 * i + (j : Int)).toNat = relC c.2.1 ∧ mA S x 1226 (4 * i + (j : Int)).toNat = c.2.2
def RuR (S : PS) (x : Nat) (p : Int) (R : List Ru) : Prop := zA S x 1220 p.toNat = (R.length : Int) ∧ ∀ (k : Nat) (r : Ru), R[k]? = some r → RuX S x (12 * p + (k : Int)) r
/-- the conditions below n are asked: a says whether all held -/
def HoP (E : En) (A : Pt) (L : List (Int32 × Int32 × Int32)) (a n : Int) : Prop := (a = 1 → ∀ (j : Nat) (c : Int32 × Int32 × Int32), (j : Int) < n → L[j]? = some c → relP c.2.1 (valF E A c.1) c.2.2.toInt) ∧ (a = 0 → ¬ allP E A L)
theorem HoP_0 {E : En} {A : Pt} {L : List (Int32 × Int32 × Int32)} {n : Int} (hn : n = 0) : HoP E A L 1 n := ⟨fun _ j c h => absurd h (by omega), fun h => absurd h (by decide)⟩
theorem HoP_y {E : En} {A : Pt} {L : List (Int32 × Int32 × Int32)} {a n n1 : Int} {j : Nat} {c : Int32 × Int32 × Int32} (h : HoP E A L a n) (ha : a = 1) (hj : L[j]? = some c) (hn : (j : Int) = n) (e : n1 = n + 1) (hr : relP c.2.1 (valF E A c.1) c.2.2.toInt) : HoP E A L 1 n1 := by
  refine ⟨fun _ i d hi hd => ?_, fun z => absurd z (by decide)⟩
  by_cases y : i = j
  · rw [y, hj] at hd
    cases hd
    exact hr
  · exact h.1 ha i d (by omega) hd
theorem HoP_n {E : En} {A : Pt} {L : List (Int32 × Int32 × Int32)} {n1 : Int} {j : Nat} {c : Int32 × Int32 × Int32} (hj : L[j]? = some c) (hr : ¬ relP c.2.1 (valF E A c.1) c.2.2.toInt) : HoP E A L 0 n1 := ⟨fun z => absurd z (by decide), fun _ h => hr (h c (List.mem_of_getElem? hj))⟩
theorem rel_0 {r : Int32} {v n : Int} (h : relC r = 0) : relP r v n ↔ v < n := by
  unfold relC at h
  unfold relP
  by_cases e : r = 60
  · rw [if_pos e]
  · rw [if_neg e] at h
    by_cases e2 : r = 61
    · rw [if_pos e2] at h; exact absurd h (by decide)
    · rw [if_neg e2] at h; exact absurd h (by decide)
theorem rel_1 {r : Int32} {v n : Int} (h : relC r = 1) : relP r v n ↔ v = n := by
  unfold relC at h
  unfold relP
  by_cases e : r = 60
  · rw [if_pos e] at h; exact absurd h (by decide)
  · rw [if_neg e] at h ⊢
    by_cases e2 : r = 61
    · rw [if_pos e2]
    · rw [if_neg e2] at h; exact absurd h (by decide)
theorem rel_2 {r : Int32} {v n : Int} (h0 : relC r ≠ 0) (h1 : relC r ≠ 1) : relP r v n ↔ n < v := by
  unfold relC at h0 h1
  unfold relP
  by_cases e : r = 60
  · rw [if_pos e] at h0; exact absurd rfl h0
  · rw [if_neg e] at h0 h1 ⊢
    by_cases e2 : r = 61
    · rw [if_pos e2] at h1; exact absurd rfl h1
    · rw [if_neg e2]
theorem RowR_eq {S T : PS} {x r : Nat} {L : List Nat} (h : RowR S x r L) (e8 : zA T x 1218 = zA S x 1218) (e9 : zA T x 1219 = zA S x 1219) : RowR T x r L := by
  obtain ⟨h1, h2⟩ := h
  exact ⟨by rw [e9]; exact h1, fun k c hk => by rw [e8]; exact h2 k c hk⟩
theorem PlZ_eq {S T : PS} {x : Nat} {pl sd : Nat → Int32} (h : PlZ S x pl sd) (e8 : zA T x 1208 = zA S x 1208) (e7 : zA T x 1207 = zA S x 1207) : PlZ T x pl sd := fun c hc => by
  rw [e8, e7]
  exact h c hc
theorem PlZ_7 {S T : PS} {x n d : Nat} {v : Int} {w : Int32} {pl sd : Nat → Int32} (h : PlZ S x pl sd) (e8 : zA T x 1208 = zA S x 1208) (e7 : ∀ j, zA T x 1207 j = if j = n then v else zA S x 1207 j) (hn : n = d) (hv : v = w.toInt) : PlZ T x pl (fuI sd d w) := fun c hc => by
  refine ⟨by rw [e8]; exact (h c hc).1, ?_⟩
  rw [e7 c]
  unfold fuI
  by_cases z : c = d
  · rw [if_pos (by omega), if_pos z, hv]
  · rw [if_neg (by omega), if_neg z]
    exact (h c hc).2
theorem PlZ_8 {S T : PS} {x n d : Nat} {v : Int} {w : Int32} {pl sd : Nat → Int32} (h : PlZ S x pl sd) (e7 : zA T x 1207 = zA S x 1207) (e8 : ∀ j, zA T x 1208 j = if j = n then v else zA S x 1208 j) (hn : n = d) (hv : v = w.toInt) : PlZ T x (fuI pl d w) sd := fun c hc => by
  refine ⟨?_, by rw [e7]; exact (h c hc).2⟩
  rw [e8 c]
  unfold fuI
  by_cases z : c = d
  · rw [if_pos (by omega), if_pos z, hv]
  · rw [if_neg (by omega), if_neg z]
    exact (h c hc).1
theorem RowR_goes0 {S T : PS} {x r : Nat} {L : List Nat} (h : RowR S x r L) (ho : GoO S T x r 0) (hi : 0 < L.length) : RowR T x r L.tail := by
  have h2 := RowR_goes h ho hi
  rw [show L.eraseIdx 0 = L.tail by cases L <;> rfl] at h2
  exact h2
theorem hd_cons {L : List Nat} {d : Nat} (h : L[0]? = some d) : L = d :: L.tail := by
  cases L with
  | nil => cases h
  | cons a t => cases h; rfl
theorem capL_y {n c : Nat} {L : List Nat} (h : L.length < n) : capL n L c = L ++ [c] := if_pos h
theorem capF_y {n c : Nat} {L : List Nat} (h : L.length < n) : capF n L c = c :: L := if_pos h
theorem PotW_of {S : PS} {x : Nat} {p : Int} {F B : Pt} (e : F = B) (h0 : RowR S x (3 * p + 0).toNat (qb B)) (h1 : RowR S x (3 * p + 1).toNat (qe B)) (h2 : RowR S x (3 * p + 2).toNat (ql B)) (h3 : zA S x 1215 p.toNat = (qst B).toInt) (h4 : zA S x 1214 p.toNat = (qse B).toInt) (h5 : GrW S x p.toNat (qg B)) (h6 : zA S x 1216 p.toNat = (qdr B).toInt) (h7 : zA S x 1217 p.toNat = (qtk B).toInt) (h8 : SkW S x (qsk B)) (h9 : PlZ S x (qpl B) (qsd B)) : PotW S x p F := by
  rw [e]
  exact ⟨h0, h1, h2, h3, h4, h5, h6, h7, h8, h9⟩
theorem PotW_cut {S T : PS} {x : Nat} {p r : Int} {A : Pt} {E : En} (hG : GX S) (hx : At S x 12) (hp0 : 0 ≤ p) (hE : EnR S x p E) (hg : GrW S x p.toNat (qg A)) (hk : SkW S x (qsk A)) (c1 : zA S x 1237 p.toNat = 0 → r = -1 ∧ (pI T 1238 x).toInt = (pI S 1238 x).toInt ∧ CuN S T x) (c2 : zA S x 1237 p.toNat ≠ 0 → (pI S 1238 x).toInt < 40 → r = (pI S 1238 x).toInt ∧ (pI T 1238 x).toInt = (pI S 1238 x).toInt + 1 ∧ CuO S T x p) (c3 : zA S x 1237 p.toNat ≠ 0 → ¬ (pI S 1238 x).toInt < 40 → r = -2 ∧ (pI T 1238 x).toInt = (pI S 1238 x).toInt ∧ CuN S T x) (hz : zA T x 1237 p.toNat = 0) (h0 : RowR T x (3 * p + 0).toNat (qb A)) (h1 : RowR T x (3 * p + 1).toNat (qe A)) (h2 : RowR T x (3 * p + 2).toNat (ql A)) (h3 : zA T x 1215 p.toNat = (qst A).toInt) (h4 : zA T x 1214 p.toNat = (qse A).toInt) (h6 : zA T x 1216 p.toNat = (qdr A).toInt) (h7 : zA T x 1217 p.toNat = (qtk A).toInt) (h9 : PlZ T x (qpl A) (qsd A)) : PotW T x p (cutF E A) ∧ r = cutR A := by
  have hgl := hg.1
  have hkl := hk.1
  have hn : GrW T x p.toNat [] := ⟨hz, fun k t hk => by cases hk⟩
  by_cases e : qg A = []
  · have e0 : zA S x 1237 p.toNat = 0 := by rw [hgl, e]; rfl
    obtain ⟨r1, r2, r3⟩ := c1 e0
    rw [cutF_n e, cutR_n e]
    exact ⟨⟨h0, h1, h2, h3, h4, by rw [e]; exact hn, h6, h7, SkW_n r2 r3 hk, h9⟩, r1⟩
  · have e0 : zA S x 1237 p.toNat ≠ 0 := fun z => e (List.eq_nil_of_length_eq_zero (by omega))
    by_cases k : (qsk A).length < 40
    · obtain ⟨r1, r2, r3⟩ := c2 e0 (by omega)
      rw [cutF_k e k, cutR_k e k]
      exact ⟨⟨h0, h1, h2, h3, h4, hn, h6, h7, SkW_o hG hx hp0 hE.2.2.1 hE.2.1 hE.2.2.2.1 r2 r3 hg hk, h9⟩, by omega⟩
    · obtain ⟨r1, r2, r3⟩ := c3 e0 (by omega)
      rw [cutF_w e k, cutR_w e k]
      exact ⟨⟨h0, h1, h2, h3, h4, hn, h6, h7, SkW_n r2 r3 hk, h9⟩, r1⟩
def enL : List Nat := [1203, 1204, 1205, 1206, 1210, 1212, 1213, 1245, 10274, 10294, 10314, 10334, 10414, 10454, 10474]
theorem EnR_fr {M : List Nat} {S T : PS} {x : Nat} {p : Int} {E : En} (hG : GX S) (hx : At S x 12) (hF : Fr M S T) (hM : enL.all (fun g => !M.contains g) = true) (h : EnR S x p E) : EnR T x p E := by
  obtain ⟨h1, h2, h3, h4, h5⟩ := h
  have e3 : mA T x 1203 = mA S x 1203 := mA_fr hF hx (ex3 (gQ_12_1203 hG hx)) (allc hM (by decide)) (allc hM (by decide))
  have e6 : mA T x 1206 = mA S x 1206 := mA_fr hF hx (ex3 (gQ_12_1206 hG hx)) (allc hM (by decide)) (allc hM (by decide))
  have el : lenZ T x = lenZ S x := lenZ_fr hF hx (ex3 (gQ_12_1203 hG hx)) (ex3 (gQ_12_1205 hG hx)) (allc hM (by decide)) (allc hM (by decide)) (allc hM (by decide)) (allc hM (by decide))
  have ef : fnZ T x = fnZ S x := fnZ_fr hG hx hF (by
    rw [List.all_eq_true]
    intro y hy
    exact List.all_eq_true.mp hM y (by revert hy; simp only [enL, List.mem_cons, List.not_mem_nil, or_false]; omega))
  refine ⟨fun c hc => ?_, by rw [hF.I' (g := 1245) (allc hM (by decide)) hx rfl]; exact h2, h3, by rw [mA_fr (g := 1212) hF hx (ex3 (gQ_12_1212 hG hx)) (allc hM (by decide)) (allc hM (by decide))]; exact h4, by rw [mA_fr (g := 1213) hF hx (ex3 (gQ_12_1213 hG hx)) (allc hM (by decide)) (allc hM (by decide))]; exact h5⟩
  rw [e3, e6, el, ef]
  exact h1 c hc
def ruL : List Nat := [1220, 1221, 1222, 1223, 1224, 1225, 1226, 10614, 10634, 10654, 10674, 10694, 10714, 10734]
theorem RuX_fr {M : List Nat} {S T : PS} {x : Nat} {i : Int} {r : Ru} (hG : GX S) (hx : At S x 12) (hF : Fr M S T) (hM : ruL.all (fun g => !M.contains g) = true) (h : RuX S x i r) : RuX T x i r := by
  unfold RuX
  rw [mA_fr (g := 1221) hF hx (ex3 (gQ_12_1221 hG hx)) (allc hM (by decide)) (allc hM (by decide)), mA_fr (g := 1222) hF hx (ex3 (gQ_12_1222 hG hx)) (allc hM (by decide)) (allc hM (by decide)), zA_fr (g := 1223) hF hx (ex3 (gQ_12_1223 hG hx)) (allc hM (by decide)) (allc hM (by decide)), mA_fr (g := 1224) hF hx (ex3 (gQ_12_1224 hG hx)) (allc hM (by decide)) (allc hM (by decide)), mA_fr (g := 1225) hF hx (ex3 (gQ_12_1225 hG hx)) (allc hM (by decide)) (allc hM (by decide)), mA_fr (g := 1226) hF hx (ex3 (gQ_12_1226 hG hx)) (allc hM (by decide)) (allc hM (by decide))]
  exact h
theorem RuR_fr {M : List Nat} {S T : PS} {x : Nat} {p : Int} {R : List Ru} (hG : GX S) (hx : At S x 12) (hF : Fr M S T) (hM : ruL.all (fun g => !M.contains g) = true) (h : RuR S x p R) : RuR T x p R := by
  refine ⟨by rw [zA_fr (g := 1220) hF hx (ex3 (gQ_12_1220 hG hx)) (allc hM (by decide)) (allc hM (by decide))]; exact h.1, fun k r hk => RuX_fr hG hx hF hM (h.2 k r hk)⟩
/-! ===== what a pot's tick leaves of the other pots ===== -/
def pwG : List Nat := [1214, 1215, 1216, 1217, 1237]
def PwX (S T : PS) (x : Nat) (p : Int) : Prop := (∀ (r : Nat) (L : List Nat), (r : Int) < 3 * p ∨ 3 * p + 2 < (r : Int) → RowR S x r L → RowR T x r L) ∧ (∀ g, g ∈ pwG → ∀ j, j ≠ p.toNat → zA T x g j = zA S x g j) ∧ ∀ (q : Nat) (u : List Mt), q ≠ p.toNat → GrW S x q u → GrW T x q u
theorem PwX_rf (S : PS) (x : Nat) (p : Int) : PwX S S x p := ⟨fun _ _ _ h => h, fun _ _ _ _ => rfl, fun _ _ _ h => h⟩
theorem PwX_tr {S T U : PS} {x : Nat} {p : Int} (h : PwX S T x p) (h' : PwX T U x p) : PwX S U x p := ⟨fun r L hr hL => h'.1 r L hr (h.1 r L hr hL), fun g hg j hj => (h'.2.1 g hg j hj).trans (h.2.1 g hg j hj), fun q u hq hu => h'.2.2 q u hq (h.2.2 q u hq hu)⟩
theorem pw5 {S T : PS} {x : Nat} (h1 : zA T x 1214 = zA S x 1214) (h2 : zA T x 1215 = zA S x 1215) (h3 : zA T x 1216 = zA S x 1216) (h4 : zA T x 1217 = zA S x 1217) (h5 : zA T x 1237 = zA S x 1237) : ∀ g, g ∈ pwG → zA T x g = zA S x g := fun g hg => by
  simp only [pwG, List.mem_cons, List.not_mem_nil, or_false] at hg
  rcases hg with e | e | e | e | e <;> subst e <;> assumption
theorem PwX_to {S T U : PS} {x : Nat} {p : Int} (h : PwX S T x p) (e8 : zA U x 1218 = zA T x 1218) (e9 : zA U x 1219 = zA T x 1219) (e5 : zA U x 1235 = zA T x 1235) (e6 : zA U x 1236 = zA T x 1236) (e : ∀ g, g ∈ pwG → zA U x g = zA T x g) : PwX S U x p := PwX_tr h ⟨fun r L _ hL => RowR_eq hL e8 e9, fun g hg j _ => by rw [e g hg], fun q u _ hu => GrW_eq e5 e6 (congrFun (e 1237 (by decide)) q) hu⟩
theorem PwX_cm {S T U : PS} {x r w : Nat} {p c : Int} (h : PwX S T x p) (hG : GX T) (hx : At T x 12) (hr : 3 * p ≤ (r : Int) ∧ (r : Int) ≤ 3 * p + 2) (ho : CmO T U x r w c) (e5 : zA U x 1235 = zA T x 1235) (e6 : zA U x 1236 = zA T x 1236) (e : ∀ g, g ∈ pwG → zA U x g = zA T x g) : PwX S U x p := PwX_tr h ⟨fun q L hq hL => RowR_cmx hG hx (by omega) hL ho, fun g hg j _ => by rw [e g hg], fun q u _ hu => GrW_eq e5 e6 (congrFun (e 1237 (by decide)) q) hu⟩
theorem PwX_go {S T U : PS} {x r i : Nat} {p : Int} (h : PwX S T x p) (hG : GX T) (hx : At T x 12) (hr : 3 * p ≤ (r : Int) ∧ (r : Int) ≤ 3 * p + 2) (ho : GoO T U x r i) (e5 : zA U x 1235 = zA T x 1235) (e6 : zA U x 1236 = zA T x 1236) (e : ∀ g, g ∈ pwG → zA U x g = zA T x g) : PwX S U x p := PwX_tr h ⟨fun q L hq hL => RowR_gox hG hx (by omega) hL ho, fun g hg j _ => by rw [e g hg], fun q u _ hu => GrW_eq e5 e6 (congrFun (e 1237 (by decide)) q) hu⟩
theorem PwX_z {S T U : PS} {x n k : Nat} {p v : Int} (h : PwX S T x p) (e8 : zA U x 1218 = zA T x 1218) (e9 : zA U x 1219 = zA T x 1219) (e5 : zA U x 1235 = zA T x 1235) (e6 : zA U x 1236 = zA T x 1236) (f : ∀ j, zA U x k j = if j = n then v else zA T x k j) (hn : n = p.toNat) (e : ∀ g, g ∈ pwG → g ≠ k → zA U x g = zA T x g) : PwX S U x p := by
  have key : ∀ g, g ∈ pwG → ∀ j, j ≠ p.toNat → zA U x g j = zA T x g j := fun g hg j hj => by
    by_cases z : g = k
    · subst z
      rw [f j, if_neg (by omega)]
    · rw [e g hg z]
  exact PwX_tr h ⟨fun r L _ hL => RowR_eq hL e8 e9, key, fun q u hq hu => GrW_eq e5 e6 (key 1237 (by decide) q hq) hu⟩
theorem z1237 {S : PS} {x : Nat} (hG : GX S) (hx : At S x 12) (j : Nat) : 0 ≤ zA S x 1237 j ∧ zA S x 1237 j ≤ 300 := by
  obtain ⟨q, k1, k2, -⟩ := gQ_12_1237 hG hx
  rw [zA_eq, mA_eq k1]
  exact gE_954 hG k2 j
theorem GrW_m5 {T U : PS} {x q : Nat} {u : List Mt} {m v : Int} (hG : GX T) (hx : At T x 12) (hm : ∀ k : Nat, k < u.length → (12000 + 300 * (q : Int) + (k : Int)) ≠ m) (h0 : 0 ≤ m) (f : ∀ j, zA U x 1235 j = if j = m.toNat then v else zA T x 1235 j) (e6 : zA U x 1236 = zA T x 1236) (e7 : zA U x 1237 q = zA T x 1237 q) (h : GrW T x q u) : GrW U x q u := ⟨by rw [e7]; exact h.1, fun k t hk => by
  have hl := (List.getElem?_eq_some_iff.mp hk).1
  have := hm k hl
  refine MtR_to (MtR_w hG hx (h.2 k t hk)) ?_ (fun i _ => by rw [e6]) (h.2 k t hk)
  rw [f, if_neg (by omega)]⟩
theorem GrW_m6 {T U : PS} {x q : Nat} {u : List Mt} {i v : Int} (hG : GX T) (hx : At T x 12) (hm : ∀ k : Nat, k < u.length → i < 12 * (12000 + 300 * (q : Int) + (k : Int)) ∨ 12 * (12000 + 300 * (q : Int) + (k : Int)) + 12 ≤ i) (h0 : 0 ≤ i) (f : ∀ j, zA U x 1236 j = if j = i.toNat then v else zA T x 1236 j) (e5 : zA U x 1235 = zA T x 1235) (e7 : zA U x 1237 q = zA T x 1237 q) (h : GrW T x q u) : GrW U x q u := ⟨by rw [e7]; exact h.1, fun k t hk => by
  have hl := (List.getElem?_eq_some_iff.mp hk).1
  have := hm k hl
  refine MtR_to (MtR_w hG hx (h.2 k t hk)) (by rw [e5]) (fun j hj => ?_) (h.2 k t hk)
  rw [f, if_neg (by omega)]⟩
theorem PwX_m5 {S T U : PS} {x : Nat} {p m v : Int} (h : PwX S T x p) (hG : GX T) (hx : At T x 12) (hp : 0 ≤ p) (hm : 12000 + 300 * p ≤ m ∧ m < 12000 + 300 * p + 300) (e8 : zA U x 1218 = zA T x 1218) (e9 : zA U x 1219 = zA T x 1219) (f : ∀ j, zA U x 1235 j = if j = m.toNat then v else zA T x 1235 j) (e6 : zA U x 1236 = zA T x 1236) (e : ∀ g, g ∈ pwG → zA U x g = zA T x g) : PwX S U x p := PwX_tr h ⟨fun r L _ hL => RowR_eq hL e8 e9, fun g hg j _ => by rw [e g hg], fun q u hq hu => by
  have z := z1237 hG hx q
  have hl := hu.1
  exact GrW_m5 hG hx (fun k hk => by omega) (by omega) f e6 (congrFun (e 1237 (by decide)) q) hu⟩
theorem PwX_m6 {S T U : PS} {x : Nat} {p i v : Int} (h : PwX S T x p) (hG : GX T) (hx : At T x 12) (hp : 0 ≤ p) (hm : 12 * (12000 + 300 * p) ≤ i ∧ i < 12 * (12000 + 300 * p + 300)) (e8 : zA U x 1218 = zA T x 1218) (e9 : zA U x 1219 = zA T x 1219) (f : ∀ j, zA U x 1236 j = if j = i.toNat then v else zA T x 1236 j) (e5 : zA U x 1235 = zA T x 1235) (e : ∀ g, g ∈ pwG → zA U x g = zA T x g) : PwX S U x p := PwX_tr h ⟨fun r L _ hL => RowR_eq hL e8 e9, fun g hg j _ => by rw [e g hg], fun q u hq hu => by
  have z := z1237 hG hx q
  have hl := hu.1
  exact GrW_m6 hG hx (fun k hk => by omega) (by omega) f e5 (congrFun (e 1237 (by decide)) q) hu⟩
theorem PwX_cu {S T U : PS} {x : Nat} {p r : Int} (h : PwX S T x p) (hG : GX T) (hx : At T x 12) (e8 : zA U x 1218 = zA T x 1218) (e9 : zA U x 1219 = zA T x 1219) (f : ∀ j, zA U x 1237 j = if j = p.toNat then 0 else zA T x 1237 j) (e : ∀ g, g ∈ pwG → g ≠ 1237 → zA U x g = zA T x g) (c1 : zA T x 1237 p.toNat = 0 → r = -1 ∧ (pI U 1238 x).toInt = (pI T 1238 x).toInt ∧ CuN T U x) (c2 : zA T x 1237 p.toNat ≠ 0 → (pI T 1238 x).toInt < 40 → r = (pI T 1238 x).toInt ∧ (pI U 1238 x).toInt = (pI T 1238 x).toInt + 1 ∧ CuO T U x p) (c3 : zA T x 1237 p.toNat ≠ 0 → ¬ (pI T 1238 x).toInt < 40 → r = -2 ∧ (pI U 1238 x).toInt = (pI T 1238 x).toInt ∧ CuN T U x) : PwX S U x p := PwX_tr h ⟨fun r L _ hL => RowR_eq hL e8 e9, fun g hg j hj => by
  by_cases z : g = 1237
  · subst z
    rw [f j, if_neg hj]
  · rw [e g hg z], fun q u hq hu => by
  have e7 : zA U x 1237 q = zA T x 1237 q := by rw [f q, if_neg hq]
  by_cases a : zA T x 1237 p.toNat = 0
  · obtain ⟨-, -, n5, n6, -⟩ := c1 a
    exact GrW_eq n5 n6 e7 hu
  · by_cases b : (pI T 1238 x).toInt < 40
    · obtain ⟨-, -, to, -, k2, k3, -⟩ := c2 a b
      exact GrW_cut hG hx k2 k3 e7 hu
    · obtain ⟨-, -, n5, n6, -⟩ := c3 a b
      exact GrW_eq n5 n6 e7 hu⟩
theorem GrW_snoc {T U : PS} {x p : Nat} {g : List Mt} {t : Mt} (h5 : zA T x 1235 (12000 + 300 * p + g.length) = (t.length : Int)) (h6 : ∀ (k : Nat) (z : Nat × Int32), t[k]? = some z → zA T x 1236 (12 * (12000 + 300 * p + g.length) + k) = 1000 * (z.1 : Int) + z.2.toInt ∧ 0 ≤ z.2.toInt ∧ z.2.toInt < 1000) (e5 : zA U x 1235 = zA T x 1235) (e6 : zA U x 1236 = zA T x 1236) (h7 : zA U x 1237 p = zA T x 1237 p + 1) (h : GrW T x p g) : GrW U x p (g ++ [t]) := by
  have g1 := h.1
  refine ⟨by rw [h7, g1, List.length_append]; rfl, fun k u hk => ?_⟩
  by_cases e : k = g.length
  · have hu : u = t := by
      rw [e, List.getElem?_append_right (Nat.le_refl _), Nat.sub_self] at hk
      exact (Option.some.inj hk).symm
    rw [hu, e]
    exact ⟨by rw [e5]; exact h5, fun j z hj => by rw [e6]; exact h6 j z hj⟩
  · have hl := (List.getElem?_eq_some_iff.mp hk).1
    rw [List.length_append] at hl
    have hl2 : k < g.length + 1 := hl
    rw [List.getElem?_append_left (by omega)] at hk
    exact MtR_eq e5 e6 (h.2 k u hk)
theorem GrW_draw {T U : PS} {x : Nat} {p m : Int} {g : List Mt} {L : List Nat} {pl : Nat → Int32} (hp : 0 ≤ p) (hm : m = 12000 + 300 * p + (g.length : Int)) (h5 : zA T x 1235 m.toNat = (L.length : Int)) (h6 : MtL T x m (L.length : Int) L pl) (hl : g.length < 300) (e5 : zA U x 1235 = zA T x 1235) (e6 : zA U x 1236 = zA T x 1236) (h7 : zA U x 1237 p.toNat = zA T x 1237 p.toNat + 1) (h : GrW T x p.toNat g) : GrW U x p.toNat (capG g (L.map (fun c => (c, pl c)))) := by
  rw [show capG g (L.map (fun c => (c, pl c))) = g ++ [L.map (fun c => (c, pl c))] from if_pos hl]
  refine GrW_snoc ?_ (fun k z hk => ?_) e5 e6 h7 h
  · rw [List.length_map, ← h5]
    congr 1
    omega
  · rw [List.getElem?_map] at hk
    cases hc : L[k]? with
    | none => rw [hc] at hk; cases hk
    | some c =>
      rw [hc] at hk
      cases hk
      have hl2 := (List.getElem?_eq_some_iff.mp hc).1
      have hh := h6 k c (by omega) hc
      rw [show (12 * m + (k : Int)).toNat = 12 * (12000 + 300 * p.toNat + g.length) + k by omega] at hh
      exact hh
theorem pw4 {S T : PS} {x k : Nat} (h1 : 1214 ≠ k → zA T x 1214 = zA S x 1214) (h2 : 1215 ≠ k → zA T x 1215 = zA S x 1215) (h3 : 1216 ≠ k → zA T x 1216 = zA S x 1216) (h4 : 1217 ≠ k → zA T x 1217 = zA S x 1217) (h5 : 1237 ≠ k → zA T x 1237 = zA S x 1237) : ∀ g, g ∈ pwG → g ≠ k → zA T x g = zA S x g := fun g hg hk => by
  simp only [pwG, List.mem_cons, List.not_mem_nil, or_false] at hg
  rcases hg with e | e | e | e | e <;> subst e
  · exact h1 hk
  · exact h2 hk
  · exact h3 hk
  · exact h4 hk
  · exact h5 hk

set_option maxHeartbeats 4000000 in
set_option maxRecDepth 100000 in
theorem k_X12_comes5 (l : Launch) (G : va_G) (cy : Nat → ClassId) (κ : Nat → Nat) (S : PS) (sz : Nat) (x : Nat) (a1 : Int32) (a1_z : Int) (a2 : Int32) (a2_z : Int) (a3 : Int32) (a3_z : Int) (a4 : Int32) (a4_z : Int) (hG : GX S) (ha_x : At S x 12) (hz_a1 : a1.toInt = a1_z) (hz_a2 : a2.toInt = a2_z) (hz_a3 : a3.toInt = a3_z) (hz_a4 : a4.toInt = a4_z) (hp_0 : 0 ≤ a1_z) (hp_1 : a1_z ≤ 3) (hp_2 : 0 ≤ a2_z) (hp_3 : a2_z ≤ 2) (hp_4 : 0 ≤ a3_z) (hp_5 : a3_z ≤ 599) (hp_6 : a3_z < 60 * (pI S 1201 x).toInt) (hp_7 : 0 ≤ a4_z) (hp_8 : a4_z ≤ zA S x 1219 (3 * a1_z + a2_z).toNat) (hp_9 : (a2_z = 1 → zA S x 1219 (3 * a1_z + a2_z).toNat ≤ 11)) (hp_10 : MI S x) (hp_11 : Fre S x a3_z) (hp_12 : zA S x 1208 a3_z.toNat < lenZ S x a3_z) : Cv l yX12_comes wsX12_comes ({ frames := 1, cells := 0, slots := 0, locals := 48 }) G cy κ S sz [.ref x, .int (a1), .int (a2), .int (a3), .int (a4)] (fun (S9 : PS) => Ok MCO S S9 ∧ (MI S9 x ∧ (∀ j, zA S9 x 1219 j = if j = (3 * a1_z + a2_z).toNat then zA S x 1219 (3 * a1_z + a2_z).toNat + 1 else zA S x 1219 j) ∧ (∀ j, zA S9 x 1207 j = if j = (a3_z).toNat then (a2_z + 1) else zA S x 1207 j) ∧ CmO S S9 x (3 * a1_z + a2_z).toNat a4_z.toNat a3_z)) := by
  refine ent_m (cc := cX12_comes) (maxL := 7) (ret := none) (by decide) rfl (Nat.le_of_ble_eq_true rfl) ?_
  intro p e s m below meth c ls X hr hlocks hin hw hl hsz
  subst hsz
  have X : Cx p c cX12_comes 7 s [.ref x, .int (a1), .int (a2), .int (a3), .int (a4)].toArray wsX12_comes RX12 m G cy κ (AS S s.heap.size) := X
  have hl : lv_has ls 7 [(0, .ref x), (1, .int (a1)), (2, .int (a2)), (3, .int (a3)), (4, .int (a4))] := hl
  have rg_a1 : (-2147483648) ≤ a1_z ∧ a1_z ≤ 2147483647 := by rw [← hz_a1]; exact ⟨z_lo _, z_hi _⟩
  have rg_a2 : (-2147483648) ≤ a2_z ∧ a2_z ≤ 2147483647 := by rw [← hz_a2]; exact ⟨z_lo _, z_hi _⟩
  have rg_a3 : (-2147483648) ≤ a3_z ∧ a3_z ≤ 2147483647 := by rw [← hz_a3]; exact ⟨z_lo _, z_hi _⟩
  have rg_a4 : (-2147483648) ≤ a4_z ∧ a4_z ≤ 2147483647 := by rw [← hz_a4]; exact ⟨z_lo _, z_hi _⟩
  have hO : Ok MCO S S := Ok.rf hG
  generalize hQQ : MQ below _ _ _ _ _ _ = QQ
  replace hQQ := hQQ.symm
  have hlots := gI_12_1201 hG ha_x
  have hrm := room_MI (r := (3 * a1_z + a2_z).toNat) hp_10 (by omega) (by omega) (by omega) (by omega) hp_11
  refine lv_iconst (v := 3) X.1 X.2.1 dX12_comes_0 (by decide) ?_
  refine lv_iload_n X.1 X.2.1 dX12_comes_1 rfl (lv_at hl 1 rfl) ?_
  refine lv_imul X.1 X.2.1 dX12_comes_2 ?_
  refine lv_topi (fun v_1 ev_1 => ?_)
  have z_2 : v_1.toInt = 3 * a1_z := z_mul ev_1 ti_3 hz_a1 (by omega) (by omega)
  refine lv_iload_n X.1 X.2.1 dX12_comes_3 rfl (lv_at hl 2 rfl) ?_
  refine lv_iadd X.1 X.2.1 dX12_comes_4 ?_
  refine lv_topi (fun v_3 ev_3 => ?_)
  have z_4 : v_3.toInt = (3 * a1_z) + a2_z := z_add ev_3 z_2 hz_a2 (by omega) (by omega)
  refine lv_istore (lv' := [(5, .int (v_3)), (0, .ref x), (1, .int (a1)), (2, .int (a2)), (3, .int (a3)), (4, .int (a4))]) X.1 X.2.1 dX12_comes_5 hl (by decide) rfl (fun ls hl => ?_)
  refine lv_aload_n X.1 X.2.1 dX12_comes_7 rfl (lv_at hl 1 rfl) ?_
  obtain ⟨q_5, h_6, h_7, h_8⟩ := gQ_12_1219 hO.1 ha_x
  refine r_getR (g := 1219) X hw ha_x rfl 19 h_6 (by decide) rfl inn_X12_comes_12 (by decide) (X.2.2.2.1 (.fieldLink RX12 58 "SilkMillModel" "rowMany" "[I") (by decide +kernel)) rfl (gv_1219 _ _) dX12_comes_8 ?_
  refine lv_iload X.1 X.2.1 dX12_comes_11 (lv_at hl 0 rfl) ?_
  refine r_iald X hw h_7 rfl (by rw [h_8]; exact z_ix z_4 (by omega) (by omega)) dX12_comes_13 ?_
  refine lv_topi (fun v_9 ev_9 => ?_)
  have z_10 := gE_594 hO.1 h_7 (Int32.toNatClampNeg (v_3)); rw [← ev_9] at z_10
  have ev_9 := ev_9.symm
  have zf_11 : zA S x 1219 (((3 * a1_z) + a2_z)).toNat = v_9.toInt := (zA_of h_6 z_4 (by omega) ev_9)
  refine lv_istore (lv' := [(6, .int (v_9)), (5, .int (v_3)), (0, .ref x), (1, .int (a1)), (2, .int (a2)), (3, .int (a3)), (4, .int (a4))]) X.1 X.2.1 dX12_comes_14 hl (by decide) rfl (fun ls hl => ?_)
  have L_12 : ∀ (n : Nat) (T_14 : PS) (H : Heap) (locs : List Loc) (ls : Array Slot) (i6_13 : Int32) (i6_13_z : Int), ((i6_13_z).toNat = n) → (Wd G cy (AS S s.heap.size) s.heap T_14 H locs) → (i6_13.toInt = i6_13_z) → (0 ≤ i6_13_z ∧ i6_13_z ≤ 600) → (At T_14 x 12) → (Ok MCO S T_14) → (zA T_14 x 1207 = zA S x 1207) → (zA T_14 x 1209 = zA S x 1209) → (zA T_14 x 1219 = zA S x 1219) → (a4_z ≤ i6_13_z) → (i6_13_z ≤ zA S x 1219 (3 * a1_z + a2_z).toNat) → (∀ j : Nat, zA T_14 x 1218 j = if 600 * (3 * a1_z + a2_z) + i6_13_z < (j : Int) ∧ (j : Int) ≤ 600 * (3 * a1_z + a2_z) + zA S x 1219 (3 * a1_z + a2_z).toNat then zA S x 1218 (j - 1) else zA S x 1218 j) → (lv_has ls 7 [(6, .int (i6_13)), (5, .int (v_3)), (0, .ref x), (1, .int (a1)), (2, .int (a2)), (3, .int (a3)), (4, .int (a4))]) → W p l e ({ frames := 1, cells := 0, slots := 0, locals := 48 }) s m [.ref x, .int (a1), .int (a2), .int (a3), .int (a4)].toArray below meth c H locs 0 0 QQ (F0 m 16 ls []) := by
    intro n
    induction n using Nat.strongRecOn with
    | ind n ih_L_12 =>
    intro T_14 H locs ls i6_13 i6_13_z hn hw hz_i6_13 hr_i6_13 ha_x_L_15 hO_T_14 zk_16 zk_17 zk_18 iv_19 iv_20 iv_21 hl
    have rg_22 : (-2147483648) ≤ i6_13_z ∧ i6_13_z ≤ 2147483647 := by rw [← hz_i6_13]; exact ⟨z_lo _, z_hi _⟩
    refine lv_iload X.1 X.2.1 dX12_comes_16 (lv_at hl 0 rfl) ?_
    refine lv_iload X.1 X.2.1 dX12_comes_18 (lv_at hl 6 rfl) ?_
    refine lv_icmp_le (tgt := 59) X.1 X.2.1 dX12_comes_20 (by decide) (fun c_23 => ?_) (fun c_23 => ?_)
    · have z_b_24 := trivial
      have k_25 : i6_13_z ≤ a4_z := z_le hz_i6_13 hz_a4 c_23
      refine lv_aload_n X.1 X.2.1 dX12_comes_59 rfl (lv_at hl 2 rfl) ?_
      obtain ⟨q_26, h_27, h_28, h_29⟩ := gQ_12_1218 hO_T_14.1 ha_x_L_15
      refine r_getR (g := 1218) X hw ha_x_L_15 rfl 18 h_27 (by decide) rfl inn_X12_comes_12 (by decide) (X.2.2.2.1 (.fieldLink RX12 55 "SilkMillModel" "rowOf" "[I") (by decide +kernel)) rfl (gv_1218 _ _) dX12_comes_60 ?_
      refine lv_sipush (v := 600) X.1 X.2.1 dX12_comes_63 (by decide) ?_
      refine lv_iload X.1 X.2.1 dX12_comes_66 (lv_at hl 1 rfl) ?_
      refine lv_imul X.1 X.2.1 dX12_comes_68 ?_
      refine lv_topi (fun v_30 ev_30 => ?_)
      have z_31 : v_30.toInt = 600 * ((3 * a1_z) + a2_z) := z_mul ev_30 ti_600 z_4 (by omega) (by omega)
      refine lv_iload X.1 X.2.1 dX12_comes_69 (lv_at hl 6 rfl) ?_
      refine lv_iadd X.1 X.2.1 dX12_comes_71 ?_
      refine lv_topi (fun v_32 ev_32 => ?_)
      have z_33 : v_32.toInt = (600 * ((3 * a1_z) + a2_z)) + a4_z := z_add ev_32 z_31 hz_a4 (by omega) (by omega)
      refine lv_iload_n X.1 X.2.1 dX12_comes_72 rfl (lv_at hl 5 rfl) ?_
      refine r_iast X hw h_28 rfl (by rw [h_29]; exact z_ix z_33 (by omega) (by omega)) dX12_comes_73 (fun H locs hw => ?_)
      obtain ⟨S_34, eS_34⟩ : ∃ T, T = sA T_14 q_26 (upd (pA T_14 q_26) (Int32.toNatClampNeg (v_32)) (a3)) := ⟨_, rfl⟩
      rw [← eS_34] at hw
      have hO_35 : Ok MCO S S_34 := hO_T_14.sA eS_34 h_28 (by decide +kernel) (uA_574 hO_T_14.1 h_28 (by omega) (by omega))
      have h_36 : pA S_34 q_26 (Int32.toNatClampNeg (v_32)) = a3 := tA_sAs eS_34
      have t_37 : pR S_34 1218 x = some q_26 := tR_sA eS_34 h_27
      have t_39 : pR T_14 1218 x = some q_26 := by have h := t_37; rw [eS_34, pR_sA] at h; exact h
      have zs_38 : ∀ j, zA S_34 x 1218 j = if j = (((600 * ((3 * a1_z) + a2_z)) + a4_z)).toNat then a3_z else zA T_14 x 1218 j := by have h := zA_sAs eS_34 t_39 hz_a3; rw [z_nc z_33 (by omega)] at h; exact h
      refine lv_aload_n X.1 X.2.1 dX12_comes_74 rfl (lv_at hl 2 rfl) ?_
      have t_40 : At S_34 x 12 := tAt_sA eS_34 ha_x_L_15
      obtain ⟨q_41, h_42, h_43, h_44⟩ := gQ_12_1219 hO_35.1 t_40
      refine r_getR (g := 1219) X hw t_40 rfl 19 h_42 (by decide) rfl inn_X12_comes_12 (by decide) (X.2.2.2.1 (.fieldLink RX12 58 "SilkMillModel" "rowMany" "[I") (by decide +kernel)) rfl (gv_1219 _ _) dX12_comes_75 ?_
      refine lv_iload X.1 X.2.1 dX12_comes_78 (lv_at hl 1 rfl) ?_
      refine lv_dup2_11 X.1 X.2.1 dX12_comes_80 rfl rfl ?_
      refine r_iald X hw h_43 rfl (by rw [h_44]; exact z_ix z_4 (by omega) (by omega)) dX12_comes_81 ?_
      refine lv_topi (fun v_45 ev_45 => ?_)
      have z_46 := gE_594 hO_35.1 h_43 (Int32.toNatClampNeg (v_3)); rw [← ev_45] at z_46
      have ev_45 := ev_45.symm
      have zf_47 : zA S_34 x 1219 (((3 * a1_z) + a2_z)).toNat = v_45.toInt := (zA_of h_42 z_4 (by omega) ev_45)
      have zc_48 : zA S_34 x 1219 = zA S x 1219 := (zA_sAn eS_34 (ex3 (gQ_12_1219 hO_T_14.1 ha_x_L_15)) h_28 rfl).trans zk_18
      have zz_49 := congrFun zc_48 ((3 * a1_z + a2_z).toNat)
      refine lv_iconst (v := 1) X.1 X.2.1 dX12_comes_82 (by decide) ?_
      refine lv_iadd X.1 X.2.1 dX12_comes_83 ?_
      refine lv_topi (fun v_50 ev_50 => ?_)
      have z_51 : v_50.toInt = v_45.toInt + 1 := z_add ev_50 rfl ti_1 (by omega) (by omega)
      refine r_iast X hw h_43 rfl (by rw [h_44]; exact z_ix z_4 (by omega) (by omega)) dX12_comes_84 (fun H locs hw => ?_)
      obtain ⟨S_52, eS_52⟩ : ∃ T, T = sA S_34 q_41 (upd (pA S_34 q_41) (Int32.toNatClampNeg (v_3)) (v_50)) := ⟨_, rfl⟩
      rw [← eS_52] at hw
      have hO_53 : Ok MCO S S_52 := hO_35.sA eS_52 h_43 (by decide +kernel) (uA_594 hO_35.1 h_43 (by omega) (by omega))
      have h_54 : pA S_52 q_41 (Int32.toNatClampNeg (v_3)) = v_50 := tA_sAs eS_52
      have t_55 : pR S_52 1219 x = some q_41 := tR_sA eS_52 h_42
      have t_57 : pR S_34 1219 x = some q_41 := by have h := t_55; rw [eS_52, pR_sA] at h; exact h
      have zs_56 : ∀ j, zA S_52 x 1219 j = if j = (((3 * a1_z) + a2_z)).toNat then (v_45.toInt + 1) else zA S_34 x 1219 j := by have h := zA_sAs eS_52 t_57 z_51; rw [z_nc z_4 (by omega)] at h; exact h
      have zs_58 : ∀ j, zA S_52 x 1219 j = if j = (((3 * a1_z) + a2_z)).toNat then (v_45.toInt + 1) else zA S x 1219 j := fun j => by rw [zs_56 j, zc_48]
      refine lv_aload_n X.1 X.2.1 dX12_comes_85 rfl (lv_at hl 2 rfl) ?_
      have t_59 : At S_52 x 12 := tAt_sA eS_52 t_40
      obtain ⟨q_60, h_61, h_62, h_63⟩ := gQ_12_1207 hO_53.1 t_59
      refine r_getR (g := 1207) X hw t_59 rfl 7 h_61 (by decide) rfl inn_X12_comes_12 (by decide) (X.2.2.2.1 (.fieldLink RX12 25 "SilkMillModel" "stand" "[I") (by decide +kernel)) rfl (gv_1207 _ _) dX12_comes_86 ?_
      refine lv_iload_n X.1 X.2.1 dX12_comes_89 rfl (lv_at hl 5 rfl) ?_
      refine lv_iload_n X.1 X.2.1 dX12_comes_90 rfl (lv_at hl 4 rfl) ?_
      refine lv_iconst (v := 1) X.1 X.2.1 dX12_comes_91 (by decide) ?_
      refine lv_iadd X.1 X.2.1 dX12_comes_92 ?_
      refine lv_topi (fun v_64 ev_64 => ?_)
      have z_65 : v_64.toInt = a2_z + 1 := z_add ev_64 hz_a2 ti_1 (by omega) (by omega)
      refine r_iast X hw h_62 rfl (by rw [h_63]; exact z_ix hz_a3 (by omega) (by omega)) dX12_comes_93 (fun H locs hw => ?_)
      obtain ⟨S_66, eS_66⟩ : ∃ T, T = sA S_52 q_60 (upd (pA S_52 q_60) (Int32.toNatClampNeg (a3)) (v_64)) := ⟨_, rfl⟩
      rw [← eS_66] at hw
      have hO_67 : Ok MCO S S_66 := hO_53.sA eS_66 h_62 (by decide +kernel) (uA_354 hO_53.1 h_62)
      have h_68 : pA S_66 q_60 (Int32.toNatClampNeg (a3)) = v_64 := tA_sAs eS_66
      have zc_69 : zA S_34 x 1207 = zA S x 1207 := (zA_sAn eS_34 (ex3 (gQ_12_1207 hO_T_14.1 ha_x_L_15)) h_28 rfl).trans zk_16
      have zc_70 : zA S_52 x 1207 = zA S x 1207 := (zA_sAn eS_52 (ex3 (gQ_12_1207 hO_35.1 t_40)) h_43 rfl).trans zc_69
      have t_71 : pR S_66 1207 x = some q_60 := tR_sA eS_66 h_61
      have t_73 : pR S_52 1207 x = some q_60 := by have h := t_71; rw [eS_66, pR_sA] at h; exact h
      have zs_72 : ∀ j, zA S_66 x 1207 j = if j = (a3_z).toNat then (a2_z + 1) else zA S_52 x 1207 j := by have h := zA_sAs eS_66 t_73 z_65; rw [z_nc hz_a3 (by omega)] at h; exact h
      have zs_74 : ∀ j, zA S_66 x 1207 j = if j = (a3_z).toNat then (a2_z + 1) else zA S x 1207 j := fun j => by rw [zs_72 j, zc_70]
      refine lv_aload_n X.1 X.2.1 dX12_comes_94 rfl (lv_at hl 2 rfl) ?_
      have t_75 : At S_66 x 12 := tAt_sA eS_66 t_59
      obtain ⟨q_76, h_77, h_78, h_79⟩ := gQ_12_1209 hO_67.1 t_75
      refine r_getR (g := 1209) X hw t_75 rfl 9 h_77 (by decide) rfl inn_X12_comes_12 (by decide) (X.2.2.2.1 (.fieldLink RX12 31 "SilkMillModel" "potOf" "[I") (by decide +kernel)) rfl (gv_1209 _ _) dX12_comes_95 ?_
      refine lv_iload_n X.1 X.2.1 dX12_comes_98 rfl (lv_at hl 5 rfl) ?_
      refine lv_iload_n X.1 X.2.1 dX12_comes_99 rfl (lv_at hl 3 rfl) ?_
      refine r_iast X hw h_78 rfl (by rw [h_79]; exact z_ix hz_a3 (by omega) (by omega)) dX12_comes_100 (fun H locs hw => ?_)
      obtain ⟨S_80, eS_80⟩ : ∃ T, T = sA S_66 q_76 (upd (pA S_66 q_76) (Int32.toNatClampNeg (a3)) (a1)) := ⟨_, rfl⟩
      rw [← eS_80] at hw
      have hO_81 : Ok MCO S S_80 := hO_67.sA eS_80 h_78 (by decide +kernel) (uA_394 hO_67.1 h_78)
      have h_82 : pA S_80 q_76 (Int32.toNatClampNeg (a3)) = a1 := tA_sAs eS_80
      have zc_83 : zA S_34 x 1209 = zA S x 1209 := (zA_sAn eS_34 (ex3 (gQ_12_1209 hO_T_14.1 ha_x_L_15)) h_28 rfl).trans zk_17
      have zc_84 : zA S_52 x 1209 = zA S x 1209 := (zA_sAn eS_52 (ex3 (gQ_12_1209 hO_35.1 t_40)) h_43 rfl).trans zc_83
      have zc_85 : zA S_66 x 1209 = zA S x 1209 := (zA_sAn eS_66 (ex3 (gQ_12_1209 hO_53.1 t_59)) h_62 rfl).trans zc_84
      have t_86 : pR S_80 1209 x = some q_76 := tR_sA eS_80 h_77
      have t_88 : pR S_66 1209 x = some q_76 := by have h := t_86; rw [eS_80, pR_sA] at h; exact h
      have zs_87 : ∀ j, zA S_80 x 1209 j = if j = (a3_z).toNat then a1_z else zA S_66 x 1209 j := by have h := zA_sAs eS_80 t_88 hz_a1; rw [z_nc hz_a3 (by omega)] at h; exact h
      have zs_89 : ∀ j, zA S_80 x 1209 j = if j = (a3_z).toNat then a1_z else zA S x 1209 j := fun j => by rw [zs_87 j, zc_85]
      have zc_90 : zA S_52 x 1218 = zA S_34 x 1218 := zA_sAn eS_52 (ex3 (gQ_12_1218 hO_35.1 t_40)) h_43 rfl
      have zc_91 : zA S_66 x 1218 = zA S_34 x 1218 := (zA_sAn eS_66 (ex3 (gQ_12_1218 hO_53.1 t_59)) h_62 rfl).trans zc_90
      have zc_92 : zA S_80 x 1218 = zA S_34 x 1218 := (zA_sAn eS_80 (ex3 (gQ_12_1218 hO_67.1 t_75)) h_78 rfl).trans zc_91
      have zs_93 : ∀ j, zA S_80 x 1218 j = if j = (((600 * ((3 * a1_z) + a2_z)) + a4_z)).toNat then a3_z else zA T_14 x 1218 j := fun j => by rw [zc_92]; exact zs_38 j
      have zc_94 : zA S_66 x 1219 = zA S_52 x 1219 := zA_sAn eS_66 (ex3 (gQ_12_1219 hO_53.1 t_59)) h_62 rfl
      have zc_95 : zA S_80 x 1219 = zA S_52 x 1219 := (zA_sAn eS_80 (ex3 (gQ_12_1219 hO_67.1 t_75)) h_78 rfl).trans zc_94
      have zs_96 : ∀ j, zA S_80 x 1219 j = if j = (((3 * a1_z) + a2_z)).toNat then (v_45.toInt + 1) else zA S x 1219 j := fun j => by rw [zc_95]; exact zs_58 j
      have zc_97 : zA S_34 x 1207 = zA S x 1207 := (zA_sAn eS_34 (ex3 (gQ_12_1207 hO_T_14.1 ha_x_L_15)) h_28 rfl).trans zk_16
      have zc_98 : zA S_52 x 1207 = zA S x 1207 := (zA_sAn eS_52 (ex3 (gQ_12_1207 hO_35.1 t_40)) h_43 rfl).trans zc_97
      have zc_99 : zA S_80 x 1207 = zA S_66 x 1207 := zA_sAn eS_80 (ex3 (gQ_12_1207 hO_67.1 t_75)) h_78 rfl
      have zs_100 : ∀ j, zA S_80 x 1207 j = if j = (a3_z).toNat then (a2_z + 1) else zA S x 1207 j := fun j => by rw [zc_99]; exact zs_74 j
      have zc_101 : zA S_34 x 1209 = zA S x 1209 := (zA_sAn eS_34 (ex3 (gQ_12_1209 hO_T_14.1 ha_x_L_15)) h_28 rfl).trans zk_17
      have zc_102 : zA S_52 x 1209 = zA S x 1209 := (zA_sAn eS_52 (ex3 (gQ_12_1209 hO_35.1 t_40)) h_43 rfl).trans zc_101
      have zc_103 : zA S_66 x 1209 = zA S x 1209 := (zA_sAn eS_66 (ex3 (gQ_12_1209 hO_53.1 t_59)) h_62 rfl).trans zc_102
      have hk16 : i6_13_z = a4_z := by omega
      have hiv := iv_21; rw [hk16] at hiv
      have ho18 := comes_row (R := (3 * a1_z + a2_z)) (w := a4_z) (by omega) (by omega) hiv zs_93
      have hm19 : ∀ j, zA S_80 x 1219 j = if j = (3 * a1_z + a2_z).toNat then zA S x 1219 (3 * a1_z + a2_z).toNat + 1 else zA S x 1219 j := fun j => by rw [zs_96 j]; split <;> omega
      have hs07 : ∀ j, zA S_80 x 1207 j = if j = a3_z.toNat then (((3 * a1_z + a2_z).toNat % 3 + 1 : Nat) : Int) else zA S x 1207 j := fun j => by rw [zs_100 j]; split <;> omega
      have hs09 : ∀ j, zA S_80 x 1209 j = if j = a3_z.toNat then (((3 * a1_z + a2_z).toNat / 3 : Nat) : Int) else zA S x 1209 j := fun j => by rw [zs_89 j]; split <;> omega
      rw [hQQ]
      exact ret_v X hw hr hlocks (Nat.le_of_ble_eq_true rfl) (Nat.le_of_ble_eq_true rfl) ⟨hO_81, ⟨comes_MI (r := (3 * a1_z + a2_z).toNat) (w := a4_z.toNat) hG ha_x hO_81.fr hp_10 (by omega) (by omega) (by omega) (by omega) hp_11 hp_12 (by omega) (by omega) hm19 ho18 hs07 hs09, hm19, zs_100, ⟨hm19, ho18, by omega, by omega, by omega⟩⟩⟩ dX12_comes_101
    · have z_b_104 := trivial
      have k_105 : i6_13_z > a4_z := z_nle hz_i6_13 hz_a4 c_23
      refine lv_aload_n X.1 X.2.1 dX12_comes_23 rfl (lv_at hl 2 rfl) ?_
      obtain ⟨q_106, h_107, h_108, h_109⟩ := gQ_12_1218 hO_T_14.1 ha_x_L_15
      refine r_getR (g := 1218) X hw ha_x_L_15 rfl 18 h_107 (by decide) rfl inn_X12_comes_12 (by decide) (X.2.2.2.1 (.fieldLink RX12 55 "SilkMillModel" "rowOf" "[I") (by decide +kernel)) rfl (gv_1218 _ _) dX12_comes_24 ?_
      refine lv_sipush (v := 600) X.1 X.2.1 dX12_comes_27 (by decide) ?_
      refine lv_iload X.1 X.2.1 dX12_comes_30 (lv_at hl 1 rfl) ?_
      refine lv_imul X.1 X.2.1 dX12_comes_32 ?_
      refine lv_topi (fun v_110 ev_110 => ?_)
      have z_111 : v_110.toInt = 600 * ((3 * a1_z) + a2_z) := z_mul ev_110 ti_600 z_4 (by omega) (by omega)
      refine lv_iload X.1 X.2.1 dX12_comes_33 (lv_at hl 0 rfl) ?_
      refine lv_iadd X.1 X.2.1 dX12_comes_35 ?_
      refine lv_topi (fun v_112 ev_112 => ?_)
      have z_113 : v_112.toInt = (600 * ((3 * a1_z) + a2_z)) + i6_13_z := z_add ev_112 z_111 hz_i6_13 (by omega) (by omega)
      refine lv_aload_n X.1 X.2.1 dX12_comes_36 rfl (lv_at hl 2 rfl) ?_
      refine r_getR (g := 1218) X hw ha_x_L_15 rfl 18 h_107 (by decide) rfl inn_X12_comes_12 (by decide) (X.2.2.2.1 (.fieldLink RX12 55 "SilkMillModel" "rowOf" "[I") (by decide +kernel)) rfl (gv_1218 _ _) dX12_comes_37 ?_
      refine lv_sipush (v := 600) X.1 X.2.1 dX12_comes_40 (by decide) ?_
      refine lv_iload X.1 X.2.1 dX12_comes_43 (lv_at hl 1 rfl) ?_
      refine lv_imul X.1 X.2.1 dX12_comes_45 ?_
      refine lv_topi (fun v_114 ev_114 => ?_)
      have z_115 : v_114.toInt = 600 * ((3 * a1_z) + a2_z) := z_mul ev_114 ti_600 z_4 (by omega) (by omega)
      refine lv_iload X.1 X.2.1 dX12_comes_46 (lv_at hl 0 rfl) ?_
      refine lv_iadd X.1 X.2.1 dX12_comes_48 ?_
      refine lv_topi (fun v_116 ev_116 => ?_)
      have z_117 : v_116.toInt = (600 * ((3 * a1_z) + a2_z)) + i6_13_z := z_add ev_116 z_115 hz_i6_13 (by omega) (by omega)
      refine lv_iconst (v := 1) X.1 X.2.1 dX12_comes_49 (by decide) ?_
      refine lv_isub X.1 X.2.1 dX12_comes_50 ?_
      refine lv_topi (fun v_118 ev_118 => ?_)
      have z_119 : v_118.toInt = ((600 * ((3 * a1_z) + a2_z)) + i6_13_z) - 1 := z_sub ev_118 z_117 ti_1 (by omega) (by omega)
      refine r_iald X hw h_108 rfl (by rw [h_109]; exact z_ix z_119 (by omega) (by omega)) dX12_comes_51 ?_
      refine lv_topi (fun v_120 ev_120 => ?_)
      have z_121 := gE_574 hO_T_14.1 h_108 (Int32.toNatClampNeg (v_118)); rw [← ev_120] at z_121
      have ev_120 := ev_120.symm
      have zf_122 : zA T_14 x 1218 ((((600 * ((3 * a1_z) + a2_z)) + i6_13_z) - 1)).toNat = v_120.toInt := (zA_of h_107 z_119 (by omega) ev_120)
      refine r_iast X hw h_108 rfl (by rw [h_109]; exact z_ix z_113 (by omega) (by omega)) dX12_comes_52 (fun H locs hw => ?_)
      obtain ⟨S_123, eS_123⟩ : ∃ T, T = sA T_14 q_106 (upd (pA T_14 q_106) (Int32.toNatClampNeg (v_112)) (v_120)) := ⟨_, rfl⟩
      rw [← eS_123] at hw
      have hO_124 : Ok MCO S S_123 := hO_T_14.sA eS_123 h_108 (by decide +kernel) (uA_574 hO_T_14.1 h_108 (by omega) (by omega))
      have h_125 : pA S_123 q_106 (Int32.toNatClampNeg (v_112)) = v_120 := tA_sAs eS_123
      have t_126 : pR S_123 1218 x = some q_106 := tR_sA eS_123 h_107
      have t_128 : pR T_14 1218 x = some q_106 := by have h := t_126; rw [eS_123, pR_sA] at h; exact h
      have zs_127 : ∀ j, zA S_123 x 1218 j = if j = (((600 * ((3 * a1_z) + a2_z)) + i6_13_z)).toNat then v_120.toInt else zA T_14 x 1218 j := by have h := zA_sAs eS_123 t_128 rfl; rw [z_nc z_113 (by omega)] at h; exact h
      obtain ⟨x_129, ex_129⟩ : ∃ y : Int32, y = i6_13 + (-1) := ⟨_, rfl⟩
      have z_130 : x_129.toInt = i6_13_z + (-1) := z_add ex_129 hz_i6_13 ti_m1 (by omega) (by omega)
      refine lv_iinc (v := x_129) (lv' := [(6, .int (x_129)), (5, .int (v_3)), (0, .ref x), (1, .int (a1)), (2, .int (a2)), (3, .int (a3)), (4, .int (a4))]) X.1 X.2.1 dX12_comes_53 hl (k := 0) rfl (by rw [ex_129]; rfl) (by decide) rfl (fun ls hl => ?_)
      refine lv_goto (tgt := 16) X.1 X.2.1 dX12_comes_56 (by decide) ?_
      have t_131 : At S_123 x 12 := tAt_sA eS_123 ha_x_L_15
      have zc_132 : zA S_123 x 1207 = zA S x 1207 := (zA_sAn eS_123 (ex3 (gQ_12_1207 hO_T_14.1 ha_x_L_15)) h_108 rfl).trans zk_16
      have zc_133 : zA S_123 x 1209 = zA S x 1209 := (zA_sAn eS_123 (ex3 (gQ_12_1209 hO_T_14.1 ha_x_L_15)) h_108 rfl).trans zk_17
      have zc_134 : zA S_123 x 1219 = zA S x 1219 := (zA_sAn eS_123 (ex3 (gQ_12_1219 hO_T_14.1 ha_x_L_15)) h_108 rfl).trans zk_18
      exact ih_L_12 _ (by omega) _ _ _ _ (x_129) (x_129.toInt) rfl hw rfl (by omega) t_131 hO_124 zc_132 zc_133 zc_134 (by omega) (by omega) (by have h := shift_up (R := (3 * a1_z + a2_z)) (k := i6_13_z) (by omega) (by omega) (by omega) iv_21 zf_122 zs_127; rw [show i6_13_z - 1 = x_129.toInt by omega] at h; exact h) (lv_sub hl [0, 1, 2, 3, 4, 5, 6] rfl)
  exact L_12 _ _ _ _ _ (v_9) (v_9.toInt) rfl hw rfl (by omega) ha_x hO (Eq.refl _) (Eq.refl _) (Eq.refl _) (by omega) (by omega) (fun j => by rw [if_neg (by omega)]) (lv_sub hl [0, 1, 2, 3, 4, 5, 6] rfl)
set_option maxHeartbeats 4000000 in
set_option maxRecDepth 100000 in
theorem k_X12_goes5 (l : Launch) (G : va_G) (cy : Nat → ClassId) (κ : Nat → Nat) (S : PS) (sz : Nat) (x : Nat) (a1 : Int32) (a1_z : Int) (a2 : Int32) (a2_z : Int) (a3 : Int32) (a3_z : Int) (e0 : Int) (hG : GX S) (ha_x : At S x 12) (hz_a1 : a1.toInt = a1_z) (hz_a2 : a2.toInt = a2_z) (hz_a3 : a3.toInt = a3_z) (hp_0 : 0 ≤ a1_z) (hp_1 : a1_z ≤ 3) (hp_2 : 0 ≤ a2_z) (hp_3 : a2_z ≤ 2) (hp_4 : 0 ≤ a3_z) (hp_5 : a3_z < zA S x 1219 (3 * a1_z + a2_z).toNat) (hp_6 : MIe S x e0) : Ci l yX12_goes wsX12_goes ({ frames := 1, cells := 0, slots := 0, locals := 48 }) G cy κ S sz [.ref x, .int (a1), .int (a2), .int (a3)] (fun (r : Int32) (S9 : PS) => Ok MGO S S9 ∧ (0 ≤ r.toInt ∧ r.toInt ≤ 599 ∧ r.toInt < 60 * (pI S 1201 x).toInt ∧ r.toInt = zA S x 1218 (600 * (3 * a1_z + a2_z) + a3_z).toNat ∧ zA S x 1207 r.toInt.toNat = a2_z + 1 ∧ MIe S9 x e0 ∧ Fre S9 x r.toInt ∧ (∀ j, zA S9 x 1219 j = if j = (3 * a1_z + a2_z).toNat then zA S x 1219 (3 * a1_z + a2_z).toNat - 1 else zA S x 1219 j) ∧ GoO S S9 x (3 * a1_z + a2_z).toNat a3_z.toNat)) := by
  refine ent_m (cc := cX12_goes) (maxL := 7) (ret := (some .int)) (by decide) rfl (Nat.le_of_ble_eq_true rfl) ?_
  intro p e s m below meth c ls X hr hlocks hin hw hl hsz
  subst hsz
  have X : Cx p c cX12_goes 7 s [.ref x, .int (a1), .int (a2), .int (a3)].toArray wsX12_goes RX12 m G cy κ (AS S s.heap.size) := X
  have hl : lv_has ls 7 [(0, .ref x), (1, .int (a1)), (2, .int (a2)), (3, .int (a3))] := hl
  have rg_a1 : (-2147483648) ≤ a1_z ∧ a1_z ≤ 2147483647 := by rw [← hz_a1]; exact ⟨z_lo _, z_hi _⟩
  have rg_a2 : (-2147483648) ≤ a2_z ∧ a2_z ≤ 2147483647 := by rw [← hz_a2]; exact ⟨z_lo _, z_hi _⟩
  have rg_a3 : (-2147483648) ≤ a3_z ∧ a3_z ≤ 2147483647 := by rw [← hz_a3]; exact ⟨z_lo _, z_hi _⟩
  have hO : Ok MGO S S := Ok.rf hG
  generalize hQQ : MQ below _ _ _ _ _ _ = QQ
  replace hQQ := hQQ.symm
  have hlots := gI_12_1201 hG ha_x
  have hm4 := hp_6.2.2.2.1.2 (3 * a1_z + a2_z).toNat (by omega)
  have hm2 := MI_2 hp_6 (r := (3 * a1_z + a2_z)) (k := a3_z) (by omega) (by omega) (by omega) (by omega)
  refine lv_iconst (v := 3) X.1 X.2.1 dX12_goes_0 (by decide) ?_
  refine lv_iload_n X.1 X.2.1 dX12_goes_1 rfl (lv_at hl 1 rfl) ?_
  refine lv_imul X.1 X.2.1 dX12_goes_2 ?_
  refine lv_topi (fun v_1 ev_1 => ?_)
  have z_2 : v_1.toInt = 3 * a1_z := z_mul ev_1 ti_3 hz_a1 (by omega) (by omega)
  refine lv_iload_n X.1 X.2.1 dX12_goes_3 rfl (lv_at hl 2 rfl) ?_
  refine lv_iadd X.1 X.2.1 dX12_goes_4 ?_
  refine lv_topi (fun v_3 ev_3 => ?_)
  have z_4 : v_3.toInt = (3 * a1_z) + a2_z := z_add ev_3 z_2 hz_a2 (by omega) (by omega)
  refine lv_istore (lv' := [(4, .int (v_3)), (0, .ref x), (1, .int (a1)), (2, .int (a2)), (3, .int (a3))]) X.1 X.2.1 dX12_goes_5 hl (by decide) rfl (fun ls hl => ?_)
  refine lv_aload_n X.1 X.2.1 dX12_goes_7 rfl (lv_at hl 1 rfl) ?_
  obtain ⟨q_5, h_6, h_7, h_8⟩ := gQ_12_1218 hO.1 ha_x
  refine r_getR (g := 1218) X hw ha_x rfl 18 h_6 (by decide) rfl inn_X12_goes_12 (by decide) (X.2.2.2.1 (.fieldLink RX12 55 "SilkMillModel" "rowOf" "[I") (by decide +kernel)) rfl (gv_1218 _ _) dX12_goes_8 ?_
  refine lv_sipush (v := 600) X.1 X.2.1 dX12_goes_11 (by decide) ?_
  refine lv_iload X.1 X.2.1 dX12_goes_14 (lv_at hl 0 rfl) ?_
  refine lv_imul X.1 X.2.1 dX12_goes_16 ?_
  refine lv_topi (fun v_9 ev_9 => ?_)
  have z_10 : v_9.toInt = 600 * ((3 * a1_z) + a2_z) := z_mul ev_9 ti_600 z_4 (by omega) (by omega)
  refine lv_iload_n X.1 X.2.1 dX12_goes_17 rfl (lv_at hl 4 rfl) ?_
  refine lv_iadd X.1 X.2.1 dX12_goes_18 ?_
  refine lv_topi (fun v_11 ev_11 => ?_)
  have z_12 : v_11.toInt = (600 * ((3 * a1_z) + a2_z)) + a3_z := z_add ev_11 z_10 hz_a3 (by omega) (by omega)
  refine r_iald X hw h_7 rfl (by rw [h_8]; exact z_ix z_12 (by omega) (by omega)) dX12_goes_19 ?_
  refine lv_topi (fun v_13 ev_13 => ?_)
  have z_14 := gE_574 hO.1 h_7 (Int32.toNatClampNeg (v_11)); rw [← ev_13] at z_14
  have ev_13 := ev_13.symm
  have zf_15 : zA S x 1218 (((600 * ((3 * a1_z) + a2_z)) + a3_z)).toNat = v_13.toInt := (zA_of h_6 z_12 (by omega) ev_13)
  refine lv_istore (lv' := [(5, .int (v_13)), (4, .int (v_3)), (0, .ref x), (1, .int (a1)), (2, .int (a2)), (3, .int (a3))]) X.1 X.2.1 dX12_goes_20 hl (by decide) rfl (fun ls hl => ?_)
  refine lv_aload_n X.1 X.2.1 dX12_goes_22 rfl (lv_at hl 2 rfl) ?_
  obtain ⟨q_16, h_17, h_18, h_19⟩ := gQ_12_1219 hO.1 ha_x
  refine r_getR (g := 1219) X hw ha_x rfl 19 h_17 (by decide) rfl inn_X12_goes_12 (by decide) (X.2.2.2.1 (.fieldLink RX12 58 "SilkMillModel" "rowMany" "[I") (by decide +kernel)) rfl (gv_1219 _ _) dX12_goes_23 ?_
  refine lv_iload X.1 X.2.1 dX12_goes_26 (lv_at hl 1 rfl) ?_
  refine lv_dup2_11 X.1 X.2.1 dX12_goes_28 rfl rfl ?_
  refine r_iald X hw h_18 rfl (by rw [h_19]; exact z_ix z_4 (by omega) (by omega)) dX12_goes_29 ?_
  refine lv_topi (fun v_20 ev_20 => ?_)
  have z_21 := gE_594 hO.1 h_18 (Int32.toNatClampNeg (v_3)); rw [← ev_20] at z_21
  have ev_20 := ev_20.symm
  have zf_22 : zA S x 1219 (((3 * a1_z) + a2_z)).toNat = v_20.toInt := (zA_of h_17 z_4 (by omega) ev_20)
  refine lv_iconst (v := 1) X.1 X.2.1 dX12_goes_30 (by decide) ?_
  refine lv_isub X.1 X.2.1 dX12_goes_31 ?_
  refine lv_topi (fun v_23 ev_23 => ?_)
  have z_24 : v_23.toInt = v_20.toInt - 1 := z_sub ev_23 rfl ti_1 (by omega) (by omega)
  refine r_iast X hw h_18 rfl (by rw [h_19]; exact z_ix z_4 (by omega) (by omega)) dX12_goes_32 (fun H locs hw => ?_)
  obtain ⟨S_25, eS_25⟩ : ∃ T, T = sA S q_16 (upd (pA S q_16) (Int32.toNatClampNeg (v_3)) (v_23)) := ⟨_, rfl⟩
  rw [← eS_25] at hw
  have hO_26 : Ok MGO S S_25 := hO.sA eS_25 h_18 (by decide +kernel) (uA_594 hO.1 h_18 (by omega) (by omega))
  have h_27 : pA S_25 q_16 (Int32.toNatClampNeg (v_3)) = v_23 := tA_sAs eS_25
  have t_28 : pR S_25 1219 x = some q_16 := tR_sA eS_25 h_17
  have t_30 : pR S 1219 x = some q_16 := by have h := t_28; rw [eS_25, pR_sA] at h; exact h
  have zs_29 : ∀ j, zA S_25 x 1219 j = if j = (((3 * a1_z) + a2_z)).toNat then (v_20.toInt - 1) else zA S x 1219 j := by have h := zA_sAs eS_25 t_30 z_24; rw [z_nc z_4 (by omega)] at h; exact h
  have zs_31 : zA S_25 x 1219 (3 * a1_z + a2_z).toNat = (v_20.toInt - 1) := by have h := zs_29 (3 * a1_z + a2_z).toNat; rw [if_pos rfl] at h; exact h
  refine lv_iload_n X.1 X.2.1 dX12_goes_33 rfl (lv_at hl 5 rfl) ?_
  refine lv_istore (lv' := [(6, .int (a3)), (5, .int (v_13)), (4, .int (v_3)), (0, .ref x), (1, .int (a1)), (2, .int (a2)), (3, .int (a3))]) X.1 X.2.1 dX12_goes_34 hl (by decide) rfl (fun ls hl => ?_)
  have L_32 : ∀ (n : Nat) (T_34 : PS) (H : Heap) (locs : List Loc) (ls : Array Slot) (i6_33 : Int32) (i6_33_z : Int), ((600 - i6_33_z).toNat = n) → (Wd G cy (AS S s.heap.size) s.heap T_34 H locs) → (i6_33.toInt = i6_33_z) → (0 ≤ i6_33_z ∧ i6_33_z ≤ 600) → (At T_34 x 12) → (Ok MGO S T_34) → (zA T_34 x 1219 = zA S_25 x 1219) → (a3_z ≤ i6_33_z ∧ i6_33_z ≤ zA S x 1219 (3 * a1_z + a2_z).toNat - 1) → (∀ j : Nat, zA T_34 x 1218 j = if 600 * (3 * a1_z + a2_z) + a3_z ≤ (j : Int) ∧ (j : Int) < 600 * (3 * a1_z + a2_z) + i6_33_z then zA S x 1218 (j + 1) else zA S x 1218 j) → (lv_has ls 7 [(6, .int (i6_33)), (5, .int (v_13)), (4, .int (v_3)), (0, .ref x), (1, .int (a1)), (2, .int (a2)), (3, .int (a3))]) → W p l e ({ frames := 1, cells := 0, slots := 0, locals := 48 }) s m [.ref x, .int (a1), .int (a2), .int (a3)].toArray below meth c H locs 0 0 QQ (F0 m 36 ls []) := by
    intro n
    induction n using Nat.strongRecOn with
    | ind n ih_L_32 =>
    intro T_34 H locs ls i6_33 i6_33_z hn hw hz_i6_33 hr_i6_33 ha_x_L_35 hO_T_34 zk_36 iv_37 iv_38 hl
    have rg_39 : (-2147483648) ≤ i6_33_z ∧ i6_33_z ≤ 2147483647 := by rw [← hz_i6_33]; exact ⟨z_lo _, z_hi _⟩
    refine lv_iload X.1 X.2.1 dX12_goes_36 (lv_at hl 0 rfl) ?_
    refine lv_aload_n X.1 X.2.1 dX12_goes_38 rfl (lv_at hl 3 rfl) ?_
    obtain ⟨q_40, h_41, h_42, h_43⟩ := gQ_12_1219 hO_T_34.1 ha_x_L_35
    refine r_getR (g := 1219) X hw ha_x_L_35 rfl 19 h_41 (by decide) rfl inn_X12_goes_12 (by decide) (X.2.2.2.1 (.fieldLink RX12 58 "SilkMillModel" "rowMany" "[I") (by decide +kernel)) rfl (gv_1219 _ _) dX12_goes_39 ?_
    refine lv_iload X.1 X.2.1 dX12_goes_42 (lv_at hl 2 rfl) ?_
    refine r_iald X hw h_42 rfl (by rw [h_43]; exact z_ix z_4 (by omega) (by omega)) dX12_goes_44 ?_
    refine lv_topi (fun v_44 ev_44 => ?_)
    have z_45 := gE_594 hO_T_34.1 h_42 (Int32.toNatClampNeg (v_3)); rw [← ev_44] at z_45
    have ev_44 := ev_44.symm
    have zf_46 : zA T_34 x 1219 (((3 * a1_z) + a2_z)).toNat = v_44.toInt := (zA_of h_41 z_4 (by omega) ev_44)
    have zz_47 := congrFun zk_36 ((3 * a1_z + a2_z).toNat)
    refine lv_icmp_ge (tgt := 84) X.1 X.2.1 dX12_goes_45 (by decide) (fun c_48 => ?_) (fun c_48 => ?_)
    · have z_b_49 := trivial
      have k_50 : i6_33_z ≥ v_44.toInt := z_le rfl hz_i6_33 c_48
      refine lv_iload X.1 X.2.1 dX12_goes_84 (lv_at hl 1 rfl) ?_
      have zs_51 : ∀ j, zA T_34 x 1219 j = if j = (((3 * a1_z) + a2_z)).toNat then (v_20.toInt - 1) else zA S x 1219 j := fun j => by rw [zk_36]; exact zs_29 j
      have hm19 : ∀ j, zA T_34 x 1219 j = if j = (3 * a1_z + a2_z).toNat then zA S x 1219 (3 * a1_z + a2_z).toNat - 1 else zA S x 1219 j := fun j => by rw [zs_51 j]; split <;> omega
      have ho18 := goes_row (R := (3 * a1_z + a2_z)) (i := a3_z) (k := i6_33_z) (m := zA S x 1219 (3 * a1_z + a2_z).toNat) (by omega) (by omega) (by omega) iv_38
      have hgm := goes_MI (r := (3 * a1_z + a2_z).toNat) (i := a3_z.toNat) hG ha_x hO_T_34.fr hp_6 (by omega) (by omega) hm19 ho18
      have hix : 600 * (3 * a1_z + a2_z).toNat + a3_z.toNat = (600 * (3 * a1_z + a2_z) + a3_z).toNat := by omega
      rw [hix, zf_15] at hgm
      have hm2' := hm2; rw [zf_15] at hm2'
      rw [hQQ]
      exact ret_i X hw hr hlocks (Nat.le_of_ble_eq_true rfl) (Nat.le_of_ble_eq_true rfl) ⟨hO_T_34, ⟨by omega, by omega, by omega, by omega, by omega, hgm.1, hgm.2, hm19, ⟨hm19, ho18, by omega, by omega⟩⟩⟩ dX12_goes_86
    · have z_b_52 := trivial
      have k_53 : i6_33_z < v_44.toInt := z_nle rfl hz_i6_33 c_48
      refine lv_aload_n X.1 X.2.1 dX12_goes_48 rfl (lv_at hl 3 rfl) ?_
      obtain ⟨q_54, h_55, h_56, h_57⟩ := gQ_12_1218 hO_T_34.1 ha_x_L_35
      refine r_getR (g := 1218) X hw ha_x_L_35 rfl 18 h_55 (by decide) rfl inn_X12_goes_12 (by decide) (X.2.2.2.1 (.fieldLink RX12 55 "SilkMillModel" "rowOf" "[I") (by decide +kernel)) rfl (gv_1218 _ _) dX12_goes_49 ?_
      refine lv_sipush (v := 600) X.1 X.2.1 dX12_goes_52 (by decide) ?_
      refine lv_iload X.1 X.2.1 dX12_goes_55 (lv_at hl 2 rfl) ?_
      refine lv_imul X.1 X.2.1 dX12_goes_57 ?_
      refine lv_topi (fun v_58 ev_58 => ?_)
      have z_59 : v_58.toInt = 600 * ((3 * a1_z) + a2_z) := z_mul ev_58 ti_600 z_4 (by omega) (by omega)
      refine lv_iload X.1 X.2.1 dX12_goes_58 (lv_at hl 0 rfl) ?_
      refine lv_iadd X.1 X.2.1 dX12_goes_60 ?_
      refine lv_topi (fun v_60 ev_60 => ?_)
      have z_61 : v_60.toInt = (600 * ((3 * a1_z) + a2_z)) + i6_33_z := z_add ev_60 z_59 hz_i6_33 (by omega) (by omega)
      refine lv_aload_n X.1 X.2.1 dX12_goes_61 rfl (lv_at hl 3 rfl) ?_
      refine r_getR (g := 1218) X hw ha_x_L_35 rfl 18 h_55 (by decide) rfl inn_X12_goes_12 (by decide) (X.2.2.2.1 (.fieldLink RX12 55 "SilkMillModel" "rowOf" "[I") (by decide +kernel)) rfl (gv_1218 _ _) dX12_goes_62 ?_
      refine lv_sipush (v := 600) X.1 X.2.1 dX12_goes_65 (by decide) ?_
      refine lv_iload X.1 X.2.1 dX12_goes_68 (lv_at hl 2 rfl) ?_
      refine lv_imul X.1 X.2.1 dX12_goes_70 ?_
      refine lv_topi (fun v_62 ev_62 => ?_)
      have z_63 : v_62.toInt = 600 * ((3 * a1_z) + a2_z) := z_mul ev_62 ti_600 z_4 (by omega) (by omega)
      refine lv_iload X.1 X.2.1 dX12_goes_71 (lv_at hl 0 rfl) ?_
      refine lv_iadd X.1 X.2.1 dX12_goes_73 ?_
      refine lv_topi (fun v_64 ev_64 => ?_)
      have z_65 : v_64.toInt = (600 * ((3 * a1_z) + a2_z)) + i6_33_z := z_add ev_64 z_63 hz_i6_33 (by omega) (by omega)
      refine lv_iconst (v := 1) X.1 X.2.1 dX12_goes_74 (by decide) ?_
      refine lv_iadd X.1 X.2.1 dX12_goes_75 ?_
      refine lv_topi (fun v_66 ev_66 => ?_)
      have z_67 : v_66.toInt = ((600 * ((3 * a1_z) + a2_z)) + i6_33_z) + 1 := z_add ev_66 z_65 ti_1 (by omega) (by omega)
      refine r_iald X hw h_56 rfl (by rw [h_57]; exact z_ix z_67 (by omega) (by omega)) dX12_goes_76 ?_
      refine lv_topi (fun v_68 ev_68 => ?_)
      have z_69 := gE_574 hO_T_34.1 h_56 (Int32.toNatClampNeg (v_66)); rw [← ev_68] at z_69
      have ev_68 := ev_68.symm
      have zf_70 : zA T_34 x 1218 ((((600 * ((3 * a1_z) + a2_z)) + i6_33_z) + 1)).toNat = v_68.toInt := (zA_of h_55 z_67 (by omega) ev_68)
      refine r_iast X hw h_56 rfl (by rw [h_57]; exact z_ix z_61 (by omega) (by omega)) dX12_goes_77 (fun H locs hw => ?_)
      obtain ⟨S_71, eS_71⟩ : ∃ T, T = sA T_34 q_54 (upd (pA T_34 q_54) (Int32.toNatClampNeg (v_60)) (v_68)) := ⟨_, rfl⟩
      rw [← eS_71] at hw
      have hO_72 : Ok MGO S S_71 := hO_T_34.sA eS_71 h_56 (by decide +kernel) (uA_574 hO_T_34.1 h_56 (by omega) (by omega))
      have h_73 : pA S_71 q_54 (Int32.toNatClampNeg (v_60)) = v_68 := tA_sAs eS_71
      have t_74 : pR S_71 1218 x = some q_54 := tR_sA eS_71 h_55
      have t_76 : pR T_34 1218 x = some q_54 := by have h := t_74; rw [eS_71, pR_sA] at h; exact h
      have zs_75 : ∀ j, zA S_71 x 1218 j = if j = (((600 * ((3 * a1_z) + a2_z)) + i6_33_z)).toNat then v_68.toInt else zA T_34 x 1218 j := by have h := zA_sAs eS_71 t_76 rfl; rw [z_nc z_61 (by omega)] at h; exact h
      obtain ⟨x_77, ex_77⟩ : ∃ y : Int32, y = i6_33 + 1 := ⟨_, rfl⟩
      have z_78 : x_77.toInt = i6_33_z + 1 := z_add ex_77 hz_i6_33 ti_1 (by omega) (by omega)
      refine lv_iinc (v := x_77) (lv' := [(6, .int (x_77)), (5, .int (v_13)), (4, .int (v_3)), (0, .ref x), (1, .int (a1)), (2, .int (a2)), (3, .int (a3))]) X.1 X.2.1 dX12_goes_78 hl (k := 0) rfl (by rw [ex_77]; rfl) (by decide) rfl (fun ls hl => ?_)
      refine lv_goto (tgt := 36) X.1 X.2.1 dX12_goes_81 (by decide) ?_
      have t_79 : At S_71 x 12 := tAt_sA eS_71 ha_x_L_35
      have zc_80 : zA S_71 x 1219 = zA S_25 x 1219 := (zA_sAn eS_71 (ex3 (gQ_12_1219 hO_T_34.1 ha_x_L_35)) h_56 rfl).trans zk_36
      exact ih_L_32 _ (by omega) _ _ _ _ (x_77) (x_77.toInt) rfl hw rfl (by omega) t_79 hO_72 zc_80 (by omega) (by have h := shift_dn (R := (3 * a1_z + a2_z)) (i := a3_z) (k := i6_33_z) (by omega) (by omega) (by omega) iv_38 zf_70 zs_75; rw [show i6_33_z + 1 = x_77.toInt by omega] at h; exact h) (lv_sub hl [0, 1, 2, 3, 4, 5, 6] rfl)
  have t_81 : At S_25 x 12 := tAt_sA eS_25 ha_x
  have zc_82 : zA S_25 x 1218 = zA S x 1218 := zA_sAn eS_25 (ex3 (gQ_12_1218 hO.1 ha_x)) h_18 rfl
  exact L_32 _ _ _ _ _ (a3) (a3_z) rfl hw hz_a3 (by omega) t_81 hO_26 (Eq.refl _) (by omega) (fun j => by rw [if_neg (by omega), zc_82]) (lv_sub hl [0, 1, 2, 3, 4, 5, 6] rfl)
set_option maxHeartbeats 4000000 in
set_option maxRecDepth 100000 in
theorem k_X12_nowFine5 (l : Launch) (G : va_G) (cy : Nat → ClassId) (κ : Nat → Nat) (S : PS) (sz : Nat) (x : Nat) (a1 : Int32) (a1_z : Int) (A : Pt) (Ev : En) (hG : GX S) (ha_x : At S x 12) (hz_a1 : a1.toInt = a1_z) (hp_0 : 0 ≤ a1_z) (hp_1 : a1_z ≤ 3) (hp_2 : MI S x) (hp_3 : RowR S x (3 * a1_z + 1).toNat (qe A)) (hp_4 : EnR S x a1_z Ev) (hp_5 : PlR S x A) : Ci l yX12_nowFine wsX12_nowFine ({ frames := 4, cells := 0, slots := 0, locals := 192 }) G cy κ S sz [.ref x, .int (a1)] (fun (r : Int32) (S9 : PS) => S = S9 ∧ (-2147483648 ≤ r.toInt ∧ r.toInt ≤ 2147483647 ∧ r = suL (finF Ev A) (qe A))) := by
  refine ent_m (cc := cX12_nowFine) (maxL := 4) (ret := (some .int)) (by decide) rfl (Nat.le_of_ble_eq_true rfl) ?_
  intro p e s m below meth c ls X hr hlocks hin hw hl hsz
  subst hsz
  have X : Cx p c cX12_nowFine 4 s [.ref x, .int (a1)].toArray wsX12_nowFine RX12 m G cy κ (AS S s.heap.size) := X
  have hl : lv_has ls 4 [(0, .ref x), (1, .int (a1))] := hl
  have rg_a1 : (-2147483648) ≤ a1_z ∧ a1_z ≤ 2147483647 := by rw [← hz_a1]; exact ⟨z_lo _, z_hi _⟩
  generalize hQQ : MQ below _ _ _ _ _ _ = QQ
  replace hQQ := hQQ.symm
  refine lv_iconst (v := 0) X.1 X.2.1 dX12_nowFine_0 (by decide) ?_
  refine lv_istore_n (lv' := [(2, .int 0), (0, .ref x), (1, .int (a1))]) X.1 X.2.1 dX12_nowFine_1 rfl hl (by decide) rfl (fun ls hl => ?_)
  refine lv_iconst (v := 0) X.1 X.2.1 dX12_nowFine_2 (by decide) ?_
  refine lv_istore_n (lv' := [(3, .int 0), (2, .int 0), (0, .ref x), (1, .int (a1))]) X.1 X.2.1 dX12_nowFine_3 rfl hl (by decide) rfl (fun ls hl => ?_)
  have L_1 : ∀ (n : Nat) (H : Heap) (locs : List Loc) (ls : Array Slot) (i2_2 : Int32) (i2_2_z : Int) (i3_3 : Int32) (i3_3_z : Int), ((600 - i3_3_z).toNat = n) → (Wd G cy (AS S s.heap.size) s.heap S H locs) → (i2_2.toInt = i2_2_z) → (i3_3.toInt = i3_3_z) → (0 ≤ i3_3_z ∧ i3_3_z ≤ 600) → ((i2_2) = suL (finF Ev A) ((qe A).take (i3_3_z).toNat)) → (i3_3_z ≤ ((qe A).length : Int)) → (lv_has ls 4 [(2, .int (i2_2)), (3, .int (i3_3)), (0, .ref x), (1, .int (a1))]) → W p l e ({ frames := 4, cells := 0, slots := 0, locals := 192 }) s m [.ref x, .int (a1)].toArray below meth c H locs 0 0 QQ (F0 m 4 ls []) := by
    intro n
    induction n using Nat.strongRecOn with
    | ind n ih_L_1 =>
    intro H locs ls i2_2 i2_2_z i3_3 i3_3_z hn hw hz_i2_2 hz_i3_3 hr_i3_3 iv_4 iv_5 hl
    have rg_6 : (-2147483648) ≤ i2_2_z ∧ i2_2_z ≤ 2147483647 := by rw [← hz_i2_2]; exact ⟨z_lo _, z_hi _⟩
    have rg_7 : (-2147483648) ≤ i3_3_z ∧ i3_3_z ≤ 2147483647 := by rw [← hz_i3_3]; exact ⟨z_lo _, z_hi _⟩
    refine lv_iload_n X.1 X.2.1 dX12_nowFine_4 rfl (lv_at hl 1 rfl) ?_
    refine lv_aload_n X.1 X.2.1 dX12_nowFine_5 rfl (lv_at hl 2 rfl) ?_
    refine lv_iload_n X.1 X.2.1 dX12_nowFine_6 rfl (lv_at hl 3 rfl) ?_
    refine lv_iconst (v := 1) X.1 X.2.1 dX12_nowFine_7 (by decide) ?_
    refine k_i (rm := { frames := 1, cells := 0, slots := 0, locals := 48 }) (av := [.ref x, .int (a1), .int 1]) X hw (va_runV (As := [.int (a1), .int 1]) (rest := [.int (i3_3)]) (cfix X) (k_X12_many2 l G cy κ S _ x (a1) (a1_z) (1) (1) hG ha_x hz_a1 ti_1 (by first | assumption | omega) (by first | assumption | omega) (by first | assumption | omega) (by first | assumption | omega)) (cwV 2 X.2.2.2.1 gX12_nowFine_X12_many rfl rfl rfl (by decide +kernel) ⟨Nat.le_of_ble_eq_true rfl, Nat.le_of_ble_eq_true rfl⟩) (pre_V X hw _ ha_x rfl (by decide) rfl) rfl rfl hl.1 rfl (lv_room (Nat.le_of_ble_eq_true rfl)) dX12_nowFine_8 ⟨Nat.le_of_ble_eq_true rfl, Nat.le_of_ble_eq_true rfl⟩) 0 0 (Nat.le_of_ble_eq_true rfl) (Nat.le_of_ble_eq_true rfl) (fun rr_8 S_9 H locs hp hw hfr hnw => ?_)
    obtain ⟨e2, hp⟩ := hp
    subst e2
    obtain ⟨f_10, f_11, f_12⟩ := hp
    refine lv_icmp_ge (tgt := 46) X.1 X.2.1 dX12_nowFine_11 (by decide) (fun c_13 => ?_) (fun c_13 => ?_)
    · have z_b_14 := trivial
      have k_15 : i3_3_z ≥ rr_8.toInt := z_le rfl hz_i3_3 c_13
      refine lv_iload_n X.1 X.2.1 dX12_nowFine_46 rfl (lv_at hl 0 rfl) ?_
      rw [hQQ]
      exact ret_i X hw hr hlocks (Nat.le_of_ble_eq_true rfl) (Nat.le_of_ble_eq_true rfl) ⟨rfl, ⟨z_lo _, z_hi _, by rw [iv_4, show (i3_3_z).toNat = (qe A).length by have := hp_3.1; omega, List.take_length]⟩⟩ dX12_nowFine_47
    · have z_b_16 := trivial
      have k_17 : i3_3_z < rr_8.toInt := z_nle rfl hz_i3_3 c_13
      refine lv_iload_n X.1 X.2.1 dX12_nowFine_14 rfl (lv_at hl 0 rfl) ?_
      refine lv_aload_n X.1 X.2.1 dX12_nowFine_15 rfl (lv_at hl 2 rfl) ?_
      refine lv_aload_n X.1 X.2.1 dX12_nowFine_16 rfl (lv_at hl 2 rfl) ?_
      refine lv_iload_n X.1 X.2.1 dX12_nowFine_17 rfl (lv_at hl 3 rfl) ?_
      refine lv_iconst (v := 1) X.1 X.2.1 dX12_nowFine_18 (by decide) ?_
      refine lv_iload_n X.1 X.2.1 dX12_nowFine_19 rfl (lv_at hl 1 rfl) ?_
      refine k_i (rm := { frames := 1, cells := 0, slots := 0, locals := 48 }) (av := [.ref x, .int (a1), .int 1, .int (i3_3)]) X hw (va_runV (As := [.int (a1), .int 1, .int (i3_3)]) (rest := [.ref x, .int (i2_2)]) (cfix X) (k_X12_at2 l G cy κ S _ x (a1) (a1_z) (1) (1) (i3_3) (i3_3_z) hG ha_x hz_a1 ti_1 hz_i3_3 (by first | assumption | omega) (by first | assumption | omega) (by first | assumption | omega) (by first | assumption | omega) (by first | assumption | omega) (by first | assumption | omega)) (cwV 3 X.2.2.2.1 gX12_nowFine_X12_at rfl rfl rfl (by decide +kernel) ⟨Nat.le_of_ble_eq_true rfl, Nat.le_of_ble_eq_true rfl⟩) (pre_V X hw _ ha_x rfl (by decide) rfl) rfl rfl hl.1 rfl (lv_room (Nat.le_of_ble_eq_true rfl)) dX12_nowFine_20 ⟨Nat.le_of_ble_eq_true rfl, Nat.le_of_ble_eq_true rfl⟩) 0 0 (Nat.le_of_ble_eq_true rfl) (Nat.le_of_ble_eq_true rfl) (fun rr_18 S_19 H locs hp hw hfr hnw => ?_)
      obtain ⟨e2, hp⟩ := hp
      subst e2
      obtain ⟨f_20, f_21, f_22⟩ := hp
      refine lv_aload_n X.1 X.2.1 dX12_nowFine_23 rfl (lv_at hl 2 rfl) ?_
      obtain ⟨q_23, h_24, h_25, h_26⟩ := gQ_12_1208 hG ha_x
      refine r_getR (g := 1208) X hw ha_x rfl 8 h_24 (by decide) rfl inn_X12_nowFine_12 (by decide) (X.2.2.2.1 (.fieldLink RX12 28 "SilkMillModel" "place" "[I") (by decide +kernel)) rfl (gv_1208 _ _) dX12_nowFine_24 ?_
      refine lv_aload_n X.1 X.2.1 dX12_nowFine_27 rfl (lv_at hl 2 rfl) ?_
      refine lv_iload_n X.1 X.2.1 dX12_nowFine_28 rfl (lv_at hl 3 rfl) ?_
      refine lv_iconst (v := 1) X.1 X.2.1 dX12_nowFine_29 (by decide) ?_
      refine lv_iload_n X.1 X.2.1 dX12_nowFine_30 rfl (lv_at hl 1 rfl) ?_
      refine k_i (rm := { frames := 1, cells := 0, slots := 0, locals := 48 }) (av := [.ref x, .int (a1), .int 1, .int (i3_3)]) X hw (va_runV (As := [.int (a1), .int 1, .int (i3_3)]) (rest := [.ref q_23, .int (rr_18), .ref x, .int (i2_2)]) (cfix X) (k_X12_at2 l G cy κ S _ x (a1) (a1_z) (1) (1) (i3_3) (i3_3_z) hG ha_x hz_a1 ti_1 hz_i3_3 (by first | assumption | omega) (by first | assumption | omega) (by first | assumption | omega) (by first | assumption | omega) (by first | assumption | omega) (by first | assumption | omega)) (cwV 3 X.2.2.2.1 gX12_nowFine_X12_at rfl rfl rfl (by decide +kernel) ⟨Nat.le_of_ble_eq_true rfl, Nat.le_of_ble_eq_true rfl⟩) (pre_V X hw _ ha_x rfl (by decide) rfl) rfl rfl hl.1 rfl (lv_room (Nat.le_of_ble_eq_true rfl)) dX12_nowFine_31 ⟨Nat.le_of_ble_eq_true rfl, Nat.le_of_ble_eq_true rfl⟩) 0 0 (Nat.le_of_ble_eq_true rfl) (Nat.le_of_ble_eq_true rfl) (fun rr_27 S_28 H locs hp hw hfr hnw => ?_)
      obtain ⟨e2, hp⟩ := hp
      subst e2
      obtain ⟨f_29, f_30, f_31⟩ := hp
      refine r_iald X hw h_25 rfl (by rw [h_26]; exact z_ix rfl (by omega) (by omega)) dX12_nowFine_34 ?_
      refine lv_topi (fun v_32 ev_32 => ?_)
      have z_33 := gE_374 hG h_25 (Int32.toNatClampNeg (rr_27)); rw [← ev_32] at z_33
      have ev_32 := ev_32.symm
      have zf_34 : zA S x 1208 (rr_27.toInt).toNat = v_32.toInt := (zA_of h_24 rfl (by omega) ev_32)
      have m8_35 := MI_alive hp_2 (c := rr_27.toInt) (r := 3 * a1_z + 1) (k := i3_3_z) (gI_12_1201 hG ha_x).2 (by omega) (by omega) (by omega) (by omega) (by omega)
      have hh_36 : rr_27.toInt = rr_18.toInt := by omega
      rw [hh_36] at m8_35 zf_34
      rw [zf_34] at m8_35
      have lg_37 := lenZ_le hG ha_x (rr_18.toInt)
      have hF_38 : ∀ v, v = fnZ S x rr_18.toInt v_32.toInt → thF S x a1_z (i3_3_z).toNat = v := fun v hv => thF_of (by omega) (by assumption) zf_34 hv
      obtain ⟨en_39, en_40⟩ : ∃ c, (qe A)[(i3_3_z).toNat]? = some c := ⟨_, List.getElem?_eq_getElem (by have := hp_3.1; omega)⟩
      have en_41 := end_fn hG ha_x hp_2 (by omega) (by omega) hp_3 hp_4 hp_5 en_40
      refine k_i (rm := { frames := 3, cells := 0, slots := 0, locals := 144 }) (av := [.ref x, .int (rr_18), .int (v_32)]) X hw (va_runV (As := [.int (rr_18), .int (v_32)]) (rest := [.int (i2_2)]) (cfix X) (k_X12_fineOf2 l G cy κ S _ x (rr_18) (rr_18.toInt) (v_32) (v_32.toInt) hG ha_x rfl rfl (by first | assumption | omega) (by first | assumption | omega) (by first | assumption | omega) (by first | assumption | omega) (by first | assumption | omega)) (cwV 2 X.2.2.2.1 gX12_nowFine_X12_fineOf rfl rfl rfl (by decide +kernel) ⟨Nat.le_of_ble_eq_true rfl, Nat.le_of_ble_eq_true rfl⟩) (pre_V X hw _ ha_x rfl (by decide) rfl) rfl rfl hl.1 rfl (lv_room (Nat.le_of_ble_eq_true rfl)) dX12_nowFine_35 ⟨Nat.le_of_ble_eq_true rfl, Nat.le_of_ble_eq_true rfl⟩) 0 0 (Nat.le_of_ble_eq_true rfl) (Nat.le_of_ble_eq_true rfl) (fun rr_42 S_43 H locs hp hw hfr hnw => ?_)
      obtain ⟨e2, hp⟩ := hp
      subst e2
      obtain ⟨fo_44, fo_45, fo_46⟩ := hp
      refine lv_iadd X.1 X.2.1 dX12_nowFine_38 ?_
      refine lv_topi (fun v_47 ev_47 => ?_)
      have rg_48 := And.intro (z_lo v_47) (z_hi v_47)
      refine lv_istore_n (lv' := [(2, .int (v_47)), (3, .int (i3_3)), (0, .ref x), (1, .int (a1))]) X.1 X.2.1 dX12_nowFine_39 rfl hl (by decide) rfl (fun ls hl => ?_)
      obtain ⟨x_49, ex_49⟩ : ∃ y : Int32, y = i3_3 + 1 := ⟨_, rfl⟩
      have z_50 : x_49.toInt = i3_3_z + 1 := z_add ex_49 hz_i3_3 ti_1 (by omega) (by omega)
      refine lv_iinc (v := x_49) (lv' := [(3, .int (x_49)), (2, .int (v_47)), (0, .ref x), (1, .int (a1))]) X.1 X.2.1 dX12_nowFine_40 hl (k := 1) rfl (by rw [ex_49]; rfl) (by decide) rfl (fun ls hl => ?_)
      refine lv_goto (tgt := 4) X.1 X.2.1 dX12_nowFine_43 (by decide) ?_
      have ce_52 : rr_18.toInt = (en_39 : Int) := by have h18 := hp_3.2 _ _ en_40; have hi : (600 * (3 * a1_z + 1) + i3_3_z).toNat = 600 * (3 * a1_z + 1).toNat + (i3_3_z).toNat := (by omega); rw [← hi] at h18; omega
      have ee_51 : rr_42 = finF Ev A en_39 := Int32.toInt_inj.mp (by rw [en_41.2.2.2.1, fo_46, ce_52]; congr 1; have h8 := (hp_5 en_39 en_41.1).1; have h9 := congrArg (zA S x 1208) (show (rr_18.toInt).toNat = en_39 by omega); omega)
      exact ih_L_1 _ (by omega) _ _ _ (v_47) (v_47.toInt) (x_49) (x_49.toInt) rfl hw rfl rfl (by omega) (by rw [show (x_49.toInt).toNat = (i3_3_z).toNat + 1 by omega, suL_s en_40, ← iv_4, ev_47, ee_51]) (by have h18 := hp_3.1; omega) (lv_sub hl [1, 0, 2, 3] rfl)
  exact L_1 _ _ _ _ (0) (0) (0) (0) rfl hw ti_0 ti_0 (by omega) rfl (by have h18 := hp_3.1; omega) (lv_sub hl [1, 0, 2, 3] rfl)
set_option maxHeartbeats 4000000 in
set_option maxRecDepth 100000 in
theorem k_X12_fieldOf5 (l : Launch) (G : va_G) (cy : Nat → ClassId) (κ : Nat → Nat) (S : PS) (sz : Nat) (x : Nat) (a1 : Int32) (a1_z : Int) (a2 : Int32) (a2_z : Int) (A : Pt) (Ev : En) (hG : GX S) (ha_x : At S x 12) (hz_a1 : a1.toInt = a1_z) (hz_a2 : a2.toInt = a2_z) (hp_0 : 0 ≤ a1_z) (hp_1 : a1_z ≤ 3) (hp_2 : MI S x) (hp_3 : PotW S x a1_z A) (hp_4 : EnR S x a1_z Ev) : Ci l yX12_fieldOf wsX12_fieldOf ({ frames := 5, cells := 0, slots := 0, locals := 240 }) G cy κ S sz [.ref x, .int (a1), .int (a2)] (fun (r : Int32) (S9 : PS) => S = S9 ∧ (-2147483648 ≤ r.toInt ∧ r.toInt ≤ 2147483647 ∧ r.toInt = valF Ev A a2)) := by
  refine ent_m (cc := cX12_fieldOf) (maxL := 3) (ret := (some .int)) (by decide) rfl (Nat.le_of_ble_eq_true rfl) ?_
  intro p e s m below meth c ls X hr hlocks hin hw hl hsz
  subst hsz
  have X : Cx p c cX12_fieldOf 3 s [.ref x, .int (a1), .int (a2)].toArray wsX12_fieldOf RX12 m G cy κ (AS S s.heap.size) := X
  have hl : lv_has ls 3 [(0, .ref x), (1, .int (a1)), (2, .int (a2))] := hl
  have rg_a1 : (-2147483648) ≤ a1_z ∧ a1_z ≤ 2147483647 := by rw [← hz_a1]; exact ⟨z_lo _, z_hi _⟩
  have rg_a2 : (-2147483648) ≤ a2_z ∧ a2_z ≤ 2147483647 := by rw [← hz_a2]; exact ⟨z_lo _, z_hi _⟩
  have hpw := hp_3
  obtain ⟨w0, w1, w2, w3, w4, w5, w6, w7, w8, w9⟩ := hpw
  have w5l := w5.1
  refine lv_iload_n X.1 X.2.1 dX12_fieldOf_0 rfl (lv_at hl 2 rfl) ?_
  by_cases w_1 : (a2).toInt < 0 ∨ 5 < (a2).toInt
  · refine lv_tableOut (tgt := 119) X.1 X.2.1 dX12_fieldOf_1 w_1 (by decide) ?_
    refine lv_aload_n X.1 X.2.1 dX12_fieldOf_119 rfl (lv_at hl 0 rfl) ?_
    obtain ⟨v_2, ev_2⟩ : ∃ v, pI S 1245 x = v := ⟨_, rfl⟩
    have rg_4 := And.intro (z_lo v_2) (z_hi v_2)
    have pz_5 : (pI S 1245 x).toInt = v_2.toInt := by rw [ev_2]
    refine r_getI (g := 1245) (x := v_2) X hw ha_x rfl 45 ev_2 (by decide) rfl inn_X12_fieldOf_12 (by decide) (X.2.2.2.1 (.fieldLink RX12 302 "SilkMillModel" "today" "I") (by decide +kernel)) rfl (gv_1245 _ _) dX12_fieldOf_120 ?_
    exact ret_i X hw hr hlocks (Nat.le_of_ble_eq_true rfl) (Nat.le_of_ble_eq_true rfl) ⟨rfl, ⟨z_lo _, z_hi _, by rw [valF_d hz_a2 (by omega), hp_4.2.1, ev_2]⟩⟩ dX12_fieldOf_123
  have w_1b : (a2).toInt = 0 ∨ (a2).toInt = 1 ∨ (a2).toInt = 2 ∨ (a2).toInt = 3 ∨ (a2).toInt = 4 ∨ (a2).toInt = 5 := by omega
  rcases w_1b with w_1c | w_1c | w_1c | w_1c | w_1c | w_1c
  · refine lv_tableIn (tgt := 40) X.1 X.2.1 dX12_fieldOf_1 (by omega) (by omega) (by rw [w_1c]; rfl) (by decide) ?_
    refine lv_aload_n X.1 X.2.1 dX12_fieldOf_40 rfl (lv_at hl 0 rfl) ?_
    refine lv_iload_n X.1 X.2.1 dX12_fieldOf_41 rfl (lv_at hl 1 rfl) ?_
    refine k_i (rm := { frames := 4, cells := 0, slots := 0, locals := 192 }) (av := [.ref x, .int (a1)]) X hw (va_runV (As := [.int (a1)]) (rest := []) (cfix X) (k_X12_nowFine5 l G cy κ S _ x (a1) (a1_z) A Ev hG ha_x hz_a1 (by omega) (by omega) hp_2 w1 hp_4 w9) (cwV 1 X.2.2.2.1 gX12_fieldOf_X12_nowFine rfl rfl rfl (by decide +kernel) ⟨Nat.le_of_ble_eq_true rfl, Nat.le_of_ble_eq_true rfl⟩) (pre_V X hw _ ha_x rfl (by decide) rfl) rfl rfl hl.1 rfl (lv_room (Nat.le_of_ble_eq_true rfl)) dX12_fieldOf_42 ⟨Nat.le_of_ble_eq_true rfl, Nat.le_of_ble_eq_true rfl⟩) 0 0 (Nat.le_of_ble_eq_true rfl) (Nat.le_of_ble_eq_true rfl) (fun rr_6 S_7 H locs hp hw hfr hnw => ?_)
    obtain ⟨e2, hp⟩ := hp
    subst e2
    obtain ⟨su_8, su_9, su_10⟩ := hp
    exact ret_i X hw hr hlocks (Nat.le_of_ble_eq_true rfl) (Nat.le_of_ble_eq_true rfl) ⟨rfl, ⟨z_lo _, z_hi _, by rw [valF_0 (show a2.toInt = 0 by omega), su_10]⟩⟩ dX12_fieldOf_45
  · refine lv_tableIn (tgt := 46) X.1 X.2.1 dX12_fieldOf_1 (by omega) (by omega) (by rw [w_1c]; rfl) (by decide) ?_
    refine lv_aload_n X.1 X.2.1 dX12_fieldOf_46 rfl (lv_at hl 0 rfl) ?_
    refine lv_iload_n X.1 X.2.1 dX12_fieldOf_47 rfl (lv_at hl 1 rfl) ?_
    refine lv_iconst (v := 1) X.1 X.2.1 dX12_fieldOf_48 (by decide) ?_
    refine k_i (rm := { frames := 1, cells := 0, slots := 0, locals := 48 }) (av := [.ref x, .int (a1), .int 1]) X hw (va_runV (As := [.int (a1), .int 1]) (rest := []) (cfix X) (k_X12_many2 l G cy κ S _ x (a1) (a1_z) (1) (1) hG ha_x hz_a1 ti_1 (by first | assumption | omega) (by first | assumption | omega) (by first | assumption | omega) (by first | assumption | omega)) (cwV 2 X.2.2.2.1 gX12_fieldOf_X12_many rfl rfl rfl (by decide +kernel) ⟨Nat.le_of_ble_eq_true rfl, Nat.le_of_ble_eq_true rfl⟩) (pre_V X hw _ ha_x rfl (by decide) rfl) rfl rfl hl.1 rfl (lv_room (Nat.le_of_ble_eq_true rfl)) dX12_fieldOf_49 ⟨Nat.le_of_ble_eq_true rfl, Nat.le_of_ble_eq_true rfl⟩) 0 0 (Nat.le_of_ble_eq_true rfl) (Nat.le_of_ble_eq_true rfl) (fun rr_11 S_12 H locs hp hw hfr hnw => ?_)
    obtain ⟨e2, hp⟩ := hp
    subst e2
    obtain ⟨f_13, f_14, f_15⟩ := hp
    exact ret_i X hw hr hlocks (Nat.le_of_ble_eq_true rfl) (Nat.le_of_ble_eq_true rfl) ⟨rfl, ⟨z_lo _, z_hi _, by rw [valF_1 (show a2.toInt = 1 by omega)]; have := w1.1; have e1 : (rr_11 : Int32).toInt = rr_11.toInt := rfl; omega⟩⟩ dX12_fieldOf_52
  · refine lv_tableIn (tgt := 53) X.1 X.2.1 dX12_fieldOf_1 (by omega) (by omega) (by rw [w_1c]; rfl) (by decide) ?_
    refine lv_aload_n X.1 X.2.1 dX12_fieldOf_53 rfl (lv_at hl 0 rfl) ?_
    refine lv_iload_n X.1 X.2.1 dX12_fieldOf_54 rfl (lv_at hl 1 rfl) ?_
    refine lv_iconst (v := 0) X.1 X.2.1 dX12_fieldOf_55 (by decide) ?_
    refine k_i (rm := { frames := 1, cells := 0, slots := 0, locals := 48 }) (av := [.ref x, .int (a1), .int 0]) X hw (va_runV (As := [.int (a1), .int 0]) (rest := []) (cfix X) (k_X12_many2 l G cy κ S _ x (a1) (a1_z) (0) (0) hG ha_x hz_a1 ti_0 (by first | assumption | omega) (by first | assumption | omega) (by first | assumption | omega) (by first | assumption | omega)) (cwV 2 X.2.2.2.1 gX12_fieldOf_X12_many rfl rfl rfl (by decide +kernel) ⟨Nat.le_of_ble_eq_true rfl, Nat.le_of_ble_eq_true rfl⟩) (pre_V X hw _ ha_x rfl (by decide) rfl) rfl rfl hl.1 rfl (lv_room (Nat.le_of_ble_eq_true rfl)) dX12_fieldOf_56 ⟨Nat.le_of_ble_eq_true rfl, Nat.le_of_ble_eq_true rfl⟩) 0 0 (Nat.le_of_ble_eq_true rfl) (Nat.le_of_ble_eq_true rfl) (fun rr_16 S_17 H locs hp hw hfr hnw => ?_)
    obtain ⟨e2, hp⟩ := hp
    subst e2
    obtain ⟨f_18, f_19, f_20⟩ := hp
    exact ret_i X hw hr hlocks (Nat.le_of_ble_eq_true rfl) (Nat.le_of_ble_eq_true rfl) ⟨rfl, ⟨z_lo _, z_hi _, by rw [valF_2 (show a2.toInt = 2 by omega)]; have := w0.1; have e1 : (rr_16 : Int32).toInt = rr_16.toInt := rfl; omega⟩⟩ dX12_fieldOf_59
  · refine lv_tableIn (tgt := 60) X.1 X.2.1 dX12_fieldOf_1 (by omega) (by omega) (by rw [w_1c]; rfl) (by decide) ?_
    refine lv_aload_n X.1 X.2.1 dX12_fieldOf_60 rfl (lv_at hl 0 rfl) ?_
    refine lv_iload_n X.1 X.2.1 dX12_fieldOf_61 rfl (lv_at hl 1 rfl) ?_
    refine lv_iconst (v := 2) X.1 X.2.1 dX12_fieldOf_62 (by decide) ?_
    refine k_i (rm := { frames := 1, cells := 0, slots := 0, locals := 48 }) (av := [.ref x, .int (a1), .int 2]) X hw (va_runV (As := [.int (a1), .int 2]) (rest := []) (cfix X) (k_X12_many2 l G cy κ S _ x (a1) (a1_z) (2) (2) hG ha_x hz_a1 ti_2 (by first | assumption | omega) (by first | assumption | omega) (by first | assumption | omega) (by first | assumption | omega)) (cwV 2 X.2.2.2.1 gX12_fieldOf_X12_many rfl rfl rfl (by decide +kernel) ⟨Nat.le_of_ble_eq_true rfl, Nat.le_of_ble_eq_true rfl⟩) (pre_V X hw _ ha_x rfl (by decide) rfl) rfl rfl hl.1 rfl (lv_room (Nat.le_of_ble_eq_true rfl)) dX12_fieldOf_63 ⟨Nat.le_of_ble_eq_true rfl, Nat.le_of_ble_eq_true rfl⟩) 0 0 (Nat.le_of_ble_eq_true rfl) (Nat.le_of_ble_eq_true rfl) (fun rr_21 S_22 H locs hp hw hfr hnw => ?_)
    obtain ⟨e2, hp⟩ := hp
    subst e2
    obtain ⟨f_23, f_24, f_25⟩ := hp
    exact ret_i X hw hr hlocks (Nat.le_of_ble_eq_true rfl) (Nat.le_of_ble_eq_true rfl) ⟨rfl, ⟨z_lo _, z_hi _, by rw [valF_3 (show a2.toInt = 3 by omega)]; have := w2.1; have e1 : (rr_21 : Int32).toInt = rr_21.toInt := rfl; omega⟩⟩ dX12_fieldOf_66
  · refine lv_tableIn (tgt := 67) X.1 X.2.1 dX12_fieldOf_1 (by omega) (by omega) (by rw [w_1c]; rfl) (by decide) ?_
    refine lv_aload_n X.1 X.2.1 dX12_fieldOf_67 rfl (lv_at hl 0 rfl) ?_
    obtain ⟨q_26, h_27, h_28, h_29⟩ := gQ_12_1237 hG ha_x
    refine r_getR (g := 1237) X hw ha_x rfl 37 h_27 (by decide) rfl inn_X12_fieldOf_12 (by decide) (X.2.2.2.1 (.fieldLink RX12 97 "SilkMillModel" "grown" "[I") (by decide +kernel)) rfl (gv_1237 _ _) dX12_fieldOf_68 ?_
    refine lv_iload_n X.1 X.2.1 dX12_fieldOf_71 rfl (lv_at hl 1 rfl) ?_
    refine r_iald X hw h_28 rfl (by rw [h_29]; exact z_ix hz_a1 (by omega) (by omega)) dX12_fieldOf_72 ?_
    refine lv_topi (fun v_30 ev_30 => ?_)
    have z_31 := gE_954 hG h_28 (Int32.toNatClampNeg (a1)); rw [← ev_30] at z_31
    have ev_30 := ev_30.symm
    have zf_32 : zA S x 1237 (a1_z).toNat = v_30.toInt := (zA_of h_27 hz_a1 (by omega) ev_30)
    exact ret_i X hw hr hlocks (Nat.le_of_ble_eq_true rfl) (Nat.le_of_ble_eq_true rfl) ⟨rfl, ⟨z_lo _, z_hi _, by rw [valF_4 (show a2.toInt = 4 by omega)]; have e1 : (v_30 : Int32).toInt = v_30.toInt := rfl; omega⟩⟩ dX12_fieldOf_73
  · refine lv_tableIn (tgt := 74) X.1 X.2.1 dX12_fieldOf_1 (by omega) (by omega) (by rw [w_1c]; rfl) (by decide) ?_
    refine lv_aload_n X.1 X.2.1 dX12_fieldOf_74 rfl (lv_at hl 0 rfl) ?_
    refine lv_iload_n X.1 X.2.1 dX12_fieldOf_75 rfl (lv_at hl 1 rfl) ?_
    refine k_i (rm := { frames := 4, cells := 0, slots := 0, locals := 192 }) (av := [.ref x, .int (a1)]) X hw (va_runV (As := [.int (a1)]) (rest := []) (cfix X) (k_X12_thinnest l G cy κ S _ x (a1) (a1_z) hG ha_x hz_a1 (by first | assumption | omega) (by first | assumption | omega) hp_2) (cwV 1 X.2.2.2.1 gX12_fieldOf_X12_thinnest rfl rfl rfl (by decide +kernel) ⟨Nat.le_of_ble_eq_true rfl, Nat.le_of_ble_eq_true rfl⟩) (pre_V X hw _ ha_x rfl (by decide) rfl) rfl rfl hl.1 rfl (lv_room (Nat.le_of_ble_eq_true rfl)) dX12_fieldOf_76 ⟨Nat.le_of_ble_eq_true rfl, Nat.le_of_ble_eq_true rfl⟩) 0 0 (Nat.le_of_ble_eq_true rfl) (Nat.le_of_ble_eq_true rfl) (fun rr_33 S_34 H locs hp hw hfr hnw => ?_)
    obtain ⟨e2, hp⟩ := hp
    subst e2
    obtain ⟨tz_35, tz_36, tz_37, tz_38, tz_39⟩ := hp
    have tz_40 : rr_33.toInt = thiF Ev A := tz_39.trans (thZ_is hG ha_x hp_2 (by omega) (by omega) w1 hp_4 w9)
    refine lv_iconst (v := (-1)) X.1 X.2.1 dX12_fieldOf_79 (by decide) ?_
    refine lv_icmp_ne (tgt := 87) X.1 X.2.1 dX12_fieldOf_80 (by decide) (fun c_41 => ?_) (fun c_41 => ?_)
    · have z_b_42 := trivial
      have k_43 : rr_33.toInt ≠ (-1) := z_ne rfl ti_m1 c_41
      refine lv_aload_n X.1 X.2.1 dX12_fieldOf_87 rfl (lv_at hl 0 rfl) ?_
      refine lv_aload_n X.1 X.2.1 dX12_fieldOf_88 rfl (lv_at hl 0 rfl) ?_
      refine lv_iload_n X.1 X.2.1 dX12_fieldOf_89 rfl (lv_at hl 1 rfl) ?_
      refine lv_iconst (v := 1) X.1 X.2.1 dX12_fieldOf_90 (by decide) ?_
      refine lv_aload_n X.1 X.2.1 dX12_fieldOf_91 rfl (lv_at hl 0 rfl) ?_
      refine lv_iload_n X.1 X.2.1 dX12_fieldOf_92 rfl (lv_at hl 1 rfl) ?_
      refine k_i (rm := { frames := 4, cells := 0, slots := 0, locals := 192 }) (av := [.ref x, .int (a1)]) X hw (va_runV (As := [.int (a1)]) (rest := [.int 1, .int (a1), .ref x, .ref x]) (cfix X) (k_X12_thinnest l G cy κ S _ x (a1) (a1_z) hG ha_x hz_a1 (by first | assumption | omega) (by first | assumption | omega) hp_2) (cwV 1 X.2.2.2.1 gX12_fieldOf_X12_thinnest rfl rfl rfl (by decide +kernel) ⟨Nat.le_of_ble_eq_true rfl, Nat.le_of_ble_eq_true rfl⟩) (pre_V X hw _ ha_x rfl (by decide) rfl) rfl rfl hl.1 rfl (lv_room (Nat.le_of_ble_eq_true rfl)) dX12_fieldOf_93 ⟨Nat.le_of_ble_eq_true rfl, Nat.le_of_ble_eq_true rfl⟩) 0 0 (Nat.le_of_ble_eq_true rfl) (Nat.le_of_ble_eq_true rfl) (fun rr_44 S_45 H locs hp hw hfr hnw => ?_)
      obtain ⟨e2, hp⟩ := hp
      subst e2
      obtain ⟨tz_46, tz_47, tz_48, tz_49, tz_50⟩ := hp
      have tz_51 : rr_44.toInt = thiF Ev A := tz_50.trans (thZ_is hG ha_x hp_2 (by omega) (by omega) w1 hp_4 w9)
      refine k_i (rm := { frames := 1, cells := 0, slots := 0, locals := 48 }) (av := [.ref x, .int (a1), .int 1, .int (rr_44)]) X hw (va_runV (As := [.int (a1), .int 1, .int (rr_44)]) (rest := [.ref x]) (cfix X) (k_X12_at2 l G cy κ S _ x (a1) (a1_z) (1) (1) (rr_44) (rr_44.toInt) hG ha_x hz_a1 ti_1 rfl (by first | assumption | omega) (by first | assumption | omega) (by first | assumption | omega) (by first | assumption | omega) (by first | assumption | omega) (by first | assumption | omega)) (cwV 3 X.2.2.2.1 gX12_fieldOf_X12_at rfl rfl rfl (by decide +kernel) ⟨Nat.le_of_ble_eq_true rfl, Nat.le_of_ble_eq_true rfl⟩) (pre_V X hw _ ha_x rfl (by decide) rfl) rfl rfl hl.1 rfl (lv_room (Nat.le_of_ble_eq_true rfl)) dX12_fieldOf_96 ⟨Nat.le_of_ble_eq_true rfl, Nat.le_of_ble_eq_true rfl⟩) 0 0 (Nat.le_of_ble_eq_true rfl) (Nat.le_of_ble_eq_true rfl) (fun rr_52 S_53 H locs hp hw hfr hnw => ?_)
      obtain ⟨e2, hp⟩ := hp
      subst e2
      obtain ⟨f_54, f_55, f_56⟩ := hp
      refine lv_aload_n X.1 X.2.1 dX12_fieldOf_99 rfl (lv_at hl 0 rfl) ?_
      obtain ⟨q_57, h_58, h_59, h_60⟩ := gQ_12_1208 hG ha_x
      refine r_getR (g := 1208) X hw ha_x rfl 8 h_58 (by decide) rfl inn_X12_fieldOf_12 (by decide) (X.2.2.2.1 (.fieldLink RX12 28 "SilkMillModel" "place" "[I") (by decide +kernel)) rfl (gv_1208 _ _) dX12_fieldOf_100 ?_
      refine lv_aload_n X.1 X.2.1 dX12_fieldOf_103 rfl (lv_at hl 0 rfl) ?_
      refine lv_iload_n X.1 X.2.1 dX12_fieldOf_104 rfl (lv_at hl 1 rfl) ?_
      refine lv_iconst (v := 1) X.1 X.2.1 dX12_fieldOf_105 (by decide) ?_
      refine lv_aload_n X.1 X.2.1 dX12_fieldOf_106 rfl (lv_at hl 0 rfl) ?_
      refine lv_iload_n X.1 X.2.1 dX12_fieldOf_107 rfl (lv_at hl 1 rfl) ?_
      refine k_i (rm := { frames := 4, cells := 0, slots := 0, locals := 192 }) (av := [.ref x, .int (a1)]) X hw (va_runV (As := [.int (a1)]) (rest := [.int 1, .int (a1), .ref x, .ref q_57, .int (rr_52), .ref x]) (cfix X) (k_X12_thinnest l G cy κ S _ x (a1) (a1_z) hG ha_x hz_a1 (by first | assumption | omega) (by first | assumption | omega) hp_2) (cwV 1 X.2.2.2.1 gX12_fieldOf_X12_thinnest rfl rfl rfl (by decide +kernel) ⟨Nat.le_of_ble_eq_true rfl, Nat.le_of_ble_eq_true rfl⟩) (pre_V X hw _ ha_x rfl (by decide) rfl) rfl rfl hl.1 rfl (lv_room (Nat.le_of_ble_eq_true rfl)) dX12_fieldOf_108 ⟨Nat.le_of_ble_eq_true rfl, Nat.le_of_ble_eq_true rfl⟩) 0 0 (Nat.le_of_ble_eq_true rfl) (Nat.le_of_ble_eq_true rfl) (fun rr_61 S_62 H locs hp hw hfr hnw => ?_)
      obtain ⟨e2, hp⟩ := hp
      subst e2
      obtain ⟨tz_63, tz_64, tz_65, tz_66, tz_67⟩ := hp
      have tz_68 : rr_61.toInt = thiF Ev A := tz_67.trans (thZ_is hG ha_x hp_2 (by omega) (by omega) w1 hp_4 w9)
      have eq_69 : rr_44 = rr_61 := Int32.toInt_inj.mp (by omega)
      subst eq_69
      refine k_i (rm := { frames := 1, cells := 0, slots := 0, locals := 48 }) (av := [.ref x, .int (a1), .int 1, .int (rr_44)]) X hw (va_runV (As := [.int (a1), .int 1, .int (rr_44)]) (rest := [.ref q_57, .int (rr_52), .ref x]) (cfix X) (k_X12_at2 l G cy κ S _ x (a1) (a1_z) (1) (1) (rr_44) (rr_44.toInt) hG ha_x hz_a1 ti_1 rfl (by first | assumption | omega) (by first | assumption | omega) (by first | assumption | omega) (by first | assumption | omega) (by first | assumption | omega) (by first | assumption | omega)) (cwV 3 X.2.2.2.1 gX12_fieldOf_X12_at rfl rfl rfl (by decide +kernel) ⟨Nat.le_of_ble_eq_true rfl, Nat.le_of_ble_eq_true rfl⟩) (pre_V X hw _ ha_x rfl (by decide) rfl) rfl rfl hl.1 rfl (lv_room (Nat.le_of_ble_eq_true rfl)) dX12_fieldOf_111 ⟨Nat.le_of_ble_eq_true rfl, Nat.le_of_ble_eq_true rfl⟩) 0 0 (Nat.le_of_ble_eq_true rfl) (Nat.le_of_ble_eq_true rfl) (fun rr_70 S_71 H locs hp hw hfr hnw => ?_)
      obtain ⟨e2, hp⟩ := hp
      subst e2
      obtain ⟨f_72, f_73, f_74⟩ := hp
      refine r_iald X hw h_59 rfl (by rw [h_60]; exact z_ix rfl (by omega) (by omega)) dX12_fieldOf_114 ?_
      refine lv_topi (fun v_75 ev_75 => ?_)
      have z_76 := gE_374 hG h_59 (Int32.toNatClampNeg (rr_70)); rw [← ev_75] at z_76
      have ev_75 := ev_75.symm
      have zf_77 : zA S x 1208 (rr_70.toInt).toNat = v_75.toInt := (zA_of h_58 rfl (by omega) ev_75)
      have m8_78 := MI_alive hp_2 (c := rr_70.toInt) (r := 3 * a1_z + 1) (k := rr_44.toInt) (gI_12_1201 hG ha_x).2 (by omega) (by omega) (by omega) (by omega) (by omega)
      have hh_79 : rr_70.toInt = rr_52.toInt := by omega
      rw [hh_79] at m8_78 zf_77
      rw [zf_77] at m8_78
      have lg_80 := lenZ_le hG ha_x (rr_52.toInt)
      have hF_81 : ∀ v, v = fnZ S x rr_52.toInt v_75.toInt → thF S x a1_z (rr_44.toInt).toNat = v := fun v hv => thF_of (by omega) (by assumption) zf_77 hv
      obtain ⟨en_82, en_83⟩ : ∃ c, (qe A)[(rr_44.toInt).toNat]? = some c := ⟨_, List.getElem?_eq_getElem (by have := w1.1; omega)⟩
      have en_84 := end_fn hG ha_x hp_2 (by omega) (by omega) w1 hp_4 w9 en_83
      refine k_i (rm := { frames := 3, cells := 0, slots := 0, locals := 144 }) (av := [.ref x, .int (rr_52), .int (v_75)]) X hw (va_runV (As := [.int (rr_52), .int (v_75)]) (rest := []) (cfix X) (k_X12_fineOf2 l G cy κ S _ x (rr_52) (rr_52.toInt) (v_75) (v_75.toInt) hG ha_x rfl rfl (by first | assumption | omega) (by first | assumption | omega) (by first | assumption | omega) (by first | assumption | omega) (by first | assumption | omega)) (cwV 2 X.2.2.2.1 gX12_fieldOf_X12_fineOf rfl rfl rfl (by decide +kernel) ⟨Nat.le_of_ble_eq_true rfl, Nat.le_of_ble_eq_true rfl⟩) (pre_V X hw _ ha_x rfl (by decide) rfl) rfl rfl hl.1 rfl (lv_room (Nat.le_of_ble_eq_true rfl)) dX12_fieldOf_115 ⟨Nat.le_of_ble_eq_true rfl, Nat.le_of_ble_eq_true rfl⟩) 0 0 (Nat.le_of_ble_eq_true rfl) (Nat.le_of_ble_eq_true rfl) (fun rr_85 S_86 H locs hp hw hfr hnw => ?_)
      obtain ⟨e2, hp⟩ := hp
      subst e2
      obtain ⟨fo_87, fo_88, fo_89⟩ := hp
      have ce_90 : rr_52.toInt = (en_82 : Int) := by have h18 := w1.2 _ _ en_83; have hi : (600 * (3 * a1_z + 1) + rr_44.toInt).toNat = 600 * (3 * a1_z + 1).toNat + (rr_44.toInt).toNat := (by omega); rw [← hi] at h18; omega
      exact ret_i X hw hr hlocks (Nat.le_of_ble_eq_true rfl) (Nat.le_of_ble_eq_true rfl) ⟨rfl, ⟨z_lo _, z_hi _, by rw [valF_5c (show a2.toInt = 5 by omega) (by omega) (by rw [← tz_68]; exact en_83), en_84.2.2.2.1, show (rr_85).toInt = fnZ S x (rr_52.toInt) (v_75.toInt) from fo_89, ce_90]; congr 1; have h8 := (w9 en_82 en_84.1).1; have h9 := congrArg (zA S x 1208) (show (rr_52.toInt).toNat = en_82 by omega); omega⟩⟩ dX12_fieldOf_118
    · have z_b_91 := trivial
      have k_92 : rr_33.toInt = (-1) := z_eq rfl ti_m1 c_41
      refine lv_iconst (v := 0) X.1 X.2.1 dX12_fieldOf_83 (by decide) ?_
      refine lv_goto (tgt := 118) X.1 X.2.1 dX12_fieldOf_84 (by decide) ?_
      exact ret_i X hw hr hlocks (Nat.le_of_ble_eq_true rfl) (Nat.le_of_ble_eq_true rfl) ⟨rfl, ⟨z_lo _, z_hi _, by rw [valF_5n (show a2.toInt = 5 by omega) (by omega)]; decide⟩⟩ dX12_fieldOf_118
set_option maxHeartbeats 4000000 in
set_option maxRecDepth 100000 in
theorem k_X12_holds5 (l : Launch) (G : va_G) (cy : Nat → ClassId) (κ : Nat → Nat) (S : PS) (sz : Nat) (x : Nat) (a1 : Int32) (a1_z : Int) (a2 : Int32) (a2_z : Int) (A : Pt) (Ev : En) (ru : Ru) (hG : GX S) (ha_x : At S x 12) (hz_a1 : a1.toInt = a1_z) (hz_a2 : a2.toInt = a2_z) (hp_0 : 0 ≤ a1_z) (hp_1 : a1_z ≤ 3) (hp_2 : 0 ≤ a2_z) (hp_3 : a2_z ≤ 59) (hp_4 : MI S x) (hp_5 : PotW S x a1_z A) (hp_6 : EnR S x a1_z Ev) (hp_7 : RuX S x a2_z ru) : Ci l yX12_holds wsX12_holds ({ frames := 6, cells := 0, slots := 0, locals := 288 }) G cy κ S sz [.ref x, .int (a1), .int (a2)] (fun (r : Int32) (S9 : PS) => S = S9 ∧ (((allP Ev A ru.2.2) ∧ r = 1) ∨ ((¬ allP Ev A ru.2.2) ∧ r = 0))) := by
  refine ent_m (cc := cX12_holds) (maxL := 6) (ret := (some .boolean)) (by decide) rfl (Nat.le_of_ble_eq_true rfl) ?_
  intro p e s m below meth c ls X hr hlocks hin hw hl hsz
  subst hsz
  have X : Cx p c cX12_holds 6 s [.ref x, .int (a1), .int (a2)].toArray wsX12_holds RX12 m G cy κ (AS S s.heap.size) := X
  have hl : lv_has ls 6 [(0, .ref x), (1, .int (a1)), (2, .int (a2))] := hl
  have rg_a1 : (-2147483648) ≤ a1_z ∧ a1_z ≤ 2147483647 := by rw [← hz_a1]; exact ⟨z_lo _, z_hi _⟩
  have rg_a2 : (-2147483648) ≤ a2_z ∧ a2_z ≤ 2147483647 := by rw [← hz_a2]; exact ⟨z_lo _, z_hi _⟩
  generalize hQQ : MQ below _ _ _ _ _ _ = QQ
  replace hQQ := hQQ.symm
  have hrx := hp_7
  obtain ⟨hA1, hA2, hA3, hA4⟩ := hrx
  refine lv_iconst (v := 1) X.1 X.2.1 dX12_holds_0 (by decide) ?_
  refine lv_istore_n (lv' := [(3, .int 1), (0, .ref x), (1, .int (a1)), (2, .int (a2))]) X.1 X.2.1 dX12_holds_1 rfl hl (by decide) rfl (fun ls hl => ?_)
  refine lv_iconst (v := 4) X.1 X.2.1 dX12_holds_2 (by decide) ?_
  refine lv_iload_n X.1 X.2.1 dX12_holds_3 rfl (lv_at hl 3 rfl) ?_
  refine lv_imul X.1 X.2.1 dX12_holds_4 ?_
  refine lv_topi (fun v_1 ev_1 => ?_)
  have z_2 : v_1.toInt = 4 * a2_z := z_mul ev_1 ti_4 hz_a2 (by omega) (by omega)
  refine lv_istore (lv' := [(4, .int (v_1)), (3, .int 1), (0, .ref x), (1, .int (a1)), (2, .int (a2))]) X.1 X.2.1 dX12_holds_5 hl (by decide) rfl (fun ls hl => ?_)
  have L_3 : ∀ (n : Nat) (H : Heap) (locs : List Loc) (ls : Array Slot) (i3_4 : Int32) (i3_4_z : Int) (i4_5 : Int32) (i4_5_z : Int), ((240 - i4_5_z).toNat = n) → (Wd G cy (AS S s.heap.size) s.heap S H locs) → (i3_4.toInt = i3_4_z) → (0 ≤ i3_4_z ∧ i3_4_z ≤ 1) → (i4_5.toInt = i4_5_z) → (0 ≤ i4_5_z ∧ i4_5_z ≤ 240) → (4 * a2_z ≤ i4_5_z) → (HoP Ev A ru.2.2 i3_4_z (i4_5_z - 4 * a2_z)) → (lv_has ls 6 [(3, .int (i3_4)), (4, .int (i4_5)), (0, .ref x), (1, .int (a1)), (2, .int (a2))]) → W p l e ({ frames := 6, cells := 0, slots := 0, locals := 288 }) s m [.ref x, .int (a1), .int (a2)].toArray below meth c H locs 0 0 QQ (F0 m 7 ls []) := by
    intro n
    induction n using Nat.strongRecOn with
    | ind n ih_L_3 =>
    intro H locs ls i3_4 i3_4_z i4_5 i4_5_z hn hw hz_i3_4 hr_i3_4 hz_i4_5 hr_i4_5 iv_6 iv_7 hl
    have rg_8 : (-2147483648) ≤ i3_4_z ∧ i3_4_z ≤ 2147483647 := by rw [← hz_i3_4]; exact ⟨z_lo _, z_hi _⟩
    have rg_9 : (-2147483648) ≤ i4_5_z ∧ i4_5_z ≤ 2147483647 := by rw [← hz_i4_5]; exact ⟨z_lo _, z_hi _⟩
    refine lv_iload X.1 X.2.1 dX12_holds_7 (lv_at hl 1 rfl) ?_
    refine lv_iconst (v := 4) X.1 X.2.1 dX12_holds_9 (by decide) ?_
    refine lv_iload_n X.1 X.2.1 dX12_holds_10 rfl (lv_at hl 4 rfl) ?_
    refine lv_imul X.1 X.2.1 dX12_holds_11 ?_
    refine lv_topi (fun v_10 ev_10 => ?_)
    have z_11 : v_10.toInt = 4 * a2_z := z_mul ev_10 ti_4 hz_a2 (by omega) (by omega)
    refine lv_aload_n X.1 X.2.1 dX12_holds_12 rfl (lv_at hl 2 rfl) ?_
    obtain ⟨q_12, h_13, h_14, h_15⟩ := gQ_12_1223 hG ha_x
    refine r_getR (g := 1223) X hw ha_x rfl 23 h_13 (by decide) rfl inn_X12_holds_12 (by decide) (X.2.2.2.1 (.fieldLink RX12 70 "SilkMillModel" "conditions" "[I") (by decide +kernel)) rfl (gv_1223 _ _) dX12_holds_13 ?_
    refine lv_iload_n X.1 X.2.1 dX12_holds_16 rfl (lv_at hl 4 rfl) ?_
    refine r_iald X hw h_14 rfl (by rw [h_15]; exact z_ix hz_a2 (by omega) (by omega)) dX12_holds_17 ?_
    refine lv_topi (fun v_16 ev_16 => ?_)
    have z_17 := gE_674 hG h_14 (Int32.toNatClampNeg (a2)); rw [← ev_16] at z_17
    have ev_16 := ev_16.symm
    have zf_18 : zA S x 1223 (a2_z).toNat = v_16.toInt := (zA_of h_13 hz_a2 (by omega) ev_16)
    refine lv_iadd X.1 X.2.1 dX12_holds_18 ?_
    refine lv_topi (fun v_19 ev_19 => ?_)
    have z_20 : v_19.toInt = (4 * a2_z) + v_16.toInt := z_add ev_19 z_11 rfl (by omega) (by omega)
    refine lv_icmp_ge (tgt := 125) X.1 X.2.1 dX12_holds_19 (by decide) (fun c_21 => ?_) (fun c_21 => ?_)
    · have z_b_22 := trivial
      have k_23 : i4_5_z ≥ ((4 * a2_z) + v_16.toInt) := z_le z_20 hz_i4_5 c_21
      refine lv_iload_n X.1 X.2.1 dX12_holds_125 rfl (lv_at hl 0 rfl) ?_
      have hb01 : i3_4 = 0 ∨ i3_4 = 1 := z_01 hz_i3_4 (by omega) (by omega)
      rw [hQQ]
      exact ret_z X hw hr hlocks (Nat.le_of_ble_eq_true rfl) (Nat.le_of_ble_eq_true rfl) (by assumption) ⟨rfl, (by first | exact Or.inr ⟨iv_7.2 (by omega), i32_eq hz_i3_4 t0 (by omega)⟩ | (rcases (show i3_4_z = 1 ∨ i3_4_z = 0 by omega) with h | h; exact Or.inl ⟨allP_of (fun j c hc => iv_7.1 h j c (by have := (List.getElem?_eq_some_iff.mp hc).1; omega) hc), i32_eq hz_i3_4 t1 h⟩; exact Or.inr ⟨iv_7.2 h, i32_eq hz_i3_4 t0 h⟩))⟩ dX12_holds_126
    · have z_b_24 := trivial
      have k_25 : i4_5_z < ((4 * a2_z) + v_16.toInt) := z_nle z_20 hz_i4_5 c_21
      refine lv_iload_n X.1 X.2.1 dX12_holds_22 rfl (lv_at hl 0 rfl) ?_
      refine lv_if_eq (tgt := 125) X.1 X.2.1 dX12_holds_23 (by decide) (fun c_26 => ?_) (fun c_26 => ?_)
      · have z_b_27 := trivial
        have k_28 : i3_4_z = 0 := z_eq hz_i3_4 ti_0 c_26
        refine lv_iload_n X.1 X.2.1 dX12_holds_125 rfl (lv_at hl 0 rfl) ?_
        have hb01 : i3_4 = 0 ∨ i3_4 = 1 := z_01 hz_i3_4 (by omega) (by omega)
        rw [hQQ]
        exact ret_z X hw hr hlocks (Nat.le_of_ble_eq_true rfl) (Nat.le_of_ble_eq_true rfl) (by assumption) ⟨rfl, (by first | exact Or.inr ⟨iv_7.2 (by omega), i32_eq hz_i3_4 t0 (by omega)⟩ | (rcases (show i3_4_z = 1 ∨ i3_4_z = 0 by omega) with h | h; exact Or.inl ⟨allP_of (fun j c hc => iv_7.1 h j c (by have := (List.getElem?_eq_some_iff.mp hc).1; omega) hc), i32_eq hz_i3_4 t1 h⟩; exact Or.inr ⟨iv_7.2 h, i32_eq hz_i3_4 t0 h⟩))⟩ dX12_holds_126
      · have z_b_29 := trivial
        have k_30 : i3_4_z ≠ 0 := z_ne hz_i3_4 ti_0 c_26
        obtain ⟨cj_31, cj_32⟩ : ∃ c, ru.2.2[(i4_5_z - 4 * a2_z).toNat]? = some c := ⟨_, List.getElem?_eq_getElem (by omega)⟩
        obtain ⟨cj_33, cj_34, cj_35⟩ := hA4 _ _ cj_32
        refine lv_aload_n X.1 X.2.1 dX12_holds_26 rfl (lv_at hl 2 rfl) ?_
        refine lv_iload_n X.1 X.2.1 dX12_holds_27 rfl (lv_at hl 3 rfl) ?_
        refine lv_aload_n X.1 X.2.1 dX12_holds_28 rfl (lv_at hl 2 rfl) ?_
        obtain ⟨q_36, h_37, h_38, h_39⟩ := gQ_12_1224 hG ha_x
        refine r_getR (g := 1224) X hw ha_x rfl 24 h_37 (by decide) rfl inn_X12_holds_12 (by decide) (X.2.2.2.1 (.fieldLink RX12 73 "SilkMillModel" "field" "[I") (by decide +kernel)) rfl (gv_1224 _ _) dX12_holds_29 ?_
        refine lv_iload X.1 X.2.1 dX12_holds_32 (lv_at hl 1 rfl) ?_
        refine r_iald X hw h_38 rfl (by rw [h_39]; exact z_ix hz_i4_5 (by omega) (by omega)) dX12_holds_34 ?_
        refine lv_topi (fun v_40 ev_40 => ?_)
        have rg_41 := And.intro (z_lo v_40) (z_hi v_40)
        have ev_40 := ev_40.symm
        have fj_42 : v_40 = cj_31.1 := by rw [← cj_33, mA_eq h_37, show (4 * a2_z + (((i4_5_z - 4 * a2_z).toNat : Nat) : Int)).toNat = Int32.toNatClampNeg (i4_5) from (by have hq := z_nc (x := i4_5) hz_i4_5 (by omega); omega), ev_40]
        refine k_i (rm := { frames := 5, cells := 0, slots := 0, locals := 240 }) (av := [.ref x, .int (a1), .int (v_40)]) X hw (va_runV (As := [.int (a1), .int (v_40)]) (rest := []) (cfix X) (k_X12_fieldOf5 l G cy κ S _ x (a1) (a1_z) (v_40) (v_40.toInt) A Ev hG ha_x hz_a1 rfl (by omega) (by omega) hp_4 hp_5 hp_6) (cwV 2 X.2.2.2.1 gX12_holds_X12_fieldOf rfl rfl rfl (by decide +kernel) ⟨Nat.le_of_ble_eq_true rfl, Nat.le_of_ble_eq_true rfl⟩) (pre_V X hw _ ha_x rfl (by decide) rfl) rfl rfl hl.1 rfl (lv_room (Nat.le_of_ble_eq_true rfl)) dX12_holds_35 ⟨Nat.le_of_ble_eq_true rfl, Nat.le_of_ble_eq_true rfl⟩) 0 0 (Nat.le_of_ble_eq_true rfl) (Nat.le_of_ble_eq_true rfl) (fun rr_43 S_44 H locs hp hw hfr hnw => ?_)
        obtain ⟨e2, hp⟩ := hp
        subst e2
        obtain ⟨va_45, va_46, va_47⟩ := hp
        refine lv_istore (lv' := [(5, .int (rr_43)), (3, .int (i3_4)), (4, .int (i4_5)), (0, .ref x), (1, .int (a1)), (2, .int (a2))]) X.1 X.2.1 dX12_holds_38 hl (by decide) rfl (fun ls hl => ?_)
        refine lv_aload_n X.1 X.2.1 dX12_holds_40 rfl (lv_at hl 3 rfl) ?_
        obtain ⟨q_48, h_49, h_50, h_51⟩ := gQ_12_1225 hG ha_x
        refine r_getR (g := 1225) X hw ha_x rfl 25 h_49 (by decide) rfl inn_X12_holds_12 (by decide) (X.2.2.2.1 (.fieldLink RX12 76 "SilkMillModel" "rel" "[I") (by decide +kernel)) rfl (gv_1225 _ _) dX12_holds_41 ?_
        refine lv_iload X.1 X.2.1 dX12_holds_44 (lv_at hl 2 rfl) ?_
        refine r_iald X hw h_50 rfl (by rw [h_51]; exact z_ix hz_i4_5 (by omega) (by omega)) dX12_holds_46 ?_
        refine lv_topi (fun v_52 ev_52 => ?_)
        have rg_53 := And.intro (z_lo v_52) (z_hi v_52)
        have ev_52 := ev_52.symm
        have fj_54 : v_52 = relC cj_31.2.1 := by rw [← cj_34, mA_eq h_49, show (4 * a2_z + (((i4_5_z - 4 * a2_z).toNat : Nat) : Int)).toNat = Int32.toNatClampNeg (i4_5) from (by have hq := z_nc (x := i4_5) hz_i4_5 (by omega); omega), ev_52]
        refine lv_if_ne (tgt := 70) X.1 X.2.1 dX12_holds_47 (by decide) (fun c_55 => ?_) (fun c_55 => ?_)
        · have z_b_56 := trivial
          have k_57 : v_52.toInt ≠ 0 := z_ne rfl ti_0 c_55
          refine lv_aload_n X.1 X.2.1 dX12_holds_70 rfl (lv_at hl 3 rfl) ?_
          refine r_getR (g := 1225) X hw ha_x rfl 25 h_49 (by decide) rfl inn_X12_holds_12 (by decide) (X.2.2.2.1 (.fieldLink RX12 76 "SilkMillModel" "rel" "[I") (by decide +kernel)) rfl (gv_1225 _ _) dX12_holds_71 ?_
          refine lv_iload X.1 X.2.1 dX12_holds_74 (lv_at hl 2 rfl) ?_
          refine r_iald X hw h_50 rfl (by rw [h_51]; exact z_ix hz_i4_5 (by omega) (by omega)) dX12_holds_76 ?_
          rw [ev_52]
          refine lv_iconst (v := 1) X.1 X.2.1 dX12_holds_77 (by decide) ?_
          refine lv_icmp_ne (tgt := 101) X.1 X.2.1 dX12_holds_78 (by decide) (fun c_58 => ?_) (fun c_58 => ?_)
          · have z_b_59 := trivial
            have k_60 : v_52.toInt ≠ 1 := z_ne rfl ti_1 c_58
            refine lv_iload X.1 X.2.1 dX12_holds_101 (lv_at hl 0 rfl) ?_
            refine lv_aload_n X.1 X.2.1 dX12_holds_103 rfl (lv_at hl 3 rfl) ?_
            obtain ⟨q_61, h_62, h_63, h_64⟩ := gQ_12_1226 hG ha_x
            refine r_getR (g := 1226) X hw ha_x rfl 26 h_62 (by decide) rfl inn_X12_holds_12 (by decide) (X.2.2.2.1 (.fieldLink RX12 79 "SilkMillModel" "than" "[I") (by decide +kernel)) rfl (gv_1226 _ _) dX12_holds_104 ?_
            refine lv_iload X.1 X.2.1 dX12_holds_107 (lv_at hl 2 rfl) ?_
            refine r_iald X hw h_63 rfl (by rw [h_64]; exact z_ix hz_i4_5 (by omega) (by omega)) dX12_holds_109 ?_
            refine lv_topi (fun v_65 ev_65 => ?_)
            have rg_66 := And.intro (z_lo v_65) (z_hi v_65)
            have ev_65 := ev_65.symm
            have fj_67 : v_65 = cj_31.2.2 := by rw [← cj_35, mA_eq h_62, show (4 * a2_z + (((i4_5_z - 4 * a2_z).toNat : Nat) : Int)).toNat = Int32.toNatClampNeg (i4_5) from (by have hq := z_nc (x := i4_5) hz_i4_5 (by omega); omega), ev_65]
            refine lv_icmp_le (tgt := 117) X.1 X.2.1 dX12_holds_110 (by decide) (fun c_68 => ?_) (fun c_68 => ?_)
            · have z_b_69 := trivial
              have k_70 : rr_43.toInt ≤ v_65.toInt := z_le rfl rfl c_68
              refine lv_iconst (v := 0) X.1 X.2.1 dX12_holds_117 (by decide) ?_
              refine lv_istore_n (lv' := [(3, .int 0), (5, .int (rr_43)), (4, .int (i4_5)), (0, .ref x), (1, .int (a1)), (2, .int (a2))]) X.1 X.2.1 dX12_holds_118 rfl hl (by decide) rfl (fun ls hl => ?_)
              obtain ⟨x_71, ex_71⟩ : ∃ y : Int32, y = i4_5 + 1 := ⟨_, rfl⟩
              have z_72 : x_71.toInt = i4_5_z + 1 := z_add ex_71 hz_i4_5 ti_1 (by omega) (by omega)
              refine lv_iinc (v := x_71) (lv' := [(4, .int (x_71)), (3, .int 0), (5, .int (rr_43)), (0, .ref x), (1, .int (a1)), (2, .int (a2))]) X.1 X.2.1 dX12_holds_119 hl (k := 2) rfl (by rw [ex_71]; rfl) (by decide) rfl (fun ls hl => ?_)
              refine lv_goto (tgt := 7) X.1 X.2.1 dX12_holds_122 (by decide) ?_
              have r5_74 : (relC cj_31.2.1).toInt = v_52.toInt := by rw [← fj_54]
              have rl_73 : ¬ relP cj_31.2.1 (valF Ev A cj_31.1) cj_31.2.2.toInt := by rw [← fj_42, ← va_47, ← fj_67]; first | (rw [rel_0 (i32_eq r5_74 t0 (by omega))]; omega) | (rw [rel_1 (i32_eq r5_74 t1 (by omega))]; omega) | (rw [rel_2 (i32_ne r5_74 t0 (by omega)) (i32_ne r5_74 t1 (by omega))]; omega)
              exact ih_L_3 _ (by omega) _ _ _ (0) (0) (x_71) (x_71.toInt) rfl hw ti_0 (by omega) rfl (by omega) (by omega) (HoP_n cj_32 rl_73) (lv_sub hl [1, 0, 3, 4, 5] rfl)
            · have z_b_75 := trivial
              have k_76 : rr_43.toInt > v_65.toInt := z_nle rfl rfl c_68
              refine lv_iconst (v := 1) X.1 X.2.1 dX12_holds_113 (by decide) ?_
              refine lv_goto (tgt := 118) X.1 X.2.1 dX12_holds_114 (by decide) ?_
              refine lv_istore_n (lv' := [(3, .int 1), (5, .int (rr_43)), (4, .int (i4_5)), (0, .ref x), (1, .int (a1)), (2, .int (a2))]) X.1 X.2.1 dX12_holds_118 rfl hl (by decide) rfl (fun ls hl => ?_)
              obtain ⟨x_77, ex_77⟩ : ∃ y : Int32, y = i4_5 + 1 := ⟨_, rfl⟩
              have z_78 : x_77.toInt = i4_5_z + 1 := z_add ex_77 hz_i4_5 ti_1 (by omega) (by omega)
              refine lv_iinc (v := x_77) (lv' := [(4, .int (x_77)), (3, .int 1), (5, .int (rr_43)), (0, .ref x), (1, .int (a1)), (2, .int (a2))]) X.1 X.2.1 dX12_holds_119 hl (k := 2) rfl (by rw [ex_77]; rfl) (by decide) rfl (fun ls hl => ?_)
              refine lv_goto (tgt := 7) X.1 X.2.1 dX12_holds_122 (by decide) ?_
              have r5_80 : (relC cj_31.2.1).toInt = v_52.toInt := by rw [← fj_54]
              have rl_79 : relP cj_31.2.1 (valF Ev A cj_31.1) cj_31.2.2.toInt := by rw [← fj_42, ← va_47, ← fj_67]; first | (rw [rel_0 (i32_eq r5_80 t0 (by omega))]; omega) | (rw [rel_1 (i32_eq r5_80 t1 (by omega))]; omega) | (rw [rel_2 (i32_ne r5_80 t0 (by omega)) (i32_ne r5_80 t1 (by omega))]; omega)
              exact ih_L_3 _ (by omega) _ _ _ (1) (1) (x_77) (x_77.toInt) rfl hw ti_1 (by omega) rfl (by omega) (by omega) (HoP_y iv_7 (by omega) cj_32 (by omega) (by omega) rl_79) (lv_sub hl [1, 0, 3, 4, 5] rfl)
          · have z_b_81 := trivial
            have k_82 : v_52.toInt = 1 := z_eq rfl ti_1 c_58
            refine lv_iload X.1 X.2.1 dX12_holds_81 (lv_at hl 0 rfl) ?_
            refine lv_aload_n X.1 X.2.1 dX12_holds_83 rfl (lv_at hl 3 rfl) ?_
            obtain ⟨q_83, h_84, h_85, h_86⟩ := gQ_12_1226 hG ha_x
            refine r_getR (g := 1226) X hw ha_x rfl 26 h_84 (by decide) rfl inn_X12_holds_12 (by decide) (X.2.2.2.1 (.fieldLink RX12 79 "SilkMillModel" "than" "[I") (by decide +kernel)) rfl (gv_1226 _ _) dX12_holds_84 ?_
            refine lv_iload X.1 X.2.1 dX12_holds_87 (lv_at hl 2 rfl) ?_
            refine r_iald X hw h_85 rfl (by rw [h_86]; exact z_ix hz_i4_5 (by omega) (by omega)) dX12_holds_89 ?_
            refine lv_topi (fun v_87 ev_87 => ?_)
            have rg_88 := And.intro (z_lo v_87) (z_hi v_87)
            have ev_87 := ev_87.symm
            have fj_89 : v_87 = cj_31.2.2 := by rw [← cj_35, mA_eq h_84, show (4 * a2_z + (((i4_5_z - 4 * a2_z).toNat : Nat) : Int)).toNat = Int32.toNatClampNeg (i4_5) from (by have hq := z_nc (x := i4_5) hz_i4_5 (by omega); omega), ev_87]
            refine lv_icmp_ne (tgt := 97) X.1 X.2.1 dX12_holds_90 (by decide) (fun c_90 => ?_) (fun c_90 => ?_)
            · have z_b_91 := trivial
              have k_92 : rr_43.toInt ≠ v_87.toInt := z_ne rfl rfl c_90
              refine lv_iconst (v := 0) X.1 X.2.1 dX12_holds_97 (by decide) ?_
              refine lv_goto (tgt := 118) X.1 X.2.1 dX12_holds_98 (by decide) ?_
              refine lv_istore_n (lv' := [(3, .int 0), (5, .int (rr_43)), (4, .int (i4_5)), (0, .ref x), (1, .int (a1)), (2, .int (a2))]) X.1 X.2.1 dX12_holds_118 rfl hl (by decide) rfl (fun ls hl => ?_)
              obtain ⟨x_93, ex_93⟩ : ∃ y : Int32, y = i4_5 + 1 := ⟨_, rfl⟩
              have z_94 : x_93.toInt = i4_5_z + 1 := z_add ex_93 hz_i4_5 ti_1 (by omega) (by omega)
              refine lv_iinc (v := x_93) (lv' := [(4, .int (x_93)), (3, .int 0), (5, .int (rr_43)), (0, .ref x), (1, .int (a1)), (2, .int (a2))]) X.1 X.2.1 dX12_holds_119 hl (k := 2) rfl (by rw [ex_93]; rfl) (by decide) rfl (fun ls hl => ?_)
              refine lv_goto (tgt := 7) X.1 X.2.1 dX12_holds_122 (by decide) ?_
              have r5_96 : (relC cj_31.2.1).toInt = v_52.toInt := by rw [← fj_54]
              have rl_95 : ¬ relP cj_31.2.1 (valF Ev A cj_31.1) cj_31.2.2.toInt := by rw [← fj_42, ← va_47, ← fj_89]; first | (rw [rel_0 (i32_eq r5_96 t0 (by omega))]; omega) | (rw [rel_1 (i32_eq r5_96 t1 (by omega))]; omega) | (rw [rel_2 (i32_ne r5_96 t0 (by omega)) (i32_ne r5_96 t1 (by omega))]; omega)
              exact ih_L_3 _ (by omega) _ _ _ (0) (0) (x_93) (x_93.toInt) rfl hw ti_0 (by omega) rfl (by omega) (by omega) (HoP_n cj_32 rl_95) (lv_sub hl [1, 0, 3, 4, 5] rfl)
            · have z_b_97 := trivial
              have k_98 : rr_43.toInt = v_87.toInt := z_eq rfl rfl c_90
              refine lv_iconst (v := 1) X.1 X.2.1 dX12_holds_93 (by decide) ?_
              refine lv_goto (tgt := 118) X.1 X.2.1 dX12_holds_94 (by decide) ?_
              refine lv_istore_n (lv' := [(3, .int 1), (5, .int (rr_43)), (4, .int (i4_5)), (0, .ref x), (1, .int (a1)), (2, .int (a2))]) X.1 X.2.1 dX12_holds_118 rfl hl (by decide) rfl (fun ls hl => ?_)
              obtain ⟨x_99, ex_99⟩ : ∃ y : Int32, y = i4_5 + 1 := ⟨_, rfl⟩
              have z_100 : x_99.toInt = i4_5_z + 1 := z_add ex_99 hz_i4_5 ti_1 (by omega) (by omega)
              refine lv_iinc (v := x_99) (lv' := [(4, .int (x_99)), (3, .int 1), (5, .int (rr_43)), (0, .ref x), (1, .int (a1)), (2, .int (a2))]) X.1 X.2.1 dX12_holds_119 hl (k := 2) rfl (by rw [ex_99]; rfl) (by decide) rfl (fun ls hl => ?_)
              refine lv_goto (tgt := 7) X.1 X.2.1 dX12_holds_122 (by decide) ?_
              have r5_102 : (relC cj_31.2.1).toInt = v_52.toInt := by rw [← fj_54]
              have rl_101 : relP cj_31.2.1 (valF Ev A cj_31.1) cj_31.2.2.toInt := by rw [← fj_42, ← va_47, ← fj_89]; first | (rw [rel_0 (i32_eq r5_102 t0 (by omega))]; omega) | (rw [rel_1 (i32_eq r5_102 t1 (by omega))]; omega) | (rw [rel_2 (i32_ne r5_102 t0 (by omega)) (i32_ne r5_102 t1 (by omega))]; omega)
              exact ih_L_3 _ (by omega) _ _ _ (1) (1) (x_99) (x_99.toInt) rfl hw ti_1 (by omega) rfl (by omega) (by omega) (HoP_y iv_7 (by omega) cj_32 (by omega) (by omega) rl_101) (lv_sub hl [1, 0, 3, 4, 5] rfl)
        · have z_b_103 := trivial
          have k_104 : v_52.toInt = 0 := z_eq rfl ti_0 c_55
          refine lv_iload X.1 X.2.1 dX12_holds_50 (lv_at hl 0 rfl) ?_
          refine lv_aload_n X.1 X.2.1 dX12_holds_52 rfl (lv_at hl 3 rfl) ?_
          obtain ⟨q_105, h_106, h_107, h_108⟩ := gQ_12_1226 hG ha_x
          refine r_getR (g := 1226) X hw ha_x rfl 26 h_106 (by decide) rfl inn_X12_holds_12 (by decide) (X.2.2.2.1 (.fieldLink RX12 79 "SilkMillModel" "than" "[I") (by decide +kernel)) rfl (gv_1226 _ _) dX12_holds_53 ?_
          refine lv_iload X.1 X.2.1 dX12_holds_56 (lv_at hl 2 rfl) ?_
          refine r_iald X hw h_107 rfl (by rw [h_108]; exact z_ix hz_i4_5 (by omega) (by omega)) dX12_holds_58 ?_
          refine lv_topi (fun v_109 ev_109 => ?_)
          have rg_110 := And.intro (z_lo v_109) (z_hi v_109)
          have ev_109 := ev_109.symm
          have fj_111 : v_109 = cj_31.2.2 := by rw [← cj_35, mA_eq h_106, show (4 * a2_z + (((i4_5_z - 4 * a2_z).toNat : Nat) : Int)).toNat = Int32.toNatClampNeg (i4_5) from (by have hq := z_nc (x := i4_5) hz_i4_5 (by omega); omega), ev_109]
          refine lv_icmp_ge (tgt := 66) X.1 X.2.1 dX12_holds_59 (by decide) (fun c_112 => ?_) (fun c_112 => ?_)
          · have z_b_113 := trivial
            have k_114 : rr_43.toInt ≥ v_109.toInt := z_le rfl rfl c_112
            refine lv_iconst (v := 0) X.1 X.2.1 dX12_holds_66 (by decide) ?_
            refine lv_goto (tgt := 118) X.1 X.2.1 dX12_holds_67 (by decide) ?_
            refine lv_istore_n (lv' := [(3, .int 0), (5, .int (rr_43)), (4, .int (i4_5)), (0, .ref x), (1, .int (a1)), (2, .int (a2))]) X.1 X.2.1 dX12_holds_118 rfl hl (by decide) rfl (fun ls hl => ?_)
            obtain ⟨x_115, ex_115⟩ : ∃ y : Int32, y = i4_5 + 1 := ⟨_, rfl⟩
            have z_116 : x_115.toInt = i4_5_z + 1 := z_add ex_115 hz_i4_5 ti_1 (by omega) (by omega)
            refine lv_iinc (v := x_115) (lv' := [(4, .int (x_115)), (3, .int 0), (5, .int (rr_43)), (0, .ref x), (1, .int (a1)), (2, .int (a2))]) X.1 X.2.1 dX12_holds_119 hl (k := 2) rfl (by rw [ex_115]; rfl) (by decide) rfl (fun ls hl => ?_)
            refine lv_goto (tgt := 7) X.1 X.2.1 dX12_holds_122 (by decide) ?_
            have r5_118 : (relC cj_31.2.1).toInt = v_52.toInt := by rw [← fj_54]
            have rl_117 : ¬ relP cj_31.2.1 (valF Ev A cj_31.1) cj_31.2.2.toInt := by rw [← fj_42, ← va_47, ← fj_111]; first | (rw [rel_0 (i32_eq r5_118 t0 (by omega))]; omega) | (rw [rel_1 (i32_eq r5_118 t1 (by omega))]; omega) | (rw [rel_2 (i32_ne r5_118 t0 (by omega)) (i32_ne r5_118 t1 (by omega))]; omega)
            exact ih_L_3 _ (by omega) _ _ _ (0) (0) (x_115) (x_115.toInt) rfl hw ti_0 (by omega) rfl (by omega) (by omega) (HoP_n cj_32 rl_117) (lv_sub hl [1, 0, 3, 4, 5] rfl)
          · have z_b_119 := trivial
            have k_120 : rr_43.toInt < v_109.toInt := z_nle rfl rfl c_112
            refine lv_iconst (v := 1) X.1 X.2.1 dX12_holds_62 (by decide) ?_
            refine lv_goto (tgt := 118) X.1 X.2.1 dX12_holds_63 (by decide) ?_
            refine lv_istore_n (lv' := [(3, .int 1), (5, .int (rr_43)), (4, .int (i4_5)), (0, .ref x), (1, .int (a1)), (2, .int (a2))]) X.1 X.2.1 dX12_holds_118 rfl hl (by decide) rfl (fun ls hl => ?_)
            obtain ⟨x_121, ex_121⟩ : ∃ y : Int32, y = i4_5 + 1 := ⟨_, rfl⟩
            have z_122 : x_121.toInt = i4_5_z + 1 := z_add ex_121 hz_i4_5 ti_1 (by omega) (by omega)
            refine lv_iinc (v := x_121) (lv' := [(4, .int (x_121)), (3, .int 1), (5, .int (rr_43)), (0, .ref x), (1, .int (a1)), (2, .int (a2))]) X.1 X.2.1 dX12_holds_119 hl (k := 2) rfl (by rw [ex_121]; rfl) (by decide) rfl (fun ls hl => ?_)
            refine lv_goto (tgt := 7) X.1 X.2.1 dX12_holds_122 (by decide) ?_
            have r5_124 : (relC cj_31.2.1).toInt = v_52.toInt := by rw [← fj_54]
            have rl_123 : relP cj_31.2.1 (valF Ev A cj_31.1) cj_31.2.2.toInt := by rw [← fj_42, ← va_47, ← fj_111]; first | (rw [rel_0 (i32_eq r5_124 t0 (by omega))]; omega) | (rw [rel_1 (i32_eq r5_124 t1 (by omega))]; omega) | (rw [rel_2 (i32_ne r5_124 t0 (by omega)) (i32_ne r5_124 t1 (by omega))]; omega)
            exact ih_L_3 _ (by omega) _ _ _ (1) (1) (x_121) (x_121.toInt) rfl hw ti_1 (by omega) rfl (by omega) (by omega) (HoP_y iv_7 (by omega) cj_32 (by omega) (by omega) rl_123) (lv_sub hl [1, 0, 3, 4, 5] rfl)
  exact L_3 _ _ _ _ (1) (1) (v_1) ((4 * a2_z)) rfl hw ti_1 (by omega) z_2 (by omega) (by omega) (HoP_0 (by omega)) (lv_sub hl [1, 0, 2, 3, 4] rfl)
