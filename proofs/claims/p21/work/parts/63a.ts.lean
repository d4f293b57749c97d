/-! ===== which cocoons break; what a test draws ===== -/
def brI (sd fr i p : Int32) : Prop := (prt (nxt (sd + 131 * i + 17 * p)) 1000).toInt < fr.toInt
def brA (sd fr i : Int32) (n : Int) : Prop := ∃ p : Nat, (p : Int) < n ∧ brI sd fr i (Int32.ofInt (p : Int))
noncomputable def bZ (q : Prop) : Int := @ite Int q (Classical.propDecidable q) 1 0
theorem bZ_y {q : Prop} (h : q) : bZ q = 1 := if_pos h
theorem bZ_n {q : Prop} (h : ¬ q) : bZ q = 0 := if_neg h
theorem bZ_eq {q r : Prop} (h : q ↔ r) : bZ q = bZ r := by rw [propext h]
theorem tsF_ex (B : Int → Int) : ∃ f : Nat → List Int → Int32 → Int, f = fun n => Nat.rec (motive := fun _ => List Int → Int32 → Int) (fun _ _ => 0) (fun _ ih L x => B (L.getD (prt (nxt x) (Int32.ofInt (L.length : Int))).toInt.toNat 0) + ih (L.eraseIdx (prt (nxt x) (Int32.ofInt (L.length : Int))).toInt.toNat) (nxt x)) n := ⟨_, rfl⟩
noncomputable def tsF (B : Int → Int) : Nat → List Int → Int32 → Int := Classical.choose (tsF_ex B)
theorem tsF_0 (B : Int → Int) (L : List Int) (x : Int32) : tsF B 0 L x = 0 := by
  unfold tsF
  rw [Classical.choose_spec (tsF_ex B)]
  rfl
theorem tsF_s (B : Int → Int) (n : Nat) (L : List Int) (x : Int32) : tsF B (n + 1) L x = B (L.getD (prt (nxt x) (Int32.ofInt (L.length : Int))).toInt.toNat 0) + tsF B n (L.eraseIdx (prt (nxt x) (Int32.ofInt (L.length : Int))).toInt.toNat) (nxt x) := by
  unfold tsF
  rw [Classical.choose_spec (tsF_ex B)]
/-- the first n of a row of numbers -/
theorem lk_ex (f : Nat → Int) (n : Nat) : ∃ L : List Int, L = (List.range n).map (fun k => f k) := ⟨_, rfl⟩
noncomputable def lkL (f : Nat → Int) (n : Nat) : List Int := Classical.choose (lk_ex f n)
theorem lk_eq (f : Nat → Int) (n : Nat) : lkL f n = (List.range n).map (fun k => f k) := Classical.choose_spec (lk_ex f n)
theorem lk_len (f : Nat → Int) (n : Nat) : (lkL f n).length = n := by rw [lk_eq, List.length_map, List.length_range]
theorem lk_get {f : Nat → Int} {n a : Nat} (h : a < n) : (lkL f n).getD a 0 = f a := by
  rw [List.getD_eq_getElem?_getD, List.getElem?_eq_getElem (by rw [lk_len]; exact h)]
  show (lkL f n)[a]'(by rw [lk_len]; exact h) = _
  have e := lk_eq f n
  rw [show (lkL f n)[a]'(by rw [lk_len]; exact h) = ((List.range n).map (fun k => f k))[a]'(by rw [List.length_map, List.length_range]; exact h) from by congr 1]
  rw [List.getElem_map, List.getElem_range]
theorem lk_app {f g : Nat → Int} {n : Nat} {v : Int} (hg : ∀ j, g j = if j = n then v else f j) : lkL g (n + 1) = lkL f n ++ [v] := by
  rw [lk_eq, lk_eq, List.range_succ, List.map_append]
  congr 1
  · apply List.map_congr_left
    intro k hk
    have := List.mem_range.mp hk
    rw [hg k, if_neg (by omega)]
  · show [g n] = [v]
    rw [hg n, if_pos rfl]
theorem lk_er {f g : Nat → Int} {n a : Nat} (ha : a < n + 1) (hg : ∀ k, k < n → g k = if k < a then f k else f (k + 1)) : lkL g n = (lkL f (n + 1)).eraseIdx a := by
  rw [lk_eq, lk_eq]
  apply List.ext_getElem
  · rw [List.length_map, List.length_range, List.length_eraseIdx, List.length_map, List.length_range, if_pos (by omega)]
    rfl
  · intro i h1 h2
    rw [List.length_map, List.length_range] at h1
    rw [List.getElem_map, List.getElem_range, List.getElem_eraseIdx, hg i h1]
    split
    · rw [List.getElem_map, List.getElem_range]
    · rw [List.getElem_map, List.getElem_range]
/-- those below n of which q holds -/
noncomputable def flL (q : Nat → Prop) (n : Nat) : List Int := ((List.range n).filter (fun i => @decide (q i) (Classical.propDecidable _))).map (fun i : Nat => (i : Int))
theorem fl_y {q : Nat → Prop} {n : Nat} (h : q n) : flL q (n + 1) = flL q n ++ [(n : Int)] := by
  unfold flL
  rw [List.range_succ, List.filter_append, List.filter_cons_of_pos (by simpa using h), List.filter_nil, List.map_append]
  rfl
theorem fl_n {q : Nat → Prop} {n : Nat} (h : ¬ q n) : flL q (n + 1) = flL q n := by
  unfold flL
  rw [List.range_succ, List.filter_append, List.filter_cons_of_neg (by simpa using h), List.filter_nil, List.append_nil]
theorem fl_0 (q : Nat → Prop) : flL q 0 = [] := rfl
theorem fl_eq {q r : Nat → Prop} : ∀ {n : Nat}, (∀ i, i < n → (q i ↔ r i)) → flL q n = flL r n
  | 0, _ => rfl
  | n + 1, h => by
    by_cases e : q n
    · rw [fl_y e, fl_y ((h n (by omega)).mp e), fl_eq (fun i hi => h i (by omega))]
    · rw [fl_n e, fl_n (fun z => e ((h n (by omega)).mpr z)), fl_eq (fun i hi => h i (by omega))]
theorem fl_cut {q : Nat → Prop} {m : Nat} : ∀ {n : Nat}, m ≤ n → (∀ i, m ≤ i → ¬ q i) → flL q n = flL q m
  | 0, h, _ => by rw [show m = 0 by omega]
  | n + 1, h, hq => by
    by_cases e : m = n + 1
    · rw [e]
    · rw [fl_n (hq n (by omega)), fl_cut (by omega) hq]
theorem fl_mono {q : Nat → Prop} {i : Nat} (hi : q i) : ∀ {n : Nat}, i < n → (flL q i).length < (flL q n).length
  | 0, h => by omega
  | n + 1, h => by
    by_cases e : i = n
    · subst e
      rw [fl_y hi, List.length_append]
      show _ < _ + 1
      omega
    · have g := fl_mono hi (n := n) (by omega)
      by_cases qn : q n
      · rw [fl_y qn, List.length_append]
        show _ < _ + 1
        omega
      · rw [fl_n qn]; exact g
/-- the a-th of them: its place, and the row without it -/
theorem fl_pick {q r : Nat → Prop} {i : Nat} (hi : q i) (hr : ∀ j, r j ↔ (q j ∧ j ≠ i)) : ∀ {n : Nat}, i < n → (flL q n).getD (flL q i).length 0 = (i : Int) ∧ flL r n = (flL q n).eraseIdx (flL q i).length
  | 0, h => by omega
  | n + 1, h => by
    by_cases e : i = n
    · subst e
      rw [fl_y hi, fl_n (fun z => ((hr i).mp z).2 rfl), fl_eq (fun j hj => (hr j).trans ⟨fun z => z.1, fun z => ⟨z, by omega⟩⟩)]
      refine ⟨?_, ?_⟩
      · rw [List.getD_eq_getElem?_getD, List.getElem?_append_right (Nat.le_refl _), Nat.sub_self]; rfl
      · rw [List.eraseIdx_append_of_length_le (Nat.le_refl _), Nat.sub_self]
        show _ = flL q i ++ []
        rw [List.append_nil]
    · obtain ⟨k1, k2⟩ := fl_pick (n := n) hi hr (by omega)
      have hlt : (flL q i).length < (flL q n).length := fl_mono hi (by omega)
      by_cases qn : q n
      · rw [fl_y qn, fl_y ((hr n).mpr ⟨qn, fun z => e z.symm⟩), k2]
        refine ⟨?_, ?_⟩
        · rw [List.getD_eq_getElem?_getD, List.getElem?_append_left hlt, ← List.getD_eq_getElem?_getD]; exact k1
        · rw [List.eraseIdx_append_of_lt_length hlt]
      · rw [fl_n qn, fl_n (fun z => qn ((hr n).mp z).1)]; exact ⟨k1, k2⟩
/-! ===== over Int ===== -/
noncomputable def flZ (q : Int → Prop) (k : Int) : List Int := flL (fun i : Nat => q (i : Int)) k.toNat
noncomputable def lkZ (f : Nat → Int) (k : Int) : List Int := lkL f k.toNat
theorem lf_0 {f : Nat → Int} {q : Int → Prop} : lkZ f 0 = flZ q 0 := by
  unfold lkZ flZ
  rw [lk_eq]
  rfl
theorem flZ_y {q : Int → Prop} {k k1 : Int} (h0 : 0 ≤ k) (e : k1 = k + 1) (h : q k) : flZ q k1 = flZ q k ++ [k] := by
  unfold flZ
  rw [show k1.toNat = k.toNat + 1 by omega, fl_y (q := fun i : Nat => q (i : Int)) (show q ((k.toNat : Nat) : Int) by rw [show ((k.toNat : Nat) : Int) = k by omega]; exact h), show ((k.toNat : Nat) : Int) = k by omega]
theorem flZ_n {q : Int → Prop} {k k1 : Int} (h0 : 0 ≤ k) (e : k1 = k + 1) (h : ¬ q k) : flZ q k1 = flZ q k := by
  unfold flZ
  rw [show k1.toNat = k.toNat + 1 by omega, fl_n (q := fun i : Nat => q (i : Int)) (show ¬ q ((k.toNat : Nat) : Int) by rw [show ((k.toNat : Nat) : Int) = k by omega]; exact h)]
theorem lkZ_app {f g : Nat → Int} {n n1 v : Int} (h0 : 0 ≤ n) (e : n1 = n + 1) (hg : ∀ j, g j = if j = n.toNat then v else f j) : lkZ g n1 = lkZ f n ++ [v] := by
  unfold lkZ
  rw [show n1.toNat = n.toNat + 1 by omega]
  exact lk_app hg
theorem lkZ_len {f : Nat → Int} {n : Int} {L : List Int} (h0 : 0 ≤ n) (h : lkZ f n = L) : n = (L.length : Int) := by
  rw [← h]
  unfold lkZ
  rw [lk_len]
  omega
theorem lkZ_er {f g : Nat → Int} {n n1 a : Int} {s d m : Nat} (ha : 0 ≤ a) (h : a < n) (e : n1 = n - 1) (hd : d = a.toNat) (hs : s = (a + 1).toNat) (hm : m = (n1 - a).toNat) (hg : ∀ j, g j = if d ≤ j ∧ j < d + m then f (s + (j - d)) else f j) : lkZ g n1 = (lkZ f n).eraseIdx a.toNat := by
  unfold lkZ
  rw [show n.toNat = n1.toNat + 1 by omega]
  refine lk_er (by omega) (fun k hk => ?_)
  rw [hg k]
  by_cases e2 : k < a.toNat
  · rw [if_pos e2, if_neg (by omega)]
  · rw [if_neg e2, if_pos (by omega), show s + (k - d) = k + 1 by omega]
theorem oi_e {v : Int32} {z : Int} (h : v.toInt = z) : Int32.ofInt z = v := by rw [← h]; exact Int32.ofInt_toInt v
theorem ts_step {B : Int → Int} {f g : Nat → Int} {y y' at_ lf : Int32} {n n1 k k1 b b1 v az R : Int} (iv : b + tsF B k.toNat (lkZ f n) y = R) (hk : 0 < k) (ek : k1 = k - 1) (hn : 0 < n) (hy : y' = nxt y) (hl : lf.toInt = n) (ha : at_ = prt y' lf) (haz : at_.toInt = az) (h0 : 0 ≤ az) (h1 : az < n) (hf : f az.toNat = v) (hb : b1 = b + B v) (he : lkZ g n1 = (lkZ f n).eraseIdx az.toNat) : b1 + tsF B k1.toNat (lkZ g n1) y' = R := by
  rw [show k.toNat = k1.toNat + 1 by omega, tsF_s] at iv
  have hL : Int32.ofInt ((lkZ f n).length : Int) = lf := by
    rw [← lkZ_len (f := f) (by omega) rfl]
    exact oi_e hl
  rw [hL, ← hy, ← ha, haz, ← he, show (lkZ f n).getD az.toNat 0 = v by rw [← hf]; exact lk_get (by omega)] at iv
  omega
theorem cF_fl (f : Nat → Int) : ∀ n : Nat, cF f 0 n = ((flL (fun i => f i = 0) n).length : Int)
  | 0 => rfl
  | n + 1 => by
    rw [cF_snoc, cF_fl f n, Nat.zero_add]
    by_cases e : f n = 0
    · rw [if_pos e, fl_y (q := fun i => f i = 0) e, List.length_append]
      rfl
    · rw [if_neg e, fl_n (q := fun i => f i = 0) e]
      omega
def OuQ (f : Nat → Int) : Int → Prop := fun i => f i.toNat = 0
theorem Ou_fl (f : Nat → Int) (N : Int) : flZ (OuQ f) N = flL (fun i => f i = 0) N.toNat := by
  unfold flZ OuQ
  exact fl_eq (fun i _ => by show f ((i : Int).toNat) = 0 ↔ _; rw [Int.toNat_natCast])
theorem ou_eq {f : Nat → Int} {r : Int → Prop} {N : Int} (h : ∀ j : Nat, (j : Int) < N → (f j = 0 ↔ r (j : Int))) : flZ (OuQ f) N = flZ r N := by
  rw [Ou_fl]
  unfold flZ
  exact fl_eq (fun i hi => h i (by omega))
theorem cF_z {f : Nat → Int} {i i1 : Int} (h0 : 0 ≤ i) (e : i1 = i + 1) : (f i.toNat = 0 → cF f 0 i1.toNat = cF f 0 i.toNat + 1) ∧ (f i.toNat ≠ 0 → cF f 0 i1.toNat = cF f 0 i.toNat) := by
  rw [show i1.toNat = i.toNat + 1 by omega, cF_snoc, Nat.zero_add]
  refine ⟨fun h => by rw [if_pos h], fun h => by rw [if_neg h, Int.add_zero]⟩
theorem ts_stepR {B : Int → Int} {f g : Nat → Int} {y y' lf sk : Int32} {N n k k1 b b1 i skz R : Int} (iv : b + tsF B k.toNat (flZ (OuQ f) N) y = R) (hk : 0 < k) (ek : k1 = k - 1) (hlen : rsF f 0 N = n) (hy : y' = nxt y) (hl : lf.toInt = n) (hs : sk = prt y' lf) (hsz : sk.toInt = skz) (hi0 : 0 ≤ i) (hi : i < N) (hf : f i.toNat = 0) (hc : cF f 0 i.toNat = skz) (hg : ∀ j, g j = if j = i.toNat then 1 else f j) (hb : b1 = b + B i) : b1 + tsF B k1.toNat (flZ (OuQ g) N) y' = R := by
  rw [show k.toNat = k1.toNat + 1 by omega, tsF_s] at iv
  have e1 : ((flZ (OuQ f) N).length : Int) = n := by
    rw [Ou_fl, ← cF_fl, ← hlen]
    unfold rsF
    rw [show (0 : Int).toNat = 0 from rfl, show (N - 0).toNat = N.toNat by omega]
  rw [e1, oi_e hl, ← hy, ← hs, hsz, Ou_fl] at iv
  have e2 : skz.toNat = (flL (fun i => f i = 0) i.toNat).length := by
    have h := cF_fl f i.toNat
    omega
  obtain ⟨p1, p2⟩ := fl_pick (q := fun i => f i = 0) (r := fun i => g i = 0) (i := i.toNat) hf (fun j => by
    show g j = 0 ↔ f j = 0 ∧ j ≠ i.toNat
    rw [hg j]
    by_cases e : j = i.toNat
    · rw [if_pos e]
      exact ⟨fun z => absurd z (by decide), fun z => absurd e z.2⟩
    · rw [if_neg e]
      exact ⟨fun z => ⟨z, e⟩, fun z => z.1⟩) (n := N.toNat) (by omega)
  rw [e2, p1, ← p2, show ((i.toNat : Nat) : Int) = i by omega, ← Ou_fl] at iv
  rw [hb]
  omega
theorem brA_0 {sd fr i : Int32} : bZ (brA sd fr i 0) = 0 := bZ_n (fun ⟨p, h, _⟩ => by omega)
theorem br_1 {sd fr i : Int32} {d n n1 : Int} (h : d = bZ (brA sd fr i n)) (hd : d ≠ 0) (e : n1 = n + 1) : 1 = bZ (brA sd fr i n1) := by
  by_cases q : brA sd fr i n
  · obtain ⟨p, h1, h2⟩ := q
    exact (bZ_y ⟨p, by omega, h2⟩).symm
  · rw [bZ_n q] at h
    exact absurd h hd
theorem br_2 {sd fr i p : Int32} {n n1 : Int} (hp : p.toInt = n) (h0 : 0 ≤ n) (hb : brI sd fr i p) (e : n1 = n + 1) : 1 = bZ (brA sd fr i n1) := (bZ_y ⟨n.toNat, by omega, by rw [show ((n.toNat : Nat) : Int) = n by omega, oi_e hp]; exact hb⟩).symm
theorem br_3 {sd fr i p : Int32} {d n n1 : Int} (h : d = bZ (brA sd fr i n)) (hd : d = 0) (hp : p.toInt = n) (hb : ¬ brI sd fr i p) (e : n1 = n + 1) : 0 = bZ (brA sd fr i n1) := by
  refine (bZ_n (fun ⟨q, h1, h2⟩ => ?_)).symm
  by_cases e2 : (q : Int) = n
  · rw [e2, oi_e hp] at h2
    exact hb h2
  · rw [bZ_y (q := brA sd fr i n) ⟨q, by omega, h2⟩] at h
    omega
/-! ===== the class ===== -/
def ccQ (S : PS) (x : Nat) (l i : Int) (p : Nat → Prop) : Prop := InC S x l i ∧ ∃ c, mB S x 1100 (60 * l + i).toNat = some c ∧ p c
theorem cc_fr {M : List Nat} {S T : PS} {x : Nat} {l i : Int} {p q : Nat → Prop} (hG : GX S) (hx : At S x 11) (hF : Fr M S T) (hM : ctC.all (fun g => !M.contains g) = true) (hpq : ∀ c, At S c 0 → (q c ↔ p c)) : ccQ T x l i q ↔ ccQ S x l i p := by
  unfold ccQ
  have eB : mB T x 1100 = mB S x 1100 := mB_frc hF hx (ex3 (gQ_11_1100 hG hx)) (allc hM (by decide)) (allc hM (by decide))
  have eI : InC T x l i ↔ InC S x l i := by
    unfold InC
    rw [hF.I' (g := 1102) (allc hM (by decide)) hx rfl, zA_of_mA (mA_frc (g := 1101) hF hx (ex3 (gQ_11_1101 hG hx)) (allc hM (by decide)) (allc hM (by decide)))]
  rw [eB]
  constructor
  · rintro ⟨h1, c, h2, h3⟩
    exact ⟨eI.mp h1, c, h2, (hpq c (mB_at hG hx h2)).mp h3⟩
  · rintro ⟨h1, c, h2, h3⟩
    exact ⟨eI.mpr h1, c, h2, (hpq c (mB_at hG hx h2)).mpr h3⟩
def IdC (S : PS) (x : Nat) (l : Int) : Int → Prop := fun i => ccQ S x l i (fun c => pI S 3 c = 0)
def BrC (S : PS) (x : Nat) (l : Int) : Int → Prop := fun i => ccQ S x l i (fun c => brA (pI S 7 c) (pI S 9 c) (pI S 1 c) (pI S 2 c).toInt)
theorem IdC_fr {M : List Nat} {S T : PS} {x : Nat} {l i : Int} (hG : GX S) (hx : At S x 11) (hF : Fr M S T) (hM : ctC.all (fun g => !M.contains g) = true) (h3 : M.contains 3 = false) : IdC T x l i ↔ IdC S x l i := cc_fr hG hx hF hM (fun c hc => by rw [hF.I' h3 hc rfl])
theorem BrC_fr {M : List Nat} {S T : PS} {x : Nat} {l i : Int} (hG : GX S) (hx : At S x 11) (hF : Fr M S T) (hM : ctC.all (fun g => !M.contains g) = true) (h3 : ([1, 2, 7, 9] : List Nat).all (fun g => !M.contains g) = true) : BrC T x l i ↔ BrC S x l i := cc_fr hG hx hF hM (fun c hc => by rw [hF.I' (g := 7) (allc h3 (by decide)) hc rfl, hF.I' (g := 9) (allc h3 (by decide)) hc rfl, hF.I' (g := 1) (allc h3 (by decide)) hc rfl, hF.I' (g := 2) (allc h3 (by decide)) hc rfl])
noncomputable def BZ (S : PS) (x : Nat) (l : Int) : Int → Int := fun i => bZ (BrC S x l i)
theorem BZ_y {S : PS} {x : Nat} {l i : Int} (h : BrC S x l i) : BZ S x l i = 1 := bZ_y h
theorem BZ_n {S : PS} {x : Nat} {l i : Int} (h : ¬ BrC S x l i) : BZ S x l i = 0 := bZ_n h
def TsC (S : PS) (x : Nat) (l n : Int) : Prop := 0 ≤ l ∧ l < (pI S 1102 x).toInt ∧ 0 ≤ n ∧ n ≤ ((flZ (IdC S x l) 60).length : Int)
theorem cpy_zA1 {S T : PS} {x g v f d n : Nat} (hv : pR S g x = some v) (e : T = sA S v (va_cpy (pA S v) (pA S v) f d n)) : ∀ j, zA T x g j = if d ≤ j ∧ j < d + n then zA S x g (f + (j - d)) else zA S x g j := fun j => by
  subst e
  rw [zA_eq, zA_eq, zA_eq, mA_eq hv, mA_eq (show pR (sA S v (va_cpy (pA S v) (pA S v) f d n)) g x = some v by rw [pR_sA]; exact hv), show pA (sA S v (va_cpy (pA S v) (pA S v) f d n)) v = va_cpy (pA S v) (pA S v) f d n from if_pos rfl]
  unfold va_cpy
  split <;> rfl
/-! ===== the reference ===== -/
def StR (S : PS) (x : Nat) (l : Int) : Int → Prop := fun i => zA S x 1207 (60 * l + i).toNat = 0
def BrP (S : PS) (x : Nat) (c n : Int) : Prop := brA (mA S x 1203 (c / 60).toNat) (mA S x 1206 (c / 60).toNat) (Int32.ofInt (c % 60)) n
noncomputable def BR (S : PS) (x : Nat) (l : Int) : Int → Int := fun i => bZ ((0 ≤ i ∧ i < zA S x 1202 l.toNat) ∧ BrP S x (60 * l + i) (lenZ S x (60 * l + i)))
theorem BR_y {S : PS} {x : Nat} {l i n d : Int} (h0 : 0 ≤ i) (h1 : i < zA S x 1202 l.toNat) (hd : d = bZ (BrP S x (60 * l + i) n)) (hn : n = lenZ S x (60 * l + i)) : BR S x l i = d := by
  unfold BR
  rw [hd, hn]
  exact bZ_eq ⟨fun h => h.2, fun h => ⟨⟨h0, h1⟩, h⟩⟩
def TsR (S : PS) (x : Nat) (l n : Int) : Prop := 0 ≤ l ∧ l < (pI S 1201 x).toInt ∧ 0 ≤ n ∧ n ≤ ((flZ (StR S x l) (zA S x 1202 l.toNat)).length : Int)

set_option maxHeartbeats 4000000 in
set_option maxRecDepth 100000 in
theorem k_X0_breaksAt3 (l : Launch) (G : va_G) (cy : Nat → ClassId) (κ : Nat → Nat) (S : PS) (sz : Nat) (x : Nat) (a1 : Int32) (a1_z : Int) (hG : GX S) (ha_x : At S x 0) (hz_a1 : a1.toInt = a1_z) : Ci l yX0_breaksAt wsX0_breaksAt ({ frames := 2, cells := 0, slots := 0, locals := 96 }) G cy κ S sz [.ref x, .int (a1)] (fun (r : Int32) (S9 : PS) => S = S9 ∧ (((brI (pI S 7 x) (pI S 9 x) (pI S 1 x) a1) ∧ r = 1) ∨ ((¬ brI (pI S 7 x) (pI S 9 x) (pI S 1 x) a1) ∧ r = 0))) := by
  refine ent_m (cc := cX0_breaksAt) (maxL := 2) (ret := (some .boolean)) (by decide) rfl (Nat.le_of_ble_eq_true rfl) ?_
  intro p e s m below meth c ls X hr hlocks hin hw hl hsz
  subst hsz
  have X : Cx p c cX0_breaksAt 2 s [.ref x, .int (a1)].toArray wsX0_breaksAt RX0 m G cy κ (AS S s.heap.size) := X
  have hl : lv_has ls 2 [(0, .ref x), (1, .int (a1))] := hl
  have rg_a1 : (-2147483648) ≤ a1_z ∧ a1_z ≤ 2147483647 := by rw [← hz_a1]; exact ⟨z_lo _, z_hi _⟩
  refine lv_aload_n X.1 X.2.1 dX0_breaksAt_0 rfl (lv_at hl 0 rfl) ?_
  obtain ⟨v_1, ev_1⟩ : ∃ v, pI S 7 x = v := ⟨_, rfl⟩
  have rg_3 := And.intro (z_lo v_1) (z_hi v_1)
  have pz_4 : (pI S 7 x).toInt = v_1.toInt := by rw [ev_1]
  refine r_getI (g := 7) (x := v_1) X hw ha_x rfl 7 ev_1 (by decide) rfl inn_X0_breaksAt_0 (by decide) (X.2.2.2.1 (.fieldLink RX0 24 "SilkMill$Cocoon" "seed" "I") (by decide +kernel)) rfl (gv_7 _ _) dX0_breaksAt_1 ?_
  refine lv_sipush (v := 131) X.1 X.2.1 dX0_breaksAt_4 (by decide) ?_
  refine lv_aload_n X.1 X.2.1 dX0_breaksAt_7 rfl (lv_at hl 0 rfl) ?_
  obtain ⟨v_5, ev_5⟩ : ∃ v, pI S 1 x = v := ⟨_, rfl⟩
  have rg_7 := And.intro (z_lo v_5) (z_hi v_5)
  have pz_8 : (pI S 1 x).toInt = v_5.toInt := by rw [ev_5]
  refine r_getI (g := 1) (x := v_5) X hw ha_x rfl 1 ev_5 (by decide) rfl inn_X0_breaksAt_0 (by decide) (X.2.2.2.1 (.fieldLink RX0 21 "SilkMill$Cocoon" "index" "I") (by decide +kernel)) rfl (gv_1 _ _) dX0_breaksAt_8 ?_
  refine lv_imul X.1 X.2.1 dX0_breaksAt_11 ?_
  refine lv_topi (fun v_9 ev_9 => ?_)
  have rg_10 := And.intro (z_lo v_9) (z_hi v_9)
  refine lv_iadd X.1 X.2.1 dX0_breaksAt_12 ?_
  refine lv_topi (fun v_11 ev_11 => ?_)
  have rg_12 := And.intro (z_lo v_11) (z_hi v_11)
  refine lv_bipush (v := 17) X.1 X.2.1 dX0_breaksAt_13 (by decide) ?_
  refine lv_iload_n X.1 X.2.1 dX0_breaksAt_15 rfl (lv_at hl 1 rfl) ?_
  refine lv_imul X.1 X.2.1 dX0_breaksAt_16 ?_
  refine lv_topi (fun v_13 ev_13 => ?_)
  have rg_14 := And.intro (z_lo v_13) (z_hi v_13)
  refine lv_iadd X.1 X.2.1 dX0_breaksAt_17 ?_
  refine lv_topi (fun v_15 ev_15 => ?_)
  have rg_16 := And.intro (z_lo v_15) (z_hi v_15)
  refine k_i (rm := { frames := 1, cells := 0, slots := 0, locals := 48 }) (av := [.int (v_15)]) X hw (va_runSN (As := [.int (v_15)]) (rest := []) (cfix X) (k_X11_next2 l G cy κ S _ (v_15) (v_15.toInt) hG rfl) ⟨(va_cnB (host := RX11) 1 X.2.2.2.1 gX0_breaksAt_X11_next_n30 rfl rfl rfl (X.2.2.2.2.2.2.2.1.2.1 (RX0, 30, yX11_next) (by decide +kernel)) (X.2.2.2.1 (.initialized RX11) (by decide +kernel)) (by decide +kernel) ⟨Nat.le_of_ble_eq_true rfl, Nat.le_of_ble_eq_true rfl⟩), (X.2.2.2.1 (.static yX11_next) (by decide +kernel)), trivial⟩ (pre_S X hw _) rfl rfl hl.1 rfl (lv_room (Nat.le_of_ble_eq_true rfl)) dX0_breaksAt_18 ⟨Nat.le_of_ble_eq_true rfl, Nat.le_of_ble_eq_true rfl⟩) 0 0 (Nat.le_of_ble_eq_true rfl) (Nat.le_of_ble_eq_true rfl) (fun rr_17 S_18 H locs hp hw hfr hnw => ?_)
  obtain ⟨e2, hp⟩ := hp
  subst e2
  have f_19 := hp
  refine lv_bipush (v := 16) X.1 X.2.1 dX0_breaksAt_21 (by decide) ?_
  refine lv_iushr X.1 X.2.1 dX0_breaksAt_23 rfl ?_
  refine lv_topi (fun v_20 ev_20 => ?_)
  have z_21 : 0 ≤ v_20.toInt ∧ v_20.toInt ≤ 65535 := z_ushr16 ev_20
  refine lv_sipush (v := 1000) X.1 X.2.1 dX0_breaksAt_24 (by decide) ?_
  refine lv_irem X.1 X.2.1 dX0_breaksAt_27 (by decide) ?_
  refine lv_topi (fun v_22 ev_22 => ?_)
  have z_23 : v_22.toInt = v_20.toInt % 1000 := z_rem ev_22 rfl ti_1000 (by omega) (by omega)
  have z_24 : 0 ≤ v_22.toInt ∧ v_22.toInt < 1000 := by rw [z_23]; exact ⟨Int.emod_nonneg _ (by omega), Int.emod_lt_of_pos _ (by omega)⟩
  refine lv_aload_n X.1 X.2.1 dX0_breaksAt_28 rfl (lv_at hl 0 rfl) ?_
  obtain ⟨v_25, ev_25⟩ : ∃ v, pI S 9 x = v := ⟨_, rfl⟩
  have rg_27 := And.intro (z_lo v_25) (z_hi v_25)
  have pz_28 : (pI S 9 x).toInt = v_25.toInt := by rw [ev_25]
  refine r_getI (g := 9) (x := v_25) X hw ha_x rfl 9 ev_25 (by decide) rfl inn_X0_breaksAt_0 (by decide) (X.2.2.2.1 (.fieldLink RX0 27 "SilkMill$Cocoon" "frail" "I") (by decide +kernel)) rfl (gv_9 _ _) dX0_breaksAt_29 ?_
  refine lv_icmp_ge (tgt := 39) X.1 X.2.1 dX0_breaksAt_32 (by decide) (fun c_29 => ?_) (fun c_29 => ?_)
  · have z_b_30 := trivial
    have k_31 : v_22.toInt ≥ v_25.toInt := z_le rfl rfl c_29
    refine lv_iconst (v := 0) X.1 X.2.1 dX0_breaksAt_39 (by decide) ?_
    exact ret_z X hw hr hlocks (Nat.le_of_ble_eq_true rfl) (Nat.le_of_ble_eq_true rfl) (by decide) ⟨rfl, Or.inr ⟨(by have e0 : v_22 = prt (nxt (pI S 7 x + 131 * pI S 1 x + 17 * a1)) 1000 := (by rw [ev_1, ev_5]; subst_vars; rfl); have e1 : (v_22).toInt = v_22.toInt := rfl; have e2 : (v_25).toInt = v_25.toInt := rfl; unfold brI; rw [← e0, ev_25]; omega), rfl⟩⟩ dX0_breaksAt_40
  · have z_b_32 := trivial
    have k_33 : v_22.toInt < v_25.toInt := z_nle rfl rfl c_29
    refine lv_iconst (v := 1) X.1 X.2.1 dX0_breaksAt_35 (by decide) ?_
    refine lv_goto (tgt := 40) X.1 X.2.1 dX0_breaksAt_36 (by decide) ?_
    exact ret_z X hw hr hlocks (Nat.le_of_ble_eq_true rfl) (Nat.le_of_ble_eq_true rfl) (by decide) ⟨rfl, Or.inl ⟨(by have e0 : v_22 = prt (nxt (pI S 7 x + 131 * pI S 1 x + 17 * a1)) 1000 := (by rw [ev_1, ev_5]; subst_vars; rfl); have e1 : (v_22).toInt = v_22.toInt := rfl; have e2 : (v_25).toInt = v_25.toInt := rfl; unfold brI; rw [← e0, ev_25]; omega), rfl⟩⟩ dX0_breaksAt_40
set_option maxHeartbeats 4000000 in
set_option maxRecDepth 100000 in
theorem k_X0_breaksAnywhere3 (l : Launch) (G : va_G) (cy : Nat → ClassId) (κ : Nat → Nat) (S : PS) (sz : Nat) (x : Nat) (hG : GX S) (ha_x : At S x 0) : Ci l yX0_breaksAnywhere wsX0_breaksAnywhere ({ frames := 3, cells := 0, slots := 0, locals := 144 }) G cy κ S sz [.ref x] (fun (r : Int32) (S9 : PS) => S = S9 ∧ (((brA (pI S 7 x) (pI S 9 x) (pI S 1 x) (pI S 2 x).toInt) ∧ r = 1) ∨ ((¬ brA (pI S 7 x) (pI S 9 x) (pI S 1 x) (pI S 2 x).toInt) ∧ r = 0))) := by
  refine ent_m (cc := cX0_breaksAnywhere) (maxL := 2) (ret := (some .boolean)) (by decide) rfl (Nat.le_of_ble_eq_true rfl) ?_
  intro p e s m below meth c ls X hr hlocks hin hw hl hsz
  subst hsz
  have X : Cx p c cX0_breaksAnywhere 2 s [.ref x].toArray wsX0_breaksAnywhere RX0 m G cy κ (AS S s.heap.size) := X
  have hl : lv_has ls 2 [(0, .ref x)] := hl
  generalize hQQ : MQ below _ _ _ _ _ _ = QQ
  replace hQQ := hQQ.symm
  refine lv_iconst (v := 0) X.1 X.2.1 dX0_breaksAnywhere_0 (by decide) ?_
  refine lv_istore_n (lv' := [(1, .int 0), (0, .ref x)]) X.1 X.2.1 dX0_breaksAnywhere_1 rfl hl (by decide) rfl (fun ls hl => ?_)
  have L_1 : ∀ (n : Nat) (H : Heap) (locs : List Loc) (ls : Array Slot) (i1_2 : Int32) (i1_2_z : Int), ((220 - i1_2_z).toNat = n) → (Wd G cy (AS S s.heap.size) s.heap S H locs) → (i1_2.toInt = i1_2_z) → (0 ≤ i1_2_z ∧ i1_2_z ≤ 220) → ((∀ p : Nat, (p : Int) < i1_2_z → ¬ brI (pI S 7 x) (pI S 9 x) (pI S 1 x) (Int32.ofInt (p : Int)))) → (lv_has ls 2 [(1, .int (i1_2)), (0, .ref x)]) → W p l e ({ frames := 3, cells := 0, slots := 0, locals := 144 }) s m [.ref x].toArray below meth c H locs 0 0 QQ (F0 m 2 ls []) := by
    intro n
    induction n using Nat.strongRecOn with
    | ind n ih =>
    intro H locs ls i1_2 i1_2_z hn hw hz_i1_2 hr_i1_2 iv_3 hl
    have rg_4 : (-2147483648) ≤ i1_2_z ∧ i1_2_z ≤ 2147483647 := by rw [← hz_i1_2]; exact ⟨z_lo _, z_hi _⟩
    refine lv_iload_n X.1 X.2.1 dX0_breaksAnywhere_2 rfl (lv_at hl 0 rfl) ?_
    refine lv_aload_n X.1 X.2.1 dX0_breaksAnywhere_3 rfl (lv_at hl 1 rfl) ?_
    obtain ⟨v_5, ev_5⟩ : ∃ v, pI S 2 x = v := ⟨_, rfl⟩
    have rg_6 := gI_0_2 hG ha_x; rw [ev_5] at rg_6
    have pz_7 : (pI S 2 x).toInt = v_5.toInt := by rw [ev_5]
    refine r_getI (g := 2) (x := v_5) X hw ha_x rfl 2 ev_5 (by decide) rfl inn_X0_breaksAnywhere_0 (by decide) (X.2.2.2.1 (.fieldLink RX0 40 "SilkMill$Cocoon" "length" "I") (by decide +kernel)) rfl (gv_2 _ _) dX0_breaksAnywhere_4 ?_
    refine lv_icmp_ge (tgt := 26) X.1 X.2.1 dX0_breaksAnywhere_7 (by decide) (fun c_8 => ?_) (fun c_8 => ?_)
    · have z_b_9 := trivial
      have k_10 : i1_2_z ≥ v_5.toInt := z_le rfl hz_i1_2 c_8
      refine lv_iconst (v := 0) X.1 X.2.1 dX0_breaksAnywhere_26 (by decide) ?_
      have pz_11 : (pI S 2 x).toInt = v_5.toInt := (congrArg Int32.toInt ev_5).trans rfl
      rw [hQQ]
      exact ret_z X hw hr hlocks (Nat.le_of_ble_eq_true rfl) (Nat.le_of_ble_eq_true rfl) (by decide) ⟨rfl, Or.inr ⟨fun h => (by obtain ⟨p, h1, h2⟩ := h; exact iv_3 p (by omega) h2), rfl⟩⟩ dX0_breaksAnywhere_27
    · have z_b_12 := trivial
      have k_13 : i1_2_z < v_5.toInt := z_nle rfl hz_i1_2 c_8
      refine lv_aload_n X.1 X.2.1 dX0_breaksAnywhere_10 rfl (lv_at hl 1 rfl) ?_
      refine lv_iload_n X.1 X.2.1 dX0_breaksAnywhere_11 rfl (lv_at hl 0 rfl) ?_
      refine k_i (rm := { frames := 2, cells := 0, slots := 0, locals := 96 }) (av := [.ref x, .int (i1_2)]) X hw (va_runV (As := [.int (i1_2)]) (rest := []) (cfix X) (k_X0_breaksAt3 l G cy κ S _ x (i1_2) (i1_2_z) hG ha_x hz_i1_2) (cwV 1 X.2.2.2.1 gX0_breaksAnywhere_X0_breaksAt rfl rfl rfl (by decide +kernel) ⟨Nat.le_of_ble_eq_true rfl, Nat.le_of_ble_eq_true rfl⟩) (pre_V X hw _ ha_x rfl (by decide) rfl) rfl rfl hl.1 rfl (lv_room (Nat.le_of_ble_eq_true rfl)) dX0_breaksAnywhere_12 ⟨Nat.le_of_ble_eq_true rfl, Nat.le_of_ble_eq_true rfl⟩) 0 0 (Nat.le_of_ble_eq_true rfl) (Nat.le_of_ble_eq_true rfl) (fun rr_14 S_15 H locs hp hw hfr hnw => ?_)
      obtain ⟨e2, hp⟩ := hp
      subst e2
      rcases hp with ⟨f_16, er_17⟩ | ⟨f_16, er_17⟩ <;> subst er_17
      · have z_b_18 := trivial
        refine lv_if_eq (tgt := 20) X.1 X.2.1 dX0_breaksAnywhere_15 (by decide) (fun c_19 => absurd c_19 (by decide)) (fun c_19 => ?_)
        refine lv_iconst (v := 1) X.1 X.2.1 dX0_breaksAnywhere_18 (by decide) ?_
        have pz_20 : (pI S 2 x).toInt = v_5.toInt := (congrArg Int32.toInt ev_5).trans rfl
        rw [hQQ]
        exact ret_z X hw hr hlocks (Nat.le_of_ble_eq_true rfl) (Nat.le_of_ble_eq_true rfl) (by decide) ⟨rfl, Or.inl ⟨⟨(i1_2_z).toNat, by omega, by rw [show (((i1_2_z).toNat : Nat) : Int) = i1_2_z by omega, oi_e hz_i1_2]; exact f_16⟩, rfl⟩⟩ dX0_breaksAnywhere_19
      · have z_b_21 := trivial
        refine lv_if_eq (tgt := 20) X.1 X.2.1 dX0_breaksAnywhere_15 (by decide) (fun c_22 => ?_) (fun c_22 => absurd c_22 (by decide))
        obtain ⟨x_23, ex_23⟩ : ∃ y : Int32, y = i1_2 + 1 := ⟨_, rfl⟩
        have z_24 : x_23.toInt = i1_2_z + 1 := z_add ex_23 hz_i1_2 ti_1 (by omega) (by omega)
        refine lv_iinc (v := x_23) (lv' := [(1, .int (x_23)), (0, .ref x)]) X.1 X.2.1 dX0_breaksAnywhere_20 hl (k := 0) rfl (by rw [ex_23]; rfl) (by decide) rfl (fun ls hl => ?_)
        refine lv_goto (tgt := 2) X.1 X.2.1 dX0_breaksAnywhere_23 (by decide) ?_
        exact ih _ (by omega) _ _ _ (x_23) (x_23.toInt) rfl hw rfl (by omega) (fun p h => by rcases (show (p : Int) < i1_2_z ∨ (p : Int) = i1_2_z by omega) with e | e; exact iv_3 p e; rw [e, oi_e hz_i1_2]; exact f_16) (lv_sub hl [0, 1] rfl)
  exact L_1 _ _ _ _ (0) (0) rfl hw ti_0 (by omega) (fun p h => absurd h (by omega)) (lv_sub hl [0, 1] rfl)
set_option maxHeartbeats 4000000 in
set_option maxRecDepth 100000 in
theorem k_X11_listIdle3 (l : Launch) (G : va_G) (cy : Nat → ClassId) (κ : Nat → Nat) (S : PS) (sz : Nat) (x : Nat) (a1 : Int32) (a1_z : Int) (hG : GX S) (ha_x : At S x 11) (hz_a1 : a1.toInt = a1_z) : Ci l yX11_listIdle wsX11_listIdle ({ frames := 2, cells := 0, slots := 0, locals := 96 }) G cy κ S sz [.ref x, .int (a1)] (fun (r : Int32) (S9 : PS) => Ok eID S S9 ∧ (0 ≤ r.toInt ∧ r.toInt ≤ 60 ∧ lkZ (zA S9 x 1111) r.toInt = flZ (IdC S x a1_z) 60)) := by
  refine ent_m (cc := cX11_listIdle) (maxL := 5) (ret := (some .int)) (by decide) rfl (Nat.le_of_ble_eq_true rfl) ?_
  intro p e s m below meth c ls X hr hlocks hin hw hl hsz
  subst hsz
  have X : Cx p c cX11_listIdle 5 s [.ref x, .int (a1)].toArray wsX11_listIdle RX11 m G cy κ (AS S s.heap.size) := X
  have hl : lv_has ls 5 [(0, .ref x), (1, .int (a1))] := hl
  have rg_a1 : (-2147483648) ≤ a1_z ∧ a1_z ≤ 2147483647 := by rw [← hz_a1]; exact ⟨z_lo _, z_hi _⟩
  have hO : Ok eID S S := Ok.rf hG
  generalize hQQ : MQ below _ _ _ _ _ _ = QQ
  replace hQQ := hQQ.symm
  refine lv_iconst (v := 0) X.1 X.2.1 dX11_listIdle_0 (by decide) ?_
  refine lv_istore_n (lv' := [(2, .int 0), (0, .ref x), (1, .int (a1))]) X.1 X.2.1 dX11_listIdle_1 rfl hl (by decide) rfl (fun ls hl => ?_)
  refine lv_iconst (v := 0) X.1 X.2.1 dX11_listIdle_2 (by decide) ?_
  refine lv_istore_n (lv' := [(3, .int 0), (2, .int 0), (0, .ref x), (1, .int (a1))]) X.1 X.2.1 dX11_listIdle_3 rfl hl (by decide) rfl (fun ls hl => ?_)
  have L_1 : ∀ (n : Nat) (T_4 : PS) (H : Heap) (locs : List Loc) (ls : Array Slot) (i2_2 : Int32) (i2_2_z : Int) (i3_3 : Int32) (i3_3_z : Int), ((60 - i3_3_z).toNat = n) → (Wd G cy (AS S s.heap.size) s.heap T_4 H locs) → (i2_2.toInt = i2_2_z) → (0 ≤ i2_2_z ∧ i2_2_z ≤ 60) → (i3_3.toInt = i3_3_z) → (0 ≤ i3_3_z ∧ i3_3_z ≤ 60) → (At T_4 x 11) → (Ok eID S T_4) → (i2_2_z ≤ i3_3_z) → (lkZ (zA T_4 x 1111) i2_2_z = flZ (IdC S x a1_z) i3_3_z) → (lv_has ls 5 [(2, .int (i2_2)), (3, .int (i3_3)), (0, .ref x), (1, .int (a1))]) → W p l e ({ frames := 2, cells := 0, slots := 0, locals := 96 }) s m [.ref x, .int (a1)].toArray below meth c H locs 0 0 QQ (F0 m 4 ls []) := by
    intro n
    induction n using Nat.strongRecOn with
    | ind n ih =>
    intro T_4 H locs ls i2_2 i2_2_z i3_3 i3_3_z hn hw hz_i2_2 hr_i2_2 hz_i3_3 hr_i3_3 ha_x_L_5 hO_T_4 iv_6 iv_7 hl
    have rg_8 : (-2147483648) ≤ i2_2_z ∧ i2_2_z ≤ 2147483647 := by rw [← hz_i2_2]; exact ⟨z_lo _, z_hi _⟩
    have rg_9 : (-2147483648) ≤ i3_3_z ∧ i3_3_z ≤ 2147483647 := by rw [← hz_i3_3]; exact ⟨z_lo _, z_hi _⟩
    refine lv_iload_n X.1 X.2.1 dX11_listIdle_4 rfl (lv_at hl 1 rfl) ?_
    refine lv_bipush (v := 60) X.1 X.2.1 dX11_listIdle_5 (by decide) ?_
    refine lv_icmp_ge (tgt := 47) X.1 X.2.1 dX11_listIdle_7 (by decide) (fun c_10 => ?_) (fun c_10 => ?_)
    · have z_b_11 := trivial
      have k_12 : i3_3_z ≥ 60 := z_le ti_60 hz_i3_3 c_10
      refine lv_iload_n X.1 X.2.1 dX11_listIdle_47 rfl (lv_at hl 0 rfl) ?_
      rw [hQQ]
      exact ret_i X hw hr hlocks (Nat.le_of_ble_eq_true rfl) (Nat.le_of_ble_eq_true rfl) ⟨hO_T_4, ⟨by omega, by omega, by rw [show (i2_2).toInt = i2_2_z from hz_i2_2, show (60 : Int) = i3_3_z by omega]; exact iv_7⟩⟩ dX11_listIdle_48
    · have z_b_13 := trivial
      have k_14 : i3_3_z < 60 := z_nle ti_60 hz_i3_3 c_10
      refine lv_aload_n X.1 X.2.1 dX11_listIdle_10 rfl (lv_at hl 2 rfl) ?_
      refine lv_iload_n X.1 X.2.1 dX11_listIdle_11 rfl (lv_at hl 3 rfl) ?_
      refine lv_iload_n X.1 X.2.1 dX11_listIdle_12 rfl (lv_at hl 1 rfl) ?_
      refine k_q (rm := { frames := 1, cells := 0, slots := 0, locals := 48 }) (av := [.ref x, .int (a1), .int (i3_3)]) X hw (va_runV (As := [.int (a1), .int (i3_3)]) (rest := []) (cfix X) (k_X11_cocoonAt3 l G cy κ T_4 _ x (a1) (a1_z) (i3_3) (i3_3_z) hO_T_4.1 ha_x_L_5 hz_a1 hz_i3_3) (cwV 2 X.2.2.2.1 gX11_listIdle_X11_cocoonAt rfl rfl rfl (by decide +kernel) ⟨Nat.le_of_ble_eq_true rfl, Nat.le_of_ble_eq_true rfl⟩) (pre_V X hw _ ha_x_L_5 rfl (by decide) rfl) rfl rfl hl.1 rfl (lv_room (Nat.le_of_ble_eq_true rfl)) dX11_listIdle_13 ⟨Nat.le_of_ble_eq_true rfl, Nat.le_of_ble_eq_true rfl⟩) 0 0 (Nat.le_of_ble_eq_true rfl) (Nat.le_of_ble_eq_true rfl) (fun rr_15 S_16 H locs hp hw hfr hnw => ?_)
      obtain ⟨e2, hp⟩ := hp
      subst e2
      obtain ⟨hq_17, hnf_18⟩ := hp
      rcases rr_15 with _ | q_19
      · refine W.eq (g2 := F0 m 16 ls (.null :: [])) rfl ?_
        have nf_20 := hnf_18 rfl
        refine lv_astoreN (lv' := [(4, .null), (2, .int (i2_2)), (3, .int (i3_3)), (0, .ref x), (1, .int (a1))]) X.1 X.2.1 dX11_listIdle_16 hl (by decide) rfl (fun ls hl => ?_)
        refine lv_aloadN X.1 X.2.1 dX11_listIdle_18 (lv_at hl 0 rfl) ?_
        refine lv_ifnullN (tgt := 41) X.1 X.2.1 dX11_listIdle_20 (by decide) ?_
        obtain ⟨x_21, ex_21⟩ : ∃ y : Int32, y = i3_3 + 1 := ⟨_, rfl⟩
        have z_22 : x_21.toInt = i3_3_z + 1 := z_add ex_21 hz_i3_3 ti_1 (by omega) (by omega)
        refine lv_iinc (v := x_21) (lv' := [(3, .int (x_21)), (4, .null), (2, .int (i2_2)), (0, .ref x), (1, .int (a1))]) X.1 X.2.1 dX11_listIdle_41 hl (k := 2) rfl (by rw [ex_21]; rfl) (by decide) rfl (fun ls hl => ?_)
        refine lv_goto (tgt := 4) X.1 X.2.1 dX11_listIdle_44 (by decide) ?_
        exact ih _ (by omega) _ _ _ _ (i2_2) (i2_2_z) (x_21) (x_21.toInt) rfl hw hz_i2_2 (by omega) rfl (by omega) ha_x_L_5 hO_T_4 (by omega) (iv_7.trans (flZ_n (k := i3_3_z) (by omega) (by omega) (fun h => by obtain ⟨o1, c, o2, o3⟩ := (IdC_fr hG ha_x hO_T_4.fr (by decide +kernel) (by decide +kernel)).mpr h; rcases nf_20 with o4 | o4; exact o4 o1; rw [o2] at o4; cases o4)).symm) (lv_sub hl [2, 0, 3, 4] rfl)
      · refine W.eq (g2 := F0 m 16 ls (.ref q_19 :: [])) rfl ?_
        obtain ⟨ha_23, f_24, f_25⟩ := hq_17 _ rfl
        refine lv_astore (lv' := [(4, .ref q_19), (2, .int (i2_2)), (3, .int (i3_3)), (0, .ref x), (1, .int (a1))]) X.1 X.2.1 dX11_listIdle_16 hl (by decide) rfl (fun ls hl => ?_)
        refine lv_aload X.1 X.2.1 dX11_listIdle_18 (lv_at hl 0 rfl) ?_
        refine lv_ifnull X.1 X.2.1 dX11_listIdle_20 ?_
        refine lv_aload X.1 X.2.1 dX11_listIdle_23 (lv_at hl 0 rfl) ?_
        obtain ⟨v_26, ev_26⟩ : ∃ v, pI T_4 3 q_19 = v := ⟨_, rfl⟩
        have rg_28 := And.intro (z_lo v_26) (z_hi v_26)
        refine r_getI (g := 3) (x := v_26) X hw ha_23 rfl 3 ev_26 (by decide) rfl inn_X11_listIdle_0 (by decide) (X.2.2.2.1 (.fieldLink RX11 81 "SilkMill$Cocoon" "stand" "I") (by decide +kernel)) rfl (gv_3 _ _) dX11_listIdle_25 ?_
        refine lv_if_ne (tgt := 41) X.1 X.2.1 dX11_listIdle_28 (by decide) (fun c_29 => ?_) (fun c_29 => ?_)
        · have z_b_30 := trivial
          have k_31 : v_26.toInt ≠ 0 := z_ne rfl ti_0 c_29
          obtain ⟨x_32, ex_32⟩ : ∃ y : Int32, y = i3_3 + 1 := ⟨_, rfl⟩
          have z_33 : x_32.toInt = i3_3_z + 1 := z_add ex_32 hz_i3_3 ti_1 (by omega) (by omega)
          refine lv_iinc (v := x_32) (lv' := [(3, .int (x_32)), (4, .ref q_19), (2, .int (i2_2)), (0, .ref x), (1, .int (a1))]) X.1 X.2.1 dX11_listIdle_41 hl (k := 2) rfl (by rw [ex_32]; rfl) (by decide) rfl (fun ls hl => ?_)
          refine lv_goto (tgt := 4) X.1 X.2.1 dX11_listIdle_44 (by decide) ?_
          exact ih _ (by omega) _ _ _ _ (i2_2) (i2_2_z) (x_32) (x_32.toInt) rfl hw hz_i2_2 (by omega) rfl (by omega) ha_x_L_5 hO_T_4 (by omega) (iv_7.trans (flZ_n (k := i3_3_z) (by omega) (by omega) (fun h => by obtain ⟨o1, c, o2, o3⟩ := (IdC_fr hG ha_x hO_T_4.fr (by decide +kernel) (by decide +kernel)).mpr h; rw [f_25] at o2; cases o2; have o5 : pI T_4 3 q_19 = 0 := o3; rw [ev_26] at o5; have o6 := congrArg Int32.toInt o5; rw [ti_0] at o6; have o7 : (v_26).toInt = v_26.toInt := rfl; omega)).symm) (lv_sub hl [2, 0, 3, 4] rfl)
        · have z_b_34 := trivial
          have k_35 : v_26.toInt = 0 := z_eq rfl ti_0 c_29
          have ys_36 : pI T_4 3 q_19 = 0 := Int32.toInt_inj.mp (by rw [ev_26, ti_0]; have e1 : (v_26).toInt = v_26.toInt := rfl; omega)
          refine lv_aload_n X.1 X.2.1 dX11_listIdle_31 rfl (lv_at hl 3 rfl) ?_
          obtain ⟨q_37, h_38, h_39, h_40⟩ := gQ_11_1111 hO_T_4.1 ha_x_L_5
          refine r_getR (g := 1111) X hw ha_x_L_5 rfl 11 h_38 (by decide) rfl inn_X11_listIdle_11 (by decide) (X.2.2.2.1 (.fieldLink RX11 59 "SilkMill" "idle" "[I") (by decide +kernel)) rfl (gv_1111 _ _) dX11_listIdle_32 ?_
          refine lv_iload_n X.1 X.2.1 dX11_listIdle_35 rfl (lv_at hl 1 rfl) ?_
          refine lv_iload_n X.1 X.2.1 dX11_listIdle_36 rfl (lv_at hl 2 rfl) ?_
          refine r_iast X hw h_39 rfl (by rw [h_40]; exact z_ix hz_i2_2 (by omega) (by omega)) dX11_listIdle_37 (fun H locs hw => ?_)
          obtain ⟨S_41, eS_41⟩ : ∃ T, T = sA T_4 q_37 (upd (pA T_4 q_37) (Int32.toNatClampNeg (i2_2)) (i3_3)) := ⟨_, rfl⟩
          rw [← eS_41] at hw
          have hO_42 : Ok eID S S_41 := hO_T_4.sA eS_41 h_39 (by decide +kernel) (uA_194 hO_T_4.1 h_39)
          have h_43 : pA S_41 q_37 (Int32.toNatClampNeg (i2_2)) = i3_3 := tA_sAs eS_41
          have t_44 : pR S_41 1111 x = some q_37 := tR_sA eS_41 h_38
          have t_46 : pR T_4 1111 x = some q_37 := by have h := t_44; rw [eS_41, pR_sA] at h; exact h
          have zs_45 : ∀ j, zA S_41 x 1111 j = if j = (i2_2_z).toNat then i3_3_z else zA T_4 x 1111 j := by have h := zA_sAs eS_41 t_46 hz_i3_3; rw [z_nc hz_i2_2 (by omega)] at h; exact h
          obtain ⟨x_47, ex_47⟩ : ∃ y : Int32, y = i2_2 + 1 := ⟨_, rfl⟩
          have z_48 : x_47.toInt = i2_2_z + 1 := z_add ex_47 hz_i2_2 ti_1 (by omega) (by omega)
          refine lv_iinc (v := x_47) (lv' := [(2, .int (x_47)), (4, .ref q_19), (3, .int (i3_3)), (0, .ref x), (1, .int (a1))]) X.1 X.2.1 dX11_listIdle_38 hl (k := 1) rfl (by rw [ex_47]; rfl) (by decide) rfl (fun ls hl => ?_)
          obtain ⟨x_49, ex_49⟩ : ∃ y : Int32, y = i3_3 + 1 := ⟨_, rfl⟩
          have z_50 : x_49.toInt = i3_3_z + 1 := z_add ex_49 hz_i3_3 ti_1 (by omega) (by omega)
          refine lv_iinc (v := x_49) (lv' := [(3, .int (x_49)), (2, .int (x_47)), (4, .ref q_19), (0, .ref x), (1, .int (a1))]) X.1 X.2.1 dX11_listIdle_41 hl (k := 2) rfl (by rw [ex_49]; rfl) (by decide) rfl (fun ls hl => ?_)
          refine lv_goto (tgt := 4) X.1 X.2.1 dX11_listIdle_44 (by decide) ?_
          have t_51 : At S_41 x 11 := tAt_sA eS_41 ha_x_L_5
          exact ih _ (by omega) _ _ _ _ (x_47) (x_47.toInt) (x_49) (x_49.toInt) rfl hw rfl (by omega) rfl (by omega) t_51 hO_42 (by omega) ((lkZ_app (by omega) (by omega) zs_45).trans (by rw [iv_7, flZ_y (k := i3_3_z) (k1 := x_49.toInt) (by omega) (by omega) ((IdC_fr hG ha_x hO_T_4.fr (by decide +kernel) (by decide +kernel)).mp ⟨f_24, q_19, f_25, ys_36⟩)])) (lv_sub hl [1, 0, 3, 4] rfl)
  exact L_1 _ _ _ _ _ (0) (0) (0) (0) rfl hw ti_0 (by omega) ti_0 (by omega) ha_x hO (by omega) lf_0 (lv_sub hl [1, 0, 2, 3] rfl)
set_option maxHeartbeats 4000000 in
set_option maxRecDepth 100000 in
theorem k_X11_test3 (l : Launch) (G : va_G) (cy : Nat → ClassId) (κ : Nat → Nat) (S : PS) (sz : Nat) (x : Nat) (a1 : Int32) (a1_z : Int) (a2 : Int32) (a2_z : Int) (a3 : Int32) (a3_z : Int) (hG : GX S) (ha_x : At S x 11) (hz_a1 : a1.toInt = a1_z) (hz_a2 : a2.toInt = a2_z) (hz_a3 : a3.toInt = a3_z) : Ci l yX11_test wsX11_test ({ frames := 4, cells := 0, slots := 0, locals := 192 }) G cy κ S sz [.ref x, .int (a1), .int (a2), .int (a3)] (fun (r : Int32) (S9 : PS) => Ok eID S S9 ∧ (-2147483648 ≤ r.toInt ∧ r.toInt ≤ 2147483647 ∧ (TsC S x a1_z a3_z → r.toInt = tsF (BZ S x a1_z) a3_z.toNat (flZ (IdC S x a1_z) 60) a2) ∧ (¬ TsC S x a1_z a3_z → r.toInt = -1))) := by
  refine ent_m (cc := cX11_test) (maxL := 10) (ret := (some .int)) (by decide) rfl (Nat.le_of_ble_eq_true rfl) ?_
  intro p e s m below meth c ls X hr hlocks hin hw hl hsz
  subst hsz
  have X : Cx p c cX11_test 10 s [.ref x, .int (a1), .int (a2), .int (a3)].toArray wsX11_test RX11 m G cy κ (AS S s.heap.size) := X
  have hl : lv_has ls 10 [(0, .ref x), (1, .int (a1)), (2, .int (a2)), (3, .int (a3))] := hl
  have rg_a1 : (-2147483648) ≤ a1_z ∧ a1_z ≤ 2147483647 := by rw [← hz_a1]; exact ⟨z_lo _, z_hi _⟩
  have rg_a2 : (-2147483648) ≤ a2_z ∧ a2_z ≤ 2147483647 := by rw [← hz_a2]; exact ⟨z_lo _, z_hi _⟩
  have rg_a3 : (-2147483648) ≤ a3_z ∧ a3_z ≤ 2147483647 := by rw [← hz_a3]; exact ⟨z_lo _, z_hi _⟩
  have hO : Ok eID S S := Ok.rf hG
  generalize hQQ : MQ below _ _ _ _ _ _ = QQ
  replace hQQ := hQQ.symm
  obtain ⟨v_1, ev_1⟩ : ∃ v, pI S 1102 x = v := ⟨_, rfl⟩
  have rg_2 := gI_11_1102 hO.1 ha_x; rw [ev_1] at rg_2
  have pz_3 : (pI S 1102 x).toInt = v_1.toInt := by rw [ev_1]
  have pz_4 : (pI S 1102 x).toInt = v_1.toInt := (congrArg Int32.toInt ev_1).trans rfl
  refine lv_iload_n X.1 X.2.1 dX11_test_0 rfl (lv_at hl 1 rfl) ?_
  refine lv_if_lt (tgt := 16) X.1 X.2.1 dX11_test_1 (by decide) (fun c_5 => ?_) (fun c_5 => ?_)
  · have z_b_6 := trivial
    have k_7 : a1_z < 0 := z_lt hz_a1 ti_0 c_5
    refine lv_iconst (v := (-1)) X.1 X.2.1 dX11_test_16 (by decide) ?_
    rw [hQQ]
    exact ret_i X hw hr hlocks (Nat.le_of_ble_eq_true rfl) (Nat.le_of_ble_eq_true rfl) ⟨hO, ⟨z_lo _, z_hi _, fun h => (by exfalso; obtain ⟨h1, h2, h3, h4⟩ := h; omega), fun _ => by decide⟩⟩ dX11_test_17
  · have z_b_8 := trivial
    have k_9 : a1_z ≥ 0 := z_nlt hz_a1 ti_0 c_5
    refine lv_iload_n X.1 X.2.1 dX11_test_4 rfl (lv_at hl 1 rfl) ?_
    refine lv_aload_n X.1 X.2.1 dX11_test_5 rfl (lv_at hl 0 rfl) ?_
    refine r_getI (g := 1102) (x := v_1) X hw ha_x rfl 2 ev_1 (by decide) rfl inn_X11_test_11 (by decide) (X.2.2.2.1 (.fieldLink RX11 63 "SilkMill" "lots" "I") (by decide +kernel)) rfl (gv_1102 _ _) dX11_test_6 ?_
    refine lv_icmp_ge (tgt := 16) X.1 X.2.1 dX11_test_9 (by decide) (fun c_10 => ?_) (fun c_10 => ?_)
    · have z_b_11 := trivial
      have k_12 : a1_z ≥ v_1.toInt := z_le rfl hz_a1 c_10
      refine lv_iconst (v := (-1)) X.1 X.2.1 dX11_test_16 (by decide) ?_
      rw [hQQ]
      exact ret_i X hw hr hlocks (Nat.le_of_ble_eq_true rfl) (Nat.le_of_ble_eq_true rfl) ⟨hO, ⟨z_lo _, z_hi _, fun h => (by exfalso; obtain ⟨h1, h2, h3, h4⟩ := h; omega), fun _ => by decide⟩⟩ dX11_test_17
    · have z_b_13 := trivial
      have k_14 : a1_z < v_1.toInt := z_nle rfl hz_a1 c_10
      refine lv_iload_n X.1 X.2.1 dX11_test_12 rfl (lv_at hl 3 rfl) ?_
      refine lv_if_ge (tgt := 18) X.1 X.2.1 dX11_test_13 (by decide) (fun c_15 => ?_) (fun c_15 => ?_)
      · have z_b_16 := trivial
        have k_17 : a3_z ≥ 0 := z_le ti_0 hz_a3 c_15
        refine lv_aload_n X.1 X.2.1 dX11_test_18 rfl (lv_at hl 0 rfl) ?_
        refine lv_iload_n X.1 X.2.1 dX11_test_19 rfl (lv_at hl 1 rfl) ?_
        refine k_i (rm := { frames := 2, cells := 0, slots := 0, locals := 96 }) (av := [.ref x, .int (a1)]) X hw (va_runV (As := [.int (a1)]) (rest := []) (cfix X) (k_X11_listIdle3 l G cy κ S _ x (a1) (a1_z) hO.1 ha_x hz_a1) (cwV 1 X.2.2.2.1 gX11_test_X11_listIdle rfl rfl rfl (by decide +kernel) ⟨Nat.le_of_ble_eq_true rfl, Nat.le_of_ble_eq_true rfl⟩) (pre_V X hw _ ha_x rfl (by decide) rfl) rfl rfl hl.1 rfl (lv_room (Nat.le_of_ble_eq_true rfl)) dX11_test_20 ⟨Nat.le_of_ble_eq_true rfl, Nat.le_of_ble_eq_true rfl⟩) 0 0 (Nat.le_of_ble_eq_true rfl) (Nat.le_of_ble_eq_true rfl) (fun rr_18 S_19 H locs hp hw hfr hnw => ?_)
        obtain ⟨hk_20, hp⟩ := hp
        have hO_21 : Ok eID S S_19 := hO.call hk_20 (by decide +kernel)
        obtain ⟨li_22, li_23, li_24⟩ := hp
        have li_25 := lkZ_len (by omega) li_24
        refine lv_istore (lv' := [(4, .int (rr_18)), (0, .ref x), (1, .int (a1)), (2, .int (a2)), (3, .int (a3))]) X.1 X.2.1 dX11_test_23 hl (by decide) rfl (fun ls hl => ?_)
        refine lv_iload_n X.1 X.2.1 dX11_test_25 rfl (lv_at hl 4 rfl) ?_
        refine lv_iload X.1 X.2.1 dX11_test_26 (lv_at hl 0 rfl) ?_
        refine lv_icmp_le (tgt := 33) X.1 X.2.1 dX11_test_28 (by decide) (fun c_26 => ?_) (fun c_26 => ?_)
        · have z_b_27 := trivial
          have k_28 : a3_z ≤ rr_18.toInt := z_le hz_a3 rfl c_26
          refine lv_iconst (v := 0) X.1 X.2.1 dX11_test_33 (by decide) ?_
          refine lv_istore (lv' := [(5, .int 0), (4, .int (rr_18)), (0, .ref x), (1, .int (a1)), (2, .int (a2)), (3, .int (a3))]) X.1 X.2.1 dX11_test_34 hl (by decide) rfl (fun ls hl => ?_)
          refine lv_iload_n X.1 X.2.1 dX11_test_36 rfl (lv_at hl 4 rfl) ?_
          refine lv_istore (lv' := [(6, .int (a2)), (5, .int 0), (4, .int (rr_18)), (0, .ref x), (1, .int (a1)), (2, .int (a2)), (3, .int (a3))]) X.1 X.2.1 dX11_test_37 hl (by decide) rfl (fun ls hl => ?_)
          refine lv_iconst (v := 0) X.1 X.2.1 dX11_test_39 (by decide) ?_
          refine lv_istore (lv' := [(7, .int 0), (6, .int (a2)), (5, .int 0), (4, .int (rr_18)), (0, .ref x), (1, .int (a1)), (2, .int (a2)), (3, .int (a3))]) X.1 X.2.1 dX11_test_40 hl (by decide) rfl (fun ls hl => ?_)
          have L_29 : ∀ (n : Nat) (T_34 : PS) (H : Heap) (locs : List Loc) (ls : Array Slot) (i4_30 : Int32) (i4_30_z : Int) (i5_31 : Int32) (i5_31_z : Int) (i6_32 : Int32) (i6_32_z : Int) (i7_33 : Int32) (i7_33_z : Int), ((a3_z - i7_33_z).toNat = n) → (Wd G cy (AS S s.heap.size) s.heap T_34 H locs) → (i4_30.toInt = i4_30_z) → (0 ≤ i4_30_z ∧ i4_30_z ≤ 60) → (i5_31.toInt = i5_31_z) → (0 ≤ i5_31_z ∧ i5_31_z ≤ 60) → (i6_32.toInt = i6_32_z) → (i7_33.toInt = i7_33_z) → (0 ≤ i7_33_z ∧ i7_33_z ≤ 2147483647) → (At T_34 x 11) → (Ok eID S T_34) → (i5_31_z ≤ 60 - i4_30_z) → (i5_31_z + tsF (BZ S x a1_z) (a3_z - i7_33_z).toNat (lkZ (zA T_34 x 1111) i4_30_z) (i6_32) = tsF (BZ S x a1_z) a3_z.toNat (flZ (IdC S x a1_z) 60) a2) → (i4_30_z + i7_33_z = ((flZ (IdC S x a1_z) 60).length : Int)) → (i7_33_z ≤ a3_z) → (lv_has ls 10 [(4, .int (i4_30)), (5, .int (i5_31)), (6, .int (i6_32)), (7, .int (i7_33)), (0, .ref x), (1, .int (a1)), (2, .int (a2)), (3, .int (a3))]) → W p l e ({ frames := 4, cells := 0, slots := 0, locals := 192 }) s m [.ref x, .int (a1), .int (a2), .int (a3)].toArray below meth c H locs 0 0 QQ (F0 m 42 ls []) := by
            intro n
            induction n using Nat.strongRecOn with
            | ind n ih =>
            intro T_34 H locs ls i4_30 i4_30_z i5_31 i5_31_z i6_32 i6_32_z i7_33 i7_33_z hn hw hz_i4_30 hr_i4_30 hz_i5_31 hr_i5_31 hz_i6_32 hz_i7_33 hr_i7_33 ha_x_L_35 hO_T_34 iv_36 iv_37 iv_38 iv_39 hl
            have rg_40 : (-2147483648) ≤ i4_30_z ∧ i4_30_z ≤ 2147483647 := by rw [← hz_i4_30]; exact ⟨z_lo _, z_hi _⟩
            have rg_41 : (-2147483648) ≤ i5_31_z ∧ i5_31_z ≤ 2147483647 := by rw [← hz_i5_31]; exact ⟨z_lo _, z_hi _⟩
            have rg_42 : (-2147483648) ≤ i6_32_z ∧ i6_32_z ≤ 2147483647 := by rw [← hz_i6_32]; exact ⟨z_lo _, z_hi _⟩
            have rg_43 : (-2147483648) ≤ i7_33_z ∧ i7_33_z ≤ 2147483647 := by rw [← hz_i7_33]; exact ⟨z_lo _, z_hi _⟩
            refine lv_iload X.1 X.2.1 dX11_test_42 (lv_at hl 3 rfl) ?_
            refine lv_iload_n X.1 X.2.1 dX11_test_44 rfl (lv_at hl 7 rfl) ?_
            refine lv_icmp_ge (tgt := 131) X.1 X.2.1 dX11_test_45 (by decide) (fun c_44 => ?_) (fun c_44 => ?_)
            · have z_b_45 := trivial
              have k_46 : i7_33_z ≥ a3_z := z_le hz_a3 hz_i7_33 c_44
              refine lv_iload X.1 X.2.1 dX11_test_131 (lv_at hl 1 rfl) ?_
              rw [hQQ]
              exact ret_i X hw hr hlocks (Nat.le_of_ble_eq_true rfl) (Nat.le_of_ble_eq_true rfl) ⟨hO_T_34, ⟨z_lo _, z_hi _, fun _ => (by have h := iv_37; first | (rw [show (a3_z - i7_33_z).toNat = 0 by omega, tsF_0] at h; rw [show (i5_31).toInt = i5_31_z from hz_i5_31]; omega) | (exfalso; omega)), fun h => absurd ⟨by omega, by omega, by omega, by omega⟩ h⟩⟩ dX11_test_133
            · have z_b_47 := trivial
              have k_48 : i7_33_z < a3_z := z_nle hz_a3 hz_i7_33 c_44
              refine lv_iload X.1 X.2.1 dX11_test_48 (lv_at hl 0 rfl) ?_
              refine lv_if_le (tgt := 131) X.1 X.2.1 dX11_test_50 (by decide) (fun c_49 => ?_) (fun c_49 => ?_)
              · have z_b_50 := trivial
                have k_51 : i4_30_z ≤ 0 := z_le hz_i4_30 ti_0 c_49
                refine lv_iload X.1 X.2.1 dX11_test_131 (lv_at hl 1 rfl) ?_
                rw [hQQ]
                exact ret_i X hw hr hlocks (Nat.le_of_ble_eq_true rfl) (Nat.le_of_ble_eq_true rfl) ⟨hO_T_34, ⟨z_lo _, z_hi _, fun _ => (by have h := iv_37; first | (rw [show (a3_z - i7_33_z).toNat = 0 by omega, tsF_0] at h; rw [show (i5_31).toInt = i5_31_z from hz_i5_31]; omega) | (exfalso; omega)), fun h => absurd ⟨by omega, by omega, by omega, by omega⟩ h⟩⟩ dX11_test_133
              · have z_b_52 := trivial
                have k_53 : i4_30_z > 0 := z_nle hz_i4_30 ti_0 c_49
                refine lv_iload X.1 X.2.1 dX11_test_53 (lv_at hl 2 rfl) ?_
                refine k_i (rm := { frames := 1, cells := 0, slots := 0, locals := 48 }) (av := [.int (i6_32)]) X hw (va_runS (As := [.int (i6_32)]) (rest := []) (cfix X) (k_X11_next2 l G cy κ T_34 _ (i6_32) (i6_32_z) hO_T_34.1 hz_i6_32) (cwS 1 X.2.2.2.1 gX11_test_X11_next rfl rfl rfl (by decide +kernel) ⟨Nat.le_of_ble_eq_true rfl, Nat.le_of_ble_eq_true rfl⟩) (pre_S X hw _) rfl rfl hl.1 rfl (lv_room (Nat.le_of_ble_eq_true rfl)) dX11_test_55 ⟨Nat.le_of_ble_eq_true rfl, Nat.le_of_ble_eq_true rfl⟩) 0 0 (Nat.le_of_ble_eq_true rfl) (Nat.le_of_ble_eq_true rfl) (fun rr_54 S_55 H locs hp hw hfr hnw => ?_)
                obtain ⟨e2, hp⟩ := hp
                subst e2
                have nx_56 : rr_54 = nxt (i6_32) := hp
                have rg_57 := And.intro (z_lo rr_54) (z_hi rr_54)
                refine lv_istore (lv' := [(6, .int (rr_54)), (4, .int (i4_30)), (5, .int (i5_31)), (7, .int (i7_33)), (0, .ref x), (1, .int (a1)), (2, .int (a2)), (3, .int (a3))]) X.1 X.2.1 dX11_test_58 hl (by decide) rfl (fun ls hl => ?_)
                refine lv_iload X.1 X.2.1 dX11_test_60 (lv_at hl 0 rfl) ?_
                refine lv_bipush (v := 16) X.1 X.2.1 dX11_test_62 (by decide) ?_
                refine lv_iushr X.1 X.2.1 dX11_test_64 rfl ?_
                refine lv_topi (fun v_58 ev_58 => ?_)
                have z_59 : 0 ≤ v_58.toInt ∧ v_58.toInt ≤ 65535 := z_ushr16 ev_58
                refine lv_iload X.1 X.2.1 dX11_test_65 (lv_at hl 1 rfl) ?_
                refine lv_irem X.1 X.2.1 dX11_test_67 (z_nz hz_i4_30 (by omega)) ?_
                refine lv_topi (fun v_60 ev_60 => ?_)
                have z_61 : v_60.toInt = v_58.toInt % i4_30_z := z_rem ev_60 rfl hz_i4_30 (by omega) (by omega)
                have z_62 : 0 ≤ v_60.toInt ∧ v_60.toInt < i4_30_z := by rw [z_61]; exact ⟨Int.emod_nonneg _ (by omega), Int.emod_lt_of_pos _ (by omega)⟩
                have at_63 : v_60 = prt rr_54 (i4_30) := (by subst_vars; rfl)
                refine lv_istore (lv' := [(8, .int (v_60)), (6, .int (rr_54)), (4, .int (i4_30)), (5, .int (i5_31)), (7, .int (i7_33)), (0, .ref x), (1, .int (a1)), (2, .int (a2)), (3, .int (a3))]) X.1 X.2.1 dX11_test_68 hl (by decide) rfl (fun ls hl => ?_)
                refine lv_aload_n X.1 X.2.1 dX11_test_70 rfl (lv_at hl 5 rfl) ?_
                refine lv_iload_n X.1 X.2.1 dX11_test_71 rfl (lv_at hl 6 rfl) ?_
                refine lv_aload_n X.1 X.2.1 dX11_test_72 rfl (lv_at hl 5 rfl) ?_
                obtain ⟨q_64, h_65, h_66, h_67⟩ := gQ_11_1111 hO_T_34.1 ha_x_L_35
                refine r_getR (g := 1111) X hw ha_x_L_35 rfl 11 h_65 (by decide) rfl inn_X11_test_11 (by decide) (X.2.2.2.1 (.fieldLink RX11 59 "SilkMill" "idle" "[I") (by decide +kernel)) rfl (gv_1111 _ _) dX11_test_73 ?_
                refine lv_iload X.1 X.2.1 dX11_test_76 (lv_at hl 0 rfl) ?_
                refine r_iald X hw h_66 rfl (by rw [h_67]; exact z_ix rfl (by omega) (by omega)) dX11_test_78 ?_
                refine lv_topi (fun v_68 ev_68 => ?_)
                have rg_69 := And.intro (z_lo v_68) (z_hi v_68)
                have ev_68 := ev_68.symm
                have zf_70 : zA T_34 x 1111 (v_60.toInt).toNat = v_68.toInt := (zA_of h_65 rfl (by omega) ev_68)
                refine k_q (rm := { frames := 1, cells := 0, slots := 0, locals := 48 }) (av := [.ref x, .int (a1), .int (v_68)]) X hw (va_runV (As := [.int (a1), .int (v_68)]) (rest := []) (cfix X) (k_X11_cocoonAt3 l G cy κ T_34 _ x (a1) (a1_z) (v_68) (v_68.toInt) hO_T_34.1 ha_x_L_35 hz_a1 rfl) (cwV 2 X.2.2.2.1 gX11_test_X11_cocoonAt rfl rfl rfl (by decide +kernel) ⟨Nat.le_of_ble_eq_true rfl, Nat.le_of_ble_eq_true rfl⟩) (pre_V X hw _ ha_x_L_35 rfl (by decide) rfl) rfl rfl hl.1 rfl (lv_room (Nat.le_of_ble_eq_true rfl)) dX11_test_79 ⟨Nat.le_of_ble_eq_true rfl, Nat.le_of_ble_eq_true rfl⟩) 0 0 (Nat.le_of_ble_eq_true rfl) (Nat.le_of_ble_eq_true rfl) (fun rr_71 S_72 H locs hp hw hfr hnw => ?_)
                obtain ⟨e2, hp⟩ := hp
                subst e2
                obtain ⟨hq_73, hnf_74⟩ := hp
                rcases rr_71 with _ | q_75
                · refine W.eq (g2 := F0 m 82 ls (.null :: [])) rfl ?_
                  have nf_76 := hnf_74 rfl
                  refine lv_astoreN (lv' := [(9, .null), (8, .int (v_60)), (6, .int (rr_54)), (4, .int (i4_30)), (5, .int (i5_31)), (7, .int (i7_33)), (0, .ref x), (1, .int (a1)), (2, .int (a2)), (3, .int (a3))]) X.1 X.2.1 dX11_test_82 hl (by decide) rfl (fun ls hl => ?_)
                  refine lv_aloadN X.1 X.2.1 dX11_test_84 (lv_at hl 0 rfl) ?_
                  refine lv_ifnullN (tgt := 100) X.1 X.2.1 dX11_test_86 (by decide) ?_
                  have hb_77 : BZ S x a1_z (v_68.toInt) = 0 := BZ_n (fun h => by obtain ⟨o1, c, o2, o3⟩ := (BrC_fr hG ha_x hO_T_34.fr (by decide +kernel) (by decide +kernel)).mpr h; rcases nf_76 with o4 | o4; exact o4 o1; rw [o2] at o4; cases o4)
                  obtain ⟨x_78, ex_78⟩ : ∃ y : Int32, y = i4_30 + (-1) := ⟨_, rfl⟩
                  have z_79 : x_78.toInt = i4_30_z + (-1) := z_add ex_78 hz_i4_30 ti_m1 (by omega) (by omega)
                  refine lv_iinc (v := x_78) (lv' := [(4, .int (x_78)), (9, .null), (8, .int (v_60)), (6, .int (rr_54)), (5, .int (i5_31)), (7, .int (i7_33)), (0, .ref x), (1, .int (a1)), (2, .int (a2)), (3, .int (a3))]) X.1 X.2.1 dX11_test_100 hl (k := 3) rfl (by rw [ex_78]; rfl) (by decide) rfl (fun ls hl => ?_)
                  refine lv_aload_n X.1 X.2.1 dX11_test_103 rfl (lv_at hl 6 rfl) ?_
                  refine r_getR (g := 1111) X hw ha_x_L_35 rfl 11 h_65 (by decide) rfl inn_X11_test_11 (by decide) (X.2.2.2.1 (.fieldLink RX11 59 "SilkMill" "idle" "[I") (by decide +kernel)) rfl (gv_1111 _ _) dX11_test_104 ?_
                  refine lv_iload X.1 X.2.1 dX11_test_107 (lv_at hl 2 rfl) ?_
                  refine lv_iconst (v := 1) X.1 X.2.1 dX11_test_109 (by decide) ?_
                  refine lv_iadd X.1 X.2.1 dX11_test_110 ?_
                  refine lv_topi (fun v_80 ev_80 => ?_)
                  have z_81 : v_80.toInt = v_60.toInt + 1 := z_add ev_80 rfl ti_1 (by omega) (by omega)
                  refine lv_aload_n X.1 X.2.1 dX11_test_111 rfl (lv_at hl 6 rfl) ?_
                  refine r_getR (g := 1111) X hw ha_x_L_35 rfl 11 h_65 (by decide) rfl inn_X11_test_11 (by decide) (X.2.2.2.1 (.fieldLink RX11 59 "SilkMill" "idle" "[I") (by decide +kernel)) rfl (gv_1111 _ _) dX11_test_112 ?_
                  refine lv_iload X.1 X.2.1 dX11_test_115 (lv_at hl 2 rfl) ?_
                  refine lv_iload X.1 X.2.1 dX11_test_117 (lv_at hl 0 rfl) ?_
                  refine lv_iload X.1 X.2.1 dX11_test_119 (lv_at hl 2 rfl) ?_
                  refine lv_isub X.1 X.2.1 dX11_test_121 ?_
                  refine lv_topi (fun v_82 ev_82 => ?_)
                  have z_83 : v_82.toInt = x_78.toInt - v_60.toInt := z_sub ev_82 rfl rfl (by omega) (by omega)
                  refine r_copyI X hw hl h_66 rfl h_66 rfl (X.2.2.2.1 (.methodLink RX11 118 arraycopyName) (by decide +kernel)) (X.2.2.2.1 (.native arraycopyName) (by decide +kernel)) (X.2.2.2.1 (.static arraycopyName) (by decide +kernel)) (X.2.2.2.1 (.initialized "java/lang/System") (by decide +kernel)) (by rw [h_67]; exact z_cp rfl rfl (by omega) (by omega) (by omega)) (by rw [h_67]; exact z_cp rfl rfl (by omega) (by omega) (by omega)) (z_nn rfl (by omega)) (z_nn rfl (by omega)) (z_nn rfl (by omega)) (Nat.le_of_ble_eq_true rfl) (Nat.le_of_ble_eq_true rfl) dX11_test_122 (fun H locs hw => ?_)
                  obtain ⟨S_84, eS_84⟩ : ∃ T, T = sA T_34 q_64 (va_cpy (pA T_34 q_64) (pA T_34 q_64) (Int32.toNatClampNeg (v_80)) (Int32.toNatClampNeg (v_60)) (Int32.toNatClampNeg (v_82))) := ⟨_, rfl⟩
                  rw [← eS_84] at hw
                  have hO_85 : Ok eID S S_84 := hO_T_34.sA eS_84 h_66 (by decide +kernel) (uA_194 hO_T_34.1 h_66)
                  obtain ⟨x_86, ex_86⟩ : ∃ y : Int32, y = i7_33 + 1 := ⟨_, rfl⟩
                  have z_87 : x_86.toInt = i7_33_z + 1 := z_add ex_86 hz_i7_33 ti_1 (by omega) (by omega)
                  refine lv_iinc (v := x_86) (lv' := [(7, .int (x_86)), (4, .int (x_78)), (9, .null), (8, .int (v_60)), (6, .int (rr_54)), (5, .int (i5_31)), (0, .ref x), (1, .int (a1)), (2, .int (a2)), (3, .int (a3))]) X.1 X.2.1 dX11_test_125 hl (k := 5) rfl (by rw [ex_86]; rfl) (by decide) rfl (fun ls hl => ?_)
                  refine lv_goto (tgt := 42) X.1 X.2.1 dX11_test_128 (by decide) ?_
                  have t_88 : At S_84 x 11 := tAt_sA eS_84 ha_x_L_35
                  have cz_89 := cpy_zA1 h_65 eS_84
                  have er_90 : lkZ (zA S_84 x 1111) (x_78.toInt) = (lkZ (zA T_34 x 1111) (i4_30_z)).eraseIdx (v_60.toInt).toNat := lkZ_er (by omega) (by omega) (by omega) (by have hq := z_nc (x := v_60) rfl (by omega); omega) (by have hq := z_nc (x := v_80) rfl (by omega); omega) (by have hq := z_nc (x := v_82) rfl (by omega); omega) cz_89
                  exact ih _ (by omega) _ _ _ _ (x_78) (x_78.toInt) (i5_31) (i5_31_z) (rr_54) (rr_54.toInt) (x_86) (x_86.toInt) rfl hw rfl (by omega) hz_i5_31 (by omega) rfl rfl (by omega) t_88 hO_85 (by omega) (ts_step iv_37 (by omega) (by omega) (by omega) nx_56 hz_i4_30 at_63 rfl (by omega) (by omega) zf_70 (by rw [hb_77]; omega) er_90) (by omega) (by omega) (lv_sub hl [1, 5, 4, 0, 6, 7, 8, 9] rfl)
                · refine W.eq (g2 := F0 m 82 ls (.ref q_75 :: [])) rfl ?_
                  obtain ⟨ha_91, f_92, f_93⟩ := hq_73 _ rfl
                  refine lv_astore (lv' := [(9, .ref q_75), (8, .int (v_60)), (6, .int (rr_54)), (4, .int (i4_30)), (5, .int (i5_31)), (7, .int (i7_33)), (0, .ref x), (1, .int (a1)), (2, .int (a2)), (3, .int (a3))]) X.1 X.2.1 dX11_test_82 hl (by decide) rfl (fun ls hl => ?_)
                  refine lv_aload X.1 X.2.1 dX11_test_84 (lv_at hl 0 rfl) ?_
                  refine lv_ifnull X.1 X.2.1 dX11_test_86 ?_
                  refine lv_aload X.1 X.2.1 dX11_test_89 (lv_at hl 0 rfl) ?_
                  refine k_i (rm := { frames := 3, cells := 0, slots := 0, locals := 144 }) (av := [.ref q_75]) X hw (va_runV (As := []) (rest := []) (cfix X) (k_X0_breaksAnywhere3 l G cy κ T_34 _ q_75 hO_T_34.1 ha_91) (cwV 0 X.2.2.2.1 gX11_test_X0_breaksAnywhere rfl rfl rfl (by decide +kernel) ⟨Nat.le_of_ble_eq_true rfl, Nat.le_of_ble_eq_true rfl⟩) (pre_V X hw _ ha_91 rfl (by decide) rfl) rfl rfl hl.1 rfl (lv_room (Nat.le_of_ble_eq_true rfl)) dX11_test_91 ⟨Nat.le_of_ble_eq_true rfl, Nat.le_of_ble_eq_true rfl⟩) 0 0 (Nat.le_of_ble_eq_true rfl) (Nat.le_of_ble_eq_true rfl) (fun rr_94 S_95 H locs hp hw hfr hnw => ?_)
                  obtain ⟨e2, hp⟩ := hp
                  subst e2
                  rcases hp with ⟨f_96, er_97⟩ | ⟨f_96, er_97⟩ <;> subst er_97
                  · have z_b_98 := trivial
                    refine lv_if_eq (tgt := 100) X.1 X.2.1 dX11_test_94 (by decide) (fun c_99 => absurd c_99 (by decide)) (fun c_99 => ?_)
                    obtain ⟨x_100, ex_100⟩ : ∃ y : Int32, y = i5_31 + 1 := ⟨_, rfl⟩
                    have z_101 : x_100.toInt = i5_31_z + 1 := z_add ex_100 hz_i5_31 ti_1 (by omega) (by omega)
                    refine lv_iinc (v := x_100) (lv' := [(5, .int (x_100)), (9, .ref q_75), (8, .int (v_60)), (6, .int (rr_54)), (4, .int (i4_30)), (7, .int (i7_33)), (0, .ref x), (1, .int (a1)), (2, .int (a2)), (3, .int (a3))]) X.1 X.2.1 dX11_test_97 hl (k := 4) rfl (by rw [ex_100]; rfl) (by decide) rfl (fun ls hl => ?_)
                    have hb_102 : BZ S x a1_z (v_68.toInt) = 1 := BZ_y ((BrC_fr hG ha_x hO_T_34.fr (by decide +kernel) (by decide +kernel)).mp ⟨f_92, q_75, f_93, f_96⟩)
                    obtain ⟨x_103, ex_103⟩ : ∃ y : Int32, y = i4_30 + (-1) := ⟨_, rfl⟩
                    have z_104 : x_103.toInt = i4_30_z + (-1) := z_add ex_103 hz_i4_30 ti_m1 (by omega) (by omega)
                    refine lv_iinc (v := x_103) (lv' := [(4, .int (x_103)), (5, .int (x_100)), (9, .ref q_75), (8, .int (v_60)), (6, .int (rr_54)), (7, .int (i7_33)), (0, .ref x), (1, .int (a1)), (2, .int (a2)), (3, .int (a3))]) X.1 X.2.1 dX11_test_100 hl (k := 4) rfl (by rw [ex_103]; rfl) (by decide) rfl (fun ls hl => ?_)
                    refine lv_aload_n X.1 X.2.1 dX11_test_103 rfl (lv_at hl 6 rfl) ?_
                    refine r_getR (g := 1111) X hw ha_x_L_35 rfl 11 h_65 (by decide) rfl inn_X11_test_11 (by decide) (X.2.2.2.1 (.fieldLink RX11 59 "SilkMill" "idle" "[I") (by decide +kernel)) rfl (gv_1111 _ _) dX11_test_104 ?_
                    refine lv_iload X.1 X.2.1 dX11_test_107 (lv_at hl 3 rfl) ?_
                    refine lv_iconst (v := 1) X.1 X.2.1 dX11_test_109 (by decide) ?_
                    refine lv_iadd X.1 X.2.1 dX11_test_110 ?_
                    refine lv_topi (fun v_105 ev_105 => ?_)
                    have z_106 : v_105.toInt = v_60.toInt + 1 := z_add ev_105 rfl ti_1 (by omega) (by omega)
                    refine lv_aload_n X.1 X.2.1 dX11_test_111 rfl (lv_at hl 6 rfl) ?_
                    refine r_getR (g := 1111) X hw ha_x_L_35 rfl 11 h_65 (by decide) rfl inn_X11_test_11 (by decide) (X.2.2.2.1 (.fieldLink RX11 59 "SilkMill" "idle" "[I") (by decide +kernel)) rfl (gv_1111 _ _) dX11_test_112 ?_
                    refine lv_iload X.1 X.2.1 dX11_test_115 (lv_at hl 3 rfl) ?_
                    refine lv_iload X.1 X.2.1 dX11_test_117 (lv_at hl 0 rfl) ?_
                    refine lv_iload X.1 X.2.1 dX11_test_119 (lv_at hl 3 rfl) ?_
                    refine lv_isub X.1 X.2.1 dX11_test_121 ?_
                    refine lv_topi (fun v_107 ev_107 => ?_)
                    have z_108 : v_107.toInt = x_103.toInt - v_60.toInt := z_sub ev_107 rfl rfl (by omega) (by omega)
                    refine r_copyI X hw hl h_66 rfl h_66 rfl (X.2.2.2.1 (.methodLink RX11 118 arraycopyName) (by decide +kernel)) (X.2.2.2.1 (.native arraycopyName) (by decide +kernel)) (X.2.2.2.1 (.static arraycopyName) (by decide +kernel)) (X.2.2.2.1 (.initialized "java/lang/System") (by decide +kernel)) (by rw [h_67]; exact z_cp rfl rfl (by omega) (by omega) (by omega)) (by rw [h_67]; exact z_cp rfl rfl (by omega) (by omega) (by omega)) (z_nn rfl (by omega)) (z_nn rfl (by omega)) (z_nn rfl (by omega)) (Nat.le_of_ble_eq_true rfl) (Nat.le_of_ble_eq_true rfl) dX11_test_122 (fun H locs hw => ?_)
                    obtain ⟨S_109, eS_109⟩ : ∃ T, T = sA T_34 q_64 (va_cpy (pA T_34 q_64) (pA T_34 q_64) (Int32.toNatClampNeg (v_105)) (Int32.toNatClampNeg (v_60)) (Int32.toNatClampNeg (v_107))) := ⟨_, rfl⟩
                    rw [← eS_109] at hw
                    have hO_110 : Ok eID S S_109 := hO_T_34.sA eS_109 h_66 (by decide +kernel) (uA_194 hO_T_34.1 h_66)
                    obtain ⟨x_111, ex_111⟩ : ∃ y : Int32, y = i7_33 + 1 := ⟨_, rfl⟩
                    have z_112 : x_111.toInt = i7_33_z + 1 := z_add ex_111 hz_i7_33 ti_1 (by omega) (by omega)
                    refine lv_iinc (v := x_111) (lv' := [(7, .int (x_111)), (4, .int (x_103)), (5, .int (x_100)), (9, .ref q_75), (8, .int (v_60)), (6, .int (rr_54)), (0, .ref x), (1, .int (a1)), (2, .int (a2)), (3, .int (a3))]) X.1 X.2.1 dX11_test_125 hl (k := 5) rfl (by rw [ex_111]; rfl) (by decide) rfl (fun ls hl => ?_)
                    refine lv_goto (tgt := 42) X.1 X.2.1 dX11_test_128 (by decide) ?_
                    have t_113 : At S_109 x 11 := tAt_sA eS_109 ha_x_L_35
                    have cz_114 := cpy_zA1 h_65 eS_109
                    have er_115 : lkZ (zA S_109 x 1111) (x_103.toInt) = (lkZ (zA T_34 x 1111) (i4_30_z)).eraseIdx (v_60.toInt).toNat := lkZ_er (by omega) (by omega) (by omega) (by have hq := z_nc (x := v_60) rfl (by omega); omega) (by have hq := z_nc (x := v_105) rfl (by omega); omega) (by have hq := z_nc (x := v_107) rfl (by omega); omega) cz_114
                    exact ih _ (by omega) _ _ _ _ (x_103) (x_103.toInt) (x_100) (x_100.toInt) (rr_54) (rr_54.toInt) (x_111) (x_111.toInt) rfl hw rfl (by omega) rfl (by omega) rfl rfl (by omega) t_113 hO_110 (by omega) (ts_step iv_37 (by omega) (by omega) (by omega) nx_56 hz_i4_30 at_63 rfl (by omega) (by omega) zf_70 (by rw [hb_102]; omega) er_115) (by omega) (by omega) (lv_sub hl [1, 2, 5, 0, 6, 7, 8, 9] rfl)
                  · have z_b_116 := trivial
                    refine lv_if_eq (tgt := 100) X.1 X.2.1 dX11_test_94 (by decide) (fun c_117 => ?_) (fun c_117 => absurd c_117 (by decide))
                    have hb_118 : BZ S x a1_z (v_68.toInt) = 0 := BZ_n (fun h => by obtain ⟨o1, c, o2, o3⟩ := (BrC_fr hG ha_x hO_T_34.fr (by decide +kernel) (by decide +kernel)).mpr h; rw [f_93] at o2; cases o2; exact f_96 o3)
                    obtain ⟨x_119, ex_119⟩ : ∃ y : Int32, y = i4_30 + (-1) := ⟨_, rfl⟩
                    have z_120 : x_119.toInt = i4_30_z + (-1) := z_add ex_119 hz_i4_30 ti_m1 (by omega) (by omega)
                    refine lv_iinc (v := x_119) (lv' := [(4, .int (x_119)), (9, .ref q_75), (8, .int (v_60)), (6, .int (rr_54)), (5, .int (i5_31)), (7, .int (i7_33)), (0, .ref x), (1, .int (a1)), (2, .int (a2)), (3, .int (a3))]) X.1 X.2.1 dX11_test_100 hl (k := 3) rfl (by rw [ex_119]; rfl) (by decide) rfl (fun ls hl => ?_)
                    refine lv_aload_n X.1 X.2.1 dX11_test_103 rfl (lv_at hl 6 rfl) ?_
                    refine r_getR (g := 1111) X hw ha_x_L_35 rfl 11 h_65 (by decide) rfl inn_X11_test_11 (by decide) (X.2.2.2.1 (.fieldLink RX11 59 "SilkMill" "idle" "[I") (by decide +kernel)) rfl (gv_1111 _ _) dX11_test_104 ?_
                    refine lv_iload X.1 X.2.1 dX11_test_107 (lv_at hl 2 rfl) ?_
                    refine lv_iconst (v := 1) X.1 X.2.1 dX11_test_109 (by decide) ?_
                    refine lv_iadd X.1 X.2.1 dX11_test_110 ?_
                    refine lv_topi (fun v_121 ev_121 => ?_)
                    have z_122 : v_121.toInt = v_60.toInt + 1 := z_add ev_121 rfl ti_1 (by omega) (by omega)
                    refine lv_aload_n X.1 X.2.1 dX11_test_111 rfl (lv_at hl 6 rfl) ?_
                    refine r_getR (g := 1111) X hw ha_x_L_35 rfl 11 h_65 (by decide) rfl inn_X11_test_11 (by decide) (X.2.2.2.1 (.fieldLink RX11 59 "SilkMill" "idle" "[I") (by decide +kernel)) rfl (gv_1111 _ _) dX11_test_112 ?_
                    refine lv_iload X.1 X.2.1 dX11_test_115 (lv_at hl 2 rfl) ?_
                    refine lv_iload X.1 X.2.1 dX11_test_117 (lv_at hl 0 rfl) ?_
                    refine lv_iload X.1 X.2.1 dX11_test_119 (lv_at hl 2 rfl) ?_
                    refine lv_isub X.1 X.2.1 dX11_test_121 ?_
                    refine lv_topi (fun v_123 ev_123 => ?_)
                    have z_124 : v_123.toInt = x_119.toInt - v_60.toInt := z_sub ev_123 rfl rfl (by omega) (by omega)
                    refine r_copyI X hw hl h_66 rfl h_66 rfl (X.2.2.2.1 (.methodLink RX11 118 arraycopyName) (by decide +kernel)) (X.2.2.2.1 (.native arraycopyName) (by decide +kernel)) (X.2.2.2.1 (.static arraycopyName) (by decide +kernel)) (X.2.2.2.1 (.initialized "java/lang/System") (by decide +kernel)) (by rw [h_67]; exact z_cp rfl rfl (by omega) (by omega) (by omega)) (by rw [h_67]; exact z_cp rfl rfl (by omega) (by omega) (by omega)) (z_nn rfl (by omega)) (z_nn rfl (by omega)) (z_nn rfl (by omega)) (Nat.le_of_ble_eq_true rfl) (Nat.le_of_ble_eq_true rfl) dX11_test_122 (fun H locs hw => ?_)
                    obtain ⟨S_125, eS_125⟩ : ∃ T, T = sA T_34 q_64 (va_cpy (pA T_34 q_64) (pA T_34 q_64) (Int32.toNatClampNeg (v_121)) (Int32.toNatClampNeg (v_60)) (Int32.toNatClampNeg (v_123))) := ⟨_, rfl⟩
                    rw [← eS_125] at hw
                    have hO_126 : Ok eID S S_125 := hO_T_34.sA eS_125 h_66 (by decide +kernel) (uA_194 hO_T_34.1 h_66)
                    obtain ⟨x_127, ex_127⟩ : ∃ y : Int32, y = i7_33 + 1 := ⟨_, rfl⟩
                    have z_128 : x_127.toInt = i7_33_z + 1 := z_add ex_127 hz_i7_33 ti_1 (by omega) (by omega)
                    refine lv_iinc (v := x_127) (lv' := [(7, .int (x_127)), (4, .int (x_119)), (9, .ref q_75), (8, .int (v_60)), (6, .int (rr_54)), (5, .int (i5_31)), (0, .ref x), (1, .int (a1)), (2, .int (a2)), (3, .int (a3))]) X.1 X.2.1 dX11_test_125 hl (k := 5) rfl (by rw [ex_127]; rfl) (by decide) rfl (fun ls hl => ?_)
                    refine lv_goto (tgt := 42) X.1 X.2.1 dX11_test_128 (by decide) ?_
                    have t_129 : At S_125 x 11 := tAt_sA eS_125 ha_x_L_35
                    have cz_130 := cpy_zA1 h_65 eS_125
                    have er_131 : lkZ (zA S_125 x 1111) (x_119.toInt) = (lkZ (zA T_34 x 1111) (i4_30_z)).eraseIdx (v_60.toInt).toNat := lkZ_er (by omega) (by omega) (by omega) (by have hq := z_nc (x := v_60) rfl (by omega); omega) (by have hq := z_nc (x := v_121) rfl (by omega); omega) (by have hq := z_nc (x := v_123) rfl (by omega); omega) cz_130
                    exact ih _ (by omega) _ _ _ _ (x_119) (x_119.toInt) (i5_31) (i5_31_z) (rr_54) (rr_54.toInt) (x_127) (x_127.toInt) rfl hw rfl (by omega) hz_i5_31 (by omega) rfl rfl (by omega) t_129 hO_126 (by omega) (ts_step iv_37 (by omega) (by omega) (by omega) nx_56 hz_i4_30 at_63 rfl (by omega) (by omega) zf_70 (by rw [hb_118]; omega) er_131) (by omega) (by omega) (lv_sub hl [1, 5, 4, 0, 6, 7, 8, 9] rfl)
          have t_132 : At S_19 x 11 := hk_20.fr.at ha_x
          exact L_29 _ _ _ _ _ (rr_18) (rr_18.toInt) (0) (0) (a2) (a2_z) (0) (0) rfl hw rfl (by omega) ti_0 (by omega) hz_a2 ti_0 (by omega) t_132 hO_21 (by omega) (by rw [Int.sub_zero, li_24, Int.zero_add]) (by omega) (by omega) (lv_sub hl [3, 2, 1, 0, 4, 5, 6, 7] rfl)
        · have z_b_133 := trivial
          have k_134 : a3_z > rr_18.toInt := z_nle hz_a3 rfl c_26
          refine lv_iconst (v := (-1)) X.1 X.2.1 dX11_test_31 (by decide) ?_
          rw [hQQ]
          exact ret_i X hw hr hlocks (Nat.le_of_ble_eq_true rfl) (Nat.le_of_ble_eq_true rfl) ⟨hO_21, ⟨z_lo _, z_hi _, fun h => (by exfalso; obtain ⟨h1, h2, h3, h4⟩ := h; omega), fun _ => by decide⟩⟩ dX11_test_32
      · have z_b_135 := trivial
        have k_136 : a3_z < 0 := z_nle ti_0 hz_a3 c_15
        refine lv_iconst (v := (-1)) X.1 X.2.1 dX11_test_16 (by decide) ?_
        rw [hQQ]
        exact ret_i X hw hr hlocks (Nat.le_of_ble_eq_true rfl) (Nat.le_of_ble_eq_true rfl) ⟨hO, ⟨z_lo _, z_hi _, fun h => (by exfalso; obtain ⟨h1, h2, h3, h4⟩ := h; omega), fun _ => by decide⟩⟩ dX11_test_17
