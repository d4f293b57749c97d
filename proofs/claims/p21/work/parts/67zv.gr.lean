/-! ===== drawing metres ===== -/
theorem lkZ_mem {f : Nat → Int} {k v : Int} : v ∈ lkZ f k ↔ Drw f k v := by
  unfold lkZ
  rw [lk_eq, List.mem_map]
  constructor
  · rintro ⟨j, hj, e⟩
    have := List.mem_range.mp hj
    exact ⟨j, by omega, e⟩
  · rintro ⟨j, hj, e⟩
    exact ⟨j, List.mem_range.mpr (by omega), e⟩
theorem lkZ_0 (f : Nat → Int) : lkZ f 0 = [] := by
  unfold lkZ
  rw [lk_eq]
  rfl
theorem lkZ_pt {f g : Nat → Int} {n : Int} (h : lkZ f n = lkZ g n) (j : Nat) (hj : (j : Int) < n) : f j = g j := by
  have h1 : (lkL f n.toNat).getD j 0 = (lkL g n.toNat).getD j 0 := congrArg (fun L : List Int => L.getD j 0) h
  rw [lk_get (by omega), lk_get (by omega)] at h1
  exact h1
def ndF (L : List Int) (n : Int) : Nat → Int → Int
  | 0, m => m
  | k + 1, m => if m ∈ L then ndF L n k (if m + 1 < n then m + 1 else 0) else m
theorem ndF_n {L : List Int} {n m : Int} (h : ¬ m ∈ L) : ∀ k, ndF L n k m = m
  | 0 => rfl
  | k + 1 => if_neg h
theorem ndF_y {L : List Int} {n m : Int} {k : Nat} (h : m ∈ L) : ndF L n (k + 1) m = ndF L n k (if m + 1 < n then m + 1 else 0) := if_pos h
theorem ndF_in {L : List Int} {n : Int} : ∀ (k : Nat) {m : Int}, 0 ≤ m → m < n → 0 ≤ ndF L n k m ∧ ndF L n k m < n
  | 0, _, h0, h1 => ⟨h0, h1⟩
  | k + 1, m, h0, h1 => by
    by_cases h : m ∈ L
    · rw [ndF_y h]
      by_cases c : m + 1 < n
      · rw [if_pos c]; exact ndF_in k (by omega) c
      · rw [if_neg c]; exact ndF_in k (by omega) (by omega)
    · rw [ndF_n h]; exact ⟨h0, h1⟩
theorem tt_le {Q : Nat → Int} {i m0 n m : Int} (hm0 : 0 ≤ m0) (hm1 : m0 < n) (h0 : 0 ≤ m) (h1 : m < n) (hi0 : 0 ≤ i) (h : Dall Q i m0 n m) : tt m0 n m ≤ i := by
  have htn : tt m0 n m < n := by unfold tt; split <;> omega
  have ht0 : 0 ≤ tt m0 n m := by unfold tt; split <;> omega
  have hall : ∀ s : Nat, s < (tt m0 n m).toNat → Drw Q i (ad m0 n (s : Int)) := fun s hs => h s (by omega) (by omega)
  have key := pigeon i.toNat (tt m0 n m).toNat (fun s => if hs : s < (tt m0 n m).toNat then Classical.choose (hall s hs) else 0) (fun s hs => by
    show (if hs : s < (tt m0 n m).toNat then Classical.choose (hall s hs) else 0) < i.toNat
    rw [dif_pos hs]
    have := (Classical.choose_spec (hall s hs)).1
    omega) (fun s s' hss hs' => by
    show (if hs : s < (tt m0 n m).toNat then Classical.choose (hall s hs) else 0) ≠ (if hs : s' < (tt m0 n m).toNat then Classical.choose (hall s' hs) else 0)
    rw [dif_pos hs', dif_pos (show s < (tt m0 n m).toNat by omega)]
    intro e
    have a := (Classical.choose_spec (hall s (by omega))).2
    have b := (Classical.choose_spec (hall s' hs')).2
    rw [e] at a
    have c := a.symm.trans b
    unfold ad at c
    split at c <;> split at c <;> omega)
  omega
theorem ndF_go {L : List Int} {n m : Int} (h0 : 0 ≤ m) (h1 : m < n) (hn : ¬ m ∈ L) : ∀ (k : Nat) {a : Int}, 0 ≤ a → a < n → tt a n m ≤ (k : Int) → (∀ s : Int, 0 ≤ s → s < tt a n m → ad a n s ∈ L) → ndF L n k a = m
  | 0, a, a0, a1, ht, _ => by
    have e : a = m := by unfold tt at ht; split at ht <;> omega
    exact e
  | k + 1, a, a0, a1, ht, hs => by
    by_cases e : a = m
    · rw [e]; exact ndF_n hn _
    · have hp : 0 < tt a n m := by unfold tt; split <;> omega
      have ha : a ∈ L := by
        have h2 := hs 0 (by omega) hp
        unfold ad at h2
        rw [if_pos (by omega), Int.add_zero] at h2
        exact h2
      rw [ndF_y ha]
      by_cases c : a + 1 < n
      · rw [if_pos c]
        refine ndF_go h0 h1 hn k (by omega) c ?_ (fun s s0 s1 => ?_)
        · unfold tt at ht ⊢; split at ht <;> split <;> omega
        · have h2 := hs (s + 1) (by omega) (by unfold tt at s1 ⊢; split at s1 <;> split <;> omega)
          unfold ad at h2 ⊢
          rw [show a + (s + 1) = a + 1 + s by omega] at h2
          exact h2
      · rw [if_neg c]
        refine ndF_go h0 h1 hn k (by omega) (by omega) ?_ (fun s s0 s1 => ?_)
        · unfold tt at ht ⊢; split at ht <;> split <;> omega
        · have s2 : s + 1 < tt a n m := by unfold tt at s1 ⊢; split at s1 <;> split <;> omega
          have hsn : s < n := by unfold tt at s1; split at s1 <;> omega
          have h2 := hs (s + 1) (by omega) s2
          unfold ad at h2 ⊢
          rw [if_neg (by omega), show a + (s + 1) - n = 0 + s by omega] at h2
          rw [if_pos (by omega)]
          exact h2
theorem ndF_of {Q : Nat → Int} {i m0 n m : Int} (hm0 : 0 ≤ m0) (hm1 : m0 < n) (h0 : 0 ≤ m) (h1 : m < n) (hi0 : 0 ≤ i) (hi : i ≤ 5) (h : Dall Q i m0 n m) (hd : ¬ Drw Q i m) : m = ndF (lkZ Q i) n 5 m0 := by
  have ht := tt_le hm0 hm1 h0 h1 hi0 h
  exact (ndF_go h0 h1 (fun hm => hd (lkZ_mem.mp hm)) 5 hm0 hm1 (by omega) (fun s s0 s1 => lkZ_mem.mpr (h s s0 s1))).symm
def drF (n : Int) (sd : Int32) : Nat → List Int × Int32
  | 0 => ([], sd)
  | k + 1 => ((drF n sd k).1 ++ [ndF (drF n sd k).1 n 5 (prt (nxt (drF n sd k).2) (Int32.ofInt n)).toInt], nxt (drF n sd k).2)
theorem drF_1 {n : Int} {sd : Int32} {k : Nat} : (drF n sd (k + 1)).1 = (drF n sd k).1 ++ [ndF (drF n sd k).1 n 5 (prt (nxt (drF n sd k).2) (Int32.ofInt n)).toInt] := rfl
theorem drF_2 {n : Int} {sd : Int32} {k : Nat} : (drF n sd (k + 1)).2 = nxt (drF n sd k).2 := rfl
theorem oi_to {n : Int} (h0 : 0 ≤ n) (h1 : n ≤ 300) : (Int32.ofInt n).toInt = n := by
  rw [Int32.toInt_ofInt]
  exact bm_id (by omega) (by omega)
theorem prt_in {a : Int32} {n : Int} (h0 : 0 < n) (h1 : n ≤ 300) : 0 ≤ (prt a (Int32.ofInt n)).toInt ∧ (prt a (Int32.ofInt n)).toInt < n := by
  have g1 := z_ushr16 (x := a) rfl
  have g2 : (prt a (Int32.ofInt n)).toInt = _ % n := z_rem (x := (a.toUInt32 >>> ((16 : Int32).toUInt32 &&& Int32.toUInt32 31)).toInt32) (y := Int32.ofInt n) rfl rfl (oi_to (by omega) h1) g1.1 h0
  rw [g2]
  exact ⟨Int.emod_nonneg _ (by omega), Int.emod_lt_of_pos _ h0⟩
theorem dr_in {n : Int} {sd : Int32} (h0 : 0 < n) (h1 : n ≤ 300) : ∀ (k : Nat) (m : Int), m ∈ (drF n sd k).1 → 0 ≤ m ∧ m < n
  | 0, m, h => absurd h List.not_mem_nil
  | k + 1, m, h => by
    rw [drF_1] at h
    rcases List.mem_append.mp h with z | z
    · exact dr_in h0 h1 k m z
    · rw [List.mem_singleton.mp z]
      exact ndF_in 5 (prt_in h0 h1).1 (prt_in h0 h1).2
theorem dr_step {n i i1 m : Int} {sd x x1 p u : Int32} {f g : Nat → Int} (hi : 0 ≤ i) (e : i1 = i + 1) (hf : lkZ f i = (drF n sd i.toNat).1) (hx : x = (drF n sd i.toNat).2) (hx1 : x1 = nxt x) (hu : u.toInt = n) (hp : p = prt x1 u) (hm : m = ndF (lkZ f i) n 5 p.toInt) (hg : lkZ g i1 = lkZ f i ++ [m]) : lkZ g i1 = (drF n sd i1.toNat).1 ∧ x1 = (drF n sd i1.toNat).2 := by
  have e2 : i1.toNat = i.toNat + 1 := by omega
  rw [e2, drF_1, drF_2]
  refine ⟨?_, by rw [hx1, hx]⟩
  rw [hg, hm, hf, hp, hx1, hx, oi_e hu]
def mxI (a b : Int32) : Int32 := if a < b then b else a
def ofF (f : Int → Int32) (am : Int32) (L : List Int) : Int32 := L.foldl (fun a m => mxI a (abI (f m - am))) 0
theorem ofF_s {f : Int → Int32} {am : Int32} {L : List Int} {m : Int} : ofF f am (L ++ [m]) = mxI (ofF f am L) (abI (f m - am)) := by
  unfold ofF
  rw [List.foldl_append]
  rfl
theorem ofF_eq {f g : Int → Int32} {am : Int32} {L : List Int} (h : ∀ m, m ∈ L → f m = g m) : ofF f am L = ofF g am L := flx (fun b z hz => by
  show mxI b (abI (f z - am)) = mxI b (abI (g z - am))
  rw [h z hz])
def wyI (n : Int32) : Nat → Int64
  | 0 => 1
  | j + 1 => wyI n j * (n - Int32.ofInt (j : Int)).toInt64
def bdF (n : Int32) (d : Nat) : Nat → Int
  | 0 => 0
  | b + 1 => if 20 * wyI (n - Int32.ofInt ((b : Int) + 1)) d < wyI n d then bdF n d b else (b : Int) + 1
theorem bdF_lt {n : Int32} {d b : Nat} (h : 20 * wyI (n - Int32.ofInt ((b : Int) + 1)) d < wyI n d) : bdF n d (b + 1) = bdF n d b := if_pos h
theorem bdF_ge {n : Int32} {d b : Nat} (h : ¬ 20 * wyI (n - Int32.ofInt ((b : Int) + 1)) d < wyI n d) : bdF n d (b + 1) = (b : Int) + 1 := if_neg h
theorem cmp_lt {x y : Int64} {v : Int32} (e : v = lg_cmp x y) (h : v.toInt < 0) : x < y := by
  subst e
  unfold lg_cmp at h
  by_cases a : x > y
  · rw [if_pos a] at h; exact absurd h (by decide)
  · by_cases b : x = y
    · rw [if_neg a, if_pos b] at h; exact absurd h (by decide)
    · have h1 : ¬ y.toInt < x.toInt := fun z => a (Int64.lt_iff_toInt_lt.mpr z)
      have h2 : x.toInt ≠ y.toInt := fun z => b (Int64.toInt_inj.mp z)
      exact Int64.lt_iff_toInt_lt.mpr (by omega)
theorem cmp_ge {x y : Int64} {v : Int32} (e : v = lg_cmp x y) (h : 0 ≤ v.toInt) : ¬ x < y := fun c => by
  have c1 := Int64.lt_iff_toInt_lt.mp c
  subst e
  unfold lg_cmp at h
  rw [if_neg (fun z => by have := Int64.lt_iff_toInt_lt.mp z; omega), if_neg (fun z => by rw [z] at c1; omega)] at h
  exact absurd h (by decide)
def grF (o : Int32) : Int := if o.toInt ≤ 3 then 0 else if o.toInt ≤ 8 then 1 else if o.toInt ≤ 20 then 2 else 3
theorem grF_0 {o : Int32} (h : o.toInt ≤ 3) : grF o = 0 := if_pos h
theorem grF_1 {o : Int32} (h : 3 < o.toInt) (h1 : o.toInt ≤ 8) : grF o = 1 := (if_neg (by omega)).trans (if_pos h1)
theorem grF_2 {o : Int32} (h : 8 < o.toInt) (h1 : o.toInt ≤ 20) : grF o = 2 := (if_neg (by omega)).trans ((if_neg (by omega)).trans (if_pos h1))
theorem grF_3 {o : Int32} (h : 20 < o.toInt) : grF o = 3 := (if_neg (by omega)).trans ((if_neg (by omega)).trans (if_neg (by omega)))
def GrI (L : List Sk) (k d : Int) : Prop := ∃ s, 0 ≤ k ∧ L[k.toNat]? = some s ∧ 1 ≤ d ∧ d ≤ 5 ∧ d ≤ (s.2.2.2.length : Int)
def mtG (g : List Mt) (m : Int) : Mt := g[m.toNat]?.getD []
theorem mtG_eq {g : List Mt} {m : Int} {t : Mt} (h : g[m.toNat]? = some t) : mtG g m = t := by
  unfold mtG
  rw [h]
  rfl
def gdL (s : Sk) (sd : Int32) (d : Int) : List Int := (drF (s.2.2.2.length : Int) sd d.toNat).1
def gdO (F : Mt → Int32) (s : Sk) (sd : Int32) (d : Int) : Int32 := ofF (fun m => F (mtG s.2.2.2 m)) s.2.2.1 (gdL s sd d)
def gdB (s : Sk) (d : Int) : Int := bdF (Int32.ofInt (s.2.2.2.length : Int)) d.toNat ((s.2.2.2.length : Int) - d).toNat
def DwO (S T : PS) (x g s : Nat) (n : Int) (sd : Int32) (d : Int) : Prop := (pI T 101 x).toInt = d ∧ pI T 102 x = ofF (fun m => mA S g 900 m.toNat) (pI S 701 s) (drF n sd d.toNat).1 ∧ (pI T 103 x).toInt = bdF (Int32.ofInt n) d.toNat (n - d).toNat ∧ lkZ (zA T x 100) d = (drF n sd d.toNat).1
def GrC (S T : PS) (K Dw : Nat) (k : Int) (s : Sk) (sd : Int32) (d : Int) (r : Int32) : Prop := r.toInt = grF (gdO (mtS S) s sd d) ∧ ((pI T 101 Dw).toInt = d ∧ pI T 102 Dw = gdO (mtS S) s sd d ∧ (pI T 103 Dw).toInt = gdB s d ∧ lkZ (zA T Dw 100) d = gdL s sd d) ∧ ∀ q, mB S K 808 k.toNat = some q → pI T 707 q = r ∧ ∀ b, At S b 7 → b ≠ q → pI T 707 b = pI S 707 b
def GrR (S T : PS) (x : Nat) (k : Int) (s : Sk) (sd : Int32) (d : Int) (r : Int32) : Prop := r.toInt = grF (gdO (mtZ S x) s sd d) ∧ ((pI T 1251 x).toInt = d ∧ pI T 1249 x = gdO (mtZ S x) s sd d ∧ (pI T 1250 x).toInt = gdB s d ∧ lkZ (zA T x 1252) d = gdL s sd d) ∧ ∀ j, zA T x 1243 j = if j = k.toNat then r.toInt else zA S x 1243 j
theorem gd_c {S : PS} {g f q : Nat} {s : Sk} {sd : Int32} {d : Int} (h0 : 0 < (s.2.2.2.length : Int)) (h1 : (s.2.2.2.length : Int) ≤ 300) (hf : pR S 900 g = some f) (ha : pI S 701 q = s.2.2.1) (hA : ∀ (k : Nat) (m : Mt), s.2.2.2[k]? = some m → pA S f k = mtS S m) : ofF (fun m => mA S g 900 m.toNat) (pI S 701 q) (drF (s.2.2.2.length : Int) sd d.toNat).1 = gdO (mtS S) s sd d := by
  rw [ha]
  refine ofF_eq (fun m hm => ?_)
  have hi := dr_in h0 h1 _ m hm
  obtain ⟨t, ht⟩ : ∃ t, s.2.2.2[m.toNat]? = some t := ⟨_, List.getElem?_eq_getElem (by omega)⟩
  show mA S g 900 m.toNat = mtS S (mtG s.2.2.2 m)
  rw [mtG_eq ht, mA_eq hf]
  exact hA _ _ ht
theorem dw_at {S : PS} {x K : Nat} (hG : GX S) (hx : At S x 11) (h : pR S 1108 x = some K) : At S K 1 := by
  obtain ⟨c, k1, k2⟩ := gQ_11_1108 hG hx
  rw [k1] at h
  cases h
  exact k2
def dwF (n o b : Int) (f : Nat → Int) (k : Int) : Int := if n = 0 ∨ k < 0 ∨ n + 2 ≤ k then -1 else if k = 0 then o else if k = 1 then b else f (k - 2).toNat
theorem dwF_n {n o b k : Int} {f : Nat → Int} (h : n = 0 ∨ k < 0 ∨ n + 2 ≤ k) : dwF n o b f k = -1 := if_pos h
theorem dwF_0 {n o b k : Int} {f : Nat → Int} (h : ¬ (n = 0 ∨ k < 0 ∨ n + 2 ≤ k)) (h0 : k = 0) : dwF n o b f k = o := (if_neg h).trans (if_pos h0)
theorem dwF_1 {n o b k : Int} {f : Nat → Int} (h : ¬ (n = 0 ∨ k < 0 ∨ n + 2 ≤ k)) (h0 : k = 1) : dwF n o b f k = b := (if_neg h).trans ((if_neg (by omega)).trans (if_pos h0))
theorem dwF_2 {n o b k : Int} {f : Nat → Int} (h : ¬ (n = 0 ∨ k < 0 ∨ n + 2 ≤ k)) (h0 : 2 ≤ k) : dwF n o b f k = f (k - 2).toNat := (if_neg h).trans ((if_neg (by omega)).trans (if_neg (by omega)))

set_option maxHeartbeats 4000000 in
set_option maxRecDepth 100000 in
theorem k_X1_isDrawn7 (l : Launch) (G : va_G) (cy : Nat → ClassId) (κ : Nat → Nat) (S : PS) (sz : Nat) (x : Nat) (a1 : Int32) (a1_z : Int) (nd : Int) (hG : GX S) (ha_x : At S x 1) (hz_a1 : a1.toInt = a1_z) (hp_0 : (pI S 101 x).toInt = nd) : Ci l yX1_isDrawn wsX1_isDrawn ({ frames := 1, cells := 0, slots := 0, locals := 48 }) G cy κ S sz [.ref x, .int (a1)] (fun (r : Int32) (S9 : PS) => S = S9 ∧ (((a1_z ∈ (lkZ (zA S x 100) nd)) ∧ r = 1) ∨ ((¬ a1_z ∈ (lkZ (zA S x 100) nd)) ∧ r = 0))) := by
  refine ent_m (cc := cX1_isDrawn) (maxL := 3) (ret := (some .boolean)) (by decide) rfl (Nat.le_of_ble_eq_true rfl) ?_
  intro p e s m below meth c ls X hr hlocks hin hw hl hsz
  subst hsz
  have X : Cx p c cX1_isDrawn 3 s [.ref x, .int (a1)].toArray wsX1_isDrawn RX1 m G cy κ (AS S s.heap.size) := X
  have hl : lv_has ls 3 [(0, .ref x), (1, .int (a1))] := hl
  have rg_a1 : (-2147483648) ≤ a1_z ∧ a1_z ≤ 2147483647 := by rw [← hz_a1]; exact ⟨z_lo _, z_hi _⟩
  generalize hQQ : MQ below _ _ _ _ _ _ = QQ
  replace hQQ := hQQ.symm
  obtain ⟨v_1, ev_1⟩ : ∃ v, pI S 101 x = v := ⟨_, rfl⟩
  have rg_2 := gI_1_101 hG ha_x; rw [ev_1] at rg_2
  have pz_3 : (pI S 101 x).toInt = v_1.toInt := by rw [ev_1]
  have pz_4 : (pI S 101 x).toInt = v_1.toInt := (congrArg Int32.toInt ev_1).trans rfl
  refine lv_iconst (v := 0) X.1 X.2.1 dX1_isDrawn_0 (by decide) ?_
  refine lv_istore_n (lv' := [(2, .int 0), (0, .ref x), (1, .int (a1))]) X.1 X.2.1 dX1_isDrawn_1 rfl hl (by decide) rfl (fun ls hl => ?_)
  have L_5 : ∀ (n : Nat) (H : Heap) (locs : List Loc) (ls : Array Slot) (i2_6 : Int32) (i2_6_z : Int), ((5 - i2_6_z).toNat = n) → (Wd G cy (AS S s.heap.size) s.heap S H locs) → (i2_6.toInt = i2_6_z) → (0 ≤ i2_6_z ∧ i2_6_z ≤ 5) → ((∀ j : Nat, (j : Int) < i2_6_z → zA S x 100 j ≠ a1_z)) → (lv_has ls 3 [(2, .int (i2_6)), (0, .ref x), (1, .int (a1))]) → W p l e ({ frames := 1, cells := 0, slots := 0, locals := 48 }) s m [.ref x, .int (a1)].toArray below meth c H locs 0 0 QQ (F0 m 2 ls []) := by
    intro n
    induction n using Nat.strongRecOn with
    | ind n ih =>
    intro H locs ls i2_6 i2_6_z hn hw hz_i2_6 hr_i2_6 iv_7 hl
    have rg_8 : (-2147483648) ≤ i2_6_z ∧ i2_6_z ≤ 2147483647 := by rw [← hz_i2_6]; exact ⟨z_lo _, z_hi _⟩
    refine lv_iload_n X.1 X.2.1 dX1_isDrawn_2 rfl (lv_at hl 0 rfl) ?_
    refine lv_aload_n X.1 X.2.1 dX1_isDrawn_3 rfl (lv_at hl 1 rfl) ?_
    refine r_getI (g := 101) (x := v_1) X hw ha_x rfl 1 ev_1 (by decide) rfl inn_X1_isDrawn_1 (by decide) (X.2.2.2.1 (.fieldLink RX1 15 "SilkMill$Draw" "size" "I") (by decide +kernel)) rfl (gv_101 _ _) dX1_isDrawn_4 ?_
    refine lv_icmp_ge (tgt := 28) X.1 X.2.1 dX1_isDrawn_7 (by decide) (fun c_9 => ?_) (fun c_9 => ?_)
    · have z_b_10 := trivial
      have k_11 : i2_6_z ≥ v_1.toInt := z_le rfl hz_i2_6 c_9
      refine lv_iconst (v := 0) X.1 X.2.1 dX1_isDrawn_28 (by decide) ?_
      have pz_12 : (pI S 101 x).toInt = v_1.toInt := (congrArg Int32.toInt ev_1).trans rfl
      rw [hQQ]
      exact ret_z X hw hr hlocks (Nat.le_of_ble_eq_true rfl) (Nat.le_of_ble_eq_true rfl) (by decide) ⟨rfl, Or.inr ⟨fun h => (by obtain ⟨j, h1, h2⟩ := lkZ_mem.mp h; exact iv_7 j (by omega) h2), rfl⟩⟩ dX1_isDrawn_29
    · have z_b_13 := trivial
      have k_14 : i2_6_z < v_1.toInt := z_nle rfl hz_i2_6 c_9
      refine lv_aload_n X.1 X.2.1 dX1_isDrawn_10 rfl (lv_at hl 1 rfl) ?_
      obtain ⟨q_15, h_16, h_17, h_18⟩ := gQ_1_100 hG ha_x
      refine r_getR (g := 100) X hw ha_x rfl 0 h_16 (by decide) rfl inn_X1_isDrawn_1 (by decide) (X.2.2.2.1 (.fieldLink RX1 9 "SilkMill$Draw" "metres" "[I") (by decide +kernel)) rfl (gv_100 _ _) dX1_isDrawn_11 ?_
      refine lv_iload_n X.1 X.2.1 dX1_isDrawn_14 rfl (lv_at hl 0 rfl) ?_
      refine r_iald X hw h_17 rfl (by rw [h_18]; exact z_ix hz_i2_6 (by omega) (by omega)) dX1_isDrawn_15 ?_
      refine lv_topi (fun v_19 ev_19 => ?_)
      have rg_20 := And.intro (z_lo v_19) (z_hi v_19)
      have ev_19 := ev_19.symm
      have zf_21 : zA S x 100 (i2_6_z).toNat = v_19.toInt := (zA_of h_16 hz_i2_6 (by omega) ev_19)
      refine lv_iload_n X.1 X.2.1 dX1_isDrawn_16 rfl (lv_at hl 2 rfl) ?_
      refine lv_icmp_ne (tgt := 22) X.1 X.2.1 dX1_isDrawn_17 (by decide) (fun c_22 => ?_) (fun c_22 => ?_)
      · have z_b_23 := trivial
        have k_24 : v_19.toInt ≠ a1_z := z_ne rfl hz_a1 c_22
        obtain ⟨x_25, ex_25⟩ : ∃ y : Int32, y = i2_6 + 1 := ⟨_, rfl⟩
        have z_26 : x_25.toInt = i2_6_z + 1 := z_add ex_25 hz_i2_6 ti_1 (by omega) (by omega)
        refine lv_iinc (v := x_25) (lv' := [(2, .int (x_25)), (0, .ref x), (1, .int (a1))]) X.1 X.2.1 dX1_isDrawn_22 hl (k := 0) rfl (by rw [ex_25]; rfl) (by decide) rfl (fun ls hl => ?_)
        refine lv_goto (tgt := 2) X.1 X.2.1 dX1_isDrawn_25 (by decide) ?_
        exact ih _ (by omega) _ _ _ (x_25) (x_25.toInt) rfl hw rfl (by omega) (fun j h => by rcases (show (j : Int) < i2_6_z ∨ j = (i2_6_z).toNat by omega) with e | e; exact iv_7 j e; rw [e, zf_21]; omega) (lv_sub hl [0, 1, 2] rfl)
      · have z_b_27 := trivial
        have k_28 : v_19.toInt = a1_z := z_eq rfl hz_a1 c_22
        refine lv_iconst (v := 1) X.1 X.2.1 dX1_isDrawn_20 (by decide) ?_
        have pz_29 : (pI S 101 x).toInt = v_1.toInt := (congrArg Int32.toInt ev_1).trans rfl
        rw [hQQ]
        exact ret_z X hw hr hlocks (Nat.le_of_ble_eq_true rfl) (Nat.le_of_ble_eq_true rfl) (by decide) ⟨rfl, Or.inl ⟨lkZ_mem.mpr ⟨(i2_6_z).toNat, by omega, zf_21.trans (by omega)⟩, rfl⟩⟩ dX1_isDrawn_21
  exact L_5 _ _ _ _ (0) (0) rfl hw ti_0 (by omega) (fun j h => absurd h (by omega)) (lv_sub hl [0, 1, 2] rfl)
set_option maxHeartbeats 4000000 in
set_option maxRecDepth 100000 in
theorem k_X1_notDrawnFrom7 (l : Launch) (G : va_G) (cy : Nat → ClassId) (κ : Nat → Nat) (S : PS) (sz : Nat) (x : Nat) (a1 : Int32) (a1_z : Int) (a2 : Int32) (a2_z : Int) (nd : Int) (hG : GX S) (ha_x : At S x 1) (hz_a1 : a1.toInt = a1_z) (hz_a2 : a2.toInt = a2_z) (hp_0 : 0 ≤ a1_z) (hp_1 : a1_z < a2_z) (hp_2 : a2_z ≤ 300) (hp_3 : (pI S 101 x).toInt = nd) : Ci l yX1_notDrawnFrom wsX1_notDrawnFrom ({ frames := 2, cells := 0, slots := 0, locals := 96 }) G cy κ S sz [.ref x, .int (a1), .int (a2)] (fun (r : Int32) (S9 : PS) => S = S9 ∧ (0 ≤ r.toInt ∧ r.toInt < a2_z ∧ r.toInt = ndF (lkZ (zA S x 100) nd) a2_z 5 a1_z)) := by
  refine ent_m (cc := cX1_notDrawnFrom) (maxL := 5) (ret := (some .int)) (by decide) rfl (Nat.le_of_ble_eq_true rfl) ?_
  intro p e s m below meth c ls X hr hlocks hin hw hl hsz
  subst hsz
  have X : Cx p c cX1_notDrawnFrom 5 s [.ref x, .int (a1), .int (a2)].toArray wsX1_notDrawnFrom RX1 m G cy κ (AS S s.heap.size) := X
  have hl : lv_has ls 5 [(0, .ref x), (1, .int (a1)), (2, .int (a2))] := hl
  have rg_a1 : (-2147483648) ≤ a1_z ∧ a1_z ≤ 2147483647 := by rw [← hz_a1]; exact ⟨z_lo _, z_hi _⟩
  have rg_a2 : (-2147483648) ≤ a2_z ∧ a2_z ≤ 2147483647 := by rw [← hz_a2]; exact ⟨z_lo _, z_hi _⟩
  generalize hQQ : MQ below _ _ _ _ _ _ = QQ
  replace hQQ := hQQ.symm
  refine lv_iload_n X.1 X.2.1 dX1_notDrawnFrom_0 rfl (lv_at hl 1 rfl) ?_
  refine lv_istore_n (lv' := [(3, .int (a1)), (0, .ref x), (1, .int (a1)), (2, .int (a2))]) X.1 X.2.1 dX1_notDrawnFrom_1 rfl hl (by decide) rfl (fun ls hl => ?_)
  refine lv_iconst (v := 0) X.1 X.2.1 dX1_notDrawnFrom_2 (by decide) ?_
  refine lv_istore (lv' := [(4, .int 0), (3, .int (a1)), (0, .ref x), (1, .int (a1)), (2, .int (a2))]) X.1 X.2.1 dX1_notDrawnFrom_3 hl (by decide) rfl (fun ls hl => ?_)
  have L_1 : ∀ (n : Nat) (H : Heap) (locs : List Loc) (ls : Array Slot) (i3_2 : Int32) (i3_2_z : Int) (i4_3 : Int32) (i4_3_z : Int), ((5 - i4_3_z).toNat = n) → (Wd G cy (AS S s.heap.size) s.heap S H locs) → (i3_2.toInt = i3_2_z) → (0 ≤ i3_2_z ∧ i3_2_z ≤ 299) → (i4_3.toInt = i4_3_z) → (0 ≤ i4_3_z ∧ i4_3_z ≤ 5) → (i3_2_z < a2_z) → (ndF (lkZ (zA S x 100) nd) a2_z (5 - i4_3_z).toNat i3_2_z = ndF (lkZ (zA S x 100) nd) a2_z 5 a1_z) → (lv_has ls 5 [(3, .int (i3_2)), (4, .int (i4_3)), (0, .ref x), (1, .int (a1)), (2, .int (a2))]) → W p l e ({ frames := 2, cells := 0, slots := 0, locals := 96 }) s m [.ref x, .int (a1), .int (a2)].toArray below meth c H locs 0 0 QQ (F0 m 5 ls []) := by
    intro n
    induction n using Nat.strongRecOn with
    | ind n ih =>
    intro H locs ls i3_2 i3_2_z i4_3 i4_3_z hn hw hz_i3_2 hr_i3_2 hz_i4_3 hr_i4_3 iv_4 iv_5 hl
    have rg_6 : (-2147483648) ≤ i3_2_z ∧ i3_2_z ≤ 2147483647 := by rw [← hz_i3_2]; exact ⟨z_lo _, z_hi _⟩
    have rg_7 : (-2147483648) ≤ i4_3_z ∧ i4_3_z ≤ 2147483647 := by rw [← hz_i4_3]; exact ⟨z_lo _, z_hi _⟩
    refine lv_iload X.1 X.2.1 dX1_notDrawnFrom_5 (lv_at hl 1 rfl) ?_
    refine lv_iconst (v := 5) X.1 X.2.1 dX1_notDrawnFrom_7 (by decide) ?_
    refine lv_icmp_ge (tgt := 40) X.1 X.2.1 dX1_notDrawnFrom_8 (by decide) (fun c_8 => ?_) (fun c_8 => ?_)
    · have z_b_9 := trivial
      have k_10 : i4_3_z ≥ 5 := z_le ti_5 hz_i4_3 c_8
      refine lv_iload_n X.1 X.2.1 dX1_notDrawnFrom_40 rfl (lv_at hl 0 rfl) ?_
      rw [hQQ]
      exact ret_i X hw hr hlocks (Nat.le_of_ble_eq_true rfl) (Nat.le_of_ble_eq_true rfl) ⟨rfl, ⟨(by have e1 : (i3_2 : Int32).toInt = i3_2_z := hz_i3_2; omega), (by have e1 : (i3_2 : Int32).toInt = i3_2_z := hz_i3_2; omega), (by have h := iv_5; rw [show (5 - i4_3_z).toNat = 0 by omega] at h; have e1 : (i3_2 : Int32).toInt = i3_2_z := hz_i3_2; exact e1.trans h)⟩⟩ dX1_notDrawnFrom_41
    · have z_b_11 := trivial
      have k_12 : i4_3_z < 5 := z_nle ti_5 hz_i4_3 c_8
      refine lv_aload_n X.1 X.2.1 dX1_notDrawnFrom_11 rfl (lv_at hl 2 rfl) ?_
      refine lv_iload_n X.1 X.2.1 dX1_notDrawnFrom_12 rfl (lv_at hl 0 rfl) ?_
      refine k_i (rm := { frames := 1, cells := 0, slots := 0, locals := 48 }) (av := [.ref x, .int (i3_2)]) X hw (va_runV (As := [.int (i3_2)]) (rest := []) (cfix X) (k_X1_isDrawn7 l G cy κ S _ x (i3_2) (i3_2_z) nd hG ha_x hz_i3_2 hp_3) (cwV 1 X.2.2.2.1 gX1_notDrawnFrom_X1_isDrawn rfl rfl rfl (by decide +kernel) ⟨Nat.le_of_ble_eq_true rfl, Nat.le_of_ble_eq_true rfl⟩) (pre_V X hw _ ha_x rfl (by decide) rfl) rfl rfl hl.1 rfl (lv_room (Nat.le_of_ble_eq_true rfl)) dX1_notDrawnFrom_13 ⟨Nat.le_of_ble_eq_true rfl, Nat.le_of_ble_eq_true rfl⟩) 0 0 (Nat.le_of_ble_eq_true rfl) (Nat.le_of_ble_eq_true rfl) (fun rr_13 S_14 H locs hp hw hfr hnw => ?_)
      obtain ⟨e2, hp⟩ := hp
      subst e2
      rcases hp with ⟨f_15, er_16⟩ | ⟨f_15, er_16⟩ <;> subst er_16
      · have z_b_17 := trivial
        refine lv_if_eq (tgt := 40) X.1 X.2.1 dX1_notDrawnFrom_16 (by decide) (fun c_18 => absurd c_18 (by decide)) (fun c_18 => ?_)
        refine lv_iload_n X.1 X.2.1 dX1_notDrawnFrom_19 rfl (lv_at hl 0 rfl) ?_
        refine lv_iconst (v := 1) X.1 X.2.1 dX1_notDrawnFrom_20 (by decide) ?_
        refine lv_iadd X.1 X.2.1 dX1_notDrawnFrom_21 ?_
        refine lv_topi (fun v_19 ev_19 => ?_)
        have z_20 : v_19.toInt = i3_2_z + 1 := z_add ev_19 hz_i3_2 ti_1 (by omega) (by omega)
        refine lv_iload_n X.1 X.2.1 dX1_notDrawnFrom_22 rfl (lv_at hl 4 rfl) ?_
        refine lv_icmp_ge (tgt := 32) X.1 X.2.1 dX1_notDrawnFrom_23 (by decide) (fun c_21 => ?_) (fun c_21 => ?_)
        · have z_b_22 := trivial
          have k_23 : v_19.toInt ≥ a2_z := z_le hz_a2 rfl c_21
          refine lv_iconst (v := 0) X.1 X.2.1 dX1_notDrawnFrom_32 (by decide) ?_
          refine lv_istore_n (lv' := [(3, .int 0), (4, .int (i4_3)), (0, .ref x), (1, .int (a1)), (2, .int (a2))]) X.1 X.2.1 dX1_notDrawnFrom_33 rfl hl (by decide) rfl (fun ls hl => ?_)
          obtain ⟨x_24, ex_24⟩ : ∃ y : Int32, y = i4_3 + 1 := ⟨_, rfl⟩
          have z_25 : x_24.toInt = i4_3_z + 1 := z_add ex_24 hz_i4_3 ti_1 (by omega) (by omega)
          refine lv_iinc (v := x_24) (lv' := [(4, .int (x_24)), (3, .int 0), (0, .ref x), (1, .int (a1)), (2, .int (a2))]) X.1 X.2.1 dX1_notDrawnFrom_34 hl (k := 1) rfl (by rw [ex_24]; rfl) (by decide) rfl (fun ls hl => ?_)
          refine lv_goto (tgt := 5) X.1 X.2.1 dX1_notDrawnFrom_37 (by decide) ?_
          exact ih _ (by omega) _ _ _ (0) (0) (x_24) (x_24.toInt) rfl hw ti_0 (by omega) rfl (by omega) (by omega) (by have h := iv_5; rw [show (5 - i4_3_z).toNat = (5 - x_24.toInt).toNat + 1 by omega, ndF_y f_15, show (if i3_2_z + 1 < a2_z then i3_2_z + 1 else 0) = 0 by split <;> omega] at h; exact h) (lv_sub hl [1, 0, 2, 3, 4] rfl)
        · have z_b_26 := trivial
          have k_27 : v_19.toInt < a2_z := z_nle hz_a2 rfl c_21
          refine lv_iload_n X.1 X.2.1 dX1_notDrawnFrom_26 rfl (lv_at hl 0 rfl) ?_
          refine lv_iconst (v := 1) X.1 X.2.1 dX1_notDrawnFrom_27 (by decide) ?_
          refine lv_iadd X.1 X.2.1 dX1_notDrawnFrom_28 ?_
          refine lv_topi (fun v_28 ev_28 => ?_)
          have z_29 : v_28.toInt = i3_2_z + 1 := z_add ev_28 hz_i3_2 ti_1 (by omega) (by omega)
          refine lv_goto (tgt := 33) X.1 X.2.1 dX1_notDrawnFrom_29 (by decide) ?_
          refine lv_istore_n (lv' := [(3, .int (v_28)), (4, .int (i4_3)), (0, .ref x), (1, .int (a1)), (2, .int (a2))]) X.1 X.2.1 dX1_notDrawnFrom_33 rfl hl (by decide) rfl (fun ls hl => ?_)
          obtain ⟨x_30, ex_30⟩ : ∃ y : Int32, y = i4_3 + 1 := ⟨_, rfl⟩
          have z_31 : x_30.toInt = i4_3_z + 1 := z_add ex_30 hz_i4_3 ti_1 (by omega) (by omega)
          refine lv_iinc (v := x_30) (lv' := [(4, .int (x_30)), (3, .int (v_28)), (0, .ref x), (1, .int (a1)), (2, .int (a2))]) X.1 X.2.1 dX1_notDrawnFrom_34 hl (k := 1) rfl (by rw [ex_30]; rfl) (by decide) rfl (fun ls hl => ?_)
          refine lv_goto (tgt := 5) X.1 X.2.1 dX1_notDrawnFrom_37 (by decide) ?_
          exact ih _ (by omega) _ _ _ (v_28) (v_28.toInt) (x_30) (x_30.toInt) rfl hw rfl (by omega) rfl (by omega) (by omega) (by have h := iv_5; rw [show (5 - i4_3_z).toNat = (5 - x_30.toInt).toNat + 1 by omega, ndF_y f_15, show (if i3_2_z + 1 < a2_z then i3_2_z + 1 else 0) = v_28.toInt by split <;> omega] at h; exact h) (lv_sub hl [1, 0, 2, 3, 4] rfl)
      · have z_b_32 := trivial
        refine lv_if_eq (tgt := 40) X.1 X.2.1 dX1_notDrawnFrom_16 (by decide) (fun c_33 => ?_) (fun c_33 => absurd c_33 (by decide))
        refine lv_iload_n X.1 X.2.1 dX1_notDrawnFrom_40 rfl (lv_at hl 0 rfl) ?_
        rw [hQQ]
        exact ret_i X hw hr hlocks (Nat.le_of_ble_eq_true rfl) (Nat.le_of_ble_eq_true rfl) ⟨rfl, ⟨(by have e1 : (i3_2 : Int32).toInt = i3_2_z := hz_i3_2; omega), (by have e1 : (i3_2 : Int32).toInt = i3_2_z := hz_i3_2; omega), (by have h := iv_5; rw [ndF_n f_15] at h; have e1 : (i3_2 : Int32).toInt = i3_2_z := hz_i3_2; exact e1.trans h)⟩⟩ dX1_notDrawnFrom_41
  exact L_1 _ _ _ _ (a1) (a1_z) (0) (0) rfl hw hz_a1 (by omega) ti_0 (by omega) (by omega) rfl (lv_sub hl [1, 0, 2, 3, 4] rfl)
set_option maxHeartbeats 4000000 in
set_option maxRecDepth 100000 in
theorem k_X1_waysInOrder7 (l : Launch) (G : va_G) (cy : Nat → ClassId) (κ : Nat → Nat) (S : PS) (sz : Nat) (a1 : Int32) (a1_z : Int) (a2 : Int32) (a2_z : Int) (hG : GX S) (hz_a1 : a1.toInt = a1_z) (hz_a2 : a2.toInt = a2_z) (hp_0 : 0 ≤ a2_z) : Cl l yX1_waysInOrder wsX1_waysInOrder ({ frames := 1, cells := 0, slots := 0, locals := 48 }) G cy κ S sz [.int (a1), .int (a2)] (fun (r : Int64) (S9 : PS) => S = S9 ∧ (r = wyI a1 a2_z.toNat)) := by
  refine ent_m (cc := cX1_waysInOrder) (maxL := 5) (ret := (some .long)) (by decide) rfl (Nat.le_of_ble_eq_true rfl) ?_
  intro p e s m below meth c ls X hr hlocks hin hw hl hsz
  subst hsz
  have X : Cx p c cX1_waysInOrder 5 s [.int (a1), .int (a2)].toArray wsX1_waysInOrder RX1 m G cy κ (AS S s.heap.size) := X
  have hl : lv_has ls 5 [(0, .int (a1)), (1, .int (a2))] := hl
  have rg_a1 : (-2147483648) ≤ a1_z ∧ a1_z ≤ 2147483647 := by rw [← hz_a1]; exact ⟨z_lo _, z_hi _⟩
  have rg_a2 : (-2147483648) ≤ a2_z ∧ a2_z ≤ 2147483647 := by rw [← hz_a2]; exact ⟨z_lo _, z_hi _⟩
  generalize hQQ : MQ below _ _ _ _ _ _ = QQ
  replace hQQ := hQQ.symm
  refine lv_lconst (v := 1) X.1 X.2.1 dX1_waysInOrder_0 (by decide) ?_
  refine lv_lstore_n (lv' := [(2, .long (1)), (0, .int (a1)), (1, .int (a2))]) X.1 X.2.1 dX1_waysInOrder_1 rfl hl (by decide) rfl (fun ls hl => ?_)
  refine lv_iconst (v := 0) X.1 X.2.1 dX1_waysInOrder_2 (by decide) ?_
  refine lv_istore (lv' := [(4, .int 0), (2, .long (1)), (0, .int (a1)), (1, .int (a2))]) X.1 X.2.1 dX1_waysInOrder_3 hl (by decide) rfl (fun ls hl => ?_)
  have L_1 : ∀ (n : Nat) (H : Heap) (locs : List Loc) (ls : Array Slot) (i4_2 : Int32) (i4_2_z : Int) (j_3 : Int64), ((a2_z - i4_2_z).toNat = n) → (Wd G cy (AS S s.heap.size) s.heap S H locs) → (i4_2.toInt = i4_2_z) → (0 ≤ i4_2_z ∧ i4_2_z ≤ 2147483647) → (j_3 = wyI a1 (i4_2_z).toNat) → (i4_2_z ≤ a2_z) → (lv_has ls 5 [(4, .int (i4_2)), (2, .long (j_3)), (0, .int (a1)), (1, .int (a2))]) → W p l e ({ frames := 1, cells := 0, slots := 0, locals := 48 }) s m [.int (a1), .int (a2)].toArray below meth c H locs 0 0 QQ (F0 m 5 ls []) := by
    intro n
    induction n using Nat.strongRecOn with
    | ind n ih =>
    intro H locs ls i4_2 i4_2_z j_3 hn hw hz_i4_2 hr_i4_2 iv_4 iv_5 hl
    have rg_6 : (-2147483648) ≤ i4_2_z ∧ i4_2_z ≤ 2147483647 := by rw [← hz_i4_2]; exact ⟨z_lo _, z_hi _⟩
    refine lv_iload X.1 X.2.1 dX1_waysInOrder_5 (lv_at hl 0 rfl) ?_
    refine lv_iload_n X.1 X.2.1 dX1_waysInOrder_7 rfl (lv_at hl 3 rfl) ?_
    refine lv_icmp_ge (tgt := 25) X.1 X.2.1 dX1_waysInOrder_8 (by decide) (fun c_7 => ?_) (fun c_7 => ?_)
    · have z_b_8 := trivial
      have k_9 : i4_2_z ≥ a2_z := z_le hz_a2 hz_i4_2 c_7
      refine lv_lload_n X.1 X.2.1 dX1_waysInOrder_25 rfl (lv_at hl 1 rfl) ?_
      rw [hQQ]
      exact ret_l X hw hr hlocks (Nat.le_of_ble_eq_true rfl) (Nat.le_of_ble_eq_true rfl) ⟨rfl, (by rw [show a2_z.toNat = (i4_2_z).toNat by omega]; exact iv_4)⟩ dX1_waysInOrder_26
    · have z_b_10 := trivial
      have k_11 : i4_2_z < a2_z := z_nle hz_a2 hz_i4_2 c_7
      refine lv_lload_n X.1 X.2.1 dX1_waysInOrder_11 rfl (lv_at hl 1 rfl) ?_
      refine lv_iload_n X.1 X.2.1 dX1_waysInOrder_12 rfl (lv_at hl 2 rfl) ?_
      refine lv_iload X.1 X.2.1 dX1_waysInOrder_13 (lv_at hl 0 rfl) ?_
      refine lv_isub X.1 X.2.1 dX1_waysInOrder_15 ?_
      refine lv_topi (fun v_12 ev_12 => ?_)
      have rg_13 := And.intro (z_lo v_12) (z_hi v_12)
      refine lv_i2l X.1 X.2.1 dX1_waysInOrder_16 rfl ?_
      refine lv_topl (fun v_14 ev_14 => ?_)
      refine lv_lmul X.1 X.2.1 dX1_waysInOrder_17 ?_
      refine lv_topl (fun v_15 ev_15 => ?_)
      refine lv_lstore_n (lv' := [(2, .long (v_15)), (4, .int (i4_2)), (0, .int (a1)), (1, .int (a2))]) X.1 X.2.1 dX1_waysInOrder_18 rfl hl (by decide) rfl (fun ls hl => ?_)
      obtain ⟨x_16, ex_16⟩ : ∃ y : Int32, y = i4_2 + 1 := ⟨_, rfl⟩
      have z_17 : x_16.toInt = i4_2_z + 1 := z_add ex_16 hz_i4_2 ti_1 (by omega) (by omega)
      refine lv_iinc (v := x_16) (lv' := [(4, .int (x_16)), (2, .long (v_15)), (0, .int (a1)), (1, .int (a2))]) X.1 X.2.1 dX1_waysInOrder_19 hl (k := 1) rfl (by rw [ex_16]; rfl) (by decide) rfl (fun ls hl => ?_)
      refine lv_goto (tgt := 5) X.1 X.2.1 dX1_waysInOrder_22 (by decide) ?_
      exact ih _ (by omega) _ _ _ (x_16) (x_16.toInt) (v_15) rfl hw rfl (by omega) (by rw [show (x_16.toInt).toNat = (i4_2_z).toNat + 1 by omega]; show _ = wyI a1 (i4_2_z).toNat * (a1 - Int32.ofInt (((i4_2_z).toNat : Nat) : Int)).toInt64; rw [← iv_4, show (((i4_2_z).toNat : Nat) : Int) = i4_2_z by omega, oi_e hz_i4_2]; subst_vars; rfl) (by omega) (lv_sub hl [0, 1, 2, 3] rfl)
  exact L_1 _ _ _ _ (0) (0) (1) rfl hw ti_0 (by omega) rfl (by omega) (lv_sub hl [0, 1, 2, 3] rfl)
set_option maxHeartbeats 4000000 in
set_option maxRecDepth 100000 in
theorem k_X12_ways7 (l : Launch) (G : va_G) (cy : Nat → ClassId) (κ : Nat → Nat) (S : PS) (sz : Nat) (a1 : Int32) (a1_z : Int) (a2 : Int32) (a2_z : Int) (hG : GX S) (hz_a1 : a1.toInt = a1_z) (hz_a2 : a2.toInt = a2_z) (hp_0 : 0 ≤ a2_z) : Cl l yX12_ways wsX12_ways ({ frames := 1, cells := 0, slots := 0, locals := 48 }) G cy κ S sz [.int (a1), .int (a2)] (fun (r : Int64) (S9 : PS) => S = S9 ∧ (r = wyI a1 a2_z.toNat)) := by
  refine ent_m (cc := cX12_ways) (maxL := 5) (ret := (some .long)) (by decide) rfl (Nat.le_of_ble_eq_true rfl) ?_
  intro p e s m below meth c ls X hr hlocks hin hw hl hsz
  subst hsz
  have X : Cx p c cX12_ways 5 s [.int (a1), .int (a2)].toArray wsX12_ways RX12 m G cy κ (AS S s.heap.size) := X
  have hl : lv_has ls 5 [(0, .int (a1)), (1, .int (a2))] := hl
  have rg_a1 : (-2147483648) ≤ a1_z ∧ a1_z ≤ 2147483647 := by rw [← hz_a1]; exact ⟨z_lo _, z_hi _⟩
  have rg_a2 : (-2147483648) ≤ a2_z ∧ a2_z ≤ 2147483647 := by rw [← hz_a2]; exact ⟨z_lo _, z_hi _⟩
  generalize hQQ : MQ below _ _ _ _ _ _ = QQ
  replace hQQ := hQQ.symm
  refine lv_lconst (v := 1) X.1 X.2.1 dX12_ways_0 (by decide) ?_
  refine lv_lstore_n (lv' := [(2, .long (1)), (0, .int (a1)), (1, .int (a2))]) X.1 X.2.1 dX12_ways_1 rfl hl (by decide) rfl (fun ls hl => ?_)
  refine lv_iconst (v := 0) X.1 X.2.1 dX12_ways_2 (by decide) ?_
  refine lv_istore (lv' := [(4, .int 0), (2, .long (1)), (0, .int (a1)), (1, .int (a2))]) X.1 X.2.1 dX12_ways_3 hl (by decide) rfl (fun ls hl => ?_)
  have L_1 : ∀ (n : Nat) (H : Heap) (locs : List Loc) (ls : Array Slot) (i4_2 : Int32) (i4_2_z : Int) (j_3 : Int64), ((a2_z - i4_2_z).toNat = n) → (Wd G cy (AS S s.heap.size) s.heap S H locs) → (i4_2.toInt = i4_2_z) → (0 ≤ i4_2_z ∧ i4_2_z ≤ 2147483647) → (j_3 = wyI a1 (i4_2_z).toNat) → (i4_2_z ≤ a2_z) → (lv_has ls 5 [(4, .int (i4_2)), (2, .long (j_3)), (0, .int (a1)), (1, .int (a2))]) → W p l e ({ frames := 1, cells := 0, slots := 0, locals := 48 }) s m [.int (a1), .int (a2)].toArray below meth c H locs 0 0 QQ (F0 m 5 ls []) := by
    intro n
    induction n using Nat.strongRecOn with
    | ind n ih_L_1 =>
    intro H locs ls i4_2 i4_2_z j_3 hn hw hz_i4_2 hr_i4_2 iv_4 iv_5 hl
    have rg_6 : (-2147483648) ≤ i4_2_z ∧ i4_2_z ≤ 2147483647 := by rw [← hz_i4_2]; exact ⟨z_lo _, z_hi _⟩
    refine lv_iload X.1 X.2.1 dX12_ways_5 (lv_at hl 0 rfl) ?_
    refine lv_iload_n X.1 X.2.1 dX12_ways_7 rfl (lv_at hl 3 rfl) ?_
    refine lv_icmp_ge (tgt := 25) X.1 X.2.1 dX12_ways_8 (by decide) (fun c_7 => ?_) (fun c_7 => ?_)
    · have z_b_8 := trivial
      have k_9 : i4_2_z ≥ a2_z := z_le hz_a2 hz_i4_2 c_7
      refine lv_lload_n X.1 X.2.1 dX12_ways_25 rfl (lv_at hl 1 rfl) ?_
      rw [hQQ]
      exact ret_l X hw hr hlocks (Nat.le_of_ble_eq_true rfl) (Nat.le_of_ble_eq_true rfl) ⟨rfl, (by rw [show a2_z.toNat = (i4_2_z).toNat by omega]; exact iv_4)⟩ dX12_ways_26
    · have z_b_10 := trivial
      have k_11 : i4_2_z < a2_z := z_nle hz_a2 hz_i4_2 c_7
      refine lv_lload_n X.1 X.2.1 dX12_ways_11 rfl (lv_at hl 1 rfl) ?_
      refine lv_iload_n X.1 X.2.1 dX12_ways_12 rfl (lv_at hl 2 rfl) ?_
      refine lv_iload X.1 X.2.1 dX12_ways_13 (lv_at hl 0 rfl) ?_
      refine lv_isub X.1 X.2.1 dX12_ways_15 ?_
      refine lv_topi (fun v_12 ev_12 => ?_)
      have rg_13 := And.intro (z_lo v_12) (z_hi v_12)
      refine lv_i2l X.1 X.2.1 dX12_ways_16 rfl ?_
      refine lv_topl (fun v_14 ev_14 => ?_)
      refine lv_lmul X.1 X.2.1 dX12_ways_17 ?_
      refine lv_topl (fun v_15 ev_15 => ?_)
      refine lv_lstore_n (lv' := [(2, .long (v_15)), (4, .int (i4_2)), (0, .int (a1)), (1, .int (a2))]) X.1 X.2.1 dX12_ways_18 rfl hl (by decide) rfl (fun ls hl => ?_)
      obtain ⟨x_16, ex_16⟩ : ∃ y : Int32, y = i4_2 + 1 := ⟨_, rfl⟩
      have z_17 : x_16.toInt = i4_2_z + 1 := z_add ex_16 hz_i4_2 ti_1 (by omega) (by omega)
      refine lv_iinc (v := x_16) (lv' := [(4, .int (x_16)), (2, .long (v_15)), (0, .int (a1)), (1, .int (a2))]) X.1 X.2.1 dX12_ways_19 hl (k := 1) rfl (by rw [ex_16]; rfl) (by decide) rfl (fun ls hl => ?_)
      refine lv_goto (tgt := 5) X.1 X.2.1 dX12_ways_22 (by decide) ?_
      exact ih_L_1 _ (by omega) _ _ _ (x_16) (x_16.toInt) (v_15) rfl hw rfl (by omega) (by rw [show (x_16.toInt).toNat = (i4_2_z).toNat + 1 by omega]; show _ = wyI a1 (i4_2_z).toNat * (a1 - Int32.ofInt (((i4_2_z).toNat : Nat) : Int)).toInt64; rw [← iv_4, show (((i4_2_z).toNat : Nat) : Int) = i4_2_z by omega, oi_e hz_i4_2]; subst_vars; rfl) (by omega) (lv_sub hl [0, 1, 2, 3] rfl)
  exact L_1 _ _ _ _ (0) (0) (1) rfl hw ti_0 (by omega) rfl (by omega) (lv_sub hl [0, 1, 2, 3] rfl)
set_option maxHeartbeats 4000000 in
set_option maxRecDepth 100000 in
theorem k_X1_boundOf7 (l : Launch) (G : va_G) (cy : Nat → ClassId) (κ : Nat → Nat) (S : PS) (sz : Nat) (a1 : Int32) (a1_z : Int) (a2 : Int32) (a2_z : Int) (hG : GX S) (hz_a1 : a1.toInt = a1_z) (hz_a2 : a2.toInt = a2_z) (hp_0 : 0 ≤ a2_z) (hp_1 : a2_z ≤ 5) (hp_2 : a2_z ≤ a1_z) (hp_3 : a1_z ≤ 300) : Ci l yX1_boundOf wsX1_boundOf ({ frames := 2, cells := 0, slots := 0, locals := 96 }) G cy κ S sz [.int (a1), .int (a2)] (fun (r : Int32) (S9 : PS) => S = S9 ∧ (-2147483648 ≤ r.toInt ∧ r.toInt ≤ 2147483647 ∧ r.toInt = bdF a1 a2_z.toNat (a1_z - a2_z).toNat)) := by
  refine ent_m (cc := cX1_boundOf) (maxL := 5) (ret := (some .int)) (by decide) rfl (Nat.le_of_ble_eq_true rfl) ?_
  intro p e s m below meth c ls X hr hlocks hin hw hl hsz
  subst hsz
  have X : Cx p c cX1_boundOf 5 s [.int (a1), .int (a2)].toArray wsX1_boundOf RX1 m G cy κ (AS S s.heap.size) := X
  have hl : lv_has ls 5 [(0, .int (a1)), (1, .int (a2))] := hl
  have rg_a1 : (-2147483648) ≤ a1_z ∧ a1_z ≤ 2147483647 := by rw [← hz_a1]; exact ⟨z_lo _, z_hi _⟩
  have rg_a2 : (-2147483648) ≤ a2_z ∧ a2_z ≤ 2147483647 := by rw [← hz_a2]; exact ⟨z_lo _, z_hi _⟩
  generalize hQQ : MQ below _ _ _ _ _ _ = QQ
  replace hQQ := hQQ.symm
  refine lv_iload_n X.1 X.2.1 dX1_boundOf_0 rfl (lv_at hl 0 rfl) ?_
  refine lv_iload_n X.1 X.2.1 dX1_boundOf_1 rfl (lv_at hl 1 rfl) ?_
  refine k_l (rm := { frames := 1, cells := 0, slots := 0, locals := 48 }) (av := [.int (a1), .int (a2)]) X hw (va_runS (As := [.int (a1), .int (a2)]) (rest := []) (cfix X) (k_X1_waysInOrder7 l G cy κ S _ (a1) (a1_z) (a2) (a2_z) hG hz_a1 hz_a2 (by omega)) (cwS 2 X.2.2.2.1 gX1_boundOf_X1_waysInOrder rfl rfl rfl (by decide +kernel) ⟨Nat.le_of_ble_eq_true rfl, Nat.le_of_ble_eq_true rfl⟩) (pre_S X hw _) rfl rfl hl.1 rfl (lv_room (Nat.le_of_ble_eq_true rfl)) dX1_boundOf_2 ⟨Nat.le_of_ble_eq_true rfl, Nat.le_of_ble_eq_true rfl⟩) 0 0 (Nat.le_of_ble_eq_true rfl) (Nat.le_of_ble_eq_true rfl) (fun rr_1 S_2 H locs hp hw hfr hnw => ?_)
  obtain ⟨e2, hp⟩ := hp
  subst e2
  have wy_3 : rr_1 = wyI (a1) (a2_z).toNat := hp
  refine lv_lstore_n (lv' := [(2, .long (rr_1)), (0, .int (a1)), (1, .int (a2))]) X.1 X.2.1 dX1_boundOf_5 rfl hl (by decide) rfl (fun ls hl => ?_)
  refine lv_iload_n X.1 X.2.1 dX1_boundOf_6 rfl (lv_at hl 1 rfl) ?_
  refine lv_iload_n X.1 X.2.1 dX1_boundOf_7 rfl (lv_at hl 2 rfl) ?_
  refine lv_isub X.1 X.2.1 dX1_boundOf_8 ?_
  refine lv_topi (fun v_4 ev_4 => ?_)
  have z_5 : v_4.toInt = a1_z - a2_z := z_sub ev_4 hz_a1 hz_a2 (by omega) (by omega)
  refine lv_istore (lv' := [(4, .int (v_4)), (2, .long (rr_1)), (0, .int (a1)), (1, .int (a2))]) X.1 X.2.1 dX1_boundOf_9 hl (by decide) rfl (fun ls hl => ?_)
  have L_6 : ∀ (n : Nat) (H : Heap) (locs : List Loc) (ls : Array Slot) (i4_7 : Int32) (i4_7_z : Int), ((i4_7_z).toNat = n) → (Wd G cy (AS S s.heap.size) s.heap S H locs) → (i4_7.toInt = i4_7_z) → (0 ≤ i4_7_z ∧ i4_7_z ≤ 300) → (bdF a1 a2_z.toNat (i4_7_z).toNat = bdF a1 a2_z.toNat (a1_z - a2_z).toNat) → (lv_has ls 5 [(4, .int (i4_7)), (2, .long (rr_1)), (0, .int (a1)), (1, .int (a2))]) → W p l e ({ frames := 2, cells := 0, slots := 0, locals := 96 }) s m [.int (a1), .int (a2)].toArray below meth c H locs 0 0 QQ (F0 m 11 ls []) := by
    intro n
    induction n using Nat.strongRecOn with
    | ind n ih =>
    intro H locs ls i4_7 i4_7_z hn hw hz_i4_7 hr_i4_7 iv_8 hl
    have rg_9 : (-2147483648) ≤ i4_7_z ∧ i4_7_z ≤ 2147483647 := by rw [← hz_i4_7]; exact ⟨z_lo _, z_hi _⟩
    refine lv_iload X.1 X.2.1 dX1_boundOf_11 (lv_at hl 0 rfl) ?_
    refine lv_if_le (tgt := 42) X.1 X.2.1 dX1_boundOf_13 (by decide) (fun c_10 => ?_) (fun c_10 => ?_)
    · have z_b_11 := trivial
      have k_12 : i4_7_z ≤ 0 := z_le hz_i4_7 ti_0 c_10
      refine lv_iconst (v := 0) X.1 X.2.1 dX1_boundOf_42 (by decide) ?_
      rw [hQQ]
      exact ret_i X hw hr hlocks (Nat.le_of_ble_eq_true rfl) (Nat.le_of_ble_eq_true rfl) ⟨rfl, ⟨z_lo _, z_hi _, (by have h := iv_8; rw [show (i4_7_z).toNat = 0 by omega] at h; exact ti_0.trans h)⟩⟩ dX1_boundOf_43
    · have z_b_13 := trivial
      have k_14 : i4_7_z > 0 := z_nle hz_i4_7 ti_0 c_10
      refine lv_ldc2 (v := 20) X.1 X.2.1 X.2.2.2.2.1 (X.2.2.2.1 (.constantLong RX1 68 20) (by decide +kernel)) dX1_boundOf_16 ?_
      refine lv_iload_n X.1 X.2.1 dX1_boundOf_19 rfl (lv_at hl 2 rfl) ?_
      refine lv_iload X.1 X.2.1 dX1_boundOf_20 (lv_at hl 0 rfl) ?_
      refine lv_isub X.1 X.2.1 dX1_boundOf_22 ?_
      refine lv_topi (fun v_15 ev_15 => ?_)
      have z_16 : v_15.toInt = a1_z - i4_7_z := z_sub ev_15 hz_a1 hz_i4_7 (by omega) (by omega)
      refine lv_iload_n X.1 X.2.1 dX1_boundOf_23 rfl (lv_at hl 3 rfl) ?_
      refine k_l (rm := { frames := 1, cells := 0, slots := 0, locals := 48 }) (av := [.int (v_15), .int (a2)]) X hw (va_runS (As := [.int (v_15), .int (a2)]) (rest := [.long (20)]) (cfix X) (k_X1_waysInOrder7 l G cy κ S _ (v_15) (v_15.toInt) (a2) (a2_z) hG rfl hz_a2 (by omega)) (cwS 2 X.2.2.2.1 gX1_boundOf_X1_waysInOrder rfl rfl rfl (by decide +kernel) ⟨Nat.le_of_ble_eq_true rfl, Nat.le_of_ble_eq_true rfl⟩) (pre_S X hw _) rfl rfl hl.1 rfl (lv_room (Nat.le_of_ble_eq_true rfl)) dX1_boundOf_24 ⟨Nat.le_of_ble_eq_true rfl, Nat.le_of_ble_eq_true rfl⟩) 0 0 (Nat.le_of_ble_eq_true rfl) (Nat.le_of_ble_eq_true rfl) (fun rr_17 S_18 H locs hp hw hfr hnw => ?_)
      obtain ⟨e2, hp⟩ := hp
      subst e2
      have wy_19 : rr_17 = wyI (v_15) (a2_z).toNat := hp
      refine lv_lmul X.1 X.2.1 dX1_boundOf_27 ?_
      refine lv_topl (fun v_20 ev_20 => ?_)
      refine lv_lload_n X.1 X.2.1 dX1_boundOf_28 rfl (lv_at hl 1 rfl) ?_
      refine W.lcmp X.1 X.2.1 dX1_boundOf_29 ?_
      refine lv_topi (fun v_21 ev_21 => ?_)
      have rg_22 := And.intro (z_lo v_21) (z_hi v_21)
      refine lv_if_lt (tgt := 36) X.1 X.2.1 dX1_boundOf_30 (by decide) (fun c_23 => ?_) (fun c_23 => ?_)
      · have z_b_24 := trivial
        have k_25 : v_21.toInt < 0 := z_lt rfl ti_0 c_23
        obtain ⟨x_26, ex_26⟩ : ∃ y : Int32, y = i4_7 + (-1) := ⟨_, rfl⟩
        have z_27 : x_26.toInt = i4_7_z + (-1) := z_add ex_26 hz_i4_7 ti_m1 (by omega) (by omega)
        refine lv_iinc (v := x_26) (lv' := [(4, .int (x_26)), (2, .long (rr_1)), (0, .int (a1)), (1, .int (a2))]) X.1 X.2.1 dX1_boundOf_36 hl (k := 0) rfl (by rw [ex_26]; rfl) (by decide) rfl (fun ls hl => ?_)
        refine lv_goto (tgt := 11) X.1 X.2.1 dX1_boundOf_39 (by decide) ?_
        have cl_28 : 20 * wyI (a1 - Int32.ofInt ((((x_26.toInt).toNat : Nat) : Int) + 1)) a2_z.toNat < wyI a1 a2_z.toNat := by have h := cmp_lt ev_21 (by omega); rw [ev_20, wy_19, ev_15, wy_3] at h; rw [show ((((x_26.toInt).toNat : Nat) : Int) + 1) = i4_7_z by omega, oi_e hz_i4_7]; exact h
        exact ih _ (by omega) _ _ _ (x_26) (x_26.toInt) rfl hw rfl (by omega) (by have h := iv_8; rw [show (i4_7_z).toNat = (x_26.toInt).toNat + 1 by omega, bdF_lt cl_28] at h; exact h) (lv_sub hl [0, 1, 2, 3] rfl)
      · have z_b_29 := trivial
        have k_30 : v_21.toInt ≥ 0 := z_nlt rfl ti_0 c_23
        refine lv_iload X.1 X.2.1 dX1_boundOf_33 (lv_at hl 0 rfl) ?_
        have cl_31 : ¬ 20 * wyI (a1 - Int32.ofInt ((((i4_7_z - 1).toNat : Nat) : Int) + 1)) a2_z.toNat < wyI a1 a2_z.toNat := by have h := cmp_ge ev_21 (by omega); rw [ev_20, wy_19, ev_15, wy_3] at h; rw [show ((((i4_7_z - 1).toNat : Nat) : Int) + 1) = i4_7_z by omega, oi_e hz_i4_7]; exact h
        rw [hQQ]
        exact ret_i X hw hr hlocks (Nat.le_of_ble_eq_true rfl) (Nat.le_of_ble_eq_true rfl) ⟨rfl, ⟨z_lo _, z_hi _, (by have h := iv_8; rw [show (i4_7_z).toNat = (i4_7_z - 1).toNat + 1 by omega, bdF_ge cl_31] at h; have e1 : (i4_7 : Int32).toInt = i4_7_z := hz_i4_7; omega)⟩⟩ dX1_boundOf_35
  exact L_6 _ _ _ _ (v_4) (v_4.toInt) rfl hw rfl (by omega) (by rw [show (v_4.toInt) = a1_z - a2_z by omega]) (lv_sub hl [0, 1, 2, 3] rfl)
set_option maxHeartbeats 4000000 in
set_option maxRecDepth 100000 in
theorem k_X1_gradeOfOff7 (l : Launch) (G : va_G) (cy : Nat → ClassId) (κ : Nat → Nat) (S : PS) (sz : Nat) (x : Nat) (hG : GX S) (ha_x : At S x 1) : Ci l yX1_gradeOfOff wsX1_gradeOfOff ({ frames := 1, cells := 0, slots := 0, locals := 48 }) G cy κ S sz [.ref x] (fun (r : Int32) (S9 : PS) => S = S9 ∧ (0 ≤ r.toInt ∧ r.toInt ≤ 3 ∧ r.toInt = grF (pI S 102 x))) := by
  refine ent_m (cc := cX1_gradeOfOff) (maxL := 1) (ret := (some .int)) (by decide) rfl (Nat.le_of_ble_eq_true rfl) ?_
  intro p e s m below meth c ls X hr hlocks hin hw hl hsz
  subst hsz
  have X : Cx p c cX1_gradeOfOff 1 s [.ref x].toArray wsX1_gradeOfOff RX1 m G cy κ (AS S s.heap.size) := X
  have hl : lv_has ls 1 [(0, .ref x)] := hl
  refine lv_aload_n X.1 X.2.1 dX1_gradeOfOff_0 rfl (lv_at hl 0 rfl) ?_
  obtain ⟨v_1, ev_1⟩ : ∃ v, pI S 102 x = v := ⟨_, rfl⟩
  have rg_3 := And.intro (z_lo v_1) (z_hi v_1)
  have pz_4 : (pI S 102 x).toInt = v_1.toInt := by rw [ev_1]
  refine r_getI (g := 102) (x := v_1) X hw ha_x rfl 2 ev_1 (by decide) rfl inn_X1_gradeOfOff_1 (by decide) (X.2.2.2.1 (.fieldLink RX1 19 "SilkMill$Draw" "off" "I") (by decide +kernel)) rfl (gv_102 _ _) dX1_gradeOfOff_1 ?_
  refine lv_iconst (v := 3) X.1 X.2.1 dX1_gradeOfOff_4 (by decide) ?_
  refine lv_icmp_gt (tgt := 10) X.1 X.2.1 dX1_gradeOfOff_5 (by decide) (fun c_5 => ?_) (fun c_5 => ?_)
  · have z_b_6 := trivial
    have k_7 : v_1.toInt > 3 := z_lt ti_3 rfl c_5
    refine lv_aload_n X.1 X.2.1 dX1_gradeOfOff_10 rfl (lv_at hl 0 rfl) ?_
    refine r_getI (g := 102) (x := v_1) X hw ha_x rfl 2 ev_1 (by decide) rfl inn_X1_gradeOfOff_1 (by decide) (X.2.2.2.1 (.fieldLink RX1 19 "SilkMill$Draw" "off" "I") (by decide +kernel)) rfl (gv_102 _ _) dX1_gradeOfOff_11 ?_
    refine lv_bipush (v := 8) X.1 X.2.1 dX1_gradeOfOff_14 (by decide) ?_
    refine lv_icmp_gt (tgt := 21) X.1 X.2.1 dX1_gradeOfOff_16 (by decide) (fun c_8 => ?_) (fun c_8 => ?_)
    · have z_b_9 := trivial
      have k_10 : v_1.toInt > 8 := z_lt ti_8 rfl c_8
      refine lv_aload_n X.1 X.2.1 dX1_gradeOfOff_21 rfl (lv_at hl 0 rfl) ?_
      refine r_getI (g := 102) (x := v_1) X hw ha_x rfl 2 ev_1 (by decide) rfl inn_X1_gradeOfOff_1 (by decide) (X.2.2.2.1 (.fieldLink RX1 19 "SilkMill$Draw" "off" "I") (by decide +kernel)) rfl (gv_102 _ _) dX1_gradeOfOff_22 ?_
      refine lv_bipush (v := 20) X.1 X.2.1 dX1_gradeOfOff_25 (by decide) ?_
      refine lv_icmp_gt (tgt := 34) X.1 X.2.1 dX1_gradeOfOff_27 (by decide) (fun c_11 => ?_) (fun c_11 => ?_)
      · have z_b_12 := trivial
        have k_13 : v_1.toInt > 20 := z_lt ti_20 rfl c_11
        refine lv_iconst (v := 3) X.1 X.2.1 dX1_gradeOfOff_34 (by decide) ?_
        exact ret_i X hw hr hlocks (Nat.le_of_ble_eq_true rfl) (Nat.le_of_ble_eq_true rfl) ⟨rfl, ⟨by decide, by decide, (by rw [ev_1, grF_3 (by have e1 : (v_1 : Int32).toInt = v_1.toInt := rfl; omega)]; decide)⟩⟩ dX1_gradeOfOff_35
      · have z_b_14 := trivial
        have k_15 : v_1.toInt ≤ 20 := z_nlt ti_20 rfl c_11
        refine lv_iconst (v := 2) X.1 X.2.1 dX1_gradeOfOff_30 (by decide) ?_
        refine lv_goto (tgt := 35) X.1 X.2.1 dX1_gradeOfOff_31 (by decide) ?_
        exact ret_i X hw hr hlocks (Nat.le_of_ble_eq_true rfl) (Nat.le_of_ble_eq_true rfl) ⟨rfl, ⟨by decide, by decide, (by rw [ev_1, grF_2 (by have e1 : (v_1 : Int32).toInt = v_1.toInt := rfl; omega) (by have e1 : (v_1 : Int32).toInt = v_1.toInt := rfl; omega)]; decide)⟩⟩ dX1_gradeOfOff_35
    · have z_b_16 := trivial
      have k_17 : v_1.toInt ≤ 8 := z_nlt ti_8 rfl c_8
      refine lv_iconst (v := 1) X.1 X.2.1 dX1_gradeOfOff_19 (by decide) ?_
      exact ret_i X hw hr hlocks (Nat.le_of_ble_eq_true rfl) (Nat.le_of_ble_eq_true rfl) ⟨rfl, ⟨by decide, by decide, (by rw [ev_1, grF_1 (by have e1 : (v_1 : Int32).toInt = v_1.toInt := rfl; omega) (by have e1 : (v_1 : Int32).toInt = v_1.toInt := rfl; omega)]; decide)⟩⟩ dX1_gradeOfOff_20
  · have z_b_18 := trivial
    have k_19 : v_1.toInt ≤ 3 := z_nlt ti_3 rfl c_5
    refine lv_iconst (v := 0) X.1 X.2.1 dX1_gradeOfOff_8 (by decide) ?_
    exact ret_i X hw hr hlocks (Nat.le_of_ble_eq_true rfl) (Nat.le_of_ble_eq_true rfl) ⟨rfl, ⟨by decide, by decide, (by rw [ev_1, grF_0 (by have e1 : (v_1 : Int32).toInt = v_1.toInt := rfl; omega)]; decide)⟩⟩ dX1_gradeOfOff_9
