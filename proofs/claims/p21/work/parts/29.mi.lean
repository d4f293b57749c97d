/-! ===== the reference's rows, as functions ===== -/
def mA (S : PS) (x g : Nat) : Nat → Int32 := match pR S g x with | some q => pA S q | none => fun _ => 0
theorem mA_eq {S : PS} {x g q : Nat} (h : pR S g x = some q) : mA S x g = pA S q := by unfold mA; rw [h]
theorem zA_ex (S : PS) (x g : Nat) : ∃ f : Nat → Int, f = fun i => (mA S x g i).toInt := ⟨_, rfl⟩
noncomputable def zA (S : PS) (x g : Nat) : Nat → Int := Classical.choose (zA_ex S x g)
theorem zA_eq (S : PS) (x g i : Nat) : zA S x g i = (mA S x g i).toInt := congrFun (Classical.choose_spec (zA_ex S x g)) i
def nxt (a : Int32) : Int32 := a * 1103515245 + 12345
def prt (a n : Int32) : Int32 := (a.toUInt32 >>> ((16 : Int32).toUInt32 &&& Int32.toUInt32 31)).toInt32 - (a.toUInt32 >>> ((16 : Int32).toUInt32 &&& Int32.toUInt32 31)).toInt32 / n * n
def lenI (sd lg i : Int32) : Int32 := if 20 ≤ lg + prt (nxt (sd + 7919 * i)) 41 - 20 then lg + prt (nxt (sd + 7919 * i)) 41 - 20 else 20
theorem lenZ_ex (S : PS) (x : Nat) : ∃ f : Int → Int, f = fun c => (lenI (mA S x 1203 (c / 60).toNat) (mA S x 1205 (c / 60).toNat) (Int32.ofInt (c % 60))).toInt := ⟨_, rfl⟩
noncomputable def lenZ (S : PS) (x : Nat) : Int → Int := Classical.choose (lenZ_ex S x)
theorem lenZ_eq (S : PS) (x : Nat) (c : Int) : lenZ S x c = (lenI (mA S x 1203 (c / 60).toNat) (mA S x 1205 (c / 60).toNat) (Int32.ofInt (c % 60))).toInt := congrFun (Classical.choose_spec (lenZ_ex S x)) c
/-! ===== what the reference's rows keep among themselves; e is exempt (a cocoon that is just being drawn) ===== -/
abbrev ZF : Type := Nat → Int
def M1 (e lots : Int) (st pl : ZF) (len : Int → Int) : Prop := ∀ c : Nat, c < 600 → (60 * lots ≤ (c : Int) → pl c = 0 ∧ st c = 0) ∧ ((c : Int) < 60 * lots → pl c ≤ len c ∧ (st c ≠ 4 → (c : Int) ≠ e → pl c < len c))
def M2 (lots : Int) (st po ro mn : ZF) : Prop := ∀ r k : Nat, r < 12 → (k : Int) < mn r → 0 ≤ ro (600 * r + k) ∧ ro (600 * r + k) < 60 * lots ∧ st (ro (600 * r + k)).toNat = ((r % 3 + 1 : Nat) : Int) ∧ po (ro (600 * r + k)).toNat = ((r / 3 : Nat) : Int)
def M3 (ro mn : ZF) : Prop := ∀ r k k' : Nat, r < 12 → k < k' → (k' : Int) < mn r → ro (600 * r + k) ≠ ro (600 * r + k')
def M4 (mn : ZF) : Prop := (∀ p : Nat, p < 4 → mn (3 * p + 1) ≤ 12) ∧ ∀ r : Nat, r < 12 → 0 ≤ mn r ∧ mn r ≤ 600
def M5 (lots : Int) (st il la lv : ZF) : Prop := (∀ k : Nat, k < 16 → il k ≠ 0 → la k = 0 → 0 ≤ lv k ∧ lv k < 60 * lots ∧ st (lv k).toNat = 5) ∧ ∀ k k' : Nat, k < 16 → k' < 16 → k ≠ k' → il k ≠ 0 → la k = 0 → il k' ≠ 0 → la k' = 0 → lv k ≠ lv k'
def M6 (lots : Int) (dr : ZF) (len : Int → Int) : Prop := ∀ j : Nat, j < 158400 → dr j % 1000 = 0 ∨ (dr j / 1000 < 60 * lots ∧ dr j % 1000 < len (dr j / 1000))
def M7 (sk : Int) (fm : ZF) : Prop := fm 0 = 0 ∧ ∀ k : Nat, (k : Int) < sk → 1 ≤ fm (k + 1) - fm k ∧ fm (k + 1) - fm k ≤ 300
def MIe (S : PS) (x : Nat) (e : Int) : Prop := M1 e (pI S 1201 x).toInt (zA S x 1207) (zA S x 1208) (lenZ S x) ∧ M2 (pI S 1201 x).toInt (zA S x 1207) (zA S x 1209) (zA S x 1218) (zA S x 1219) ∧ M3 (zA S x 1218) (zA S x 1219) ∧ M4 (zA S x 1219) ∧ M5 (pI S 1201 x).toInt (zA S x 1207) (zA S x 1253) (zA S x 1254) (zA S x 1255) ∧ M6 (pI S 1201 x).toInt (zA S x 1236) (lenZ S x) ∧ M7 (pI S 1238 x).toInt (zA S x 1239)
def MI (S : PS) (x : Nat) : Prop := MIe S x (-1)
def GR (S : PS) (x : Nat) : Prop := ∀ p : Nat, p < 4 → zA S x 1237 p ≤ 299
/-- a cocoon that is in no row and on no shelf -/
def Fre (S : PS) (x : Nat) (c : Int) : Prop := (∀ r k : Nat, r < 12 → (k : Int) < zA S x 1219 r → zA S x 1218 (600 * r + k) ≠ c) ∧ ∀ k : Nat, k < 16 → zA S x 1253 k ≠ 0 → zA S x 1254 k = 0 → zA S x 1255 k ≠ c
theorem pigeon : ∀ (m n : Nat) (f : Nat → Nat), (∀ i, i < n → f i < m) → (∀ i j, i < j → j < n → f i ≠ f j) → n ≤ m
  | 0, n, f, h1, _ => by
    cases n with
    | zero => exact Nat.le_refl 0
    | succ n => exact absurd (h1 0 (Nat.succ_pos n)) (Nat.not_lt_zero _)
  | m + 1, n, f, h1, h2 => by
    by_cases h : ∃ i, i < n ∧ f i = m
    · obtain ⟨i0, hi, he⟩ := h
      have key := pigeon m (n - 1) (fun j => if j < i0 then f j else f (j + 1)) (fun i hi2 => by
        show (if i < i0 then f i else f (i + 1)) < m
        split
        · rename_i hl
          have a := h1 i (by omega)
          have b := h2 i i0 hl hi
          omega
        · rename_i hl
          have a := h1 (i + 1) (by omega)
          have b := h2 i0 (i + 1) (by omega) (by omega)
          omega) (fun i j hij hj => by
        show (if i < i0 then f i else f (i + 1)) ≠ (if j < i0 then f j else f (j + 1))
        split <;> split
        · exact h2 i j hij (by omega)
        · exact h2 i (j + 1) (by omega) (by omega)
        · omega
        · exact h2 (i + 1) (j + 1) (by omega) (by omega))
      omega
    · have key := pigeon m n f (fun i hi => by
        have a := h1 i hi
        have b : f i ≠ m := fun e => h ⟨i, hi, e⟩
        omega) h2
      omega
/-- room for one more in a row -/
theorem row_room {lots : Int} {st po ro mn : ZF} {c : Int} {r : Nat} (hl : lots ≤ 10) (h2 : M2 lots st po ro mn) (h3 : M3 ro mn) (h4 : M4 mn) (hr : r < 12) (hc0 : 0 ≤ c) (hc : c < 60 * lots) (hf : ∀ k : Nat, (k : Int) < mn r → ro (600 * r + k) ≠ c) : mn r ≤ 599 := by
  have h0 := (h4.2 r hr).1
  have key := pigeon 600 ((mn r).toNat + 1) (fun i => if i < (mn r).toNat then (ro (600 * r + i)).toNat else c.toNat) (fun i hi => by
    show (if i < (mn r).toNat then (ro (600 * r + i)).toNat else c.toNat) < 600
    split
    · have := h2 r i hr (by omega); omega
    · omega) (fun i j hij hj => by
    show (if i < (mn r).toNat then (ro (600 * r + i)).toNat else c.toNat) ≠ (if j < (mn r).toNat then (ro (600 * r + j)).toNat else c.toNat)
    have hi : i < (mn r).toNat := by omega
    rw [if_pos hi]
    have a1 := h2 r i hr (by omega)
    split
    · have a2 := h2 r j hr (by omega)
      have a3 := h3 r i j hr hij (by omega)
      omega
    · have a3 := hf i (by omega)
      omega)
  omega
theorem M1_st {e lots : Int} {st st' pl : ZF} {len : Int → Int} {c : Nat} {v : Int} (h : M1 e lots st pl len) (hs : ∀ j, st' j = if j = c then v else st j) (hc : (c : Int) < 60 * lots) (hv : v = 4 ∨ (c : Int) = e ∨ pl c < len c) : M1 e lots st' pl len := fun d hd => by
  obtain ⟨a1, a2⟩ := h d hd
  rw [hs d]
  by_cases hdc : d = c
  · subst hdc
    rw [if_pos rfl]
    refine ⟨fun z => by omega, fun z => ⟨(a2 z).1, fun z1 z2 => ?_⟩⟩
    rcases hv with h | h | h
    · exact absurd h z1
    · exact absurd h z2
    · exact h
  · rw [if_neg hdc]; exact ⟨a1, a2⟩
/-- one is taken out of a row -/
theorem M2_goes {lots : Int} {st po ro ro' mn mn' : ZF} {r i : Nat} (hr : r < 12) (h2 : M2 lots st po ro mn) (h4 : M4 mn) (hm : ∀ j, mn' j = if j = r then mn r - 1 else mn j) (hi : (i : Int) < mn r) (ho : ∀ j : Nat, ro' j = if 600 * r + i ≤ j ∧ (j : Int) < 600 * r + (mn r - 1) then ro (j + 1) else ro j) : M2 lots st po ro' mn' := fun q k hq hk => by
  rw [hm q] at hk
  rw [ho (600 * q + k)]
  have b1 := h4.2 q hq
  have b2 := h4.2 r hr
  by_cases hqr : q = r
  · subst hqr
    rw [if_pos rfl] at hk
    split
    · have := h2 q (k + 1) hq (by omega)
      rw [Nat.add_assoc]; exact this
    · exact h2 q k hq (by omega)
  · rw [if_neg hqr] at hk
    rw [if_neg (by omega)]
    exact h2 q k hq hk
theorem M3_goes {ro ro' mn mn' : ZF} {r i : Nat} (hr : r < 12) (h3 : M3 ro mn) (h4 : M4 mn) (hm : ∀ j, mn' j = if j = r then mn r - 1 else mn j) (hi : (i : Int) < mn r) (ho : ∀ j : Nat, ro' j = if 600 * r + i ≤ j ∧ (j : Int) < 600 * r + (mn r - 1) then ro (j + 1) else ro j) : M3 ro' mn' := fun q k k' hq hkk hk => by
  rw [hm q] at hk
  rw [ho (600 * q + k), ho (600 * q + k')]
  have b1 := h4.2 q hq
  have b2 := h4.2 r hr
  by_cases hqr : q = r
  · subst hqr
    rw [if_pos rfl] at hk
    split <;> split
    · rw [Nat.add_assoc, Nat.add_assoc]; exact h3 q (k + 1) (k' + 1) hq (by omega) (by omega)
    · omega
    · rw [Nat.add_assoc]; exact h3 q k (k' + 1) hq (by omega) (by omega)
    · exact h3 q k k' hq hkk (by omega)
  · rw [if_neg hqr] at hk
    rw [if_neg (by omega), if_neg (by omega)]
    exact h3 q k k' hq hkk hk
theorem M4_goes {mn mn' : ZF} {r : Nat} (h4 : M4 mn) (hr : r < 12) (hm : ∀ j, mn' j = if j = r then mn r - 1 else mn j) (h1 : 1 ≤ mn r) : M4 mn' := by
  refine ⟨fun p hp => ?_, fun q hq => ?_⟩
  · have a := h4.1 p hp
    rw [hm]; split
    · rename_i e; rw [← e]; omega
    · exact a
  · have a := h4.2 q hq
    rw [hm]; split
    · rename_i e; subst e; omega
    · exact a
/-- what was taken out is in no row -/
theorem free_goes {lots : Int} {st po ro ro' mn mn' : ZF} {r i : Nat} (hr : r < 12) (h2 : M2 lots st po ro mn) (h3 : M3 ro mn) (h4 : M4 mn) (hm : ∀ j, mn' j = if j = r then mn r - 1 else mn j) (hi : (i : Int) < mn r) (ho : ∀ j : Nat, ro' j = if 600 * r + i ≤ j ∧ (j : Int) < 600 * r + (mn r - 1) then ro (j + 1) else ro j) : ∀ q k : Nat, q < 12 → (k : Int) < mn' q → ro' (600 * q + k) ≠ ro (600 * r + i) := fun q k hq hk => by
  rw [hm q] at hk
  rw [ho (600 * q + k)]
  have b1 := h4.2 q hq
  have b2 := h4.2 r hr
  by_cases hqr : q = r
  · subst hqr
    rw [if_pos rfl] at hk
    split
    · rw [Nat.add_assoc]
      exact Ne.symm (h3 q i (k + 1) hq (by omega) (by omega))
    · exact h3 q k i hq (by omega) (by omega)
  · rw [if_neg hqr] at hk
    rw [if_neg (by omega)]
    have c1 := h2 q k hq hk
    have c2 := h2 r i hr hi
    intro e
    rw [e] at c1
    have d1 := c1.2.2.1.symm.trans c2.2.2.1
    have d2 := c1.2.2.2.symm.trans c2.2.2.2
    omega
/-- one comes into a row, at w -/
theorem M2_comes {lots : Int} {st st' po po' ro ro' mn mn' : ZF} {r w : Nat} {c : Int} (hr : r < 12) (h2 : M2 lots st po ro mn) (h4 : M4 mn) (hc0 : 0 ≤ c) (hc : c < 60 * lots) (hf : ∀ q k : Nat, q < 12 → (k : Int) < mn q → ro (600 * q + k) ≠ c) (hb : mn r ≤ 599) (hw : (w : Int) ≤ mn r) (hm : ∀ j, mn' j = if j = r then mn r + 1 else mn j) (ho : ∀ j : Nat, ro' j = if j = 600 * r + w then c else if 600 * r + w < j ∧ (j : Int) ≤ 600 * r + mn r then ro (j - 1) else ro j) (hs : ∀ j, st' j = if j = c.toNat then ((r % 3 + 1 : Nat) : Int) else st j) (hp : ∀ j, po' j = if j = c.toNat then ((r / 3 : Nat) : Int) else po j) : M2 lots st' po' ro' mn' := fun q k hq hk => by
  rw [hm q] at hk
  have b1 := h4.2 q hq
  have b2 := h4.2 r hr
  have gen : ∀ d : Int, 0 ≤ d → d ≠ c → ∀ q : Nat, st d.toNat = ((q % 3 + 1 : Nat) : Int) ∧ po d.toNat = ((q / 3 : Nat) : Int) → st' d.toNat = ((q % 3 + 1 : Nat) : Int) ∧ po' d.toNat = ((q / 3 : Nat) : Int) := fun d hd hdc q h => by
    rw [hs, hp, if_neg (by omega), if_neg (by omega)]; exact h
  rw [ho (600 * q + k)]
  by_cases hqr : q = r
  · subst hqr
    rw [if_pos rfl] at hk
    by_cases e1 : k = w
    · subst e1
      rw [if_pos rfl]
      refine ⟨hc0, hc, ?_, ?_⟩
      · rw [hs, if_pos rfl]
      · rw [hp, if_pos rfl]
    · rw [if_neg (by omega)]
      by_cases e2 : w < k
      · rw [if_pos (by omega)]
        have a := h2 q (k - 1) hq (by omega)
        have f := hf q (k - 1) hq (by omega)
        rw [show 600 * q + k - 1 = 600 * q + (k - 1) by omega]
        exact ⟨a.1, a.2.1, gen _ a.1 f q a.2.2⟩
      · rw [if_neg (by omega)]
        have a := h2 q k hq (by omega)
        have f := hf q k hq (by omega)
        exact ⟨a.1, a.2.1, gen _ a.1 f q a.2.2⟩
  · rw [if_neg hqr] at hk
    rw [if_neg (by omega), if_neg (by omega)]
    have a := h2 q k hq hk
    have f := hf q k hq hk
    exact ⟨a.1, a.2.1, gen _ a.1 f q a.2.2⟩
theorem M3_comes {ro ro' mn mn' : ZF} {r w : Nat} {c : Int} (hr : r < 12) (h3 : M3 ro mn) (h4 : M4 mn) (hf : ∀ q k : Nat, q < 12 → (k : Int) < mn q → ro (600 * q + k) ≠ c) (hb : mn r ≤ 599) (hw : (w : Int) ≤ mn r) (hm : ∀ j, mn' j = if j = r then mn r + 1 else mn j) (ho : ∀ j : Nat, ro' j = if j = 600 * r + w then c else if 600 * r + w < j ∧ (j : Int) ≤ 600 * r + mn r then ro (j - 1) else ro j) : M3 ro' mn' := fun q k k' hq hkk hk => by
  rw [hm q] at hk
  have b1 := h4.2 q hq
  have b2 := h4.2 r hr
  rw [ho (600 * q + k), ho (600 * q + k')]
  by_cases hqr : q = r
  · subst hqr
    rw [if_pos rfl] at hk
    by_cases e1 : k = w
    · subst e1
      rw [if_pos rfl, if_neg (by omega), if_pos (by omega), show 600 * q + k' - 1 = 600 * q + (k' - 1) by omega]
      exact Ne.symm (hf q (k' - 1) hq (by omega))
    · rw [if_neg (show ¬ 600 * q + k = 600 * q + w by omega)]
      by_cases e2 : k' = w
      · subst e2
        rw [if_pos rfl, if_neg (show ¬ (600 * q + k' < 600 * q + k ∧ ((600 * q + k : Nat) : Int) ≤ 600 * q + mn q) by omega)]
        exact hf q k hq (by omega)
      · rw [if_neg (show ¬ 600 * q + k' = 600 * q + w by omega)]
        by_cases e3 : w < k
        · rw [if_pos (show 600 * q + w < 600 * q + k ∧ ((600 * q + k : Nat) : Int) ≤ 600 * q + mn q by omega), if_pos (show 600 * q + w < 600 * q + k' ∧ ((600 * q + k' : Nat) : Int) ≤ 600 * q + mn q by omega), show 600 * q + k - 1 = 600 * q + (k - 1) by omega, show 600 * q + k' - 1 = 600 * q + (k' - 1) by omega]
          exact h3 q (k - 1) (k' - 1) hq (by omega) (by omega)
        · rw [if_neg (show ¬ (600 * q + w < 600 * q + k ∧ ((600 * q + k : Nat) : Int) ≤ 600 * q + mn q) by omega)]
          by_cases e4 : w < k'
          · rw [if_pos (show 600 * q + w < 600 * q + k' ∧ ((600 * q + k' : Nat) : Int) ≤ 600 * q + mn q by omega), show 600 * q + k' - 1 = 600 * q + (k' - 1) by omega]
            exact h3 q k (k' - 1) hq (by omega) (by omega)
          · rw [if_neg (show ¬ (600 * q + w < 600 * q + k' ∧ ((600 * q + k' : Nat) : Int) ≤ 600 * q + mn q) by omega)]
            exact h3 q k k' hq hkk (by omega)
  · rw [if_neg hqr] at hk
    rw [if_neg (by omega), if_neg (by omega), if_neg (by omega), if_neg (by omega)]
    exact h3 q k k' hq hkk hk
theorem M4_comes {mn mn' : ZF} {r : Nat} (h4 : M4 mn) (hr : r < 12) (hm : ∀ j, mn' j = if j = r then mn r + 1 else mn j) (hb : mn r ≤ 599) (he : r % 3 = 1 → mn r ≤ 11) : M4 mn' := by
  refine ⟨fun p hp => ?_, fun q hq => ?_⟩
  · have a := h4.1 p hp
    rw [hm]; split
    · rename_i e; have := he (by omega); omega
    · exact a
  · have a := h4.2 q hq
    rw [hm]; split
    · rename_i e; subst e; omega
    · exact a
theorem M5_st {lots : Int} {st st' il la lv : ZF} {c : Int} {v : Int} (h : M5 lots st il la lv) (hc : 0 ≤ c) (hs : ∀ j, st' j = if j = c.toNat then v else st j) (hf : ∀ k : Nat, k < 16 → il k ≠ 0 → la k = 0 → lv k ≠ c) : M5 lots st' il la lv := ⟨fun k hk h1 h2 => by
  obtain ⟨a, b, d⟩ := h.1 k hk h1 h2
  have f := hf k hk h1 h2
  exact ⟨a, b, by rw [hs, if_neg (by omega)]; exact d⟩, h.2⟩
theorem M1_lot {lots : Int} {st pl : ZF} {len len' : Int → Int} (h : M1 (-1) lots st pl len) (h0 : 0 ≤ lots) (hl : ∀ c : Int, 0 ≤ c → c / 60 ≠ lots → len' c = len c) (h20 : ∀ c, 20 ≤ len' c) : M1 (-1) (lots + 1) st pl len' := fun c hc => by
  obtain ⟨a1, a2⟩ := h c hc
  refine ⟨fun z => a1 (by omega), fun z => ?_⟩
  by_cases e : (c : Int) < 60 * lots
  · rw [hl c (by omega) (by omega)]; exact a2 e
  · have b := a1 (by omega)
    have d := h20 c
    rw [b.1]; exact ⟨by omega, fun _ _ => by omega⟩
theorem M2_lot {lots : Int} {st po ro mn : ZF} (h : M2 lots st po ro mn) : M2 (lots + 1) st po ro mn := fun r k hr hk => by
  obtain ⟨a, b, c⟩ := h r k hr hk
  exact ⟨a, by omega, c⟩
theorem M5_lot {lots : Int} {st il la lv : ZF} (h : M5 lots st il la lv) : M5 (lots + 1) st il la lv := ⟨fun k hk h1 h2 => by
  obtain ⟨a, b, c⟩ := h.1 k hk h1 h2
  exact ⟨a, by omega, c⟩, h.2⟩
theorem M6_lot {lots : Int} {dr : ZF} {len len' : Int → Int} (h : M6 lots dr len) (hd : ∀ j, 0 ≤ dr j) (hl : ∀ c : Int, 0 ≤ c → c / 60 ≠ lots → len' c = len c) : M6 (lots + 1) dr len' := fun j hj => by
  rcases h j hj with a | ⟨a, b⟩
  · exact Or.inl a
  · have := hd j
    exact Or.inr ⟨by omega, by rw [hl _ (by omega) (by omega)]; exact b⟩
theorem M6_set {lots : Int} {dr dr' : ZF} {len : Int → Int} {i : Nat} {v : Int} (h : M6 lots dr len) (hs : ∀ j, dr' j = if j = i then v else dr j) (hv : v % 1000 = 0 ∨ (v / 1000 < 60 * lots ∧ v % 1000 < len (v / 1000))) : M6 lots dr' len := fun j hj => by
  rw [hs j]; split
  · exact hv
  · exact h j hj
/-- shelved: a cocoon of stand 0 -/
theorem M1_any {lots : Int} {st st' pl : ZF} {len : Int → Int} {c : Nat} {v : Int} (h : M1 (-1) lots st pl len) (hc6 : c < 600) (hs : ∀ j, st' j = if j = c then v else st j) (hc : (c : Int) < 60 * lots) (h4 : st c ≠ 4) : M1 (-1) lots st' pl len := M1_st h hs hc (Or.inr (Or.inr (((h c hc6).2 hc).2 h4 (by omega))))
theorem M2_st {lots : Int} {st st' po ro mn : ZF} {c : Int} {v : Int} (h2 : M2 lots st po ro mn) (hc : 0 ≤ c) (hs : ∀ j, st' j = if j = c.toNat then v else st j) (hf : ∀ q k : Nat, q < 12 → (k : Int) < mn q → ro (600 * q + k) ≠ c) : M2 lots st' po ro mn := fun q k hq hk => by
  obtain ⟨a, b, d, e⟩ := h2 q k hq hk
  have f := hf q k hq hk
  exact ⟨a, b, by rw [hs, if_neg (by omega)]; exact d, e⟩
theorem M5_shelve {lots : Int} {st st' il il' la la' lv lv' : ZF} {c : Int} {p : Nat} {v : Int} (h : M5 lots st il la lv) (hv : v ≠ 0) (hc0 : 0 ≤ c) (hc : c < 60 * lots) (hst : st c.toNat = 0) (hs : ∀ j, st' j = if j = c.toNat then 5 else st j) (hi : ∀ j, il' j = if j = p then v else il j) (ha : ∀ j, la' j = if j = p then 0 else la j) (hl : ∀ j, lv' j = if j = p then c else lv j) : M5 lots st' il' la' lv' := by
  refine ⟨fun k hk h1 h2 => ?_, fun k k' hk hk' hkk h1 h2 h3 h4 => ?_⟩
  · rw [hl]; rw [hi] at h1; rw [ha] at h2
    by_cases e : k = p
    · rw [if_pos e]; exact ⟨hc0, hc, by rw [hs, if_pos rfl]⟩
    · rw [if_neg e] at h1 h2 ⊢
      obtain ⟨a, b, d⟩ := h.1 k hk h1 h2
      refine ⟨a, b, ?_⟩
      rw [hs, if_neg (fun z => by rw [z, hst] at d; omega)]; exact d
  · rw [hl, hl]; rw [hi] at h1 h3; rw [ha] at h2 h4
    by_cases e : k = p
    · rw [if_pos e, if_neg (by omega)]
      rw [if_neg (by omega)] at h3 h4
      obtain ⟨a, b, d⟩ := h.1 k' hk' h3 h4
      intro z; rw [← z, hst] at d; omega
    · rw [if_neg e] at h1 h2
      rw [if_neg e]
      by_cases e2 : k' = p
      · rw [if_pos e2]
        obtain ⟨a, b, d⟩ := h.1 k hk h1 h2
        intro z; rw [z, hst] at d; omega
      · rw [if_neg e2] at h3 h4 ⊢
        exact h.2 k k' hk hk' hkk h1 h2 h3 h4
/-- laid, not a cocoon; or taken away -/
theorem M5_lay {lots : Int} {st il il' la la' lv lv' : ZF} {p : Nat} (h : M5 lots st il la lv) (hi : ∀ j, j ≠ p → il' j = il j) (ha : ∀ j, j ≠ p → la' j = la j) (hl : ∀ j, j ≠ p → lv' j = lv j) (hp : il' p = 0 ∨ la' p ≠ 0) : M5 lots st il' la' lv' := by
  refine ⟨fun k hk h1 h2 => ?_, fun k k' hk hk' hkk h1 h2 h3 h4 => ?_⟩
  · by_cases e : k = p
    · subst e; rcases hp with z | z
      · exact absurd z h1
      · exact absurd h2 z
    · rw [hi k e] at h1; rw [ha k e] at h2; rw [hl k e]; exact h.1 k hk h1 h2
  · by_cases e : k = p
    · subst e; rcases hp with z | z
      · exact absurd z h1
      · exact absurd h2 z
    · by_cases e2 : k' = p
      · subst e2; rcases hp with z | z
        · exact absurd z h3
        · exact absurd h4 z
      · rw [hi k e] at h1; rw [ha k e] at h2; rw [hi k' e2] at h3; rw [ha k' e2] at h4; rw [hl k e, hl k' e2]
        exact h.2 k k' hk hk' hkk h1 h2 h3 h4
theorem M7_get {sk : Int} {fm : ZF} (h : M7 sk fm) : ∀ k : Nat, (k : Int) ≤ sk → 0 ≤ fm k ∧ fm k ≤ 300 * k
  | 0, _ => by rw [h.1]; omega
  | k + 1, hk => by
    have a := M7_get h k (by omega)
    have b := h.2 k (by omega)
    omega
theorem M7_cut {sk : Int} {fm fm' : ZF} {n : Int} (h : M7 sk fm) (h0 : 0 ≤ sk) (hn : 1 ≤ n) (hn2 : n ≤ 300) (hs : ∀ j, fm' j = if j = (sk + 1).toNat then fm sk.toNat + n else fm j) : M7 (sk + 1) fm' := by
  refine ⟨by rw [hs, if_neg (by omega)]; exact h.1, fun k hk => ?_⟩
  by_cases e : (k : Int) = sk
  · rw [hs (k + 1), if_pos (by omega), hs k, if_neg (by omega)]
    have : k = sk.toNat := by omega
    rw [this]; omega
  · rw [hs (k + 1), if_neg (by omega), hs k, if_neg (by omega)]
    exact h.2 k (by omega)
theorem M1_place {e lots : Int} {st pl pl' : ZF} {len : Int → Int} {c : Nat} (h : M1 e lots st pl len) (hc6 : c < 600) (hc : (c : Int) < 60 * lots) (h1 : pl c + 1 ≤ len c) (he : e = -1) (hs : ∀ j, pl' j = if j = c then pl c + 1 else pl j) : M1 (c : Int) lots st pl' len := fun d hd => by
  obtain ⟨a1, a2⟩ := h d hd
  rw [hs d]
  by_cases hdc : d = c
  · subst hdc
    rw [if_pos rfl]
    exact ⟨fun z => by omega, fun z => ⟨h1, fun _ z2 => absurd rfl z2⟩⟩
  · rw [if_neg hdc]
    exact ⟨a1, fun z => ⟨(a2 z).1, fun z1 z2 => (a2 z).2 z1 (by omega)⟩⟩
theorem M1_back {c : Nat} {lots : Int} {st pl : ZF} {len : Int → Int} (h : M1 (c : Int) lots st pl len) (hc : st c = 4 ∨ pl c < len c) : M1 (-1) lots st pl len := fun d hd => by
  obtain ⟨a1, a2⟩ := h d hd
  refine ⟨a1, fun z => ⟨(a2 z).1, fun z1 _ => ?_⟩⟩
  by_cases e : d = c
  · subst e; rcases hc with w | w
    · exact absurd w z1
    · exact w
  · exact (a2 z).2 z1 (by omega)
theorem emod_le {a b : Int} (h0 : 0 ≤ a) (hb : 0 < b) : a % b ≤ a := by
  have h1 := Int.emod_def a b
  have h2 : 0 ≤ a / b := Int.ediv_nonneg h0 (by omega)
  have h3 : 0 ≤ b * (a / b) := Int.mul_nonneg (by omega) h2
  omega
theorem z_and255 {x v : Int32} (e : v = x &&& 255) : 0 ≤ v.toInt ∧ v.toInt ≤ 255 := by
  subst e
  have h2 : (x &&& 255).toUInt32.toNat ≤ 255 := by
    show (x.toUInt32 &&& 255).toNat ≤ 255
    rw [UInt32.toNat_and]; exact Nat.and_le_right
  have h4 : (x &&& 255).toInt = ((x &&& 255).toUInt32.toNat : Int).bmod (2 ^ 32) := BitVec.toInt_eq_toNat_bmod _
  rw [h4, bm_id (by omega) (by omega)]
  omega
theorem z_and1 {x v : Int32} (e : v = x &&& 1) : 0 ≤ v.toInt ∧ v.toInt ≤ 1 := by
  subst e
  have h2 : (x &&& 1).toUInt32.toNat ≤ 1 := by
    show (x.toUInt32 &&& 1).toNat ≤ 1
    rw [UInt32.toNat_and]; exact Nat.and_le_right
  have h4 : (x &&& 1).toInt = ((x &&& 1).toUInt32.toNat : Int).bmod (2 ^ 32) := BitVec.toInt_eq_toNat_bmod _
  rw [h4, bm_id (by omega) (by omega)]
  omega
theorem z_01 {x : Int32} {a : Int} (hx : x.toInt = a) (h0 : 0 ≤ a) (h1 : a ≤ 1) : x = 0 ∨ x = 1 := by
  subst hx
  by_cases h : x.toInt = 0
  · left; exact Int32.toInt_inj.mp (h.trans (by decide))
  · right; exact Int32.toInt_inj.mp ((show x.toInt = 1 by omega).trans (by decide))
theorem upd_s {f : Nat → Int32} {i : Nat} {v : Int32} : upd f i v i = v := by unfold upd; simp
theorem upd_n {f : Nat → Int32} {i j : Nat} {v : Int32} (h : j ≠ i) : upd f i v j = f j := by unfold upd; simp [h, Ne.symm h]
theorem z_nc {x : Int32} {a : Int} (hx : x.toInt = a) (h : 0 ≤ a) : x.toNatClampNeg = a.toNat := by
  have := z_nat hx h
  omega
