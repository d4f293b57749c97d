def MTS : List Nat := [1200, 10015]
def MCP : List Nat := [1200, 10014, 11354]
/-! ===== draws without repeating: the pigeonhole ===== -/
def tt (m0 n m : Int) : Int := if m0 ≤ m then m - m0 else m - m0 + n
def ad (m0 n s : Int) : Int := if m0 + s < n then m0 + s else m0 + s - n
def Drw (Q : Nat → Int) (i v : Int) : Prop := ∃ j : Nat, (j : Int) < i ∧ Q j = v
def Dall (Q : Nat → Int) (i m0 n m : Int) : Prop := ∀ s : Int, 0 ≤ s → s < tt m0 n m → Drw Q i (ad m0 n s)
theorem mod_succ {m n : Int} (h0 : 0 ≤ m) (h1 : m < n) : (m + 1) % n = if m + 1 < n then m + 1 else 0 := by
  split
  · rename_i h; exact Int.emod_eq_of_lt (by omega) h
  · have e : m + 1 = n := by omega
    rw [e]; exact Int.emod_self
theorem tt_self {m0 n : Int} : tt m0 n m0 = 0 := by unfold tt; rw [if_pos (Int.le_refl _)]; omega
theorem Dall_0 {Q : Nat → Int} {i m0 n : Int} : Dall Q i m0 n m0 := fun s h0 h1 => by rw [tt_self] at h1; omega
theorem Dall_full {Q : Nat → Int} {i m0 n m : Int} (hm0 : 0 ≤ m0) (hm1 : m0 < n) (h0 : 0 ≤ m) (h1 : m < n) (hi0 : 0 ≤ i) (hi : i < n) (h : Dall Q i m0 n m) (hd : Drw Q i m) : tt m0 n m < n - 1 := by
  refine Classical.byContradiction fun hc => ?_
  have ht : tt m0 n m = n - 1 := by unfold tt at hc ⊢; split at hc <;> split <;> omega
  have hall : ∀ s : Nat, s < n.toNat → Drw Q i (ad m0 n (s : Int)) := fun s hs => by
    by_cases e : (s : Int) = n - 1
    · have : ad m0 n (s : Int) = m := by
        rw [e]; unfold ad; unfold tt at ht; split at ht <;> split <;> omega
      rw [this]; exact hd
    · exact h s (by omega) (by omega)
  have key := pigeon i.toNat n.toNat (fun s => if hs : s < n.toNat then Classical.choose (hall s hs) else 0) (fun s hs => by
    show (if hs : s < n.toNat then Classical.choose (hall s hs) else 0) < i.toNat
    rw [dif_pos hs]
    have := (Classical.choose_spec (hall s hs)).1
    omega) (fun s s' hss hs' => by
    show (if hs : s < n.toNat then Classical.choose (hall s hs) else 0) ≠ (if hs : s' < n.toNat then Classical.choose (hall s' hs) else 0)
    rw [dif_pos hs', dif_pos (show s < n.toNat by omega)]
    intro e
    have a := (Classical.choose_spec (hall s (by omega))).2
    have b := (Classical.choose_spec (hall s' hs')).2
    rw [e] at a
    have c := a.symm.trans b
    unfold ad at c
    split at c <;> split at c <;> omega)
  omega
theorem Dall_step {Q : Nat → Int} {i m0 n m m' : Int} (hm0 : 0 ≤ m0) (hm1 : m0 < n) (h0 : 0 ≤ m) (h1 : m < n) (hi0 : 0 ≤ i) (hi : i < n) (h : Dall Q i m0 n m) (hd : Drw Q i m) (hm' : m' = (m + 1) % n) : tt m0 n m' = tt m0 n m + 1 ∧ tt m0 n m < n ∧ Dall Q i m0 n m' := by
  have hf := Dall_full hm0 hm1 h0 h1 hi0 hi h hd
  rw [mod_succ h0 h1] at hm'
  have e : tt m0 n m' = tt m0 n m + 1 := by
    unfold tt at hf ⊢
    split at hm' <;> split at hf <;> split <;> omega
  refine ⟨e, by omega, fun s hs0 hs1 => ?_⟩
  by_cases c : s < tt m0 n m
  · exact h s hs0 c
  · have : ad m0 n s = m := by
      have hs : s = tt m0 n m := by omega
      rw [hs]; unfold ad tt; split <;> split <;> omega
    rw [this]; exact hd
/-! ===== counting what is left in a lot ===== -/
def cF (f : Nat → Int) : Nat → Nat → Int
  | _, 0 => 0
  | a, n + 1 => (if f a = 0 then 1 else 0) + cF f (a + 1) n
theorem cF_snoc (f : Nat → Int) : ∀ n a : Nat, cF f a (n + 1) = cF f a n + (if f (a + n) = 0 then 1 else 0)
  | 0, a => by unfold cF; unfold cF; simp
  | n + 1, a => by
    have h := cF_snoc f n (a + 1)
    rw [show cF f a (n + 1 + 1) = (if f a = 0 then 1 else 0) + cF f (a + 1) (n + 1) from rfl, h, show cF f a (n + 1) = (if f a = 0 then 1 else 0) + cF f (a + 1) n from rfl, show a + 1 + n = a + (n + 1) by omega]
    omega
theorem cF_out {f g : Nat → Int} {j : Nat} {v : Int} (hs : ∀ k, g k = if k = j then v else f k) : ∀ n a : Nat, (j < a ∨ a + n ≤ j) → cF g a n = cF f a n
  | 0, _, _ => rfl
  | n + 1, a, h => by
    have e : g a = f a := by rw [hs a, if_neg (by omega)]
    rw [show cF g a (n + 1) = (if g a = 0 then 1 else 0) + cF g (a + 1) n from rfl, show cF f a (n + 1) = (if f a = 0 then 1 else 0) + cF f (a + 1) n from rfl, cF_out hs n (a + 1) (by omega), e]
theorem cF_set {f g : Nat → Int} {j : Nat} {v : Int} (hs : ∀ k, g k = if k = j then v else f k) (hf : f j = 0) (hv : v ≠ 0) : ∀ n a : Nat, a ≤ j → j < a + n → cF g a n = cF f a n - 1
  | 0, a, h1, h2 => by omega
  | n + 1, a, h1, h2 => by
    rw [show cF g a (n + 1) = (if g a = 0 then 1 else 0) + cF g (a + 1) n from rfl, show cF f a (n + 1) = (if f a = 0 then 1 else 0) + cF f (a + 1) n from rfl, hs a]
    by_cases e : a = j
    · subst e
      rw [if_pos rfl, if_neg hv, if_pos hf, cF_out hs n (a + 1) (by omega)]
      omega
    · rw [if_neg e, cF_set hs hf hv n (a + 1) (by omega) (by omega)]
      omega
theorem cF_le (f : Nat → Int) : ∀ n a : Nat, 0 ≤ cF f a n ∧ cF f a n ≤ n
  | 0, _ => ⟨by unfold cF; omega, by unfold cF; omega⟩
  | n + 1, a => by
    have h := cF_le f n (a + 1)
    rw [show cF f a (n + 1) = (if f a = 0 then 1 else 0) + cF f (a + 1) n from rfl]
    split <;> omega
/-- what is left from i on, below n -/
def rsF (f : Nat → Int) (i n : Int) : Int := cF f i.toNat (n - i).toNat
theorem rsF_lt {f : Nat → Int} {i n : Int} (h : 0 < rsF f i n) : i < n := by
  refine Classical.byContradiction fun hc => ?_
  unfold rsF at h
  rw [show (n - i).toNat = 0 by omega] at h
  unfold cF at h
  omega
theorem rsF_step {f : Nat → Int} {i n : Int} (h0 : 0 ≤ i) (h : i < n) : rsF f i n = (if f i.toNat = 0 then 1 else 0) + rsF f (i + 1) n := by
  unfold rsF
  rw [show (n - i).toNat = (n - (i + 1)).toNat + 1 by omega, show (i + 1).toNat = i.toNat + 1 by omega]
  rfl
theorem rsF_set {f g : Nat → Int} {j n v : Int} (hs : ∀ k, g k = if k = j.toNat then v else f k) (hf : f j.toNat = 0) (hv : v ≠ 0) (h0 : 0 ≤ j) (h : j < n) : rsF g 0 n = rsF f 0 n - 1 := cF_set hs hf hv _ _ (by omega) (by omega)
theorem cnt_put {f g : Nat → Int} {i v l : Int} (hs : ∀ k, g k = if k = i.toNat then v else f k) (h0 : 0 ≤ i) (h : cF f 0 i.toNat = l) : cF g 0 (i + 1).toNat = l + (if v = 0 then 1 else 0) := by
  have e : g (0 + i.toNat) = v := by rw [hs, if_pos (by omega)]
  rw [show (i + 1).toNat = i.toNat + 1 by omega, cF_snoc, cF_out hs _ _ (by omega), h, e]
def oA (S : PS) (q : Nat) : Nat → Int := fun j => (pA S q j).toInt
theorem oA_s {S S1 : PS} {q i : Nat} {v : Int32} {z : Int} (e : S1 = sA S q (upd (pA S q) i v)) (hv : v.toInt = z) : ∀ j, oA S1 q j = if j = i then z else oA S q j := fun j => by
  subst e
  unfold oA
  have e2 : pA (sA S q (upd (pA S q) i v)) q = upd (pA S q) i v := if_pos rfl
  rw [e2]
  unfold upd
  by_cases h : j = i
  · subst h; simp [hv]
  · simp [h, Ne.symm h]
theorem oA_of {S : PS} {q : Nat} {i u : Int32} {z : Int} (zp : i.toInt = z) (h0 : 0 ≤ z) (ha : pA S q i.toNatClampNeg = u) : oA S q z.toNat = u.toInt := by
  unfold oA
  rw [← z_nc zp h0, ha]
theorem cnt_put0 {f g : Nat → Int} {i v l : Int} (hs : ∀ k, g k = if k = i.toNat then v else f k) (hv : v = 0) (h0 : 0 ≤ i) (h : cF f 0 i.toNat = l) : cF g 0 (i + 1).toNat = l + 1 := by
  rw [cnt_put hs h0 h, if_pos hv]
theorem cnt_put1 {f g : Nat → Int} {i v l : Int} (hs : ∀ k, g k = if k = i.toNat then v else f k) (hv : v ≠ 0) (h0 : 0 ≤ i) (h : cF f 0 i.toNat = l) : cF g 0 (i + 1).toNat = l := by
  rw [cnt_put hs h0 h, if_neg hv]; omega
theorem rsFz {f : Nat → Int} {n l : Int} (h : cF f 0 n.toNat = l) : rsF f 0 n = l := by
  unfold rsF
  rw [show (n - 0).toNat = n.toNat by omega]
  exact h
theorem rsF_0 {f : Nat → Int} {i n : Int} (h0 : 0 ≤ i) (h : i < n) (hf : f i.toNat = 0) : rsF f i n = 1 + rsF f (i + 1) n := by
  rw [rsF_step h0 h, if_pos hf]
theorem rsF_1 {f : Nat → Int} {i n : Int} (h0 : 0 ≤ i) (h : i < n) (hf : f i.toNat ≠ 0) : rsF f i n = rsF f (i + 1) n := by
  rw [rsF_step h0 h, if_neg hf]; omega
theorem z1202 {S : PS} {x : Nat} (hG : GX S) (ha : At S x 12) (j : Nat) : 0 ≤ zA S x 1202 j ∧ zA S x 1202 j ≤ 60 := by
  obtain ⟨q, q1, q2, -⟩ := gQ_12_1202 hG ha
  rw [zA_eq, mA_eq q1]
  exact gE_254 hG q2 j
theorem uA_15 {S : PS} {a : Nat} {f : Nat → Int32} (hG : GX S) (ha : At S a 15) : GX (sA S a f) := GX_A0 hG ha (by decide +kernel)
theorem zA_sN {S S1 : PS} {x g q k n k' : Nat} (e : S1 = sN S q k n) (hq : ∃ q, pR S g x = some q ∧ At S q k') (hn : q ∉ pL S) : zA S1 x g = zA S x g := by
  subst e
  obtain ⟨q', h1, h2⟩ := hq
  funext i
  rw [zA_eq, zA_eq, mA_eq h1, mA_eq (show pR (sN S q k n) g x = some q' by rw [pR_sN]; exact h1), pA_sN_ne (ne_of_new hn h2.1)]
set_option maxRecDepth 20000 in
theorem ggX12_test_X12_within : GoodIn wsX12_test wsX12_within := goodIn_h _ [9] [0] (by decide +kernel) (by decide +kernel)
set_option maxRecDepth 20000 in
theorem gX12_test_X12_within : GoodIn wsX12_test (va_wsS RX12 168 yX12_within wsX12_within) := goodIn_app (goodIn_of _ (by decide +kernel)) ggX12_test_X12_within
set_option maxRecDepth 20000 in
theorem ggX12_test_X12_next : GoodIn wsX12_test wsX12_next := goodIn_h _ [12, 0] [0, 1] (by decide +kernel) (by decide +kernel)
set_option maxRecDepth 20000 in
theorem gX12_test_X12_next : GoodIn wsX12_test (va_wsS RX12 172 yX12_next wsX12_next) := goodIn_app (goodIn_of _ (by decide +kernel)) ggX12_test_X12_next
set_option maxRecDepth 20000 in
theorem ggX12_test_X12_part : GoodIn wsX12_test wsX12_part := goodIn_h _ [16] [0] (by decide +kernel) (by decide +kernel)
set_option maxRecDepth 20000 in
theorem gX12_test_X12_part : GoodIn wsX12_test (va_wsS RX12 176 yX12_part wsX12_part) := goodIn_app (goodIn_of _ (by decide +kernel)) ggX12_test_X12_part
set_option maxRecDepth 20000 in
theorem ggX12_test_X12_lengthOf : GoodIn wsX12_test wsX12_lengthOf := goodIn_h _ [8, 1, 0, 0, 0, 0, 0, 0, 3, 0, 0, 5, 0, 0, 0, 0, 0, 0, 0, 0, 0, 0, 0, 0, 0, 0, 0, 0, 0, 0, 0, 0, 0, 0, 0, 0, 0, 0, 0, 0, 0, 0, 0, 0, 0, 0, 0, 0, 0, 0, 0, 0, 0, 0, 0, 0, 0, 0, 0, 0, 0, 0, 0, 0, 0, 0, 0, 0, 0, 0, 0, 0, 0, 0, 0, 0, 0] [8, 9, 10, 1, 2, 0, 3, 4, 5, 6, 7, 11, 12, 13, 14, 15, 16, 17, 18, 19, 20, 21, 22, 23, 24, 25, 26, 27, 28, 29, 30, 31, 32, 33, 34, 35, 36, 37, 38, 39, 40, 41, 42, 43, 44, 45, 46, 47, 48, 49, 50, 51, 52, 53, 54, 55, 56, 57, 58, 59, 60, 61, 62, 63, 64, 65, 66, 67, 68, 69, 70, 71, 72, 73, 74, 75, 76] (by decide +kernel) (by decide +kernel)
set_option maxRecDepth 20000 in
theorem gX12_test_X12_lengthOf : GoodIn wsX12_test (wsV RX12 180 RX12 yX12_lengthOf wsX12_lengthOf) := goodIn_app (goodIn_of _ (by decide +kernel)) ggX12_test_X12_lengthOf
set_option maxRecDepth 20000 in
theorem ggX12_test_X12_breaks : GoodIn wsX12_test wsX12_breaks := goodIn_h _ [8, 1, 0, 0, 0, 0, 0, 0, 5, 3, 0, 0, 0, 0, 0, 0, 0, 0, 0, 0, 0, 0, 0, 0, 0, 0, 0, 0, 0, 0, 0, 0, 0, 0, 0, 0, 0, 0, 0, 0, 0, 0, 0, 0, 0, 0, 0, 0, 0, 0, 0, 0, 0, 0, 0, 0, 0, 0, 0, 0, 0, 0, 0, 0, 0, 0, 0, 0, 0, 0, 0, 0, 0, 0, 0, 0, 0] [9, 8, 10, 1, 2, 0, 3, 4, 5, 6, 7, 11, 12, 13, 14, 15, 16, 17, 18, 19, 20, 21, 22, 23, 24, 25, 26, 27, 28, 29, 30, 31, 32, 33, 34, 35, 36, 37, 38, 39, 40, 41, 42, 43, 44, 45, 46, 47, 48, 49, 50, 51, 52, 53, 54, 55, 56, 57, 58, 59, 60, 61, 62, 63, 64, 65, 66, 67, 68, 69, 70, 71, 72, 73, 74, 75, 76] (by decide +kernel) (by decide +kernel)
set_option maxRecDepth 20000 in
theorem gX12_test_X12_breaks : GoodIn wsX12_test (wsV RX12 194 RX12 yX12_breaks wsX12_breaks) := goodIn_app (goodIn_of _ (by decide +kernel)) ggX12_test_X12_breaks
theorem dX12_test_0 : decode cX12_test 0 = .ok (.aload_n 0, 1) := by decide +kernel
theorem dX12_test_1 : decode cX12_test 1 = .ok (.iconst 0, 1) := by decide +kernel
theorem dX12_test_2 : decode cX12_test 2 = .ok (.putfield 161, 3) := by decide +kernel
theorem dX12_test_5 : decode cX12_test 5 = .ok (.iload_n 1, 1) := by decide +kernel
theorem dX12_test_6 : decode cX12_test 6 = .ok (.iconst 0, 1) := by decide +kernel
theorem dX12_test_7 : decode cX12_test 7 = .ok (.aload_n 0, 1) := by decide +kernel
theorem dX12_test_8 : decode cX12_test 8 = .ok (.getfield 165, 3) := by decide +kernel
theorem dX12_test_11 : decode cX12_test 11 = .ok (.iconst 1, 1) := by decide +kernel
theorem dX12_test_12 : decode cX12_test 12 = .ok (.isub, 1) := by decide +kernel
theorem dX12_test_13 : decode cX12_test 13 = .ok (.invokestatic 168, 3) := by decide +kernel
theorem dX12_test_16 : decode cX12_test 16 = .ok (.ifCond .ne 5, 3) := by decide +kernel
theorem dX12_test_19 : decode cX12_test 19 = .ok (.iconst (-1), 1) := by decide +kernel
theorem dX12_test_20 : decode cX12_test 20 = .ok (.ireturn, 1) := by decide +kernel
theorem dX12_test_21 : decode cX12_test 21 = .ok (.bipush 60, 2) := by decide +kernel
theorem dX12_test_23 : decode cX12_test 23 = .ok (.newarray .boolean, 2) := by decide +kernel
theorem dX12_test_25 : decode cX12_test 25 = .ok (.astore 4, 2) := by decide +kernel
theorem dX12_test_27 : decode cX12_test 27 = .ok (.iconst 0, 1) := by decide +kernel
theorem dX12_test_28 : decode cX12_test 28 = .ok (.istore 5, 2) := by decide +kernel
theorem dX12_test_30 : decode cX12_test 30 = .ok (.iconst 0, 1) := by decide +kernel
theorem dX12_test_31 : decode cX12_test 31 = .ok (.istore 6, 2) := by decide +kernel
theorem dX12_test_33 : decode cX12_test 33 = .ok (.iload 6, 2) := by decide +kernel
theorem dX12_test_35 : decode cX12_test 35 = .ok (.aload_n 0, 1) := by decide +kernel
theorem dX12_test_36 : decode cX12_test 36 = .ok (.getfield 7, 3) := by decide +kernel
theorem dX12_test_39 : decode cX12_test 39 = .ok (.iload_n 1, 1) := by decide +kernel
theorem dX12_test_40 : decode cX12_test 40 = .ok (.iaload, 1) := by decide +kernel
theorem dX12_test_41 : decode cX12_test 41 = .ok (.if_icmp .ge 52, 3) := by decide +kernel
theorem dX12_test_44 : decode cX12_test 44 = .ok (.aload 4, 2) := by decide +kernel
theorem dX12_test_46 : decode cX12_test 46 = .ok (.iload 6, 2) := by decide +kernel
theorem dX12_test_48 : decode cX12_test 48 = .ok (.aload_n 0, 1) := by decide +kernel
theorem dX12_test_49 : decode cX12_test 49 = .ok (.getfield 25, 3) := by decide +kernel
theorem dX12_test_52 : decode cX12_test 52 = .ok (.bipush 60, 2) := by decide +kernel
theorem dX12_test_54 : decode cX12_test 54 = .ok (.iload_n 1, 1) := by decide +kernel
theorem dX12_test_55 : decode cX12_test 55 = .ok (.imul, 1) := by decide +kernel
theorem dX12_test_56 : decode cX12_test 56 = .ok (.iload 6, 2) := by decide +kernel
theorem dX12_test_58 : decode cX12_test 58 = .ok (.iadd, 1) := by decide +kernel
theorem dX12_test_59 : decode cX12_test 59 = .ok (.iaload, 1) := by decide +kernel
theorem dX12_test_60 : decode cX12_test 60 = .ok (.ifCond .eq 7, 3) := by decide +kernel
theorem dX12_test_63 : decode cX12_test 63 = .ok (.iconst 1, 1) := by decide +kernel
theorem dX12_test_64 : decode cX12_test 64 = .ok (.goto 4, 3) := by decide +kernel
theorem dX12_test_67 : decode cX12_test 67 = .ok (.iconst 0, 1) := by decide +kernel
theorem dX12_test_68 : decode cX12_test 68 = .ok (.bastore, 1) := by decide +kernel
theorem dX12_test_69 : decode cX12_test 69 = .ok (.iload 5, 2) := by decide +kernel
theorem dX12_test_71 : decode cX12_test 71 = .ok (.aload 4, 2) := by decide +kernel
theorem dX12_test_73 : decode cX12_test 73 = .ok (.iload 6, 2) := by decide +kernel
theorem dX12_test_75 : decode cX12_test 75 = .ok (.baload, 1) := by decide +kernel
theorem dX12_test_76 : decode cX12_test 76 = .ok (.ifCond .eq 7, 3) := by decide +kernel
theorem dX12_test_79 : decode cX12_test 79 = .ok (.iconst 0, 1) := by decide +kernel
theorem dX12_test_80 : decode cX12_test 80 = .ok (.goto 4, 3) := by decide +kernel
theorem dX12_test_83 : decode cX12_test 83 = .ok (.iconst 1, 1) := by decide +kernel
theorem dX12_test_84 : decode cX12_test 84 = .ok (.iadd, 1) := by decide +kernel
theorem dX12_test_85 : decode cX12_test 85 = .ok (.istore 5, 2) := by decide +kernel
theorem dX12_test_87 : decode cX12_test 87 = .ok (.iinc 6 1, 3) := by decide +kernel
theorem dX12_test_90 : decode cX12_test 90 = .ok (.goto (-57), 3) := by decide +kernel
theorem dX12_test_93 : decode cX12_test 93 = .ok (.iload_n 3, 1) := by decide +kernel
theorem dX12_test_94 : decode cX12_test 94 = .ok (.iconst 0, 1) := by decide +kernel
theorem dX12_test_95 : decode cX12_test 95 = .ok (.iload 5, 2) := by decide +kernel
theorem dX12_test_97 : decode cX12_test 97 = .ok (.invokestatic 168, 3) := by decide +kernel
theorem dX12_test_100 : decode cX12_test 100 = .ok (.ifCond .ne 5, 3) := by decide +kernel
theorem dX12_test_103 : decode cX12_test 103 = .ok (.iconst (-1), 1) := by decide +kernel
theorem dX12_test_104 : decode cX12_test 104 = .ok (.ireturn, 1) := by decide +kernel
theorem dX12_test_105 : decode cX12_test 105 = .ok (.iload_n 2, 1) := by decide +kernel
theorem dX12_test_106 : decode cX12_test 106 = .ok (.istore 6, 2) := by decide +kernel
theorem dX12_test_108 : decode cX12_test 108 = .ok (.iconst 0, 1) := by decide +kernel
theorem dX12_test_109 : decode cX12_test 109 = .ok (.istore 7, 2) := by decide +kernel
theorem dX12_test_111 : decode cX12_test 111 = .ok (.iconst 0, 1) := by decide +kernel
theorem dX12_test_112 : decode cX12_test 112 = .ok (.istore 8, 2) := by decide +kernel
theorem dX12_test_114 : decode cX12_test 114 = .ok (.iload 8, 2) := by decide +kernel
theorem dX12_test_116 : decode cX12_test 116 = .ok (.iload_n 3, 1) := by decide +kernel
theorem dX12_test_117 : decode cX12_test 117 = .ok (.if_icmp .ge 138, 3) := by decide +kernel
theorem dX12_test_120 : decode cX12_test 120 = .ok (.iload 6, 2) := by decide +kernel
theorem dX12_test_122 : decode cX12_test 122 = .ok (.invokestatic 172, 3) := by decide +kernel
theorem dX12_test_125 : decode cX12_test 125 = .ok (.istore 6, 2) := by decide +kernel
theorem dX12_test_127 : decode cX12_test 127 = .ok (.iload 6, 2) := by decide +kernel
theorem dX12_test_129 : decode cX12_test 129 = .ok (.iload 5, 2) := by decide +kernel
theorem dX12_test_131 : decode cX12_test 131 = .ok (.invokestatic 176, 3) := by decide +kernel
theorem dX12_test_134 : decode cX12_test 134 = .ok (.istore 9, 2) := by decide +kernel
theorem dX12_test_136 : decode cX12_test 136 = .ok (.iconst 0, 1) := by decide +kernel
theorem dX12_test_137 : decode cX12_test 137 = .ok (.istore 10, 2) := by decide +kernel
theorem dX12_test_139 : decode cX12_test 139 = .ok (.aload 4, 2) := by decide +kernel
theorem dX12_test_141 : decode cX12_test 141 = .ok (.iload 10, 2) := by decide +kernel
theorem dX12_test_143 : decode cX12_test 143 = .ok (.baload, 1) := by decide +kernel
theorem dX12_test_144 : decode cX12_test 144 = .ok (.ifCond .ne 8, 3) := by decide +kernel
theorem dX12_test_147 : decode cX12_test 147 = .ok (.iload 9, 2) := by decide +kernel
theorem dX12_test_149 : decode cX12_test 149 = .ok (.ifCond .le 20, 3) := by decide +kernel
theorem dX12_test_152 : decode cX12_test 152 = .ok (.aload 4, 2) := by decide +kernel
theorem dX12_test_154 : decode cX12_test 154 = .ok (.iload 10, 2) := by decide +kernel
theorem dX12_test_156 : decode cX12_test 156 = .ok (.baload, 1) := by decide +kernel
theorem dX12_test_157 : decode cX12_test 157 = .ok (.ifCond .ne 6, 3) := by decide +kernel
theorem dX12_test_160 : decode cX12_test 160 = .ok (.iinc 9 (-1), 3) := by decide +kernel
theorem dX12_test_163 : decode cX12_test 163 = .ok (.iinc 10 1, 3) := by decide +kernel
theorem dX12_test_166 : decode cX12_test 166 = .ok (.goto (-27), 3) := by decide +kernel
theorem dX12_test_169 : decode cX12_test 169 = .ok (.aload 4, 2) := by decide +kernel
theorem dX12_test_171 : decode cX12_test 171 = .ok (.iload 10, 2) := by decide +kernel
theorem dX12_test_173 : decode cX12_test 173 = .ok (.iconst 1, 1) := by decide +kernel
theorem dX12_test_174 : decode cX12_test 174 = .ok (.bastore, 1) := by decide +kernel
theorem dX12_test_175 : decode cX12_test 175 = .ok (.iinc 5 (-1), 3) := by decide +kernel
theorem dX12_test_178 : decode cX12_test 178 = .ok (.iconst 0, 1) := by decide +kernel
theorem dX12_test_179 : decode cX12_test 179 = .ok (.istore 11, 2) := by decide +kernel
theorem dX12_test_181 : decode cX12_test 181 = .ok (.iconst 0, 1) := by decide +kernel
theorem dX12_test_182 : decode cX12_test 182 = .ok (.istore 12, 2) := by decide +kernel
theorem dX12_test_184 : decode cX12_test 184 = .ok (.iload 12, 2) := by decide +kernel
theorem dX12_test_186 : decode cX12_test 186 = .ok (.aload_n 0, 1) := by decide +kernel
theorem dX12_test_187 : decode cX12_test 187 = .ok (.bipush 60, 2) := by decide +kernel
theorem dX12_test_189 : decode cX12_test 189 = .ok (.iload_n 1, 1) := by decide +kernel
theorem dX12_test_190 : decode cX12_test 190 = .ok (.imul, 1) := by decide +kernel
theorem dX12_test_191 : decode cX12_test 191 = .ok (.iload 10, 2) := by decide +kernel
theorem dX12_test_193 : decode cX12_test 193 = .ok (.iadd, 1) := by decide +kernel
theorem dX12_test_194 : decode cX12_test 194 = .ok (.invokevirtual 180, 3) := by decide +kernel
theorem dX12_test_197 : decode cX12_test 197 = .ok (.if_icmp .ge 37, 3) := by decide +kernel
theorem dX12_test_200 : decode cX12_test 200 = .ok (.iload 11, 2) := by decide +kernel
theorem dX12_test_202 : decode cX12_test 202 = .ok (.ifCond .ne 19, 3) := by decide +kernel
theorem dX12_test_205 : decode cX12_test 205 = .ok (.aload_n 0, 1) := by decide +kernel
theorem dX12_test_206 : decode cX12_test 206 = .ok (.bipush 60, 2) := by decide +kernel
theorem dX12_test_208 : decode cX12_test 208 = .ok (.iload_n 1, 1) := by decide +kernel
theorem dX12_test_209 : decode cX12_test 209 = .ok (.imul, 1) := by decide +kernel
theorem dX12_test_210 : decode cX12_test 210 = .ok (.iload 10, 2) := by decide +kernel
theorem dX12_test_212 : decode cX12_test 212 = .ok (.iadd, 1) := by decide +kernel
theorem dX12_test_213 : decode cX12_test 213 = .ok (.iload 12, 2) := by decide +kernel
theorem dX12_test_215 : decode cX12_test 215 = .ok (.invokevirtual 194, 3) := by decide +kernel
theorem dX12_test_218 : decode cX12_test 218 = .ok (.ifCond .eq 7, 3) := by decide +kernel
theorem dX12_test_221 : decode cX12_test 221 = .ok (.iconst 1, 1) := by decide +kernel
theorem dX12_test_222 : decode cX12_test 222 = .ok (.goto 4, 3) := by decide +kernel
theorem dX12_test_225 : decode cX12_test 225 = .ok (.iconst 0, 1) := by decide +kernel
theorem dX12_test_226 : decode cX12_test 226 = .ok (.istore 11, 2) := by decide +kernel
theorem dX12_test_228 : decode cX12_test 228 = .ok (.iinc 12 1, 3) := by decide +kernel
theorem dX12_test_231 : decode cX12_test 231 = .ok (.goto (-47), 3) := by decide +kernel
theorem dX12_test_234 : decode cX12_test 234 = .ok (.iload 7, 2) := by decide +kernel
theorem dX12_test_236 : decode cX12_test 236 = .ok (.iload 11, 2) := by decide +kernel
theorem dX12_test_238 : decode cX12_test 238 = .ok (.ifCond .eq 7, 3) := by decide +kernel
theorem dX12_test_241 : decode cX12_test 241 = .ok (.iconst 1, 1) := by decide +kernel
theorem dX12_test_242 : decode cX12_test 242 = .ok (.goto 4, 3) := by decide +kernel
theorem dX12_test_245 : decode cX12_test 245 = .ok (.iconst 0, 1) := by decide +kernel
theorem dX12_test_246 : decode cX12_test 246 = .ok (.iadd, 1) := by decide +kernel
theorem dX12_test_247 : decode cX12_test 247 = .ok (.istore 7, 2) := by decide +kernel
theorem dX12_test_249 : decode cX12_test 249 = .ok (.iinc 8 1, 3) := by decide +kernel
theorem dX12_test_252 : decode cX12_test 252 = .ok (.goto (-138), 3) := by decide +kernel
theorem dX12_test_255 : decode cX12_test 255 = .ok (.iload 7, 2) := by decide +kernel
theorem dX12_test_257 : decode cX12_test 257 = .ok (.ireturn, 1) := by decide +kernel
set_option maxRecDepth 20000 in
theorem ggX12_grade_X12_isSkein : GoodIn wsX12_grade wsX12_isSkein := goodIn_h _ [20, 0, 0, 0, 0, 0, 36, 0, 0, 0, 0, 0, 0, 0, 0, 0, 0, 0, 0, 0, 0, 0, 0, 0, 0, 0, 0, 0, 0, 0, 0, 0, 0, 0, 0, 0, 0, 0, 0, 0, 0, 0, 0, 0, 0, 0, 0, 0, 0, 0, 0, 0, 0, 0, 0, 0, 0, 0, 0, 0, 0, 0, 0, 0, 0, 0, 0, 0, 0, 0, 0, 0] [1, 2, 3, 4, 0, 5, 6, 7, 8, 9, 10, 11, 12, 13, 14, 15, 16, 17, 18, 19, 20, 21, 22, 23, 24, 25, 26, 27, 28, 29, 30, 31, 32, 33, 34, 35, 36, 37, 38, 39, 40, 41, 42, 43, 44, 45, 46, 47, 48, 49, 50, 51, 52, 53, 54, 55, 56, 57, 58, 59, 60, 61, 62, 63, 64, 65, 66, 67, 68, 69, 70, 71] (by decide +kernel) (by decide +kernel)
set_option maxRecDepth 20000 in
theorem gX12_grade_X12_isSkein : GoodIn wsX12_grade (wsV RX12 362 RX12 yX12_isSkein wsX12_isSkein) := goodIn_app (goodIn_of _ (by decide +kernel)) ggX12_grade_X12_isSkein
set_option maxRecDepth 20000 in
theorem ggX12_grade_X12_within : GoodIn wsX12_grade wsX12_within := goodIn_h _ [25] [0] (by decide +kernel) (by decide +kernel)
set_option maxRecDepth 20000 in
theorem gX12_grade_X12_within : GoodIn wsX12_grade (va_wsS RX12 168 yX12_within wsX12_within) := goodIn_app (goodIn_of _ (by decide +kernel)) ggX12_grade_X12_within
set_option maxRecDepth 20000 in
theorem ggX12_grade_X12_metres : GoodIn wsX12_grade wsX12_metres := goodIn_h _ [4, 24, 32, 0, 0, 0, 0, 0, 0, 0, 0, 0, 0, 0, 0, 0, 0, 0, 0, 0, 0, 0, 0, 0, 0, 0, 0, 0, 0, 0, 0, 0, 0, 0, 0, 0, 0, 0, 0, 0, 0, 0, 0, 0, 0, 0, 0, 0, 0, 0, 0, 0, 0, 0, 0, 0, 0, 0, 0, 0, 0, 0, 0, 0, 0, 0, 0, 0] [1, 0, 2, 3, 4, 5, 6, 7, 8, 9, 10, 11, 12, 13, 14, 15, 16, 17, 18, 19, 20, 21, 22, 23, 24, 25, 26, 27, 28, 29, 30, 31, 32, 33, 34, 35, 36, 37, 38, 39, 40, 41, 42, 43, 44, 45, 46, 47, 48, 49, 50, 51, 52, 53, 54, 55, 56, 57, 58, 59, 60, 61, 62, 63, 64, 65, 66, 67] (by decide +kernel) (by decide +kernel)
set_option maxRecDepth 20000 in
theorem gX12_grade_X12_metres : GoodIn wsX12_grade (wsV RX12 350 RX12 yX12_metres wsX12_metres) := goodIn_app (goodIn_of _ (by decide +kernel)) ggX12_grade_X12_metres
set_option maxRecDepth 20000 in
theorem ggX12_grade_X12_next : GoodIn wsX12_grade wsX12_next := goodIn_h _ [32, 0] [0, 1] (by decide +kernel) (by decide +kernel)
set_option maxRecDepth 20000 in
theorem gX12_grade_X12_next : GoodIn wsX12_grade (va_wsS RX12 172 yX12_next wsX12_next) := goodIn_app (goodIn_of _ (by decide +kernel)) ggX12_grade_X12_next
set_option maxRecDepth 20000 in
theorem ggX12_grade_X12_part : GoodIn wsX12_grade wsX12_part := goodIn_h _ [36] [0] (by decide +kernel) (by decide +kernel)
set_option maxRecDepth 20000 in
theorem gX12_grade_X12_part : GoodIn wsX12_grade (va_wsS RX12 176 yX12_part wsX12_part) := goodIn_app (goodIn_of _ (by decide +kernel)) ggX12_grade_X12_part
set_option maxRecDepth 20000 in
theorem ggX12_grade_X12_isDrawn : GoodIn wsX12_grade wsX12_isDrawn := goodIn_h _ [3, 36, 21, 0, 0, 0, 0, 0, 0, 0, 0, 0, 0, 0, 0, 0, 0, 0, 0, 0, 0, 0, 0, 0, 0, 0, 0, 0, 0, 0, 0, 0, 0, 0, 0, 0, 0, 0, 0, 0, 0, 0, 0, 0, 0, 0, 0, 0, 0, 0, 0, 0, 0, 0, 0, 0, 0, 0, 0, 0, 0, 0, 0, 0, 0, 0, 0, 0] [1, 0, 2, 3, 4, 5, 6, 7, 8, 9, 10, 11, 12, 13, 14, 15, 16, 17, 18, 19, 20, 21, 22, 23, 24, 25, 26, 27, 28, 29, 30, 31, 32, 33, 34, 35, 36, 37, 38, 39, 40, 41, 42, 43, 44, 45, 46, 47, 48, 49, 50, 51, 52, 53, 54, 55, 56, 57, 58, 59, 60, 61, 62, 63, 64, 65, 66, 67] (by decide +kernel) (by decide +kernel)
set_option maxRecDepth 20000 in
theorem gX12_grade_X12_isDrawn : GoodIn wsX12_grade (wsV RX12 385 RX12 yX12_isDrawn wsX12_isDrawn) := goodIn_app (goodIn_of _ (by decide +kernel)) ggX12_grade_X12_isDrawn
set_option maxRecDepth 20000 in
theorem ggX12_grade_X12_fineAt : GoodIn wsX12_grade wsX12_fineAt := goodIn_h _ [20, 9, 0, 0, 0, 0, 0, 0, 7, 0, 0, 0, 0, 0, 0, 0, 0, 0, 0, 0, 0, 0, 0, 3, 0, 0, 0, 0, 0, 0, 0, 0, 0, 0, 0, 0, 0, 0, 0, 0, 0, 0, 0, 0, 0, 0, 0, 0, 0, 0, 0, 0, 0, 0, 0, 0, 0, 0, 0, 0, 0, 0, 0, 0, 0, 0, 0, 0, 0, 0, 0, 0, 0, 0, 0, 0, 0, 0, 0, 0, 0, 0, 0, 0, 0, 0, 0, 0, 0] [8, 9, 10, 11, 12, 13, 0, 14, 15, 16, 17, 1, 2, 3, 4, 5, 6, 7, 18, 19, 20, 21, 22, 23, 24, 25, 26, 27, 28, 29, 30, 31, 32, 33, 34, 35, 36, 37, 38, 39, 40, 41, 42, 43, 44, 45, 46, 47, 48, 49, 50, 51, 52, 53, 54, 55, 56, 57, 58, 59, 60, 61, 62, 63, 64, 65, 66, 67, 68, 69, 70, 71, 72, 73, 74, 75, 76, 77, 78, 79, 80, 81, 82, 83, 84, 85, 86, 87, 88] (by decide +kernel) (by decide +kernel)
set_option maxRecDepth 20000 in
theorem gX12_grade_X12_fineAt : GoodIn wsX12_grade (wsV RX12 287 RX12 yX12_fineAt wsX12_fineAt) := goodIn_app (goodIn_of _ (by decide +kernel)) ggX12_grade_X12_fineAt
set_option maxRecDepth 20000 in
theorem ggX12_grade_X12_ways : GoodIn wsX12_grade wsX12_ways := goodIn_h _ [61] [0] (by decide +kernel) (by decide +kernel)
set_option maxRecDepth 20000 in
theorem gX12_grade_X12_ways : GoodIn wsX12_grade (va_wsS RX12 396 yX12_ways wsX12_ways) := goodIn_app (goodIn_of _ (by decide +kernel)) ggX12_grade_X12_ways
theorem dX12_grade_0 : decode cX12_grade 0 = .ok (.aload_n 0, 1) := by decide +kernel
theorem dX12_grade_1 : decode cX12_grade 1 = .ok (.iconst 0, 1) := by decide +kernel
theorem dX12_grade_2 : decode cX12_grade 2 = .ok (.putfield 161, 3) := by decide +kernel
theorem dX12_grade_5 : decode cX12_grade 5 = .ok (.aload_n 0, 1) := by decide +kernel
theorem dX12_grade_6 : decode cX12_grade 6 = .ok (.iload_n 1, 1) := by decide +kernel
theorem dX12_grade_7 : decode cX12_grade 7 = .ok (.invokevirtual 362, 3) := by decide +kernel
theorem dX12_grade_10 : decode cX12_grade 10 = .ok (.ifCond .eq 21, 3) := by decide +kernel
theorem dX12_grade_13 : decode cX12_grade 13 = .ok (.iload_n 3, 1) := by decide +kernel
theorem dX12_grade_14 : decode cX12_grade 14 = .ok (.iconst 1, 1) := by decide +kernel
theorem dX12_grade_15 : decode cX12_grade 15 = .ok (.iconst 5, 1) := by decide +kernel
theorem dX12_grade_16 : decode cX12_grade 16 = .ok (.invokestatic 168, 3) := by decide +kernel
theorem dX12_grade_19 : decode cX12_grade 19 = .ok (.ifCond .eq 12, 3) := by decide +kernel
theorem dX12_grade_22 : decode cX12_grade 22 = .ok (.iload_n 3, 1) := by decide +kernel
theorem dX12_grade_23 : decode cX12_grade 23 = .ok (.aload_n 0, 1) := by decide +kernel
theorem dX12_grade_24 : decode cX12_grade 24 = .ok (.iload_n 1, 1) := by decide +kernel
theorem dX12_grade_25 : decode cX12_grade 25 = .ok (.invokevirtual 350, 3) := by decide +kernel
theorem dX12_grade_28 : decode cX12_grade 28 = .ok (.if_icmp .le 5, 3) := by decide +kernel
theorem dX12_grade_31 : decode cX12_grade 31 = .ok (.iconst (-1), 1) := by decide +kernel
theorem dX12_grade_32 : decode cX12_grade 32 = .ok (.ireturn, 1) := by decide +kernel
theorem dX12_grade_33 : decode cX12_grade 33 = .ok (.aload_n 0, 1) := by decide +kernel
theorem dX12_grade_34 : decode cX12_grade 34 = .ok (.iload_n 1, 1) := by decide +kernel
theorem dX12_grade_35 : decode cX12_grade 35 = .ok (.invokevirtual 350, 3) := by decide +kernel
theorem dX12_grade_38 : decode cX12_grade 38 = .ok (.istore 4, 2) := by decide +kernel
theorem dX12_grade_40 : decode cX12_grade 40 = .ok (.iload_n 2, 1) := by decide +kernel
theorem dX12_grade_41 : decode cX12_grade 41 = .ok (.istore 5, 2) := by decide +kernel
theorem dX12_grade_43 : decode cX12_grade 43 = .ok (.aload_n 0, 1) := by decide +kernel
theorem dX12_grade_44 : decode cX12_grade 44 = .ok (.iconst 0, 1) := by decide +kernel
theorem dX12_grade_45 : decode cX12_grade 45 = .ok (.putfield 382, 3) := by decide +kernel
theorem dX12_grade_48 : decode cX12_grade 48 = .ok (.iconst 0, 1) := by decide +kernel
theorem dX12_grade_49 : decode cX12_grade 49 = .ok (.istore 6, 2) := by decide +kernel
theorem dX12_grade_51 : decode cX12_grade 51 = .ok (.iload 6, 2) := by decide +kernel
theorem dX12_grade_53 : decode cX12_grade 53 = .ok (.iload_n 3, 1) := by decide +kernel
theorem dX12_grade_54 : decode cX12_grade 54 = .ok (.if_icmp .ge 91, 3) := by decide +kernel
theorem dX12_grade_57 : decode cX12_grade 57 = .ok (.iload 5, 2) := by decide +kernel
theorem dX12_grade_59 : decode cX12_grade 59 = .ok (.invokestatic 172, 3) := by decide +kernel
theorem dX12_grade_62 : decode cX12_grade 62 = .ok (.istore 5, 2) := by decide +kernel
theorem dX12_grade_64 : decode cX12_grade 64 = .ok (.iload 5, 2) := by decide +kernel
theorem dX12_grade_66 : decode cX12_grade 66 = .ok (.iload 4, 2) := by decide +kernel
theorem dX12_grade_68 : decode cX12_grade 68 = .ok (.invokestatic 176, 3) := by decide +kernel
theorem dX12_grade_71 : decode cX12_grade 71 = .ok (.istore 7, 2) := by decide +kernel
theorem dX12_grade_73 : decode cX12_grade 73 = .ok (.aload_n 0, 1) := by decide +kernel
theorem dX12_grade_74 : decode cX12_grade 74 = .ok (.iload 6, 2) := by decide +kernel
theorem dX12_grade_76 : decode cX12_grade 76 = .ok (.iload 7, 2) := by decide +kernel
theorem dX12_grade_78 : decode cX12_grade 78 = .ok (.invokevirtual 385, 3) := by decide +kernel
theorem dX12_grade_81 : decode cX12_grade 81 = .ok (.ifCond .eq 15, 3) := by decide +kernel
theorem dX12_grade_84 : decode cX12_grade 84 = .ok (.iload 7, 2) := by decide +kernel
theorem dX12_grade_86 : decode cX12_grade 86 = .ok (.iconst 1, 1) := by decide +kernel
theorem dX12_grade_87 : decode cX12_grade 87 = .ok (.iadd, 1) := by decide +kernel
theorem dX12_grade_88 : decode cX12_grade 88 = .ok (.iload 4, 2) := by decide +kernel
theorem dX12_grade_90 : decode cX12_grade 90 = .ok (.irem, 1) := by decide +kernel
theorem dX12_grade_91 : decode cX12_grade 91 = .ok (.istore 7, 2) := by decide +kernel
theorem dX12_grade_93 : decode cX12_grade 93 = .ok (.goto (-20), 3) := by decide +kernel
theorem dX12_grade_96 : decode cX12_grade 96 = .ok (.aload_n 0, 1) := by decide +kernel
theorem dX12_grade_97 : decode cX12_grade 97 = .ok (.getfield 122, 3) := by decide +kernel
theorem dX12_grade_100 : decode cX12_grade 100 = .ok (.iload 6, 2) := by decide +kernel
theorem dX12_grade_102 : decode cX12_grade 102 = .ok (.iload 7, 2) := by decide +kernel
theorem dX12_grade_104 : decode cX12_grade 104 = .ok (.iastore, 1) := by decide +kernel
theorem dX12_grade_105 : decode cX12_grade 105 = .ok (.aload_n 0, 1) := by decide +kernel
theorem dX12_grade_106 : decode cX12_grade 106 = .ok (.aload_n 0, 1) := by decide +kernel
theorem dX12_grade_107 : decode cX12_grade 107 = .ok (.getfield 382, 3) := by decide +kernel
theorem dX12_grade_110 : decode cX12_grade 110 = .ok (.aload_n 0, 1) := by decide +kernel
theorem dX12_grade_111 : decode cX12_grade 111 = .ok (.aload_n 0, 1) := by decide +kernel
theorem dX12_grade_112 : decode cX12_grade 112 = .ok (.getfield 100, 3) := by decide +kernel
theorem dX12_grade_115 : decode cX12_grade 115 = .ok (.iload_n 1, 1) := by decide +kernel
theorem dX12_grade_116 : decode cX12_grade 116 = .ok (.iaload, 1) := by decide +kernel
theorem dX12_grade_117 : decode cX12_grade 117 = .ok (.iload 7, 2) := by decide +kernel
theorem dX12_grade_119 : decode cX12_grade 119 = .ok (.iadd, 1) := by decide +kernel
theorem dX12_grade_120 : decode cX12_grade 120 = .ok (.invokevirtual 287, 3) := by decide +kernel
theorem dX12_grade_123 : decode cX12_grade 123 = .ok (.aload_n 0, 1) := by decide +kernel
theorem dX12_grade_124 : decode cX12_grade 124 = .ok (.getfield 109, 3) := by decide +kernel
theorem dX12_grade_127 : decode cX12_grade 127 = .ok (.iload_n 1, 1) := by decide +kernel
theorem dX12_grade_128 : decode cX12_grade 128 = .ok (.iaload, 1) := by decide +kernel
theorem dX12_grade_129 : decode cX12_grade 129 = .ok (.isub, 1) := by decide +kernel
theorem dX12_grade_130 : decode cX12_grade 130 = .ok (.invokestatic 347, 3) := by decide +kernel
theorem dX12_grade_133 : decode cX12_grade 133 = .ok (.invokestatic 339, 3) := by decide +kernel
theorem dX12_grade_136 : decode cX12_grade 136 = .ok (.putfield 382, 3) := by decide +kernel
theorem dX12_grade_139 : decode cX12_grade 139 = .ok (.iinc 6 1, 3) := by decide +kernel
theorem dX12_grade_142 : decode cX12_grade 142 = .ok (.goto (-91), 3) := by decide +kernel
theorem dX12_grade_145 : decode cX12_grade 145 = .ok (.aload_n 0, 1) := by decide +kernel
theorem dX12_grade_146 : decode cX12_grade 146 = .ok (.iload_n 3, 1) := by decide +kernel
theorem dX12_grade_147 : decode cX12_grade 147 = .ok (.putfield 388, 3) := by decide +kernel
theorem dX12_grade_150 : decode cX12_grade 150 = .ok (.aload_n 0, 1) := by decide +kernel
theorem dX12_grade_151 : decode cX12_grade 151 = .ok (.iload 4, 2) := by decide +kernel
theorem dX12_grade_153 : decode cX12_grade 153 = .ok (.iload_n 3, 1) := by decide +kernel
theorem dX12_grade_154 : decode cX12_grade 154 = .ok (.isub, 1) := by decide +kernel
theorem dX12_grade_155 : decode cX12_grade 155 = .ok (.putfield 391, 3) := by decide +kernel
theorem dX12_grade_158 : decode cX12_grade 158 = .ok (.aload_n 0, 1) := by decide +kernel
theorem dX12_grade_159 : decode cX12_grade 159 = .ok (.getfield 391, 3) := by decide +kernel
theorem dX12_grade_162 : decode cX12_grade 162 = .ok (.ifCond .le 41, 3) := by decide +kernel
theorem dX12_grade_165 : decode cX12_grade 165 = .ok (.ldc2_w 394, 3) := by decide +kernel
theorem dX12_grade_168 : decode cX12_grade 168 = .ok (.iload 4, 2) := by decide +kernel
theorem dX12_grade_170 : decode cX12_grade 170 = .ok (.aload_n 0, 1) := by decide +kernel
theorem dX12_grade_171 : decode cX12_grade 171 = .ok (.getfield 391, 3) := by decide +kernel
theorem dX12_grade_174 : decode cX12_grade 174 = .ok (.isub, 1) := by decide +kernel
theorem dX12_grade_175 : decode cX12_grade 175 = .ok (.iload_n 3, 1) := by decide +kernel
theorem dX12_grade_176 : decode cX12_grade 176 = .ok (.invokestatic 396, 3) := by decide +kernel
theorem dX12_grade_179 : decode cX12_grade 179 = .ok (.lmul, 1) := by decide +kernel
theorem dX12_grade_180 : decode cX12_grade 180 = .ok (.iload 4, 2) := by decide +kernel
theorem dX12_grade_182 : decode cX12_grade 182 = .ok (.iload_n 3, 1) := by decide +kernel
theorem dX12_grade_183 : decode cX12_grade 183 = .ok (.invokestatic 396, 3) := by decide +kernel
theorem dX12_grade_186 : decode cX12_grade 186 = .ok (.lcmp, 1) := by decide +kernel
theorem dX12_grade_187 : decode cX12_grade 187 = .ok (.ifCond .ge 16, 3) := by decide +kernel
theorem dX12_grade_190 : decode cX12_grade 190 = .ok (.aload_n 0, 1) := by decide +kernel
theorem dX12_grade_191 : decode cX12_grade 191 = .ok (.dup, 1) := by decide +kernel
theorem dX12_grade_192 : decode cX12_grade 192 = .ok (.getfield 391, 3) := by decide +kernel
theorem dX12_grade_195 : decode cX12_grade 195 = .ok (.iconst 1, 1) := by decide +kernel
theorem dX12_grade_196 : decode cX12_grade 196 = .ok (.isub, 1) := by decide +kernel
theorem dX12_grade_197 : decode cX12_grade 197 = .ok (.putfield 391, 3) := by decide +kernel
theorem dX12_grade_200 : decode cX12_grade 200 = .ok (.goto (-42), 3) := by decide +kernel
theorem dX12_grade_203 : decode cX12_grade 203 = .ok (.aload_n 0, 1) := by decide +kernel
theorem dX12_grade_204 : decode cX12_grade 204 = .ok (.getfield 112, 3) := by decide +kernel
theorem dX12_grade_207 : decode cX12_grade 207 = .ok (.iload_n 1, 1) := by decide +kernel
theorem dX12_grade_208 : decode cX12_grade 208 = .ok (.aload_n 0, 1) := by decide +kernel
theorem dX12_grade_209 : decode cX12_grade 209 = .ok (.getfield 382, 3) := by decide +kernel
theorem dX12_grade_212 : decode cX12_grade 212 = .ok (.iconst 3, 1) := by decide +kernel
theorem dX12_grade_213 : decode cX12_grade 213 = .ok (.if_icmp .gt 7, 3) := by decide +kernel
theorem dX12_grade_216 : decode cX12_grade 216 = .ok (.iconst 0, 1) := by decide +kernel
theorem dX12_grade_217 : decode cX12_grade 217 = .ok (.goto 30, 3) := by decide +kernel
theorem dX12_grade_220 : decode cX12_grade 220 = .ok (.aload_n 0, 1) := by decide +kernel
theorem dX12_grade_221 : decode cX12_grade 221 = .ok (.getfield 382, 3) := by decide +kernel
theorem dX12_grade_224 : decode cX12_grade 224 = .ok (.bipush 8, 2) := by decide +kernel
theorem dX12_grade_226 : decode cX12_grade 226 = .ok (.if_icmp .gt 7, 3) := by decide +kernel
theorem dX12_grade_229 : decode cX12_grade 229 = .ok (.iconst 1, 1) := by decide +kernel
theorem dX12_grade_230 : decode cX12_grade 230 = .ok (.goto 17, 3) := by decide +kernel
theorem dX12_grade_233 : decode cX12_grade 233 = .ok (.aload_n 0, 1) := by decide +kernel
theorem dX12_grade_234 : decode cX12_grade 234 = .ok (.getfield 382, 3) := by decide +kernel
theorem dX12_grade_237 : decode cX12_grade 237 = .ok (.bipush 20, 2) := by decide +kernel
theorem dX12_grade_239 : decode cX12_grade 239 = .ok (.if_icmp .gt 7, 3) := by decide +kernel
theorem dX12_grade_242 : decode cX12_grade 242 = .ok (.iconst 2, 1) := by decide +kernel
theorem dX12_grade_243 : decode cX12_grade 243 = .ok (.goto 4, 3) := by decide +kernel
theorem dX12_grade_246 : decode cX12_grade 246 = .ok (.iconst 3, 1) := by decide +kernel
theorem dX12_grade_247 : decode cX12_grade 247 = .ok (.iastore, 1) := by decide +kernel
theorem dX12_grade_248 : decode cX12_grade 248 = .ok (.aload_n 0, 1) := by decide +kernel
theorem dX12_grade_249 : decode cX12_grade 249 = .ok (.getfield 112, 3) := by decide +kernel
theorem dX12_grade_252 : decode cX12_grade 252 = .ok (.iload_n 1, 1) := by decide +kernel
theorem dX12_grade_253 : decode cX12_grade 253 = .ok (.iaload, 1) := by decide +kernel
theorem dX12_grade_254 : decode cX12_grade 254 = .ok (.ireturn, 1) := by decide +kernel
set_option maxRecDepth 20000 in
theorem ggX12_copy_X12_isWord : GoodIn wsX12_copy wsX12_isWord := goodIn_h _ [2, 5, 0, 0, 0, 0, 0, 0, 0, 0, 0, 0, 0, 0, 0, 0, 0, 0, 0, 0, 0, 0, 0, 0, 0, 0, 0, 0, 0, 0, 0, 0, 0, 0, 0, 0, 0, 0, 0, 0, 0, 0, 0, 0, 0, 0, 0, 0, 0, 0, 0, 0, 0, 0, 0, 0, 0, 0, 0, 0, 0, 0, 0, 0, 0, 0, 0, 0, 0, 0, 0, 0, 0, 0] [2, 3, 4, 0, 5, 6, 1, 7, 8, 9, 10, 11, 12, 13, 14, 15, 16, 17, 18, 19, 20, 21, 22, 23, 24, 25, 26, 27, 28, 29, 30, 31, 32, 33, 34, 35, 36, 37, 38, 39, 40, 41, 42, 43, 44, 45, 46, 47, 48, 49, 50, 51, 52, 53, 54, 55, 56, 57, 58, 59, 60, 61, 62, 63, 64, 65, 66, 67, 68, 69, 70, 71, 72, 73] (by decide +kernel) (by decide +kernel)
set_option maxRecDepth 20000 in
theorem gX12_copy_X12_isWord : GoodIn wsX12_copy (wsV RX12 400 RX12 yX12_isWord wsX12_isWord) := goodIn_app (goodIn_of _ (by decide +kernel)) ggX12_copy_X12_isWord
theorem dX12_copy_0 : decode cX12_copy 0 = .ok (.aload_n 0, 1) := by decide +kernel
theorem dX12_copy_1 : decode cX12_copy 1 = .ok (.iconst 0, 1) := by decide +kernel
theorem dX12_copy_2 : decode cX12_copy 2 = .ok (.putfield 161, 3) := by decide +kernel
theorem dX12_copy_5 : decode cX12_copy 5 = .ok (.aload_n 0, 1) := by decide +kernel
theorem dX12_copy_6 : decode cX12_copy 6 = .ok (.iload_n 1, 1) := by decide +kernel
theorem dX12_copy_7 : decode cX12_copy 7 = .ok (.invokevirtual 400, 3) := by decide +kernel
theorem dX12_copy_10 : decode cX12_copy 10 = .ok (.ifCond .eq 25, 3) := by decide +kernel
theorem dX12_copy_13 : decode cX12_copy 13 = .ok (.aload_n 0, 1) := by decide +kernel
theorem dX12_copy_14 : decode cX12_copy 14 = .ok (.iload_n 3, 1) := by decide +kernel
theorem dX12_copy_15 : decode cX12_copy 15 = .ok (.invokevirtual 400, 3) := by decide +kernel
theorem dX12_copy_18 : decode cX12_copy 18 = .ok (.ifCond .eq 17, 3) := by decide +kernel
theorem dX12_copy_21 : decode cX12_copy 21 = .ok (.iload 5, 2) := by decide +kernel
theorem dX12_copy_23 : decode cX12_copy 23 = .ok (.ifCond .lt 12, 3) := by decide +kernel
theorem dX12_copy_26 : decode cX12_copy 26 = .ok (.iload_n 2, 1) := by decide +kernel
theorem dX12_copy_27 : decode cX12_copy 27 = .ok (.ifCond .lt 8, 3) := by decide +kernel
theorem dX12_copy_30 : decode cX12_copy 30 = .ok (.iload 4, 2) := by decide +kernel
theorem dX12_copy_32 : decode cX12_copy 32 = .ok (.ifCond .ge 5, 3) := by decide +kernel
theorem dX12_copy_35 : decode cX12_copy 35 = .ok (.iconst 0, 1) := by decide +kernel
theorem dX12_copy_36 : decode cX12_copy 36 = .ok (.ireturn, 1) := by decide +kernel
theorem dX12_copy_37 : decode cX12_copy 37 = .ok (.iload_n 2, 1) := by decide +kernel
theorem dX12_copy_38 : decode cX12_copy 38 = .ok (.aload_n 0, 1) := by decide +kernel
theorem dX12_copy_39 : decode cX12_copy 39 = .ok (.getfield 134, 3) := by decide +kernel
theorem dX12_copy_42 : decode cX12_copy 42 = .ok (.iload_n 1, 1) := by decide +kernel
theorem dX12_copy_43 : decode cX12_copy 43 = .ok (.iaload, 1) := by decide +kernel
theorem dX12_copy_44 : decode cX12_copy 44 = .ok (.iload 5, 2) := by decide +kernel
theorem dX12_copy_46 : decode cX12_copy 46 = .ok (.isub, 1) := by decide +kernel
theorem dX12_copy_47 : decode cX12_copy 47 = .ok (.if_icmp .gt 17, 3) := by decide +kernel
theorem dX12_copy_50 : decode cX12_copy 50 = .ok (.iload 4, 2) := by decide +kernel
theorem dX12_copy_52 : decode cX12_copy 52 = .ok (.aload_n 0, 1) := by decide +kernel
theorem dX12_copy_53 : decode cX12_copy 53 = .ok (.getfield 134, 3) := by decide +kernel
theorem dX12_copy_56 : decode cX12_copy 56 = .ok (.iload_n 3, 1) := by decide +kernel
theorem dX12_copy_57 : decode cX12_copy 57 = .ok (.iaload, 1) := by decide +kernel
theorem dX12_copy_58 : decode cX12_copy 58 = .ok (.iload 5, 2) := by decide +kernel
theorem dX12_copy_60 : decode cX12_copy 60 = .ok (.isub, 1) := by decide +kernel
theorem dX12_copy_61 : decode cX12_copy 61 = .ok (.if_icmp .le 5, 3) := by decide +kernel
theorem dX12_copy_64 : decode cX12_copy 64 = .ok (.iconst 0, 1) := by decide +kernel
theorem dX12_copy_65 : decode cX12_copy 65 = .ok (.ireturn, 1) := by decide +kernel
theorem dX12_copy_66 : decode cX12_copy 66 = .ok (.bipush 8, 2) := by decide +kernel
theorem dX12_copy_68 : decode cX12_copy 68 = .ok (.newarray .int, 2) := by decide +kernel
theorem dX12_copy_70 : decode cX12_copy 70 = .ok (.astore 6, 2) := by decide +kernel
theorem dX12_copy_72 : decode cX12_copy 72 = .ok (.iconst 0, 1) := by decide +kernel
theorem dX12_copy_73 : decode cX12_copy 73 = .ok (.istore 7, 2) := by decide +kernel
theorem dX12_copy_75 : decode cX12_copy 75 = .ok (.iload 7, 2) := by decide +kernel
theorem dX12_copy_77 : decode cX12_copy 77 = .ok (.iload 5, 2) := by decide +kernel
theorem dX12_copy_79 : decode cX12_copy 79 = .ok (.if_icmp .ge 28, 3) := by decide +kernel
theorem dX12_copy_82 : decode cX12_copy 82 = .ok (.aload 6, 2) := by decide +kernel
theorem dX12_copy_84 : decode cX12_copy 84 = .ok (.iload 7, 2) := by decide +kernel
theorem dX12_copy_86 : decode cX12_copy 86 = .ok (.aload_n 0, 1) := by decide +kernel
theorem dX12_copy_87 : decode cX12_copy 87 = .ok (.getfield 137, 3) := by decide +kernel
theorem dX12_copy_90 : decode cX12_copy 90 = .ok (.bipush 8, 2) := by decide +kernel
theorem dX12_copy_92 : decode cX12_copy 92 = .ok (.iload_n 1, 1) := by decide +kernel
theorem dX12_copy_93 : decode cX12_copy 93 = .ok (.imul, 1) := by decide +kernel
theorem dX12_copy_94 : decode cX12_copy 94 = .ok (.iload_n 2, 1) := by decide +kernel
theorem dX12_copy_95 : decode cX12_copy 95 = .ok (.iadd, 1) := by decide +kernel
theorem dX12_copy_96 : decode cX12_copy 96 = .ok (.iload 7, 2) := by decide +kernel
theorem dX12_copy_98 : decode cX12_copy 98 = .ok (.iadd, 1) := by decide +kernel
theorem dX12_copy_99 : decode cX12_copy 99 = .ok (.iaload, 1) := by decide +kernel
theorem dX12_copy_100 : decode cX12_copy 100 = .ok (.iastore, 1) := by decide +kernel
theorem dX12_copy_101 : decode cX12_copy 101 = .ok (.iinc 7 1, 3) := by decide +kernel
theorem dX12_copy_104 : decode cX12_copy 104 = .ok (.goto (-29), 3) := by decide +kernel
theorem dX12_copy_107 : decode cX12_copy 107 = .ok (.iconst 0, 1) := by decide +kernel
theorem dX12_copy_108 : decode cX12_copy 108 = .ok (.istore 7, 2) := by decide +kernel
theorem dX12_copy_110 : decode cX12_copy 110 = .ok (.iload 7, 2) := by decide +kernel
theorem dX12_copy_112 : decode cX12_copy 112 = .ok (.iload 5, 2) := by decide +kernel
theorem dX12_copy_114 : decode cX12_copy 114 = .ok (.if_icmp .ge 29, 3) := by decide +kernel
theorem dX12_copy_117 : decode cX12_copy 117 = .ok (.aload_n 0, 1) := by decide +kernel
theorem dX12_copy_118 : decode cX12_copy 118 = .ok (.getfield 137, 3) := by decide +kernel
theorem dX12_copy_121 : decode cX12_copy 121 = .ok (.bipush 8, 2) := by decide +kernel
theorem dX12_copy_123 : decode cX12_copy 123 = .ok (.iload_n 3, 1) := by decide +kernel
theorem dX12_copy_124 : decode cX12_copy 124 = .ok (.imul, 1) := by decide +kernel
theorem dX12_copy_125 : decode cX12_copy 125 = .ok (.iload 4, 2) := by decide +kernel
theorem dX12_copy_127 : decode cX12_copy 127 = .ok (.iadd, 1) := by decide +kernel
theorem dX12_copy_128 : decode cX12_copy 128 = .ok (.iload 7, 2) := by decide +kernel
theorem dX12_copy_130 : decode cX12_copy 130 = .ok (.iadd, 1) := by decide +kernel
theorem dX12_copy_131 : decode cX12_copy 131 = .ok (.aload 6, 2) := by decide +kernel
theorem dX12_copy_133 : decode cX12_copy 133 = .ok (.iload 7, 2) := by decide +kernel
theorem dX12_copy_135 : decode cX12_copy 135 = .ok (.iaload, 1) := by decide +kernel
theorem dX12_copy_136 : decode cX12_copy 136 = .ok (.iastore, 1) := by decide +kernel
theorem dX12_copy_137 : decode cX12_copy 137 = .ok (.iinc 7 1, 3) := by decide +kernel
theorem dX12_copy_140 : decode cX12_copy 140 = .ok (.goto (-30), 3) := by decide +kernel
theorem dX12_copy_143 : decode cX12_copy 143 = .ok (.iconst 1, 1) := by decide +kernel
theorem dX12_copy_144 : decode cX12_copy 144 = .ok (.ireturn, 1) := by decide +kernel
theorem inn_X12_copy_12 : ∀ w ∈ u_ws RX12 TX12 66, w ∈ wsX12_copy := fun w h => List.mem_cons_of_mem _ (List.mem_append_right _ h)
theorem inn_X12_grade_12 : ∀ w ∈ u_ws RX12 TX12 66, w ∈ wsX12_grade := fun w h => List.mem_cons_of_mem _ (List.mem_append_right _ h)
theorem inn_X12_test_12 : ∀ w ∈ u_ws RX12 TX12 66, w ∈ wsX12_test := fun w h => List.mem_cons_of_mem _ (List.mem_append_right _ h)
set_option maxHeartbeats 4000000 in
set_option maxRecDepth 100000 in
theorem k_X12_copy (l : Launch) (G : va_G) (cy : Nat → ClassId) (κ : Nat → Nat) (S : PS) (sz hz : Nat) (x : Nat) (a1 : Int32) (a1_z : Int) (a2 : Int32) (a2_z : Int) (a3 : Int32) (a3_z : Int) (a4 : Int32) (a4_z : Int) (a5 : Int32) (a5_z : Int) (hG : GX S) (ha_x : At S x 12) (hz_a1 : a1.toInt = a1_z) (hz_a2 : a2.toInt = a2_z) (hz_a3 : a3.toInt = a3_z) (hz_a4 : a4.toInt = a4_z) (hz_a5 : a5.toInt = a5_z) : Gi l yX12_copy wsX12_copy ({ frames := 3, cells := Phc S + 1, slots := Phs S + 8, locals := 144 }) G cy κ S sz hz 1 8 [.ref x, .int (a1), .int (a2), .int (a3), .int (a4), .int (a5)] (fun (r : Int32) (S9 : PS) => Og MCP S S9 ∧ (((True) ∧ r = 1) ∨ ((True) ∧ r = 0))) := by
  refine ent_g (cc := cX12_copy) (maxL := 8) (ret := (some .boolean)) (by decide) rfl (Nat.le_of_ble_eq_true rfl) ?_
  intro p e s m below meth c ls X hr hlocks hin hw hl hsz hhz
  subst hsz hhz
  have X : Cx p c cX12_copy 8 s [.ref x, .int (a1), .int (a2), .int (a3), .int (a4), .int (a5)].toArray wsX12_copy RX12 m G cy κ (AS S s.heap.size) := X
  have hl : lv_has ls 8 [(0, .ref x), (1, .int (a1)), (2, .int (a2)), (3, .int (a3)), (4, .int (a4)), (5, .int (a5))] := hl
  have rg_a1 : (-2147483648) ≤ a1_z ∧ a1_z ≤ 2147483647 := by rw [← hz_a1]; exact ⟨z_lo _, z_hi _⟩
  have rg_a2 : (-2147483648) ≤ a2_z ∧ a2_z ≤ 2147483647 := by rw [← hz_a2]; exact ⟨z_lo _, z_hi _⟩
  have rg_a3 : (-2147483648) ≤ a3_z ∧ a3_z ≤ 2147483647 := by rw [← hz_a3]; exact ⟨z_lo _, z_hi _⟩
  have rg_a4 : (-2147483648) ≤ a4_z ∧ a4_z ≤ 2147483647 := by rw [← hz_a4]; exact ⟨z_lo _, z_hi _⟩
  have rg_a5 : (-2147483648) ≤ a5_z ∧ a5_z ≤ 2147483647 := by rw [← hz_a5]; exact ⟨z_lo _, z_hi _⟩
  have hpc0 : 0 + Phc S ≤ Phc S + 0 := by omega
  have hps0 : 0 + Phs S ≤ Phs S + 0 := by omega
  have hO : Og MCP S S := Og.rf hG
  generalize hQQ : MQ below _ _ _ _ _ _ = QQ
  replace hQQ := hQQ.symm
  refine lv_aload_n X.1 X.2.1 dX12_copy_0 rfl (lv_at hl 0 rfl) ?_
  refine lv_iconst (v := 0) X.1 X.2.1 dX12_copy_1 (by decide) ?_
  refine r_putI (v := 0) X hw ha_x rfl 0 1200 tyX12 (by decide) rfl inn_X12_copy_12 tyX12_ok nmX12 (by decide) (X.2.2.2.1 (.fieldLink RX12 161 "SilkMillModel" "thrown" "I") (by decide +kernel)) rfl (Or.inl rfl) rfl rfl (Nat.le_of_ble_eq_true rfl) (st_1200 _ _) dX12_copy_2 (fun H locs hw => ?_)
  obtain ⟨S_1, eS_1⟩ : ∃ T, T = sI S 1200 x (0) := ⟨_, rfl⟩
  rw [← eS_1] at hw
  have ph_2 : 0 + Phc S_1 ≤ Phc S + 0 := by rw [show Phc S_1 = Phc S from Ph_sI eS_1 rfl rfl]; exact hpc0
  have ph_3 : 0 + Phs S_1 ≤ Phs S + 0 := by rw [show Phs S_1 = Phs S from Ph_sI eS_1 rfl rfl]; exact hps0
  clear hpc0
  clear hps0
  have hO_4 : Og MCP S S_1 := hO.sI eS_1 (by decide +kernel) (uI_12_1200 hO.1 ha_x)
  have h_5 : pI S_1 1200 x = 0 := tI_sIs eS_1
  refine lv_aload_n X.1 X.2.1 dX12_copy_5 rfl (lv_at hl 0 rfl) ?_
  refine lv_iload_n X.1 X.2.1 dX12_copy_6 rfl (lv_at hl 1 rfl) ?_
  have t_6 : At S_1 x 12 := tAt_sI eS_1 ha_x
  refine k_i (rm := { frames := 2, cells := 0, slots := 0, locals := 96 }) (av := [.ref x, .int (a1)]) X hw (va_runV (As := [.int (a1)]) (rest := []) (cfix X) (k_X12_isWord l G cy κ S_1 _ x (a1) (a1_z) hO_4.1 t_6 hz_a1) (cwV 1 X.2.2.2.1 gX12_copy_X12_isWord rfl rfl rfl (by decide +kernel) ⟨Nat.le_of_ble_eq_true rfl, Nat.le_of_ble_eq_true rfl⟩) (pre_V X hw _ t_6 rfl (by decide) rfl) rfl rfl hl.1 rfl (lv_room (Nat.le_of_ble_eq_true rfl)) dX12_copy_7 ⟨(by show 0 + 0 ≤ Phc S + 1; omega), (by show 0 + 0 ≤ Phs S + 8; omega)⟩) 0 0 (by show 0 + 0 ≤ 0; omega) (by show 0 + 0 ≤ 0; omega) (fun rr_7 S_8 H locs hp hw hfr hnw => ?_)
  obtain ⟨e2, hp⟩ := hp
  subst e2
  rcases hp with ⟨f_9, er_10⟩ | ⟨f_9, er_10⟩ <;> subst er_10
  · have z_b_11 := trivial
    refine lv_if_eq (tgt := 35) X.1 X.2.1 dX12_copy_10 (by decide) (fun c_12 => absurd c_12 (by decide)) (fun c_12 => ?_)
    refine lv_aload_n X.1 X.2.1 dX12_copy_13 rfl (lv_at hl 0 rfl) ?_
    refine lv_iload_n X.1 X.2.1 dX12_copy_14 rfl (lv_at hl 3 rfl) ?_
    refine k_i (rm := { frames := 2, cells := 0, slots := 0, locals := 96 }) (av := [.ref x, .int (a3)]) X hw (va_runV (As := [.int (a3)]) (rest := []) (cfix X) (k_X12_isWord l G cy κ S_1 _ x (a3) (a3_z) hO_4.1 t_6 hz_a3) (cwV 1 X.2.2.2.1 gX12_copy_X12_isWord rfl rfl rfl (by decide +kernel) ⟨Nat.le_of_ble_eq_true rfl, Nat.le_of_ble_eq_true rfl⟩) (pre_V X hw _ t_6 rfl (by decide) rfl) rfl rfl hl.1 rfl (lv_room (Nat.le_of_ble_eq_true rfl)) dX12_copy_15 ⟨(by show 0 + 0 ≤ Phc S + 1; omega), (by show 0 + 0 ≤ Phs S + 8; omega)⟩) 0 0 (by show 0 + 0 ≤ 0; omega) (by show 0 + 0 ≤ 0; omega) (fun rr_13 S_14 H locs hp hw hfr hnw => ?_)
    obtain ⟨e2, hp⟩ := hp
    subst e2
    rcases hp with ⟨f_15, er_16⟩ | ⟨f_15, er_16⟩ <;> subst er_16
    · have z_b_17 := trivial
      refine lv_if_eq (tgt := 35) X.1 X.2.1 dX12_copy_18 (by decide) (fun c_18 => absurd c_18 (by decide)) (fun c_18 => ?_)
      refine lv_iload X.1 X.2.1 dX12_copy_21 (lv_at hl 5 rfl) ?_
      refine lv_if_lt (tgt := 35) X.1 X.2.1 dX12_copy_23 (by decide) (fun c_19 => ?_) (fun c_19 => ?_)
      · have z_b_20 := trivial
        have k_21 : a5_z < 0 := z_lt hz_a5 ti_0 c_19
        refine lv_iconst (v := 0) X.1 X.2.1 dX12_copy_35 (by decide) ?_
        rw [hQQ]
        exact ret_gz X hw hr hlocks (by show 0 ≤ Phc S + 1; omega) (by show 0 ≤ Phs S + 8; omega) (by omega) (by omega) (by decide) ⟨hO_4, Or.inr ⟨trivial, rfl⟩⟩ dX12_copy_36
      · have z_b_22 := trivial
        have k_23 : a5_z ≥ 0 := z_nlt hz_a5 ti_0 c_19
        refine lv_iload_n X.1 X.2.1 dX12_copy_26 rfl (lv_at hl 2 rfl) ?_
        refine lv_if_lt (tgt := 35) X.1 X.2.1 dX12_copy_27 (by decide) (fun c_24 => ?_) (fun c_24 => ?_)
        · have z_b_25 := trivial
          have k_26 : a2_z < 0 := z_lt hz_a2 ti_0 c_24
          refine lv_iconst (v := 0) X.1 X.2.1 dX12_copy_35 (by decide) ?_
          rw [hQQ]
          exact ret_gz X hw hr hlocks (by show 0 ≤ Phc S + 1; omega) (by show 0 ≤ Phs S + 8; omega) (by omega) (by omega) (by decide) ⟨hO_4, Or.inr ⟨trivial, rfl⟩⟩ dX12_copy_36
        · have z_b_27 := trivial
          have k_28 : a2_z ≥ 0 := z_nlt hz_a2 ti_0 c_24
          refine lv_iload X.1 X.2.1 dX12_copy_30 (lv_at hl 4 rfl) ?_
          refine lv_if_ge (tgt := 37) X.1 X.2.1 dX12_copy_32 (by decide) (fun c_29 => ?_) (fun c_29 => ?_)
          · have z_b_30 := trivial
            have k_31 : a4_z ≥ 0 := z_le ti_0 hz_a4 c_29
            refine lv_iload_n X.1 X.2.1 dX12_copy_37 rfl (lv_at hl 2 rfl) ?_
            refine lv_aload_n X.1 X.2.1 dX12_copy_38 rfl (lv_at hl 0 rfl) ?_
            obtain ⟨q_32, h_33, h_34, h_35⟩ := gQ_12_1256 hO_4.1 t_6
            refine r_getR (g := 1256) X hw t_6 rfl 56 h_33 (by decide) rfl inn_X12_copy_12 (by decide) (X.2.2.2.1 (.fieldLink RX12 134 "SilkMillModel" "wordMany" "[I") (by decide +kernel)) rfl (gv_1256 _ _) dX12_copy_39 ?_
            refine lv_iload_n X.1 X.2.1 dX12_copy_42 rfl (lv_at hl 1 rfl) ?_
            refine r_iald X hw h_34 rfl (by rw [h_35]; exact z_ix hz_a1 (by omega) (by omega)) dX12_copy_43 ?_
            refine lv_topi (fun v_36 ev_36 => ?_)
            have z_37 := gE_1334 hO_4.1 h_34 (Int32.toNatClampNeg (a1)); rw [← ev_36] at z_37
            have ev_36 := ev_36.symm
            refine lv_iload X.1 X.2.1 dX12_copy_44 (lv_at hl 5 rfl) ?_
            refine lv_isub X.1 X.2.1 dX12_copy_46 ?_
            refine lv_topi (fun v_38 ev_38 => ?_)
            have z_39 : v_38.toInt = v_36.toInt - a5_z := z_sub ev_38 rfl hz_a5 (by omega) (by omega)
            refine lv_icmp_gt (tgt := 64) X.1 X.2.1 dX12_copy_47 (by decide) (fun c_40 => ?_) (fun c_40 => ?_)
            · have z_b_41 := trivial
              have k_42 : a2_z > (v_36.toInt - a5_z) := z_lt z_39 hz_a2 c_40
              refine lv_iconst (v := 0) X.1 X.2.1 dX12_copy_64 (by decide) ?_
              rw [hQQ]
              exact ret_gz X hw hr hlocks (by show 0 ≤ Phc S + 1; omega) (by show 0 ≤ Phs S + 8; omega) (by omega) (by omega) (by decide) ⟨hO_4, Or.inr ⟨trivial, rfl⟩⟩ dX12_copy_65
            · have z_b_43 := trivial
              have k_44 : a2_z ≤ (v_36.toInt - a5_z) := z_nlt z_39 hz_a2 c_40
              refine lv_iload X.1 X.2.1 dX12_copy_50 (lv_at hl 4 rfl) ?_
              refine lv_aload_n X.1 X.2.1 dX12_copy_52 rfl (lv_at hl 0 rfl) ?_
              refine r_getR (g := 1256) X hw t_6 rfl 56 h_33 (by decide) rfl inn_X12_copy_12 (by decide) (X.2.2.2.1 (.fieldLink RX12 134 "SilkMillModel" "wordMany" "[I") (by decide +kernel)) rfl (gv_1256 _ _) dX12_copy_53 ?_
              refine lv_iload_n X.1 X.2.1 dX12_copy_56 rfl (lv_at hl 3 rfl) ?_
              refine r_iald X hw h_34 rfl (by rw [h_35]; exact z_ix hz_a3 (by omega) (by omega)) dX12_copy_57 ?_
              refine lv_topi (fun v_45 ev_45 => ?_)
              have z_46 := gE_1334 hO_4.1 h_34 (Int32.toNatClampNeg (a3)); rw [← ev_45] at z_46
              have ev_45 := ev_45.symm
              refine lv_iload X.1 X.2.1 dX12_copy_58 (lv_at hl 5 rfl) ?_
              refine lv_isub X.1 X.2.1 dX12_copy_60 ?_
              refine lv_topi (fun v_47 ev_47 => ?_)
              have z_48 : v_47.toInt = v_45.toInt - a5_z := z_sub ev_47 rfl hz_a5 (by omega) (by omega)
              refine lv_icmp_le (tgt := 66) X.1 X.2.1 dX12_copy_61 (by decide) (fun c_49 => ?_) (fun c_49 => ?_)
              · have z_b_50 := trivial
                have k_51 : a4_z ≤ (v_45.toInt - a5_z) := z_le hz_a4 z_48 c_49
                refine lv_bipush (v := 8) X.1 X.2.1 dX12_copy_66 (by decide) ?_
                have ph_53 : 1 + Phc S_1 ≤ Phc S + 1 := by omega
                have ph_54 : 8 + Phs S_1 ≤ Phs S + 8 := by omega
                clear ph_2
                clear ph_3
                refine r_newI (N := 8) X hw 14 8 1 rfl (X.2.2.2.1 (.arrayClass .int) (by decide +kernel)) (z_nn ti_8 (by omega)) (by decide) (by decide) (by show 0 + 1 ≤ 1; omega) (by show 0 + 8 ≤ 8; omega) (by show 1 ≤ Phc S + 1; omega) (by show 8 ≤ Phs S + 8; omega) dX12_copy_68 (fun q_52 H hq_52 hw => ?_)
                obtain ⟨S_55, eS_55⟩ : ∃ T, T = sN S_1 q_52 14 8 := ⟨_, rfl⟩
                rw [← eS_55] at hw
                have ph_56 : 1 + Phc S_55 ≤ Phc S + 1 := by rw [show Phc S_55 = Phc S_1 from Ph_sN' hO_4.1.ci hq_52 eS_55 (by decide)]; exact ph_53
                have ph_57 : 8 + Phs S_55 ≤ Phs S + 8 := by rw [show Phs S_55 = Phs S_1 from Ph_sN' hO_4.1.ci hq_52 eS_55 (by decide)]; exact ph_54
                clear ph_53
                clear ph_54
                have hO_58 : Og MCP S S_55 := ⟨by rw [eS_55]; exact GX_N hO_4.1 hq_52 (by decide +kernel), hO_4.fr.trans (by rw [eS_55]; exact Fr_sN hq_52)⟩
                have ha_59 : At S_55 q_52 14 := by rw [eS_55]; exact At_nN _ _ _ _
                have hn_60 : pN S_55 q_52 = 8 := by rw [eS_55]; exact pN_sN_new
                refine lv_astore (lv' := [(6, .ref q_52), (0, .ref x), (1, .int (a1)), (2, .int (a2)), (3, .int (a3)), (4, .int (a4)), (5, .int (a5))]) X.1 X.2.1 dX12_copy_70 hl (by decide) rfl (fun ls hl => ?_)
                refine lv_iconst (v := 0) X.1 X.2.1 dX12_copy_72 (by decide) ?_
                refine lv_istore (lv' := [(7, .int 0), (6, .ref q_52), (0, .ref x), (1, .int (a1)), (2, .int (a2)), (3, .int (a3)), (4, .int (a4)), (5, .int (a5))]) X.1 X.2.1 dX12_copy_73 hl (by decide) rfl (fun ls hl => ?_)
                have L_61 : ∀ (n : Nat) (T_63 : PS) (H : Heap) (locs : List Loc) (ls : Array Slot) (i7_62 : Int32) (i7_62_z : Int) (cc_67 nn_68 : Nat), ((8 - i7_62_z).toNat = n) → (Wd G cy (AS S s.heap.size) s.heap T_63 H locs) → (i7_62.toInt = i7_62_z) → (0 ≤ i7_62_z ∧ i7_62_z ≤ 8) → (At T_63 q_52 14) → (At T_63 x 12) → (Og MCP S T_63) → (pN T_63 q_52 = 8) → (cc_67 + Phc T_63 ≤ Phc S + 1) → (nn_68 + Phs T_63 ≤ Phs S + 8) → (lv_has ls 8 [(7, .int (i7_62)), (6, .ref q_52), (0, .ref x), (1, .int (a1)), (2, .int (a2)), (3, .int (a3)), (4, .int (a4)), (5, .int (a5))]) → W p l e ({ frames := 3, cells := Phc S + 1, slots := Phs S + 8, locals := 144 }) s m [.ref x, .int (a1), .int (a2), .int (a3), .int (a4), .int (a5)].toArray below meth c H locs cc_67 nn_68 QQ (F0 m 75 ls []) := by
                  intro n
                  induction n using Nat.strongRecOn with
                  | ind n ih_L_61 =>
                  intro T_63 H locs ls i7_62 i7_62_z cc_67 nn_68 hn hw hz_i7_62 hr_i7_62 ha_q_52_L_64 ha_x_L_65 hO_T_63 ik_66 hcc_69 hnn_70 hl
                  have rg_71 : (-2147483648) ≤ i7_62_z ∧ i7_62_z ≤ 2147483647 := by rw [← hz_i7_62]; exact ⟨z_lo _, z_hi _⟩
                  refine lv_iload X.1 X.2.1 dX12_copy_75 (lv_at hl 0 rfl) ?_
                  refine lv_iload X.1 X.2.1 dX12_copy_77 (lv_at hl 7 rfl) ?_
                  refine lv_icmp_ge (tgt := 107) X.1 X.2.1 dX12_copy_79 (by decide) (fun c_72 => ?_) (fun c_72 => ?_)
                  · have z_b_73 := trivial
                    have k_74 : i7_62_z ≥ a5_z := z_le hz_a5 hz_i7_62 c_72
                    refine lv_iconst (v := 0) X.1 X.2.1 dX12_copy_107 (by decide) ?_
                    refine lv_istore (lv' := [(7, .int 0), (6, .ref q_52), (0, .ref x), (1, .int (a1)), (2, .int (a2)), (3, .int (a3)), (4, .int (a4)), (5, .int (a5))]) X.1 X.2.1 dX12_copy_108 hl (by decide) rfl (fun ls hl => ?_)
                    have L_75 : ∀ (n : Nat) (T_77 : PS) (H : Heap) (locs : List Loc) (ls : Array Slot) (i7_76 : Int32) (i7_76_z : Int) (cc_81 nn_82 : Nat), ((8 - i7_76_z).toNat = n) → (Wd G cy (AS S s.heap.size) s.heap T_77 H locs) → (i7_76.toInt = i7_76_z) → (0 ≤ i7_76_z ∧ i7_76_z ≤ 8) → (At T_77 q_52 14) → (At T_77 x 12) → (Og MCP S T_77) → (pN T_77 q_52 = 8) → (cc_81 + Phc T_77 ≤ Phc S + 1) → (nn_82 + Phs T_77 ≤ Phs S + 8) → (lv_has ls 8 [(7, .int (i7_76)), (6, .ref q_52), (0, .ref x), (1, .int (a1)), (2, .int (a2)), (3, .int (a3)), (4, .int (a4)), (5, .int (a5))]) → W p l e ({ frames := 3, cells := Phc S + 1, slots := Phs S + 8, locals := 144 }) s m [.ref x, .int (a1), .int (a2), .int (a3), .int (a4), .int (a5)].toArray below meth c H locs cc_81 nn_82 QQ (F0 m 110 ls []) := by
                      intro n
                      induction n using Nat.strongRecOn with
                      | ind n ih_L_75 =>
                      intro T_77 H locs ls i7_76 i7_76_z cc_81 nn_82 hn hw hz_i7_76 hr_i7_76 ha_q_52_L_78 ha_x_L_79 hO_T_77 ik_80 hcc_83 hnn_84 hl
                      have rg_85 : (-2147483648) ≤ i7_76_z ∧ i7_76_z ≤ 2147483647 := by rw [← hz_i7_76]; exact ⟨z_lo _, z_hi _⟩
                      refine lv_iload X.1 X.2.1 dX12_copy_110 (lv_at hl 0 rfl) ?_
                      refine lv_iload X.1 X.2.1 dX12_copy_112 (lv_at hl 7 rfl) ?_
                      refine lv_icmp_ge (tgt := 143) X.1 X.2.1 dX12_copy_114 (by decide) (fun c_86 => ?_) (fun c_86 => ?_)
                      · have z_b_87 := trivial
                        have k_88 : i7_76_z ≥ a5_z := z_le hz_a5 hz_i7_76 c_86
                        refine lv_iconst (v := 1) X.1 X.2.1 dX12_copy_143 (by decide) ?_
                        rw [hQQ]
                        exact ret_gz X hw hr hlocks (by show cc_81 ≤ Phc S + 1; omega) (by show nn_82 ≤ Phs S + 8; omega) (by omega) (by omega) (by decide) ⟨hO_T_77, Or.inl ⟨trivial, rfl⟩⟩ dX12_copy_144
                      · have z_b_89 := trivial
                        have k_90 : i7_76_z < a5_z := z_nle hz_a5 hz_i7_76 c_86
                        refine lv_aload_n X.1 X.2.1 dX12_copy_117 rfl (lv_at hl 2 rfl) ?_
                        obtain ⟨q_91, h_92, h_93, h_94⟩ := gQ_12_1257 hO_T_77.1 ha_x_L_79
                        refine r_getR (g := 1257) X hw ha_x_L_79 rfl 57 h_92 (by decide) rfl inn_X12_copy_12 (by decide) (X.2.2.2.1 (.fieldLink RX12 137 "SilkMillModel" "wordOf" "[I") (by decide +kernel)) rfl (gv_1257 _ _) dX12_copy_118 ?_
                        refine lv_bipush (v := 8) X.1 X.2.1 dX12_copy_121 (by decide) ?_
                        refine lv_iload_n X.1 X.2.1 dX12_copy_123 rfl (lv_at hl 5 rfl) ?_
                        refine lv_imul X.1 X.2.1 dX12_copy_124 ?_
                        refine lv_topi (fun v_95 ev_95 => ?_)
                        have z_96 : v_95.toInt = 8 * a3_z := z_mul ev_95 ti_8 hz_a3 (by omega) (by omega)
                        refine lv_iload X.1 X.2.1 dX12_copy_125 (lv_at hl 6 rfl) ?_
                        refine lv_iadd X.1 X.2.1 dX12_copy_127 ?_
                        refine lv_topi (fun v_97 ev_97 => ?_)
                        have z_98 : v_97.toInt = (8 * a3_z) + a4_z := z_add ev_97 z_96 hz_a4 (by omega) (by omega)
                        refine lv_iload X.1 X.2.1 dX12_copy_128 (lv_at hl 0 rfl) ?_
                        refine lv_iadd X.1 X.2.1 dX12_copy_130 ?_
                        refine lv_topi (fun v_99 ev_99 => ?_)
                        have z_100 : v_99.toInt = ((8 * a3_z) + a4_z) + i7_76_z := z_add ev_99 z_98 hz_i7_76 (by omega) (by omega)
                        refine lv_aload X.1 X.2.1 dX12_copy_131 (lv_at hl 1 rfl) ?_
                        refine lv_iload X.1 X.2.1 dX12_copy_133 (lv_at hl 0 rfl) ?_
                        refine r_iald X hw ha_q_52_L_78 rfl (by rw [ik_80]; exact z_ix hz_i7_76 (by omega) (by omega)) dX12_copy_135 ?_
                        refine lv_topi (fun v_101 ev_101 => ?_)
                        have rg_102 := And.intro (z_lo v_101) (z_hi v_101)
                        have ev_101 := ev_101.symm
                        refine r_iast X hw h_93 rfl (by rw [h_94]; exact z_ix z_100 (by omega) (by omega)) dX12_copy_136 (fun H locs hw => ?_)
                        obtain ⟨S_103, eS_103⟩ : ∃ T, T = sA T_77 q_91 (upd (pA T_77 q_91) (Int32.toNatClampNeg (v_99)) (v_101)) := ⟨_, rfl⟩
                        rw [← eS_103] at hw
                        have ph_104 : cc_81 + Phc S_103 ≤ Phc S + 1 := by rw [show Phc S_103 = Phc T_77 from Ph_sA eS_103]; exact hcc_83
                        have ph_105 : nn_82 + Phs S_103 ≤ Phs S + 8 := by rw [show Phs S_103 = Phs T_77 from Ph_sA eS_103]; exact hnn_84
                        clear hcc_83
                        clear hnn_84
                        have hO_106 : Og MCP S S_103 := hO_T_77.sA eS_103 h_93 (by decide +kernel) (uA_1354 hO_T_77.1 h_93)
                        have h_107 : pA S_103 q_91 (Int32.toNatClampNeg (v_99)) = v_101 := tA_sAs eS_103
                        obtain ⟨x_108, ex_108⟩ : ∃ y : Int32, y = i7_76 + 1 := ⟨_, rfl⟩
                        have z_109 : x_108.toInt = i7_76_z + 1 := z_add ex_108 hz_i7_76 ti_1 (by omega) (by omega)
                        refine lv_iinc (v := x_108) (lv' := [(7, .int (x_108)), (6, .ref q_52), (0, .ref x), (1, .int (a1)), (2, .int (a2)), (3, .int (a3)), (4, .int (a4)), (5, .int (a5))]) X.1 X.2.1 dX12_copy_137 hl (k := 0) rfl (by rw [ex_108]; rfl) (by decide) rfl (fun ls hl => ?_)
                        refine lv_goto (tgt := 110) X.1 X.2.1 dX12_copy_140 (by decide) ?_
                        have t_110 : At S_103 q_52 14 := tAt_sA eS_103 ha_q_52_L_78
                        have t_111 : At S_103 x 12 := tAt_sA eS_103 ha_x_L_79
                        have t_112 : pN S_103 q_52 = 8 := tN_sA eS_103 ik_80
                        exact ih_L_75 _ (by omega) _ _ _ _ (x_108) (x_108.toInt) (cc_81) (nn_82) rfl hw rfl (by omega) t_110 t_111 hO_106 t_112 (by omega) (by omega) (lv_sub hl [0, 1, 2, 3, 4, 5, 6, 7] rfl)
                    exact L_75 _ _ _ _ _ (0) (0) (cc_67) (nn_68) rfl hw ti_0 (by omega) ha_q_52_L_64 ha_x_L_65 hO_T_63 ik_66 (by omega) (by omega) (lv_sub hl [0, 1, 2, 3, 4, 5, 6, 7] rfl)
                  · have z_b_113 := trivial
                    have k_114 : i7_62_z < a5_z := z_nle hz_a5 hz_i7_62 c_72
                    refine lv_aload X.1 X.2.1 dX12_copy_82 (lv_at hl 1 rfl) ?_
                    refine lv_iload X.1 X.2.1 dX12_copy_84 (lv_at hl 0 rfl) ?_
                    refine lv_aload_n X.1 X.2.1 dX12_copy_86 rfl (lv_at hl 2 rfl) ?_
                    obtain ⟨q_115, h_116, h_117, h_118⟩ := gQ_12_1257 hO_T_63.1 ha_x_L_65
                    refine r_getR (g := 1257) X hw ha_x_L_65 rfl 57 h_116 (by decide) rfl inn_X12_copy_12 (by decide) (X.2.2.2.1 (.fieldLink RX12 137 "SilkMillModel" "wordOf" "[I") (by decide +kernel)) rfl (gv_1257 _ _) dX12_copy_87 ?_
                    refine lv_bipush (v := 8) X.1 X.2.1 dX12_copy_90 (by decide) ?_
                    refine lv_iload_n X.1 X.2.1 dX12_copy_92 rfl (lv_at hl 3 rfl) ?_
                    refine lv_imul X.1 X.2.1 dX12_copy_93 ?_
                    refine lv_topi (fun v_119 ev_119 => ?_)
                    have z_120 : v_119.toInt = 8 * a1_z := z_mul ev_119 ti_8 hz_a1 (by omega) (by omega)
                    refine lv_iload_n X.1 X.2.1 dX12_copy_94 rfl (lv_at hl 4 rfl) ?_
                    refine lv_iadd X.1 X.2.1 dX12_copy_95 ?_
                    refine lv_topi (fun v_121 ev_121 => ?_)
                    have z_122 : v_121.toInt = (8 * a1_z) + a2_z := z_add ev_121 z_120 hz_a2 (by omega) (by omega)
                    refine lv_iload X.1 X.2.1 dX12_copy_96 (lv_at hl 0 rfl) ?_
                    refine lv_iadd X.1 X.2.1 dX12_copy_98 ?_
                    refine lv_topi (fun v_123 ev_123 => ?_)
                    have z_124 : v_123.toInt = ((8 * a1_z) + a2_z) + i7_62_z := z_add ev_123 z_122 hz_i7_62 (by omega) (by omega)
                    refine r_iald X hw h_117 rfl (by rw [h_118]; exact z_ix z_124 (by omega) (by omega)) dX12_copy_99 ?_
                    refine lv_topi (fun v_125 ev_125 => ?_)
                    have rg_126 := And.intro (z_lo v_125) (z_hi v_125)
                    have ev_125 := ev_125.symm
                    refine r_iast X hw ha_q_52_L_64 rfl (by rw [ik_66]; exact z_ix hz_i7_62 (by omega) (by omega)) dX12_copy_100 (fun H locs hw => ?_)
                    obtain ⟨S_127, eS_127⟩ : ∃ T, T = sA T_63 q_52 (upd (pA T_63 q_52) (Int32.toNatClampNeg (i7_62)) (v_125)) := ⟨_, rfl⟩
                    rw [← eS_127] at hw
                    have ph_128 : cc_67 + Phc S_127 ≤ Phc S + 1 := by rw [show Phc S_127 = Phc T_63 from Ph_sA eS_127]; exact hcc_69
                    have ph_129 : nn_68 + Phs S_127 ≤ Phs S + 8 := by rw [show Phs S_127 = Phs T_63 from Ph_sA eS_127]; exact hnn_70
                    clear hcc_69
                    clear hnn_70
                    have hO_130 : Og MCP S S_127 := hO_T_63.sA eS_127 ha_q_52_L_64 (by decide +kernel) (uA_14 hO_T_63.1 ha_q_52_L_64)
                    have h_131 : pA S_127 q_52 (Int32.toNatClampNeg (i7_62)) = v_125 := tA_sAs eS_127
                    obtain ⟨x_132, ex_132⟩ : ∃ y : Int32, y = i7_62 + 1 := ⟨_, rfl⟩
                    have z_133 : x_132.toInt = i7_62_z + 1 := z_add ex_132 hz_i7_62 ti_1 (by omega) (by omega)
                    refine lv_iinc (v := x_132) (lv' := [(7, .int (x_132)), (6, .ref q_52), (0, .ref x), (1, .int (a1)), (2, .int (a2)), (3, .int (a3)), (4, .int (a4)), (5, .int (a5))]) X.1 X.2.1 dX12_copy_101 hl (k := 0) rfl (by rw [ex_132]; rfl) (by decide) rfl (fun ls hl => ?_)
                    refine lv_goto (tgt := 75) X.1 X.2.1 dX12_copy_104 (by decide) ?_
                    have t_134 : At S_127 q_52 14 := tAt_sA eS_127 ha_q_52_L_64
                    have t_135 : At S_127 x 12 := tAt_sA eS_127 ha_x_L_65
                    have t_136 : pN S_127 q_52 = 8 := tN_sA eS_127 ik_66
                    exact ih_L_61 _ (by omega) _ _ _ _ (x_132) (x_132.toInt) (cc_67) (nn_68) rfl hw rfl (by omega) t_134 t_135 hO_130 t_136 (by omega) (by omega) (lv_sub hl [0, 1, 2, 3, 4, 5, 6, 7] rfl)
                have t_137 : At S_55 x 12 := by rw [eS_55]; exact At_sN t_6 hq_52
                exact L_61 _ _ _ _ _ (0) (0) (1) (8) rfl hw ti_0 (by omega) ha_59 t_137 hO_58 hn_60 (by omega) (by omega) (lv_sub hl [0, 1, 2, 3, 4, 5, 6, 7] rfl)
              · have z_b_138 := trivial
                have k_139 : a4_z > (v_45.toInt - a5_z) := z_nle hz_a4 z_48 c_49
                refine lv_iconst (v := 0) X.1 X.2.1 dX12_copy_64 (by decide) ?_
                rw [hQQ]
                exact ret_gz X hw hr hlocks (by show 0 ≤ Phc S + 1; omega) (by show 0 ≤ Phs S + 8; omega) (by omega) (by omega) (by decide) ⟨hO_4, Or.inr ⟨trivial, rfl⟩⟩ dX12_copy_65
          · have z_b_140 := trivial
            have k_141 : a4_z < 0 := z_nle ti_0 hz_a4 c_29
            refine lv_iconst (v := 0) X.1 X.2.1 dX12_copy_35 (by decide) ?_
            rw [hQQ]
            exact ret_gz X hw hr hlocks (by show 0 ≤ Phc S + 1; omega) (by show 0 ≤ Phs S + 8; omega) (by omega) (by omega) (by decide) ⟨hO_4, Or.inr ⟨trivial, rfl⟩⟩ dX12_copy_36
    · have z_b_142 := trivial
      refine lv_if_eq (tgt := 35) X.1 X.2.1 dX12_copy_18 (by decide) (fun c_143 => ?_) (fun c_143 => absurd c_143 (by decide))
      refine lv_iconst (v := 0) X.1 X.2.1 dX12_copy_35 (by decide) ?_
      rw [hQQ]
      exact ret_gz X hw hr hlocks (by show 0 ≤ Phc S + 1; omega) (by show 0 ≤ Phs S + 8; omega) (by omega) (by omega) (by decide) ⟨hO_4, Or.inr ⟨trivial, rfl⟩⟩ dX12_copy_36
  · have z_b_144 := trivial
    refine lv_if_eq (tgt := 35) X.1 X.2.1 dX12_copy_10 (by decide) (fun c_145 => ?_) (fun c_145 => absurd c_145 (by decide))
    refine lv_iconst (v := 0) X.1 X.2.1 dX12_copy_35 (by decide) ?_
    rw [hQQ]
    exact ret_gz X hw hr hlocks (by show 0 ≤ Phc S + 1; omega) (by show 0 ≤ Phs S + 8; omega) (by omega) (by omega) (by decide) ⟨hO_4, Or.inr ⟨trivial, rfl⟩⟩ dX12_copy_36
