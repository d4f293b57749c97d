/-! ===== a row of the class, as a list ===== -/
def rix (h n k : Nat) : Nat := if h + k < n then h + k else h + k - n
theorem rix_lt {h n k : Nat} (h1 : h < n) (h2 : k ≤ n) : rix h n k < n ∨ rix h n k = h := by
  unfold rix
  split <;> omega
theorem rix_ne {h n j k : Nat} (h1 : h < n) (h2 : j < k) (h3 : k < n) : rix h n j ≠ rix h n k := by
  unfold rix
  split <;> split <;> omega
theorem rix_0 {h n : Nat} (h1 : h < n) : rix h n 0 = h := by
  unfold rix
  rw [if_pos (by omega)]
  rfl
theorem rix_1 {h n k : Nat} (h1 : h < n) (h2 : k < n) : rix (rix h n 1) n k = rix h n (k + 1) := by
  unfold rix
  split <;> split <;> (try split) <;> omega
def rdn (h n : Nat) : Nat := if h = 0 then n - 1 else h - 1
theorem rix_d {h n k : Nat} (h1 : h < n) (h2 : k + 1 ≤ n) : rix (rdn h n) n (k + 1) = rix h n k := by
  unfold rix rdn
  split <;> split <;> (try split) <;> omega
theorem rdn_lt {h n : Nat} (h1 : h < n) : rdn h n < n := by
  unfold rdn
  split <;> omega
def RwL (f : Nat → Option Nat) (h n : Nat) (L : List Nat) : Prop := ∀ k, k < L.length → f (rix h n k) = L[k]?
theorem RwL_last {f : Nat → Option Nat} {h n c : Nat} {L : List Nat} (hh : h < n) (hl : L.length < n) (hr : RwL f h n L) : RwL (va_up f (rix h n L.length) (some c)) h n (L ++ [c]) := fun k hk => by
  rw [List.length_append] at hk
  have hk2 : k < L.length + 1 := hk
  unfold va_up
  by_cases e : k = L.length
  · subst e
    rw [if_pos rfl, List.getElem?_append_right (Nat.le_refl _), Nat.sub_self]
    rfl
  · rw [if_neg (rix_ne hh (by omega) hl), hr k (by omega), List.getElem?_append_left (by omega)]
theorem RwL_first {f : Nat → Option Nat} {h n c : Nat} {L : List Nat} (hh : h < n) (hl : L.length < n) (hr : RwL f h n L) : RwL (va_up f (rdn h n) (some c)) (rdn h n) n (c :: L) := fun k hk => by
  have hk2 : k < L.length + 1 := hk
  unfold va_up
  cases k with
  | zero => rw [rix_0 (rdn_lt hh), if_pos rfl]; rfl
  | succ k =>
    rw [rix_d hh (by omega)]
    by_cases e : rix h n k = rdn h n
    · exfalso
      have := rix_ne (rdn_lt hh) (show 0 < k + 1 by omega) (show k + 1 < n by omega)
      rw [rix_0 (rdn_lt hh), rix_d hh (by omega)] at this
      exact this e.symm
    · rw [if_neg e, hr k (by omega)]
      rfl
theorem RwL_tail {f : Nat → Option Nat} {h n c : Nat} {L : List Nat} (hh : h < n) (hl : L.length < n) (hr : RwL f h n (c :: L)) : RwL f (rix h n 1) n L := fun k hk => by
  rw [rix_1 hh (by omega), hr (k + 1) (by show k + 1 < L.length + 1; omega)]
  rfl
theorem RwL_head {f : Nat → Option Nat} {h n c : Nat} {L : List Nat} (hh : h < n) (hr : RwL f h n (c :: L)) : f h = some c := by
  have := hr 0 (Nat.zero_lt_succ _)
  rw [rix_0 hh] at this
  exact this
/-- while a cell is taken out: those from i up to j have moved -/
def RM5 (f : Nat → Option Nat) (h n : Nat) (L : List Nat) (i j : Nat) : Prop := ∀ k, k < L.length → f (rix h n k) = if i ≤ k ∧ k < j then L[k + 1]? else L[k]?
theorem RM5_0 {f : Nat → Option Nat} {h n i : Nat} {L : List Nat} (hr : RwL f h n L) : RM5 f h n L i i := fun k hk => by
  rw [if_neg (by omega)]
  exact hr k hk
theorem RM5_s {f : Nat → Option Nat} {h n i j : Nat} {L : List Nat} (hh : h < n) (hl : L.length ≤ n) (hi : i ≤ j) (hj : j + 1 < L.length) (hr : RM5 f h n L i j) : RM5 (va_up f (rix h n j) (f (rix h n (j + 1)))) h n L i (j + 1) := fun k hk => by
  unfold va_up
  by_cases e : k = j
  · subst e
    rw [if_pos rfl, if_pos (by omega), hr (k + 1) hj, if_neg (by omega)]
  · have e2 : rix h n k ≠ rix h n j := by
      rcases Nat.lt_or_ge k j with z | z
      · exact rix_ne hh z (by omega)
      · exact fun y => rix_ne hh (show j < k by omega) (by omega) y.symm
    rw [if_neg e2, hr k hk]
    by_cases e3 : i ≤ k ∧ k < j
    · rw [if_pos e3, if_pos (by omega)]
    · rw [if_neg e3, if_neg (by omega)]
theorem RM5_e {f : Nat → Option Nat} {h n i j : Nat} {L : List Nat} (hi : i < L.length) (hj : j + 1 = L.length) (hr : RM5 f h n L i j) : RwL f h n (L.eraseIdx i) := fun k hk => by
  rw [List.length_eraseIdx, if_pos hi] at hk
  rw [hr k (by omega), List.getElem?_eraseIdx]
  by_cases e : k < i
  · rw [if_neg (by omega), if_pos e]
  · rw [if_pos (by omega), if_neg e]
def capL (n : Nat) (L : List Nat) (c : Nat) : List Nat := if L.length < n then L ++ [c] else L
def capF (n : Nat) (L : List Nat) (c : Nat) : List Nat := if L.length < n then c :: L else L
def RowIs (S : PS) (R : Nat) (L : List Nat) (n : Nat) : Prop := ∃ q, pR S 501 R = some q ∧ pN S q = n ∧ (pI S 500 R).toInt = (L.length : Int) ∧ RwL (pB S q) (pI S 502 R).toInt.toNat n L
theorem RowIs_fr {M : List Nat} {S T : PS} {R n : Nat} {L : List Nat} (hG : GX S) (hR : At S R 5) (hF : Fr M S T) (hM : ([500, 501, 502, 10016] : List Nat).all (fun g => !M.contains g) = true) (h : RowIs S R L n) : RowIs T R L n := by
  obtain ⟨q, h1, h2, h3, h7⟩ := h
  have hq := cel_at hG hR h1
  refine ⟨q, hF.R' (allc hM (by decide)) hR h1, hF.N hq h2, ?_, ?_⟩
  · rw [hF.I' (g := 500) (allc hM (by decide)) hR rfl]; exact h3
  · rw [hF.I' (g := 502) (allc hM (by decide)) hR rfl, hF.B' (allc hM (by decide)) hq]; exact h7
theorem RowIs_sI {S T : PS} {R n g a : Nat} {v : Int32} {L : List Nat} (h : RowIs S R L n) (e : T = sI S g a v) (h5 : 500 ≠ g) (h6 : 502 ≠ g) : RowIs T R L n := by
  subst e
  obtain ⟨q, h1, h2, h3, h7⟩ := h
  exact ⟨q, h1, h2, by rw [pI_sI_nf h5]; exact h3, by rw [pI_sI_nf h6]; exact h7⟩
/-- what a row's own method leaves of every other row -/
def RowX (S T : PS) (x : Nat) : Prop := (∀ a, pR T 501 a = pR S 501 a) ∧ ∀ R, R ≠ x → pR S 501 R ≠ pR S 501 x → ∀ L n, RowIs S R L n → RowIs T R L n
theorem RowX_rf (S : PS) (x : Nat) : RowX S S x := ⟨fun _ => rfl, fun _ _ _ _ _ h => h⟩
theorem RowX_sI {S T U : PS} {x g : Nat} {v : Int32} (h : RowX S T x) (e : U = sI T g x v) : RowX S U x := by
  subst e
  refine ⟨h.1, fun R hR hq L n hL => ?_⟩
  obtain ⟨q, h1, h2, h3, h7⟩ := h.2 R hR hq L n hL
  exact ⟨q, h1, h2, by rw [pI_sI_ne hR]; exact h3, by rw [pI_sI_ne hR]; exact h7⟩
theorem RowX_sB {S T U : PS} {x q : Nat} {f : Nat → Option Nat} (h : RowX S T x) (hq : pR S 501 x = some q) (e : U = sB T q f) : RowX S U x := by
  subst e
  refine ⟨h.1, fun R hR hne L n hL => ?_⟩
  obtain ⟨q', h1, h2, h3, h7⟩ := h.2 R hR hne L n hL
  refine ⟨q', h1, h2, h3, ?_⟩
  have hqq : q' ≠ q := fun z => by
    subst z
    rw [h.1] at h1
    exact hne (h1.trans hq.symm)
  rw [show pB (sB T q f) q' = pB T q' from if_neg hqq]
  exact h7
def fvS (S : PS) (c : Nat) : Int32 := fcI (pI S 8 c) (pI S 2 c) (pI S 4 c)
def suL (f : Nat → Int32) (L : List Nat) : Int32 := L.foldl (fun a c => a + f c) 0
theorem suL_s {f : Nat → Int32} {L : List Nat} {k c : Nat} (h : L[k]? = some c) : suL f (L.take (k + 1)) = suL f (L.take k) + f c := by
  unfold suL
  rw [List.take_succ, h, List.foldl_append]
  rfl
def thN (f : Nat → Int) (L : List Nat) : Nat → Int × Int
  | 0 => (-1, 2147483647)
  | k + 1 => match L[k]? with
    | some c => if f c < (thN f L k).2 then ((k : Int), f c) else thN f L k
    | none => thN f L k
theorem thN_y {f : Nat → Int} {L : List Nat} {k c : Nat} (h : L[k]? = some c) (hf : f c < (thN f L k).2) : thN f L (k + 1) = ((k : Int), f c) := by
  show (match L[k]? with | some c => if f c < (thN f L k).2 then ((k : Int), f c) else thN f L k | none => thN f L k) = _
  rw [h]
  exact if_pos hf
theorem thN_n {f : Nat → Int} {L : List Nat} {k c : Nat} (h : L[k]? = some c) (hf : ¬ f c < (thN f L k).2) : thN f L (k + 1) = thN f L k := by
  show (match L[k]? with | some c => if f c < (thN f L k).2 then ((k : Int), f c) else thN f L k | none => thN f L k) = _
  rw [h]
  exact if_neg hf

set_option maxHeartbeats 4000000 in
set_option maxRecDepth 100000 in
theorem k_X5_cellOf5 (l : Launch) (G : va_G) (cy : Nat → ClassId) (κ : Nat → Nat) (S : PS) (sz : Nat) (x : Nat) (a1 : Int32) (a1_z : Int) (q : Nat) (n : Nat) (hG : GX S) (ha_x : At S x 5) (hz_a1 : a1.toInt = a1_z) (hp_0 : pR S 501 x = some q) (hp_1 : pN S q = n) (hp_2 : 0 ≤ a1_z ∧ a1_z ≤ (n : Int)) : Ci l yX5_cellOf wsX5_cellOf ({ frames := 1, cells := 0, slots := 0, locals := 48 }) G cy κ S sz [.ref x, .int (a1)] (fun (r : Int32) (S9 : PS) => S = S9 ∧ (0 ≤ r.toInt ∧ r.toInt < (n : Int) ∧ r.toInt = ((rix (pI S 502 x).toInt.toNat n a1_z.toNat : Nat) : Int))) := by
  refine ent_m (cc := cX5_cellOf) (maxL := 3) (ret := (some .int)) (by decide) rfl (Nat.le_of_ble_eq_true rfl) ?_
  intro p e s m below meth c ls X hr hlocks hin hw hl hsz
  subst hsz
  have X : Cx p c cX5_cellOf 3 s [.ref x, .int (a1)].toArray wsX5_cellOf RX5 m G cy κ (AS S s.heap.size) := X
  have hl : lv_has ls 3 [(0, .ref x), (1, .int (a1))] := hl
  have rg_a1 : (-2147483648) ≤ a1_z ∧ a1_z ≤ 2147483647 := by rw [← hz_a1]; exact ⟨z_lo _, z_hi _⟩
  have hrr := gRow_all hG ha_x hp_0 hp_1
  have haq := hrr.1
  have hnn := hrr.2.1
  refine lv_aload_n X.1 X.2.1 dX5_cellOf_0 rfl (lv_at hl 0 rfl) ?_
  obtain ⟨v_1, ev_1⟩ : ∃ v, pI S 502 x = v := ⟨_, rfl⟩
  have rg_2 := gRow_502 hG ha_x hp_0 hp_1; rw [ev_1] at rg_2
  have pz_3 : (pI S 502 x).toInt = v_1.toInt := by rw [ev_1]
  refine r_getI (g := 502) (x := v_1) X hw ha_x rfl 2 ev_1 (by decide) rfl inn_X5_cellOf_5 (by decide) (X.2.2.2.1 (.fieldLink RX5 31 "SilkMill$Row" "head" "I") (by decide +kernel)) rfl (gv_502 _ _) dX5_cellOf_1 ?_
  refine lv_iload_n X.1 X.2.1 dX5_cellOf_4 rfl (lv_at hl 1 rfl) ?_
  refine lv_iadd X.1 X.2.1 dX5_cellOf_5 ?_
  refine lv_topi (fun v_4 ev_4 => ?_)
  have z_5 : v_4.toInt = v_1.toInt + a1_z := z_add ev_4 rfl hz_a1 (by omega) (by omega)
  refine lv_istore_n (lv' := [(2, .int (v_4)), (0, .ref x), (1, .int (a1))]) X.1 X.2.1 dX5_cellOf_6 rfl hl (by decide) rfl (fun ls hl => ?_)
  refine lv_iload_n X.1 X.2.1 dX5_cellOf_7 rfl (lv_at hl 0 rfl) ?_
  refine lv_aload_n X.1 X.2.1 dX5_cellOf_8 rfl (lv_at hl 1 rfl) ?_
  refine r_getR (g := 501) X hw ha_x rfl 1 hp_0 (by decide) rfl inn_X5_cellOf_5 (by decide) (X.2.2.2.1 (.fieldLink RX5 17 "SilkMill$Row" "cells" "[LSilkMill$Cocoon;") (by decide +kernel)) rfl (gv_501 _ _) dX5_cellOf_9 ?_
  refine r_alen X hw haq rfl (by decide) rfl dX5_cellOf_12 ?_
  rw [hp_1]
  refine lv_topi (fun v_6 ev_6 => ?_)
  have z_7 : v_6.toInt = (n : Int) := z_len ev_6 (by omega)
  refine lv_icmp_ge (tgt := 20) X.1 X.2.1 dX5_cellOf_13 (by decide) (fun c_8 => ?_) (fun c_8 => ?_)
  · have z_b_9 := trivial
    have k_10 : v_4.toInt ≥ v_6.toInt := z_le rfl rfl c_8
    refine lv_iload_n X.1 X.2.1 dX5_cellOf_20 rfl (lv_at hl 0 rfl) ?_
    refine lv_aload_n X.1 X.2.1 dX5_cellOf_21 rfl (lv_at hl 1 rfl) ?_
    refine r_getR (g := 501) X hw ha_x rfl 1 hp_0 (by decide) rfl inn_X5_cellOf_5 (by decide) (X.2.2.2.1 (.fieldLink RX5 17 "SilkMill$Row" "cells" "[LSilkMill$Cocoon;") (by decide +kernel)) rfl (gv_501 _ _) dX5_cellOf_22 ?_
    refine r_alen X hw haq rfl (by decide) rfl dX5_cellOf_25 ?_
    rw [hp_1]
    refine lv_topi (fun v_11 ev_11 => ?_)
    have z_12 : v_11.toInt = (n : Int) := z_len ev_11 (by omega)
    refine lv_isub X.1 X.2.1 dX5_cellOf_26 ?_
    refine lv_topi (fun v_13 ev_13 => ?_)
    have z_14 : v_13.toInt = v_4.toInt - v_11.toInt := z_sub ev_13 rfl rfl (by omega) (by omega)
    have pz_15 : (pI S 502 x).toInt = v_1.toInt := (congrArg Int32.toInt ev_1).trans rfl
    exact ret_i X hw hr hlocks (Nat.le_of_ble_eq_true rfl) (Nat.le_of_ble_eq_true rfl) ⟨rfl, ⟨by omega, by omega, by unfold rix; first | (rw [if_pos (by omega)]; omega) | (rw [if_neg (by omega)]; omega)⟩⟩ dX5_cellOf_27
  · have z_b_16 := trivial
    have k_17 : v_4.toInt < v_6.toInt := z_nle rfl rfl c_8
    refine lv_iload_n X.1 X.2.1 dX5_cellOf_16 rfl (lv_at hl 0 rfl) ?_
    refine lv_goto (tgt := 27) X.1 X.2.1 dX5_cellOf_17 (by decide) ?_
    have pz_18 : (pI S 502 x).toInt = v_1.toInt := (congrArg Int32.toInt ev_1).trans rfl
    exact ret_i X hw hr hlocks (Nat.le_of_ble_eq_true rfl) (Nat.le_of_ble_eq_true rfl) ⟨rfl, ⟨by omega, by omega, by unfold rix; first | (rw [if_pos (by omega)]; omega) | (rw [if_neg (by omega)]; omega)⟩⟩ dX5_cellOf_27
set_option maxHeartbeats 4000000 in
set_option maxRecDepth 100000 in
theorem k_X5_at5 (l : Launch) (G : va_G) (cy : Nat → ClassId) (κ : Nat → Nat) (S : PS) (sz : Nat) (x : Nat) (a1 : Int32) (a1_z : Int) (L : List Nat) (n : Nat) (hG : GX S) (ha_x : At S x 5) (hz_a1 : a1.toInt = a1_z) (hp_0 : RowIs S x L n) : Cq l yX5_at wsX5_at ({ frames := 2, cells := 0, slots := 0, locals := 96 }) G cy κ S sz [.ref x, .int (a1)] (fun (r : Option Nat) (S9 : PS) => S = S9 ∧ ((∀ q, r = some q → At S9 q 0 ∧ 0 ≤ a1_z ∧ a1_z < (L.length : Int) ∧ L[a1_z.toNat]? = some q) ∧ (r = none → ¬ (0 ≤ a1_z ∧ a1_z < (L.length : Int))))) := by
  refine ent_m (cc := cX5_at) (maxL := 2) (ret := (some (.object "SilkMill$Cocoon"))) (by decide) rfl (Nat.le_of_ble_eq_true rfl) ?_
  intro p e s m below meth c ls X hr hlocks hin hw hl hsz
  subst hsz
  have X : Cx p c cX5_at 2 s [.ref x, .int (a1)].toArray wsX5_at RX5 m G cy κ (AS S s.heap.size) := X
  have hl : lv_has ls 2 [(0, .ref x), (1, .int (a1))] := hl
  have rg_a1 : (-2147483648) ≤ a1_z ∧ a1_z ≤ 2147483647 := by rw [← hz_a1]; exact ⟨z_lo _, z_hi _⟩
  have hp0 := hp_0
  obtain ⟨q, hrq, hrn, hrs, hrl⟩ := hp0
  have hrr := gRow_all hG ha_x hrq hrn
  have haq := hrr.1
  have hnn := hrr.2.1
  have hhd := hrr.2.2
  obtain ⟨v_1, ev_1⟩ : ∃ v, pI S 500 x = v := ⟨_, rfl⟩
  have rg_2 := gRow_500 hG ha_x hrq hrn; rw [ev_1] at rg_2
  have pz_3 : (pI S 500 x).toInt = v_1.toInt := by rw [ev_1]
  have pz_4 : (pI S 500 x).toInt = v_1.toInt := (congrArg Int32.toInt ev_1).trans rfl
  obtain ⟨v_5, ev_5⟩ : ∃ v, pI S 502 x = v := ⟨_, rfl⟩
  have rg_6 := gRow_502 hG ha_x hrq hrn; rw [ev_5] at rg_6
  have pz_7 : (pI S 502 x).toInt = v_5.toInt := by rw [ev_5]
  have pz_8 : (pI S 502 x).toInt = v_5.toInt := (congrArg Int32.toInt ev_5).trans rfl
  refine lv_iload_n X.1 X.2.1 dX5_at_0 rfl (lv_at hl 1 rfl) ?_
  refine lv_if_lt (tgt := 12) X.1 X.2.1 dX5_at_1 (by decide) (fun c_9 => ?_) (fun c_9 => ?_)
  · have z_b_10 := trivial
    have k_11 : a1_z < 0 := z_lt hz_a1 ti_0 c_9
    refine lv_null X.1 X.2.1 dX5_at_12 ?_
    refine lv_goto (tgt := 26) X.1 X.2.1 dX5_at_13 (by decide) ?_
    exact ret_q none rfl X hw hr hlocks (Nat.le_of_ble_eq_true rfl) (Nat.le_of_ble_eq_true rfl) ⟨rfl, ⟨fun q h => (by cases h), fun _ hin => by omega⟩⟩ dX5_at_26
  · have z_b_12 := trivial
    have k_13 : a1_z ≥ 0 := z_nlt hz_a1 ti_0 c_9
    refine lv_iload_n X.1 X.2.1 dX5_at_4 rfl (lv_at hl 1 rfl) ?_
    refine lv_aload_n X.1 X.2.1 dX5_at_5 rfl (lv_at hl 0 rfl) ?_
    refine r_getI (g := 500) (x := v_1) X hw ha_x rfl 0 ev_1 (by decide) rfl inn_X5_at_5 (by decide) (X.2.2.2.1 (.fieldLink RX5 23 "SilkMill$Row" "size" "I") (by decide +kernel)) rfl (gv_500 _ _) dX5_at_6 ?_
    refine lv_icmp_lt (tgt := 16) X.1 X.2.1 dX5_at_9 (by decide) (fun c_14 => ?_) (fun c_14 => ?_)
    · have z_b_15 := trivial
      have k_16 : a1_z < v_1.toInt := z_lt hz_a1 rfl c_14
      refine lv_aload_n X.1 X.2.1 dX5_at_16 rfl (lv_at hl 0 rfl) ?_
      refine r_getR (g := 501) X hw ha_x rfl 1 hrq (by decide) rfl inn_X5_at_5 (by decide) (X.2.2.2.1 (.fieldLink RX5 17 "SilkMill$Row" "cells" "[LSilkMill$Cocoon;") (by decide +kernel)) rfl (gv_501 _ _) dX5_at_17 ?_
      refine lv_aload_n X.1 X.2.1 dX5_at_20 rfl (lv_at hl 0 rfl) ?_
      refine lv_iload_n X.1 X.2.1 dX5_at_21 rfl (lv_at hl 1 rfl) ?_
      refine k_i (rm := { frames := 1, cells := 0, slots := 0, locals := 48 }) (av := [.ref x, .int (a1)]) X hw (va_runV (As := [.int (a1)]) (rest := [.ref q]) (cfix X) (k_X5_cellOf5 l G cy κ S _ x (a1) (a1_z) q n hG ha_x hz_a1 hrq hrn (by omega)) (cwV 1 X.2.2.2.1 gX5_at_X5_cellOf rfl rfl rfl (by decide +kernel) ⟨Nat.le_of_ble_eq_true rfl, Nat.le_of_ble_eq_true rfl⟩) (pre_V X hw _ ha_x rfl (by decide) rfl) rfl rfl hl.1 rfl (lv_room (Nat.le_of_ble_eq_true rfl)) dX5_at_22 ⟨Nat.le_of_ble_eq_true rfl, Nat.le_of_ble_eq_true rfl⟩) 0 0 (Nat.le_of_ble_eq_true rfl) (Nat.le_of_ble_eq_true rfl) (fun rr_17 S_18 H locs hp hw hfr hnw => ?_)
      obtain ⟨e2, hp⟩ := hp
      subst e2
      obtain ⟨ce_19, ce_20, ce_21⟩ := hp
      refine r_aald X hw haq rfl (by decide) rfl (by rw [hrn]; exact z_ix rfl (by omega) (by omega)) dX5_at_25 ?_
      rcases ho_22 : pB S q (Int32.toNatClampNeg (rr_17)) with _ | q_23
      · refine W.eq (g2 := F0 m 26 ls (.null :: [])) rfl ?_
        exact ret_q none rfl X hw hr hlocks (Nat.le_of_ble_eq_true rfl) (Nat.le_of_ble_eq_true rfl) ⟨rfl, ⟨fun q h => (by cases h), fun _ hin => (by have e := hrl a1_z.toNat (by omega); rw [(show rix (pI S 502 x).toInt.toNat n a1_z.toNat = Int32.toNatClampNeg rr_17 from (by rw [show a1_z.toNat = (a1_z).toNat by omega]; have hzn := z_nc (x := rr_17) rfl (by omega); omega)), ho_22] at e; have e2 := List.getElem?_eq_none_iff.mp e.symm; omega)⟩⟩ dX5_at_26
      · refine W.eq (g2 := F0 m 26 ls (.ref q_23 :: [])) rfl ?_
        have ha_24 : At S q_23 0 := gEl_16 hG haq _ _ ho_22
        exact ret_q (some q_23) rfl X hw hr hlocks (Nat.le_of_ble_eq_true rfl) (Nat.le_of_ble_eq_true rfl) ⟨rfl, ⟨fun q h => (by cases h; exact ⟨ha_24, by omega, by omega, by rw [← hrl a1_z.toNat (by omega), (show rix (pI S 502 x).toInt.toNat n a1_z.toNat = Int32.toNatClampNeg rr_17 from (by rw [show a1_z.toNat = (a1_z).toNat by omega]; have hzn := z_nc (x := rr_17) rfl (by omega); omega))]; exact ho_22⟩), fun h => (by cases h)⟩⟩ dX5_at_26
    · have z_b_25 := trivial
      have k_26 : a1_z ≥ v_1.toInt := z_nlt hz_a1 rfl c_14
      refine lv_null X.1 X.2.1 dX5_at_12 ?_
      refine lv_goto (tgt := 26) X.1 X.2.1 dX5_at_13 (by decide) ?_
      exact ret_q none rfl X hw hr hlocks (Nat.le_of_ble_eq_true rfl) (Nat.le_of_ble_eq_true rfl) ⟨rfl, ⟨fun q h => (by cases h), fun _ hin => by omega⟩⟩ dX5_at_26
set_option maxHeartbeats 4000000 in
set_option maxRecDepth 100000 in
theorem k_X5_addLast5 (l : Launch) (G : va_G) (cy : Nat → ClassId) (κ : Nat → Nat) (S : PS) (sz : Nat) (x : Nat) (c1 : Nat) (L : List Nat) (n : Nat) (hG : GX S) (ha_x : At S x 5) (ha_c1 : At S c1 0) (hp_0 : RowIs S x L n) : Cv l yX5_addLast wsX5_addLast ({ frames := 2, cells := 0, slots := 0, locals := 96 }) G cy κ S sz [.ref x, .ref c1] (fun (S9 : PS) => Ok eRW S S9 ∧ (RowX S S9 x ∧ RowIs S9 x (capL n L c1) n)) := by
  refine ent_m (cc := cX5_addLast) (maxL := 2) (ret := none) (by decide) rfl (Nat.le_of_ble_eq_true rfl) ?_
  intro p e s m below meth c ls X hr hlocks hin hw hl hsz
  subst hsz
  have X : Cx p c cX5_addLast 2 s [.ref x, .ref c1].toArray wsX5_addLast RX5 m G cy κ (AS S s.heap.size) := X
  have hl : lv_has ls 2 [(0, .ref x), (1, .ref c1)] := hl
  have hO : Ok eRW S S := Ok.rf hG
  have hp0 := hp_0
  obtain ⟨q, hrq, hrn, hrs, hrl⟩ := hp0
  have hrr := gRow_all hG ha_x hrq hrn
  have haq := hrr.1
  have hnn := hrr.2.1
  have hhd := hrr.2.2
  obtain ⟨v_1, ev_1⟩ : ∃ v, pI S 500 x = v := ⟨_, rfl⟩
  have rg_2 := gRow_500 hO.1 ha_x hrq hrn; rw [ev_1] at rg_2
  have pz_3 : (pI S 500 x).toInt = v_1.toInt := by rw [ev_1]
  have pz_4 : (pI S 500 x).toInt = v_1.toInt := (congrArg Int32.toInt ev_1).trans rfl
  obtain ⟨v_5, ev_5⟩ : ∃ v, pI S 502 x = v := ⟨_, rfl⟩
  have rg_6 := gRow_502 hO.1 ha_x hrq hrn; rw [ev_5] at rg_6
  have pz_7 : (pI S 502 x).toInt = v_5.toInt := by rw [ev_5]
  have pz_8 : (pI S 502 x).toInt = v_5.toInt := (congrArg Int32.toInt ev_5).trans rfl
  refine lv_aload_n X.1 X.2.1 dX5_addLast_0 rfl (lv_at hl 0 rfl) ?_
  refine r_getI (g := 500) (x := v_1) X hw ha_x rfl 0 ev_1 (by decide) rfl inn_X5_addLast_5 (by decide) (X.2.2.2.1 (.fieldLink RX5 23 "SilkMill$Row" "size" "I") (by decide +kernel)) rfl (gv_500 _ _) dX5_addLast_1 ?_
  refine lv_aload_n X.1 X.2.1 dX5_addLast_4 rfl (lv_at hl 0 rfl) ?_
  refine r_getR (g := 501) X hw ha_x rfl 1 hrq (by decide) rfl inn_X5_addLast_5 (by decide) (X.2.2.2.1 (.fieldLink RX5 17 "SilkMill$Row" "cells" "[LSilkMill$Cocoon;") (by decide +kernel)) rfl (gv_501 _ _) dX5_addLast_5 ?_
  refine r_alen X hw haq rfl (by decide) rfl dX5_addLast_8 ?_
  rw [hrn]
  refine lv_topi (fun v_9 ev_9 => ?_)
  have z_10 : v_9.toInt = (n : Int) := z_len ev_9 (by omega)
  refine lv_icmp_ge (tgt := 36) X.1 X.2.1 dX5_addLast_9 (by decide) (fun c_11 => ?_) (fun c_11 => ?_)
  · have z_b_12 := trivial
    have k_13 : v_1.toInt ≥ v_9.toInt := z_le rfl rfl c_11
    exact ret_v X hw hr hlocks (Nat.le_of_ble_eq_true rfl) (Nat.le_of_ble_eq_true rfl) ⟨hO, ⟨(RowX_rf S x), by unfold capL; rw [if_neg (by omega)]; exact hp_0⟩⟩ dX5_addLast_36
  · have z_b_14 := trivial
    have k_15 : v_1.toInt < v_9.toInt := z_nle rfl rfl c_11
    refine lv_aload_n X.1 X.2.1 dX5_addLast_12 rfl (lv_at hl 0 rfl) ?_
    refine r_getR (g := 501) X hw ha_x rfl 1 hrq (by decide) rfl inn_X5_addLast_5 (by decide) (X.2.2.2.1 (.fieldLink RX5 17 "SilkMill$Row" "cells" "[LSilkMill$Cocoon;") (by decide +kernel)) rfl (gv_501 _ _) dX5_addLast_13 ?_
    refine lv_aload_n X.1 X.2.1 dX5_addLast_16 rfl (lv_at hl 0 rfl) ?_
    refine lv_aload_n X.1 X.2.1 dX5_addLast_17 rfl (lv_at hl 0 rfl) ?_
    refine r_getI (g := 500) (x := v_1) X hw ha_x rfl 0 ev_1 (by decide) rfl inn_X5_addLast_5 (by decide) (X.2.2.2.1 (.fieldLink RX5 23 "SilkMill$Row" "size" "I") (by decide +kernel)) rfl (gv_500 _ _) dX5_addLast_18 ?_
    refine k_i (rm := { frames := 1, cells := 0, slots := 0, locals := 48 }) (av := [.ref x, .int (v_1)]) X hw (va_runV (As := [.int (v_1)]) (rest := [.ref q]) (cfix X) (k_X5_cellOf5 l G cy κ S _ x (v_1) (v_1.toInt) q n hO.1 ha_x rfl hrq hrn (by omega)) (cwV 1 X.2.2.2.1 gX5_addLast_X5_cellOf rfl rfl rfl (by decide +kernel) ⟨Nat.le_of_ble_eq_true rfl, Nat.le_of_ble_eq_true rfl⟩) (pre_V X hw _ ha_x rfl (by decide) rfl) rfl rfl hl.1 rfl (lv_room (Nat.le_of_ble_eq_true rfl)) dX5_addLast_21 ⟨Nat.le_of_ble_eq_true rfl, Nat.le_of_ble_eq_true rfl⟩) 0 0 (Nat.le_of_ble_eq_true rfl) (Nat.le_of_ble_eq_true rfl) (fun rr_16 S_17 H locs hp hw hfr hnw => ?_)
    obtain ⟨e2, hp⟩ := hp
    subst e2
    obtain ⟨ce_18, ce_19, ce_20⟩ := hp
    refine lv_aload_n X.1 X.2.1 dX5_addLast_24 rfl (lv_at hl 1 rfl) ?_
    refine r_aast X hw haq rfl ha_c1 rfl (by decide) (by decide) rfl rfl (by rw [hrn]; exact z_ix rfl (by omega) (by omega)) dX5_addLast_25 (fun H locs hw => ?_)
    obtain ⟨S_21, eS_21⟩ : ∃ T, T = sB S q (va_up (pB S q) (Int32.toNatClampNeg (rr_16)) (some c1)) := ⟨_, rfl⟩
    rw [← eS_21] at hw
    have hO_22 : Ok eRW S S_21 := hO.sB eS_21 haq (by decide +kernel) (uB_16 hO.1 haq (fun q hq => by cases hq; exact ha_c1))
    refine lv_aload_n X.1 X.2.1 dX5_addLast_26 rfl (lv_at hl 0 rfl) ?_
    refine lv_dup X.1 X.2.1 dX5_addLast_27 rfl ?_
    have t_23 : At S_21 x 5 := tAt_sB eS_21 ha_x
    have t_24 : pI S_21 500 x = v_1 := tI_sB eS_21 ev_1
    refine r_getI (g := 500) (x := v_1) X hw t_23 rfl 0 t_24 (by decide) rfl inn_X5_addLast_5 (by decide) (X.2.2.2.1 (.fieldLink RX5 23 "SilkMill$Row" "size" "I") (by decide +kernel)) rfl (gv_500 _ _) dX5_addLast_28 ?_
    refine lv_iconst (v := 1) X.1 X.2.1 dX5_addLast_31 (by decide) ?_
    refine lv_iadd X.1 X.2.1 dX5_addLast_32 ?_
    refine lv_topi (fun v_25 ev_25 => ?_)
    have z_26 : v_25.toInt = v_1.toInt + 1 := z_add ev_25 rfl ti_1 (by omega) (by omega)
    have t_27 : pR S_21 501 x = some q := tR_sB eS_21 hrq
    have t_28 : pN S_21 q = n := tN_sB eS_21 hrn
    refine r_putI (v := v_25) X hw t_23 rfl 0 500 tyX5 (by decide) rfl inn_X5_addLast_5 tyX5_ok nmX5 (by decide) (X.2.2.2.1 (.fieldLink RX5 23 "SilkMill$Row" "size" "I") (by decide +kernel)) rfl (Or.inl rfl) rfl rfl (Nat.le_of_ble_eq_true rfl) (st_500 _ _) dX5_addLast_33 (fun H locs hw => ?_)
    obtain ⟨S_29, eS_29⟩ : ∃ T, T = sI S_21 500 x (v_25) := ⟨_, rfl⟩
    rw [← eS_29] at hw
    have hO_30 : Ok eRW S S_29 := hO_22.sI eS_29 (by decide +kernel) (uI_5_500 hO_22.1 t_23 t_27 t_28 (by omega) (by omega))
    have h_31 : pI S_29 500 x = v_25 := tI_sIs eS_29
    have rx_32 : RowX S S_21 x := RowX_sB (RowX_rf S x) hrq eS_21
    have rx_33 : RowX S S_29 x := RowX_sI rx_32 eS_29
    have t_34 : pR S_29 501 x = some q := tR_sI eS_29 t_27
    have t_35 : pN S_29 q = n := tN_sI eS_29 t_28
    clear t_28
    have t_36 : pI S_21 502 x = v_5 := tI_sB eS_21 ev_5
    have t_37 : pI S_29 502 x = v_5 := tI_sI eS_29 rfl t_36
    have bb_39 : pB S_29 q = pB S_21 q := by rw [eS_29]; rfl
    have eb_38 : pB S_29 q = va_up (pB S q) (Int32.toNatClampNeg rr_16) (some c1) := bb_39.trans (by rw [eS_21]; exact if_pos rfl)
    exact ret_v X hw hr hlocks (Nat.le_of_ble_eq_true rfl) (Nat.le_of_ble_eq_true rfl) ⟨hO_30, ⟨rx_33, by unfold capL; rw [if_pos (by omega)]; exact ⟨q, t_34, t_35, by rw [List.length_append, h_31]; show _ = ((L.length + 1 : Nat) : Int); omega, by rw [eb_38, show (pI S_29 502 x).toInt.toNat = (pI S 502 x).toInt.toNat from by rw [t_37]; omega, ← (show rix (pI S 502 x).toInt.toNat n L.length = Int32.toNatClampNeg rr_16 from (by rw [show L.length = (v_1.toInt).toNat by omega]; have hzn := z_nc (x := rr_16) rfl (by omega); omega))]; exact RwL_last (by omega) (by omega) hrl⟩⟩⟩ dX5_addLast_36
set_option maxHeartbeats 4000000 in
set_option maxRecDepth 100000 in
theorem k_X5_addFirst5 (l : Launch) (G : va_G) (cy : Nat → ClassId) (κ : Nat → Nat) (S : PS) (sz : Nat) (x : Nat) (c1 : Nat) (L : List Nat) (n : Nat) (hG : GX S) (ha_x : At S x 5) (ha_c1 : At S c1 0) (hp_0 : RowIs S x L n) : Cv l yX5_addFirst wsX5_addFirst ({ frames := 2, cells := 0, slots := 0, locals := 96 }) G cy κ S sz [.ref x, .ref c1] (fun (S9 : PS) => Ok eRW S S9 ∧ (RowX S S9 x ∧ RowIs S9 x (capF n L c1) n)) := by
  refine ent_m (cc := cX5_addFirst) (maxL := 2) (ret := none) (by decide) rfl (Nat.le_of_ble_eq_true rfl) ?_
  intro p e s m below meth c ls X hr hlocks hin hw hl hsz
  subst hsz
  have X : Cx p c cX5_addFirst 2 s [.ref x, .ref c1].toArray wsX5_addFirst RX5 m G cy κ (AS S s.heap.size) := X
  have hl : lv_has ls 2 [(0, .ref x), (1, .ref c1)] := hl
  have hO : Ok eRW S S := Ok.rf hG
  have hp0 := hp_0
  obtain ⟨q, hrq, hrn, hrs, hrl⟩ := hp0
  have hrr := gRow_all hG ha_x hrq hrn
  have haq := hrr.1
  have hnn := hrr.2.1
  have hhd := hrr.2.2
  obtain ⟨v_1, ev_1⟩ : ∃ v, pI S 500 x = v := ⟨_, rfl⟩
  have rg_2 := gRow_500 hO.1 ha_x hrq hrn; rw [ev_1] at rg_2
  have pz_3 : (pI S 500 x).toInt = v_1.toInt := by rw [ev_1]
  have pz_4 : (pI S 500 x).toInt = v_1.toInt := (congrArg Int32.toInt ev_1).trans rfl
  obtain ⟨v_5, ev_5⟩ : ∃ v, pI S 502 x = v := ⟨_, rfl⟩
  have rg_6 := gRow_502 hO.1 ha_x hrq hrn; rw [ev_5] at rg_6
  have pz_7 : (pI S 502 x).toInt = v_5.toInt := by rw [ev_5]
  have pz_8 : (pI S 502 x).toInt = v_5.toInt := (congrArg Int32.toInt ev_5).trans rfl
  refine lv_aload_n X.1 X.2.1 dX5_addFirst_0 rfl (lv_at hl 0 rfl) ?_
  refine r_getI (g := 500) (x := v_1) X hw ha_x rfl 0 ev_1 (by decide) rfl inn_X5_addFirst_5 (by decide) (X.2.2.2.1 (.fieldLink RX5 23 "SilkMill$Row" "size" "I") (by decide +kernel)) rfl (gv_500 _ _) dX5_addFirst_1 ?_
  refine lv_aload_n X.1 X.2.1 dX5_addFirst_4 rfl (lv_at hl 0 rfl) ?_
  refine r_getR (g := 501) X hw ha_x rfl 1 hrq (by decide) rfl inn_X5_addFirst_5 (by decide) (X.2.2.2.1 (.fieldLink RX5 17 "SilkMill$Row" "cells" "[LSilkMill$Cocoon;") (by decide +kernel)) rfl (gv_501 _ _) dX5_addFirst_5 ?_
  refine r_alen X hw haq rfl (by decide) rfl dX5_addFirst_8 ?_
  rw [hrn]
  refine lv_topi (fun v_9 ev_9 => ?_)
  have z_10 : v_9.toInt = (n : Int) := z_len ev_9 (by omega)
  refine lv_icmp_ge (tgt := 59) X.1 X.2.1 dX5_addFirst_9 (by decide) (fun c_11 => ?_) (fun c_11 => ?_)
  · have z_b_12 := trivial
    have k_13 : v_1.toInt ≥ v_9.toInt := z_le rfl rfl c_11
    exact ret_v X hw hr hlocks (Nat.le_of_ble_eq_true rfl) (Nat.le_of_ble_eq_true rfl) ⟨hO, ⟨(RowX_rf S x), by unfold capF; rw [if_neg (by omega)]; exact hp_0⟩⟩ dX5_addFirst_59
  · have z_b_14 := trivial
    have k_15 : v_1.toInt < v_9.toInt := z_nle rfl rfl c_11
    refine lv_aload_n X.1 X.2.1 dX5_addFirst_12 rfl (lv_at hl 0 rfl) ?_
    refine lv_aload_n X.1 X.2.1 dX5_addFirst_13 rfl (lv_at hl 0 rfl) ?_
    refine r_getI (g := 502) (x := v_5) X hw ha_x rfl 2 ev_5 (by decide) rfl inn_X5_addFirst_5 (by decide) (X.2.2.2.1 (.fieldLink RX5 31 "SilkMill$Row" "head" "I") (by decide +kernel)) rfl (gv_502 _ _) dX5_addFirst_14 ?_
    refine lv_if_ne (tgt := 30) X.1 X.2.1 dX5_addFirst_17 (by decide) (fun c_16 => ?_) (fun c_16 => ?_)
    · have z_b_17 := trivial
      have k_18 : v_5.toInt ≠ 0 := z_ne rfl ti_0 c_16
      refine lv_aload_n X.1 X.2.1 dX5_addFirst_30 rfl (lv_at hl 0 rfl) ?_
      refine r_getI (g := 502) (x := v_5) X hw ha_x rfl 2 ev_5 (by decide) rfl inn_X5_addFirst_5 (by decide) (X.2.2.2.1 (.fieldLink RX5 31 "SilkMill$Row" "head" "I") (by decide +kernel)) rfl (gv_502 _ _) dX5_addFirst_31 ?_
      refine lv_iconst (v := 1) X.1 X.2.1 dX5_addFirst_34 (by decide) ?_
      refine lv_isub X.1 X.2.1 dX5_addFirst_35 ?_
      refine lv_topi (fun v_19 ev_19 => ?_)
      have z_20 : v_19.toInt = v_5.toInt - 1 := z_sub ev_19 rfl ti_1 (by omega) (by omega)
      refine r_putI (v := v_19) X hw ha_x rfl 2 502 tyX5 (by decide) rfl inn_X5_addFirst_5 tyX5_ok nmX5 (by decide) (X.2.2.2.1 (.fieldLink RX5 31 "SilkMill$Row" "head" "I") (by decide +kernel)) rfl (Or.inl rfl) rfl rfl (Nat.le_of_ble_eq_true rfl) (st_502 _ _) dX5_addFirst_36 (fun H locs hw => ?_)
      obtain ⟨S_21, eS_21⟩ : ∃ T, T = sI S 502 x (v_19) := ⟨_, rfl⟩
      rw [← eS_21] at hw
      have hO_22 : Ok eRW S S_21 := hO.sI eS_21 (by decide +kernel) (uI_5_502 hO.1 ha_x hrq hrn (by omega) (by omega))
      have h_23 : pI S_21 502 x = v_19 := tI_sIs eS_21
      refine lv_aload_n X.1 X.2.1 dX5_addFirst_39 rfl (lv_at hl 0 rfl) ?_
      have t_24 : At S_21 x 5 := tAt_sI eS_21 ha_x
      have t_25 : pR S_21 501 x = some q := tR_sI eS_21 hrq
      refine r_getR (g := 501) X hw t_24 rfl 1 t_25 (by decide) rfl inn_X5_addFirst_5 (by decide) (X.2.2.2.1 (.fieldLink RX5 17 "SilkMill$Row" "cells" "[LSilkMill$Cocoon;") (by decide +kernel)) rfl (gv_501 _ _) dX5_addFirst_40 ?_
      refine lv_aload_n X.1 X.2.1 dX5_addFirst_43 rfl (lv_at hl 0 rfl) ?_
      refine r_getI (g := 502) (x := v_19) X hw t_24 rfl 2 h_23 (by decide) rfl inn_X5_addFirst_5 (by decide) (X.2.2.2.1 (.fieldLink RX5 31 "SilkMill$Row" "head" "I") (by decide +kernel)) rfl (gv_502 _ _) dX5_addFirst_44 ?_
      refine lv_aload_n X.1 X.2.1 dX5_addFirst_47 rfl (lv_at hl 1 rfl) ?_
      have t_26 : At S_21 q 16 := tAt_sI eS_21 haq
      have t_27 : pN S_21 q = n := tN_sI eS_21 hrn
      have t_28 : At S_21 c1 0 := tAt_sI eS_21 ha_c1
      refine r_aast X hw t_26 rfl t_28 rfl (by decide) (by decide) rfl rfl (by rw [t_27]; exact z_ix rfl (by omega) (by omega)) dX5_addFirst_48 (fun H locs hw => ?_)
      obtain ⟨S_29, eS_29⟩ : ∃ T, T = sB S_21 q (va_up (pB S_21 q) (Int32.toNatClampNeg (v_19)) (some c1)) := ⟨_, rfl⟩
      rw [← eS_29] at hw
      have hO_30 : Ok eRW S S_29 := hO_22.sB eS_29 t_26 (by decide +kernel) (uB_16 hO_22.1 t_26 (fun q hq => by cases hq; exact t_28))
      refine lv_aload_n X.1 X.2.1 dX5_addFirst_49 rfl (lv_at hl 0 rfl) ?_
      refine lv_dup X.1 X.2.1 dX5_addFirst_50 rfl ?_
      have t_31 : At S_29 x 5 := tAt_sB eS_29 t_24
      have t_32 : pI S_21 500 x = v_1 := tI_sI eS_21 rfl ev_1
      have t_33 : pI S_29 500 x = v_1 := tI_sB eS_29 t_32
      refine r_getI (g := 500) (x := v_1) X hw t_31 rfl 0 t_33 (by decide) rfl inn_X5_addFirst_5 (by decide) (X.2.2.2.1 (.fieldLink RX5 23 "SilkMill$Row" "size" "I") (by decide +kernel)) rfl (gv_500 _ _) dX5_addFirst_51 ?_
      refine lv_iconst (v := 1) X.1 X.2.1 dX5_addFirst_54 (by decide) ?_
      refine lv_iadd X.1 X.2.1 dX5_addFirst_55 ?_
      refine lv_topi (fun v_34 ev_34 => ?_)
      have z_35 : v_34.toInt = v_1.toInt + 1 := z_add ev_34 rfl ti_1 (by omega) (by omega)
      have t_36 : pR S_29 501 x = some q := tR_sB eS_29 t_25
      have t_37 : pN S_29 q = n := tN_sB eS_29 t_27
      clear t_27
      refine r_putI (v := v_34) X hw t_31 rfl 0 500 tyX5 (by decide) rfl inn_X5_addFirst_5 tyX5_ok nmX5 (by decide) (X.2.2.2.1 (.fieldLink RX5 23 "SilkMill$Row" "size" "I") (by decide +kernel)) rfl (Or.inl rfl) rfl rfl (Nat.le_of_ble_eq_true rfl) (st_500 _ _) dX5_addFirst_56 (fun H locs hw => ?_)
      obtain ⟨S_38, eS_38⟩ : ∃ T, T = sI S_29 500 x (v_34) := ⟨_, rfl⟩
      rw [← eS_38] at hw
      have hO_39 : Ok eRW S S_38 := hO_30.sI eS_38 (by decide +kernel) (uI_5_500 hO_30.1 t_31 t_36 t_37 (by omega) (by omega))
      have h_40 : pI S_38 500 x = v_34 := tI_sIs eS_38
      have rx_41 : RowX S S_21 x := RowX_sI (RowX_rf S x) eS_21
      have rx_42 : RowX S S_29 x := RowX_sB rx_41 hrq eS_29
      have rx_43 : RowX S S_38 x := RowX_sI rx_42 eS_38
      have t_44 : pR S_38 501 x = some q := tR_sI eS_38 t_36
      have t_45 : pN S_38 q = n := tN_sI eS_38 t_37
      clear t_37
      have t_46 : pI S_29 502 x = v_19 := tI_sB eS_29 h_23
      have t_47 : pI S_38 502 x = v_19 := tI_sI eS_38 rfl t_46
      have bb_49 : pB S_21 q = pB S q := by rw [eS_21]; rfl
      have bb_50 : pB S_38 q = pB S_29 q := by rw [eS_38]; rfl
      have bb_51 : pB S_21 q = pB S q := by rw [eS_21]; rfl
      have eb_48 : pB S_38 q = va_up (pB S q) (Int32.toNatClampNeg v_19) (some c1) := bb_50.trans (by rw [eS_29, bb_51]; exact if_pos rfl)
      have hd_52 : (pI S_38 502 x).toInt.toNat = rdn (pI S 502 x).toInt.toNat n := by rw [t_47]; unfold rdn; first | (rw [if_pos (by omega)]; omega) | (rw [if_neg (by omega)]; omega)
      exact ret_v X hw hr hlocks (Nat.le_of_ble_eq_true rfl) (Nat.le_of_ble_eq_true rfl) ⟨hO_39, ⟨rx_43, by unfold capF; rw [if_pos (by omega)]; exact ⟨q, t_44, t_45, by show _ = ((L.length + 1 : Nat) : Int); rw [h_40]; omega, by rw [eb_48, hd_52, show Int32.toNatClampNeg v_19 = rdn (pI S 502 x).toInt.toNat n from (by have hzn := z_nc (x := v_19) rfl (by omega); rw [← hd_52, t_47]; omega)]; exact RwL_first (by omega) (by omega) hrl⟩⟩⟩ dX5_addFirst_59
    · have z_b_53 := trivial
      have k_54 : v_5.toInt = 0 := z_eq rfl ti_0 c_16
      refine lv_aload_n X.1 X.2.1 dX5_addFirst_20 rfl (lv_at hl 0 rfl) ?_
      refine r_getR (g := 501) X hw ha_x rfl 1 hrq (by decide) rfl inn_X5_addFirst_5 (by decide) (X.2.2.2.1 (.fieldLink RX5 17 "SilkMill$Row" "cells" "[LSilkMill$Cocoon;") (by decide +kernel)) rfl (gv_501 _ _) dX5_addFirst_21 ?_
      refine r_alen X hw haq rfl (by decide) rfl dX5_addFirst_24 ?_
      rw [hrn]
      refine lv_topi (fun v_55 ev_55 => ?_)
      have z_56 : v_55.toInt = (n : Int) := z_len ev_55 (by omega)
      refine lv_iconst (v := 1) X.1 X.2.1 dX5_addFirst_25 (by decide) ?_
      refine lv_isub X.1 X.2.1 dX5_addFirst_26 ?_
      refine lv_topi (fun v_57 ev_57 => ?_)
      have z_58 : v_57.toInt = v_55.toInt - 1 := z_sub ev_57 rfl ti_1 (by omega) (by omega)
      refine lv_goto (tgt := 36) X.1 X.2.1 dX5_addFirst_27 (by decide) ?_
      refine r_putI (v := v_57) X hw ha_x rfl 2 502 tyX5 (by decide) rfl inn_X5_addFirst_5 tyX5_ok nmX5 (by decide) (X.2.2.2.1 (.fieldLink RX5 31 "SilkMill$Row" "head" "I") (by decide +kernel)) rfl (Or.inl rfl) rfl rfl (Nat.le_of_ble_eq_true rfl) (st_502 _ _) dX5_addFirst_36 (fun H locs hw => ?_)
      obtain ⟨S_59, eS_59⟩ : ∃ T, T = sI S 502 x (v_57) := ⟨_, rfl⟩
      rw [← eS_59] at hw
      have hO_60 : Ok eRW S S_59 := hO.sI eS_59 (by decide +kernel) (uI_5_502 hO.1 ha_x hrq hrn (by omega) (by omega))
      have h_61 : pI S_59 502 x = v_57 := tI_sIs eS_59
      refine lv_aload_n X.1 X.2.1 dX5_addFirst_39 rfl (lv_at hl 0 rfl) ?_
      have t_62 : At S_59 x 5 := tAt_sI eS_59 ha_x
      have t_63 : pR S_59 501 x = some q := tR_sI eS_59 hrq
      refine r_getR (g := 501) X hw t_62 rfl 1 t_63 (by decide) rfl inn_X5_addFirst_5 (by decide) (X.2.2.2.1 (.fieldLink RX5 17 "SilkMill$Row" "cells" "[LSilkMill$Cocoon;") (by decide +kernel)) rfl (gv_501 _ _) dX5_addFirst_40 ?_
      refine lv_aload_n X.1 X.2.1 dX5_addFirst_43 rfl (lv_at hl 0 rfl) ?_
      refine r_getI (g := 502) (x := v_57) X hw t_62 rfl 2 h_61 (by decide) rfl inn_X5_addFirst_5 (by decide) (X.2.2.2.1 (.fieldLink RX5 31 "SilkMill$Row" "head" "I") (by decide +kernel)) rfl (gv_502 _ _) dX5_addFirst_44 ?_
      refine lv_aload_n X.1 X.2.1 dX5_addFirst_47 rfl (lv_at hl 1 rfl) ?_
      have t_64 : At S_59 q 16 := tAt_sI eS_59 haq
      have t_65 : pN S_59 q = n := tN_sI eS_59 hrn
      have t_66 : At S_59 c1 0 := tAt_sI eS_59 ha_c1
      refine r_aast X hw t_64 rfl t_66 rfl (by decide) (by decide) rfl rfl (by rw [t_65]; exact z_ix rfl (by omega) (by omega)) dX5_addFirst_48 (fun H locs hw => ?_)
      obtain ⟨S_67, eS_67⟩ : ∃ T, T = sB S_59 q (va_up (pB S_59 q) (Int32.toNatClampNeg (v_57)) (some c1)) := ⟨_, rfl⟩
      rw [← eS_67] at hw
      have hO_68 : Ok eRW S S_67 := hO_60.sB eS_67 t_64 (by decide +kernel) (uB_16 hO_60.1 t_64 (fun q hq => by cases hq; exact t_66))
      refine lv_aload_n X.1 X.2.1 dX5_addFirst_49 rfl (lv_at hl 0 rfl) ?_
      refine lv_dup X.1 X.2.1 dX5_addFirst_50 rfl ?_
      have t_69 : At S_67 x 5 := tAt_sB eS_67 t_62
      have t_70 : pI S_59 500 x = v_1 := tI_sI eS_59 rfl ev_1
      have t_71 : pI S_67 500 x = v_1 := tI_sB eS_67 t_70
      refine r_getI (g := 500) (x := v_1) X hw t_69 rfl 0 t_71 (by decide) rfl inn_X5_addFirst_5 (by decide) (X.2.2.2.1 (.fieldLink RX5 23 "SilkMill$Row" "size" "I") (by decide +kernel)) rfl (gv_500 _ _) dX5_addFirst_51 ?_
      refine lv_iconst (v := 1) X.1 X.2.1 dX5_addFirst_54 (by decide) ?_
      refine lv_iadd X.1 X.2.1 dX5_addFirst_55 ?_
      refine lv_topi (fun v_72 ev_72 => ?_)
      have z_73 : v_72.toInt = v_1.toInt + 1 := z_add ev_72 rfl ti_1 (by omega) (by omega)
      have t_74 : pR S_67 501 x = some q := tR_sB eS_67 t_63
      have t_75 : pN S_67 q = n := tN_sB eS_67 t_65
      clear t_65
      refine r_putI (v := v_72) X hw t_69 rfl 0 500 tyX5 (by decide) rfl inn_X5_addFirst_5 tyX5_ok nmX5 (by decide) (X.2.2.2.1 (.fieldLink RX5 23 "SilkMill$Row" "size" "I") (by decide +kernel)) rfl (Or.inl rfl) rfl rfl (Nat.le_of_ble_eq_true rfl) (st_500 _ _) dX5_addFirst_56 (fun H locs hw => ?_)
      obtain ⟨S_76, eS_76⟩ : ∃ T, T = sI S_67 500 x (v_72) := ⟨_, rfl⟩
      rw [← eS_76] at hw
      have hO_77 : Ok eRW S S_76 := hO_68.sI eS_76 (by decide +kernel) (uI_5_500 hO_68.1 t_69 t_74 t_75 (by omega) (by omega))
      have h_78 : pI S_76 500 x = v_72 := tI_sIs eS_76
      have rx_79 : RowX S S_59 x := RowX_sI (RowX_rf S x) eS_59
      have rx_80 : RowX S S_67 x := RowX_sB rx_79 hrq eS_67
      have rx_81 : RowX S S_76 x := RowX_sI rx_80 eS_76
      have t_82 : pR S_76 501 x = some q := tR_sI eS_76 t_74
      have t_83 : pN S_76 q = n := tN_sI eS_76 t_75
      clear t_75
      have t_84 : pI S_67 502 x = v_57 := tI_sB eS_67 h_61
      have t_85 : pI S_76 502 x = v_57 := tI_sI eS_76 rfl t_84
      have bb_87 : pB S_59 q = pB S q := by rw [eS_59]; rfl
      have bb_88 : pB S_76 q = pB S_67 q := by rw [eS_76]; rfl
      have bb_89 : pB S_59 q = pB S q := by rw [eS_59]; rfl
      have eb_86 : pB S_76 q = va_up (pB S q) (Int32.toNatClampNeg v_57) (some c1) := bb_88.trans (by rw [eS_67, bb_89]; exact if_pos rfl)
      have hd_90 : (pI S_76 502 x).toInt.toNat = rdn (pI S 502 x).toInt.toNat n := by rw [t_85]; unfold rdn; first | (rw [if_pos (by omega)]; omega) | (rw [if_neg (by omega)]; omega)
      exact ret_v X hw hr hlocks (Nat.le_of_ble_eq_true rfl) (Nat.le_of_ble_eq_true rfl) ⟨hO_77, ⟨rx_81, by unfold capF; rw [if_pos (by omega)]; exact ⟨q, t_82, t_83, by show _ = ((L.length + 1 : Nat) : Int); rw [h_78]; omega, by rw [eb_86, hd_90, show Int32.toNatClampNeg v_57 = rdn (pI S 502 x).toInt.toNat n from (by have hzn := z_nc (x := v_57) rfl (by omega); rw [← hd_90, t_85]; omega)]; exact RwL_first (by omega) (by omega) hrl⟩⟩⟩ dX5_addFirst_59
set_option maxHeartbeats 4000000 in
set_option maxRecDepth 100000 in
theorem k_X5_removeFirst5 (l : Launch) (G : va_G) (cy : Nat → ClassId) (κ : Nat → Nat) (S : PS) (sz : Nat) (x : Nat) (L : List Nat) (n : Nat) (hG : GX S) (ha_x : At S x 5) (hp_0 : RowIs S x L n) : Cq l yX5_removeFirst wsX5_removeFirst ({ frames := 2, cells := 0, slots := 0, locals := 96 }) G cy κ S sz [.ref x] (fun (r : Option Nat) (S9 : PS) => Ok eR0 S S9 ∧ ((∀ q, r = some q → At S9 q 0 ∧ ∃ t, L = q :: t ∧ RowIs S9 x t n) ∧ (r = none → L = [] ∧ S9 = S) ∧ RowX S S9 x)) := by
  refine ent_m (cc := cX5_removeFirst) (maxL := 2) (ret := (some (.object "SilkMill$Cocoon"))) (by decide) rfl (Nat.le_of_ble_eq_true rfl) ?_
  intro p e s m below meth c ls X hr hlocks hin hw hl hsz
  subst hsz
  have X : Cx p c cX5_removeFirst 2 s [.ref x].toArray wsX5_removeFirst RX5 m G cy κ (AS S s.heap.size) := X
  have hl : lv_has ls 2 [(0, .ref x)] := hl
  have hO : Ok eR0 S S := Ok.rf hG
  have hp0 := hp_0
  obtain ⟨q, hrq, hrn, hrs, hrl⟩ := hp0
  have hrr := gRow_all hG ha_x hrq hrn
  have haq := hrr.1
  have hnn := hrr.2.1
  have hhd := hrr.2.2
  obtain ⟨v_1, ev_1⟩ : ∃ v, pI S 500 x = v := ⟨_, rfl⟩
  have rg_2 := gRow_500 hO.1 ha_x hrq hrn; rw [ev_1] at rg_2
  have pz_3 : (pI S 500 x).toInt = v_1.toInt := by rw [ev_1]
  have pz_4 : (pI S 500 x).toInt = v_1.toInt := (congrArg Int32.toInt ev_1).trans rfl
  obtain ⟨v_5, ev_5⟩ : ∃ v, pI S 502 x = v := ⟨_, rfl⟩
  have rg_6 := gRow_502 hO.1 ha_x hrq hrn; rw [ev_5] at rg_6
  have pz_7 : (pI S 502 x).toInt = v_5.toInt := by rw [ev_5]
  have pz_8 : (pI S 502 x).toInt = v_5.toInt := (congrArg Int32.toInt ev_5).trans rfl
  refine lv_aload_n X.1 X.2.1 dX5_removeFirst_0 rfl (lv_at hl 0 rfl) ?_
  refine r_getI (g := 500) (x := v_1) X hw ha_x rfl 0 ev_1 (by decide) rfl inn_X5_removeFirst_5 (by decide) (X.2.2.2.1 (.fieldLink RX5 23 "SilkMill$Row" "size" "I") (by decide +kernel)) rfl (gv_500 _ _) dX5_removeFirst_1 ?_
  refine lv_if_ne (tgt := 9) X.1 X.2.1 dX5_removeFirst_4 (by decide) (fun c_9 => ?_) (fun c_9 => ?_)
  · have z_b_10 := trivial
    have k_11 : v_1.toInt ≠ 0 := z_ne rfl ti_0 c_9
    refine lv_aload_n X.1 X.2.1 dX5_removeFirst_9 rfl (lv_at hl 0 rfl) ?_
    refine r_getR (g := 501) X hw ha_x rfl 1 hrq (by decide) rfl inn_X5_removeFirst_5 (by decide) (X.2.2.2.1 (.fieldLink RX5 17 "SilkMill$Row" "cells" "[LSilkMill$Cocoon;") (by decide +kernel)) rfl (gv_501 _ _) dX5_removeFirst_10 ?_
    refine lv_aload_n X.1 X.2.1 dX5_removeFirst_13 rfl (lv_at hl 0 rfl) ?_
    refine r_getI (g := 502) (x := v_5) X hw ha_x rfl 2 ev_5 (by decide) rfl inn_X5_removeFirst_5 (by decide) (X.2.2.2.1 (.fieldLink RX5 31 "SilkMill$Row" "head" "I") (by decide +kernel)) rfl (gv_502 _ _) dX5_removeFirst_14 ?_
    refine r_aald X hw haq rfl (by decide) rfl (by rw [hrn]; exact z_ix rfl (by omega) (by omega)) dX5_removeFirst_17 ?_
    rcases ho_12 : pB S q (Int32.toNatClampNeg (v_5)) with _ | q_13
    · refine W.eq (g2 := F0 m 18 ls (.null :: [])) rfl ?_
      refine lv_astore_nN (lv' := [(1, .null), (0, .ref x)]) X.1 X.2.1 dX5_removeFirst_18 rfl hl (by decide) rfl (fun ls hl => ?_)
      refine lv_aload_n X.1 X.2.1 dX5_removeFirst_19 rfl (lv_at hl 1 rfl) ?_
      refine lv_aload_n X.1 X.2.1 dX5_removeFirst_20 rfl (lv_at hl 1 rfl) ?_
      refine lv_iconst (v := 1) X.1 X.2.1 dX5_removeFirst_21 (by decide) ?_
      refine k_i (rm := { frames := 1, cells := 0, slots := 0, locals := 48 }) (av := [.ref x, .int 1]) X hw (va_runV (As := [.int 1]) (rest := [.ref x]) (cfix X) (k_X5_cellOf5 l G cy κ S _ x (1) (1) q n hO.1 ha_x ti_1 hrq hrn (by omega)) (cwV 1 X.2.2.2.1 gX5_removeFirst_X5_cellOf rfl rfl rfl (by decide +kernel) ⟨Nat.le_of_ble_eq_true rfl, Nat.le_of_ble_eq_true rfl⟩) (pre_V X hw _ ha_x rfl (by decide) rfl) rfl rfl hl.1 rfl (lv_room (Nat.le_of_ble_eq_true rfl)) dX5_removeFirst_22 ⟨Nat.le_of_ble_eq_true rfl, Nat.le_of_ble_eq_true rfl⟩) 0 0 (Nat.le_of_ble_eq_true rfl) (Nat.le_of_ble_eq_true rfl) (fun rr_14 S_15 H locs hp hw hfr hnw => ?_)
      obtain ⟨e2, hp⟩ := hp
      subst e2
      obtain ⟨ce_16, ce_17, ce_18⟩ := hp
      refine r_putI (v := rr_14) X hw ha_x rfl 2 502 tyX5 (by decide) rfl inn_X5_removeFirst_5 tyX5_ok nmX5 (by decide) (X.2.2.2.1 (.fieldLink RX5 31 "SilkMill$Row" "head" "I") (by decide +kernel)) rfl (Or.inl rfl) rfl rfl (Nat.le_of_ble_eq_true rfl) (st_502 _ _) dX5_removeFirst_25 (fun H locs hw => ?_)
      obtain ⟨S_19, eS_19⟩ : ∃ T, T = sI S 502 x (rr_14) := ⟨_, rfl⟩
      rw [← eS_19] at hw
      have hO_20 : Ok eR0 S S_19 := hO.sI eS_19 (by decide +kernel) (uI_5_502 hO.1 ha_x hrq hrn (by omega) (by omega))
      have h_21 : pI S_19 502 x = rr_14 := tI_sIs eS_19
      refine lv_aload_n X.1 X.2.1 dX5_removeFirst_28 rfl (lv_at hl 1 rfl) ?_
      refine lv_dup X.1 X.2.1 dX5_removeFirst_29 rfl ?_
      have t_22 : At S_19 x 5 := tAt_sI eS_19 ha_x
      have t_23 : pI S_19 500 x = v_1 := tI_sI eS_19 rfl ev_1
      refine r_getI (g := 500) (x := v_1) X hw t_22 rfl 0 t_23 (by decide) rfl inn_X5_removeFirst_5 (by decide) (X.2.2.2.1 (.fieldLink RX5 23 "SilkMill$Row" "size" "I") (by decide +kernel)) rfl (gv_500 _ _) dX5_removeFirst_30 ?_
      refine lv_iconst (v := 1) X.1 X.2.1 dX5_removeFirst_33 (by decide) ?_
      refine lv_isub X.1 X.2.1 dX5_removeFirst_34 ?_
      refine lv_topi (fun v_24 ev_24 => ?_)
      have z_25 : v_24.toInt = v_1.toInt - 1 := z_sub ev_24 rfl ti_1 (by omega) (by omega)
      have t_26 : pR S_19 501 x = some q := tR_sI eS_19 hrq
      have t_27 : pN S_19 q = n := tN_sI eS_19 hrn
      refine r_putI (v := v_24) X hw t_22 rfl 0 500 tyX5 (by decide) rfl inn_X5_removeFirst_5 tyX5_ok nmX5 (by decide) (X.2.2.2.1 (.fieldLink RX5 23 "SilkMill$Row" "size" "I") (by decide +kernel)) rfl (Or.inl rfl) rfl rfl (Nat.le_of_ble_eq_true rfl) (st_500 _ _) dX5_removeFirst_35 (fun H locs hw => ?_)
      obtain ⟨S_28, eS_28⟩ : ∃ T, T = sI S_19 500 x (v_24) := ⟨_, rfl⟩
      rw [← eS_28] at hw
      have hO_29 : Ok eR0 S S_28 := hO_20.sI eS_28 (by decide +kernel) (uI_5_500 hO_20.1 t_22 t_26 t_27 (by omega) (by omega))
      have h_30 : pI S_28 500 x = v_24 := tI_sIs eS_28
      refine lv_aload_nN X.1 X.2.1 dX5_removeFirst_38 rfl (lv_at hl 0 rfl) ?_
      have rx_31 : RowX S S_19 x := RowX_sI (RowX_rf S x) eS_19
      have rx_32 : RowX S S_28 x := RowX_sI rx_31 eS_28
      have t_33 : pR S_28 501 x = some q := tR_sI eS_28 t_26
      have t_34 : pN S_28 q = n := tN_sI eS_28 t_27
      clear t_27
      have t_35 : pI S_28 502 x = rr_14 := tI_sI eS_28 rfl h_21
      have bb_36 : pB S_19 q = pB S q := by rw [eS_19]; rfl
      have bb_37 : pB S_28 q = pB S q := (show pB S_28 q = pB S_19 q from by rw [eS_28]; rfl).trans bb_36
      exact ret_q none rfl X hw hr hlocks (Nat.le_of_ble_eq_true rfl) (Nat.le_of_ble_eq_true rfl) ⟨hO_29, ⟨fun q h => (by cases h), fun _ => (by exfalso; obtain ⟨c0, t0, rfl⟩ : ∃ c t, L = c :: t := (match L, hrs with | [], hs => absurd hs (by show ¬ _ = ((0 : Nat) : Int); omega) | c :: t, _ => ⟨c, t, rfl⟩); have hl2 : (((c0 :: t0).length : Nat) : Int) = (t0.length : Int) + 1 := rfl; have hc := RwL_head (by omega) hrl; have hzn := z_nc (x := v_5) rfl (by omega); rw [show (pI S 502 x).toInt.toNat = Int32.toNatClampNeg (v_5) from by omega, ho_12] at hc; cases hc), rx_32⟩⟩ dX5_removeFirst_39
    · refine W.eq (g2 := F0 m 18 ls (.ref q_13 :: [])) rfl ?_
      have ha_38 : At S q_13 0 := gEl_16 hO.1 haq _ _ ho_12
      refine lv_astore_n (lv' := [(1, .ref q_13), (0, .ref x)]) X.1 X.2.1 dX5_removeFirst_18 rfl hl (by decide) rfl (fun ls hl => ?_)
      refine lv_aload_n X.1 X.2.1 dX5_removeFirst_19 rfl (lv_at hl 1 rfl) ?_
      refine lv_aload_n X.1 X.2.1 dX5_removeFirst_20 rfl (lv_at hl 1 rfl) ?_
      refine lv_iconst (v := 1) X.1 X.2.1 dX5_removeFirst_21 (by decide) ?_
      refine k_i (rm := { frames := 1, cells := 0, slots := 0, locals := 48 }) (av := [.ref x, .int 1]) X hw (va_runV (As := [.int 1]) (rest := [.ref x]) (cfix X) (k_X5_cellOf5 l G cy κ S _ x (1) (1) q n hO.1 ha_x ti_1 hrq hrn (by omega)) (cwV 1 X.2.2.2.1 gX5_removeFirst_X5_cellOf rfl rfl rfl (by decide +kernel) ⟨Nat.le_of_ble_eq_true rfl, Nat.le_of_ble_eq_true rfl⟩) (pre_V X hw _ ha_x rfl (by decide) rfl) rfl rfl hl.1 rfl (lv_room (Nat.le_of_ble_eq_true rfl)) dX5_removeFirst_22 ⟨Nat.le_of_ble_eq_true rfl, Nat.le_of_ble_eq_true rfl⟩) 0 0 (Nat.le_of_ble_eq_true rfl) (Nat.le_of_ble_eq_true rfl) (fun rr_39 S_40 H locs hp hw hfr hnw => ?_)
      obtain ⟨e2, hp⟩ := hp
      subst e2
      obtain ⟨ce_41, ce_42, ce_43⟩ := hp
      refine r_putI (v := rr_39) X hw ha_x rfl 2 502 tyX5 (by decide) rfl inn_X5_removeFirst_5 tyX5_ok nmX5 (by decide) (X.2.2.2.1 (.fieldLink RX5 31 "SilkMill$Row" "head" "I") (by decide +kernel)) rfl (Or.inl rfl) rfl rfl (Nat.le_of_ble_eq_true rfl) (st_502 _ _) dX5_removeFirst_25 (fun H locs hw => ?_)
      obtain ⟨S_44, eS_44⟩ : ∃ T, T = sI S 502 x (rr_39) := ⟨_, rfl⟩
      rw [← eS_44] at hw
      have hO_45 : Ok eR0 S S_44 := hO.sI eS_44 (by decide +kernel) (uI_5_502 hO.1 ha_x hrq hrn (by omega) (by omega))
      have h_46 : pI S_44 502 x = rr_39 := tI_sIs eS_44
      refine lv_aload_n X.1 X.2.1 dX5_removeFirst_28 rfl (lv_at hl 1 rfl) ?_
      refine lv_dup X.1 X.2.1 dX5_removeFirst_29 rfl ?_
      have t_47 : At S_44 x 5 := tAt_sI eS_44 ha_x
      have t_48 : pI S_44 500 x = v_1 := tI_sI eS_44 rfl ev_1
      refine r_getI (g := 500) (x := v_1) X hw t_47 rfl 0 t_48 (by decide) rfl inn_X5_removeFirst_5 (by decide) (X.2.2.2.1 (.fieldLink RX5 23 "SilkMill$Row" "size" "I") (by decide +kernel)) rfl (gv_500 _ _) dX5_removeFirst_30 ?_
      refine lv_iconst (v := 1) X.1 X.2.1 dX5_removeFirst_33 (by decide) ?_
      refine lv_isub X.1 X.2.1 dX5_removeFirst_34 ?_
      refine lv_topi (fun v_49 ev_49 => ?_)
      have z_50 : v_49.toInt = v_1.toInt - 1 := z_sub ev_49 rfl ti_1 (by omega) (by omega)
      have t_51 : pR S_44 501 x = some q := tR_sI eS_44 hrq
      have t_52 : pN S_44 q = n := tN_sI eS_44 hrn
      refine r_putI (v := v_49) X hw t_47 rfl 0 500 tyX5 (by decide) rfl inn_X5_removeFirst_5 tyX5_ok nmX5 (by decide) (X.2.2.2.1 (.fieldLink RX5 23 "SilkMill$Row" "size" "I") (by decide +kernel)) rfl (Or.inl rfl) rfl rfl (Nat.le_of_ble_eq_true rfl) (st_500 _ _) dX5_removeFirst_35 (fun H locs hw => ?_)
      obtain ⟨S_53, eS_53⟩ : ∃ T, T = sI S_44 500 x (v_49) := ⟨_, rfl⟩
      rw [← eS_53] at hw
      have hO_54 : Ok eR0 S S_53 := hO_45.sI eS_53 (by decide +kernel) (uI_5_500 hO_45.1 t_47 t_51 t_52 (by omega) (by omega))
      have h_55 : pI S_53 500 x = v_49 := tI_sIs eS_53
      refine lv_aload_n X.1 X.2.1 dX5_removeFirst_38 rfl (lv_at hl 0 rfl) ?_
      have rx_56 : RowX S S_44 x := RowX_sI (RowX_rf S x) eS_44
      have rx_57 : RowX S S_53 x := RowX_sI rx_56 eS_53
      have t_58 : pR S_53 501 x = some q := tR_sI eS_53 t_51
      have t_59 : pN S_53 q = n := tN_sI eS_53 t_52
      clear t_52
      have t_60 : pI S_53 502 x = rr_39 := tI_sI eS_53 rfl h_46
      have bb_61 : pB S_44 q = pB S q := by rw [eS_44]; rfl
      have bb_62 : pB S_53 q = pB S q := (show pB S_53 q = pB S_44 q from by rw [eS_53]; rfl).trans bb_61
      have t_63 : At S_44 q_13 0 := tAt_sI eS_44 ha_38
      have t_64 : At S_53 q_13 0 := tAt_sI eS_53 t_63
      exact ret_q (some q_13) rfl X hw hr hlocks (Nat.le_of_ble_eq_true rfl) (Nat.le_of_ble_eq_true rfl) ⟨hO_54, ⟨fun q h => (by cases h; obtain ⟨c0, t0, rfl⟩ : ∃ c t, L = c :: t := (match L, hrs with | [], hs => absurd hs (by show ¬ _ = ((0 : Nat) : Int); omega) | c :: t, _ => ⟨c, t, rfl⟩); have hl2 : (((c0 :: t0).length : Nat) : Int) = (t0.length : Int) + 1 := rfl; have hc := RwL_head (by omega) hrl; have hzn := z_nc (x := v_5) rfl (by omega); rw [show (pI S 502 x).toInt.toNat = Int32.toNatClampNeg (v_5) from by omega, ho_12] at hc; cases hc; exact ⟨t_64, t0, rfl, q, t_58, t_59, by rw [h_55]; omega, by rw [t_60, show rr_39.toInt.toNat = rix (pI S 502 x).toInt.toNat n 1 from (by have h9 := ce_43; rw [show (1 : Int).toNat = 1 from rfl] at h9; omega), bb_62]; exact RwL_tail (by omega) (by omega) hrl⟩), fun h => (by cases h), rx_57⟩⟩ dX5_removeFirst_39
  · have z_b_65 := trivial
    have k_66 : v_1.toInt = 0 := z_eq rfl ti_0 c_9
    refine lv_null X.1 X.2.1 dX5_removeFirst_7 ?_
    exact ret_q none rfl X hw hr hlocks (Nat.le_of_ble_eq_true rfl) (Nat.le_of_ble_eq_true rfl) ⟨hO, ⟨fun q h => (by cases h), fun _ => ⟨List.eq_nil_of_length_eq_zero (by omega), rfl⟩, (RowX_rf S x)⟩⟩ dX5_removeFirst_8
