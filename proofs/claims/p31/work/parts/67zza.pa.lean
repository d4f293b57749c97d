/-! ===== pay ===== -/
def gI (v : Int32) : Nat := if 0 ≤ v.toInt ∧ v.toInt ≤ 3 then v.toInt.toNat else 3
theorem gI_y {v : Int32} (h : 0 ≤ v.toInt ∧ v.toInt ≤ 3) : gI v = v.toInt.toNat := if_pos h
theorem gI_n {v : Int32} (h : ¬ (0 ≤ v.toInt ∧ v.toInt ≤ 3)) : gI v = 3 := if_neg h
def pcI (a b : Int32) : Int32 := a * b / 100
/-- the prices of the skeins of a pot and a day -/
def pyS (w : List Mt → Int32) (pr : Nat → Int32) (p a : Int) (L : List Sk) : Int32 := L.foldl (fun acc s => if s.1.1.toInt = p ∧ s.2.1.toInt = a then acc + pcI (w s.2.2.2) (pr (gI s.1.2.1)) else acc) 0
theorem pyS_s {w : List Mt → Int32} {pr : Nat → Int32} {p a : Int} {L : List Sk} {k : Nat} {s : Sk} (h : L[k]? = some s) : pyS w pr p a (L.take (k + 1)) = if s.1.1.toInt = p ∧ s.2.1.toInt = a then pyS w pr p a (L.take k) + pcI (w s.2.2.2) (pr (gI s.1.2.1)) else pyS w pr p a (L.take k) := by
  unfold pyS
  rw [List.take_succ, h, List.foldl_append]
  rfl
theorem pyS_y {w : List Mt → Int32} {pr : Nat → Int32} {p a : Int} {L : List Sk} {k : Nat} {s : Sk} (h : L[k]? = some s) (c : s.1.1.toInt = p ∧ s.2.1.toInt = a) : pyS w pr p a (L.take (k + 1)) = pyS w pr p a (L.take k) + pcI (w s.2.2.2) (pr (gI s.1.2.1)) := (pyS_s h).trans (if_pos c)
theorem pyS_n {w : List Mt → Int32} {pr : Nat → Int32} {p a : Int} {L : List Sk} {k : Nat} {s : Sk} (h : L[k]? = some s) (c : ¬ (s.1.1.toInt = p ∧ s.2.1.toInt = a)) : pyS w pr p a (L.take (k + 1)) = pyS w pr p a (L.take k) := (pyS_s h).trans (if_neg c)
def pyC (L : List Sk) (p a k : Int) : Prop := ∃ s, 0 ≤ k ∧ L[k.toNat]? = some s ∧ s.1.1.toInt = p ∧ s.2.1.toInt = a
noncomputable def pyF (L : List Sk) (fs fd fa : Nat → Int) (p a k : Int) (b : Int32) : Nat → Int32
  | 0 => b
  | n + 1 => @ite Int32 (pyC L p a (fs n) ∧ fd n ≤ k) (Classical.propDecidable _) (pyF L fs fd fa p a k b n - Int32.ofInt (fa n)) (pyF L fs fd fa p a k b n)
theorem pyF_y {L : List Sk} {fs fd fa : Nat → Int} {p a k : Int} {b : Int32} {n : Nat} (h : pyC L p a (fs n)) (h2 : fd n ≤ k) : pyF L fs fd fa p a k b (n + 1) = pyF L fs fd fa p a k b n - Int32.ofInt (fa n) := if_pos ⟨h, h2⟩
theorem pyF_n {L : List Sk} {fs fd fa : Nat → Int} {p a k : Int} {b : Int32} {n : Nat} (h : ¬ (pyC L p a (fs n) ∧ fd n ≤ k)) : pyF L fs fd fa p a k b (n + 1) = pyF L fs fd fa p a k b n := if_neg h
theorem pyC_no {L : List Sk} {p a k : Int} {s : Sk} (h : L[k.toNat]? = some s) (hn : ¬ (s.1.1.toInt = p ∧ s.2.1.toInt = a)) : ¬ pyC L p a k := fun ⟨t, _, h1, h2⟩ => by
  rw [h] at h1
  cases h1
  exact hn h2
theorem pyC_out {L : List Sk} {p a k : Int} (h : ¬ (0 ≤ k ∧ k < (L.length : Int))) : ¬ pyC L p a k := fun ⟨t, h0, h1, _⟩ => by
  have := (List.getElem?_eq_some_iff.mp h1).1
  exact h ⟨h0, by omega⟩
noncomputable def siZ (S : PS) (x : Nat) (g : List Mt) : Int32 := g.foldl (fun a m => a + mtZ S x m) 0
theorem siZ_s {S : PS} {x k : Nat} {g : List Mt} {t : Mt} (h : g[k]? = some t) : siZ S x (g.take (k + 1)) = siZ S x (g.take k) + mtZ S x t := by
  unfold siZ
  rw [List.take_succ, h, List.foldl_append]
  rfl
theorem siZ_to {S T : PS} {x : Nat} (h : fnZ T x = fnZ S x) : siZ T x = siZ S x := by
  funext g
  unfold siZ
  congr 1
  funext a m
  rw [mtZ_eq h]

set_option maxHeartbeats 4000000 in
set_option maxRecDepth 100000 in
theorem k_X7_isOf8 (l : Launch) (G : va_G) (cy : Nat → ClassId) (κ : Nat → Nat) (S : PS) (sz : Nat) (x : Nat) (a1 : Int32) (a1_z : Int) (a2 : Int32) (a2_z : Int) (hG : GX S) (ha_x : At S x 7) (hz_a1 : a1.toInt = a1_z) (hz_a2 : a2.toInt = a2_z) : Ci l yX7_isOf wsX7_isOf ({ frames := 1, cells := 0, slots := 0, locals := 48 }) G cy κ S sz [.ref x, .int (a1), .int (a2)] (fun (r : Int32) (S9 : PS) => S = S9 ∧ ((((pI S 700 x).toInt = a1_z ∧ (pI S 702 x).toInt = a2_z) ∧ r = 1) ∨ ((¬ ((pI S 700 x).toInt = a1_z ∧ (pI S 702 x).toInt = a2_z)) ∧ r = 0))) := by
  refine ent_m (cc := cX7_isOf) (maxL := 3) (ret := (some .boolean)) (by decide) rfl (Nat.le_of_ble_eq_true rfl) ?_
  intro p e s m below meth c ls X hr hlocks hin hw hl hsz
  subst hsz
  have X : Cx p c cX7_isOf 3 s [.ref x, .int (a1), .int (a2)].toArray wsX7_isOf RX7 m G cy κ (AS S s.heap.size) := X
  have hl : lv_has ls 3 [(0, .ref x), (1, .int (a1)), (2, .int (a2))] := hl
  have rg_a1 : (-2147483648) ≤ a1_z ∧ a1_z ≤ 2147483647 := by rw [← hz_a1]; exact ⟨z_lo _, z_hi _⟩
  have rg_a2 : (-2147483648) ≤ a2_z ∧ a2_z ≤ 2147483647 := by rw [← hz_a2]; exact ⟨z_lo _, z_hi _⟩
  refine lv_aload_n X.1 X.2.1 dX7_isOf_0 rfl (lv_at hl 0 rfl) ?_
  obtain ⟨v_1, ev_1⟩ : ∃ v, pI S 700 x = v := ⟨_, rfl⟩
  have rg_3 := And.intro (z_lo v_1) (z_hi v_1)
  have pz_4 : (pI S 700 x).toInt = v_1.toInt := by rw [ev_1]
  refine r_getI (g := 700) (x := v_1) X hw ha_x rfl 0 ev_1 (by decide) rfl inn_X7_isOf_7 (by decide) (X.2.2.2.1 (.fieldLink RX7 19 "SilkMill$Skein" "potNumber" "I") (by decide +kernel)) rfl (gv_700 _ _) dX7_isOf_1 ?_
  refine lv_iload_n X.1 X.2.1 dX7_isOf_4 rfl (lv_at hl 1 rfl) ?_
  refine lv_icmp_ne (tgt := 20) X.1 X.2.1 dX7_isOf_5 (by decide) (fun c_5 => ?_) (fun c_5 => ?_)
  · have z_b_6 := trivial
    have k_7 : v_1.toInt ≠ a1_z := z_ne rfl hz_a1 c_5
    refine lv_iconst (v := 0) X.1 X.2.1 dX7_isOf_20 (by decide) ?_
    exact ret_z X hw hr hlocks (Nat.le_of_ble_eq_true rfl) (Nat.le_of_ble_eq_true rfl) (by decide) ⟨rfl, Or.inr ⟨by omega, rfl⟩⟩ dX7_isOf_21
  · have z_b_8 := trivial
    have k_9 : v_1.toInt = a1_z := z_eq rfl hz_a1 c_5
    refine lv_aload_n X.1 X.2.1 dX7_isOf_8 rfl (lv_at hl 0 rfl) ?_
    obtain ⟨v_10, ev_10⟩ : ∃ v, pI S 702 x = v := ⟨_, rfl⟩
    have rg_12 := And.intro (z_lo v_10) (z_hi v_10)
    have pz_13 : (pI S 702 x).toInt = v_10.toInt := by rw [ev_10]
    refine r_getI (g := 702) (x := v_10) X hw ha_x rfl 2 ev_10 (by decide) rfl inn_X7_isOf_7 (by decide) (X.2.2.2.1 (.fieldLink RX7 25 "SilkMill$Skein" "dayCut" "I") (by decide +kernel)) rfl (gv_702 _ _) dX7_isOf_9 ?_
    refine lv_iload_n X.1 X.2.1 dX7_isOf_12 rfl (lv_at hl 2 rfl) ?_
    refine lv_icmp_ne (tgt := 20) X.1 X.2.1 dX7_isOf_13 (by decide) (fun c_14 => ?_) (fun c_14 => ?_)
    · have z_b_15 := trivial
      have k_16 : v_10.toInt ≠ a2_z := z_ne rfl hz_a2 c_14
      refine lv_iconst (v := 0) X.1 X.2.1 dX7_isOf_20 (by decide) ?_
      exact ret_z X hw hr hlocks (Nat.le_of_ble_eq_true rfl) (Nat.le_of_ble_eq_true rfl) (by decide) ⟨rfl, Or.inr ⟨by omega, rfl⟩⟩ dX7_isOf_21
    · have z_b_17 := trivial
      have k_18 : v_10.toInt = a2_z := z_eq rfl hz_a2 c_14
      refine lv_iconst (v := 1) X.1 X.2.1 dX7_isOf_16 (by decide) ?_
      refine lv_goto (tgt := 21) X.1 X.2.1 dX7_isOf_17 (by decide) ?_
      exact ret_z X hw hr hlocks (Nat.le_of_ble_eq_true rfl) (Nat.le_of_ble_eq_true rfl) (by decide) ⟨rfl, Or.inl ⟨by omega, rfl⟩⟩ dX7_isOf_21
set_option maxHeartbeats 4000000 in
set_option maxRecDepth 100000 in
theorem k_X8_priceOf8 (l : Launch) (G : va_G) (cy : Nat → ClassId) (κ : Nat → Nat) (S : PS) (sz : Nat) (x : Nat) (s1 : Nat) (g : Nat) (hG : GX S) (ha_x : At S x 8) (ha_s1 : At S s1 7) (hp_0 : pR S 703 s1 = some g) : Ci l yX8_priceOf wsX8_priceOf ({ frames := 2, cells := 0, slots := 0, locals := 96 }) G cy κ S sz [.ref x, .ref s1] (fun (r : Int32) (S9 : PS) => S = S9 ∧ (-2147483648 ≤ r.toInt ∧ r.toInt ≤ 2147483647 ∧ r = pcI (pI S 903 g) (mA S x 807 (gI (pI S 707 s1))))) := by
  refine ent_m (cc := cX8_priceOf) (maxL := 3) (ret := (some .int)) (by decide) rfl (Nat.le_of_ble_eq_true rfl) ?_
  intro p e s m below meth c ls X hr hlocks hin hw hl hsz
  subst hsz
  have X : Cx p c cX8_priceOf 3 s [.ref x, .ref s1].toArray wsX8_priceOf RX8 m G cy κ (AS S s.heap.size) := X
  have hl : lv_has ls 3 [(0, .ref x), (1, .ref s1)] := hl
  have hag := sk_str hG ha_s1 hp_0
  refine lv_aload_n X.1 X.2.1 dX8_priceOf_0 rfl (lv_at hl 1 rfl) ?_
  obtain ⟨v_1, ev_1⟩ : ∃ v, pI S 707 s1 = v := ⟨_, rfl⟩
  have rg_3 := And.intro (z_lo v_1) (z_hi v_1)
  have pz_4 : (pI S 707 s1).toInt = v_1.toInt := by rw [ev_1]
  refine r_getI (g := 707) (x := v_1) X hw ha_s1 rfl 7 ev_1 (by decide) rfl inn_X8_priceOf_7 (by decide) (X.2.2.2.1 (.fieldLink RX8 61 "SilkMill$Skein" "latestGrade" "I") (by decide +kernel)) rfl (gv_707 _ _) dX8_priceOf_1 ?_
  refine lv_iconst (v := 0) X.1 X.2.1 dX8_priceOf_4 (by decide) ?_
  refine lv_iconst (v := 3) X.1 X.2.1 dX8_priceOf_5 (by decide) ?_
  refine k_i (rm := { frames := 1, cells := 0, slots := 0, locals := 48 }) (av := [.int (v_1), .int 0, .int 3]) X hw (va_runSN (As := [.int (v_1), .int 0, .int 3]) (rest := []) (cfix X) (k_X11_isWithin l G cy κ S _ (v_1) (v_1.toInt) (0) (0) (3) (3) hG rfl ti_0 ti_3) ⟨(va_cnB (host := RX11) 3 X.2.2.2.1 gX8_priceOf_X11_isWithin_n64 rfl rfl rfl (X.2.2.2.2.2.2.2.1.2.1 (RX8, 64, yX11_isWithin) (by decide +kernel)) (X.2.2.2.1 (.initialized RX11) (by decide +kernel)) (by decide +kernel) ⟨Nat.le_of_ble_eq_true rfl, Nat.le_of_ble_eq_true rfl⟩), (X.2.2.2.1 (.static yX11_isWithin) (by decide +kernel)), trivial⟩ (pre_S X hw _) rfl rfl hl.1 rfl (lv_room (Nat.le_of_ble_eq_true rfl)) dX8_priceOf_6 ⟨Nat.le_of_ble_eq_true rfl, Nat.le_of_ble_eq_true rfl⟩) 0 0 (Nat.le_of_ble_eq_true rfl) (Nat.le_of_ble_eq_true rfl) (fun rr_5 S_6 H locs hp hw hfr hnw => ?_)
  obtain ⟨e2, hp⟩ := hp
  subst e2
  rcases hp with ⟨f_7, er_8⟩ | ⟨f_7, er_8⟩ <;> subst er_8
  · have z_b_9 := trivial
    refine lv_if_eq (tgt := 19) X.1 X.2.1 dX8_priceOf_9 (by decide) (fun c_10 => absurd c_10 (by decide)) (fun c_10 => ?_)
    refine lv_aload_n X.1 X.2.1 dX8_priceOf_12 rfl (lv_at hl 1 rfl) ?_
    refine r_getI (g := 707) (x := v_1) X hw ha_s1 rfl 7 ev_1 (by decide) rfl inn_X8_priceOf_7 (by decide) (X.2.2.2.1 (.fieldLink RX8 61 "SilkMill$Skein" "latestGrade" "I") (by decide +kernel)) rfl (gv_707 _ _) dX8_priceOf_13 ?_
    refine lv_goto (tgt := 20) X.1 X.2.1 dX8_priceOf_16 (by decide) ?_
    refine lv_istore_n (lv' := [(2, .int (v_1)), (0, .ref x), (1, .ref s1)]) X.1 X.2.1 dX8_priceOf_20 rfl hl (by decide) rfl (fun ls hl => ?_)
    refine lv_aload_n X.1 X.2.1 dX8_priceOf_21 rfl (lv_at hl 2 rfl) ?_
    refine r_getR (g := 703) X hw ha_s1 rfl 3 hp_0 (by decide) rfl inn_X8_priceOf_7 (by decide) (X.2.2.2.1 (.fieldLink RX8 68 "SilkMill$Skein" "strand" "LSilkMill$Strand;") (by decide +kernel)) rfl (gv_703 _ _) dX8_priceOf_22 ?_
    obtain ⟨v_11, ev_11⟩ : ∃ v, pI S 903 g = v := ⟨_, rfl⟩
    have rg_13 := And.intro (z_lo v_11) (z_hi v_11)
    have pz_14 : (pI S 903 g).toInt = v_11.toInt := by rw [ev_11]
    refine r_getI (g := 903) (x := v_11) X hw hag rfl 3 ev_11 (by decide) rfl inn_X8_priceOf_9 (by decide) (X.2.2.2.1 (.fieldLink RX8 44 "SilkMill$Strand" "silk" "I") (by decide +kernel)) rfl (gv_903 _ _) dX8_priceOf_25 ?_
    refine lv_aload_n X.1 X.2.1 dX8_priceOf_28 rfl (lv_at hl 1 rfl) ?_
    obtain ⟨q_15, h_16, h_17, h_18⟩ := gQ_8_807 hG ha_x
    refine r_getR (g := 807) X hw ha_x rfl 7 h_16 (by decide) rfl inn_X8_priceOf_8 (by decide) (X.2.2.2.1 (.fieldLink RX8 9 "SilkMill$Store" "prices" "[I") (by decide +kernel)) rfl (gv_807 _ _) dX8_priceOf_29 ?_
    refine lv_iload_n X.1 X.2.1 dX8_priceOf_32 rfl (lv_at hl 0 rfl) ?_
    refine r_iald X hw h_17 rfl (by rw [h_18]; exact z_ix rfl (by omega) (by omega)) dX8_priceOf_33 ?_
    refine lv_topi (fun v_19 ev_19 => ?_)
    have rg_20 := And.intro (z_lo v_19) (z_hi v_19)
    have ev_19 := ev_19.symm
    refine lv_imul X.1 X.2.1 dX8_priceOf_34 ?_
    refine lv_topi (fun v_21 ev_21 => ?_)
    have rg_22 := And.intro (z_lo v_21) (z_hi v_21)
    refine lv_bipush (v := 100) X.1 X.2.1 dX8_priceOf_35 (by decide) ?_
    refine lv_idiv X.1 X.2.1 dX8_priceOf_37 (by decide) ?_
    refine lv_topi (fun v_23 ev_23 => ?_)
    have rg_24 := And.intro (z_lo v_23) (z_hi v_23)
    have ix_25 : mA S x 807 (gI (pI S 707 s1)) = v_19 := by rw [gI_y (by rw [ev_1]; omega), mA_eq h_16, show (pI S 707 s1).toInt.toNat = Int32.toNatClampNeg (v_1) from (by rw [ev_1]; exact (z_nc (x := v_1) rfl (by omega)).symm)]; exact ev_19
    exact ret_i X hw hr hlocks (Nat.le_of_ble_eq_true rfl) (Nat.le_of_ble_eq_true rfl) ⟨rfl, ⟨z_lo _, z_hi _, by rw [ix_25, ev_11, ev_23, ev_21]; rfl⟩⟩ dX8_priceOf_38
  · have z_b_26 := trivial
    refine lv_if_eq (tgt := 19) X.1 X.2.1 dX8_priceOf_9 (by decide) (fun c_27 => ?_) (fun c_27 => absurd c_27 (by decide))
    refine lv_iconst (v := 3) X.1 X.2.1 dX8_priceOf_19 (by decide) ?_
    refine lv_istore_n (lv' := [(2, .int 3), (0, .ref x), (1, .ref s1)]) X.1 X.2.1 dX8_priceOf_20 rfl hl (by decide) rfl (fun ls hl => ?_)
    refine lv_aload_n X.1 X.2.1 dX8_priceOf_21 rfl (lv_at hl 2 rfl) ?_
    refine r_getR (g := 703) X hw ha_s1 rfl 3 hp_0 (by decide) rfl inn_X8_priceOf_7 (by decide) (X.2.2.2.1 (.fieldLink RX8 68 "SilkMill$Skein" "strand" "LSilkMill$Strand;") (by decide +kernel)) rfl (gv_703 _ _) dX8_priceOf_22 ?_
    obtain ⟨v_28, ev_28⟩ : ∃ v, pI S 903 g = v := ⟨_, rfl⟩
    have rg_30 := And.intro (z_lo v_28) (z_hi v_28)
    have pz_31 : (pI S 903 g).toInt = v_28.toInt := by rw [ev_28]
    refine r_getI (g := 903) (x := v_28) X hw hag rfl 3 ev_28 (by decide) rfl inn_X8_priceOf_9 (by decide) (X.2.2.2.1 (.fieldLink RX8 44 "SilkMill$Strand" "silk" "I") (by decide +kernel)) rfl (gv_903 _ _) dX8_priceOf_25 ?_
    refine lv_aload_n X.1 X.2.1 dX8_priceOf_28 rfl (lv_at hl 1 rfl) ?_
    obtain ⟨q_32, h_33, h_34, h_35⟩ := gQ_8_807 hG ha_x
    refine r_getR (g := 807) X hw ha_x rfl 7 h_33 (by decide) rfl inn_X8_priceOf_8 (by decide) (X.2.2.2.1 (.fieldLink RX8 9 "SilkMill$Store" "prices" "[I") (by decide +kernel)) rfl (gv_807 _ _) dX8_priceOf_29 ?_
    refine lv_iload_n X.1 X.2.1 dX8_priceOf_32 rfl (lv_at hl 0 rfl) ?_
    refine r_iald X hw h_34 rfl (by rw [h_35]; exact z_ix ti_3 (by omega) (by omega)) dX8_priceOf_33 ?_
    refine lv_topi (fun v_36 ev_36 => ?_)
    have rg_37 := And.intro (z_lo v_36) (z_hi v_36)
    have ev_36 := ev_36.symm
    refine lv_imul X.1 X.2.1 dX8_priceOf_34 ?_
    refine lv_topi (fun v_38 ev_38 => ?_)
    have rg_39 := And.intro (z_lo v_38) (z_hi v_38)
    refine lv_bipush (v := 100) X.1 X.2.1 dX8_priceOf_35 (by decide) ?_
    refine lv_idiv X.1 X.2.1 dX8_priceOf_37 (by decide) ?_
    refine lv_topi (fun v_40 ev_40 => ?_)
    have rg_41 := And.intro (z_lo v_40) (z_hi v_40)
    have ix_42 : mA S x 807 (gI (pI S 707 s1)) = v_36 := by rw [gI_n (by rw [ev_1]; omega), mA_eq h_33, show (3 : Nat) = Int32.toNatClampNeg 3 by decide]; exact ev_36
    exact ret_i X hw hr hlocks (Nat.le_of_ble_eq_true rfl) (Nat.le_of_ble_eq_true rfl) ⟨rfl, ⟨z_lo _, z_hi _, by rw [ix_42, ev_28, ev_40, ev_38]; rfl⟩⟩ dX8_priceOf_38
set_option maxHeartbeats 4000000 in
set_option maxRecDepth 100000 in
theorem k_X8_payFor8 (l : Launch) (G : va_G) (cy : Nat → ClassId) (κ : Nat → Nat) (S : PS) (sz : Nat) (x : Nat) (a1 : Int32) (a1_z : Int) (a2 : Int32) (a2_z : Int) (a3 : Int32) (a3_z : Int) (D : Nat → Prop) (Ls : List Sk) (hG : GX S) (ha_x : At S x 8) (hz_a1 : a1.toInt = a1_z) (hz_a2 : a2.toInt = a2_z) (hz_a3 : a3.toInt = a3_z) (hp_0 : SkV S D x Ls) : Ci l yX8_payFor wsX8_payFor ({ frames := 3, cells := 0, slots := 0, locals := 144 }) G cy κ S sz [.ref x, .int (a1), .int (a2), .int (a3)] (fun (r : Int32) (S9 : PS) => S = S9 ∧ (-2147483648 ≤ r.toInt ∧ r.toInt ≤ 2147483647 ∧ r = pyF Ls (zA S x 809) (zA S x 810) (zA S x 811) a1_z a2_z a3_z (pyS (siS S) (mA S x 807) a1_z a2_z Ls) (pI S 806 x).toInt.toNat)) := by
  refine ent_m (cc := cX8_payFor) (maxL := 7) (ret := (some .int)) (by decide) rfl (Nat.le_of_ble_eq_true rfl) ?_
  intro p e s m below meth c ls X hr hlocks hin hw hl hsz
  subst hsz
  have X : Cx p c cX8_payFor 7 s [.ref x, .int (a1), .int (a2), .int (a3)].toArray wsX8_payFor RX8 m G cy κ (AS S s.heap.size) := X
  have hl : lv_has ls 7 [(0, .ref x), (1, .int (a1)), (2, .int (a2)), (3, .int (a3))] := hl
  have rg_a1 : (-2147483648) ≤ a1_z ∧ a1_z ≤ 2147483647 := by rw [← hz_a1]; exact ⟨z_lo _, z_hi _⟩
  have rg_a2 : (-2147483648) ≤ a2_z ∧ a2_z ≤ 2147483647 := by rw [← hz_a2]; exact ⟨z_lo _, z_hi _⟩
  have rg_a3 : (-2147483648) ≤ a3_z ∧ a3_z ≤ 2147483647 := by rw [← hz_a3]; exact ⟨z_lo _, z_hi _⟩
  generalize hQQ : MQ below _ _ _ _ _ _ = QQ
  replace hQQ := hQQ.symm
  obtain ⟨v_1, ev_1⟩ : ∃ v, pI S 800 x = v := ⟨_, rfl⟩
  have rg_2 := gI_8_800 hG ha_x; rw [ev_1] at rg_2
  have pz_3 : (pI S 800 x).toInt = v_1.toInt := by rw [ev_1]
  have pz_4 : (pI S 800 x).toInt = v_1.toInt := (congrArg Int32.toInt ev_1).trans rfl
  obtain ⟨v_5, ev_5⟩ : ∃ v, pI S 806 x = v := ⟨_, rfl⟩
  have rg_6 := gI_8_806 hG ha_x; rw [ev_5] at rg_6
  have pz_7 : (pI S 806 x).toInt = v_5.toInt := by rw [ev_5]
  have pz_8 : (pI S 806 x).toInt = v_5.toInt := (congrArg Int32.toInt ev_5).trans rfl
  have hkl := hp_0.1
  refine lv_iconst (v := 0) X.1 X.2.1 dX8_payFor_0 (by decide) ?_
  refine lv_istore (lv' := [(4, .int 0), (0, .ref x), (1, .int (a1)), (2, .int (a2)), (3, .int (a3))]) X.1 X.2.1 dX8_payFor_1 hl (by decide) rfl (fun ls hl => ?_)
  refine lv_iconst (v := 0) X.1 X.2.1 dX8_payFor_3 (by decide) ?_
  refine lv_istore (lv' := [(5, .int 0), (4, .int 0), (0, .ref x), (1, .int (a1)), (2, .int (a2)), (3, .int (a3))]) X.1 X.2.1 dX8_payFor_4 hl (by decide) rfl (fun ls hl => ?_)
  have L_9 : ∀ (n : Nat) (H : Heap) (locs : List Loc) (ls : Array Slot) (i4_10 : Int32) (i4_10_z : Int) (i5_11 : Int32) (i5_11_z : Int), ((40 - i5_11_z).toNat = n) → (Wd G cy (AS S s.heap.size) s.heap S H locs) → (i4_10.toInt = i4_10_z) → (i5_11.toInt = i5_11_z) → (0 ≤ i5_11_z ∧ i5_11_z ≤ 40) → ((i4_10) = pyS (siS S) (mA S x 807) a1_z a2_z (Ls.take (i5_11_z).toNat)) → (i5_11_z ≤ (Ls.length : Int)) → (lv_has ls 7 [(4, .int (i4_10)), (5, .int (i5_11)), (0, .ref x), (1, .int (a1)), (2, .int (a2)), (3, .int (a3))]) → W p l e ({ frames := 3, cells := 0, slots := 0, locals := 144 }) s m [.ref x, .int (a1), .int (a2), .int (a3)].toArray below meth c H locs 0 0 QQ (F0 m 6 ls []) := by
    intro n
    induction n using Nat.strongRecOn with
    | ind n ih =>
    intro H locs ls i4_10 i4_10_z i5_11 i5_11_z hn hw hz_i4_10 hz_i5_11 hr_i5_11 iv_12 iv_13 hl
    have rg_14 : (-2147483648) ≤ i4_10_z ∧ i4_10_z ≤ 2147483647 := by rw [← hz_i4_10]; exact ⟨z_lo _, z_hi _⟩
    have rg_15 : (-2147483648) ≤ i5_11_z ∧ i5_11_z ≤ 2147483647 := by rw [← hz_i5_11]; exact ⟨z_lo _, z_hi _⟩
    refine lv_iload X.1 X.2.1 dX8_payFor_6 (lv_at hl 1 rfl) ?_
    refine lv_aload_n X.1 X.2.1 dX8_payFor_8 rfl (lv_at hl 2 rfl) ?_
    refine r_getI (g := 800) (x := v_1) X hw ha_x rfl 0 ev_1 (by decide) rfl inn_X8_payFor_8 (by decide) (X.2.2.2.1 (.fieldLink RX8 37 "SilkMill$Store" "kept" "I") (by decide +kernel)) rfl (gv_800 _ _) dX8_payFor_9 ?_
    refine lv_icmp_ge (tgt := 55) X.1 X.2.1 dX8_payFor_12 (by decide) (fun c_16 => ?_) (fun c_16 => ?_)
    · have z_b_17 := trivial
      have k_18 : i5_11_z ≥ v_1.toInt := z_le rfl hz_i5_11 c_16
      refine lv_iconst (v := 0) X.1 X.2.1 dX8_payFor_55 (by decide) ?_
      refine lv_istore (lv' := [(5, .int 0), (4, .int (i4_10)), (0, .ref x), (1, .int (a1)), (2, .int (a2)), (3, .int (a3))]) X.1 X.2.1 dX8_payFor_56 hl (by decide) rfl (fun ls hl => ?_)
      have L_19 : ∀ (n : Nat) (H : Heap) (locs : List Loc) (ls : Array Slot) (i4_20 : Int32) (i4_20_z : Int) (i5_21 : Int32) (i5_21_z : Int), ((40 - i5_21_z).toNat = n) → (Wd G cy (AS S s.heap.size) s.heap S H locs) → (i4_20.toInt = i4_20_z) → (i5_21.toInt = i5_21_z) → (0 ≤ i5_21_z ∧ i5_21_z ≤ 40) → ((i4_20) = pyF Ls (zA S x 809) (zA S x 810) (zA S x 811) a1_z a2_z a3_z (pyS (siS S) (mA S x 807) a1_z a2_z Ls) (i5_21_z).toNat) → (i5_21_z ≤ (pI S 806 x).toInt) → (lv_has ls 7 [(4, .int (i4_20)), (5, .int (i5_21)), (0, .ref x), (1, .int (a1)), (2, .int (a2)), (3, .int (a3))]) → W p l e ({ frames := 3, cells := 0, slots := 0, locals := 144 }) s m [.ref x, .int (a1), .int (a2), .int (a3)].toArray below meth c H locs 0 0 QQ (F0 m 58 ls []) := by
        intro n
        induction n using Nat.strongRecOn with
        | ind n ih =>
        intro H locs ls i4_20 i4_20_z i5_21 i5_21_z hn hw hz_i4_20 hz_i5_21 hr_i5_21 iv_22 iv_23 hl
        have rg_24 : (-2147483648) ≤ i4_20_z ∧ i4_20_z ≤ 2147483647 := by rw [← hz_i4_20]; exact ⟨z_lo _, z_hi _⟩
        have rg_25 : (-2147483648) ≤ i5_21_z ∧ i5_21_z ≤ 2147483647 := by rw [← hz_i5_21]; exact ⟨z_lo _, z_hi _⟩
        refine lv_iload X.1 X.2.1 dX8_payFor_58 (lv_at hl 1 rfl) ?_
        refine lv_aload_n X.1 X.2.1 dX8_payFor_60 rfl (lv_at hl 2 rfl) ?_
        refine r_getI (g := 806) (x := v_5) X hw ha_x rfl 6 ev_5 (by decide) rfl inn_X8_payFor_8 (by decide) (X.2.2.2.1 (.fieldLink RX8 113 "SilkMill$Store" "faults" "I") (by decide +kernel)) rfl (gv_806 _ _) dX8_payFor_61 ?_
        refine lv_icmp_ge (tgt := 124) X.1 X.2.1 dX8_payFor_64 (by decide) (fun c_26 => ?_) (fun c_26 => ?_)
        · have z_b_27 := trivial
          have k_28 : i5_21_z ≥ v_5.toInt := z_le rfl hz_i5_21 c_26
          refine lv_iload X.1 X.2.1 dX8_payFor_124 (lv_at hl 0 rfl) ?_
          rw [hQQ]
          exact ret_i X hw hr hlocks (Nat.le_of_ble_eq_true rfl) (Nat.le_of_ble_eq_true rfl) ⟨rfl, ⟨z_lo _, z_hi _, by rw [iv_22, show (i5_21_z).toNat = (pI S 806 x).toInt.toNat by omega]⟩⟩ dX8_payFor_126
        · have z_b_29 := trivial
          have k_30 : i5_21_z < v_5.toInt := z_nle rfl hz_i5_21 c_26
          refine lv_aload_n X.1 X.2.1 dX8_payFor_67 rfl (lv_at hl 2 rfl) ?_
          refine lv_aload_n X.1 X.2.1 dX8_payFor_68 rfl (lv_at hl 2 rfl) ?_
          obtain ⟨q_31, h_32, h_33, h_34⟩ := gQ_8_809 hG ha_x
          refine r_getR (g := 809) X hw ha_x rfl 9 h_32 (by decide) rfl inn_X8_payFor_8 (by decide) (X.2.2.2.1 (.fieldLink RX8 21 "SilkMill$Store" "faultSkeins" "[I") (by decide +kernel)) rfl (gv_809 _ _) dX8_payFor_69 ?_
          refine lv_iload X.1 X.2.1 dX8_payFor_72 (lv_at hl 1 rfl) ?_
          refine r_iald X hw h_33 rfl (by rw [h_34]; exact z_ix hz_i5_21 (by omega) (by omega)) dX8_payFor_74 ?_
          refine lv_topi (fun v_35 ev_35 => ?_)
          have rg_36 := And.intro (z_lo v_35) (z_hi v_35)
          have ev_35 := ev_35.symm
          have zf_37 : zA S x 809 (i5_21_z).toNat = v_35.toInt := (zA_of h_32 hz_i5_21 (by omega) ev_35)
          refine k_q (rm := { frames := 1, cells := 0, slots := 0, locals := 48 }) (av := [.ref x, .int (v_35)]) X hw (va_runV (As := [.int (v_35)]) (rest := []) (cfix X) (k_X8_skeinAt7 l G cy κ S _ x (v_35) (v_35.toInt) hG ha_x rfl) (cwV 1 X.2.2.2.1 gX8_payFor_X8_skeinAt rfl rfl rfl (by decide +kernel) ⟨Nat.le_of_ble_eq_true rfl, Nat.le_of_ble_eq_true rfl⟩) (pre_V X hw _ ha_x rfl (by decide) rfl) rfl rfl hl.1 rfl (lv_room (Nat.le_of_ble_eq_true rfl)) dX8_payFor_75 ⟨Nat.le_of_ble_eq_true rfl, Nat.le_of_ble_eq_true rfl⟩) 0 0 (Nat.le_of_ble_eq_true rfl) (Nat.le_of_ble_eq_true rfl) (fun rr_38 S_39 H locs hp hw hfr hnw => ?_)
          obtain ⟨e2, hp⟩ := hp
          subst e2
          obtain ⟨hq_40, hnf_41⟩ := hp
          rcases rr_38 with _ | q_42
          · refine W.eq (g2 := F0 m 78 ls (.null :: [])) rfl ?_
            have nf_43 := hnf_41 rfl
            refine lv_astoreN (lv' := [(6, .null), (4, .int (i4_20)), (5, .int (i5_21)), (0, .ref x), (1, .int (a1)), (2, .int (a2)), (3, .int (a3))]) X.1 X.2.1 dX8_payFor_78 hl (by decide) rfl (fun ls hl => ?_)
            refine lv_aloadN X.1 X.2.1 dX8_payFor_80 (lv_at hl 0 rfl) ?_
            refine lv_ifnullN (tgt := 118) X.1 X.2.1 dX8_payFor_82 (by decide) ?_
            obtain ⟨x_44, ex_44⟩ : ∃ y : Int32, y = i5_21 + 1 := ⟨_, rfl⟩
            have z_45 : x_44.toInt = i5_21_z + 1 := z_add ex_44 hz_i5_21 ti_1 (by omega) (by omega)
            refine lv_iinc (v := x_44) (lv' := [(5, .int (x_44)), (6, .null), (4, .int (i4_20)), (0, .ref x), (1, .int (a1)), (2, .int (a2)), (3, .int (a3))]) X.1 X.2.1 dX8_payFor_118 hl (k := 2) rfl (by rw [ex_44]; rfl) (by decide) rfl (fun ls hl => ?_)
            refine lv_goto (tgt := 58) X.1 X.2.1 dX8_payFor_121 (by decide) ?_
            exact ih _ (by omega) _ _ _ (i4_20) (i4_20_z) (x_44) (x_44.toInt) rfl hw hz_i4_20 rfl (by omega) (by rw [show (x_44.toInt).toNat = (i5_21_z).toNat + 1 by omega, pyF_n (fun z => pyC_out (by rw [zf_37]; intro h; exact nf_43 (SN_of hp_0) ⟨h.1, by omega⟩) z.1)]; exact iv_22) (by omega) (lv_sub hl [2, 0, 3, 4, 5, 6] rfl)
          · refine W.eq (g2 := F0 m 78 ls (.ref q_42 :: [])) rfl ?_
            obtain ⟨ha_46, f_47, f_48, f_49⟩ := hq_40 _ rfl
            obtain ⟨s_50, hs_51⟩ : ∃ s, Ls[(v_35.toInt).toNat]? = some s := ⟨_, List.getElem?_eq_getElem (by omega)⟩
            obtain ⟨q_52, j_53, g_54, fo_55, j_56, j_57, ⟨⟨d_58, d_59, d_60, d_61⟩, d_62, d_63⟩, ⟨k_64, k_65, k_66⟩, j_67⟩ := hp_0.2 _ _ hs_51
            have eq_68 : q_52 = q_42 := Option.some.inj (j_53.symm.trans f_49)
            rw [eq_68] at j_56 d_58 d_59 d_62 d_63 j_67
            have ha_69 := sk_str hG ha_46 j_56
            refine lv_astore (lv' := [(6, .ref q_42), (4, .int (i4_20)), (5, .int (i5_21)), (0, .ref x), (1, .int (a1)), (2, .int (a2)), (3, .int (a3))]) X.1 X.2.1 dX8_payFor_78 hl (by decide) rfl (fun ls hl => ?_)
            refine lv_aload X.1 X.2.1 dX8_payFor_80 (lv_at hl 0 rfl) ?_
            refine lv_ifnull X.1 X.2.1 dX8_payFor_82 ?_
            refine lv_aload X.1 X.2.1 dX8_payFor_85 (lv_at hl 0 rfl) ?_
            refine lv_iload_n X.1 X.2.1 dX8_payFor_87 rfl (lv_at hl 4 rfl) ?_
            refine lv_iload_n X.1 X.2.1 dX8_payFor_88 rfl (lv_at hl 5 rfl) ?_
            refine k_i (rm := { frames := 1, cells := 0, slots := 0, locals := 48 }) (av := [.ref q_42, .int (a1), .int (a2)]) X hw (va_runV (As := [.int (a1), .int (a2)]) (rest := []) (cfix X) (k_X7_isOf8 l G cy κ S _ q_42 (a1) (a1_z) (a2) (a2_z) hG ha_46 hz_a1 hz_a2) (cwV 2 X.2.2.2.1 gX8_payFor_X7_isOf rfl rfl rfl (by decide +kernel) ⟨Nat.le_of_ble_eq_true rfl, Nat.le_of_ble_eq_true rfl⟩) (pre_V X hw _ ha_46 rfl (by decide) rfl) rfl rfl hl.1 rfl (lv_room (Nat.le_of_ble_eq_true rfl)) dX8_payFor_89 ⟨Nat.le_of_ble_eq_true rfl, Nat.le_of_ble_eq_true rfl⟩) 0 0 (Nat.le_of_ble_eq_true rfl) (Nat.le_of_ble_eq_true rfl) (fun rr_70 S_71 H locs hp hw hfr hnw => ?_)
            obtain ⟨e2, hp⟩ := hp
            subst e2
            rcases hp with ⟨f_72, er_73⟩ | ⟨f_72, er_73⟩ <;> subst er_73
            · have z_b_74 := trivial
              refine lv_if_eq (tgt := 118) X.1 X.2.1 dX8_payFor_92 (by decide) (fun c_75 => absurd c_75 (by decide)) (fun c_75 => ?_)
              refine lv_aload_n X.1 X.2.1 dX8_payFor_95 rfl (lv_at hl 3 rfl) ?_
              obtain ⟨q_76, h_77, h_78, h_79⟩ := gQ_8_810 hG ha_x
              refine r_getR (g := 810) X hw ha_x rfl 10 h_77 (by decide) rfl inn_X8_payFor_8 (by decide) (X.2.2.2.1 (.fieldLink RX8 24 "SilkMill$Store" "faultDays" "[I") (by decide +kernel)) rfl (gv_810 _ _) dX8_payFor_96 ?_
              refine lv_iload X.1 X.2.1 dX8_payFor_99 (lv_at hl 2 rfl) ?_
              refine r_iald X hw h_78 rfl (by rw [h_79]; exact z_ix hz_i5_21 (by omega) (by omega)) dX8_payFor_101 ?_
              refine lv_topi (fun v_80 ev_80 => ?_)
              have rg_81 := And.intro (z_lo v_80) (z_hi v_80)
              have ev_80 := ev_80.symm
              have zf_82 : zA S x 810 (i5_21_z).toNat = v_80.toInt := (zA_of h_77 hz_i5_21 (by omega) ev_80)
              refine lv_iload_n X.1 X.2.1 dX8_payFor_102 rfl (lv_at hl 6 rfl) ?_
              refine lv_icmp_gt (tgt := 118) X.1 X.2.1 dX8_payFor_103 (by decide) (fun c_83 => ?_) (fun c_83 => ?_)
              · have z_b_84 := trivial
                have k_85 : v_80.toInt > a3_z := z_lt hz_a3 rfl c_83
                obtain ⟨x_86, ex_86⟩ : ∃ y : Int32, y = i5_21 + 1 := ⟨_, rfl⟩
                have z_87 : x_86.toInt = i5_21_z + 1 := z_add ex_86 hz_i5_21 ti_1 (by omega) (by omega)
                refine lv_iinc (v := x_86) (lv' := [(5, .int (x_86)), (6, .ref q_42), (4, .int (i4_20)), (0, .ref x), (1, .int (a1)), (2, .int (a2)), (3, .int (a3))]) X.1 X.2.1 dX8_payFor_118 hl (k := 2) rfl (by rw [ex_86]; rfl) (by decide) rfl (fun ls hl => ?_)
                refine lv_goto (tgt := 58) X.1 X.2.1 dX8_payFor_121 (by decide) ?_
                exact ih _ (by omega) _ _ _ (i4_20) (i4_20_z) (x_86) (x_86.toInt) rfl hw hz_i4_20 rfl (by omega) (by rw [show (x_86.toInt).toNat = (i5_21_z).toNat + 1 by omega, pyF_n (fun z => by have h := z.2; omega)]; exact iv_22) (by omega) (lv_sub hl [2, 0, 3, 4, 5, 6] rfl)
              · have z_b_88 := trivial
                have k_89 : v_80.toInt ≤ a3_z := z_nlt hz_a3 rfl c_83
                refine lv_iload X.1 X.2.1 dX8_payFor_106 (lv_at hl 1 rfl) ?_
                refine lv_aload_n X.1 X.2.1 dX8_payFor_108 rfl (lv_at hl 3 rfl) ?_
                obtain ⟨q_90, h_91, h_92, h_93⟩ := gQ_8_811 hG ha_x
                refine r_getR (g := 811) X hw ha_x rfl 11 h_91 (by decide) rfl inn_X8_payFor_8 (by decide) (X.2.2.2.1 (.fieldLink RX8 27 "SilkMill$Store" "faultAmounts" "[I") (by decide +kernel)) rfl (gv_811 _ _) dX8_payFor_109 ?_
                refine lv_iload X.1 X.2.1 dX8_payFor_112 (lv_at hl 2 rfl) ?_
                refine r_iald X hw h_92 rfl (by rw [h_93]; exact z_ix hz_i5_21 (by omega) (by omega)) dX8_payFor_114 ?_
                refine lv_topi (fun v_94 ev_94 => ?_)
                have rg_95 := And.intro (z_lo v_94) (z_hi v_94)
                have ev_94 := ev_94.symm
                have zf_96 : zA S x 811 (i5_21_z).toNat = v_94.toInt := (zA_of h_91 hz_i5_21 (by omega) ev_94)
                refine lv_isub X.1 X.2.1 dX8_payFor_115 ?_
                refine lv_topi (fun v_97 ev_97 => ?_)
                have rg_98 := And.intro (z_lo v_97) (z_hi v_97)
                refine lv_istore (lv' := [(4, .int (v_97)), (6, .ref q_42), (5, .int (i5_21)), (0, .ref x), (1, .int (a1)), (2, .int (a2)), (3, .int (a3))]) X.1 X.2.1 dX8_payFor_116 hl (by decide) rfl (fun ls hl => ?_)
                obtain ⟨x_99, ex_99⟩ : ∃ y : Int32, y = i5_21 + 1 := ⟨_, rfl⟩
                have z_100 : x_99.toInt = i5_21_z + 1 := z_add ex_99 hz_i5_21 ti_1 (by omega) (by omega)
                refine lv_iinc (v := x_99) (lv' := [(5, .int (x_99)), (4, .int (v_97)), (6, .ref q_42), (0, .ref x), (1, .int (a1)), (2, .int (a2)), (3, .int (a3))]) X.1 X.2.1 dX8_payFor_118 hl (k := 2) rfl (by rw [ex_99]; rfl) (by decide) rfl (fun ls hl => ?_)
                refine lv_goto (tgt := 58) X.1 X.2.1 dX8_payFor_121 (by decide) ?_
                exact ih _ (by omega) _ _ _ (v_97) (v_97.toInt) (x_99) (x_99.toInt) rfl hw rfl rfl (by omega) (by rw [show (x_99.toInt).toNat = (i5_21_z).toNat + 1 by omega, pyF_y ⟨s_50, by omega, (by rw [zf_37]; exact hs_51), (by rw [← d_58, ← d_62]; exact f_72)⟩ (by omega), ← iv_22, zf_96, ev_97, show Int32.ofInt (v_94.toInt) = v_94 from (oi_of rfl).symm]) (by omega) (lv_sub hl [1, 0, 3, 4, 5, 6] rfl)
            · have z_b_101 := trivial
              refine lv_if_eq (tgt := 118) X.1 X.2.1 dX8_payFor_92 (by decide) (fun c_102 => ?_) (fun c_102 => absurd c_102 (by decide))
              obtain ⟨x_103, ex_103⟩ : ∃ y : Int32, y = i5_21 + 1 := ⟨_, rfl⟩
              have z_104 : x_103.toInt = i5_21_z + 1 := z_add ex_103 hz_i5_21 ti_1 (by omega) (by omega)
              refine lv_iinc (v := x_103) (lv' := [(5, .int (x_103)), (6, .ref q_42), (4, .int (i4_20)), (0, .ref x), (1, .int (a1)), (2, .int (a2)), (3, .int (a3))]) X.1 X.2.1 dX8_payFor_118 hl (k := 2) rfl (by rw [ex_103]; rfl) (by decide) rfl (fun ls hl => ?_)
              refine lv_goto (tgt := 58) X.1 X.2.1 dX8_payFor_121 (by decide) ?_
              exact ih _ (by omega) _ _ _ (i4_20) (i4_20_z) (x_103) (x_103.toInt) rfl hw hz_i4_20 rfl (by omega) (by rw [show (x_103.toInt).toNat = (i5_21_z).toNat + 1 by omega, pyF_n (fun z => pyC_no (by rw [zf_37]; exact hs_51) (by rw [← d_58, ← d_62]; exact f_72) z.1)]; exact iv_22) (by omega) (lv_sub hl [2, 0, 3, 4, 5, 6] rfl)
      exact L_19 _ _ _ _ (i4_10) (i4_10_z) (0) (0) rfl hw hz_i4_10 ti_0 (by omega) (by show _ = pyS (siS S) (mA S x 807) a1_z a2_z Ls; rw [iv_12, show (i5_11_z).toNat = Ls.length by omega, List.take_length]) (by omega) (lv_sub hl [1, 0, 2, 3, 4, 5] rfl)
    · have z_b_105 := trivial
      have k_106 : i5_11_z < v_1.toInt := z_nle rfl hz_i5_11 c_16
      refine lv_aload_n X.1 X.2.1 dX8_payFor_15 rfl (lv_at hl 2 rfl) ?_
      refine lv_iload X.1 X.2.1 dX8_payFor_16 (lv_at hl 1 rfl) ?_
      refine k_q (rm := { frames := 1, cells := 0, slots := 0, locals := 48 }) (av := [.ref x, .int (i5_11)]) X hw (va_runV (As := [.int (i5_11)]) (rest := []) (cfix X) (k_X8_skeinAt7 l G cy κ S _ x (i5_11) (i5_11_z) hG ha_x hz_i5_11) (cwV 1 X.2.2.2.1 gX8_payFor_X8_skeinAt rfl rfl rfl (by decide +kernel) ⟨Nat.le_of_ble_eq_true rfl, Nat.le_of_ble_eq_true rfl⟩) (pre_V X hw _ ha_x rfl (by decide) rfl) rfl rfl hl.1 rfl (lv_room (Nat.le_of_ble_eq_true rfl)) dX8_payFor_18 ⟨Nat.le_of_ble_eq_true rfl, Nat.le_of_ble_eq_true rfl⟩) 0 0 (Nat.le_of_ble_eq_true rfl) (Nat.le_of_ble_eq_true rfl) (fun rr_107 S_108 H locs hp hw hfr hnw => ?_)
      obtain ⟨e2, hp⟩ := hp
      subst e2
      obtain ⟨hq_109, hnf_110⟩ := hp
      rcases rr_107 with _ | q_111
      · refine W.eq (g2 := F0 m 21 ls (.null :: [])) rfl ?_
        have nf_112 := hnf_110 rfl
        refine lv_astoreN (lv' := [(6, .null), (4, .int (i4_10)), (5, .int (i5_11)), (0, .ref x), (1, .int (a1)), (2, .int (a2)), (3, .int (a3))]) X.1 X.2.1 dX8_payFor_21 hl (by decide) rfl (fun ls hl => ?_)
        exact absurd ⟨by omega, by omega⟩ (nf_112 (SN_of hp_0))
      · refine W.eq (g2 := F0 m 21 ls (.ref q_111 :: [])) rfl ?_
        obtain ⟨ha_113, f_114, f_115, f_116⟩ := hq_109 _ rfl
        obtain ⟨s_117, hs_118⟩ : ∃ s, Ls[(i5_11_z).toNat]? = some s := ⟨_, List.getElem?_eq_getElem (by omega)⟩
        obtain ⟨q_119, j_120, g_121, fo_122, j_123, j_124, ⟨⟨d_125, d_126, d_127, d_128⟩, d_129, d_130⟩, ⟨k_131, k_132, k_133⟩, j_134⟩ := hp_0.2 _ _ hs_118
        have eq_135 : q_119 = q_111 := Option.some.inj (j_120.symm.trans f_116)
        rw [eq_135] at j_123 d_125 d_126 d_129 d_130 j_134
        have ha_136 := sk_str hG ha_113 j_123
        refine lv_astore (lv' := [(6, .ref q_111), (4, .int (i4_10)), (5, .int (i5_11)), (0, .ref x), (1, .int (a1)), (2, .int (a2)), (3, .int (a3))]) X.1 X.2.1 dX8_payFor_21 hl (by decide) rfl (fun ls hl => ?_)
        refine lv_aload X.1 X.2.1 dX8_payFor_23 (lv_at hl 0 rfl) ?_
        refine lv_ifnull X.1 X.2.1 dX8_payFor_25 ?_
        refine lv_aload X.1 X.2.1 dX8_payFor_28 (lv_at hl 0 rfl) ?_
        refine lv_iload_n X.1 X.2.1 dX8_payFor_30 rfl (lv_at hl 4 rfl) ?_
        refine lv_iload_n X.1 X.2.1 dX8_payFor_31 rfl (lv_at hl 5 rfl) ?_
        refine k_i (rm := { frames := 1, cells := 0, slots := 0, locals := 48 }) (av := [.ref q_111, .int (a1), .int (a2)]) X hw (va_runV (As := [.int (a1), .int (a2)]) (rest := []) (cfix X) (k_X7_isOf8 l G cy κ S _ q_111 (a1) (a1_z) (a2) (a2_z) hG ha_113 hz_a1 hz_a2) (cwV 2 X.2.2.2.1 gX8_payFor_X7_isOf rfl rfl rfl (by decide +kernel) ⟨Nat.le_of_ble_eq_true rfl, Nat.le_of_ble_eq_true rfl⟩) (pre_V X hw _ ha_113 rfl (by decide) rfl) rfl rfl hl.1 rfl (lv_room (Nat.le_of_ble_eq_true rfl)) dX8_payFor_32 ⟨Nat.le_of_ble_eq_true rfl, Nat.le_of_ble_eq_true rfl⟩) 0 0 (Nat.le_of_ble_eq_true rfl) (Nat.le_of_ble_eq_true rfl) (fun rr_137 S_138 H locs hp hw hfr hnw => ?_)
        obtain ⟨e2, hp⟩ := hp
        subst e2
        rcases hp with ⟨f_139, er_140⟩ | ⟨f_139, er_140⟩ <;> subst er_140
        · have z_b_141 := trivial
          refine lv_if_eq (tgt := 49) X.1 X.2.1 dX8_payFor_35 (by decide) (fun c_142 => absurd c_142 (by decide)) (fun c_142 => ?_)
          refine lv_iload X.1 X.2.1 dX8_payFor_38 (lv_at hl 1 rfl) ?_
          refine lv_aload_n X.1 X.2.1 dX8_payFor_40 rfl (lv_at hl 3 rfl) ?_
          refine lv_aload X.1 X.2.1 dX8_payFor_41 (lv_at hl 0 rfl) ?_
          refine k_i (rm := { frames := 2, cells := 0, slots := 0, locals := 96 }) (av := [.ref x, .ref q_111]) X hw (va_runV (As := [.ref q_111]) (rest := [.int (i4_10)]) (cfix X) (k_X8_priceOf8 l G cy κ S _ x q_111 g_121 hG ha_x ha_113 j_123) (cwV 1 X.2.2.2.1 gX8_payFor_X8_priceOf rfl rfl rfl (by decide +kernel) ⟨Nat.le_of_ble_eq_true rfl, Nat.le_of_ble_eq_true rfl⟩) (pre_V X hw _ ha_x rfl (by decide) rfl) rfl rfl hl.1 rfl (lv_room (Nat.le_of_ble_eq_true rfl)) dX8_payFor_43 ⟨Nat.le_of_ble_eq_true rfl, Nat.le_of_ble_eq_true rfl⟩) 0 0 (Nat.le_of_ble_eq_true rfl) (Nat.le_of_ble_eq_true rfl) (fun rr_143 S_144 H locs hp hw hfr hnw => ?_)
          obtain ⟨e2, hp⟩ := hp
          subst e2
          obtain ⟨po_145, po_146, po_147⟩ := hp
          refine lv_iadd X.1 X.2.1 dX8_payFor_46 ?_
          refine lv_topi (fun v_148 ev_148 => ?_)
          have rg_149 := And.intro (z_lo v_148) (z_hi v_148)
          refine lv_istore (lv' := [(4, .int (v_148)), (6, .ref q_111), (5, .int (i5_11)), (0, .ref x), (1, .int (a1)), (2, .int (a2)), (3, .int (a3))]) X.1 X.2.1 dX8_payFor_47 hl (by decide) rfl (fun ls hl => ?_)
          obtain ⟨x_150, ex_150⟩ : ∃ y : Int32, y = i5_11 + 1 := ⟨_, rfl⟩
          have z_151 : x_150.toInt = i5_11_z + 1 := z_add ex_150 hz_i5_11 ti_1 (by omega) (by omega)
          refine lv_iinc (v := x_150) (lv' := [(5, .int (x_150)), (4, .int (v_148)), (6, .ref q_111), (0, .ref x), (1, .int (a1)), (2, .int (a2)), (3, .int (a3))]) X.1 X.2.1 dX8_payFor_49 hl (k := 2) rfl (by rw [ex_150]; rfl) (by decide) rfl (fun ls hl => ?_)
          refine lv_goto (tgt := 6) X.1 X.2.1 dX8_payFor_52 (by decide) ?_
          exact ih _ (by omega) _ _ _ (v_148) (v_148.toInt) (x_150) (x_150.toInt) rfl hw rfl rfl (by omega) (by rw [show (x_150.toInt).toNat = (i5_11_z).toNat + 1 by omega, pyS_y hs_118 (by rw [← d_125, ← d_129]; exact f_139), ← iv_12, ← k_132, ← d_126, ev_148]; exact congrArg (fun y => i4_10 + y) po_147) (by omega) (lv_sub hl [1, 0, 3, 4, 5, 6] rfl)
        · have z_b_152 := trivial
          refine lv_if_eq (tgt := 49) X.1 X.2.1 dX8_payFor_35 (by decide) (fun c_153 => ?_) (fun c_153 => absurd c_153 (by decide))
          obtain ⟨x_154, ex_154⟩ : ∃ y : Int32, y = i5_11 + 1 := ⟨_, rfl⟩
          have z_155 : x_154.toInt = i5_11_z + 1 := z_add ex_154 hz_i5_11 ti_1 (by omega) (by omega)
          refine lv_iinc (v := x_154) (lv' := [(5, .int (x_154)), (6, .ref q_111), (4, .int (i4_10)), (0, .ref x), (1, .int (a1)), (2, .int (a2)), (3, .int (a3))]) X.1 X.2.1 dX8_payFor_49 hl (k := 2) rfl (by rw [ex_154]; rfl) (by decide) rfl (fun ls hl => ?_)
          refine lv_goto (tgt := 6) X.1 X.2.1 dX8_payFor_52 (by decide) ?_
          exact ih _ (by omega) _ _ _ (i4_10) (i4_10_z) (x_154) (x_154.toInt) rfl hw hz_i4_10 rfl (by omega) (by rw [show (x_154.toInt).toNat = (i5_11_z).toNat + 1 by omega, pyS_n hs_118 (by rw [← d_125, ← d_129]; exact f_139)]; exact iv_12) (by omega) (lv_sub hl [2, 0, 3, 4, 5, 6] rfl)
  exact L_9 _ _ _ _ (0) (0) (0) (0) rfl hw ti_0 ti_0 (by omega) rfl (by omega) (lv_sub hl [1, 0, 2, 3, 4, 5] rfl)
set_option maxHeartbeats 4000000 in
set_option maxRecDepth 100000 in
theorem k_X11_pay8 (l : Launch) (G : va_G) (cy : Nat → ClassId) (κ : Nat → Nat) (S : PS) (sz : Nat) (x : Nat) (a1 : Int32) (a1_z : Int) (a2 : Int32) (a2_z : Int) (a3 : Int32) (a3_z : Int) (D : Nat → Prop) (K : Nat) (Ls : List Sk) (hG : GX S) (ha_x : At S x 11) (hz_a1 : a1.toInt = a1_z) (hz_a2 : a2.toInt = a2_z) (hz_a3 : a3.toInt = a3_z) (hp_0 : pR S 1107 x = some K) (hp_1 : SkV S D K Ls) : Ci l yX11_pay wsX11_pay ({ frames := 4, cells := 0, slots := 0, locals := 192 }) G cy κ S sz [.ref x, .int (a1), .int (a2), .int (a3)] (fun (r : Int32) (S9 : PS) => S = S9 ∧ (-2147483648 ≤ r.toInt ∧ r.toInt ≤ 2147483647 ∧ (((0 ≤ a1_z ∧ a1_z < (pI S 1104 x).toInt) ∧ (0 ≤ a2_z ∧ a2_z ≤ (pI S 801 K).toInt) ∧ 0 ≤ a3_z ∧ a3_z ≤ (pI S 801 K).toInt) → PN S x → r = pyF Ls (zA S K 809) (zA S K 810) (zA S K 811) a1_z a2_z a3_z (pyS (siS S) (mA S K 807) a1_z a2_z Ls) (pI S 806 K).toInt.toNat) ∧ (PN S x → ¬ ((0 ≤ a1_z ∧ a1_z < (pI S 1104 x).toInt) ∧ (0 ≤ a2_z ∧ a2_z ≤ (pI S 801 K).toInt) ∧ 0 ≤ a3_z ∧ a3_z ≤ (pI S 801 K).toInt) → r.toInt = 0))) := by
  refine ent_m (cc := cX11_pay) (maxL := 4) (ret := (some .int)) (by decide) rfl (Nat.le_of_ble_eq_true rfl) ?_
  intro p e s m below meth c ls X hr hlocks hin hw hl hsz
  subst hsz
  have X : Cx p c cX11_pay 4 s [.ref x, .int (a1), .int (a2), .int (a3)].toArray wsX11_pay RX11 m G cy κ (AS S s.heap.size) := X
  have hl : lv_has ls 4 [(0, .ref x), (1, .int (a1)), (2, .int (a2)), (3, .int (a3))] := hl
  have rg_a1 : (-2147483648) ≤ a1_z ∧ a1_z ≤ 2147483647 := by rw [← hz_a1]; exact ⟨z_lo _, z_hi _⟩
  have rg_a2 : (-2147483648) ≤ a2_z ∧ a2_z ≤ 2147483647 := by rw [← hz_a2]; exact ⟨z_lo _, z_hi _⟩
  have rg_a3 : (-2147483648) ≤ a3_z ∧ a3_z ≤ 2147483647 := by rw [← hz_a3]; exact ⟨z_lo _, z_hi _⟩
  have haK := st_at hG ha_x hp_0
  obtain ⟨v_1, ev_1⟩ : ∃ v, pI S 800 K = v := ⟨_, rfl⟩
  have rg_2 := gI_8_800 hG haK; rw [ev_1] at rg_2
  have pz_3 : (pI S 800 K).toInt = v_1.toInt := by rw [ev_1]
  have pz_4 : (pI S 800 K).toInt = v_1.toInt := (congrArg Int32.toInt ev_1).trans rfl
  have hkl := hp_1.1
  obtain ⟨v_5, ev_5⟩ : ∃ v, pI S 1104 x = v := ⟨_, rfl⟩
  have rg_6 := gI_11_1104 hG ha_x; rw [ev_5] at rg_6
  have pz_7 : (pI S 1104 x).toInt = v_5.toInt := by rw [ev_5]
  have pz_8 : (pI S 1104 x).toInt = v_5.toInt := (congrArg Int32.toInt ev_5).trans rfl
  obtain ⟨v_9, ev_9⟩ : ∃ v, pI S 801 K = v := ⟨_, rfl⟩
  have rg_11 := And.intro (z_lo v_9) (z_hi v_9)
  have pz_12 : (pI S 801 K).toInt = v_9.toInt := by rw [ev_9]
  have pz_13 : (pI S 801 K).toInt = v_9.toInt := (congrArg Int32.toInt ev_9).trans rfl
  refine lv_aload_n X.1 X.2.1 dX11_pay_0 rfl (lv_at hl 0 rfl) ?_
  refine lv_iload_n X.1 X.2.1 dX11_pay_1 rfl (lv_at hl 1 rfl) ?_
  refine k_q (rm := { frames := 1, cells := 0, slots := 0, locals := 48 }) (av := [.ref x, .int (a1)]) X hw (va_runV (As := [.int (a1)]) (rest := []) (cfix X) (k_X11_potAt3 l G cy κ S _ x (a1) (a1_z) hG ha_x hz_a1) (cwV 1 X.2.2.2.1 gX11_pay_X11_potAt rfl rfl rfl (by decide +kernel) ⟨Nat.le_of_ble_eq_true rfl, Nat.le_of_ble_eq_true rfl⟩) (pre_V X hw _ ha_x rfl (by decide) rfl) rfl rfl hl.1 rfl (lv_room (Nat.le_of_ble_eq_true rfl)) dX11_pay_2 ⟨Nat.le_of_ble_eq_true rfl, Nat.le_of_ble_eq_true rfl⟩) 0 0 (Nat.le_of_ble_eq_true rfl) (Nat.le_of_ble_eq_true rfl) (fun rr_14 S_15 H locs hp hw hfr hnw => ?_)
  obtain ⟨e2, hp⟩ := hp
  subst e2
  obtain ⟨hq_16, hnf_17⟩ := hp
  rcases rr_14 with _ | q_18
  · refine W.eq (g2 := F0 m 5 ls (.null :: [])) rfl ?_
    have nf_19 := hnf_17 rfl
    refine lv_ifnullN (tgt := 38) X.1 X.2.1 dX11_pay_5 (by decide) ?_
    refine lv_iconst (v := 0) X.1 X.2.1 dX11_pay_38 (by decide) ?_
    exact ret_i X hw hr hlocks (Nat.le_of_ble_eq_true rfl) (Nat.le_of_ble_eq_true rfl) ⟨rfl, ⟨z_lo _, z_hi _, fun h hPN => absurd h.1 (nf_19 hPN), fun _ _ => by decide⟩⟩ dX11_pay_39
  · refine W.eq (g2 := F0 m 5 ls (.ref q_18 :: [])) rfl ?_
    obtain ⟨ha_20, f_21, f_22, f_23⟩ := hq_16 _ rfl
    refine lv_ifnull X.1 X.2.1 dX11_pay_5 ?_
    refine lv_iload_n X.1 X.2.1 dX11_pay_8 rfl (lv_at hl 2 rfl) ?_
    refine lv_iconst (v := 0) X.1 X.2.1 dX11_pay_9 (by decide) ?_
    refine lv_aload_n X.1 X.2.1 dX11_pay_10 rfl (lv_at hl 0 rfl) ?_
    refine r_getR (g := 1107) X hw ha_x rfl 7 hp_0 (by decide) rfl inn_X11_pay_11 (by decide) (X.2.2.2.1 (.fieldLink RX11 42 "SilkMill" "store" "LSilkMill$Store;") (by decide +kernel)) rfl (gv_1107 _ _) dX11_pay_11 ?_
    refine r_getI (g := 801) (x := v_9) X hw haK rfl 1 ev_9 (by decide) rfl inn_X11_pay_8 (by decide) (X.2.2.2.1 (.fieldLink RX11 349 "SilkMill$Store" "today" "I") (by decide +kernel)) rfl (gv_801 _ _) dX11_pay_14 ?_
    refine k_i (rm := { frames := 1, cells := 0, slots := 0, locals := 48 }) (av := [.int (a2), .int 0, .int (v_9)]) X hw (va_runS (As := [.int (a2), .int 0, .int (v_9)]) (rest := []) (cfix X) (k_X11_isWithin l G cy κ S _ (a2) (a2_z) (0) (0) (v_9) (v_9.toInt) hG hz_a2 ti_0 rfl) (cwS 3 X.2.2.2.1 gX11_pay_X11_isWithin rfl rfl rfl (by decide +kernel) ⟨Nat.le_of_ble_eq_true rfl, Nat.le_of_ble_eq_true rfl⟩) (pre_S X hw _) rfl rfl hl.1 rfl (lv_room (Nat.le_of_ble_eq_true rfl)) dX11_pay_17 ⟨Nat.le_of_ble_eq_true rfl, Nat.le_of_ble_eq_true rfl⟩) 0 0 (Nat.le_of_ble_eq_true rfl) (Nat.le_of_ble_eq_true rfl) (fun rr_24 S_25 H locs hp hw hfr hnw => ?_)
    obtain ⟨e2, hp⟩ := hp
    subst e2
    rcases hp with ⟨f_26, er_27⟩ | ⟨f_26, er_27⟩ <;> subst er_27
    · have z_b_28 := trivial
      refine lv_if_eq (tgt := 38) X.1 X.2.1 dX11_pay_20 (by decide) (fun c_29 => absurd c_29 (by decide)) (fun c_29 => ?_)
      refine lv_iload_n X.1 X.2.1 dX11_pay_23 rfl (lv_at hl 3 rfl) ?_
      refine lv_iconst (v := 0) X.1 X.2.1 dX11_pay_24 (by decide) ?_
      refine lv_aload_n X.1 X.2.1 dX11_pay_25 rfl (lv_at hl 0 rfl) ?_
      refine r_getR (g := 1107) X hw ha_x rfl 7 hp_0 (by decide) rfl inn_X11_pay_11 (by decide) (X.2.2.2.1 (.fieldLink RX11 42 "SilkMill" "store" "LSilkMill$Store;") (by decide +kernel)) rfl (gv_1107 _ _) dX11_pay_26 ?_
      refine r_getI (g := 801) (x := v_9) X hw haK rfl 1 ev_9 (by decide) rfl inn_X11_pay_8 (by decide) (X.2.2.2.1 (.fieldLink RX11 349 "SilkMill$Store" "today" "I") (by decide +kernel)) rfl (gv_801 _ _) dX11_pay_29 ?_
      refine k_i (rm := { frames := 1, cells := 0, slots := 0, locals := 48 }) (av := [.int (a3), .int 0, .int (v_9)]) X hw (va_runS (As := [.int (a3), .int 0, .int (v_9)]) (rest := []) (cfix X) (k_X11_isWithin l G cy κ S _ (a3) (a3_z) (0) (0) (v_9) (v_9.toInt) hG hz_a3 ti_0 rfl) (cwS 3 X.2.2.2.1 gX11_pay_X11_isWithin rfl rfl rfl (by decide +kernel) ⟨Nat.le_of_ble_eq_true rfl, Nat.le_of_ble_eq_true rfl⟩) (pre_S X hw _) rfl rfl hl.1 rfl (lv_room (Nat.le_of_ble_eq_true rfl)) dX11_pay_32 ⟨Nat.le_of_ble_eq_true rfl, Nat.le_of_ble_eq_true rfl⟩) 0 0 (Nat.le_of_ble_eq_true rfl) (Nat.le_of_ble_eq_true rfl) (fun rr_30 S_31 H locs hp hw hfr hnw => ?_)
      obtain ⟨e2, hp⟩ := hp
      subst e2
      rcases hp with ⟨f_32, er_33⟩ | ⟨f_32, er_33⟩ <;> subst er_33
      · have z_b_34 := trivial
        refine lv_if_ne (tgt := 40) X.1 X.2.1 dX11_pay_35 (by decide) (fun c_35 => ?_) (fun c_35 => absurd c_35 (by decide))
        refine lv_aload_n X.1 X.2.1 dX11_pay_40 rfl (lv_at hl 0 rfl) ?_
        refine r_getR (g := 1107) X hw ha_x rfl 7 hp_0 (by decide) rfl inn_X11_pay_11 (by decide) (X.2.2.2.1 (.fieldLink RX11 42 "SilkMill" "store" "LSilkMill$Store;") (by decide +kernel)) rfl (gv_1107 _ _) dX11_pay_41 ?_
        refine lv_iload_n X.1 X.2.1 dX11_pay_44 rfl (lv_at hl 1 rfl) ?_
        refine lv_iload_n X.1 X.2.1 dX11_pay_45 rfl (lv_at hl 2 rfl) ?_
        refine lv_iload_n X.1 X.2.1 dX11_pay_46 rfl (lv_at hl 3 rfl) ?_
        refine k_i (rm := { frames := 3, cells := 0, slots := 0, locals := 144 }) (av := [.ref K, .int (a1), .int (a2), .int (a3)]) X hw (va_runV (As := [.int (a1), .int (a2), .int (a3)]) (rest := []) (cfix X) (k_X8_payFor8 l G cy κ S _ K (a1) (a1_z) (a2) (a2_z) (a3) (a3_z) D Ls hG haK hz_a1 hz_a2 hz_a3 hp_1) (cwV 3 X.2.2.2.1 gX11_pay_X8_payFor rfl rfl rfl (by decide +kernel) ⟨Nat.le_of_ble_eq_true rfl, Nat.le_of_ble_eq_true rfl⟩) (pre_V X hw _ haK rfl (by decide) rfl) rfl rfl hl.1 rfl (lv_room (Nat.le_of_ble_eq_true rfl)) dX11_pay_47 ⟨Nat.le_of_ble_eq_true rfl, Nat.le_of_ble_eq_true rfl⟩) 0 0 (Nat.le_of_ble_eq_true rfl) (Nat.le_of_ble_eq_true rfl) (fun rr_36 S_37 H locs hp hw hfr hnw => ?_)
        obtain ⟨e2, hp⟩ := hp
        subst e2
        obtain ⟨py_38, py_39, py_40⟩ := hp
        exact ret_i X hw hr hlocks (Nat.le_of_ble_eq_true rfl) (Nat.le_of_ble_eq_true rfl) ⟨rfl, ⟨z_lo _, z_hi _, fun _ _ => py_40, fun _ h => absurd ⟨⟨f_21, f_22⟩, by omega⟩ h⟩⟩ dX11_pay_50
      · have z_b_41 := trivial
        refine lv_if_ne (tgt := 40) X.1 X.2.1 dX11_pay_35 (by decide) (fun c_42 => absurd c_42 (by decide)) (fun c_42 => ?_)
        refine lv_iconst (v := 0) X.1 X.2.1 dX11_pay_38 (by decide) ?_
        exact ret_i X hw hr hlocks (Nat.le_of_ble_eq_true rfl) (Nat.le_of_ble_eq_true rfl) ⟨rfl, ⟨z_lo _, z_hi _, fun h _ => (by exfalso; omega), fun _ _ => by decide⟩⟩ dX11_pay_39
    · have z_b_43 := trivial
      refine lv_if_eq (tgt := 38) X.1 X.2.1 dX11_pay_20 (by decide) (fun c_44 => ?_) (fun c_44 => absurd c_44 (by decide))
      refine lv_iconst (v := 0) X.1 X.2.1 dX11_pay_38 (by decide) ?_
      exact ret_i X hw hr hlocks (Nat.le_of_ble_eq_true rfl) (Nat.le_of_ble_eq_true rfl) ⟨rfl, ⟨z_lo _, z_hi _, fun h _ => (by exfalso; omega), fun _ _ => by decide⟩⟩ dX11_pay_39
