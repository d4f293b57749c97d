/-! ===== pay ===== -/
def gI (v : Int32) : Nat := if 0 ≤ v.toInt ∧ v.toInt ≤ 3 then v.toInt.toNat else 3
theorem gI_y {v : Int32} (h : 0 ≤ v.toInt ∧ v.toInt ≤ 3) : gI v = v.toInt.toNat := if_pos h
theorem gI_n {v : Int32} (h : ¬ (0 ≤ v.toInt ∧ v.toInt ≤ 3)) : gI v = 3 := if_neg h
def pcI (a b : Int32) : Int32 := a * b / 100
/-- the prices of the skeins of a pot and a day -/
def pyS (w : List Mt → Int32) (pr : Nat → Int32) (p a : Int) (L : List Sk) : Int32 := L.foldl (fun acc s => if s.1.1.toInt = p ∧ s.2.1.toInt = a then acc + pcI (w s.2.2.2) (pr (gI s.1.2.1)) else acc) 0
theorem pyS_s {w : List Mt → Int32} {pr : Nat → Int32} {p a : Int} {L : List Sk} {k : Nat} {s : Sk} (h : L[k]? = some s) : pyS w pr p a (L.take (k + 1)) = if s.1.1.toInt = p ∧ s.2.1.toInt = a then pyS w pr p a (L.take k) + pcI (w s.2.2.2) (pr (gI s.1.2.1)) else pyS w pr p a (L.take k) := by
  unfold pyS
  rw [List.take_succ, h, List.foldl_append]
  rfl
theorem pyS_y {w : List Mt → Int32} {pr : Nat → Int32} {p a : Int} {L : List Sk} {k : Nat} {s : Sk} (h : L[k]? = some s) (c : s.1.1.toInt = p ∧ s.2.1.toInt = a) : pyS w pr p a (L.take (k + 1)) = pyS w pr p a (L.take k) + pcI (w s.2.2.2) (pr (gI s.1.2.1)) := (pyS_s h).trans (if_pos c)
theorem pyS_n {w : List Mt → Int32} {pr : Nat → Int32} {p a : Int} {L : List Sk} {k : Nat} {s : Sk} (h : L[k]? = some s) (c : ¬ (s.1.1.toInt = p ∧ s.2.1.toInt = a)) : pyS w pr p a (L.take (k + 1)) = pyS w pr p a (L.take k) := (pyS_s h).trans (if_neg c)
def pyC (L : List Sk) (p a k : Int) : Prop := ∃ s, 0 ≤ k ∧ L[k.toNat]? = some s ∧ s.1.1.toInt = p ∧ s.2.1.toInt = a
noncomputable def pyF (L : List Sk) (fs fd fa : Nat → Int) (p a k : Int) (b : Int32) : Nat → Int32
  | 0 => b
  | n + 1 => @ite Int32 (pyC L p a (fs n) ∧ fd n ≤ k) (Classical.propDecidable _) (pyF L fs fd fa p a k b n - Int32.ofInt (fa n)) (pyF L fs fd fa p a k b n)
theorem pyF_y {L : List Sk} {fs fd fa : Nat → Int} {p a k : Int} {b : Int32} {n : Nat} (h : pyC L p a (fs n)) (h2 : fd n ≤ k) : pyF L fs fd fa p a k b (n + 1) = pyF L fs fd fa p a k b n - Int32.ofInt (fa n) := if_pos ⟨h, h2⟩
theorem pyF_n {L : List Sk} {fs fd fa : Nat → Int} {p a k : Int} {b : Int32} {n : Nat} (h : ¬ (pyC L p a (fs n) ∧ fd n ≤ k)) : pyF L fs fd fa p a k b (n + 1) = pyF L fs fd fa p a k b n := if_neg h
theorem pyC_no {L : List Sk} {p a k : Int} {s : Sk} (h : L[k.toNat]? = some s) (hn : ¬ (s.1.1.toInt = p ∧ s.2.1.toInt = a)) : ¬ pyC L p a k := fun ⟨t, _, h1, h2⟩ => by
  rw [h] at h1
  cases h1
  exact hn h2
theorem pyC_out {L : List Sk} {p a k : Int} (h : ¬ (0 ≤ k ∧ k < (L.length : Int))) : ¬ pyC L p a k := fun ⟨t, h0, h1, _⟩ => by
  have := (List.getElem?_eq_some_iff.mp h1).1
  exact h ⟨h0, by omega⟩
noncomputable def siZ (S : PS) (x : Nat) (g : List Mt) : Int32 := g.foldl (fun a m => a + mtZ S x m) 0
theorem siZ_s {S : PS} {x k : Nat} {g : List Mt} {t : Mt} (h : g[k]? = some t) : siZ S x (g.take (k + 1)) = siZ S x (g.take k) + mtZ S x t := by
  unfold siZ
  rw [List.take_succ, h, List.foldl_append]
  rfl
theorem siZ_to {S T : PS} {x : Nat} (h : fnZ T x = fnZ S x) : siZ T x = siZ S x := by
  funext g
  unfold siZ
  congr 1
  funext a m
  rw [mtZ_eq h]

set_option maxHeartbeats 4000000 in
set_option maxRecDepth 100000 in
theorem k_X8_priceOf8 (l : Launch) (G : va_G) (cy : Nat → ClassId) (κ : Nat → Nat) (S : PS) (sz : Nat) (x : Nat) (s1 : Nat) (g : Nat) (hG : GX S) (ha_x : At S x 8) (ha_s1 : At S s1 7) (hp_0 : pR S 703 s1 = some g) : Ci l yX8_priceOf wsX8_priceOf ({ frames := 2, cells := 0, slots := 0, locals := 96 }) G cy κ S sz [.ref x, .ref s1] (fun (r : Int32) (S9 : PS) => S = S9 ∧ (-2147483648 ≤ r.toInt ∧ r.toInt ≤ 2147483647 ∧ r = pcI (pI S 903 g) (mA S x 807 (gI (pI S 707 s1))))) := by
  refine ent_m (cc := cX8_priceOf) (maxL := 3) (ret := (some .int)) (by decide) rfl (Nat.le_of_ble_eq_true rfl) ?_
  intro p e s m below meth c ls X hr hlocks hin hw hl hsz
  subst hsz
  have X : Cx p c cX8_priceOf 3 s [.ref x, .ref s1].toArray wsX8_priceOf RX8 m G cy κ (AS S s.heap.size) := X
  have hl : lv_has ls 3 [(0, .ref x), (1, .ref s1)] := hl
  have hag := sk_str hG ha_s1 hp_0
  refine lv_aload_n X.1 X.2.1 dX8_priceOf_0 rfl (lv_at hl 1 rfl) ?_
  obtain ⟨v_1, ev_1⟩ : ∃ v, pI S 707 s1 = v := ⟨_, rfl⟩
  have rg_3 := And.intro (z_lo v_1) (z_hi v_1)
  have pz_4 : (pI S 707 s1).toInt = v_1.toInt := by rw [ev_1]
  refine r_getI (g := 707) (x := v_1) X hw ha_s1 rfl 7 ev_1 (by decide) rfl inn_X8_priceOf_7 (by decide) (X.2.2.2.1 (.fieldLink RX8 61 "SilkMill$Skein" "latestGrade" "I") (by decide +kernel)) rfl (gv_707 _ _) dX8_priceOf_1 ?_
  refine lv_iconst (v := 0) X.1 X.2.1 dX8_priceOf_4 (by decide) ?_
  refine lv_iconst (v := 3) X.1 X.2.1 dX8_priceOf_5 (by decide) ?_
  refine k_i (rm := { frames := 1, cells := 0, slots := 0, locals := 48 }) (av := [.int (v_1), .int 0, .int 3]) X hw (va_runSN (As := [.int (v_1), .int 0, .int 3]) (rest := []) (cfix X) (k_X11_isWithin l G cy κ S _ (v_1) (v_1.toInt) (0) (0) (3) (3) hG rfl ti_0 ti_3) ⟨(va_cnB (host := RX11) 3 X.2.2.2.1 gX8_priceOf_X11_isWithin_n64 rfl rfl rfl (X.2.2.2.2.2.2.2.1.2.1 (RX8, 64, yX11_isWithin) (by decide +kernel)) (X.2.2.2.1 (.initialized RX11) (by decide +kernel)) (by decide +kernel) ⟨Nat.le_of_ble_eq_true rfl, Nat.le_of_ble_eq_true rfl⟩), (X.2.2.2.1 (.static yX11_isWithin) (by decide +kernel)), trivial⟩ (pre_S X hw _) rfl rfl hl.1 rfl (lv_room (Nat.le_of_ble_eq_true rfl)) dX8_priceOf_6 ⟨Nat.le_of_ble_eq_true rfl, Nat.le_of_ble_eq_true rfl⟩) 0 0 (Nat.le_of_ble_eq_true rfl) (Nat.le_of_ble_eq_true rfl) (fun rr_5 S_6 H locs hp hw hfr hnw => ?_)
  obtain ⟨e2, hp⟩ := hp
  subst e2
  rcases hp with ⟨f_7, er_8⟩ | ⟨f_7, er_8⟩ <;> subst er_8
  · have z_b_9 := trivial
    refine lv_if_eq (tgt := 19) X.1 X.2.1 dX8_priceOf_9 (by decide) (fun c_10 => absurd c_10 (by decide)) (fun c_10 => ?_)
    refine lv_aload_n X.1 X.2.1 dX8_priceOf_12 rfl (lv_at hl 1 rfl) ?_
    refine r_getI (g := 707) (x := v_1) X hw ha_s1 rfl 7 ev_1 (by decide) rfl inn_X8_priceOf_7 (by decide) (X.2.2.2.1 (.fieldLink RX8 61 "SilkMill$Skein" "latestGrade" "I") (by decide +kernel)) rfl (gv_707 _ _) dX8_priceOf_13 ?_
    refine lv_goto (tgt := 20) X.1 X.2.1 dX8_priceOf_16 (by decide) ?_
    refine lv_istore_n (lv' := [(2, .int (v_1)), (0, .ref x), (1, .ref s1)]) X.1 X.2.1 dX8_priceOf_20 rfl hl (by decide) rfl (fun ls hl => ?_)
    refine lv_aload_n X.1 X.2.1 dX8_priceOf_21 rfl (lv_at hl 2 rfl) ?_
    refine r_getR (g := 703) X hw ha_s1 rfl 3 hp_0 (by decide) rfl inn_X8_priceOf_7 (by decide) (X.2.2.2.1 (.fieldLink RX8 68 "SilkMill$Skein" "strand" "LSilkMill$Strand;") (by decide +kernel)) rfl (gv_703 _ _) dX8_priceOf_22 ?_
    obtain ⟨v_11, ev_11⟩ : ∃ v, pI S 903 g = v := ⟨_, rfl⟩
    have rg_13 := And.intro (z_lo v_11) (z_hi v_11)
    have pz_14 : (pI S 903 g).toInt = v_11.toInt := by rw [ev_11]
    refine r_getI (g := 903) (x := v_11) X hw hag rfl 3 ev_11 (by decide) rfl inn_X8_priceOf_9 (by decide) (X.2.2.2.1 (.fieldLink RX8 44 "SilkMill$Strand" "silk" "I") (by decide +kernel)) rfl (gv_903 _ _) dX8_priceOf_25 ?_
    refine lv_aload_n X.1 X.2.1 dX8_priceOf_28 rfl (lv_at hl 1 rfl) ?_
    obtain ⟨q_15, h_16, h_17, h_18⟩ := gQ_8_807 hG ha_x
    refine r_getR (g := 807) X hw ha_x rfl 7 h_16 (by decide) rfl inn_X8_priceOf_8 (by decide) (X.2.2.2.1 (.fieldLink RX8 9 "SilkMill$Store" "prices" "[I") (by decide +kernel)) rfl (gv_807 _ _) dX8_priceOf_29 ?_
    refine lv_iload_n X.1 X.2.1 dX8_priceOf_32 rfl (lv_at hl 0 rfl) ?_
    refine r_iald X hw h_17 rfl (by rw [h_18]; exact z_ix rfl (by omega) (by omega)) dX8_priceOf_33 ?_
    refine lv_topi (fun v_19 ev_19 => ?_)
    have z_20 := gE_154 hG h_17 (Int32.toNatClampNeg (v_1)); rw [← ev_19] at z_20
    have ev_19 := ev_19.symm
    refine lv_imul X.1 X.2.1 dX8_priceOf_34 ?_
    refine lv_topi (fun v_21 ev_21 => ?_)
    have rg_22 := And.intro (z_lo v_21) (z_hi v_21)
    refine lv_bipush (v := 100) X.1 X.2.1 dX8_priceOf_35 (by decide) ?_
    refine lv_idiv X.1 X.2.1 dX8_priceOf_37 (by decide) ?_
    refine lv_topi (fun v_23 ev_23 => ?_)
    have rg_24 := And.intro (z_lo v_23) (z_hi v_23)
    have ix_25 : mA S x 807 (gI (pI S 707 s1)) = v_19 := by rw [gI_y (by rw [ev_1]; omega), mA_eq h_16, show (pI S 707 s1).toInt.toNat = Int32.toNatClampNeg (v_1) from (by rw [ev_1]; exact (z_nc (x := v_1) rfl (by omega)).symm)]; exact ev_19
    exact ret_i X hw hr hlocks (Nat.le_of_ble_eq_true rfl) (Nat.le_of_ble_eq_true rfl) ⟨rfl, ⟨z_lo _, z_hi _, by rw [ix_25, ev_11, ev_23, ev_21]; rfl⟩⟩ dX8_priceOf_38
  · have z_b_26 := trivial
    refine lv_if_eq (tgt := 19) X.1 X.2.1 dX8_priceOf_9 (by decide) (fun c_27 => ?_) (fun c_27 => absurd c_27 (by decide))
    refine lv_iconst (v := 3) X.1 X.2.1 dX8_priceOf_19 (by decide) ?_
    refine lv_istore_n (lv' := [(2, .int 3), (0, .ref x), (1, .ref s1)]) X.1 X.2.1 dX8_priceOf_20 rfl hl (by decide) rfl (fun ls hl => ?_)
    refine lv_aload_n X.1 X.2.1 dX8_priceOf_21 rfl (lv_at hl 2 rfl) ?_
    refine r_getR (g := 703) X hw ha_s1 rfl 3 hp_0 (by decide) rfl inn_X8_priceOf_7 (by decide) (X.2.2.2.1 (.fieldLink RX8 68 "SilkMill$Skein" "strand" "LSilkMill$Strand;") (by decide +kernel)) rfl (gv_703 _ _) dX8_priceOf_22 ?_
    obtain ⟨v_28, ev_28⟩ : ∃ v, pI S 903 g = v := ⟨_, rfl⟩
    have rg_30 := And.intro (z_lo v_28) (z_hi v_28)
    have pz_31 : (pI S 903 g).toInt = v_28.toInt := by rw [ev_28]
    refine r_getI (g := 903) (x := v_28) X hw hag rfl 3 ev_28 (by decide) rfl inn_X8_priceOf_9 (by decide) (X.2.2.2.1 (.fieldLink RX8 44 "SilkMill$Strand" "silk" "I") (by decide +kernel)) rfl (gv_903 _ _) dX8_priceOf_25 ?_
    refine lv_aload_n X.1 X.2.1 dX8_priceOf_28 rfl (lv_at hl 1 rfl) ?_
    obtain ⟨q_32, h_33, h_34, h_35⟩ := gQ_8_807 hG ha_x
    refine r_getR (g := 807) X hw ha_x rfl 7 h_33 (by decide) rfl inn_X8_priceOf_8 (by decide) (X.2.2.2.1 (.fieldLink RX8 9 "SilkMill$Store" "prices" "[I") (by decide +kernel)) rfl (gv_807 _ _) dX8_priceOf_29 ?_
    refine lv_iload_n X.1 X.2.1 dX8_priceOf_32 rfl (lv_at hl 0 rfl) ?_
    refine r_iald X hw h_34 rfl (by rw [h_35]; exact z_ix ti_3 (by omega) (by omega)) dX8_priceOf_33 ?_
    refine lv_topi (fun v_36 ev_36 => ?_)
    have z_37 := gE_154 hG h_34 (Int32.toNatClampNeg (3)); rw [← ev_36] at z_37
    have ev_36 := ev_36.symm
    refine lv_imul X.1 X.2.1 dX8_priceOf_34 ?_
    refine lv_topi (fun v_38 ev_38 => ?_)
    have rg_39 := And.intro (z_lo v_38) (z_hi v_38)
    refine lv_bipush (v := 100) X.1 X.2.1 dX8_priceOf_35 (by decide) ?_
    refine lv_idiv X.1 X.2.1 dX8_priceOf_37 (by decide) ?_
    refine lv_topi (fun v_40 ev_40 => ?_)
    have rg_41 := And.intro (z_lo v_40) (z_hi v_40)
    have ix_42 : mA S x 807 (gI (pI S 707 s1)) = v_36 := by rw [gI_n (by rw [ev_1]; omega), mA_eq h_33, show (3 : Nat) = Int32.toNatClampNeg 3 by decide]; exact ev_36
    exact ret_i X hw hr hlocks (Nat.le_of_ble_eq_true rfl) (Nat.le_of_ble_eq_true rfl) ⟨rfl, ⟨z_lo _, z_hi _, by rw [ix_42, ev_28, ev_40, ev_38]; rfl⟩⟩ dX8_priceOf_38
