theorem PIn_fr {A : Nat → Prop} {M : List Nat} {S T : PS} {x : Nat} (hG : GX S) (ha : At S x 4) (hF : Fr M S T) (hM : ([400, 401, 402, 501] : List Nat).all (fun g => !M.contains g) = true) (h : PIn A S x) : PIn A T x := fun R q h1 h2 => by
  have e : ∀ g, g ∈ ([400, 401, 402, 501] : List Nat) → ∀ a ∈ pL S, pR T g a = pR S g a := fun g hg a ha => (hF.2.1 g (fun z => by have := allc hM hg; rw [List.contains_iff_mem.mpr z] at this; cases this) a ha).2
  have hR : (pR S 400 x = some R ∨ pR S 401 x = some R ∨ pR S 402 x = some R) := by
    rw [e 400 (by decide) x ha.1, e 401 (by decide) x ha.1, e 402 (by decide) x ha.1] at h1
    exact h1
  have hAt : At S R 5 := by
    rcases hR with z | z | z
    · obtain ⟨c, k1, k2⟩ := gQ_4_400 hG ha; rw [k1] at z; cases z; exact k2
    · obtain ⟨c, k1, k2⟩ := gQ_4_401 hG ha; rw [k1] at z; cases z; exact k2
    · obtain ⟨c, k1, k2⟩ := gQ_4_402 hG ha; rw [k1] at z; cases z; exact k2
  rw [e 501 (by decide) R hAt.1] at h2
  exact h R q hR h2
/-- a cocoon (or none) has come to a pot -/
def RcP (A : Nat → Prop) (S T : PS) (o : Option Nat) : Prop := (∀ d, At S d 0 → o ≠ some d → pI T 3 d = pI S 3 d) ∧ (∀ q, o = some q → pI T 3 q = 1) ∧ ∀ d, RH A T d → RH A S d ∨ o = some d
def FilP (A : Nat → Prop) (S T : PS) (x : Nat) (l f e : Int) : Prop := (∀ d, At S d 0 → pI T 3 d = pI S 3 d ∨ (pI T 3 d = 1 ∧ ∃ j, f ≤ j ∧ j < e ∧ mB S x 1100 (60 * l + j).toNat = some d)) ∧ (∀ j d, f ≤ j → j < e → mB S x 1100 (60 * l + j).toNat = some d → pI T 3 d = 1) ∧ ∀ d, RH A T d → RH A S d ∨ ∃ j, f ≤ j ∧ j < e ∧ mB S x 1100 (60 * l + j).toNat = some d
theorem FilP_0 {A : Nat → Prop} {S : PS} {x : Nat} {l f : Int} : FilP A S S x l f f := ⟨fun _ _ => Or.inl rfl, fun _ _ h1 h2 => absurd h2 (by omega), fun _ h => Or.inl h⟩
theorem mB_at {S : PS} {x j d : Nat} (hG : GX S) (hx : At S x 11) (h : mB S x 1100 j = some d) : At S d 0 := by
  obtain ⟨q, k1, k2, -⟩ := gQ_11_1100 hG hx
  rw [mB_eq k1] at h
  exact gEl_36 hG k2 j d h
theorem FilP_step {A : Nat → Prop} {S T U : PS} {x : Nat} {l f k : Int} {o : Option Nat} (hG : GX S) (hx : At S x 11) (h : FilP A S T x l f k) (hE : Ext S T) (hr : RcP A T U o) (ho : o = mB S x 1100 (60 * l + k).toNat) (hk : f ≤ k) : FilP A S U x l f (k + 1) := by
  obtain ⟨a1, a2, a3⟩ := h
  obtain ⟨b1, b2, b3⟩ := hr
  refine ⟨fun d hd => ?_, fun j d h1 h2 h3 => ?_, fun d hd => ?_⟩
  · by_cases e : o = some d
    · exact Or.inr ⟨b2 d e, k, hk, by omega, by rw [← ho]; exact e⟩
    · rw [b1 d (hE.at hd) e]
      rcases a1 d hd with h | ⟨h1, j, h2, h3, h4⟩
      · exact Or.inl h
      · exact Or.inr ⟨h1, j, h2, by omega, h4⟩
  · by_cases e : o = some d
    · exact b2 d e
    · rw [b1 d (hE.at (mB_at hG hx h3)) e]
      by_cases e2 : j = k
      · subst e2; exact absurd (ho.trans h3) e
      · exact a2 j d h1 (by omega) h3
  · rcases b3 d hd with h | h
    · rcases a3 d h with h | ⟨j, h1, h2, h3⟩
      · exact Or.inl h
      · exact Or.inr ⟨j, h1, by omega, h3⟩
    · exact Or.inr ⟨k, hk, by omega, by rw [← ho]; exact h⟩
/-- the cocoons f .. of lot l can go to a pot -/
def FilC (S : PS) (x : Nat) (p l f n : Int) : Prop := 0 ≤ p ∧ p < (pI S 1104 x).toInt ∧ 1 ≤ n ∧ n ≤ 60 ∧ 0 ≤ f ∧ ∀ j : Int, f ≤ j → j < f + n → InC S x l j ∧ ∃ c, mB S x 1100 (60 * l + j).toNat = some c ∧ pI S 3 c = 0
theorem InC_fr {M : List Nat} {S T : PS} {x : Nat} {l i : Int} (hG : GX S) (hx : At S x 11) (hF : Fr M S T) (hM : ([1101, 1102, 10054] : List Nat).all (fun g => !M.contains g) = true) : InC T x l i ↔ InC S x l i := by
  unfold InC
  rw [hF.I' (allc hM (by decide)) hx rfl, zA_of_mA (mA_frc hF hx (ex3 (gQ_11_1101 hG hx)) (allc hM (by decide)) (allc hM (by decide)))]
/-! ===== the reference: which stands a run can touch ===== -/
def nzZ (v : Int) : Prop := v ≠ 0 ∧ v ≠ 5
def ZM (S T : PS) (x : Nat) : Prop := ∀ j, zA T x 1207 j = zA S x 1207 j ∨ (nzZ (zA S x 1207 j) ∧ nzZ (zA T x 1207 j))
theorem ZM_rf (S : PS) (x : Nat) : ZM S S x := fun _ => Or.inl rfl
theorem ZM_eq {S T U : PS} {x : Nat} (h : ZM S T x) (e : zA U x 1207 = zA T x 1207) : ZM S U x := fun j => by rw [e]; exact h j
theorem ZM_set {S T U : PS} {x n : Nat} {v : Int} (h : ZM S T x) (hs : ∀ j, zA U x 1207 j = if j = n then v else zA T x 1207 j) (h1 : nzZ (zA T x 1207 n)) (h2 : nzZ v) : ZM S U x := fun j => by
  rw [hs j]
  by_cases e : j = n
  · rw [if_pos e]
    subst e
    refine Or.inr ⟨?_, h2⟩
    rcases h j with z | z
    · rw [← z]; exact h1
    · exact z.1
  · rw [if_neg e]; exact h j
theorem ZM_tr {S T U : PS} {x : Nat} (h : ZM S T x) (h' : ZM T U x) : ZM S U x := fun j => by
  rcases h' j with e | ⟨e1, e2⟩
  · rw [e]; exact h j
  · rcases h j with d | ⟨d1, d2⟩
    · exact Or.inr ⟨by rw [← d]; exact e1, e2⟩
    · exact Or.inr ⟨d1, e2⟩
theorem il60 {S : PS} {x : Nat} (hG : GX S) (hx : At S x 11) (n : Nat) : zA S x 1101 n ≤ 60 := by
  obtain ⟨q, h1, h2, -⟩ := gQ_11_1101 hG hx
  rw [zA_eq, mA_eq h1]; exact (gE_54 hG h2 n).2

set_option maxHeartbeats 4000000 in
set_option maxRecDepth 100000 in
theorem k_X11_potAt3 (l : Launch) (G : va_G) (cy : Nat → ClassId) (κ : Nat → Nat) (S : PS) (sz : Nat) (x : Nat) (a1 : Int32) (a1_z : Int) (hG : GX S) (ha_x : At S x 11) (hz_a1 : a1.toInt = a1_z) : Cq l yX11_potAt wsX11_potAt ({ frames := 1, cells := 0, slots := 0, locals := 48 }) G cy κ S sz [.ref x, .int (a1)] (fun (r : Option Nat) (S9 : PS) => S = S9 ∧ ((∀ q, r = some q → At S9 q 4 ∧ 0 ≤ a1_z ∧ a1_z < (pI S 1104 x).toInt ∧ mB S x 1103 a1_z.toNat = some q) ∧ (r = none → PN S x → ¬ (0 ≤ a1_z ∧ a1_z < (pI S 1104 x).toInt)))) := by
  refine ent_m (cc := cX11_potAt) (maxL := 2) (ret := (some (.object "SilkMill$Pot"))) (by decide) rfl (Nat.le_of_ble_eq_true rfl) ?_
  intro p e s m below meth c ls X hr hlocks hin hw hl hsz
  subst hsz
  have X : Cx p c cX11_potAt 2 s [.ref x, .int (a1)].toArray wsX11_potAt RX11 m G cy κ (AS S s.heap.size) := X
  have hl : lv_has ls 2 [(0, .ref x), (1, .int (a1))] := hl
  have rg_a1 : (-2147483648) ≤ a1_z ∧ a1_z ≤ 2147483647 := by rw [← hz_a1]; exact ⟨z_lo _, z_hi _⟩
  refine lv_iload_n X.1 X.2.1 dX11_potAt_0 rfl (lv_at hl 1 rfl) ?_
  refine lv_if_lt (tgt := 12) X.1 X.2.1 dX11_potAt_1 (by decide) (fun c_1 => ?_) (fun c_1 => ?_)
  · have z_b_2 := trivial
    have k_3 : a1_z < 0 := z_lt hz_a1 ti_0 c_1
    refine lv_null X.1 X.2.1 dX11_potAt_12 ?_
    refine lv_goto (tgt := 22) X.1 X.2.1 dX11_potAt_13 (by decide) ?_
    exact ret_q none rfl X hw hr hlocks (Nat.le_of_ble_eq_true rfl) (Nat.le_of_ble_eq_true rfl) ⟨rfl, ⟨fun q h => (by cases h), fun _ _ _ => by omega⟩⟩ dX11_potAt_22
  · have z_b_4 := trivial
    have k_5 : a1_z ≥ 0 := z_nlt hz_a1 ti_0 c_1
    refine lv_iload_n X.1 X.2.1 dX11_potAt_4 rfl (lv_at hl 1 rfl) ?_
    refine lv_aload_n X.1 X.2.1 dX11_potAt_5 rfl (lv_at hl 0 rfl) ?_
    obtain ⟨v_6, ev_6⟩ : ∃ v, pI S 1104 x = v := ⟨_, rfl⟩
    have rg_7 := gI_11_1104 hG ha_x; rw [ev_6] at rg_7
    have pz_8 : (pI S 1104 x).toInt = v_6.toInt := by rw [ev_6]
    refine r_getI (g := 1104) (x := v_6) X hw ha_x rfl 4 ev_6 (by decide) rfl inn_X11_potAt_11 (by decide) (X.2.2.2.1 (.fieldLink RX11 124 "SilkMill" "potsMade" "I") (by decide +kernel)) rfl (gv_1104 _ _) dX11_potAt_6 ?_
    refine lv_icmp_lt (tgt := 16) X.1 X.2.1 dX11_potAt_9 (by decide) (fun c_9 => ?_) (fun c_9 => ?_)
    · have z_b_10 := trivial
      have k_11 : a1_z < v_6.toInt := z_lt hz_a1 rfl c_9
      refine lv_aload_n X.1 X.2.1 dX11_potAt_16 rfl (lv_at hl 0 rfl) ?_
      obtain ⟨q_12, h_13, h_14, h_15⟩ := gQ_11_1103 hG ha_x
      refine r_getR (g := 1103) X hw ha_x rfl 3 h_13 (by decide) rfl inn_X11_potAt_11 (by decide) (X.2.2.2.1 (.fieldLink RX11 21 "SilkMill" "pots" "[LSilkMill$Pot;") (by decide +kernel)) rfl (gv_1103 _ _) dX11_potAt_17 ?_
      refine lv_iload_n X.1 X.2.1 dX11_potAt_20 rfl (lv_at hl 1 rfl) ?_
      refine r_aald X hw h_14 rfl (by decide) rfl (by rw [h_15]; exact z_ix hz_a1 (by omega) (by omega)) dX11_potAt_21 ?_
      rcases ho_16 : pB S q_12 (Int32.toNatClampNeg (a1)) with _ | q_17
      · refine W.eq (g2 := F0 m 22 ls (.null :: [])) rfl ?_
        exact ret_q none rfl X hw hr hlocks (Nat.le_of_ble_eq_true rfl) (Nat.le_of_ble_eq_true rfl) ⟨rfl, ⟨fun q h => (by cases h), fun _ hPN _ => hPN _ h_13 _ (by rw [z_nat hz_a1 (by omega)]; omega) ho_16⟩⟩ dX11_potAt_22
      · refine W.eq (g2 := F0 m 22 ls (.ref q_17 :: [])) rfl ?_
        have ha_18 : At S q_17 4 := gEl_18 hG h_14 _ _ ho_16
        exact ret_q (some q_17) rfl X hw hr hlocks (Nat.le_of_ble_eq_true rfl) (Nat.le_of_ble_eq_true rfl) ⟨rfl, ⟨fun q h => (by cases h; exact ⟨ha_18, by omega, by omega, by rw [mB_eq h_13, ← z_nc hz_a1 (by omega)]; exact ho_16⟩), fun h => (by cases h)⟩⟩ dX11_potAt_22
    · have z_b_19 := trivial
      have k_20 : a1_z ≥ v_6.toInt := z_nlt hz_a1 rfl c_9
      refine lv_null X.1 X.2.1 dX11_potAt_12 ?_
      refine lv_goto (tgt := 22) X.1 X.2.1 dX11_potAt_13 (by decide) ?_
      exact ret_q none rfl X hw hr hlocks (Nat.le_of_ble_eq_true rfl) (Nat.le_of_ble_eq_true rfl) ⟨rfl, ⟨fun q h => (by cases h), fun _ _ _ => by omega⟩⟩ dX11_potAt_22
set_option maxHeartbeats 4000000 in
set_option maxRecDepth 100000 in
theorem k_X11_cocoonAt3 (l : Launch) (G : va_G) (cy : Nat → ClassId) (κ : Nat → Nat) (S : PS) (sz : Nat) (x : Nat) (a1 : Int32) (a1_z : Int) (a2 : Int32) (a2_z : Int) (hG : GX S) (ha_x : At S x 11) (hz_a1 : a1.toInt = a1_z) (hz_a2 : a2.toInt = a2_z) : Cq l yX11_cocoonAt wsX11_cocoonAt ({ frames := 1, cells := 0, slots := 0, locals := 48 }) G cy κ S sz [.ref x, .int (a1), .int (a2)] (fun (r : Option Nat) (S9 : PS) => S = S9 ∧ ((∀ q, r = some q → At S9 q 0 ∧ InC S x a1_z a2_z ∧ mB S x 1100 (60 * a1_z + a2_z).toNat = some q) ∧ (r = none → (¬ InC S x a1_z a2_z ∨ mB S x 1100 (60 * a1_z + a2_z).toNat = none)))) := by
  refine ent_m (cc := cX11_cocoonAt) (maxL := 3) (ret := (some (.object "SilkMill$Cocoon"))) (by decide) rfl (Nat.le_of_ble_eq_true rfl) ?_
  intro p e s m below meth c ls X hr hlocks hin hw hl hsz
  subst hsz
  have X : Cx p c cX11_cocoonAt 3 s [.ref x, .int (a1), .int (a2)].toArray wsX11_cocoonAt RX11 m G cy κ (AS S s.heap.size) := X
  have hl : lv_has ls 3 [(0, .ref x), (1, .int (a1)), (2, .int (a2))] := hl
  have rg_a1 : (-2147483648) ≤ a1_z ∧ a1_z ≤ 2147483647 := by rw [← hz_a1]; exact ⟨z_lo _, z_hi _⟩
  have rg_a2 : (-2147483648) ≤ a2_z ∧ a2_z ≤ 2147483647 := by rw [← hz_a2]; exact ⟨z_lo _, z_hi _⟩
  refine lv_iload_n X.1 X.2.1 dX11_cocoonAt_0 rfl (lv_at hl 1 rfl) ?_
  refine lv_if_lt (tgt := 26) X.1 X.2.1 dX11_cocoonAt_1 (by decide) (fun c_1 => ?_) (fun c_1 => ?_)
  · have z_b_2 := trivial
    have k_3 : a1_z < 0 := z_lt hz_a1 ti_0 c_1
    refine lv_null X.1 X.2.1 dX11_cocoonAt_26 ?_
    exact ret_q none rfl X hw hr hlocks (Nat.le_of_ble_eq_true rfl) (Nat.le_of_ble_eq_true rfl) ⟨rfl, ⟨fun q h => (by cases h), fun _ => Or.inl (fun h => by obtain ⟨i1, i2, i3, i4⟩ := h; omega)⟩⟩ dX11_cocoonAt_27
  · have z_b_4 := trivial
    have k_5 : a1_z ≥ 0 := z_nlt hz_a1 ti_0 c_1
    refine lv_iload_n X.1 X.2.1 dX11_cocoonAt_4 rfl (lv_at hl 1 rfl) ?_
    refine lv_aload_n X.1 X.2.1 dX11_cocoonAt_5 rfl (lv_at hl 0 rfl) ?_
    obtain ⟨v_6, ev_6⟩ : ∃ v, pI S 1102 x = v := ⟨_, rfl⟩
    have rg_7 := gI_11_1102 hG ha_x; rw [ev_6] at rg_7
    have pz_8 : (pI S 1102 x).toInt = v_6.toInt := by rw [ev_6]
    refine r_getI (g := 1102) (x := v_6) X hw ha_x rfl 2 ev_6 (by decide) rfl inn_X11_cocoonAt_11 (by decide) (X.2.2.2.1 (.fieldLink RX11 63 "SilkMill" "lots" "I") (by decide +kernel)) rfl (gv_1102 _ _) dX11_cocoonAt_6 ?_
    refine lv_icmp_ge (tgt := 26) X.1 X.2.1 dX11_cocoonAt_9 (by decide) (fun c_9 => ?_) (fun c_9 => ?_)
    · have z_b_10 := trivial
      have k_11 : a1_z ≥ v_6.toInt := z_le rfl hz_a1 c_9
      refine lv_null X.1 X.2.1 dX11_cocoonAt_26 ?_
      exact ret_q none rfl X hw hr hlocks (Nat.le_of_ble_eq_true rfl) (Nat.le_of_ble_eq_true rfl) ⟨rfl, ⟨fun q h => (by cases h), fun _ => Or.inl (fun h => by obtain ⟨i1, i2, i3, i4⟩ := h; omega)⟩⟩ dX11_cocoonAt_27
    · have z_b_12 := trivial
      have k_13 : a1_z < v_6.toInt := z_nle rfl hz_a1 c_9
      refine lv_iload_n X.1 X.2.1 dX11_cocoonAt_12 rfl (lv_at hl 2 rfl) ?_
      refine lv_if_lt (tgt := 26) X.1 X.2.1 dX11_cocoonAt_13 (by decide) (fun c_14 => ?_) (fun c_14 => ?_)
      · have z_b_15 := trivial
        have k_16 : a2_z < 0 := z_lt hz_a2 ti_0 c_14
        refine lv_null X.1 X.2.1 dX11_cocoonAt_26 ?_
        exact ret_q none rfl X hw hr hlocks (Nat.le_of_ble_eq_true rfl) (Nat.le_of_ble_eq_true rfl) ⟨rfl, ⟨fun q h => (by cases h), fun _ => Or.inl (fun h => by obtain ⟨i1, i2, i3, i4⟩ := h; omega)⟩⟩ dX11_cocoonAt_27
      · have z_b_17 := trivial
        have k_18 : a2_z ≥ 0 := z_nlt hz_a2 ti_0 c_14
        refine lv_iload_n X.1 X.2.1 dX11_cocoonAt_16 rfl (lv_at hl 2 rfl) ?_
        refine lv_aload_n X.1 X.2.1 dX11_cocoonAt_17 rfl (lv_at hl 0 rfl) ?_
        obtain ⟨q_19, h_20, h_21, h_22⟩ := gQ_11_1101 hG ha_x
        refine r_getR (g := 1101) X hw ha_x rfl 1 h_20 (by decide) rfl inn_X11_cocoonAt_11 (by decide) (X.2.2.2.1 (.fieldLink RX11 15 "SilkMill" "lotSizes" "[I") (by decide +kernel)) rfl (gv_1101 _ _) dX11_cocoonAt_18 ?_
        refine lv_iload_n X.1 X.2.1 dX11_cocoonAt_21 rfl (lv_at hl 1 rfl) ?_
        refine r_iald X hw h_21 rfl (by rw [h_22]; exact z_ix hz_a1 (by omega) (by omega)) dX11_cocoonAt_22 ?_
        refine lv_topi (fun v_23 ev_23 => ?_)
        have z_24 := gE_54 hG h_21 (Int32.toNatClampNeg (a1)); rw [← ev_23] at z_24
        have ev_23 := ev_23.symm
        have zf_25 : zA S x 1101 (a1_z).toNat = v_23.toInt := (zA_of h_20 hz_a1 (by omega) ev_23)
        refine lv_icmp_lt (tgt := 28) X.1 X.2.1 dX11_cocoonAt_23 (by decide) (fun c_26 => ?_) (fun c_26 => ?_)
        · have z_b_27 := trivial
          have k_28 : a2_z < v_23.toInt := z_lt hz_a2 rfl c_26
          refine lv_aload_n X.1 X.2.1 dX11_cocoonAt_28 rfl (lv_at hl 0 rfl) ?_
          obtain ⟨q_29, h_30, h_31, h_32⟩ := gQ_11_1100 hG ha_x
          refine r_getR (g := 1100) X hw ha_x rfl 0 h_30 (by decide) rfl inn_X11_cocoonAt_11 (by decide) (X.2.2.2.1 (.fieldLink RX11 11 "SilkMill" "cocoons" "[LSilkMill$Cocoon;") (by decide +kernel)) rfl (gv_1100 _ _) dX11_cocoonAt_29 ?_
          refine lv_iload_n X.1 X.2.1 dX11_cocoonAt_32 rfl (lv_at hl 1 rfl) ?_
          refine lv_bipush (v := 60) X.1 X.2.1 dX11_cocoonAt_33 (by decide) ?_
          refine lv_imul X.1 X.2.1 dX11_cocoonAt_35 ?_
          refine lv_topi (fun v_33 ev_33 => ?_)
          have z_34 : v_33.toInt = a1_z * 60 := z_mul ev_33 hz_a1 ti_60 (by omega) (by omega)
          refine lv_iload_n X.1 X.2.1 dX11_cocoonAt_36 rfl (lv_at hl 2 rfl) ?_
          refine lv_iadd X.1 X.2.1 dX11_cocoonAt_37 ?_
          refine lv_topi (fun v_35 ev_35 => ?_)
          have z_36 : v_35.toInt = v_33.toInt + a2_z := z_add ev_35 rfl hz_a2 (by omega) (by omega)
          refine r_aald X hw h_31 rfl (by decide) rfl (by rw [h_32]; exact z_ix rfl (by omega) (by omega)) dX11_cocoonAt_38 ?_
          rcases ho_37 : pB S q_29 (Int32.toNatClampNeg (v_35)) with _ | q_38
          · refine W.eq (g2 := F0 m 39 ls (.null :: [])) rfl ?_
            exact ret_q none rfl X hw hr hlocks (Nat.le_of_ble_eq_true rfl) (Nat.le_of_ble_eq_true rfl) ⟨rfl, ⟨fun q h => (by cases h), fun _ => Or.inr (by rw [mB_eq h_30, show (60 * a1_z + a2_z).toNat = Int32.toNatClampNeg (v_35) from by have hzn := z_nat (x := v_35) rfl (by omega); omega]; exact ho_37)⟩⟩ dX11_cocoonAt_39
          · refine W.eq (g2 := F0 m 39 ls (.ref q_38 :: [])) rfl ?_
            have ha_39 : At S q_38 0 := gEl_36 hG h_31 _ _ ho_37
            exact ret_q (some q_38) rfl X hw hr hlocks (Nat.le_of_ble_eq_true rfl) (Nat.le_of_ble_eq_true rfl) ⟨rfl, ⟨fun q h => (by cases h; exact ⟨ha_39, ⟨by omega, by omega, by omega, by omega⟩, by rw [mB_eq h_30, show (60 * a1_z + a2_z).toNat = Int32.toNatClampNeg (v_35) from by have hzn := z_nat (x := v_35) rfl (by omega); omega]; exact ho_37⟩), fun h => (by cases h)⟩⟩ dX11_cocoonAt_39
        · have z_b_40 := trivial
          have k_41 : a2_z ≥ v_23.toInt := z_nlt hz_a2 rfl c_26
          refine lv_null X.1 X.2.1 dX11_cocoonAt_26 ?_
          exact ret_q none rfl X hw hr hlocks (Nat.le_of_ble_eq_true rfl) (Nat.le_of_ble_eq_true rfl) ⟨rfl, ⟨fun q h => (by cases h), fun _ => Or.inl (fun h => by obtain ⟨i1, i2, i3, i4⟩ := h; omega)⟩⟩ dX11_cocoonAt_27
