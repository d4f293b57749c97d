/-! ===== the words on the shelf ===== -/
def sumI (f : Nat → Int32) : Nat → Int32
  | 0 => 0
  | n + 1 => sumI f n + f n
def WdC (S : PS) (P : Nat) : Prop := (pI S 300 P).toInt = 2 ∧ 0 < (pI S 301 P).toInt
def NuO (S : PS) (P : Nat) (i r : Int) : Prop := ((pI S 300 P).toInt = 2 ∧ 0 ≤ i ∧ i < (pI S 301 P).toInt ∧ r = zA S P 302 i.toNat) ∨ (¬ ((pI S 300 P).toInt = 2 ∧ 0 ≤ i ∧ i < (pI S 301 P).toInt) ∧ r = -1)
def CpC (S : PS) (P Q : Nat) (f w n : Int) : Prop := WdC S P ∧ WdC S Q ∧ 0 ≤ n ∧ 0 ≤ f ∧ 0 ≤ w ∧ f + n ≤ (pI S 301 P).toInt ∧ w + n ≤ (pI S 301 Q).toInt
def WdR (S : PS) (x : Nat) (p : Int) : Prop := 0 ≤ p ∧ p ≤ 15 ∧ zA S x 1253 p.toNat ≠ 0 ∧ zA S x 1254 p.toNat = 2 ∧ 0 < zA S x 1256 p.toNat
def CpR (S : PS) (x : Nat) (p f q w n : Int) : Prop := WdR S x p ∧ WdR S x q ∧ 0 ≤ n ∧ 0 ≤ f ∧ 0 ≤ w ∧ f + n ≤ zA S x 1256 p.toNat ∧ w + n ≤ zA S x 1256 q.toNat
theorem cpy_zA {S T : PS} {P v w f d n : Nat} (hv : pR S 302 P = some v) (e : T = sA S v (va_cpy (pA S w) (pA S v) f d n)) : ∀ j, zA T P 302 j = if d ≤ j ∧ j < d + n then (pA S w (f + (j - d))).toInt else zA S P 302 j := fun j => by
  subst e
  rw [zA_eq, zA_eq, mA_eq hv, mA_eq (show pR (sA S v (va_cpy (pA S w) (pA S v) f d n)) 302 P = some v by rw [pR_sA]; exact hv), show pA (sA S v (va_cpy (pA S w) (pA S v) f d n)) v = va_cpy (pA S w) (pA S v) f d n from if_pos rfl]
  unfold va_cpy
  split <;> rfl
theorem WdR_fr {M : List Nat} {S T : PS} {x : Nat} {p : Int} (hG : GX S) (ha : At S x 12) (hF : Fr M S T) (hM : ([1253, 1254, 1256, 11275, 11294, 11334] : List Nat).all (fun g => !M.contains g) = true) : WdR T x p ↔ WdR S x p := by
  unfold WdR
  rw [zA_fr (g := 1253) hF ha (ex3 (gQ_12_1253 hG ha)) (allc hM (by decide)) (allc hM (by decide)), zA_fr (g := 1254) hF ha (ex3 (gQ_12_1254 hG ha)) (allc hM (by decide)) (allc hM (by decide)), zA_fr (g := 1256) hF ha (ex3 (gQ_12_1256 hG ha)) (allc hM (by decide)) (allc hM (by decide))]

set_option maxHeartbeats 4000000 in
set_option maxRecDepth 100000 in
theorem k_X3_hasRow3 (l : Launch) (G : va_G) (cy : Nat → ClassId) (κ : Nat → Nat) (S : PS) (sz : Nat) (x : Nat) (hG : GX S) (ha_x : At S x 3) : Ci l yX3_hasRow wsX3_hasRow ({ frames := 1, cells := 0, slots := 0, locals := 48 }) G cy κ S sz [.ref x] (fun (r : Int32) (S9 : PS) => S = S9 ∧ (((WdC S x) ∧ r = 1) ∨ ((¬ WdC S x) ∧ r = 0))) := by
  refine ent_m (cc := cX3_hasRow) (maxL := 1) (ret := (some .boolean)) (by decide) rfl (Nat.le_of_ble_eq_true rfl) ?_
  intro p e s m below meth c ls X hr hlocks hin hw hl hsz
  subst hsz
  have X : Cx p c cX3_hasRow 1 s [.ref x].toArray wsX3_hasRow RX3 m G cy κ (AS S s.heap.size) := X
  have hl : lv_has ls 1 [(0, .ref x)] := hl
  obtain ⟨v_1, ev_1⟩ : ∃ v, pI S 300 x = v := ⟨_, rfl⟩
  have rg_3 := And.intro (z_lo v_1) (z_hi v_1)
  have pz_4 : (pI S 300 x).toInt = v_1.toInt := (congrArg Int32.toInt ev_1).trans rfl
  obtain ⟨v_5, ev_5⟩ : ∃ v, pI S 301 x = v := ⟨_, rfl⟩
  have rg_6 := gI_3_301 hG ha_x; rw [ev_5] at rg_6
  have pz_7 : (pI S 301 x).toInt = v_5.toInt := (congrArg Int32.toInt ev_5).trans rfl
  refine lv_aload_n X.1 X.2.1 dX3_hasRow_0 rfl (lv_at hl 0 rfl) ?_
  refine r_getI (g := 300) (x := v_1) X hw ha_x rfl 0 ev_1 (by decide) rfl inn_X3_hasRow_3 (by decide) (X.2.2.2.1 (.fieldLink RX3 9 "SilkMill$Place" "kind" "I") (by decide +kernel)) rfl (gv_300 _ _) dX3_hasRow_1 ?_
  refine lv_iconst (v := 2) X.1 X.2.1 dX3_hasRow_4 (by decide) ?_
  refine lv_icmp_ne (tgt := 19) X.1 X.2.1 dX3_hasRow_5 (by decide) (fun c_8 => ?_) (fun c_8 => ?_)
  · have z_b_9 := trivial
    have k_10 : v_1.toInt ≠ 2 := z_ne rfl ti_2 c_8
    refine lv_iconst (v := 0) X.1 X.2.1 dX3_hasRow_19 (by decide) ?_
    exact ret_z X hw hr hlocks (Nat.le_of_ble_eq_true rfl) (Nat.le_of_ble_eq_true rfl) (by decide) ⟨rfl, Or.inr ⟨fun h => by have h1 := h.1; have h2 := h.2; omega, rfl⟩⟩ dX3_hasRow_20
  · have z_b_11 := trivial
    have k_12 : v_1.toInt = 2 := z_eq rfl ti_2 c_8
    refine lv_aload_n X.1 X.2.1 dX3_hasRow_8 rfl (lv_at hl 0 rfl) ?_
    refine r_getI (g := 301) (x := v_5) X hw ha_x rfl 1 ev_5 (by decide) rfl inn_X3_hasRow_3 (by decide) (X.2.2.2.1 (.fieldLink RX3 19 "SilkMill$Place" "wordSize" "I") (by decide +kernel)) rfl (gv_301 _ _) dX3_hasRow_9 ?_
    refine lv_if_le (tgt := 19) X.1 X.2.1 dX3_hasRow_12 (by decide) (fun c_13 => ?_) (fun c_13 => ?_)
    · have z_b_14 := trivial
      have k_15 : v_5.toInt ≤ 0 := z_le rfl ti_0 c_13
      refine lv_iconst (v := 0) X.1 X.2.1 dX3_hasRow_19 (by decide) ?_
      exact ret_z X hw hr hlocks (Nat.le_of_ble_eq_true rfl) (Nat.le_of_ble_eq_true rfl) (by decide) ⟨rfl, Or.inr ⟨fun h => by have h1 := h.1; have h2 := h.2; omega, rfl⟩⟩ dX3_hasRow_20
    · have z_b_16 := trivial
      have k_17 : v_5.toInt > 0 := z_nle rfl ti_0 c_13
      refine lv_iconst (v := 1) X.1 X.2.1 dX3_hasRow_15 (by decide) ?_
      refine lv_goto (tgt := 20) X.1 X.2.1 dX3_hasRow_16 (by decide) ?_
      exact ret_z X hw hr hlocks (Nat.le_of_ble_eq_true rfl) (Nat.le_of_ble_eq_true rfl) (by decide) ⟨rfl, Or.inl ⟨⟨by omega, by omega⟩, rfl⟩⟩ dX3_hasRow_20
set_option maxHeartbeats 4000000 in
set_option maxRecDepth 100000 in
theorem k_X11_number3 (l : Launch) (G : va_G) (cy : Nat → ClassId) (κ : Nat → Nat) (S : PS) (sz : Nat) (x : Nat) (a1 : Int32) (a1_z : Int) (a2 : Int32) (a2_z : Int) (hG : GX S) (ha_x : At S x 11) (hz_a1 : a1.toInt = a1_z) (hz_a2 : a2.toInt = a2_z) : Ci l yX11_number wsX11_number ({ frames := 2, cells := 0, slots := 0, locals := 96 }) G cy κ S sz [.ref x, .int (a1), .int (a2)] (fun (r : Int32) (S9 : PS) => S = S9 ∧ (-2147483648 ≤ r.toInt ∧ r.toInt ≤ 2147483647 ∧ (∀ P, 0 ≤ a1_z → a1_z ≤ 15 → mB S x 1109 a1_z.toNat = some P → NuO S P a2_z r.toInt) ∧ (¬ (0 ≤ a1_z ∧ a1_z ≤ 15) → r.toInt = -1))) := by
  refine ent_m (cc := cX11_number) (maxL := 4) (ret := (some .int)) (by decide) rfl (Nat.le_of_ble_eq_true rfl) ?_
  intro p e s m below meth c ls X hr hlocks hin hw hl hsz
  subst hsz
  have X : Cx p c cX11_number 4 s [.ref x, .int (a1), .int (a2)].toArray wsX11_number RX11 m G cy κ (AS S s.heap.size) := X
  have hl : lv_has ls 4 [(0, .ref x), (1, .int (a1)), (2, .int (a2))] := hl
  have rg_a1 : (-2147483648) ≤ a1_z ∧ a1_z ≤ 2147483647 := by rw [← hz_a1]; exact ⟨z_lo _, z_hi _⟩
  have rg_a2 : (-2147483648) ≤ a2_z ∧ a2_z ≤ 2147483647 := by rw [← hz_a2]; exact ⟨z_lo _, z_hi _⟩
  refine lv_aload_n X.1 X.2.1 dX11_number_0 rfl (lv_at hl 0 rfl) ?_
  refine lv_iload_n X.1 X.2.1 dX11_number_1 rfl (lv_at hl 1 rfl) ?_
  refine k_q (rm := { frames := 1, cells := 0, slots := 0, locals := 48 }) (av := [.ref x, .int (a1)]) X hw (va_runV (As := [.int (a1)]) (rest := []) (cfix X) (k_X11_shelfAt3 l G cy κ S _ x (a1) (a1_z) hG ha_x hz_a1) (cwV 1 X.2.2.2.1 gX11_number_X11_shelfAt rfl rfl rfl (by decide +kernel) ⟨Nat.le_of_ble_eq_true rfl, Nat.le_of_ble_eq_true rfl⟩) (pre_V X hw _ ha_x rfl (by decide) rfl) rfl rfl hl.1 rfl (lv_room (Nat.le_of_ble_eq_true rfl)) dX11_number_2 ⟨Nat.le_of_ble_eq_true rfl, Nat.le_of_ble_eq_true rfl⟩) 0 0 (Nat.le_of_ble_eq_true rfl) (Nat.le_of_ble_eq_true rfl) (fun rr_1 S_2 H locs hp hw hfr hnw => ?_)
  obtain ⟨e2, hp⟩ := hp
  subst e2
  obtain ⟨hq_3, hnf_4⟩ := hp
  rcases rr_1 with _ | q_5
  · refine W.eq (g2 := F0 m 5 ls (.null :: [])) rfl ?_
    have nf_6 := hnf_4 rfl
    refine lv_astore_nN (lv' := [(3, .null), (0, .ref x), (1, .int (a1)), (2, .int (a2))]) X.1 X.2.1 dX11_number_5 rfl hl (by decide) rfl (fun ls hl => ?_)
    refine lv_aload_nN X.1 X.2.1 dX11_number_6 rfl (lv_at hl 0 rfl) ?_
    refine lv_ifnullN (tgt := 29) X.1 X.2.1 dX11_number_7 (by decide) ?_
    refine lv_iconst (v := (-1)) X.1 X.2.1 dX11_number_29 (by decide) ?_
    exact ret_i X hw hr hlocks (Nat.le_of_ble_eq_true rfl) (Nat.le_of_ble_eq_true rfl) ⟨rfl, ⟨z_lo _, z_hi _, fun P h1 h2 h3 => (by rw [nf_6 ⟨h1, h2⟩] at h3; cases h3), fun _ => by decide⟩⟩ dX11_number_30
  · refine W.eq (g2 := F0 m 5 ls (.ref q_5 :: [])) rfl ?_
    obtain ⟨ha_7, f_8, f_9, f_10⟩ := hq_3 _ rfl
    refine lv_astore_n (lv' := [(3, .ref q_5), (0, .ref x), (1, .int (a1)), (2, .int (a2))]) X.1 X.2.1 dX11_number_5 rfl hl (by decide) rfl (fun ls hl => ?_)
    refine lv_aload_n X.1 X.2.1 dX11_number_6 rfl (lv_at hl 0 rfl) ?_
    refine lv_ifnull X.1 X.2.1 dX11_number_7 ?_
    refine lv_aload_n X.1 X.2.1 dX11_number_10 rfl (lv_at hl 0 rfl) ?_
    refine k_i (rm := { frames := 1, cells := 0, slots := 0, locals := 48 }) (av := [.ref q_5]) X hw (va_runV (As := []) (rest := []) (cfix X) (k_X3_hasRow3 l G cy κ S _ q_5 hG ha_7) (cwV 0 X.2.2.2.1 gX11_number_X3_hasRow rfl rfl rfl (by decide +kernel) ⟨Nat.le_of_ble_eq_true rfl, Nat.le_of_ble_eq_true rfl⟩) (pre_V X hw _ ha_7 rfl (by decide) rfl) rfl rfl hl.1 rfl (lv_room (Nat.le_of_ble_eq_true rfl)) dX11_number_11 ⟨Nat.le_of_ble_eq_true rfl, Nat.le_of_ble_eq_true rfl⟩) 0 0 (Nat.le_of_ble_eq_true rfl) (Nat.le_of_ble_eq_true rfl) (fun rr_11 S_12 H locs hp hw hfr hnw => ?_)
    obtain ⟨e2, hp⟩ := hp
    subst e2
    rcases hp with ⟨f_13, er_14⟩ | ⟨f_13, er_14⟩ <;> subst er_14
    · have z_b_15 := trivial
      refine lv_if_eq (tgt := 29) X.1 X.2.1 dX11_number_14 (by decide) (fun c_16 => absurd c_16 (by decide)) (fun c_16 => ?_)
      refine lv_iload_n X.1 X.2.1 dX11_number_17 rfl (lv_at hl 3 rfl) ?_
      refine lv_if_lt (tgt := 29) X.1 X.2.1 dX11_number_18 (by decide) (fun c_17 => ?_) (fun c_17 => ?_)
      · have z_b_18 := trivial
        have k_19 : a2_z < 0 := z_lt hz_a2 ti_0 c_17
        refine lv_iconst (v := (-1)) X.1 X.2.1 dX11_number_29 (by decide) ?_
        obtain ⟨v_20, ev_20⟩ : ∃ v, pI S 301 q_5 = v := ⟨_, rfl⟩
        have rg_21 := gI_3_301 hG ha_7; rw [ev_20] at rg_21
        have pz_22 : (pI S 301 q_5).toInt = v_20.toInt := (congrArg Int32.toInt ev_20).trans rfl
        exact ret_i X hw hr hlocks (Nat.le_of_ble_eq_true rfl) (Nat.le_of_ble_eq_true rfl) ⟨rfl, ⟨z_lo _, z_hi _, fun P h1 h2 h3 => (by rw [f_10] at h3; cases h3; exact Or.inr ⟨fun h => by have h4 := h.2.1; have h5 := h.2.2; omega, by decide⟩), fun h => by exfalso; omega⟩⟩ dX11_number_30
      · have z_b_23 := trivial
        have k_24 : a2_z ≥ 0 := z_nlt hz_a2 ti_0 c_17
        refine lv_iload_n X.1 X.2.1 dX11_number_21 rfl (lv_at hl 3 rfl) ?_
        refine lv_aload_n X.1 X.2.1 dX11_number_22 rfl (lv_at hl 0 rfl) ?_
        obtain ⟨v_25, ev_25⟩ : ∃ v, pI S 301 q_5 = v := ⟨_, rfl⟩
        have rg_26 := gI_3_301 hG ha_7; rw [ev_25] at rg_26
        refine r_getI (g := 301) (x := v_25) X hw ha_7 rfl 1 ev_25 (by decide) rfl inn_X11_number_3 (by decide) (X.2.2.2.1 (.fieldLink RX11 324 "SilkMill$Place" "wordSize" "I") (by decide +kernel)) rfl (gv_301 _ _) dX11_number_23 ?_
        refine lv_icmp_lt (tgt := 31) X.1 X.2.1 dX11_number_26 (by decide) (fun c_27 => ?_) (fun c_27 => ?_)
        · have z_b_28 := trivial
          have k_29 : a2_z < v_25.toInt := z_lt hz_a2 rfl c_27
          refine lv_aload_n X.1 X.2.1 dX11_number_31 rfl (lv_at hl 0 rfl) ?_
          obtain ⟨q_30, h_31, h_32, h_33⟩ := gQ_3_302 hG ha_7
          refine r_getR (g := 302) X hw ha_7 rfl 2 h_31 (by decide) rfl inn_X11_number_3 (by decide) (X.2.2.2.1 (.fieldLink RX11 336 "SilkMill$Place" "word" "[I") (by decide +kernel)) rfl (gv_302 _ _) dX11_number_32 ?_
          refine lv_iload_n X.1 X.2.1 dX11_number_35 rfl (lv_at hl 3 rfl) ?_
          refine r_iald X hw h_32 rfl (by rw [h_33]; exact z_ix hz_a2 (by omega) (by omega)) dX11_number_36 ?_
          refine lv_topi (fun v_34 ev_34 => ?_)
          have rg_35 := And.intro (z_lo v_34) (z_hi v_34)
          have ev_34 := ev_34.symm
          have pz_36 : (pI S 301 q_5).toInt = v_25.toInt := (congrArg Int32.toInt ev_25).trans rfl
          exact ret_i X hw hr hlocks (Nat.le_of_ble_eq_true rfl) (Nat.le_of_ble_eq_true rfl) ⟨rfl, ⟨z_lo _, z_hi _, fun P h1 h2 h3 => (by rw [f_10] at h3; cases h3; exact Or.inl ⟨f_13.1, by omega, by omega, (zA_of h_31 hz_a2 (by omega) ev_34).symm⟩), fun h => by exfalso; omega⟩⟩ dX11_number_37
        · have z_b_37 := trivial
          have k_38 : a2_z ≥ v_25.toInt := z_nlt hz_a2 rfl c_27
          refine lv_iconst (v := (-1)) X.1 X.2.1 dX11_number_29 (by decide) ?_
          have pz_39 : (pI S 301 q_5).toInt = v_25.toInt := (congrArg Int32.toInt ev_25).trans rfl
          exact ret_i X hw hr hlocks (Nat.le_of_ble_eq_true rfl) (Nat.le_of_ble_eq_true rfl) ⟨rfl, ⟨z_lo _, z_hi _, fun P h1 h2 h3 => (by rw [f_10] at h3; cases h3; exact Or.inr ⟨fun h => by have h4 := h.2.1; have h5 := h.2.2; omega, by decide⟩), fun h => by exfalso; omega⟩⟩ dX11_number_30
    · have z_b_40 := trivial
      refine lv_if_eq (tgt := 29) X.1 X.2.1 dX11_number_14 (by decide) (fun c_41 => ?_) (fun c_41 => absurd c_41 (by decide))
      refine lv_iconst (v := (-1)) X.1 X.2.1 dX11_number_29 (by decide) ?_
      exact ret_i X hw hr hlocks (Nat.le_of_ble_eq_true rfl) (Nat.le_of_ble_eq_true rfl) ⟨rfl, ⟨z_lo _, z_hi _, fun P h1 h2 h3 => (by rw [f_10] at h3; cases h3; exact Or.inr ⟨fun h => f_13 ⟨h.1, by omega⟩, by decide⟩), fun h => by exfalso; omega⟩⟩ dX11_number_30
set_option maxHeartbeats 4000000 in
set_option maxRecDepth 100000 in
theorem k_X12_isWord3 (l : Launch) (G : va_G) (cy : Nat → ClassId) (κ : Nat → Nat) (S : PS) (sz : Nat) (x : Nat) (a1 : Int32) (a1_z : Int) (hG : GX S) (ha_x : At S x 12) (hz_a1 : a1.toInt = a1_z) : Ci l yX12_isWord wsX12_isWord ({ frames := 2, cells := 0, slots := 0, locals := 96 }) G cy κ S sz [.ref x, .int (a1)] (fun (r : Int32) (S9 : PS) => S = S9 ∧ (((WdR S x a1_z) ∧ r = 1) ∨ ((¬ WdR S x a1_z) ∧ r = 0))) := by
  refine ent_m (cc := cX12_isWord) (maxL := 2) (ret := (some .boolean)) (by decide) rfl (Nat.le_of_ble_eq_true rfl) ?_
  intro p e s m below meth c ls X hr hlocks hin hw hl hsz
  subst hsz
  have X : Cx p c cX12_isWord 2 s [.ref x, .int (a1)].toArray wsX12_isWord RX12 m G cy κ (AS S s.heap.size) := X
  have hl : lv_has ls 2 [(0, .ref x), (1, .int (a1))] := hl
  have rg_a1 : (-2147483648) ≤ a1_z ∧ a1_z ≤ 2147483647 := by rw [← hz_a1]; exact ⟨z_lo _, z_hi _⟩
  refine lv_iload_n X.1 X.2.1 dX12_isWord_0 rfl (lv_at hl 1 rfl) ?_
  refine lv_iconst (v := 0) X.1 X.2.1 dX12_isWord_1 (by decide) ?_
  refine lv_bipush (v := 15) X.1 X.2.1 dX12_isWord_2 (by decide) ?_
  refine k_i (rm := { frames := 1, cells := 0, slots := 0, locals := 48 }) (av := [.int (a1), .int 0, .int 15]) X hw (va_runS (As := [.int (a1), .int 0, .int 15]) (rest := []) (cfix X) (k_X12_within l G cy κ S _ (a1) (a1_z) (0) (0) (15) (15) hG hz_a1 ti_0 ti_15) (cwS 3 X.2.2.2.1 gX12_isWord_X12_within rfl rfl rfl (by decide +kernel) ⟨Nat.le_of_ble_eq_true rfl, Nat.le_of_ble_eq_true rfl⟩) (pre_S X hw _) rfl rfl hl.1 rfl (lv_room (Nat.le_of_ble_eq_true rfl)) dX12_isWord_4 ⟨Nat.le_of_ble_eq_true rfl, Nat.le_of_ble_eq_true rfl⟩) 0 0 (Nat.le_of_ble_eq_true rfl) (Nat.le_of_ble_eq_true rfl) (fun rr_1 S_2 H locs hp hw hfr hnw => ?_)
  obtain ⟨e2, hp⟩ := hp
  subst e2
  rcases hp with ⟨f_3, er_4⟩ | ⟨f_3, er_4⟩ <;> subst er_4
  · have z_b_5 := trivial
    refine lv_if_eq (tgt := 42) X.1 X.2.1 dX12_isWord_7 (by decide) (fun c_6 => absurd c_6 (by decide)) (fun c_6 => ?_)
    refine lv_aload_n X.1 X.2.1 dX12_isWord_10 rfl (lv_at hl 0 rfl) ?_
    obtain ⟨q_7, h_8, h_9, h_10⟩ := gQ_12_1253 hG ha_x
    refine r_getR (g := 1253) X hw ha_x rfl 53 h_8 (by decide) rfl inn_X12_isWord_12 (by decide) (X.2.2.2.1 (.fieldLink RX12 125 "SilkMillModel" "isLaid" "[Z") (by decide +kernel)) rfl (gv_1253 _ _) dX12_isWord_11 ?_
    refine lv_iload_n X.1 X.2.1 dX12_isWord_14 rfl (lv_at hl 1 rfl) ?_
    refine r_zald X hw h_9 rfl (by rw [h_10]; exact z_ix hz_a1 (by omega) (by omega)) dX12_isWord_15 ?_
    refine lv_topi (fun v_11 ev_11 => ?_)
    have rg_12 := And.intro (z_lo v_11) (z_hi v_11)
    have ev_11 := ev_11.symm
    have zf_13 : zA S x 1253 (a1_z).toNat = v_11.toInt := (zA_of h_8 hz_a1 (by omega) ev_11)
    refine lv_if_eq (tgt := 42) X.1 X.2.1 dX12_isWord_16 (by decide) (fun c_14 => ?_) (fun c_14 => ?_)
    · have z_b_15 := trivial
      have k_16 : v_11.toInt = 0 := z_eq rfl ti_0 c_14
      refine lv_iconst (v := 0) X.1 X.2.1 dX12_isWord_42 (by decide) ?_
      exact ret_z X hw hr hlocks (Nat.le_of_ble_eq_true rfl) (Nat.le_of_ble_eq_true rfl) (by decide) ⟨rfl, Or.inr ⟨fun h => by obtain ⟨h1, h2, h3, h4, h5⟩ := h; omega, rfl⟩⟩ dX12_isWord_43
    · have z_b_17 := trivial
      have k_18 : v_11.toInt ≠ 0 := z_ne rfl ti_0 c_14
      refine lv_aload_n X.1 X.2.1 dX12_isWord_19 rfl (lv_at hl 0 rfl) ?_
      obtain ⟨q_19, h_20, h_21, h_22⟩ := gQ_12_1254 hG ha_x
      refine r_getR (g := 1254) X hw ha_x rfl 54 h_20 (by decide) rfl inn_X12_isWord_12 (by decide) (X.2.2.2.1 (.fieldLink RX12 128 "SilkMillModel" "laid" "[I") (by decide +kernel)) rfl (gv_1254 _ _) dX12_isWord_20 ?_
      refine lv_iload_n X.1 X.2.1 dX12_isWord_23 rfl (lv_at hl 1 rfl) ?_
      refine r_iald X hw h_21 rfl (by rw [h_22]; exact z_ix hz_a1 (by omega) (by omega)) dX12_isWord_24 ?_
      refine lv_topi (fun v_23 ev_23 => ?_)
      have rg_24 := And.intro (z_lo v_23) (z_hi v_23)
      have ev_23 := ev_23.symm
      have zf_25 : zA S x 1254 (a1_z).toNat = v_23.toInt := (zA_of h_20 hz_a1 (by omega) ev_23)
      refine lv_iconst (v := 2) X.1 X.2.1 dX12_isWord_25 (by decide) ?_
      refine lv_icmp_ne (tgt := 42) X.1 X.2.1 dX12_isWord_26 (by decide) (fun c_26 => ?_) (fun c_26 => ?_)
      · have z_b_27 := trivial
        have k_28 : v_23.toInt ≠ 2 := z_ne rfl ti_2 c_26
        refine lv_iconst (v := 0) X.1 X.2.1 dX12_isWord_42 (by decide) ?_
        exact ret_z X hw hr hlocks (Nat.le_of_ble_eq_true rfl) (Nat.le_of_ble_eq_true rfl) (by decide) ⟨rfl, Or.inr ⟨fun h => by obtain ⟨h1, h2, h3, h4, h5⟩ := h; omega, rfl⟩⟩ dX12_isWord_43
      · have z_b_29 := trivial
        have k_30 : v_23.toInt = 2 := z_eq rfl ti_2 c_26
        refine lv_aload_n X.1 X.2.1 dX12_isWord_29 rfl (lv_at hl 0 rfl) ?_
        obtain ⟨q_31, h_32, h_33, h_34⟩ := gQ_12_1256 hG ha_x
        refine r_getR (g := 1256) X hw ha_x rfl 56 h_32 (by decide) rfl inn_X12_isWord_12 (by decide) (X.2.2.2.1 (.fieldLink RX12 134 "SilkMillModel" "wordMany" "[I") (by decide +kernel)) rfl (gv_1256 _ _) dX12_isWord_30 ?_
        refine lv_iload_n X.1 X.2.1 dX12_isWord_33 rfl (lv_at hl 1 rfl) ?_
        refine r_iald X hw h_33 rfl (by rw [h_34]; exact z_ix hz_a1 (by omega) (by omega)) dX12_isWord_34 ?_
        refine lv_topi (fun v_35 ev_35 => ?_)
        have z_36 := gE_1334 hG h_33 (Int32.toNatClampNeg (a1)); rw [← ev_35] at z_36
        have ev_35 := ev_35.symm
        have zf_37 : zA S x 1256 (a1_z).toNat = v_35.toInt := (zA_of h_32 hz_a1 (by omega) ev_35)
        refine lv_if_le (tgt := 42) X.1 X.2.1 dX12_isWord_35 (by decide) (fun c_38 => ?_) (fun c_38 => ?_)
        · have z_b_39 := trivial
          have k_40 : v_35.toInt ≤ 0 := z_le rfl ti_0 c_38
          refine lv_iconst (v := 0) X.1 X.2.1 dX12_isWord_42 (by decide) ?_
          exact ret_z X hw hr hlocks (Nat.le_of_ble_eq_true rfl) (Nat.le_of_ble_eq_true rfl) (by decide) ⟨rfl, Or.inr ⟨fun h => by obtain ⟨h1, h2, h3, h4, h5⟩ := h; omega, rfl⟩⟩ dX12_isWord_43
        · have z_b_41 := trivial
          have k_42 : v_35.toInt > 0 := z_nle rfl ti_0 c_38
          refine lv_iconst (v := 1) X.1 X.2.1 dX12_isWord_38 (by decide) ?_
          refine lv_goto (tgt := 43) X.1 X.2.1 dX12_isWord_39 (by decide) ?_
          exact ret_z X hw hr hlocks (Nat.le_of_ble_eq_true rfl) (Nat.le_of_ble_eq_true rfl) (by decide) ⟨rfl, Or.inl ⟨⟨by omega, by omega, by omega, by omega, by omega⟩, rfl⟩⟩ dX12_isWord_43
  · have z_b_43 := trivial
    refine lv_if_eq (tgt := 42) X.1 X.2.1 dX12_isWord_7 (by decide) (fun c_44 => ?_) (fun c_44 => absurd c_44 (by decide))
    refine lv_iconst (v := 0) X.1 X.2.1 dX12_isWord_42 (by decide) ?_
    exact ret_z X hw hr hlocks (Nat.le_of_ble_eq_true rfl) (Nat.le_of_ble_eq_true rfl) (by decide) ⟨rfl, Or.inr ⟨fun h => by obtain ⟨h1, h2, h3, h4, h5⟩ := h; omega, rfl⟩⟩ dX12_isWord_43
set_option maxHeartbeats 4000000 in
set_option maxRecDepth 100000 in
theorem k_X12_number3 (l : Launch) (G : va_G) (cy : Nat → ClassId) (κ : Nat → Nat) (S : PS) (sz : Nat) (x : Nat) (a1 : Int32) (a1_z : Int) (a2 : Int32) (a2_z : Int) (hG : GX S) (ha_x : At S x 12) (hz_a1 : a1.toInt = a1_z) (hz_a2 : a2.toInt = a2_z) : Ci l yX12_number_ wsX12_number_ ({ frames := 3, cells := 0, slots := 0, locals := 144 }) G cy κ S sz [.ref x, .int (a1), .int (a2)] (fun (r : Int32) (S9 : PS) => Ok MN S S9 ∧ (-2147483648 ≤ r.toInt ∧ r.toInt ≤ 2147483647 ∧ ((WdR S x a1_z ∧ 0 ≤ a2_z ∧ a2_z < zA S x 1256 a1_z.toNat ∧ r.toInt = zA S x 1257 ((8 * a1_z) + a2_z).toNat) ∨ (¬ (WdR S x a1_z ∧ 0 ≤ a2_z ∧ a2_z < zA S x 1256 a1_z.toNat) ∧ r.toInt = -1)))) := by
  refine ent_m (cc := cX12_number_) (maxL := 3) (ret := (some .int)) (by decide) rfl (Nat.le_of_ble_eq_true rfl) ?_
  intro p e s m below meth c ls X hr hlocks hin hw hl hsz
  subst hsz
  have X : Cx p c cX12_number_ 3 s [.ref x, .int (a1), .int (a2)].toArray wsX12_number_ RX12 m G cy κ (AS S s.heap.size) := X
  have hl : lv_has ls 3 [(0, .ref x), (1, .int (a1)), (2, .int (a2))] := hl
  have rg_a1 : (-2147483648) ≤ a1_z ∧ a1_z ≤ 2147483647 := by rw [← hz_a1]; exact ⟨z_lo _, z_hi _⟩
  have rg_a2 : (-2147483648) ≤ a2_z ∧ a2_z ≤ 2147483647 := by rw [← hz_a2]; exact ⟨z_lo _, z_hi _⟩
  have hO : Ok MN S S := Ok.rf hG
  refine lv_aload_n X.1 X.2.1 dX12_number__0 rfl (lv_at hl 0 rfl) ?_
  refine lv_iconst (v := 0) X.1 X.2.1 dX12_number__1 (by decide) ?_
  refine r_putI (v := 0) X hw ha_x rfl 0 1200 tyX12 (by decide) rfl inn_X12_number__12 tyX12_ok nmX12 (by decide) (X.2.2.2.1 (.fieldLink RX12 161 "SilkMillModel" "thrown" "I") (by decide +kernel)) rfl (Or.inl rfl) rfl rfl (Nat.le_of_ble_eq_true rfl) (st_1200 _ _) dX12_number__2 (fun H locs hw => ?_)
  obtain ⟨S_1, eS_1⟩ : ∃ T, T = sI S 1200 x (0) := ⟨_, rfl⟩
  rw [← eS_1] at hw
  have hO_2 : Ok MN S S_1 := hO.sI eS_1 (by decide +kernel) (uI_12_1200 hO.1 ha_x)
  have h_3 : pI S_1 1200 x = 0 := tI_sIs eS_1
  refine lv_aload_n X.1 X.2.1 dX12_number__5 rfl (lv_at hl 0 rfl) ?_
  refine lv_iload_n X.1 X.2.1 dX12_number__6 rfl (lv_at hl 1 rfl) ?_
  have t_4 : At S_1 x 12 := tAt_sI eS_1 ha_x
  refine k_i (rm := { frames := 2, cells := 0, slots := 0, locals := 96 }) (av := [.ref x, .int (a1)]) X hw (va_runV (As := [.int (a1)]) (rest := []) (cfix X) (k_X12_isWord3 l G cy κ S_1 _ x (a1) (a1_z) hO_2.1 t_4 hz_a1) (cwV 1 X.2.2.2.1 gX12_number__X12_isWord rfl rfl rfl (by decide +kernel) ⟨Nat.le_of_ble_eq_true rfl, Nat.le_of_ble_eq_true rfl⟩) (pre_V X hw _ t_4 rfl (by decide) rfl) rfl rfl hl.1 rfl (lv_room (Nat.le_of_ble_eq_true rfl)) dX12_number__7 ⟨Nat.le_of_ble_eq_true rfl, Nat.le_of_ble_eq_true rfl⟩) 0 0 (Nat.le_of_ble_eq_true rfl) (Nat.le_of_ble_eq_true rfl) (fun rr_5 S_6 H locs hp hw hfr hnw => ?_)
  obtain ⟨e2, hp⟩ := hp
  subst e2
  rcases hp with ⟨f_7, er_8⟩ | ⟨f_7, er_8⟩ <;> subst er_8
  · have z_b_9 := trivial
    have wd_10 := f_7.1
    have wd_11 := f_7.2.1
    refine lv_if_eq (tgt := 43) X.1 X.2.1 dX12_number__10 (by decide) (fun c_12 => absurd c_12 (by decide)) (fun c_12 => ?_)
    refine lv_iload_n X.1 X.2.1 dX12_number__13 rfl (lv_at hl 2 rfl) ?_
    refine lv_iconst (v := 0) X.1 X.2.1 dX12_number__14 (by decide) ?_
    refine lv_aload_n X.1 X.2.1 dX12_number__15 rfl (lv_at hl 0 rfl) ?_
    obtain ⟨q_13, h_14, h_15, h_16⟩ := gQ_12_1256 hO_2.1 t_4
    refine r_getR (g := 1256) X hw t_4 rfl 56 h_14 (by decide) rfl inn_X12_number__12 (by decide) (X.2.2.2.1 (.fieldLink RX12 134 "SilkMillModel" "wordMany" "[I") (by decide +kernel)) rfl (gv_1256 _ _) dX12_number__16 ?_
    refine lv_iload_n X.1 X.2.1 dX12_number__19 rfl (lv_at hl 1 rfl) ?_
    refine r_iald X hw h_15 rfl (by rw [h_16]; exact z_ix hz_a1 (by omega) (by omega)) dX12_number__20 ?_
    refine lv_topi (fun v_17 ev_17 => ?_)
    have z_18 := gE_1334 hO_2.1 h_15 (Int32.toNatClampNeg (a1)); rw [← ev_17] at z_18
    have ev_17 := ev_17.symm
    have zf_19 : zA S_1 x 1256 (a1_z).toNat = v_17.toInt := (zA_of h_14 hz_a1 (by omega) ev_17)
    refine lv_iconst (v := 1) X.1 X.2.1 dX12_number__21 (by decide) ?_
    refine lv_isub X.1 X.2.1 dX12_number__22 ?_
    refine lv_topi (fun v_20 ev_20 => ?_)
    have z_21 : v_20.toInt = v_17.toInt - 1 := z_sub ev_20 rfl ti_1 (by omega) (by omega)
    refine k_i (rm := { frames := 1, cells := 0, slots := 0, locals := 48 }) (av := [.int (a2), .int 0, .int (v_20)]) X hw (va_runS (As := [.int (a2), .int 0, .int (v_20)]) (rest := []) (cfix X) (k_X12_within l G cy κ S_1 _ (a2) (a2_z) (0) (0) (v_20) ((v_17.toInt - 1)) hO_2.1 hz_a2 ti_0 z_21) (cwS 3 X.2.2.2.1 gX12_number__X12_within rfl rfl rfl (by decide +kernel) ⟨Nat.le_of_ble_eq_true rfl, Nat.le_of_ble_eq_true rfl⟩) (pre_S X hw _) rfl rfl hl.1 rfl (lv_room (Nat.le_of_ble_eq_true rfl)) dX12_number__23 ⟨Nat.le_of_ble_eq_true rfl, Nat.le_of_ble_eq_true rfl⟩) 0 0 (Nat.le_of_ble_eq_true rfl) (Nat.le_of_ble_eq_true rfl) (fun rr_22 S_23 H locs hp hw hfr hnw => ?_)
    obtain ⟨e2, hp⟩ := hp
    subst e2
    rcases hp with ⟨f_24, er_25⟩ | ⟨f_24, er_25⟩ <;> subst er_25
    · have z_b_26 := trivial
      refine lv_if_eq (tgt := 43) X.1 X.2.1 dX12_number__26 (by decide) (fun c_27 => absurd c_27 (by decide)) (fun c_27 => ?_)
      refine lv_aload_n X.1 X.2.1 dX12_number__29 rfl (lv_at hl 0 rfl) ?_
      obtain ⟨q_28, h_29, h_30, h_31⟩ := gQ_12_1257 hO_2.1 t_4
      refine r_getR (g := 1257) X hw t_4 rfl 57 h_29 (by decide) rfl inn_X12_number__12 (by decide) (X.2.2.2.1 (.fieldLink RX12 137 "SilkMillModel" "wordOf" "[I") (by decide +kernel)) rfl (gv_1257 _ _) dX12_number__30 ?_
      refine lv_bipush (v := 8) X.1 X.2.1 dX12_number__33 (by decide) ?_
      refine lv_iload_n X.1 X.2.1 dX12_number__35 rfl (lv_at hl 1 rfl) ?_
      refine lv_imul X.1 X.2.1 dX12_number__36 ?_
      refine lv_topi (fun v_32 ev_32 => ?_)
      have z_33 : v_32.toInt = 8 * a1_z := z_mul ev_32 ti_8 hz_a1 (by omega) (by omega)
      refine lv_iload_n X.1 X.2.1 dX12_number__37 rfl (lv_at hl 2 rfl) ?_
      refine lv_iadd X.1 X.2.1 dX12_number__38 ?_
      refine lv_topi (fun v_34 ev_34 => ?_)
      have z_35 : v_34.toInt = (8 * a1_z) + a2_z := z_add ev_34 z_33 hz_a2 (by omega) (by omega)
      refine r_iald X hw h_30 rfl (by rw [h_31]; exact z_ix z_35 (by omega) (by omega)) dX12_number__39 ?_
      refine lv_topi (fun v_36 ev_36 => ?_)
      have rg_37 := And.intro (z_lo v_36) (z_hi v_36)
      have ev_36 := ev_36.symm
      refine lv_goto (tgt := 44) X.1 X.2.1 dX12_number__40 (by decide) ?_
      have zc_38 : zA S_1 x 1256 = zA S x 1256 := zA_sI eS_1
      have zc_39 : zA S_1 x 1257 = zA S x 1257 := zA_sI eS_1
      exact ret_i X hw hr hlocks (Nat.le_of_ble_eq_true rfl) (Nat.le_of_ble_eq_true rfl) ⟨hO_2, ⟨z_lo _, z_hi _, Or.inl ⟨((WdR_fr hG ha_x hO_2.fr (by decide +kernel)).mp f_7), by omega, by have z6 := congrFun zc_38 a1_z.toNat; omega, ((zA_of h_29 z_35 (by omega) ev_36).symm.trans (congrFun zc_39 _))⟩⟩⟩ dX12_number__44
    · have z_b_40 := trivial
      refine lv_if_eq (tgt := 43) X.1 X.2.1 dX12_number__26 (by decide) (fun c_41 => ?_) (fun c_41 => absurd c_41 (by decide))
      refine lv_iconst (v := (-1)) X.1 X.2.1 dX12_number__43 (by decide) ?_
      have zc_42 : zA S_1 x 1256 = zA S x 1256 := zA_sI eS_1
      exact ret_i X hw hr hlocks (Nat.le_of_ble_eq_true rfl) (Nat.le_of_ble_eq_true rfl) ⟨hO_2, ⟨z_lo _, z_hi _, Or.inr ⟨fun h => by have z6 := congrFun zc_42 a1_z.toNat; have h4 := h.2.1; have h5 := h.2.2; omega, by decide⟩⟩⟩ dX12_number__44
  · have z_b_43 := trivial
    refine lv_if_eq (tgt := 43) X.1 X.2.1 dX12_number__10 (by decide) (fun c_44 => ?_) (fun c_44 => absurd c_44 (by decide))
    refine lv_iconst (v := (-1)) X.1 X.2.1 dX12_number__43 (by decide) ?_
    exact ret_i X hw hr hlocks (Nat.le_of_ble_eq_true rfl) (Nat.le_of_ble_eq_true rfl) ⟨hO_2, ⟨z_lo _, z_hi _, Or.inr ⟨fun h => f_7 ((WdR_fr hG ha_x hO_2.fr (by decide +kernel)).mpr h.1), by decide⟩⟩⟩ dX12_number__44
set_option maxHeartbeats 4000000 in
set_option maxRecDepth 100000 in
theorem k_X11_isStretch3 (l : Launch) (G : va_G) (cy : Nat → ClassId) (κ : Nat → Nat) (S : PS) (sz : Nat) (fr : Int32) (fr_z : Int) (nn : Int32) (nn_z : Int) (si : Int32) (si_z : Int) (hG : GX S) (hz_fr : fr.toInt = fr_z) (hz_nn : nn.toInt = nn_z) (hz_si : si.toInt = si_z) (hp_0 : 0 ≤ si_z) : Ci l yX11_isStretch wsX11_isStretch ({ frames := 1, cells := 0, slots := 0, locals := 48 }) G cy κ S sz [.int (fr), .int (nn), .int (si)] (fun (r : Int32) (S9 : PS) => S = S9 ∧ (((0 ≤ nn_z ∧ 0 ≤ fr_z ∧ fr_z + nn_z ≤ si_z) ∧ r = 1) ∨ ((¬ (0 ≤ nn_z ∧ 0 ≤ fr_z ∧ fr_z + nn_z ≤ si_z)) ∧ r = 0))) := by
  refine ent_m (cc := cX11_isStretch) (maxL := 3) (ret := (some .boolean)) (by decide) rfl (Nat.le_of_ble_eq_true rfl) ?_
  intro p e s m below meth c ls X hr hlocks hin hw hl hsz
  subst hsz
  have X : Cx p c cX11_isStretch 3 s [.int (fr), .int (nn), .int (si)].toArray wsX11_isStretch RX11 m G cy κ (AS S s.heap.size) := X
  have hl : lv_has ls 3 [(0, .int (fr)), (1, .int (nn)), (2, .int (si))] := hl
  have rg_fr : (-2147483648) ≤ fr_z ∧ fr_z ≤ 2147483647 := by rw [← hz_fr]; exact ⟨z_lo _, z_hi _⟩
  have rg_nn : (-2147483648) ≤ nn_z ∧ nn_z ≤ 2147483647 := by rw [← hz_nn]; exact ⟨z_lo _, z_hi _⟩
  have rg_si : (-2147483648) ≤ si_z ∧ si_z ≤ 2147483647 := by rw [← hz_si]; exact ⟨z_lo _, z_hi _⟩
  refine lv_iload_n X.1 X.2.1 dX11_isStretch_0 rfl (lv_at hl 1 rfl) ?_
  refine lv_if_lt (tgt := 24) X.1 X.2.1 dX11_isStretch_1 (by decide) (fun c_1 => ?_) (fun c_1 => ?_)
  · have z_b_2 := trivial
    have k_3 : nn_z < 0 := z_lt hz_nn ti_0 c_1
    refine lv_iconst (v := 0) X.1 X.2.1 dX11_isStretch_24 (by decide) ?_
    exact ret_z X hw hr hlocks (Nat.le_of_ble_eq_true rfl) (Nat.le_of_ble_eq_true rfl) (by decide) ⟨rfl, Or.inr ⟨by omega, rfl⟩⟩ dX11_isStretch_25
  · have z_b_4 := trivial
    have k_5 : nn_z ≥ 0 := z_nlt hz_nn ti_0 c_1
    refine lv_iload_n X.1 X.2.1 dX11_isStretch_4 rfl (lv_at hl 1 rfl) ?_
    refine lv_iload_n X.1 X.2.1 dX11_isStretch_5 rfl (lv_at hl 2 rfl) ?_
    refine lv_icmp_gt (tgt := 24) X.1 X.2.1 dX11_isStretch_6 (by decide) (fun c_6 => ?_) (fun c_6 => ?_)
    · have z_b_7 := trivial
      have k_8 : nn_z > si_z := z_lt hz_si hz_nn c_6
      refine lv_iconst (v := 0) X.1 X.2.1 dX11_isStretch_24 (by decide) ?_
      exact ret_z X hw hr hlocks (Nat.le_of_ble_eq_true rfl) (Nat.le_of_ble_eq_true rfl) (by decide) ⟨rfl, Or.inr ⟨by omega, rfl⟩⟩ dX11_isStretch_25
    · have z_b_9 := trivial
      have k_10 : nn_z ≤ si_z := z_nlt hz_si hz_nn c_6
      refine lv_iload_n X.1 X.2.1 dX11_isStretch_9 rfl (lv_at hl 0 rfl) ?_
      refine lv_if_lt (tgt := 24) X.1 X.2.1 dX11_isStretch_10 (by decide) (fun c_11 => ?_) (fun c_11 => ?_)
      · have z_b_12 := trivial
        have k_13 : fr_z < 0 := z_lt hz_fr ti_0 c_11
        refine lv_iconst (v := 0) X.1 X.2.1 dX11_isStretch_24 (by decide) ?_
        exact ret_z X hw hr hlocks (Nat.le_of_ble_eq_true rfl) (Nat.le_of_ble_eq_true rfl) (by decide) ⟨rfl, Or.inr ⟨by omega, rfl⟩⟩ dX11_isStretch_25
      · have z_b_14 := trivial
        have k_15 : fr_z ≥ 0 := z_nlt hz_fr ti_0 c_11
        refine lv_iload_n X.1 X.2.1 dX11_isStretch_13 rfl (lv_at hl 0 rfl) ?_
        refine lv_iload_n X.1 X.2.1 dX11_isStretch_14 rfl (lv_at hl 2 rfl) ?_
        refine lv_iload_n X.1 X.2.1 dX11_isStretch_15 rfl (lv_at hl 1 rfl) ?_
        refine lv_isub X.1 X.2.1 dX11_isStretch_16 ?_
        refine lv_topi (fun v_16 ev_16 => ?_)
        have z_17 : v_16.toInt = si_z - nn_z := z_sub ev_16 hz_si hz_nn (by omega) (by omega)
        refine lv_icmp_gt (tgt := 24) X.1 X.2.1 dX11_isStretch_17 (by decide) (fun c_18 => ?_) (fun c_18 => ?_)
        · have z_b_19 := trivial
          have k_20 : fr_z > v_16.toInt := z_lt rfl hz_fr c_18
          refine lv_iconst (v := 0) X.1 X.2.1 dX11_isStretch_24 (by decide) ?_
          exact ret_z X hw hr hlocks (Nat.le_of_ble_eq_true rfl) (Nat.le_of_ble_eq_true rfl) (by decide) ⟨rfl, Or.inr ⟨by omega, rfl⟩⟩ dX11_isStretch_25
        · have z_b_21 := trivial
          have k_22 : fr_z ≤ v_16.toInt := z_nlt rfl hz_fr c_18
          refine lv_iconst (v := 1) X.1 X.2.1 dX11_isStretch_20 (by decide) ?_
          refine lv_goto (tgt := 25) X.1 X.2.1 dX11_isStretch_21 (by decide) ?_
          exact ret_z X hw hr hlocks (Nat.le_of_ble_eq_true rfl) (Nat.le_of_ble_eq_true rfl) (by decide) ⟨rfl, Or.inl ⟨by omega, rfl⟩⟩ dX11_isStretch_25
set_option maxHeartbeats 4000000 in
set_option maxRecDepth 100000 in
theorem k_X11_copy3 (l : Launch) (G : va_G) (cy : Nat → ClassId) (κ : Nat → Nat) (S : PS) (sz : Nat) (x : Nat) (a1 : Int32) (a1_z : Int) (a2 : Int32) (a2_z : Int) (a3 : Int32) (a3_z : Int) (a4 : Int32) (a4_z : Int) (a5 : Int32) (a5_z : Int) (hG : GX S) (ha_x : At S x 11) (hz_a1 : a1.toInt = a1_z) (hz_a2 : a2.toInt = a2_z) (hz_a3 : a3.toInt = a3_z) (hz_a4 : a4.toInt = a4_z) (hz_a5 : a5.toInt = a5_z) : Ci l yX11_copy wsX11_copy ({ frames := 2, cells := 0, slots := 0, locals := 96 }) G cy κ S sz [.ref x, .int (a1), .int (a2), .int (a3), .int (a4), .int (a5)] (fun (r : Int32) (S9 : PS) => Ok eWD S S9 ∧ (((∃ P Q w v, (0 ≤ a1_z ∧ a1_z ≤ 15) ∧ (0 ≤ a3_z ∧ a3_z ≤ 15) ∧ mB S x 1109 a1_z.toNat = some P ∧ mB S x 1109 a3_z.toNat = some Q ∧ CpC S P Q a2_z a4_z a5_z ∧ pR S 302 P = some w ∧ pR S 302 Q = some v ∧ S9 = sA S v (va_cpy (pA S w) (pA S v) (Int32.toNatClampNeg (a2)) (Int32.toNatClampNeg (a4)) (Int32.toNatClampNeg (a5)))) ∧ r = 1) ∨ ((S9 = S ∧ ∀ P Q, 0 ≤ a1_z ∧ a1_z ≤ 15 → 0 ≤ a3_z ∧ a3_z ≤ 15 → mB S x 1109 a1_z.toNat = some P → mB S x 1109 a3_z.toNat = some Q → ¬ CpC S P Q a2_z a4_z a5_z) ∧ r = 0))) := by
  refine ent_m (cc := cX11_copy) (maxL := 8) (ret := (some .boolean)) (by decide) rfl (Nat.le_of_ble_eq_true rfl) ?_
  intro p e s m below meth c ls X hr hlocks hin hw hl hsz
  subst hsz
  have X : Cx p c cX11_copy 8 s [.ref x, .int (a1), .int (a2), .int (a3), .int (a4), .int (a5)].toArray wsX11_copy RX11 m G cy κ (AS S s.heap.size) := X
  have hl : lv_has ls 8 [(0, .ref x), (1, .int (a1)), (2, .int (a2)), (3, .int (a3)), (4, .int (a4)), (5, .int (a5))] := hl
  have rg_a1 : (-2147483648) ≤ a1_z ∧ a1_z ≤ 2147483647 := by rw [← hz_a1]; exact ⟨z_lo _, z_hi _⟩
  have rg_a2 : (-2147483648) ≤ a2_z ∧ a2_z ≤ 2147483647 := by rw [← hz_a2]; exact ⟨z_lo _, z_hi _⟩
  have rg_a3 : (-2147483648) ≤ a3_z ∧ a3_z ≤ 2147483647 := by rw [← hz_a3]; exact ⟨z_lo _, z_hi _⟩
  have rg_a4 : (-2147483648) ≤ a4_z ∧ a4_z ≤ 2147483647 := by rw [← hz_a4]; exact ⟨z_lo _, z_hi _⟩
  have rg_a5 : (-2147483648) ≤ a5_z ∧ a5_z ≤ 2147483647 := by rw [← hz_a5]; exact ⟨z_lo _, z_hi _⟩
  have hO : Ok eWD S S := Ok.rf hG
  refine lv_aload_n X.1 X.2.1 dX11_copy_0 rfl (lv_at hl 0 rfl) ?_
  refine lv_iload_n X.1 X.2.1 dX11_copy_1 rfl (lv_at hl 1 rfl) ?_
  refine k_q (rm := { frames := 1, cells := 0, slots := 0, locals := 48 }) (av := [.ref x, .int (a1)]) X hw (va_runV (As := [.int (a1)]) (rest := []) (cfix X) (k_X11_shelfAt3 l G cy κ S _ x (a1) (a1_z) hO.1 ha_x hz_a1) (cwV 1 X.2.2.2.1 gX11_copy_X11_shelfAt rfl rfl rfl (by decide +kernel) ⟨Nat.le_of_ble_eq_true rfl, Nat.le_of_ble_eq_true rfl⟩) (pre_V X hw _ ha_x rfl (by decide) rfl) rfl rfl hl.1 rfl (lv_room (Nat.le_of_ble_eq_true rfl)) dX11_copy_2 ⟨Nat.le_of_ble_eq_true rfl, Nat.le_of_ble_eq_true rfl⟩) 0 0 (Nat.le_of_ble_eq_true rfl) (Nat.le_of_ble_eq_true rfl) (fun rr_1 S_2 H locs hp hw hfr hnw => ?_)
  obtain ⟨e2, hp⟩ := hp
  subst e2
  obtain ⟨hq_3, hnf_4⟩ := hp
  rcases rr_1 with _ | q_5
  · refine W.eq (g2 := F0 m 5 ls (.null :: [])) rfl ?_
    have nf_6 := hnf_4 rfl
    refine lv_astoreN (lv' := [(6, .null), (0, .ref x), (1, .int (a1)), (2, .int (a2)), (3, .int (a3)), (4, .int (a4)), (5, .int (a5))]) X.1 X.2.1 dX11_copy_5 hl (by decide) rfl (fun ls hl => ?_)
    refine lv_aload_n X.1 X.2.1 dX11_copy_7 rfl (lv_at hl 1 rfl) ?_
    refine lv_iload_n X.1 X.2.1 dX11_copy_8 rfl (lv_at hl 4 rfl) ?_
    refine k_q (rm := { frames := 1, cells := 0, slots := 0, locals := 48 }) (av := [.ref x, .int (a3)]) X hw (va_runV (As := [.int (a3)]) (rest := []) (cfix X) (k_X11_shelfAt3 l G cy κ S _ x (a3) (a3_z) hO.1 ha_x hz_a3) (cwV 1 X.2.2.2.1 gX11_copy_X11_shelfAt rfl rfl rfl (by decide +kernel) ⟨Nat.le_of_ble_eq_true rfl, Nat.le_of_ble_eq_true rfl⟩) (pre_V X hw _ ha_x rfl (by decide) rfl) rfl rfl hl.1 rfl (lv_room (Nat.le_of_ble_eq_true rfl)) dX11_copy_9 ⟨Nat.le_of_ble_eq_true rfl, Nat.le_of_ble_eq_true rfl⟩) 0 0 (Nat.le_of_ble_eq_true rfl) (Nat.le_of_ble_eq_true rfl) (fun rr_7 S_8 H locs hp hw hfr hnw => ?_)
    obtain ⟨e2, hp⟩ := hp
    subst e2
    obtain ⟨hq_9, hnf_10⟩ := hp
    rcases rr_7 with _ | q_11
    · refine W.eq (g2 := F0 m 12 ls (.null :: [])) rfl ?_
      have nf_12 := hnf_10 rfl
      refine lv_astoreN (lv' := [(7, .null), (6, .null), (0, .ref x), (1, .int (a1)), (2, .int (a2)), (3, .int (a3)), (4, .int (a4)), (5, .int (a5))]) X.1 X.2.1 dX11_copy_12 hl (by decide) rfl (fun ls hl => ?_)
      refine lv_aloadN X.1 X.2.1 dX11_copy_14 (lv_at hl 1 rfl) ?_
      refine lv_ifnullN (tgt := 40) X.1 X.2.1 dX11_copy_16 (by decide) ?_
      refine lv_iconst (v := 0) X.1 X.2.1 dX11_copy_40 (by decide) ?_
      exact ret_z X hw hr hlocks (Nat.le_of_ble_eq_true rfl) (Nat.le_of_ble_eq_true rfl) (by decide) ⟨hO, Or.inr ⟨⟨rfl, fun P Q h1 h2 h3 h4 => (by first | (rw [nf_12 h1] at h3; cases h3) | (rw [nf_12 h2] at h4; cases h4))⟩, rfl⟩⟩ dX11_copy_41
    · refine W.eq (g2 := F0 m 12 ls (.ref q_11 :: [])) rfl ?_
      obtain ⟨ha_13, f_14, f_15, f_16⟩ := hq_9 _ rfl
      refine lv_astore (lv' := [(7, .ref q_11), (6, .null), (0, .ref x), (1, .int (a1)), (2, .int (a2)), (3, .int (a3)), (4, .int (a4)), (5, .int (a5))]) X.1 X.2.1 dX11_copy_12 hl (by decide) rfl (fun ls hl => ?_)
      refine lv_aloadN X.1 X.2.1 dX11_copy_14 (lv_at hl 1 rfl) ?_
      refine lv_ifnullN (tgt := 40) X.1 X.2.1 dX11_copy_16 (by decide) ?_
      refine lv_iconst (v := 0) X.1 X.2.1 dX11_copy_40 (by decide) ?_
      exact ret_z X hw hr hlocks (Nat.le_of_ble_eq_true rfl) (Nat.le_of_ble_eq_true rfl) (by decide) ⟨hO, Or.inr ⟨⟨rfl, fun P Q h1 h2 h3 h4 => (by first | (rw [nf_6 h1] at h3; cases h3) | (rw [nf_6 h2] at h4; cases h4))⟩, rfl⟩⟩ dX11_copy_41
  · refine W.eq (g2 := F0 m 5 ls (.ref q_5 :: [])) rfl ?_
    obtain ⟨ha_17, f_18, f_19, f_20⟩ := hq_3 _ rfl
    refine lv_astore (lv' := [(6, .ref q_5), (0, .ref x), (1, .int (a1)), (2, .int (a2)), (3, .int (a3)), (4, .int (a4)), (5, .int (a5))]) X.1 X.2.1 dX11_copy_5 hl (by decide) rfl (fun ls hl => ?_)
    refine lv_aload_n X.1 X.2.1 dX11_copy_7 rfl (lv_at hl 1 rfl) ?_
    refine lv_iload_n X.1 X.2.1 dX11_copy_8 rfl (lv_at hl 4 rfl) ?_
    refine k_q (rm := { frames := 1, cells := 0, slots := 0, locals := 48 }) (av := [.ref x, .int (a3)]) X hw (va_runV (As := [.int (a3)]) (rest := []) (cfix X) (k_X11_shelfAt3 l G cy κ S _ x (a3) (a3_z) hO.1 ha_x hz_a3) (cwV 1 X.2.2.2.1 gX11_copy_X11_shelfAt rfl rfl rfl (by decide +kernel) ⟨Nat.le_of_ble_eq_true rfl, Nat.le_of_ble_eq_true rfl⟩) (pre_V X hw _ ha_x rfl (by decide) rfl) rfl rfl hl.1 rfl (lv_room (Nat.le_of_ble_eq_true rfl)) dX11_copy_9 ⟨Nat.le_of_ble_eq_true rfl, Nat.le_of_ble_eq_true rfl⟩) 0 0 (Nat.le_of_ble_eq_true rfl) (Nat.le_of_ble_eq_true rfl) (fun rr_21 S_22 H locs hp hw hfr hnw => ?_)
    obtain ⟨e2, hp⟩ := hp
    subst e2
    obtain ⟨hq_23, hnf_24⟩ := hp
    rcases rr_21 with _ | q_25
    · refine W.eq (g2 := F0 m 12 ls (.null :: [])) rfl ?_
      have nf_26 := hnf_24 rfl
      refine lv_astoreN (lv' := [(7, .null), (6, .ref q_5), (0, .ref x), (1, .int (a1)), (2, .int (a2)), (3, .int (a3)), (4, .int (a4)), (5, .int (a5))]) X.1 X.2.1 dX11_copy_12 hl (by decide) rfl (fun ls hl => ?_)
      refine lv_aload X.1 X.2.1 dX11_copy_14 (lv_at hl 1 rfl) ?_
      refine lv_ifnull X.1 X.2.1 dX11_copy_16 ?_
      refine lv_aloadN X.1 X.2.1 dX11_copy_19 (lv_at hl 0 rfl) ?_
      refine lv_ifnullN (tgt := 40) X.1 X.2.1 dX11_copy_21 (by decide) ?_
      refine lv_iconst (v := 0) X.1 X.2.1 dX11_copy_40 (by decide) ?_
      exact ret_z X hw hr hlocks (Nat.le_of_ble_eq_true rfl) (Nat.le_of_ble_eq_true rfl) (by decide) ⟨hO, Or.inr ⟨⟨rfl, fun P Q h1 h2 h3 h4 => (by first | (rw [nf_26 h1] at h3; cases h3) | (rw [nf_26 h2] at h4; cases h4))⟩, rfl⟩⟩ dX11_copy_41
    · refine W.eq (g2 := F0 m 12 ls (.ref q_25 :: [])) rfl ?_
      obtain ⟨ha_27, f_28, f_29, f_30⟩ := hq_23 _ rfl
      refine lv_astore (lv' := [(7, .ref q_25), (6, .ref q_5), (0, .ref x), (1, .int (a1)), (2, .int (a2)), (3, .int (a3)), (4, .int (a4)), (5, .int (a5))]) X.1 X.2.1 dX11_copy_12 hl (by decide) rfl (fun ls hl => ?_)
      refine lv_aload X.1 X.2.1 dX11_copy_14 (lv_at hl 1 rfl) ?_
      refine lv_ifnull X.1 X.2.1 dX11_copy_16 ?_
      refine lv_aload X.1 X.2.1 dX11_copy_19 (lv_at hl 0 rfl) ?_
      refine lv_ifnull X.1 X.2.1 dX11_copy_21 ?_
      refine lv_aload X.1 X.2.1 dX11_copy_24 (lv_at hl 1 rfl) ?_
      refine k_i (rm := { frames := 1, cells := 0, slots := 0, locals := 48 }) (av := [.ref q_5]) X hw (va_runV (As := []) (rest := []) (cfix X) (k_X3_hasRow3 l G cy κ S _ q_5 hO.1 ha_17) (cwV 0 X.2.2.2.1 gX11_copy_X3_hasRow rfl rfl rfl (by decide +kernel) ⟨Nat.le_of_ble_eq_true rfl, Nat.le_of_ble_eq_true rfl⟩) (pre_V X hw _ ha_17 rfl (by decide) rfl) rfl rfl hl.1 rfl (lv_room (Nat.le_of_ble_eq_true rfl)) dX11_copy_26 ⟨Nat.le_of_ble_eq_true rfl, Nat.le_of_ble_eq_true rfl⟩) 0 0 (Nat.le_of_ble_eq_true rfl) (Nat.le_of_ble_eq_true rfl) (fun rr_31 S_32 H locs hp hw hfr hnw => ?_)
      obtain ⟨e2, hp⟩ := hp
      subst e2
      rcases hp with ⟨f_33, er_34⟩ | ⟨f_33, er_34⟩ <;> subst er_34
      · have z_b_35 := trivial
        refine lv_if_eq (tgt := 40) X.1 X.2.1 dX11_copy_29 (by decide) (fun c_36 => absurd c_36 (by decide)) (fun c_36 => ?_)
        refine lv_aload X.1 X.2.1 dX11_copy_32 (lv_at hl 0 rfl) ?_
        refine k_i (rm := { frames := 1, cells := 0, slots := 0, locals := 48 }) (av := [.ref q_25]) X hw (va_runV (As := []) (rest := []) (cfix X) (k_X3_hasRow3 l G cy κ S _ q_25 hO.1 ha_27) (cwV 0 X.2.2.2.1 gX11_copy_X3_hasRow rfl rfl rfl (by decide +kernel) ⟨Nat.le_of_ble_eq_true rfl, Nat.le_of_ble_eq_true rfl⟩) (pre_V X hw _ ha_27 rfl (by decide) rfl) rfl rfl hl.1 rfl (lv_room (Nat.le_of_ble_eq_true rfl)) dX11_copy_34 ⟨Nat.le_of_ble_eq_true rfl, Nat.le_of_ble_eq_true rfl⟩) 0 0 (Nat.le_of_ble_eq_true rfl) (Nat.le_of_ble_eq_true rfl) (fun rr_37 S_38 H locs hp hw hfr hnw => ?_)
        obtain ⟨e2, hp⟩ := hp
        subst e2
        rcases hp with ⟨f_39, er_40⟩ | ⟨f_39, er_40⟩ <;> subst er_40
        · have z_b_41 := trivial
          refine lv_if_ne (tgt := 42) X.1 X.2.1 dX11_copy_37 (by decide) (fun c_42 => ?_) (fun c_42 => absurd c_42 (by decide))
          refine lv_iload_n X.1 X.2.1 dX11_copy_42 rfl (lv_at hl 4 rfl) ?_
          refine lv_iload X.1 X.2.1 dX11_copy_43 (lv_at hl 7 rfl) ?_
          refine lv_aload X.1 X.2.1 dX11_copy_45 (lv_at hl 1 rfl) ?_
          obtain ⟨v_43, ev_43⟩ : ∃ v, pI S 301 q_5 = v := ⟨_, rfl⟩
          have rg_44 := gI_3_301 hO.1 ha_17; rw [ev_43] at rg_44
          refine r_getI (g := 301) (x := v_43) X hw ha_17 rfl 1 ev_43 (by decide) rfl inn_X11_copy_3 (by decide) (X.2.2.2.1 (.fieldLink RX11 324 "SilkMill$Place" "wordSize" "I") (by decide +kernel)) rfl (gv_301 _ _) dX11_copy_47 ?_
          refine k_i (rm := { frames := 1, cells := 0, slots := 0, locals := 48 }) (av := [.int (a2), .int (a5), .int (v_43)]) X hw (va_runS (As := [.int (a2), .int (a5), .int (v_43)]) (rest := []) (cfix X) (k_X11_isStretch3 l G cy κ S _ (a2) (a2_z) (a5) (a5_z) (v_43) (v_43.toInt) hO.1 hz_a2 hz_a5 rfl (by omega)) (cwS 3 X.2.2.2.1 gX11_copy_X11_isStretch rfl rfl rfl (by decide +kernel) ⟨Nat.le_of_ble_eq_true rfl, Nat.le_of_ble_eq_true rfl⟩) (pre_S X hw _) rfl rfl hl.1 rfl (lv_room (Nat.le_of_ble_eq_true rfl)) dX11_copy_50 ⟨Nat.le_of_ble_eq_true rfl, Nat.le_of_ble_eq_true rfl⟩) 0 0 (Nat.le_of_ble_eq_true rfl) (Nat.le_of_ble_eq_true rfl) (fun rr_45 S_46 H locs hp hw hfr hnw => ?_)
          obtain ⟨e2, hp⟩ := hp
          subst e2
          rcases hp with ⟨f_47, er_48⟩ | ⟨f_47, er_48⟩ <;> subst er_48
          · have z_b_49 := trivial
            refine lv_if_eq (tgt := 71) X.1 X.2.1 dX11_copy_53 (by decide) (fun c_50 => absurd c_50 (by decide)) (fun c_50 => ?_)
            refine lv_iload X.1 X.2.1 dX11_copy_56 (lv_at hl 6 rfl) ?_
            refine lv_iload X.1 X.2.1 dX11_copy_58 (lv_at hl 7 rfl) ?_
            refine lv_aload X.1 X.2.1 dX11_copy_60 (lv_at hl 0 rfl) ?_
            obtain ⟨v_51, ev_51⟩ : ∃ v, pI S 301 q_25 = v := ⟨_, rfl⟩
            have rg_52 := gI_3_301 hO.1 ha_27; rw [ev_51] at rg_52
            refine r_getI (g := 301) (x := v_51) X hw ha_27 rfl 1 ev_51 (by decide) rfl inn_X11_copy_3 (by decide) (X.2.2.2.1 (.fieldLink RX11 324 "SilkMill$Place" "wordSize" "I") (by decide +kernel)) rfl (gv_301 _ _) dX11_copy_62 ?_
            refine k_i (rm := { frames := 1, cells := 0, slots := 0, locals := 48 }) (av := [.int (a4), .int (a5), .int (v_51)]) X hw (va_runS (As := [.int (a4), .int (a5), .int (v_51)]) (rest := []) (cfix X) (k_X11_isStretch3 l G cy κ S _ (a4) (a4_z) (a5) (a5_z) (v_51) (v_51.toInt) hO.1 hz_a4 hz_a5 rfl (by omega)) (cwS 3 X.2.2.2.1 gX11_copy_X11_isStretch rfl rfl rfl (by decide +kernel) ⟨Nat.le_of_ble_eq_true rfl, Nat.le_of_ble_eq_true rfl⟩) (pre_S X hw _) rfl rfl hl.1 rfl (lv_room (Nat.le_of_ble_eq_true rfl)) dX11_copy_65 ⟨Nat.le_of_ble_eq_true rfl, Nat.le_of_ble_eq_true rfl⟩) 0 0 (Nat.le_of_ble_eq_true rfl) (Nat.le_of_ble_eq_true rfl) (fun rr_53 S_54 H locs hp hw hfr hnw => ?_)
            obtain ⟨e2, hp⟩ := hp
            subst e2
            rcases hp with ⟨f_55, er_56⟩ | ⟨f_55, er_56⟩ <;> subst er_56
            · have z_b_57 := trivial
              refine lv_if_ne (tgt := 73) X.1 X.2.1 dX11_copy_68 (by decide) (fun c_58 => ?_) (fun c_58 => absurd c_58 (by decide))
              have pz_59 : (pI S 301 q_5).toInt = v_43.toInt := (congrArg Int32.toInt ev_43).trans rfl
              have pz_60 : (pI S 301 q_25).toInt = v_51.toInt := (congrArg Int32.toInt ev_51).trans rfl
              refine lv_aload X.1 X.2.1 dX11_copy_73 (lv_at hl 1 rfl) ?_
              obtain ⟨q_61, h_62, h_63, h_64⟩ := gQ_3_302 hO.1 ha_17
              refine r_getR (g := 302) X hw ha_17 rfl 2 h_62 (by decide) rfl inn_X11_copy_3 (by decide) (X.2.2.2.1 (.fieldLink RX11 336 "SilkMill$Place" "word" "[I") (by decide +kernel)) rfl (gv_302 _ _) dX11_copy_75 ?_
              refine lv_iload_n X.1 X.2.1 dX11_copy_78 rfl (lv_at hl 4 rfl) ?_
              refine lv_aload X.1 X.2.1 dX11_copy_79 (lv_at hl 0 rfl) ?_
              obtain ⟨q_65, h_66, h_67, h_68⟩ := gQ_3_302 hO.1 ha_27
              refine r_getR (g := 302) X hw ha_27 rfl 2 h_66 (by decide) rfl inn_X11_copy_3 (by decide) (X.2.2.2.1 (.fieldLink RX11 336 "SilkMill$Place" "word" "[I") (by decide +kernel)) rfl (gv_302 _ _) dX11_copy_81 ?_
              refine lv_iload X.1 X.2.1 dX11_copy_84 (lv_at hl 6 rfl) ?_
              refine lv_iload X.1 X.2.1 dX11_copy_86 (lv_at hl 7 rfl) ?_
              refine r_copyI X hw hl h_63 rfl h_67 rfl (X.2.2.2.1 (.methodLink RX11 118 arraycopyName) (by decide +kernel)) (X.2.2.2.1 (.native arraycopyName) (by decide +kernel)) (X.2.2.2.1 (.static arraycopyName) (by decide +kernel)) (X.2.2.2.1 (.initialized "java/lang/System") (by decide +kernel)) (by rw [h_64]; exact z_cp hz_a2 hz_a5 (by omega) (by omega) (by omega)) (by rw [h_68]; exact z_cp hz_a4 hz_a5 (by omega) (by omega) (by omega)) (z_nn hz_a2 (by omega)) (z_nn hz_a4 (by omega)) (z_nn hz_a5 (by omega)) (Nat.le_of_ble_eq_true rfl) (Nat.le_of_ble_eq_true rfl) dX11_copy_88 (fun H locs hw => ?_)
              obtain ⟨S_69, eS_69⟩ : ∃ T, T = sA S q_65 (va_cpy (pA S q_61) (pA S q_65) (Int32.toNatClampNeg (a2)) (Int32.toNatClampNeg (a4)) (Int32.toNatClampNeg (a5))) := ⟨_, rfl⟩
              rw [← eS_69] at hw
              have hO_70 : Ok eWD S S_69 := hO.sA eS_69 h_67 (by decide +kernel) (uA_114 hO.1 h_67)
              refine lv_iconst (v := 1) X.1 X.2.1 dX11_copy_91 (by decide) ?_
              exact ret_z X hw hr hlocks (Nat.le_of_ble_eq_true rfl) (Nat.le_of_ble_eq_true rfl) (by decide) ⟨hO_70, Or.inl ⟨⟨q_5, q_25, q_61, q_65, ⟨by omega, by omega⟩, ⟨by omega, by omega⟩, f_20, f_30, ⟨f_33, f_39, by omega, by omega, by omega, by omega, by omega⟩, h_62, h_66, eS_69⟩, rfl⟩⟩ dX11_copy_92
            · have z_b_71 := trivial
              refine lv_if_ne (tgt := 73) X.1 X.2.1 dX11_copy_68 (by decide) (fun c_72 => absurd c_72 (by decide)) (fun c_72 => ?_)
              refine lv_iconst (v := 0) X.1 X.2.1 dX11_copy_71 (by decide) ?_
              have pz_73 : (pI S 301 q_25).toInt = v_51.toInt := (congrArg Int32.toInt ev_51).trans rfl
              have pz_74 : (pI S 301 q_5).toInt = v_43.toInt := (congrArg Int32.toInt ev_43).trans rfl
              exact ret_z X hw hr hlocks (Nat.le_of_ble_eq_true rfl) (Nat.le_of_ble_eq_true rfl) (by decide) ⟨hO, Or.inr ⟨⟨rfl, fun P Q h1 h2 h3 h4 h => (by rw [f_20] at h3; cases h3; rw [f_30] at h4; cases h4; obtain ⟨-, -, g1, g2, g3, g4, g5⟩ := h; omega)⟩, rfl⟩⟩ dX11_copy_72
          · have z_b_75 := trivial
            refine lv_if_eq (tgt := 71) X.1 X.2.1 dX11_copy_53 (by decide) (fun c_76 => ?_) (fun c_76 => absurd c_76 (by decide))
            refine lv_iconst (v := 0) X.1 X.2.1 dX11_copy_71 (by decide) ?_
            obtain ⟨v_77, ev_77⟩ : ∃ v, pI S 301 q_25 = v := ⟨_, rfl⟩
            have rg_78 := gI_3_301 hO.1 ha_27; rw [ev_77] at rg_78
            have pz_79 : (pI S 301 q_25).toInt = v_77.toInt := (congrArg Int32.toInt ev_77).trans rfl
            have pz_80 : (pI S 301 q_5).toInt = v_43.toInt := (congrArg Int32.toInt ev_43).trans rfl
            exact ret_z X hw hr hlocks (Nat.le_of_ble_eq_true rfl) (Nat.le_of_ble_eq_true rfl) (by decide) ⟨hO, Or.inr ⟨⟨rfl, fun P Q h1 h2 h3 h4 h => (by rw [f_20] at h3; cases h3; rw [f_30] at h4; cases h4; obtain ⟨-, -, g1, g2, g3, g4, g5⟩ := h; omega)⟩, rfl⟩⟩ dX11_copy_72
        · have z_b_81 := trivial
          refine lv_if_ne (tgt := 42) X.1 X.2.1 dX11_copy_37 (by decide) (fun c_82 => absurd c_82 (by decide)) (fun c_82 => ?_)
          refine lv_iconst (v := 0) X.1 X.2.1 dX11_copy_40 (by decide) ?_
          exact ret_z X hw hr hlocks (Nat.le_of_ble_eq_true rfl) (Nat.le_of_ble_eq_true rfl) (by decide) ⟨hO, Or.inr ⟨⟨rfl, fun P Q h1 h2 h3 h4 h => (by rw [f_20] at h3; cases h3; rw [f_30] at h4; cases h4; first | exact f_39 h.1 | exact f_39 h.2.1)⟩, rfl⟩⟩ dX11_copy_41
      · have z_b_83 := trivial
        refine lv_if_eq (tgt := 40) X.1 X.2.1 dX11_copy_29 (by decide) (fun c_84 => ?_) (fun c_84 => absurd c_84 (by decide))
        refine lv_iconst (v := 0) X.1 X.2.1 dX11_copy_40 (by decide) ?_
        exact ret_z X hw hr hlocks (Nat.le_of_ble_eq_true rfl) (Nat.le_of_ble_eq_true rfl) (by decide) ⟨hO, Or.inr ⟨⟨rfl, fun P Q h1 h2 h3 h4 h => (by rw [f_20] at h3; cases h3; rw [f_30] at h4; cases h4; first | exact f_33 h.1 | exact f_33 h.2.1)⟩, rfl⟩⟩ dX11_copy_41
set_option maxHeartbeats 4000000 in
set_option maxRecDepth 100000 in
theorem k_X12_copy3 (l : Launch) (G : va_G) (cy : Nat → ClassId) (κ : Nat → Nat) (S : PS) (sz hz : Nat) (x : Nat) (a1 : Int32) (a1_z : Int) (a2 : Int32) (a2_z : Int) (a3 : Int32) (a3_z : Int) (a4 : Int32) (a4_z : Int) (a5 : Int32) (a5_z : Int) (hG : GX S) (ha_x : At S x 12) (hz_a1 : a1.toInt = a1_z) (hz_a2 : a2.toInt = a2_z) (hz_a3 : a3.toInt = a3_z) (hz_a4 : a4.toInt = a4_z) (hz_a5 : a5.toInt = a5_z) : Gi l yX12_copy wsX12_copy ({ frames := 3, cells := Phc S + 1, slots := Phs S + 8, locals := 144 }) G cy κ S sz hz 1 8 [.ref x, .int (a1), .int (a2), .int (a3), .int (a4), .int (a5)] (fun (r : Int32) (S9 : PS) => Og MCP S S9 ∧ (((CpR S x a1_z a2_z a3_z a4_z a5_z ∧ ∀ j : Nat, zA S9 x 1257 j = if 8 * a3_z + a4_z ≤ (j : Int) ∧ (j : Int) < 8 * a3_z + a4_z + a5_z then zA S x 1257 ((8 * a1_z + a2_z).toNat + (j - (8 * a3_z + a4_z).toNat)) else zA S x 1257 j) ∧ r = 1) ∨ ((¬ CpR S x a1_z a2_z a3_z a4_z a5_z ∧ zA S9 x 1257 = zA S x 1257) ∧ r = 0))) := by
  refine ent_g (cc := cX12_copy) (maxL := 8) (ret := (some .boolean)) (by decide) rfl (Nat.le_of_ble_eq_true rfl) ?_
  intro p e s m below meth c ls X hr hlocks hin hw hl hsz hhz
  subst hsz hhz
  have X : Cx p c cX12_copy 8 s [.ref x, .int (a1), .int (a2), .int (a3), .int (a4), .int (a5)].toArray wsX12_copy RX12 m G cy κ (AS S s.heap.size) := X
  have hl : lv_has ls 8 [(0, .ref x), (1, .int (a1)), (2, .int (a2)), (3, .int (a3)), (4, .int (a4)), (5, .int (a5))] := hl
  have rg_a1 : (-2147483648) ≤ a1_z ∧ a1_z ≤ 2147483647 := by rw [← hz_a1]; exact ⟨z_lo _, z_hi _⟩
  have rg_a2 : (-2147483648) ≤ a2_z ∧ a2_z ≤ 2147483647 := by rw [← hz_a2]; exact ⟨z_lo _, z_hi _⟩
  have rg_a3 : (-2147483648) ≤ a3_z ∧ a3_z ≤ 2147483647 := by rw [← hz_a3]; exact ⟨z_lo _, z_hi _⟩
  have rg_a4 : (-2147483648) ≤ a4_z ∧ a4_z ≤ 2147483647 := by rw [← hz_a4]; exact ⟨z_lo _, z_hi _⟩
  have rg_a5 : (-2147483648) ≤ a5_z ∧ a5_z ≤ 2147483647 := by rw [← hz_a5]; exact ⟨z_lo _, z_hi _⟩
  have hpc0 : 0 + Phc S ≤ Phc S + 0 := by omega
  have hps0 : 0 + Phs S ≤ Phs S + 0 := by omega
  have hO : Og MCP S S := Og.rf hG
  generalize hQQ : MQ below _ _ _ _ _ _ = QQ
  replace hQQ := hQQ.symm
  refine lv_aload_n X.1 X.2.1 dX12_copy_0 rfl (lv_at hl 0 rfl) ?_
  refine lv_iconst (v := 0) X.1 X.2.1 dX12_copy_1 (by decide) ?_
  refine r_putI (v := 0) X hw ha_x rfl 0 1200 tyX12 (by decide) rfl inn_X12_copy_12 tyX12_ok nmX12 (by decide) (X.2.2.2.1 (.fieldLink RX12 161 "SilkMillModel" "thrown" "I") (by decide +kernel)) rfl (Or.inl rfl) rfl rfl (Nat.le_of_ble_eq_true rfl) (st_1200 _ _) dX12_copy_2 (fun H locs hw => ?_)
  obtain ⟨S_1, eS_1⟩ : ∃ T, T = sI S 1200 x (0) := ⟨_, rfl⟩
  rw [← eS_1] at hw
  have ph_2 : 0 + Phc S_1 ≤ Phc S + 0 := by rw [show Phc S_1 = Phc S from Ph_sI eS_1 rfl rfl]; exact hpc0
  have ph_3 : 0 + Phs S_1 ≤ Phs S + 0 := by rw [show Phs S_1 = Phs S from Ph_sI eS_1 rfl rfl]; exact hps0
  clear hpc0
  clear hps0
  have hO_4 : Og MCP S S_1 := hO.sI eS_1 (by decide +kernel) (uI_12_1200 hO.1 ha_x)
  have h_5 : pI S_1 1200 x = 0 := tI_sIs eS_1
  refine lv_aload_n X.1 X.2.1 dX12_copy_5 rfl (lv_at hl 0 rfl) ?_
  refine lv_iload_n X.1 X.2.1 dX12_copy_6 rfl (lv_at hl 1 rfl) ?_
  have t_6 : At S_1 x 12 := tAt_sI eS_1 ha_x
  refine k_i (rm := { frames := 2, cells := 0, slots := 0, locals := 96 }) (av := [.ref x, .int (a1)]) X hw (va_runV (As := [.int (a1)]) (rest := []) (cfix X) (k_X12_isWord3 l G cy κ S_1 _ x (a1) (a1_z) hO_4.1 t_6 hz_a1) (cwV 1 X.2.2.2.1 gX12_copy_X12_isWord rfl rfl rfl (by decide +kernel) ⟨Nat.le_of_ble_eq_true rfl, Nat.le_of_ble_eq_true rfl⟩) (pre_V X hw _ t_6 rfl (by decide) rfl) rfl rfl hl.1 rfl (lv_room (Nat.le_of_ble_eq_true rfl)) dX12_copy_7 ⟨(by show 0 + 0 ≤ Phc S + 1; omega), (by show 0 + 0 ≤ Phs S + 8; omega)⟩) 0 0 (by show 0 + 0 ≤ 0; omega) (by show 0 + 0 ≤ 0; omega) (fun rr_7 S_8 H locs hp hw hfr hnw => ?_)
  obtain ⟨e2, hp⟩ := hp
  subst e2
  rcases hp with ⟨f_9, er_10⟩ | ⟨f_9, er_10⟩ <;> subst er_10
  · have z_b_11 := trivial
    have wd_12 := f_9.1
    have wd_13 := f_9.2.1
    refine lv_if_eq (tgt := 35) X.1 X.2.1 dX12_copy_10 (by decide) (fun c_14 => absurd c_14 (by decide)) (fun c_14 => ?_)
    refine lv_aload_n X.1 X.2.1 dX12_copy_13 rfl (lv_at hl 0 rfl) ?_
    refine lv_iload_n X.1 X.2.1 dX12_copy_14 rfl (lv_at hl 3 rfl) ?_
    refine k_i (rm := { frames := 2, cells := 0, slots := 0, locals := 96 }) (av := [.ref x, .int (a3)]) X hw (va_runV (As := [.int (a3)]) (rest := []) (cfix X) (k_X12_isWord3 l G cy κ S_1 _ x (a3) (a3_z) hO_4.1 t_6 hz_a3) (cwV 1 X.2.2.2.1 gX12_copy_X12_isWord rfl rfl rfl (by decide +kernel) ⟨Nat.le_of_ble_eq_true rfl, Nat.le_of_ble_eq_true rfl⟩) (pre_V X hw _ t_6 rfl (by decide) rfl) rfl rfl hl.1 rfl (lv_room (Nat.le_of_ble_eq_true rfl)) dX12_copy_15 ⟨(by show 0 + 0 ≤ Phc S + 1; omega), (by show 0 + 0 ≤ Phs S + 8; omega)⟩) 0 0 (by show 0 + 0 ≤ 0; omega) (by show 0 + 0 ≤ 0; omega) (fun rr_15 S_16 H locs hp hw hfr hnw => ?_)
    obtain ⟨e2, hp⟩ := hp
    subst e2
    rcases hp with ⟨f_17, er_18⟩ | ⟨f_17, er_18⟩ <;> subst er_18
    · have z_b_19 := trivial
      have wd_20 := f_17.1
      have wd_21 := f_17.2.1
      refine lv_if_eq (tgt := 35) X.1 X.2.1 dX12_copy_18 (by decide) (fun c_22 => absurd c_22 (by decide)) (fun c_22 => ?_)
      refine lv_iload X.1 X.2.1 dX12_copy_21 (lv_at hl 5 rfl) ?_
      refine lv_if_lt (tgt := 35) X.1 X.2.1 dX12_copy_23 (by decide) (fun c_23 => ?_) (fun c_23 => ?_)
      · have z_b_24 := trivial
        have k_25 : a5_z < 0 := z_lt hz_a5 ti_0 c_23
        refine lv_iconst (v := 0) X.1 X.2.1 dX12_copy_35 (by decide) ?_
        have zc_26 : zA S_1 x 1257 = zA S x 1257 := zA_sI eS_1
        have zc_27 : zA S_1 x 1256 = zA S x 1256 := zA_sI eS_1
        rw [hQQ]
        exact ret_gz X hw hr hlocks (by show 0 ≤ Phc S + 1; omega) (by show 0 ≤ Phs S + 8; omega) (by omega) (by omega) (by decide) ⟨hO_4, Or.inr ⟨⟨fun h => by obtain ⟨-, -, g1, g2, g3, g4, g5⟩ := h; have y1 := congrFun zc_27 a1_z.toNat; have y2 := congrFun zc_27 a3_z.toNat; omega, zc_26⟩, rfl⟩⟩ dX12_copy_36
      · have z_b_28 := trivial
        have k_29 : a5_z ≥ 0 := z_nlt hz_a5 ti_0 c_23
        refine lv_iload_n X.1 X.2.1 dX12_copy_26 rfl (lv_at hl 2 rfl) ?_
        refine lv_if_lt (tgt := 35) X.1 X.2.1 dX12_copy_27 (by decide) (fun c_30 => ?_) (fun c_30 => ?_)
        · have z_b_31 := trivial
          have k_32 : a2_z < 0 := z_lt hz_a2 ti_0 c_30
          refine lv_iconst (v := 0) X.1 X.2.1 dX12_copy_35 (by decide) ?_
          have zc_33 : zA S_1 x 1257 = zA S x 1257 := zA_sI eS_1
          have zc_34 : zA S_1 x 1256 = zA S x 1256 := zA_sI eS_1
          rw [hQQ]
          exact ret_gz X hw hr hlocks (by show 0 ≤ Phc S + 1; omega) (by show 0 ≤ Phs S + 8; omega) (by omega) (by omega) (by decide) ⟨hO_4, Or.inr ⟨⟨fun h => by obtain ⟨-, -, g1, g2, g3, g4, g5⟩ := h; have y1 := congrFun zc_34 a1_z.toNat; have y2 := congrFun zc_34 a3_z.toNat; omega, zc_33⟩, rfl⟩⟩ dX12_copy_36
        · have z_b_35 := trivial
          have k_36 : a2_z ≥ 0 := z_nlt hz_a2 ti_0 c_30
          refine lv_iload X.1 X.2.1 dX12_copy_30 (lv_at hl 4 rfl) ?_
          refine lv_if_ge (tgt := 37) X.1 X.2.1 dX12_copy_32 (by decide) (fun c_37 => ?_) (fun c_37 => ?_)
          · have z_b_38 := trivial
            have k_39 : a4_z ≥ 0 := z_le ti_0 hz_a4 c_37
            refine lv_iload_n X.1 X.2.1 dX12_copy_37 rfl (lv_at hl 2 rfl) ?_
            refine lv_aload_n X.1 X.2.1 dX12_copy_38 rfl (lv_at hl 0 rfl) ?_
            obtain ⟨q_40, h_41, h_42, h_43⟩ := gQ_12_1256 hO_4.1 t_6
            refine r_getR (g := 1256) X hw t_6 rfl 56 h_41 (by decide) rfl inn_X12_copy_12 (by decide) (X.2.2.2.1 (.fieldLink RX12 134 "SilkMillModel" "wordMany" "[I") (by decide +kernel)) rfl (gv_1256 _ _) dX12_copy_39 ?_
            refine lv_iload_n X.1 X.2.1 dX12_copy_42 rfl (lv_at hl 1 rfl) ?_
            refine r_iald X hw h_42 rfl (by rw [h_43]; exact z_ix hz_a1 (by omega) (by omega)) dX12_copy_43 ?_
            refine lv_topi (fun v_44 ev_44 => ?_)
            have z_45 := gE_1334 hO_4.1 h_42 (Int32.toNatClampNeg (a1)); rw [← ev_44] at z_45
            have ev_44 := ev_44.symm
            have zf_46 : zA S_1 x 1256 (a1_z).toNat = v_44.toInt := (zA_of h_41 hz_a1 (by omega) ev_44)
            refine lv_iload X.1 X.2.1 dX12_copy_44 (lv_at hl 5 rfl) ?_
            refine lv_isub X.1 X.2.1 dX12_copy_46 ?_
            refine lv_topi (fun v_47 ev_47 => ?_)
            have z_48 : v_47.toInt = v_44.toInt - a5_z := z_sub ev_47 rfl hz_a5 (by omega) (by omega)
            refine lv_icmp_gt (tgt := 64) X.1 X.2.1 dX12_copy_47 (by decide) (fun c_49 => ?_) (fun c_49 => ?_)
            · have z_b_50 := trivial
              have k_51 : a2_z > (v_44.toInt - a5_z) := z_lt z_48 hz_a2 c_49
              refine lv_iconst (v := 0) X.1 X.2.1 dX12_copy_64 (by decide) ?_
              have zc_52 : zA S_1 x 1257 = zA S x 1257 := zA_sI eS_1
              have zc_53 : zA S_1 x 1256 = zA S x 1256 := zA_sI eS_1
              rw [hQQ]
              exact ret_gz X hw hr hlocks (by show 0 ≤ Phc S + 1; omega) (by show 0 ≤ Phs S + 8; omega) (by omega) (by omega) (by decide) ⟨hO_4, Or.inr ⟨⟨fun h => by obtain ⟨-, -, g1, g2, g3, g4, g5⟩ := h; have y1 := congrFun zc_53 a1_z.toNat; have y2 := congrFun zc_53 a3_z.toNat; omega, zc_52⟩, rfl⟩⟩ dX12_copy_65
            · have z_b_54 := trivial
              have k_55 : a2_z ≤ (v_44.toInt - a5_z) := z_nlt z_48 hz_a2 c_49
              refine lv_iload X.1 X.2.1 dX12_copy_50 (lv_at hl 4 rfl) ?_
              refine lv_aload_n X.1 X.2.1 dX12_copy_52 rfl (lv_at hl 0 rfl) ?_
              refine r_getR (g := 1256) X hw t_6 rfl 56 h_41 (by decide) rfl inn_X12_copy_12 (by decide) (X.2.2.2.1 (.fieldLink RX12 134 "SilkMillModel" "wordMany" "[I") (by decide +kernel)) rfl (gv_1256 _ _) dX12_copy_53 ?_
              refine lv_iload_n X.1 X.2.1 dX12_copy_56 rfl (lv_at hl 3 rfl) ?_
              refine r_iald X hw h_42 rfl (by rw [h_43]; exact z_ix hz_a3 (by omega) (by omega)) dX12_copy_57 ?_
              refine lv_topi (fun v_56 ev_56 => ?_)
              have z_57 := gE_1334 hO_4.1 h_42 (Int32.toNatClampNeg (a3)); rw [← ev_56] at z_57
              have ev_56 := ev_56.symm
              have zf_58 : zA S_1 x 1256 (a3_z).toNat = v_56.toInt := (zA_of h_41 hz_a3 (by omega) ev_56)
              refine lv_iload X.1 X.2.1 dX12_copy_58 (lv_at hl 5 rfl) ?_
              refine lv_isub X.1 X.2.1 dX12_copy_60 ?_
              refine lv_topi (fun v_59 ev_59 => ?_)
              have z_60 : v_59.toInt = v_56.toInt - a5_z := z_sub ev_59 rfl hz_a5 (by omega) (by omega)
              refine lv_icmp_le (tgt := 66) X.1 X.2.1 dX12_copy_61 (by decide) (fun c_61 => ?_) (fun c_61 => ?_)
              · have z_b_62 := trivial
                have k_63 : a4_z ≤ (v_56.toInt - a5_z) := z_le hz_a4 z_60 c_61
                have cw_64 : WdR S x a1_z := (WdR_fr hG ha_x hO_4.fr (by decide +kernel)).mp f_9
                have cw_65 : WdR S x a3_z := (WdR_fr hG ha_x hO_4.fr (by decide +kernel)).mp f_17
                have zc_66 : zA S_1 x 1256 = zA S x 1256 := zA_sI eS_1
                have zz_67 := congrFun zc_66 a1_z.toNat
                have zz_68 := congrFun zc_66 a3_z.toNat
                refine lv_bipush (v := 8) X.1 X.2.1 dX12_copy_66 (by decide) ?_
                have ph_70 : 1 + Phc S_1 ≤ Phc S + 1 := by omega
                have ph_71 : 8 + Phs S_1 ≤ Phs S + 8 := by omega
                clear ph_2
                clear ph_3
                refine r_newI (N := 8) X hw 14 8 1 rfl (X.2.2.2.1 (.arrayClass .int) (by decide +kernel)) (z_nn ti_8 (by omega)) (by decide) (by decide) (by show 0 + 1 ≤ 1; omega) (by show 0 + 8 ≤ 8; omega) (by show 1 ≤ Phc S + 1; omega) (by show 8 ≤ Phs S + 8; omega) dX12_copy_68 (fun q_69 H hq_69 hw => ?_)
                obtain ⟨S_72, eS_72⟩ : ∃ T, T = sN S_1 q_69 14 8 := ⟨_, rfl⟩
                rw [← eS_72] at hw
                have ph_73 : 1 + Phc S_72 ≤ Phc S + 1 := by rw [show Phc S_72 = Phc S_1 from Ph_sN' hO_4.1.ci hq_69 eS_72 (by decide)]; exact ph_70
                have ph_74 : 8 + Phs S_72 ≤ Phs S + 8 := by rw [show Phs S_72 = Phs S_1 from Ph_sN' hO_4.1.ci hq_69 eS_72 (by decide)]; exact ph_71
                clear ph_70
                clear ph_71
                have hO_75 : Og MCP S S_72 := ⟨by rw [eS_72]; exact GX_N hO_4.1 hq_69 (by decide +kernel), hO_4.fr.trans (by rw [eS_72]; exact Fr_sN hq_69)⟩
                have ha_76 : At S_72 q_69 14 := by rw [eS_72]; exact At_nN _ _ _ _
                have hn_77 : pN S_72 q_69 = 8 := by rw [eS_72]; exact pN_sN_new
                refine lv_astore (lv' := [(6, .ref q_69), (0, .ref x), (1, .int (a1)), (2, .int (a2)), (3, .int (a3)), (4, .int (a4)), (5, .int (a5))]) X.1 X.2.1 dX12_copy_70 hl (by decide) rfl (fun ls hl => ?_)
                refine lv_iconst (v := 0) X.1 X.2.1 dX12_copy_72 (by decide) ?_
                refine lv_istore (lv' := [(7, .int 0), (6, .ref q_69), (0, .ref x), (1, .int (a1)), (2, .int (a2)), (3, .int (a3)), (4, .int (a4)), (5, .int (a5))]) X.1 X.2.1 dX12_copy_73 hl (by decide) rfl (fun ls hl => ?_)
                have zc_83 : zA S_1 x 1257 = zA S x 1257 := zA_sI eS_1
                have zc_84 : zA S_72 x 1257 = zA S x 1257 := (zA_sN eS_72 (ex3 (gQ_12_1257 hO_4.1 t_6)) hq_69).trans zc_83
                have L_78 : ∀ (n : Nat) (T_80 : PS) (H : Heap) (locs : List Loc) (ls : Array Slot) (i7_79 : Int32) (i7_79_z : Int) (cc_88 nn_89 : Nat), ((8 - i7_79_z).toNat = n) → (Wd G cy (AS S s.heap.size) s.heap T_80 H locs) → (i7_79.toInt = i7_79_z) → (0 ≤ i7_79_z ∧ i7_79_z ≤ 8) → (At T_80 q_69 14) → (At T_80 x 12) → (Og MCP S T_80) → (zA T_80 x 1257 = zA S x 1257) → ((∀ i : Nat, (i : Int) < i7_79_z → oA T_80 q_69 i = zA S x 1257 ((8 * a1_z + a2_z).toNat + i))) → (pN T_80 q_69 = 8) → (cc_88 + Phc T_80 ≤ Phc S + 1) → (nn_89 + Phs T_80 ≤ Phs S + 8) → (lv_has ls 8 [(7, .int (i7_79)), (6, .ref q_69), (0, .ref x), (1, .int (a1)), (2, .int (a2)), (3, .int (a3)), (4, .int (a4)), (5, .int (a5))]) → W p l e ({ frames := 3, cells := Phc S + 1, slots := Phs S + 8, locals := 144 }) s m [.ref x, .int (a1), .int (a2), .int (a3), .int (a4), .int (a5)].toArray below meth c H locs cc_88 nn_89 QQ (F0 m 75 ls []) := by
                  intro n
                  induction n using Nat.strongRecOn with
                  | ind n ih_L_78 =>
                  intro T_80 H locs ls i7_79 i7_79_z cc_88 nn_89 hn hw hz_i7_79 hr_i7_79 ha_q_69_L_81 ha_x_L_82 hO_T_80 zk_85 iv_86 ik_87 hcc_90 hnn_91 hl
                  have rg_92 : (-2147483648) ≤ i7_79_z ∧ i7_79_z ≤ 2147483647 := by rw [← hz_i7_79]; exact ⟨z_lo _, z_hi _⟩
                  refine lv_iload X.1 X.2.1 dX12_copy_75 (lv_at hl 0 rfl) ?_
                  refine lv_iload X.1 X.2.1 dX12_copy_77 (lv_at hl 7 rfl) ?_
                  refine lv_icmp_ge (tgt := 107) X.1 X.2.1 dX12_copy_79 (by decide) (fun c_93 => ?_) (fun c_93 => ?_)
                  · have z_b_94 := trivial
                    have k_95 : i7_79_z ≥ a5_z := z_le hz_a5 hz_i7_79 c_93
                    refine lv_iconst (v := 0) X.1 X.2.1 dX12_copy_107 (by decide) ?_
                    refine lv_istore (lv' := [(7, .int 0), (6, .ref q_69), (0, .ref x), (1, .int (a1)), (2, .int (a2)), (3, .int (a3)), (4, .int (a4)), (5, .int (a5))]) X.1 X.2.1 dX12_copy_108 hl (by decide) rfl (fun ls hl => ?_)
                    have L_96 : ∀ (n : Nat) (T_98 : PS) (H : Heap) (locs : List Loc) (ls : Array Slot) (i7_97 : Int32) (i7_97_z : Int) (cc_105 nn_106 : Nat), ((8 - i7_97_z).toNat = n) → (Wd G cy (AS S s.heap.size) s.heap T_98 H locs) → (i7_97.toInt = i7_97_z) → (0 ≤ i7_97_z ∧ i7_97_z ≤ 8) → (At T_98 q_69 14) → (At T_98 x 12) → (Og MCP S T_98) → ((∀ i : Nat, (i : Int) < a5_z → oA T_98 q_69 i = zA S x 1257 ((8 * a1_z + a2_z).toNat + i))) → ((∀ j : Nat, zA T_98 x 1257 j = if 8 * a3_z + a4_z ≤ (j : Int) ∧ (j : Int) < 8 * a3_z + a4_z + i7_97_z then zA S x 1257 ((8 * a1_z + a2_z).toNat + (j - (8 * a3_z + a4_z).toNat)) else zA S x 1257 j)) → (i7_97_z ≤ a5_z) → (pN T_98 q_69 = 8) → (cc_105 + Phc T_98 ≤ Phc S + 1) → (nn_106 + Phs T_98 ≤ Phs S + 8) → (lv_has ls 8 [(7, .int (i7_97)), (6, .ref q_69), (0, .ref x), (1, .int (a1)), (2, .int (a2)), (3, .int (a3)), (4, .int (a4)), (5, .int (a5))]) → W p l e ({ frames := 3, cells := Phc S + 1, slots := Phs S + 8, locals := 144 }) s m [.ref x, .int (a1), .int (a2), .int (a3), .int (a4), .int (a5)].toArray below meth c H locs cc_105 nn_106 QQ (F0 m 110 ls []) := by
                      intro n
                      induction n using Nat.strongRecOn with
                      | ind n ih_L_96 =>
                      intro T_98 H locs ls i7_97 i7_97_z cc_105 nn_106 hn hw hz_i7_97 hr_i7_97 ha_q_69_L_99 ha_x_L_100 hO_T_98 iv_101 iv_102 iv_103 ik_104 hcc_107 hnn_108 hl
                      have rg_109 : (-2147483648) ≤ i7_97_z ∧ i7_97_z ≤ 2147483647 := by rw [← hz_i7_97]; exact ⟨z_lo _, z_hi _⟩
                      refine lv_iload X.1 X.2.1 dX12_copy_110 (lv_at hl 0 rfl) ?_
                      refine lv_iload X.1 X.2.1 dX12_copy_112 (lv_at hl 7 rfl) ?_
                      refine lv_icmp_ge (tgt := 143) X.1 X.2.1 dX12_copy_114 (by decide) (fun c_110 => ?_) (fun c_110 => ?_)
                      · have z_b_111 := trivial
                        have k_112 : i7_97_z ≥ a5_z := z_le hz_a5 hz_i7_97 c_110
                        refine lv_iconst (v := 1) X.1 X.2.1 dX12_copy_143 (by decide) ?_
                        rw [hQQ]
                        exact ret_gz X hw hr hlocks (by show cc_105 ≤ Phc S + 1; omega) (by show nn_106 ≤ Phs S + 8; omega) (by omega) (by omega) (by decide) ⟨hO_T_98, Or.inl ⟨⟨⟨cw_64, cw_65, by omega, by omega, by omega, by omega, by omega⟩, fun j => by rw [show a5_z = i7_97_z by omega]; exact iv_102 j⟩, rfl⟩⟩ dX12_copy_144
                      · have z_b_113 := trivial
                        have k_114 : i7_97_z < a5_z := z_nle hz_a5 hz_i7_97 c_110
                        refine lv_aload_n X.1 X.2.1 dX12_copy_117 rfl (lv_at hl 2 rfl) ?_
                        obtain ⟨q_115, h_116, h_117, h_118⟩ := gQ_12_1257 hO_T_98.1 ha_x_L_100
                        refine r_getR (g := 1257) X hw ha_x_L_100 rfl 57 h_116 (by decide) rfl inn_X12_copy_12 (by decide) (X.2.2.2.1 (.fieldLink RX12 137 "SilkMillModel" "wordOf" "[I") (by decide +kernel)) rfl (gv_1257 _ _) dX12_copy_118 ?_
                        refine lv_bipush (v := 8) X.1 X.2.1 dX12_copy_121 (by decide) ?_
                        refine lv_iload_n X.1 X.2.1 dX12_copy_123 rfl (lv_at hl 5 rfl) ?_
                        refine lv_imul X.1 X.2.1 dX12_copy_124 ?_
                        refine lv_topi (fun v_119 ev_119 => ?_)
                        have z_120 : v_119.toInt = 8 * a3_z := z_mul ev_119 ti_8 hz_a3 (by omega) (by omega)
                        refine lv_iload X.1 X.2.1 dX12_copy_125 (lv_at hl 6 rfl) ?_
                        refine lv_iadd X.1 X.2.1 dX12_copy_127 ?_
                        refine lv_topi (fun v_121 ev_121 => ?_)
                        have z_122 : v_121.toInt = (8 * a3_z) + a4_z := z_add ev_121 z_120 hz_a4 (by omega) (by omega)
                        refine lv_iload X.1 X.2.1 dX12_copy_128 (lv_at hl 0 rfl) ?_
                        refine lv_iadd X.1 X.2.1 dX12_copy_130 ?_
                        refine lv_topi (fun v_123 ev_123 => ?_)
                        have z_124 : v_123.toInt = ((8 * a3_z) + a4_z) + i7_97_z := z_add ev_123 z_122 hz_i7_97 (by omega) (by omega)
                        refine lv_aload X.1 X.2.1 dX12_copy_131 (lv_at hl 1 rfl) ?_
                        refine lv_iload X.1 X.2.1 dX12_copy_133 (lv_at hl 0 rfl) ?_
                        refine r_iald X hw ha_q_69_L_99 rfl (by rw [ik_104]; exact z_ix hz_i7_97 (by omega) (by omega)) dX12_copy_135 ?_
                        refine lv_topi (fun v_125 ev_125 => ?_)
                        have rg_126 := And.intro (z_lo v_125) (z_hi v_125)
                        have ev_125 := ev_125.symm
                        have oa_127 : oA T_98 q_69 (i7_97_z).toNat = v_125.toInt := oA_of hz_i7_97 (by omega) ev_125
                        have wv_128 : v_125.toInt = zA S x 1257 ((8 * a1_z + a2_z).toNat + (i7_97_z).toNat) := oa_127.symm.trans (iv_101 (i7_97_z).toNat (by omega))
                        refine r_iast X hw h_117 rfl (by rw [h_118]; exact z_ix z_124 (by omega) (by omega)) dX12_copy_136 (fun H locs hw => ?_)
                        obtain ⟨S_129, eS_129⟩ : ∃ T, T = sA T_98 q_115 (upd (pA T_98 q_115) (Int32.toNatClampNeg (v_123)) (v_125)) := ⟨_, rfl⟩
                        rw [← eS_129] at hw
                        have ph_130 : cc_105 + Phc S_129 ≤ Phc S + 1 := by rw [show Phc S_129 = Phc T_98 from Ph_sA eS_129]; exact hcc_107
                        have ph_131 : nn_106 + Phs S_129 ≤ Phs S + 8 := by rw [show Phs S_129 = Phs T_98 from Ph_sA eS_129]; exact hnn_108
                        clear hcc_107
                        clear hnn_108
                        have hO_132 : Og MCP S S_129 := hO_T_98.sA eS_129 h_117 (by decide +kernel) (uA_1354 hO_T_98.1 h_117)
                        have h_133 : pA S_129 q_115 (Int32.toNatClampNeg (v_123)) = v_125 := tA_sAs eS_129
                        have t_134 : pR S_129 1257 x = some q_115 := tR_sA eS_129 h_116
                        have t_136 : pR T_98 1257 x = some q_115 := by have h := t_134; rw [eS_129, pR_sA] at h; exact h
                        have zs_135 : ∀ j, zA S_129 x 1257 j = if j = ((((8 * a3_z) + a4_z) + i7_97_z)).toNat then v_125.toInt else zA T_98 x 1257 j := by have h := zA_sAs eS_129 t_136 rfl; rw [z_nc z_124 (by omega)] at h; exact h
                        have wz_137 : ∀ j, zA S_129 x 1257 j = if j = (8 * a3_z + a4_z + i7_97_z).toNat then v_125.toInt else zA T_98 x 1257 j := by rw [show (8 * a3_z + a4_z + i7_97_z).toNat = ((((8 * a3_z) + a4_z) + i7_97_z)).toNat by omega]; exact zs_135
                        obtain ⟨x_138, ex_138⟩ : ∃ y : Int32, y = i7_97 + 1 := ⟨_, rfl⟩
                        have z_139 : x_138.toInt = i7_97_z + 1 := z_add ex_138 hz_i7_97 ti_1 (by omega) (by omega)
                        refine lv_iinc (v := x_138) (lv' := [(7, .int (x_138)), (6, .ref q_69), (0, .ref x), (1, .int (a1)), (2, .int (a2)), (3, .int (a3)), (4, .int (a4)), (5, .int (a5))]) X.1 X.2.1 dX12_copy_137 hl (k := 0) rfl (by rw [ex_138]; rfl) (by decide) rfl (fun ls hl => ?_)
                        refine lv_goto (tgt := 110) X.1 X.2.1 dX12_copy_140 (by decide) ?_
                        have t_140 : At S_129 q_69 14 := tAt_sA eS_129 ha_q_69_L_99
                        have t_141 : At S_129 x 12 := tAt_sA eS_129 ha_x_L_100
                        have bb_143 : pA S_129 q_69 = pA T_98 q_69 := by rw [eS_129]; exact if_neg (At_ne ha_q_69_L_99 h_117 (by decide))
                        have t_144 : pN S_129 q_69 = 8 := tN_sA eS_129 ik_104
                        exact ih_L_96 _ (by omega) _ _ _ _ (x_138) (x_138.toInt) (cc_105) (nn_106) rfl hw rfl (by omega) t_140 t_141 hO_132 (fun i h => by rw [show oA S_129 q_69 i = oA T_98 q_69 i from congrArg Int32.toInt (congrFun bb_143 i)]; exact iv_101 i h) (fun j => by rw [wz_137 j, iv_102 j]; by_cases e : j = (8 * a3_z + a4_z + i7_97_z).toNat; rw [if_pos e, if_pos (by omega), show (8 * a1_z + a2_z).toNat + (j - (8 * a3_z + a4_z).toNat) = (8 * a1_z + a2_z).toNat + (i7_97_z).toNat by omega]; exact wv_128; rw [if_neg e]; by_cases e2 : 8 * a3_z + a4_z ≤ (j : Int) ∧ (j : Int) < 8 * a3_z + a4_z + i7_97_z; rw [if_pos e2, if_pos (by omega)]; rw [if_neg e2, if_neg (by omega)]) (by omega) t_144 (by omega) (by omega) (lv_sub hl [0, 1, 2, 3, 4, 5, 6, 7] rfl)
                    exact L_96 _ _ _ _ _ (0) (0) (cc_88) (nn_89) rfl hw ti_0 (by omega) ha_q_69_L_81 ha_x_L_82 hO_T_80 (fun i h => iv_86 i (by omega)) (fun j => by rw [if_neg (by omega), zk_85]) (by omega) ik_87 (by omega) (by omega) (lv_sub hl [0, 1, 2, 3, 4, 5, 6, 7] rfl)
                  · have z_b_145 := trivial
                    have k_146 : i7_79_z < a5_z := z_nle hz_a5 hz_i7_79 c_93
                    refine lv_aload X.1 X.2.1 dX12_copy_82 (lv_at hl 1 rfl) ?_
                    refine lv_iload X.1 X.2.1 dX12_copy_84 (lv_at hl 0 rfl) ?_
                    refine lv_aload_n X.1 X.2.1 dX12_copy_86 rfl (lv_at hl 2 rfl) ?_
                    obtain ⟨q_147, h_148, h_149, h_150⟩ := gQ_12_1257 hO_T_80.1 ha_x_L_82
                    refine r_getR (g := 1257) X hw ha_x_L_82 rfl 57 h_148 (by decide) rfl inn_X12_copy_12 (by decide) (X.2.2.2.1 (.fieldLink RX12 137 "SilkMillModel" "wordOf" "[I") (by decide +kernel)) rfl (gv_1257 _ _) dX12_copy_87 ?_
                    refine lv_bipush (v := 8) X.1 X.2.1 dX12_copy_90 (by decide) ?_
                    refine lv_iload_n X.1 X.2.1 dX12_copy_92 rfl (lv_at hl 3 rfl) ?_
                    refine lv_imul X.1 X.2.1 dX12_copy_93 ?_
                    refine lv_topi (fun v_151 ev_151 => ?_)
                    have z_152 : v_151.toInt = 8 * a1_z := z_mul ev_151 ti_8 hz_a1 (by omega) (by omega)
                    refine lv_iload_n X.1 X.2.1 dX12_copy_94 rfl (lv_at hl 4 rfl) ?_
                    refine lv_iadd X.1 X.2.1 dX12_copy_95 ?_
                    refine lv_topi (fun v_153 ev_153 => ?_)
                    have z_154 : v_153.toInt = (8 * a1_z) + a2_z := z_add ev_153 z_152 hz_a2 (by omega) (by omega)
                    refine lv_iload X.1 X.2.1 dX12_copy_96 (lv_at hl 0 rfl) ?_
                    refine lv_iadd X.1 X.2.1 dX12_copy_98 ?_
                    refine lv_topi (fun v_155 ev_155 => ?_)
                    have z_156 : v_155.toInt = ((8 * a1_z) + a2_z) + i7_79_z := z_add ev_155 z_154 hz_i7_79 (by omega) (by omega)
                    refine r_iald X hw h_149 rfl (by rw [h_150]; exact z_ix z_156 (by omega) (by omega)) dX12_copy_99 ?_
                    refine lv_topi (fun v_157 ev_157 => ?_)
                    have rg_158 := And.intro (z_lo v_157) (z_hi v_157)
                    have ev_157 := ev_157.symm
                    have zf_159 : zA T_80 x 1257 ((((8 * a1_z) + a2_z) + i7_79_z)).toNat = v_157.toInt := (zA_of h_148 z_156 (by omega) ev_157)
                    have cv_160 : v_157.toInt = zA S x 1257 ((8 * a1_z + a2_z).toNat + (i7_79_z).toNat) := by rw [show (8 * a1_z + a2_z).toNat + (i7_79_z).toNat = ((((8 * a1_z) + a2_z) + i7_79_z)).toNat by omega]; exact zf_159.symm.trans (congrFun zk_85 _)
                    refine r_iast X hw ha_q_69_L_81 rfl (by rw [ik_87]; exact z_ix hz_i7_79 (by omega) (by omega)) dX12_copy_100 (fun H locs hw => ?_)
                    obtain ⟨S_161, eS_161⟩ : ∃ T, T = sA T_80 q_69 (upd (pA T_80 q_69) (Int32.toNatClampNeg (i7_79)) (v_157)) := ⟨_, rfl⟩
                    rw [← eS_161] at hw
                    have ph_162 : cc_88 + Phc S_161 ≤ Phc S + 1 := by rw [show Phc S_161 = Phc T_80 from Ph_sA eS_161]; exact hcc_90
                    have ph_163 : nn_89 + Phs S_161 ≤ Phs S + 8 := by rw [show Phs S_161 = Phs T_80 from Ph_sA eS_161]; exact hnn_91
                    clear hcc_90
                    clear hnn_91
                    have hO_164 : Og MCP S S_161 := hO_T_80.sA eS_161 ha_q_69_L_81 (by decide +kernel) (uA_14 hO_T_80.1 ha_q_69_L_81)
                    have h_165 : pA S_161 q_69 (Int32.toNatClampNeg (i7_79)) = v_157 := tA_sAs eS_161
                    have os_166 : ∀ j, oA S_161 q_69 j = if j = (i7_79_z).toNat then v_157.toInt else oA T_80 q_69 j := by have h := oA_s eS_161 rfl; rw [z_nc hz_i7_79 (by omega)] at h; exact h
                    obtain ⟨x_167, ex_167⟩ : ∃ y : Int32, y = i7_79 + 1 := ⟨_, rfl⟩
                    have z_168 : x_167.toInt = i7_79_z + 1 := z_add ex_167 hz_i7_79 ti_1 (by omega) (by omega)
                    refine lv_iinc (v := x_167) (lv' := [(7, .int (x_167)), (6, .ref q_69), (0, .ref x), (1, .int (a1)), (2, .int (a2)), (3, .int (a3)), (4, .int (a4)), (5, .int (a5))]) X.1 X.2.1 dX12_copy_101 hl (k := 0) rfl (by rw [ex_167]; rfl) (by decide) rfl (fun ls hl => ?_)
                    refine lv_goto (tgt := 75) X.1 X.2.1 dX12_copy_104 (by decide) ?_
                    have t_169 : At S_161 q_69 14 := tAt_sA eS_161 ha_q_69_L_81
                    have t_170 : At S_161 x 12 := tAt_sA eS_161 ha_x_L_82
                    have zc_171 : zA S_161 x 1257 = zA S x 1257 := (zA_sAn eS_161 (ex3 (gQ_12_1257 hO_T_80.1 ha_x_L_82)) ha_q_69_L_81 rfl).trans zk_85
                    have t_172 : pN S_161 q_69 = 8 := tN_sA eS_161 ik_87
                    exact ih_L_78 _ (by omega) _ _ _ _ (x_167) (x_167.toInt) (cc_88) (nn_89) rfl hw rfl (by omega) t_169 t_170 hO_164 zc_171 (fun i h => by rw [os_166 i]; by_cases e : i = (i7_79_z).toNat; rw [if_pos e, e]; exact cv_160; rw [if_neg e]; exact iv_86 i (by omega)) t_172 (by omega) (by omega) (lv_sub hl [0, 1, 2, 3, 4, 5, 6, 7] rfl)
                have t_173 : At S_72 x 12 := by rw [eS_72]; exact At_sN t_6 hq_69
                exact L_78 _ _ _ _ _ (0) (0) (1) (8) rfl hw ti_0 (by omega) ha_76 t_173 hO_75 zc_84 (fun i h => absurd h (by omega)) hn_77 (by omega) (by omega) (lv_sub hl [0, 1, 2, 3, 4, 5, 6, 7] rfl)
              · have z_b_174 := trivial
                have k_175 : a4_z > (v_56.toInt - a5_z) := z_nle hz_a4 z_60 c_61
                refine lv_iconst (v := 0) X.1 X.2.1 dX12_copy_64 (by decide) ?_
                have zc_176 : zA S_1 x 1257 = zA S x 1257 := zA_sI eS_1
                have zc_177 : zA S_1 x 1256 = zA S x 1256 := zA_sI eS_1
                rw [hQQ]
                exact ret_gz X hw hr hlocks (by show 0 ≤ Phc S + 1; omega) (by show 0 ≤ Phs S + 8; omega) (by omega) (by omega) (by decide) ⟨hO_4, Or.inr ⟨⟨fun h => by obtain ⟨-, -, g1, g2, g3, g4, g5⟩ := h; have y1 := congrFun zc_177 a1_z.toNat; have y2 := congrFun zc_177 a3_z.toNat; omega, zc_176⟩, rfl⟩⟩ dX12_copy_65
          · have z_b_178 := trivial
            have k_179 : a4_z < 0 := z_nle ti_0 hz_a4 c_37
            refine lv_iconst (v := 0) X.1 X.2.1 dX12_copy_35 (by decide) ?_
            have zc_180 : zA S_1 x 1257 = zA S x 1257 := zA_sI eS_1
            have zc_181 : zA S_1 x 1256 = zA S x 1256 := zA_sI eS_1
            rw [hQQ]
            exact ret_gz X hw hr hlocks (by show 0 ≤ Phc S + 1; omega) (by show 0 ≤ Phs S + 8; omega) (by omega) (by omega) (by decide) ⟨hO_4, Or.inr ⟨⟨fun h => by obtain ⟨-, -, g1, g2, g3, g4, g5⟩ := h; have y1 := congrFun zc_181 a1_z.toNat; have y2 := congrFun zc_181 a3_z.toNat; omega, zc_180⟩, rfl⟩⟩ dX12_copy_36
    · have z_b_182 := trivial
      refine lv_if_eq (tgt := 35) X.1 X.2.1 dX12_copy_18 (by decide) (fun c_183 => ?_) (fun c_183 => absurd c_183 (by decide))
      refine lv_iconst (v := 0) X.1 X.2.1 dX12_copy_35 (by decide) ?_
      have zc_184 : zA S_1 x 1257 = zA S x 1257 := zA_sI eS_1
      rw [hQQ]
      exact ret_gz X hw hr hlocks (by show 0 ≤ Phc S + 1; omega) (by show 0 ≤ Phs S + 8; omega) (by omega) (by omega) (by decide) ⟨hO_4, Or.inr ⟨⟨fun h => by first | exact f_17 ((WdR_fr hG ha_x hO_4.fr (by decide +kernel)).mpr h.1) | exact f_17 ((WdR_fr hG ha_x hO_4.fr (by decide +kernel)).mpr h.2.1), zc_184⟩, rfl⟩⟩ dX12_copy_36
  · have z_b_185 := trivial
    refine lv_if_eq (tgt := 35) X.1 X.2.1 dX12_copy_10 (by decide) (fun c_186 => ?_) (fun c_186 => absurd c_186 (by decide))
    refine lv_iconst (v := 0) X.1 X.2.1 dX12_copy_35 (by decide) ?_
    have zc_187 : zA S_1 x 1257 = zA S x 1257 := zA_sI eS_1
    rw [hQQ]
    exact ret_gz X hw hr hlocks (by show 0 ≤ Phc S + 1; omega) (by show 0 ≤ Phs S + 8; omega) (by omega) (by omega) (by decide) ⟨hO_4, Or.inr ⟨⟨fun h => by first | exact f_9 ((WdR_fr hG ha_x hO_4.fr (by decide +kernel)).mpr h.1) | exact f_9 ((WdR_fr hG ha_x hO_4.fr (by decide +kernel)).mpr h.2.1), zc_187⟩, rfl⟩⟩ dX12_copy_36
