/-! ===== count, the class ===== -/
def grP (S : PS) (x j : Nat) : Int32 := oF (fun P => oF (fun G => pI S 903 G) (pR S 403 P)) (mB S x 1103 j)
def grC (S : PS) (x n : Nat) : Int32 := suL (grP S x) (List.range n)
def cnC (S : PS) (x K u : Nat) (k : Int) : Int32 := if k = 0 then pI S 1102 x else if k = 1 then pI S 1104 x else if k = 2 then pI S 800 K else if k = 3 then pI S 801 K else if k = 4 then pI S 1000 u else if k = 5 then pI S 806 K else if k = 6 then pI S 802 K else if k = 7 then pI S 803 K else if k = 8 then grC S x (pI S 1104 x).toInt.toNat else if k = 9 then pI S 805 K else if k = 10 then pI S 804 K else if k = 11 then pI S 1110 x else -1
theorem cnC_0 {S : PS} {x K u : Nat} {k : Int} (h : k = 0) : cnC S x K u k = pI S 1102 x := by subst h; rfl
theorem cnC_1 {S : PS} {x K u : Nat} {k : Int} (h : k = 1) : cnC S x K u k = pI S 1104 x := by subst h; rfl
theorem cnC_2 {S : PS} {x K u : Nat} {k : Int} (h : k = 2) : cnC S x K u k = pI S 800 K := by subst h; rfl
theorem cnC_3 {S : PS} {x K u : Nat} {k : Int} (h : k = 3) : cnC S x K u k = pI S 801 K := by subst h; rfl
theorem cnC_4 {S : PS} {x K u : Nat} {k : Int} (h : k = 4) : cnC S x K u k = pI S 1000 u := by subst h; rfl
theorem cnC_5 {S : PS} {x K u : Nat} {k : Int} (h : k = 5) : cnC S x K u k = pI S 806 K := by subst h; rfl
theorem cnC_6 {S : PS} {x K u : Nat} {k : Int} (h : k = 6) : cnC S x K u k = pI S 802 K := by subst h; rfl
theorem cnC_7 {S : PS} {x K u : Nat} {k : Int} (h : k = 7) : cnC S x K u k = pI S 803 K := by subst h; rfl
theorem cnC_8 {S : PS} {x K u : Nat} {k : Int} (h : k = 8) : cnC S x K u k = grC S x (pI S 1104 x).toInt.toNat := by subst h; rfl
theorem cnC_9 {S : PS} {x K u : Nat} {k : Int} (h : k = 9) : cnC S x K u k = pI S 805 K := by subst h; rfl
theorem cnC_10 {S : PS} {x K u : Nat} {k : Int} (h : k = 10) : cnC S x K u k = pI S 804 K := by subst h; rfl
theorem cnC_11 {S : PS} {x K u : Nat} {k : Int} (h : k = 11) : cnC S x K u k = pI S 1110 x := by subst h; rfl
theorem cnC_d {S : PS} {x K u : Nat} {k : Int} (h : ¬ (0 ≤ k ∧ k ≤ 11)) : cnC S x K u k = -1 := by
  unfold cnC
  rw [if_neg (by omega), if_neg (by omega), if_neg (by omega), if_neg (by omega), if_neg (by omega), if_neg (by omega), if_neg (by omega), if_neg (by omega), if_neg (by omega), if_neg (by omega), if_neg (by omega), if_neg (by omega)]

set_option maxHeartbeats 4000000 in
set_option maxRecDepth 100000 in
theorem k_X11_silkThatGrows9 (l : Launch) (G : va_G) (cy : Nat → ClassId) (κ : Nat → Nat) (S : PS) (sz : Nat) (x : Nat) (hG : GX S) (ha_x : At S x 11) (hp_0 : PN S x) : Ci l yX11_silkThatGrows wsX11_silkThatGrows ({ frames := 2, cells := 0, slots := 0, locals := 96 }) G cy κ S sz [.ref x] (fun (r : Int32) (S9 : PS) => S = S9 ∧ (-2147483648 ≤ r.toInt ∧ r.toInt ≤ 2147483647 ∧ r = grC S x (pI S 1104 x).toInt.toNat)) := by
  refine ent_m (cc := cX11_silkThatGrows) (maxL := 4) (ret := (some .int)) (by decide) rfl (Nat.le_of_ble_eq_true rfl) ?_
  intro p e s m below meth c ls X hr hlocks hin hw hl hsz
  subst hsz
  have X : Cx p c cX11_silkThatGrows 4 s [.ref x].toArray wsX11_silkThatGrows RX11 m G cy κ (AS S s.heap.size) := X
  have hl : lv_has ls 4 [(0, .ref x)] := hl
  generalize hQQ : MQ below _ _ _ _ _ _ = QQ
  replace hQQ := hQQ.symm
  obtain ⟨v_1, ev_1⟩ : ∃ v, pI S 1104 x = v := ⟨_, rfl⟩
  have rg_2 := gI_11_1104 hG ha_x; rw [ev_1] at rg_2
  have pz_3 : (pI S 1104 x).toInt = v_1.toInt := by rw [ev_1]
  have pz_4 : (pI S 1104 x).toInt = v_1.toInt := (congrArg Int32.toInt ev_1).trans rfl
  refine lv_iconst (v := 0) X.1 X.2.1 dX11_silkThatGrows_0 (by decide) ?_
  refine lv_istore_n (lv' := [(1, .int 0), (0, .ref x)]) X.1 X.2.1 dX11_silkThatGrows_1 rfl hl (by decide) rfl (fun ls hl => ?_)
  refine lv_iconst (v := 0) X.1 X.2.1 dX11_silkThatGrows_2 (by decide) ?_
  refine lv_istore_n (lv' := [(2, .int 0), (1, .int 0), (0, .ref x)]) X.1 X.2.1 dX11_silkThatGrows_3 rfl hl (by decide) rfl (fun ls hl => ?_)
  have L_5 : ∀ (n : Nat) (H : Heap) (locs : List Loc) (ls : Array Slot) (i1_6 : Int32) (i1_6_z : Int) (i2_7 : Int32) (i2_7_z : Int), ((4 - i2_7_z).toNat = n) → (Wd G cy (AS S s.heap.size) s.heap S H locs) → (i1_6.toInt = i1_6_z) → (i2_7.toInt = i2_7_z) → (0 ≤ i2_7_z ∧ i2_7_z ≤ 4) → ((i1_6) = grC S x (i2_7_z).toNat) → (i2_7_z ≤ (pI S 1104 x).toInt) → (lv_has ls 4 [(1, .int (i1_6)), (2, .int (i2_7)), (0, .ref x)]) → W p l e ({ frames := 2, cells := 0, slots := 0, locals := 96 }) s m [.ref x].toArray below meth c H locs 0 0 QQ (F0 m 4 ls []) := by
    intro n
    induction n using Nat.strongRecOn with
    | ind n ih =>
    intro H locs ls i1_6 i1_6_z i2_7 i2_7_z hn hw hz_i1_6 hz_i2_7 hr_i2_7 iv_8 iv_9 hl
    have rg_10 : (-2147483648) ≤ i1_6_z ∧ i1_6_z ≤ 2147483647 := by rw [← hz_i1_6]; exact ⟨z_lo _, z_hi _⟩
    have rg_11 : (-2147483648) ≤ i2_7_z ∧ i2_7_z ≤ 2147483647 := by rw [← hz_i2_7]; exact ⟨z_lo _, z_hi _⟩
    refine lv_iload_n X.1 X.2.1 dX11_silkThatGrows_4 rfl (lv_at hl 1 rfl) ?_
    refine lv_aload_n X.1 X.2.1 dX11_silkThatGrows_5 rfl (lv_at hl 2 rfl) ?_
    refine r_getI (g := 1104) (x := v_1) X hw ha_x rfl 4 ev_1 (by decide) rfl inn_X11_silkThatGrows_11 (by decide) (X.2.2.2.1 (.fieldLink RX11 124 "SilkMill" "potsMade" "I") (by decide +kernel)) rfl (gv_1104 _ _) dX11_silkThatGrows_6 ?_
    refine lv_icmp_ge (tgt := 42) X.1 X.2.1 dX11_silkThatGrows_9 (by decide) (fun c_12 => ?_) (fun c_12 => ?_)
    · have z_b_13 := trivial
      have k_14 : i2_7_z ≥ v_1.toInt := z_le rfl hz_i2_7 c_12
      refine lv_iload_n X.1 X.2.1 dX11_silkThatGrows_42 rfl (lv_at hl 0 rfl) ?_
      rw [hQQ]
      exact ret_i X hw hr hlocks (Nat.le_of_ble_eq_true rfl) (Nat.le_of_ble_eq_true rfl) ⟨rfl, ⟨z_lo _, z_hi _, by rw [iv_8, show (i2_7_z).toNat = (pI S 1104 x).toInt.toNat by omega]⟩⟩ dX11_silkThatGrows_43
    · have z_b_15 := trivial
      have k_16 : i2_7_z < v_1.toInt := z_nle rfl hz_i2_7 c_12
      refine lv_aload_n X.1 X.2.1 dX11_silkThatGrows_12 rfl (lv_at hl 2 rfl) ?_
      refine lv_iload_n X.1 X.2.1 dX11_silkThatGrows_13 rfl (lv_at hl 1 rfl) ?_
      refine k_q (rm := { frames := 1, cells := 0, slots := 0, locals := 48 }) (av := [.ref x, .int (i2_7)]) X hw (va_runV (As := [.int (i2_7)]) (rest := []) (cfix X) (k_X11_potAt3 l G cy κ S _ x (i2_7) (i2_7_z) hG ha_x hz_i2_7) (cwV 1 X.2.2.2.1 gX11_silkThatGrows_X11_potAt rfl rfl rfl (by decide +kernel) ⟨Nat.le_of_ble_eq_true rfl, Nat.le_of_ble_eq_true rfl⟩) (pre_V X hw _ ha_x rfl (by decide) rfl) rfl rfl hl.1 rfl (lv_room (Nat.le_of_ble_eq_true rfl)) dX11_silkThatGrows_14 ⟨Nat.le_of_ble_eq_true rfl, Nat.le_of_ble_eq_true rfl⟩) 0 0 (Nat.le_of_ble_eq_true rfl) (Nat.le_of_ble_eq_true rfl) (fun rr_17 S_18 H locs hp hw hfr hnw => ?_)
      obtain ⟨e2, hp⟩ := hp
      subst e2
      obtain ⟨hq_19, hnf_20⟩ := hp
      rcases rr_17 with _ | q_21
      · refine W.eq (g2 := F0 m 17 ls (.null :: [])) rfl ?_
        have nf_22 := hnf_20 rfl
        refine lv_astore_nN (lv' := [(3, .null), (1, .int (i1_6)), (2, .int (i2_7)), (0, .ref x)]) X.1 X.2.1 dX11_silkThatGrows_17 rfl hl (by decide) rfl (fun ls hl => ?_)
        refine lv_iload_n X.1 X.2.1 dX11_silkThatGrows_18 rfl (lv_at hl 1 rfl) ?_
        refine lv_aload_nN X.1 X.2.1 dX11_silkThatGrows_19 rfl (lv_at hl 0 rfl) ?_
        refine lv_ifnonnullN X.1 X.2.1 dX11_silkThatGrows_20 ?_
        exact absurd ⟨by omega, by omega⟩ (nf_22 hp_0)
      · refine W.eq (g2 := F0 m 17 ls (.ref q_21 :: [])) rfl ?_
        obtain ⟨ha_23, f_24, f_25, f_26⟩ := hq_19 _ rfl
        refine lv_astore_n (lv' := [(3, .ref q_21), (1, .int (i1_6)), (2, .int (i2_7)), (0, .ref x)]) X.1 X.2.1 dX11_silkThatGrows_17 rfl hl (by decide) rfl (fun ls hl => ?_)
        refine lv_iload_n X.1 X.2.1 dX11_silkThatGrows_18 rfl (lv_at hl 1 rfl) ?_
        refine lv_aload_n X.1 X.2.1 dX11_silkThatGrows_19 rfl (lv_at hl 0 rfl) ?_
        refine lv_ifnonnull (tgt := 27) X.1 X.2.1 dX11_silkThatGrows_20 (by decide) ?_
        refine lv_aload_n X.1 X.2.1 dX11_silkThatGrows_27 rfl (lv_at hl 0 rfl) ?_
        obtain ⟨q_27, h_28, h_29⟩ := gQ_4_403 hG ha_23
        refine r_getR (g := 403) X hw ha_23 rfl 3 h_28 (by decide) rfl inn_X11_silkThatGrows_4 (by decide) (X.2.2.2.1 (.fieldLink RX11 186 "SilkMill$Pot" "strand" "LSilkMill$Strand;") (by decide +kernel)) rfl (gv_403 _ _) dX11_silkThatGrows_28 ?_
        obtain ⟨v_31, ev_31⟩ : ∃ v, pI S 903 q_27 = v := ⟨_, rfl⟩
        have rg_33 := And.intro (z_lo v_31) (z_hi v_31)
        have pz_34 : (pI S 903 q_27).toInt = v_31.toInt := by rw [ev_31]
        refine r_getI (g := 903) (x := v_31) X hw h_29 rfl 3 ev_31 (by decide) rfl inn_X11_silkThatGrows_9 (by decide) (X.2.2.2.1 (.fieldLink RX11 242 "SilkMill$Strand" "silk" "I") (by decide +kernel)) rfl (gv_903 _ _) dX11_silkThatGrows_31 ?_
        have sg_35 : grP S x (i2_7_z).toNat = v_31 := by unfold grP; rw [f_26]; show oF (fun G => pI S 903 G) (pR S 403 q_21) = _; rw [h_28]; exact ev_31
        refine lv_iadd X.1 X.2.1 dX11_silkThatGrows_34 ?_
        refine lv_topi (fun v_36 ev_36 => ?_)
        have rg_37 := And.intro (z_lo v_36) (z_hi v_36)
        refine lv_istore_n (lv' := [(1, .int (v_36)), (3, .ref q_21), (2, .int (i2_7)), (0, .ref x)]) X.1 X.2.1 dX11_silkThatGrows_35 rfl hl (by decide) rfl (fun ls hl => ?_)
        obtain ⟨x_38, ex_38⟩ : ∃ y : Int32, y = i2_7 + 1 := ⟨_, rfl⟩
        have z_39 : x_38.toInt = i2_7_z + 1 := z_add ex_38 hz_i2_7 ti_1 (by omega) (by omega)
        refine lv_iinc (v := x_38) (lv' := [(2, .int (x_38)), (1, .int (v_36)), (3, .ref q_21), (0, .ref x)]) X.1 X.2.1 dX11_silkThatGrows_36 hl (k := 2) rfl (by rw [ex_38]; rfl) (by decide) rfl (fun ls hl => ?_)
        refine lv_goto (tgt := 4) X.1 X.2.1 dX11_silkThatGrows_39 (by decide) ?_
        exact ih _ (by omega) _ _ _ (v_36) (v_36.toInt) (x_38) (x_38.toInt) rfl hw rfl rfl (by omega) (by rw [show (x_38.toInt).toNat = (i2_7_z).toNat + 1 by omega]; show _ = suL (grP S x) (List.range ((i2_7_z).toNat + 1)); rw [List.range_succ, su_a, sg_35, ev_36]; exact congrArg (fun y => y + v_31) iv_8) (by omega) (lv_sub hl [1, 0, 3] rfl)
  exact L_5 _ _ _ _ (0) (0) (0) (0) rfl hw ti_0 ti_0 (by omega) rfl (by omega) (lv_sub hl [1, 0, 2] rfl)
set_option maxHeartbeats 4000000 in
set_option maxRecDepth 100000 in
theorem k_X11_count9 (l : Launch) (G : va_G) (cy : Nat → ClassId) (κ : Nat → Nat) (S : PS) (sz : Nat) (x : Nat) (a1 : Int32) (a1_z : Int) (K : Nat) (u : Nat) (hG : GX S) (ha_x : At S x 11) (hz_a1 : a1.toInt = a1_z) (hp_0 : PN S x) (hp_1 : pR S 1107 x = some K) (hp_2 : pR S 1105 x = some u) : Ci l yX11_count wsX11_count ({ frames := 3, cells := 0, slots := 0, locals := 144 }) G cy κ S sz [.ref x, .int (a1)] (fun (r : Int32) (S9 : PS) => S = S9 ∧ (-2147483648 ≤ r.toInt ∧ r.toInt ≤ 2147483647 ∧ r = cnC S x K u a1_z)) := by
  refine ent_m (cc := cX11_count) (maxL := 2) (ret := (some .int)) (by decide) rfl (Nat.le_of_ble_eq_true rfl) ?_
  intro p e s m below meth c ls X hr hlocks hin hw hl hsz
  subst hsz
  have X : Cx p c cX11_count 2 s [.ref x, .int (a1)].toArray wsX11_count RX11 m G cy κ (AS S s.heap.size) := X
  have hl : lv_has ls 2 [(0, .ref x), (1, .int (a1))] := hl
  have rg_a1 : (-2147483648) ≤ a1_z ∧ a1_z ≤ 2147483647 := by rw [← hz_a1]; exact ⟨z_lo _, z_hi _⟩
  have haK : At S K 8 := by obtain ⟨c, k1, k2⟩ := gQ_11_1107 hG ha_x; have h3 := hp_1; rw [k1] at h3; cases h3; exact k2
  have hau : At S u 10 := by obtain ⟨c, k1, k2⟩ := gQ_11_1105 hG ha_x; have h3 := hp_2; rw [k1] at h3; cases h3; exact k2
  refine lv_iload_n X.1 X.2.1 dX11_count_0 rfl (lv_at hl 1 rfl) ?_
  by_cases w_1 : (a1).toInt < 0 ∨ 11 < (a1).toInt
  · refine lv_tableOut (tgt := 148) X.1 X.2.1 dX11_count_1 w_1 (by decide) ?_
    refine lv_iconst (v := (-1)) X.1 X.2.1 dX11_count_148 (by decide) ?_
    exact ret_i X hw hr hlocks (Nat.le_of_ble_eq_true rfl) (Nat.le_of_ble_eq_true rfl) ⟨rfl, ⟨z_lo _, z_hi _, (by rw [cnC_d (by omega)])⟩⟩ dX11_count_149
  have w_1b : (a1).toInt = 0 ∨ (a1).toInt = 1 ∨ (a1).toInt = 2 ∨ (a1).toInt = 3 ∨ (a1).toInt = 4 ∨ (a1).toInt = 5 ∨ (a1).toInt = 6 ∨ (a1).toInt = 7 ∨ (a1).toInt = 8 ∨ (a1).toInt = 9 ∨ (a1).toInt = 10 ∨ (a1).toInt = 11 := by omega
  rcases w_1b with w_1c | w_1c | w_1c | w_1c | w_1c | w_1c | w_1c | w_1c | w_1c | w_1c | w_1c | w_1c
  · refine lv_tableIn (tgt := 64) X.1 X.2.1 dX11_count_1 (by omega) (by omega) (by rw [w_1c]; rfl) (by decide) ?_
    refine lv_aload_n X.1 X.2.1 dX11_count_64 rfl (lv_at hl 0 rfl) ?_
    obtain ⟨v_2, ev_2⟩ : ∃ v, pI S 1102 x = v := ⟨_, rfl⟩
    have rg_3 := gI_11_1102 hG ha_x; rw [ev_2] at rg_3
    have pz_4 : (pI S 1102 x).toInt = v_2.toInt := by rw [ev_2]
    refine r_getI (g := 1102) (x := v_2) X hw ha_x rfl 2 ev_2 (by decide) rfl inn_X11_count_11 (by decide) (X.2.2.2.1 (.fieldLink RX11 63 "SilkMill" "lots" "I") (by decide +kernel)) rfl (gv_1102 _ _) dX11_count_65 ?_
    exact ret_i X hw hr hlocks (Nat.le_of_ble_eq_true rfl) (Nat.le_of_ble_eq_true rfl) ⟨rfl, ⟨z_lo _, z_hi _, (by rw [cnC_0 (by omega)]; exact ev_2.symm)⟩⟩ dX11_count_68
  · refine lv_tableIn (tgt := 69) X.1 X.2.1 dX11_count_1 (by omega) (by omega) (by rw [w_1c]; rfl) (by decide) ?_
    refine lv_aload_n X.1 X.2.1 dX11_count_69 rfl (lv_at hl 0 rfl) ?_
    obtain ⟨v_5, ev_5⟩ : ∃ v, pI S 1104 x = v := ⟨_, rfl⟩
    have rg_6 := gI_11_1104 hG ha_x; rw [ev_5] at rg_6
    have pz_7 : (pI S 1104 x).toInt = v_5.toInt := by rw [ev_5]
    refine r_getI (g := 1104) (x := v_5) X hw ha_x rfl 4 ev_5 (by decide) rfl inn_X11_count_11 (by decide) (X.2.2.2.1 (.fieldLink RX11 124 "SilkMill" "potsMade" "I") (by decide +kernel)) rfl (gv_1104 _ _) dX11_count_70 ?_
    exact ret_i X hw hr hlocks (Nat.le_of_ble_eq_true rfl) (Nat.le_of_ble_eq_true rfl) ⟨rfl, ⟨z_lo _, z_hi _, (by rw [cnC_1 (by omega)]; exact ev_5.symm)⟩⟩ dX11_count_73
  · refine lv_tableIn (tgt := 74) X.1 X.2.1 dX11_count_1 (by omega) (by omega) (by rw [w_1c]; rfl) (by decide) ?_
    refine lv_aload_n X.1 X.2.1 dX11_count_74 rfl (lv_at hl 0 rfl) ?_
    refine r_getR (g := 1107) X hw ha_x rfl 7 hp_1 (by decide) rfl inn_X11_count_11 (by decide) (X.2.2.2.1 (.fieldLink RX11 42 "SilkMill" "store" "LSilkMill$Store;") (by decide +kernel)) rfl (gv_1107 _ _) dX11_count_75 ?_
    obtain ⟨v_8, ev_8⟩ : ∃ v, pI S 800 K = v := ⟨_, rfl⟩
    have rg_9 := gI_8_800 hG haK; rw [ev_8] at rg_9
    have pz_10 : (pI S 800 K).toInt = v_8.toInt := by rw [ev_8]
    refine r_getI (g := 800) (x := v_8) X hw haK rfl 0 ev_8 (by decide) rfl inn_X11_count_8 (by decide) (X.2.2.2.1 (.fieldLink RX11 359 "SilkMill$Store" "kept" "I") (by decide +kernel)) rfl (gv_800 _ _) dX11_count_78 ?_
    exact ret_i X hw hr hlocks (Nat.le_of_ble_eq_true rfl) (Nat.le_of_ble_eq_true rfl) ⟨rfl, ⟨z_lo _, z_hi _, (by rw [cnC_2 (by omega)]; exact ev_8.symm)⟩⟩ dX11_count_81
  · refine lv_tableIn (tgt := 82) X.1 X.2.1 dX11_count_1 (by omega) (by omega) (by rw [w_1c]; rfl) (by decide) ?_
    refine lv_aload_n X.1 X.2.1 dX11_count_82 rfl (lv_at hl 0 rfl) ?_
    refine r_getR (g := 1107) X hw ha_x rfl 7 hp_1 (by decide) rfl inn_X11_count_11 (by decide) (X.2.2.2.1 (.fieldLink RX11 42 "SilkMill" "store" "LSilkMill$Store;") (by decide +kernel)) rfl (gv_1107 _ _) dX11_count_83 ?_
    obtain ⟨v_11, ev_11⟩ : ∃ v, pI S 801 K = v := ⟨_, rfl⟩
    have rg_13 := And.intro (z_lo v_11) (z_hi v_11)
    have pz_14 : (pI S 801 K).toInt = v_11.toInt := by rw [ev_11]
    refine r_getI (g := 801) (x := v_11) X hw haK rfl 1 ev_11 (by decide) rfl inn_X11_count_8 (by decide) (X.2.2.2.1 (.fieldLink RX11 349 "SilkMill$Store" "today" "I") (by decide +kernel)) rfl (gv_801 _ _) dX11_count_86 ?_
    exact ret_i X hw hr hlocks (Nat.le_of_ble_eq_true rfl) (Nat.le_of_ble_eq_true rfl) ⟨rfl, ⟨z_lo _, z_hi _, (by rw [cnC_3 (by omega)]; exact ev_11.symm)⟩⟩ dX11_count_89
  · refine lv_tableIn (tgt := 90) X.1 X.2.1 dX11_count_1 (by omega) (by omega) (by rw [w_1c]; rfl) (by decide) ?_
    refine lv_aload_n X.1 X.2.1 dX11_count_90 rfl (lv_at hl 0 rfl) ?_
    refine r_getR (g := 1105) X hw ha_x rfl 5 hp_2 (by decide) rfl inn_X11_count_11 (by decide) (X.2.2.2.1 (.fieldLink RX11 28 "SilkMill" "tape" "LSilkMill$Tape;") (by decide +kernel)) rfl (gv_1105 _ _) dX11_count_91 ?_
    obtain ⟨v_15, ev_15⟩ : ∃ v, pI S 1000 u = v := ⟨_, rfl⟩
    have rg_16 := gI_10_1000 hG hau; rw [ev_15] at rg_16
    have pz_17 : (pI S 1000 u).toInt = v_15.toInt := by rw [ev_15]
    refine r_getI (g := 1000) (x := v_15) X hw hau rfl 0 ev_15 (by decide) rfl inn_X11_count_10 (by decide) (X.2.2.2.1 (.fieldLink RX11 145 "SilkMill$Tape" "size" "I") (by decide +kernel)) rfl (gv_1000 _ _) dX11_count_94 ?_
    exact ret_i X hw hr hlocks (Nat.le_of_ble_eq_true rfl) (Nat.le_of_ble_eq_true rfl) ⟨rfl, ⟨z_lo _, z_hi _, (by rw [cnC_4 (by omega)]; exact ev_15.symm)⟩⟩ dX11_count_97
  · refine lv_tableIn (tgt := 98) X.1 X.2.1 dX11_count_1 (by omega) (by omega) (by rw [w_1c]; rfl) (by decide) ?_
    refine lv_aload_n X.1 X.2.1 dX11_count_98 rfl (lv_at hl 0 rfl) ?_
    refine r_getR (g := 1107) X hw ha_x rfl 7 hp_1 (by decide) rfl inn_X11_count_11 (by decide) (X.2.2.2.1 (.fieldLink RX11 42 "SilkMill" "store" "LSilkMill$Store;") (by decide +kernel)) rfl (gv_1107 _ _) dX11_count_99 ?_
    obtain ⟨v_18, ev_18⟩ : ∃ v, pI S 806 K = v := ⟨_, rfl⟩
    have rg_19 := gI_8_806 hG haK; rw [ev_18] at rg_19
    have pz_20 : (pI S 806 K).toInt = v_18.toInt := by rw [ev_18]
    refine r_getI (g := 806) (x := v_18) X hw haK rfl 6 ev_18 (by decide) rfl inn_X11_count_8 (by decide) (X.2.2.2.1 (.fieldLink RX11 362 "SilkMill$Store" "faults" "I") (by decide +kernel)) rfl (gv_806 _ _) dX11_count_102 ?_
    exact ret_i X hw hr hlocks (Nat.le_of_ble_eq_true rfl) (Nat.le_of_ble_eq_true rfl) ⟨rfl, ⟨z_lo _, z_hi _, (by rw [cnC_5 (by omega)]; exact ev_18.symm)⟩⟩ dX11_count_105
  · refine lv_tableIn (tgt := 106) X.1 X.2.1 dX11_count_1 (by omega) (by omega) (by rw [w_1c]; rfl) (by decide) ?_
    refine lv_aload_n X.1 X.2.1 dX11_count_106 rfl (lv_at hl 0 rfl) ?_
    refine r_getR (g := 1107) X hw ha_x rfl 7 hp_1 (by decide) rfl inn_X11_count_11 (by decide) (X.2.2.2.1 (.fieldLink RX11 42 "SilkMill" "store" "LSilkMill$Store;") (by decide +kernel)) rfl (gv_1107 _ _) dX11_count_107 ?_
    obtain ⟨v_21, ev_21⟩ : ∃ v, pI S 802 K = v := ⟨_, rfl⟩
    have rg_23 := And.intro (z_lo v_21) (z_hi v_21)
    have pz_24 : (pI S 802 K).toInt = v_21.toInt := by rw [ev_21]
    refine r_getI (g := 802) (x := v_21) X hw haK rfl 2 ev_21 (by decide) rfl inn_X11_count_8 (by decide) (X.2.2.2.1 (.fieldLink RX11 365 "SilkMill$Store" "silkDrawn" "I") (by decide +kernel)) rfl (gv_802 _ _) dX11_count_110 ?_
    exact ret_i X hw hr hlocks (Nat.le_of_ble_eq_true rfl) (Nat.le_of_ble_eq_true rfl) ⟨rfl, ⟨z_lo _, z_hi _, (by rw [cnC_6 (by omega)]; exact ev_21.symm)⟩⟩ dX11_count_113
  · refine lv_tableIn (tgt := 114) X.1 X.2.1 dX11_count_1 (by omega) (by omega) (by rw [w_1c]; rfl) (by decide) ?_
    refine lv_aload_n X.1 X.2.1 dX11_count_114 rfl (lv_at hl 0 rfl) ?_
    refine r_getR (g := 1107) X hw ha_x rfl 7 hp_1 (by decide) rfl inn_X11_count_11 (by decide) (X.2.2.2.1 (.fieldLink RX11 42 "SilkMill" "store" "LSilkMill$Store;") (by decide +kernel)) rfl (gv_1107 _ _) dX11_count_115 ?_
    obtain ⟨v_25, ev_25⟩ : ∃ v, pI S 803 K = v := ⟨_, rfl⟩
    have rg_27 := And.intro (z_lo v_25) (z_hi v_25)
    have pz_28 : (pI S 803 K).toInt = v_25.toInt := by rw [ev_25]
    refine r_getI (g := 803) (x := v_25) X hw haK rfl 3 ev_25 (by decide) rfl inn_X11_count_8 (by decide) (X.2.2.2.1 (.fieldLink RX11 368 "SilkMill$Store" "silkKept" "I") (by decide +kernel)) rfl (gv_803 _ _) dX11_count_118 ?_
    exact ret_i X hw hr hlocks (Nat.le_of_ble_eq_true rfl) (Nat.le_of_ble_eq_true rfl) ⟨rfl, ⟨z_lo _, z_hi _, (by rw [cnC_7 (by omega)]; exact ev_25.symm)⟩⟩ dX11_count_121
  · refine lv_tableIn (tgt := 122) X.1 X.2.1 dX11_count_1 (by omega) (by omega) (by rw [w_1c]; rfl) (by decide) ?_
    refine lv_aload_n X.1 X.2.1 dX11_count_122 rfl (lv_at hl 0 rfl) ?_
    refine k_i (rm := { frames := 2, cells := 0, slots := 0, locals := 96 }) (av := [.ref x]) X hw (va_runV (As := []) (rest := []) (cfix X) (k_X11_silkThatGrows9 l G cy κ S _ x hG ha_x hp_0) (cwV 0 X.2.2.2.1 gX11_count_X11_silkThatGrows rfl rfl rfl (by decide +kernel) ⟨Nat.le_of_ble_eq_true rfl, Nat.le_of_ble_eq_true rfl⟩) (pre_V X hw _ ha_x rfl (by decide) rfl) rfl rfl hl.1 rfl (lv_room (Nat.le_of_ble_eq_true rfl)) dX11_count_123 ⟨Nat.le_of_ble_eq_true rfl, Nat.le_of_ble_eq_true rfl⟩) 0 0 (Nat.le_of_ble_eq_true rfl) (Nat.le_of_ble_eq_true rfl) (fun rr_29 S_30 H locs hp hw hfr hnw => ?_)
    obtain ⟨e2, hp⟩ := hp
    subst e2
    obtain ⟨sg_31, sg_32, sg_33⟩ := hp
    exact ret_i X hw hr hlocks (Nat.le_of_ble_eq_true rfl) (Nat.le_of_ble_eq_true rfl) ⟨rfl, ⟨z_lo _, z_hi _, (by rw [cnC_8 (by omega)]; exact sg_33)⟩⟩ dX11_count_126
  · refine lv_tableIn (tgt := 127) X.1 X.2.1 dX11_count_1 (by omega) (by omega) (by rw [w_1c]; rfl) (by decide) ?_
    refine lv_aload_n X.1 X.2.1 dX11_count_127 rfl (lv_at hl 0 rfl) ?_
    refine r_getR (g := 1107) X hw ha_x rfl 7 hp_1 (by decide) rfl inn_X11_count_11 (by decide) (X.2.2.2.1 (.fieldLink RX11 42 "SilkMill" "store" "LSilkMill$Store;") (by decide +kernel)) rfl (gv_1107 _ _) dX11_count_128 ?_
    obtain ⟨v_34, ev_34⟩ : ∃ v, pI S 805 K = v := ⟨_, rfl⟩
    have rg_36 := And.intro (z_lo v_34) (z_hi v_34)
    have pz_37 : (pI S 805 K).toInt = v_34.toInt := by rw [ev_34]
    refine r_getI (g := 805) (x := v_34) X hw haK rfl 5 ev_34 (by decide) rfl inn_X11_count_8 (by decide) (X.2.2.2.1 (.fieldLink RX11 374 "SilkMill$Store" "waste" "I") (by decide +kernel)) rfl (gv_805 _ _) dX11_count_131 ?_
    exact ret_i X hw hr hlocks (Nat.le_of_ble_eq_true rfl) (Nat.le_of_ble_eq_true rfl) ⟨rfl, ⟨z_lo _, z_hi _, (by rw [cnC_9 (by omega)]; exact ev_34.symm)⟩⟩ dX11_count_134
  · refine lv_tableIn (tgt := 135) X.1 X.2.1 dX11_count_1 (by omega) (by omega) (by rw [w_1c]; rfl) (by decide) ?_
    refine lv_aload_n X.1 X.2.1 dX11_count_135 rfl (lv_at hl 0 rfl) ?_
    refine r_getR (g := 1107) X hw ha_x rfl 7 hp_1 (by decide) rfl inn_X11_count_11 (by decide) (X.2.2.2.1 (.fieldLink RX11 42 "SilkMill" "store" "LSilkMill$Store;") (by decide +kernel)) rfl (gv_1107 _ _) dX11_count_136 ?_
    obtain ⟨v_38, ev_38⟩ : ∃ v, pI S 804 K = v := ⟨_, rfl⟩
    have rg_40 := And.intro (z_lo v_38) (z_hi v_38)
    have pz_41 : (pI S 804 K).toInt = v_38.toInt := by rw [ev_38]
    refine r_getI (g := 804) (x := v_38) X hw haK rfl 4 ev_38 (by decide) rfl inn_X11_count_8 (by decide) (X.2.2.2.1 (.fieldLink RX11 377 "SilkMill$Store" "silkThrown" "I") (by decide +kernel)) rfl (gv_804 _ _) dX11_count_139 ?_
    exact ret_i X hw hr hlocks (Nat.le_of_ble_eq_true rfl) (Nat.le_of_ble_eq_true rfl) ⟨rfl, ⟨z_lo _, z_hi _, (by rw [cnC_10 (by omega)]; exact ev_38.symm)⟩⟩ dX11_count_142
  · refine lv_tableIn (tgt := 143) X.1 X.2.1 dX11_count_1 (by omega) (by omega) (by rw [w_1c]; rfl) (by decide) ?_
    refine lv_aload_n X.1 X.2.1 dX11_count_143 rfl (lv_at hl 0 rfl) ?_
    obtain ⟨v_42, ev_42⟩ : ∃ v, pI S 1110 x = v := ⟨_, rfl⟩
    have rg_44 := And.intro (z_lo v_42) (z_hi v_42)
    have pz_45 : (pI S 1110 x).toInt = v_42.toInt := by rw [ev_42]
    refine r_getI (g := 1110) (x := v_42) X hw ha_x rfl 10 ev_42 (by decide) rfl inn_X11_count_11 (by decide) (X.2.2.2.1 (.fieldLink RX11 321 "SilkMill" "shelved" "I") (by decide +kernel)) rfl (gv_1110 _ _) dX11_count_144 ?_
    exact ret_i X hw hr hlocks (Nat.le_of_ble_eq_true rfl) (Nat.le_of_ble_eq_true rfl) ⟨rfl, ⟨z_lo _, z_hi _, (by rw [cnC_11 (by omega)]; exact ev_42.symm)⟩⟩ dX11_count_147
