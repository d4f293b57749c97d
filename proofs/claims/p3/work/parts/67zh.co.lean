/-! ===== what is told of a cocoon ===== -/
def slC (b l : Int32) (a : Int) : Nat → Int32
  | 0 => 0
  | n + 1 => slC b l a n + fcI b l (Int32.ofInt (a + (n : Int)))
theorem slC_s {b l v : Int32} {a : Int} {n : Nat} (h : a + (n : Int) = v.toInt) : slC b l a (n + 1) = slC b l a n + fcI b l v := by
  show slC b l a n + fcI b l (Int32.ofInt (a + (n : Int))) = _
  rw [h, Int32.ofInt_toInt]
noncomputable def slZ (S : PS) (x : Nat) (c a : Int) : Nat → Int32
  | 0 => 0
  | n + 1 => slZ S x c a n + Int32.ofInt (fnZ S x c (a + (n : Int)))
theorem slZ_s {S : PS} {x n : Nat} {c a k : Int} (h : a + (n : Int) = k) : slZ S x c a (n + 1) = slZ S x c a n + Int32.ofInt (fnZ S x c k) := by
  show slZ S x c a n + Int32.ofInt (fnZ S x c (a + (n : Int))) = _
  rw [h]
theorem slZ_eq {S T : PS} {x : Nat} {c a : Int} (h : fnZ T x = fnZ S x) : ∀ n : Nat, slZ T x c a n = slZ S x c a n
  | 0 => rfl
  | n + 1 => by
    show slZ T x c a n + Int32.ofInt (fnZ T x c (a + (n : Int))) = slZ S x c a n + Int32.ofInt (fnZ S x c (a + (n : Int)))
    rw [slZ_eq h n, h]
theorem oi_o {v : Int32} {z : Int} (h : v.toInt = z) : v = Int32.ofInt z := by
  rw [← h]
  exact (Int32.ofInt_toInt v).symm
def coF (S : PS) (q : Nat) (k : Int) : Int := if k = 0 then (pI S 2 q).toInt else if k = 1 then (pI S 3 q).toInt else if k = 2 then (pI S 4 q).toInt else if k = 3 then (fcI (pI S 8 q) (pI S 2 q) (pI S 4 q)).toInt else if k = 4 then (slC (pI S 8 q) (pI S 2 q) 0 (pI S 2 q).toInt.toNat).toInt else if k = 5 then (slC (pI S 8 q) (pI S 2 q) 0 (pI S 4 q).toInt.toNat).toInt else if k = 6 then (if 1 ≤ (pI S 3 q).toInt ∧ (pI S 3 q).toInt ≤ 3 then (pI S 5 q).toInt else -1) else -1
noncomputable def coZ (S : PS) (x : Nat) (j k : Int) : Int := if k = 0 then lenZ S x j else if k = 1 then zA S x 1207 j.toNat else if k = 2 then zA S x 1208 j.toNat else if k = 3 then (if zA S x 1207 j.toNat = 4 then 0 else fnZ S x j (zA S x 1208 j.toNat)) else if k = 4 then (slZ S x j 0 (lenZ S x j).toNat).toInt else if k = 5 then (slZ S x j 0 (zA S x 1208 j.toNat).toNat).toInt else if k = 6 then (if 1 ≤ zA S x 1207 j.toNat ∧ zA S x 1207 j.toNat ≤ 3 then zA S x 1209 j.toNat else -1) else -1
section
variable {S : PS} {q : Nat} {k : Int}
theorem coF_0 (h : k = 0) : coF S q k = (pI S 2 q).toInt := by subst h; rfl
theorem coF_1 (h : k = 1) : coF S q k = (pI S 3 q).toInt := by subst h; rfl
theorem coF_2 (h : k = 2) : coF S q k = (pI S 4 q).toInt := by subst h; rfl
theorem coF_3 (h : k = 3) : coF S q k = (fcI (pI S 8 q) (pI S 2 q) (pI S 4 q)).toInt := by subst h; rfl
theorem coF_4 (h : k = 4) : coF S q k = (slC (pI S 8 q) (pI S 2 q) 0 (pI S 2 q).toInt.toNat).toInt := by subst h; rfl
theorem coF_5 (h : k = 5) : coF S q k = (slC (pI S 8 q) (pI S 2 q) 0 (pI S 4 q).toInt.toNat).toInt := by subst h; rfl
theorem coF_6 (h : k = 6) : coF S q k = (if 1 ≤ (pI S 3 q).toInt ∧ (pI S 3 q).toInt ≤ 3 then (pI S 5 q).toInt else -1) := by subst h; rfl
theorem coF_d (h : k < 0 ∨ 6 < k) : coF S q k = -1 := by
  unfold coF
  rw [if_neg (by omega), if_neg (by omega), if_neg (by omega), if_neg (by omega), if_neg (by omega), if_neg (by omega), if_neg (by omega)]
end
section
variable {S : PS} {x : Nat} {j k : Int}
theorem coZ_0 (h : k = 0) : coZ S x j k = lenZ S x j := by subst h; rfl
theorem coZ_1 (h : k = 1) : coZ S x j k = zA S x 1207 j.toNat := by subst h; rfl
theorem coZ_2 (h : k = 2) : coZ S x j k = zA S x 1208 j.toNat := by subst h; rfl
theorem coZ_3 (h : k = 3) : coZ S x j k = (if zA S x 1207 j.toNat = 4 then 0 else fnZ S x j (zA S x 1208 j.toNat)) := by subst h; rfl
theorem coZ_4 (h : k = 4) : coZ S x j k = (slZ S x j 0 (lenZ S x j).toNat).toInt := by subst h; rfl
theorem coZ_5 (h : k = 5) : coZ S x j k = (slZ S x j 0 (zA S x 1208 j.toNat).toNat).toInt := by subst h; rfl
theorem coZ_6 (h : k = 6) : coZ S x j k = (if 1 ≤ zA S x 1207 j.toNat ∧ zA S x 1207 j.toNat ≤ 3 then zA S x 1209 j.toNat else -1) := by subst h; rfl
theorem coZ_d (h : k < 0 ∨ 6 < k) : coZ S x j k = -1 := by
  unfold coZ
  rw [if_neg (by omega), if_neg (by omega), if_neg (by omega), if_neg (by omega), if_neg (by omega), if_neg (by omega), if_neg (by omega)]
end

set_option maxHeartbeats 4000000 in
set_option maxRecDepth 100000 in
theorem k_X0_silkBetween9 (l : Launch) (G : va_G) (cy : Nat → ClassId) (κ : Nat → Nat) (S : PS) (sz : Nat) (x : Nat) (a1 : Int32) (a1_z : Int) (a2 : Int32) (a2_z : Int) (hG : GX S) (ha_x : At S x 0) (hz_a1 : a1.toInt = a1_z) (hz_a2 : a2.toInt = a2_z) : Ci l yX0_silkBetween wsX0_silkBetween ({ frames := 2, cells := 0, slots := 0, locals := 96 }) G cy κ S sz [.ref x, .int (a1), .int (a2)] (fun (r : Int32) (S9 : PS) => S = S9 ∧ (-2147483648 ≤ r.toInt ∧ r.toInt ≤ 2147483647 ∧ r = slC (pI S 8 x) (pI S 2 x) a1_z (a2_z - a1_z).toNat)) := by
  refine ent_m (cc := cX0_silkBetween) (maxL := 5) (ret := (some .int)) (by decide) rfl (Nat.le_of_ble_eq_true rfl) ?_
  intro p e s m below meth c ls X hr hlocks hin hw hl hsz
  subst hsz
  have X : Cx p c cX0_silkBetween 5 s [.ref x, .int (a1), .int (a2)].toArray wsX0_silkBetween RX0 m G cy κ (AS S s.heap.size) := X
  have hl : lv_has ls 5 [(0, .ref x), (1, .int (a1)), (2, .int (a2))] := hl
  have rg_a1 : (-2147483648) ≤ a1_z ∧ a1_z ≤ 2147483647 := by rw [← hz_a1]; exact ⟨z_lo _, z_hi _⟩
  have rg_a2 : (-2147483648) ≤ a2_z ∧ a2_z ≤ 2147483647 := by rw [← hz_a2]; exact ⟨z_lo _, z_hi _⟩
  generalize hQQ : MQ below _ _ _ _ _ _ = QQ
  replace hQQ := hQQ.symm
  refine lv_iconst (v := 0) X.1 X.2.1 dX0_silkBetween_0 (by decide) ?_
  refine lv_istore_n (lv' := [(3, .int 0), (0, .ref x), (1, .int (a1)), (2, .int (a2))]) X.1 X.2.1 dX0_silkBetween_1 rfl hl (by decide) rfl (fun ls hl => ?_)
  refine lv_iload_n X.1 X.2.1 dX0_silkBetween_2 rfl (lv_at hl 2 rfl) ?_
  refine lv_istore (lv' := [(4, .int (a1)), (3, .int 0), (0, .ref x), (1, .int (a1)), (2, .int (a2))]) X.1 X.2.1 dX0_silkBetween_3 hl (by decide) rfl (fun ls hl => ?_)
  have L_1 : ∀ (n : Nat) (H : Heap) (locs : List Loc) (ls : Array Slot) (i3_2 : Int32) (i3_2_z : Int) (i4_3 : Int32) (i4_3_z : Int), ((a2_z - i4_3_z).toNat = n) → (Wd G cy (AS S s.heap.size) s.heap S H locs) → (i3_2.toInt = i3_2_z) → (i4_3.toInt = i4_3_z) → ((i3_2) = slC (pI S 8 x) (pI S 2 x) a1_z (i4_3_z - a1_z).toNat) → (a1_z ≤ i4_3_z) → (i4_3_z ≤ a2_z ∨ i4_3_z = a1_z) → (lv_has ls 5 [(3, .int (i3_2)), (4, .int (i4_3)), (0, .ref x), (1, .int (a1)), (2, .int (a2))]) → W p l e ({ frames := 2, cells := 0, slots := 0, locals := 96 }) s m [.ref x, .int (a1), .int (a2)].toArray below meth c H locs 0 0 QQ (F0 m 5 ls []) := by
    intro n
    induction n using Nat.strongRecOn with
    | ind n ih =>
    intro H locs ls i3_2 i3_2_z i4_3 i4_3_z hn hw hz_i3_2 hz_i4_3 iv_4 iv_5 iv_6 hl
    have rg_7 : (-2147483648) ≤ i3_2_z ∧ i3_2_z ≤ 2147483647 := by rw [← hz_i3_2]; exact ⟨z_lo _, z_hi _⟩
    have rg_8 : (-2147483648) ≤ i4_3_z ∧ i4_3_z ≤ 2147483647 := by rw [← hz_i4_3]; exact ⟨z_lo _, z_hi _⟩
    refine lv_iload X.1 X.2.1 dX0_silkBetween_5 (lv_at hl 1 rfl) ?_
    refine lv_iload_n X.1 X.2.1 dX0_silkBetween_7 rfl (lv_at hl 4 rfl) ?_
    refine lv_icmp_ge (tgt := 26) X.1 X.2.1 dX0_silkBetween_8 (by decide) (fun c_9 => ?_) (fun c_9 => ?_)
    · have z_b_10 := trivial
      have k_11 : i4_3_z ≥ a2_z := z_le hz_a2 hz_i4_3 c_9
      refine lv_iload_n X.1 X.2.1 dX0_silkBetween_26 rfl (lv_at hl 0 rfl) ?_
      rw [hQQ]
      exact ret_i X hw hr hlocks (Nat.le_of_ble_eq_true rfl) (Nat.le_of_ble_eq_true rfl) ⟨rfl, ⟨z_lo _, z_hi _, by rw [iv_4, show (i4_3_z - a1_z).toNat = (a2_z - a1_z).toNat by omega]⟩⟩ dX0_silkBetween_27
    · have z_b_12 := trivial
      have k_13 : i4_3_z < a2_z := z_nle hz_a2 hz_i4_3 c_9
      refine lv_iload_n X.1 X.2.1 dX0_silkBetween_11 rfl (lv_at hl 0 rfl) ?_
      refine lv_aload_n X.1 X.2.1 dX0_silkBetween_12 rfl (lv_at hl 2 rfl) ?_
      refine lv_iload X.1 X.2.1 dX0_silkBetween_13 (lv_at hl 1 rfl) ?_
      refine k_i (rm := { frames := 1, cells := 0, slots := 0, locals := 48 }) (av := [.ref x, .int (i4_3)]) X hw (va_runV (As := [.int (i4_3)]) (rest := [.int (i3_2)]) (cfix X) (k_X0_finenessAt2 l G cy κ S _ x (i4_3) (i4_3_z) hG ha_x hz_i4_3) (cwV 1 X.2.2.2.1 gX0_silkBetween_X0_finenessAt rfl rfl rfl (by decide +kernel) ⟨Nat.le_of_ble_eq_true rfl, Nat.le_of_ble_eq_true rfl⟩) (pre_V X hw _ ha_x rfl (by decide) rfl) rfl rfl hl.1 rfl (lv_room (Nat.le_of_ble_eq_true rfl)) dX0_silkBetween_15 ⟨Nat.le_of_ble_eq_true rfl, Nat.le_of_ble_eq_true rfl⟩) 0 0 (Nat.le_of_ble_eq_true rfl) (Nat.le_of_ble_eq_true rfl) (fun rr_14 S_15 H locs hp hw hfr hnw => ?_)
      obtain ⟨e2, hp⟩ := hp
      subst e2
      have fn_16 := hp
      have rg_17 := And.intro (z_lo rr_14) (z_hi rr_14)
      refine lv_iadd X.1 X.2.1 dX0_silkBetween_18 ?_
      refine lv_topi (fun v_18 ev_18 => ?_)
      have rg_19 := And.intro (z_lo v_18) (z_hi v_18)
      refine lv_istore_n (lv' := [(3, .int (v_18)), (4, .int (i4_3)), (0, .ref x), (1, .int (a1)), (2, .int (a2))]) X.1 X.2.1 dX0_silkBetween_19 rfl hl (by decide) rfl (fun ls hl => ?_)
      obtain ⟨x_20, ex_20⟩ : ∃ y : Int32, y = i4_3 + 1 := ⟨_, rfl⟩
      have z_21 : x_20.toInt = i4_3_z + 1 := z_add ex_20 hz_i4_3 ti_1 (by omega) (by omega)
      refine lv_iinc (v := x_20) (lv' := [(4, .int (x_20)), (3, .int (v_18)), (0, .ref x), (1, .int (a1)), (2, .int (a2))]) X.1 X.2.1 dX0_silkBetween_20 hl (k := 1) rfl (by rw [ex_20]; rfl) (by decide) rfl (fun ls hl => ?_)
      refine lv_goto (tgt := 5) X.1 X.2.1 dX0_silkBetween_23 (by decide) ?_
      exact ih _ (by omega) _ _ _ (v_18) (v_18.toInt) (x_20) (x_20.toInt) rfl hw rfl rfl (by rw [show (x_20.toInt - a1_z).toNat = (i4_3_z - a1_z).toNat + 1 by omega, slC_s (v := i4_3) (by have h := hz_i4_3; omega), ← iv_4, ev_18]; exact congrArg (fun y => i3_2 + y) fn_16) (by omega) (by omega) (lv_sub hl [1, 0, 2, 3, 4] rfl)
  exact L_1 _ _ _ _ (0) (0) (a1) (a1_z) rfl hw ti_0 hz_a1 (by rw [show (a1_z - a1_z).toNat = 0 by omega]; rfl) (by omega) (by omega) (lv_sub hl [1, 0, 2, 3, 4] rfl)
set_option maxHeartbeats 4000000 in
set_option maxRecDepth 100000 in
theorem k_X0_isInPot9 (l : Launch) (G : va_G) (cy : Nat → ClassId) (κ : Nat → Nat) (S : PS) (sz : Nat) (x : Nat) (hG : GX S) (ha_x : At S x 0) : Ci l yX0_isInPot wsX0_isInPot ({ frames := 1, cells := 0, slots := 0, locals := 48 }) G cy κ S sz [.ref x] (fun (r : Int32) (S9 : PS) => S = S9 ∧ (((1 ≤ (pI S 3 x).toInt ∧ (pI S 3 x).toInt ≤ 3) ∧ r = 1) ∨ ((¬ (1 ≤ (pI S 3 x).toInt ∧ (pI S 3 x).toInt ≤ 3)) ∧ r = 0))) := by
  refine ent_m (cc := cX0_isInPot) (maxL := 1) (ret := (some .boolean)) (by decide) rfl (Nat.le_of_ble_eq_true rfl) ?_
  intro p e s m below meth c ls X hr hlocks hin hw hl hsz
  subst hsz
  have X : Cx p c cX0_isInPot 1 s [.ref x].toArray wsX0_isInPot RX0 m G cy κ (AS S s.heap.size) := X
  have hl : lv_has ls 1 [(0, .ref x)] := hl
  refine lv_aload_n X.1 X.2.1 dX0_isInPot_0 rfl (lv_at hl 0 rfl) ?_
  obtain ⟨v_1, ev_1⟩ : ∃ v, pI S 3 x = v := ⟨_, rfl⟩
  have rg_3 := And.intro (z_lo v_1) (z_hi v_1)
  have pz_4 : (pI S 3 x).toInt = v_1.toInt := by rw [ev_1]
  refine r_getI (g := 3) (x := v_1) X hw ha_x rfl 3 ev_1 (by decide) rfl inn_X0_isInPot_0 (by decide) (X.2.2.2.1 (.fieldLink RX0 9 "SilkMill$Cocoon" "stand" "I") (by decide +kernel)) rfl (gv_3 _ _) dX0_isInPot_1 ?_
  refine lv_iconst (v := 1) X.1 X.2.1 dX0_isInPot_4 (by decide) ?_
  refine lv_icmp_eq (tgt := 24) X.1 X.2.1 dX0_isInPot_5 (by decide) (fun c_5 => ?_) (fun c_5 => ?_)
  · have z_b_6 := trivial
    have k_7 : v_1.toInt = 1 := z_eq rfl ti_1 c_5
    refine lv_iconst (v := 1) X.1 X.2.1 dX0_isInPot_24 (by decide) ?_
    refine lv_goto (tgt := 29) X.1 X.2.1 dX0_isInPot_25 (by decide) ?_
    exact ret_z X hw hr hlocks (Nat.le_of_ble_eq_true rfl) (Nat.le_of_ble_eq_true rfl) (by decide) ⟨rfl, Or.inl ⟨by omega, rfl⟩⟩ dX0_isInPot_29
  · have z_b_8 := trivial
    have k_9 : v_1.toInt ≠ 1 := z_ne rfl ti_1 c_5
    refine lv_aload_n X.1 X.2.1 dX0_isInPot_8 rfl (lv_at hl 0 rfl) ?_
    refine r_getI (g := 3) (x := v_1) X hw ha_x rfl 3 ev_1 (by decide) rfl inn_X0_isInPot_0 (by decide) (X.2.2.2.1 (.fieldLink RX0 9 "SilkMill$Cocoon" "stand" "I") (by decide +kernel)) rfl (gv_3 _ _) dX0_isInPot_9 ?_
    refine lv_iconst (v := 2) X.1 X.2.1 dX0_isInPot_12 (by decide) ?_
    refine lv_icmp_eq (tgt := 24) X.1 X.2.1 dX0_isInPot_13 (by decide) (fun c_10 => ?_) (fun c_10 => ?_)
    · have z_b_11 := trivial
      have k_12 : v_1.toInt = 2 := z_eq rfl ti_2 c_10
      refine lv_iconst (v := 1) X.1 X.2.1 dX0_isInPot_24 (by decide) ?_
      refine lv_goto (tgt := 29) X.1 X.2.1 dX0_isInPot_25 (by decide) ?_
      exact ret_z X hw hr hlocks (Nat.le_of_ble_eq_true rfl) (Nat.le_of_ble_eq_true rfl) (by decide) ⟨rfl, Or.inl ⟨by omega, rfl⟩⟩ dX0_isInPot_29
    · have z_b_13 := trivial
      have k_14 : v_1.toInt ≠ 2 := z_ne rfl ti_2 c_10
      refine lv_aload_n X.1 X.2.1 dX0_isInPot_16 rfl (lv_at hl 0 rfl) ?_
      refine r_getI (g := 3) (x := v_1) X hw ha_x rfl 3 ev_1 (by decide) rfl inn_X0_isInPot_0 (by decide) (X.2.2.2.1 (.fieldLink RX0 9 "SilkMill$Cocoon" "stand" "I") (by decide +kernel)) rfl (gv_3 _ _) dX0_isInPot_17 ?_
      refine lv_iconst (v := 3) X.1 X.2.1 dX0_isInPot_20 (by decide) ?_
      refine lv_icmp_ne (tgt := 28) X.1 X.2.1 dX0_isInPot_21 (by decide) (fun c_15 => ?_) (fun c_15 => ?_)
      · have z_b_16 := trivial
        have k_17 : v_1.toInt ≠ 3 := z_ne rfl ti_3 c_15
        refine lv_iconst (v := 0) X.1 X.2.1 dX0_isInPot_28 (by decide) ?_
        exact ret_z X hw hr hlocks (Nat.le_of_ble_eq_true rfl) (Nat.le_of_ble_eq_true rfl) (by decide) ⟨rfl, Or.inr ⟨by omega, rfl⟩⟩ dX0_isInPot_29
      · have z_b_18 := trivial
        have k_19 : v_1.toInt = 3 := z_eq rfl ti_3 c_15
        refine lv_iconst (v := 1) X.1 X.2.1 dX0_isInPot_24 (by decide) ?_
        refine lv_goto (tgt := 29) X.1 X.2.1 dX0_isInPot_25 (by decide) ?_
        exact ret_z X hw hr hlocks (Nat.le_of_ble_eq_true rfl) (Nat.le_of_ble_eq_true rfl) (by decide) ⟨rfl, Or.inl ⟨by omega, rfl⟩⟩ dX0_isInPot_29
set_option maxHeartbeats 4000000 in
set_option maxRecDepth 100000 in
theorem k_X11_cocoon9 (l : Launch) (G : va_G) (cy : Nat → ClassId) (κ : Nat → Nat) (S : PS) (sz : Nat) (x : Nat) (a1 : Int32) (a1_z : Int) (a2 : Int32) (a2_z : Int) (a3 : Int32) (a3_z : Int) (hG : GX S) (ha_x : At S x 11) (hz_a1 : a1.toInt = a1_z) (hz_a2 : a2.toInt = a2_z) (hz_a3 : a3.toInt = a3_z) : Ci l yX11_cocoon wsX11_cocoon ({ frames := 3, cells := 0, slots := 0, locals := 144 }) G cy κ S sz [.ref x, .int (a1), .int (a2), .int (a3)] (fun (r : Int32) (S9 : PS) => S = S9 ∧ (-2147483648 ≤ r.toInt ∧ r.toInt ≤ 2147483647 ∧ (∀ q, InC S x a1_z a2_z → mB S x 1100 (60 * a1_z + a2_z).toNat = some q → r.toInt = coF S q a3_z) ∧ (CN S x → ¬ InC S x a1_z a2_z → r.toInt = -1))) := by
  refine ent_m (cc := cX11_cocoon) (maxL := 5) (ret := (some .int)) (by decide) rfl (Nat.le_of_ble_eq_true rfl) ?_
  intro p e s m below meth c ls X hr hlocks hin hw hl hsz
  subst hsz
  have X : Cx p c cX11_cocoon 5 s [.ref x, .int (a1), .int (a2), .int (a3)].toArray wsX11_cocoon RX11 m G cy κ (AS S s.heap.size) := X
  have hl : lv_has ls 5 [(0, .ref x), (1, .int (a1)), (2, .int (a2)), (3, .int (a3))] := hl
  have rg_a1 : (-2147483648) ≤ a1_z ∧ a1_z ≤ 2147483647 := by rw [← hz_a1]; exact ⟨z_lo _, z_hi _⟩
  have rg_a2 : (-2147483648) ≤ a2_z ∧ a2_z ≤ 2147483647 := by rw [← hz_a2]; exact ⟨z_lo _, z_hi _⟩
  have rg_a3 : (-2147483648) ≤ a3_z ∧ a3_z ≤ 2147483647 := by rw [← hz_a3]; exact ⟨z_lo _, z_hi _⟩
  refine lv_aload_n X.1 X.2.1 dX11_cocoon_0 rfl (lv_at hl 0 rfl) ?_
  refine lv_iload_n X.1 X.2.1 dX11_cocoon_1 rfl (lv_at hl 1 rfl) ?_
  refine lv_iload_n X.1 X.2.1 dX11_cocoon_2 rfl (lv_at hl 2 rfl) ?_
  refine k_q (rm := { frames := 1, cells := 0, slots := 0, locals := 48 }) (av := [.ref x, .int (a1), .int (a2)]) X hw (va_runV (As := [.int (a1), .int (a2)]) (rest := []) (cfix X) (k_X11_cocoonAt3 l G cy κ S _ x (a1) (a1_z) (a2) (a2_z) hG ha_x hz_a1 hz_a2) (cwV 2 X.2.2.2.1 gX11_cocoon_X11_cocoonAt rfl rfl rfl (by decide +kernel) ⟨Nat.le_of_ble_eq_true rfl, Nat.le_of_ble_eq_true rfl⟩) (pre_V X hw _ ha_x rfl (by decide) rfl) rfl rfl hl.1 rfl (lv_room (Nat.le_of_ble_eq_true rfl)) dX11_cocoon_3 ⟨Nat.le_of_ble_eq_true rfl, Nat.le_of_ble_eq_true rfl⟩) 0 0 (Nat.le_of_ble_eq_true rfl) (Nat.le_of_ble_eq_true rfl) (fun rr_1 S_2 H locs hp hw hfr hnw => ?_)
  obtain ⟨e2, hp⟩ := hp
  subst e2
  obtain ⟨hq_3, hnf_4⟩ := hp
  rcases rr_1 with _ | q_5
  · refine W.eq (g2 := F0 m 6 ls (.null :: [])) rfl ?_
    have nf_6 := hnf_4 rfl
    refine lv_astoreN (lv' := [(4, .null), (0, .ref x), (1, .int (a1)), (2, .int (a2)), (3, .int (a3))]) X.1 X.2.1 dX11_cocoon_6 hl (by decide) rfl (fun ls hl => ?_)
    refine lv_aloadN X.1 X.2.1 dX11_cocoon_8 (lv_at hl 0 rfl) ?_
    refine lv_ifnonnullN X.1 X.2.1 dX11_cocoon_10 ?_
    refine lv_iconst (v := (-1)) X.1 X.2.1 dX11_cocoon_13 (by decide) ?_
    exact ret_i X hw hr hlocks (Nat.le_of_ble_eq_true rfl) (Nat.le_of_ble_eq_true rfl) ⟨rfl, ⟨z_lo _, z_hi _, fun c_ h1 h2 => (by rcases nf_6 with h | h; exact absurd h1 h; rw [h] at h2; cases h2), fun _ _ => by decide⟩⟩ dX11_cocoon_14
  · refine W.eq (g2 := F0 m 6 ls (.ref q_5 :: [])) rfl ?_
    obtain ⟨ha_7, f_8, f_9⟩ := hq_3 _ rfl
    refine lv_astore (lv' := [(4, .ref q_5), (0, .ref x), (1, .int (a1)), (2, .int (a2)), (3, .int (a3))]) X.1 X.2.1 dX11_cocoon_6 hl (by decide) rfl (fun ls hl => ?_)
    refine lv_aload X.1 X.2.1 dX11_cocoon_8 (lv_at hl 0 rfl) ?_
    refine lv_ifnonnull (tgt := 15) X.1 X.2.1 dX11_cocoon_10 (by decide) ?_
    refine lv_iload_n X.1 X.2.1 dX11_cocoon_15 rfl (lv_at hl 4 rfl) ?_
    by_cases w_10 : (a3).toInt < 0 ∨ 6 < (a3).toInt
    · refine lv_tableOut (tgt := 131) X.1 X.2.1 dX11_cocoon_16 w_10 (by decide) ?_
      refine lv_iconst (v := (-1)) X.1 X.2.1 dX11_cocoon_131 (by decide) ?_
      exact ret_i X hw hr hlocks (Nat.le_of_ble_eq_true rfl) (Nat.le_of_ble_eq_true rfl) ⟨rfl, ⟨z_lo _, z_hi _, fun c_ _ h2 => (by rw [f_9] at h2; cases h2; rw [coF_d (by omega)]; decide), fun _ h => absurd f_8 h⟩⟩ dX11_cocoon_132
    have w_10b : (a3).toInt = 0 ∨ (a3).toInt = 1 ∨ (a3).toInt = 2 ∨ (a3).toInt = 3 ∨ (a3).toInt = 4 ∨ (a3).toInt = 5 ∨ (a3).toInt = 6 := by omega
    rcases w_10b with w_10c | w_10c | w_10c | w_10c | w_10c | w_10c | w_10c
    · refine lv_tableIn (tgt := 60) X.1 X.2.1 dX11_cocoon_16 (by omega) (by omega) (by rw [w_10c]; rfl) (by decide) ?_
      refine lv_aload X.1 X.2.1 dX11_cocoon_60 (lv_at hl 0 rfl) ?_
      obtain ⟨v_11, ev_11⟩ : ∃ v, pI S 2 q_5 = v := ⟨_, rfl⟩
      have rg_12 := gI_0_2 hG ha_7; rw [ev_11] at rg_12
      have pz_13 : (pI S 2 q_5).toInt = v_11.toInt := by rw [ev_11]
      refine r_getI (g := 2) (x := v_11) X hw ha_7 rfl 2 ev_11 (by decide) rfl inn_X11_cocoon_0 (by decide) (X.2.2.2.1 (.fieldLink RX11 78 "SilkMill$Cocoon" "length" "I") (by decide +kernel)) rfl (gv_2 _ _) dX11_cocoon_62 ?_
      exact ret_i X hw hr hlocks (Nat.le_of_ble_eq_true rfl) (Nat.le_of_ble_eq_true rfl) ⟨rfl, ⟨z_lo _, z_hi _, fun c_ _ h2 => (by rw [f_9] at h2; cases h2; rw [coF_0 (by omega), ev_11]), fun _ h => absurd f_8 h⟩⟩ dX11_cocoon_65
    · refine lv_tableIn (tgt := 66) X.1 X.2.1 dX11_cocoon_16 (by omega) (by omega) (by rw [w_10c]; rfl) (by decide) ?_
      refine lv_aload X.1 X.2.1 dX11_cocoon_66 (lv_at hl 0 rfl) ?_
      obtain ⟨v_14, ev_14⟩ : ∃ v, pI S 3 q_5 = v := ⟨_, rfl⟩
      have rg_16 := And.intro (z_lo v_14) (z_hi v_14)
      have pz_17 : (pI S 3 q_5).toInt = v_14.toInt := by rw [ev_14]
      refine r_getI (g := 3) (x := v_14) X hw ha_7 rfl 3 ev_14 (by decide) rfl inn_X11_cocoon_0 (by decide) (X.2.2.2.1 (.fieldLink RX11 81 "SilkMill$Cocoon" "stand" "I") (by decide +kernel)) rfl (gv_3 _ _) dX11_cocoon_68 ?_
      exact ret_i X hw hr hlocks (Nat.le_of_ble_eq_true rfl) (Nat.le_of_ble_eq_true rfl) ⟨rfl, ⟨z_lo _, z_hi _, fun c_ _ h2 => (by rw [f_9] at h2; cases h2; rw [coF_1 (by omega), ev_14]), fun _ h => absurd f_8 h⟩⟩ dX11_cocoon_71
    · refine lv_tableIn (tgt := 72) X.1 X.2.1 dX11_cocoon_16 (by omega) (by omega) (by rw [w_10c]; rfl) (by decide) ?_
      refine lv_aload X.1 X.2.1 dX11_cocoon_72 (lv_at hl 0 rfl) ?_
      obtain ⟨v_18, ev_18⟩ : ∃ v, pI S 4 q_5 = v := ⟨_, rfl⟩
      have rg_20 := And.intro (z_lo v_18) (z_hi v_18)
      have pz_21 : (pI S 4 q_5).toInt = v_18.toInt := by rw [ev_18]
      refine r_getI (g := 4) (x := v_18) X hw ha_7 rfl 4 ev_18 (by decide) rfl inn_X11_cocoon_0 (by decide) (X.2.2.2.1 (.fieldLink RX11 84 "SilkMill$Cocoon" "drawnTo" "I") (by decide +kernel)) rfl (gv_4 _ _) dX11_cocoon_74 ?_
      exact ret_i X hw hr hlocks (Nat.le_of_ble_eq_true rfl) (Nat.le_of_ble_eq_true rfl) ⟨rfl, ⟨z_lo _, z_hi _, fun c_ _ h2 => (by rw [f_9] at h2; cases h2; rw [coF_2 (by omega), ev_18]), fun _ h => absurd f_8 h⟩⟩ dX11_cocoon_77
    · refine lv_tableIn (tgt := 78) X.1 X.2.1 dX11_cocoon_16 (by omega) (by omega) (by rw [w_10c]; rfl) (by decide) ?_
      refine lv_aload X.1 X.2.1 dX11_cocoon_78 (lv_at hl 0 rfl) ?_
      refine lv_aload X.1 X.2.1 dX11_cocoon_80 (lv_at hl 0 rfl) ?_
      obtain ⟨v_22, ev_22⟩ : ∃ v, pI S 4 q_5 = v := ⟨_, rfl⟩
      have rg_24 := And.intro (z_lo v_22) (z_hi v_22)
      have pz_25 : (pI S 4 q_5).toInt = v_22.toInt := by rw [ev_22]
      refine r_getI (g := 4) (x := v_22) X hw ha_7 rfl 4 ev_22 (by decide) rfl inn_X11_cocoon_0 (by decide) (X.2.2.2.1 (.fieldLink RX11 84 "SilkMill$Cocoon" "drawnTo" "I") (by decide +kernel)) rfl (gv_4 _ _) dX11_cocoon_82 ?_
      refine k_i (rm := { frames := 1, cells := 0, slots := 0, locals := 48 }) (av := [.ref q_5, .int (v_22)]) X hw (va_runV (As := [.int (v_22)]) (rest := []) (cfix X) (k_X0_finenessAt2 l G cy κ S _ q_5 (v_22) (v_22.toInt) hG ha_7 rfl) (cwV 1 X.2.2.2.1 gX11_cocoon_X0_finenessAt rfl rfl rfl (by decide +kernel) ⟨Nat.le_of_ble_eq_true rfl, Nat.le_of_ble_eq_true rfl⟩) (pre_V X hw _ ha_7 rfl (by decide) rfl) rfl rfl hl.1 rfl (lv_room (Nat.le_of_ble_eq_true rfl)) dX11_cocoon_85 ⟨Nat.le_of_ble_eq_true rfl, Nat.le_of_ble_eq_true rfl⟩) 0 0 (Nat.le_of_ble_eq_true rfl) (Nat.le_of_ble_eq_true rfl) (fun rr_26 S_27 H locs hp hw hfr hnw => ?_)
      obtain ⟨e2, hp⟩ := hp
      subst e2
      have fn_28 := hp
      have rg_29 := And.intro (z_lo rr_26) (z_hi rr_26)
      exact ret_i X hw hr hlocks (Nat.le_of_ble_eq_true rfl) (Nat.le_of_ble_eq_true rfl) ⟨rfl, ⟨z_lo _, z_hi _, fun c_ _ h2 => (by rw [f_9] at h2; cases h2; rw [coF_3 (by omega), ev_22, fn_28]), fun _ h => absurd f_8 h⟩⟩ dX11_cocoon_88
    · refine lv_tableIn (tgt := 89) X.1 X.2.1 dX11_cocoon_16 (by omega) (by omega) (by rw [w_10c]; rfl) (by decide) ?_
      refine lv_aload X.1 X.2.1 dX11_cocoon_89 (lv_at hl 0 rfl) ?_
      refine lv_iconst (v := 0) X.1 X.2.1 dX11_cocoon_91 (by decide) ?_
      refine lv_aload X.1 X.2.1 dX11_cocoon_92 (lv_at hl 0 rfl) ?_
      obtain ⟨v_30, ev_30⟩ : ∃ v, pI S 2 q_5 = v := ⟨_, rfl⟩
      have rg_31 := gI_0_2 hG ha_7; rw [ev_30] at rg_31
      have pz_32 : (pI S 2 q_5).toInt = v_30.toInt := by rw [ev_30]
      refine r_getI (g := 2) (x := v_30) X hw ha_7 rfl 2 ev_30 (by decide) rfl inn_X11_cocoon_0 (by decide) (X.2.2.2.1 (.fieldLink RX11 78 "SilkMill$Cocoon" "length" "I") (by decide +kernel)) rfl (gv_2 _ _) dX11_cocoon_94 ?_
      refine k_i (rm := { frames := 2, cells := 0, slots := 0, locals := 96 }) (av := [.ref q_5, .int 0, .int (v_30)]) X hw (va_runV (As := [.int 0, .int (v_30)]) (rest := []) (cfix X) (k_X0_silkBetween9 l G cy κ S _ q_5 (0) (0) (v_30) (v_30.toInt) hG ha_7 ti_0 rfl) (cwV 2 X.2.2.2.1 gX11_cocoon_X0_silkBetween rfl rfl rfl (by decide +kernel) ⟨Nat.le_of_ble_eq_true rfl, Nat.le_of_ble_eq_true rfl⟩) (pre_V X hw _ ha_7 rfl (by decide) rfl) rfl rfl hl.1 rfl (lv_room (Nat.le_of_ble_eq_true rfl)) dX11_cocoon_97 ⟨Nat.le_of_ble_eq_true rfl, Nat.le_of_ble_eq_true rfl⟩) 0 0 (Nat.le_of_ble_eq_true rfl) (Nat.le_of_ble_eq_true rfl) (fun rr_33 S_34 H locs hp hw hfr hnw => ?_)
      obtain ⟨e2, hp⟩ := hp
      subst e2
      obtain ⟨sl_35, sl_36, sl_37⟩ := hp
      exact ret_i X hw hr hlocks (Nat.le_of_ble_eq_true rfl) (Nat.le_of_ble_eq_true rfl) ⟨rfl, ⟨z_lo _, z_hi _, fun c_ _ h2 => (by rw [f_9] at h2; cases h2; rw [coF_4 (by omega), sl_37, show (v_30.toInt - 0).toNat = (pI S 2 q_5).toInt.toNat by rw [ev_30, Int.sub_zero]]), fun _ h => absurd f_8 h⟩⟩ dX11_cocoon_100
    · refine lv_tableIn (tgt := 101) X.1 X.2.1 dX11_cocoon_16 (by omega) (by omega) (by rw [w_10c]; rfl) (by decide) ?_
      refine lv_aload X.1 X.2.1 dX11_cocoon_101 (lv_at hl 0 rfl) ?_
      refine lv_iconst (v := 0) X.1 X.2.1 dX11_cocoon_103 (by decide) ?_
      refine lv_aload X.1 X.2.1 dX11_cocoon_104 (lv_at hl 0 rfl) ?_
      obtain ⟨v_38, ev_38⟩ : ∃ v, pI S 4 q_5 = v := ⟨_, rfl⟩
      have rg_40 := And.intro (z_lo v_38) (z_hi v_38)
      have pz_41 : (pI S 4 q_5).toInt = v_38.toInt := by rw [ev_38]
      refine r_getI (g := 4) (x := v_38) X hw ha_7 rfl 4 ev_38 (by decide) rfl inn_X11_cocoon_0 (by decide) (X.2.2.2.1 (.fieldLink RX11 84 "SilkMill$Cocoon" "drawnTo" "I") (by decide +kernel)) rfl (gv_4 _ _) dX11_cocoon_106 ?_
      refine k_i (rm := { frames := 2, cells := 0, slots := 0, locals := 96 }) (av := [.ref q_5, .int 0, .int (v_38)]) X hw (va_runV (As := [.int 0, .int (v_38)]) (rest := []) (cfix X) (k_X0_silkBetween9 l G cy κ S _ q_5 (0) (0) (v_38) (v_38.toInt) hG ha_7 ti_0 rfl) (cwV 2 X.2.2.2.1 gX11_cocoon_X0_silkBetween rfl rfl rfl (by decide +kernel) ⟨Nat.le_of_ble_eq_true rfl, Nat.le_of_ble_eq_true rfl⟩) (pre_V X hw _ ha_7 rfl (by decide) rfl) rfl rfl hl.1 rfl (lv_room (Nat.le_of_ble_eq_true rfl)) dX11_cocoon_109 ⟨Nat.le_of_ble_eq_true rfl, Nat.le_of_ble_eq_true rfl⟩) 0 0 (Nat.le_of_ble_eq_true rfl) (Nat.le_of_ble_eq_true rfl) (fun rr_42 S_43 H locs hp hw hfr hnw => ?_)
      obtain ⟨e2, hp⟩ := hp
      subst e2
      obtain ⟨sl_44, sl_45, sl_46⟩ := hp
      exact ret_i X hw hr hlocks (Nat.le_of_ble_eq_true rfl) (Nat.le_of_ble_eq_true rfl) ⟨rfl, ⟨z_lo _, z_hi _, fun c_ _ h2 => (by rw [f_9] at h2; cases h2; rw [coF_5 (by omega), sl_46, show (v_38.toInt - 0).toNat = (pI S 4 q_5).toInt.toNat by rw [ev_38, Int.sub_zero]]), fun _ h => absurd f_8 h⟩⟩ dX11_cocoon_112
    · refine lv_tableIn (tgt := 113) X.1 X.2.1 dX11_cocoon_16 (by omega) (by omega) (by rw [w_10c]; rfl) (by decide) ?_
      refine lv_aload X.1 X.2.1 dX11_cocoon_113 (lv_at hl 0 rfl) ?_
      refine k_i (rm := { frames := 1, cells := 0, slots := 0, locals := 48 }) (av := [.ref q_5]) X hw (va_runV (As := []) (rest := []) (cfix X) (k_X0_isInPot9 l G cy κ S _ q_5 hG ha_7) (cwV 0 X.2.2.2.1 gX11_cocoon_X0_isInPot rfl rfl rfl (by decide +kernel) ⟨Nat.le_of_ble_eq_true rfl, Nat.le_of_ble_eq_true rfl⟩) (pre_V X hw _ ha_7 rfl (by decide) rfl) rfl rfl hl.1 rfl (lv_room (Nat.le_of_ble_eq_true rfl)) dX11_cocoon_115 ⟨Nat.le_of_ble_eq_true rfl, Nat.le_of_ble_eq_true rfl⟩) 0 0 (Nat.le_of_ble_eq_true rfl) (Nat.le_of_ble_eq_true rfl) (fun rr_47 S_48 H locs hp hw hfr hnw => ?_)
      obtain ⟨e2, hp⟩ := hp
      subst e2
      rcases hp with ⟨f_49, er_50⟩ | ⟨f_49, er_50⟩ <;> subst er_50
      · have z_b_51 := trivial
        refine lv_if_eq (tgt := 129) X.1 X.2.1 dX11_cocoon_118 (by decide) (fun c_52 => absurd c_52 (by decide)) (fun c_52 => ?_)
        refine lv_aload X.1 X.2.1 dX11_cocoon_121 (lv_at hl 0 rfl) ?_
        obtain ⟨v_53, ev_53⟩ : ∃ v, pI S 5 q_5 = v := ⟨_, rfl⟩
        have rg_55 := And.intro (z_lo v_53) (z_hi v_53)
        have pz_56 : (pI S 5 q_5).toInt = v_53.toInt := by rw [ev_53]
        refine r_getI (g := 5) (x := v_53) X hw ha_7 rfl 5 ev_53 (by decide) rfl inn_X11_cocoon_0 (by decide) (X.2.2.2.1 (.fieldLink RX11 99 "SilkMill$Cocoon" "potNumber" "I") (by decide +kernel)) rfl (gv_5 _ _) dX11_cocoon_123 ?_
        refine lv_goto (tgt := 130) X.1 X.2.1 dX11_cocoon_126 (by decide) ?_
        exact ret_i X hw hr hlocks (Nat.le_of_ble_eq_true rfl) (Nat.le_of_ble_eq_true rfl) ⟨rfl, ⟨z_lo _, z_hi _, fun c_ _ h2 => (by rw [f_9] at h2; cases h2; rw [coF_6 (by omega), if_pos f_49, ev_53]), fun _ h => absurd f_8 h⟩⟩ dX11_cocoon_130
      · have z_b_57 := trivial
        refine lv_if_eq (tgt := 129) X.1 X.2.1 dX11_cocoon_118 (by decide) (fun c_58 => ?_) (fun c_58 => absurd c_58 (by decide))
        refine lv_iconst (v := (-1)) X.1 X.2.1 dX11_cocoon_129 (by decide) ?_
        exact ret_i X hw hr hlocks (Nat.le_of_ble_eq_true rfl) (Nat.le_of_ble_eq_true rfl) ⟨rfl, ⟨z_lo _, z_hi _, fun c_ _ h2 => (by rw [f_9] at h2; cases h2; rw [coF_6 (by omega), if_neg f_49]; decide), fun _ h => absurd f_8 h⟩⟩ dX11_cocoon_130
