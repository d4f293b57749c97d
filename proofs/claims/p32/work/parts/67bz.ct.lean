def slC (b l : Int32) (a : Int) : Nat → Int32
  | 0 => 0
  | n + 1 => slC b l a n + fcI b l (Int32.ofInt (a + (n : Int)))
theorem slC_s {b l v : Int32} {a : Int} {n : Nat} (h : a + (n : Int) = v.toInt) : slC b l a (n + 1) = slC b l a n + fcI b l v := by
  show slC b l a n + fcI b l (Int32.ofInt (a + (n : Int))) = _
  rw [h, Int32.ofInt_toInt]

set_option maxHeartbeats 4000000 in
set_option maxRecDepth 100000 in
theorem k_X0_silkBetween9 (l : Launch) (G : va_G) (cy : Nat → ClassId) (κ : Nat → Nat) (S : PS) (sz : Nat) (x : Nat) (a1 : Int32) (a1_z : Int) (a2 : Int32) (a2_z : Int) (hG : GX S) (ha_x : At S x 0) (hz_a1 : a1.toInt = a1_z) (hz_a2 : a2.toInt = a2_z) : Ci l yX0_silkBetween wsX0_silkBetween ({ frames := 2, cells := 0, slots := 0, locals := 96 }) G cy κ S sz [.ref x, .int (a1), .int (a2)] (fun (r : Int32) (S9 : PS) => S = S9 ∧ (-2147483648 ≤ r.toInt ∧ r.toInt ≤ 2147483647 ∧ r = slC (pI S 8 x) (pI S 2 x) a1_z (a2_z - a1_z).toNat)) := by
  refine ent_m (cc := cX0_silkBetween) (maxL := 5) (ret := (some .int)) (by decide) rfl (Nat.le_of_ble_eq_true rfl) ?_
  intro p e s m below meth c ls X hr hlocks hin hw hl hsz
  subst hsz
  have X : Cx p c cX0_silkBetween 5 s [.ref x, .int (a1), .int (a2)].toArray wsX0_silkBetween RX0 m G cy κ (AS S s.heap.size) := X
  have hl : lv_has ls 5 [(0, .ref x), (1, .int (a1)), (2, .int (a2))] := hl
  have rg_a1 : (-2147483648) ≤ a1_z ∧ a1_z ≤ 2147483647 := by rw [← hz_a1]; exact ⟨z_lo _, z_hi _⟩
  have rg_a2 : (-2147483648) ≤ a2_z ∧ a2_z ≤ 2147483647 := by rw [← hz_a2]; exact ⟨z_lo _, z_hi _⟩
  generalize hQQ : MQ below _ _ _ _ _ _ = QQ
  replace hQQ := hQQ.symm
  refine lv_iconst (v := 0) X.1 X.2.1 dX0_silkBetween_0 (by decide) ?_
  refine lv_istore_n (lv' := [(3, .int 0), (0, .ref x), (1, .int (a1)), (2, .int (a2))]) X.1 X.2.1 dX0_silkBetween_1 rfl hl (by decide) rfl (fun ls hl => ?_)
  refine lv_iload_n X.1 X.2.1 dX0_silkBetween_2 rfl (lv_at hl 2 rfl) ?_
  refine lv_istore (lv' := [(4, .int (a1)), (3, .int 0), (0, .ref x), (1, .int (a1)), (2, .int (a2))]) X.1 X.2.1 dX0_silkBetween_3 hl (by decide) rfl (fun ls hl => ?_)
  have L_1 : ∀ (n : Nat) (H : Heap) (locs : List Loc) (ls : Array Slot) (i3_2 : Int32) (i3_2_z : Int) (i4_3 : Int32) (i4_3_z : Int), ((a2_z - i4_3_z).toNat = n) → (Wd G cy (AS S s.heap.size) s.heap S H locs) → (i3_2.toInt = i3_2_z) → (i4_3.toInt = i4_3_z) → ((i3_2) = slC (pI S 8 x) (pI S 2 x) a1_z (i4_3_z - a1_z).toNat) → (a1_z ≤ i4_3_z) → (i4_3_z ≤ a2_z ∨ i4_3_z = a1_z) → (lv_has ls 5 [(3, .int (i3_2)), (4, .int (i4_3)), (0, .ref x), (1, .int (a1)), (2, .int (a2))]) → W p l e ({ frames := 2, cells := 0, slots := 0, locals := 96 }) s m [.ref x, .int (a1), .int (a2)].toArray below meth c H locs 0 0 QQ (F0 m 5 ls []) := by
    intro n
    induction n using Nat.strongRecOn with
    | ind n ih =>
    intro H locs ls i3_2 i3_2_z i4_3 i4_3_z hn hw hz_i3_2 hz_i4_3 iv_4 iv_5 iv_6 hl
    have rg_7 : (-2147483648) ≤ i3_2_z ∧ i3_2_z ≤ 2147483647 := by rw [← hz_i3_2]; exact ⟨z_lo _, z_hi _⟩
    have rg_8 : (-2147483648) ≤ i4_3_z ∧ i4_3_z ≤ 2147483647 := by rw [← hz_i4_3]; exact ⟨z_lo _, z_hi _⟩
    refine lv_iload X.1 X.2.1 dX0_silkBetween_5 (lv_at hl 1 rfl) ?_
    refine lv_iload_n X.1 X.2.1 dX0_silkBetween_7 rfl (lv_at hl 4 rfl) ?_
    refine lv_icmp_ge (tgt := 26) X.1 X.2.1 dX0_silkBetween_8 (by decide) (fun c_9 => ?_) (fun c_9 => ?_)
    · have z_b_10 := trivial
      have k_11 : i4_3_z ≥ a2_z := z_le hz_a2 hz_i4_3 c_9
      refine lv_iload_n X.1 X.2.1 dX0_silkBetween_26 rfl (lv_at hl 0 rfl) ?_
      rw [hQQ]
      exact ret_i X hw hr hlocks (Nat.le_of_ble_eq_true rfl) (Nat.le_of_ble_eq_true rfl) ⟨rfl, ⟨z_lo _, z_hi _, by rw [iv_4, show (i4_3_z - a1_z).toNat = (a2_z - a1_z).toNat by omega]⟩⟩ dX0_silkBetween_27
    · have z_b_12 := trivial
      have k_13 : i4_3_z < a2_z := z_nle hz_a2 hz_i4_3 c_9
      refine lv_iload_n X.1 X.2.1 dX0_silkBetween_11 rfl (lv_at hl 0 rfl) ?_
      refine lv_aload_n X.1 X.2.1 dX0_silkBetween_12 rfl (lv_at hl 2 rfl) ?_
      refine lv_iload X.1 X.2.1 dX0_silkBetween_13 (lv_at hl 1 rfl) ?_
      refine k_i (rm := { frames := 1, cells := 0, slots := 0, locals := 48 }) (av := [.ref x, .int (i4_3)]) X hw (va_runV (As := [.int (i4_3)]) (rest := [.int (i3_2)]) (cfix X) (k_X0_finenessAt2 l G cy κ S _ x (i4_3) (i4_3_z) hG ha_x hz_i4_3) (cwV 1 X.2.2.2.1 gX0_silkBetween_X0_finenessAt rfl rfl rfl (by decide +kernel) ⟨Nat.le_of_ble_eq_true rfl, Nat.le_of_ble_eq_true rfl⟩) (pre_V X hw _ ha_x rfl (by decide) rfl) rfl rfl hl.1 rfl (lv_room (Nat.le_of_ble_eq_true rfl)) dX0_silkBetween_15 ⟨Nat.le_of_ble_eq_true rfl, Nat.le_of_ble_eq_true rfl⟩) 0 0 (Nat.le_of_ble_eq_true rfl) (Nat.le_of_ble_eq_true rfl) (fun rr_14 S_15 H locs hp hw hfr hnw => ?_)
      obtain ⟨e2, hp⟩ := hp
      subst e2
      have fn_16 := hp
      have rg_17 := And.intro (z_lo rr_14) (z_hi rr_14)
      refine lv_iadd X.1 X.2.1 dX0_silkBetween_18 ?_
      refine lv_topi (fun v_18 ev_18 => ?_)
      have rg_19 := And.intro (z_lo v_18) (z_hi v_18)
      refine lv_istore_n (lv' := [(3, .int (v_18)), (4, .int (i4_3)), (0, .ref x), (1, .int (a1)), (2, .int (a2))]) X.1 X.2.1 dX0_silkBetween_19 rfl hl (by decide) rfl (fun ls hl => ?_)
      obtain ⟨x_20, ex_20⟩ : ∃ y : Int32, y = i4_3 + 1 := ⟨_, rfl⟩
      have z_21 : x_20.toInt = i4_3_z + 1 := z_add ex_20 hz_i4_3 ti_1 (by omega) (by omega)
      refine lv_iinc (v := x_20) (lv' := [(4, .int (x_20)), (3, .int (v_18)), (0, .ref x), (1, .int (a1)), (2, .int (a2))]) X.1 X.2.1 dX0_silkBetween_20 hl (k := 1) rfl (by rw [ex_20]; rfl) (by decide) rfl (fun ls hl => ?_)
      refine lv_goto (tgt := 5) X.1 X.2.1 dX0_silkBetween_23 (by decide) ?_
      exact ih _ (by omega) _ _ _ (v_18) (v_18.toInt) (x_20) (x_20.toInt) rfl hw rfl rfl (by rw [show (x_20.toInt - a1_z).toNat = (i4_3_z - a1_z).toNat + 1 by omega, slC_s (v := i4_3) (by have h := hz_i4_3; omega), ← iv_4, ev_18]; exact congrArg (fun y => i3_2 + y) fn_16) (by omega) (by omega) (lv_sub hl [1, 0, 2, 3, 4] rfl)
  exact L_1 _ _ _ _ (0) (0) (a1) (a1_z) rfl hw ti_0 hz_a1 (by rw [show (a1_z - a1_z).toNat = 0 by omega]; rfl) (by omega) (by omega) (lv_sub hl [1, 0, 2, 3, 4] rfl)
