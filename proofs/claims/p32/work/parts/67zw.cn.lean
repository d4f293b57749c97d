noncomputable def slZ (S : PS) (x : Nat) (c a : Int) : Nat → Int32
  | 0 => 0
  | n + 1 => slZ S x c a n + Int32.ofInt (fnZ S x c (a + (n : Int)))
theorem slZ_s {S : PS} {x n : Nat} {c a k : Int} (h : a + (n : Int) = k) : slZ S x c a (n + 1) = slZ S x c a n + Int32.ofInt (fnZ S x c k) := by
  show slZ S x c a n + Int32.ofInt (fnZ S x c (a + (n : Int))) = _
  rw [h]
theorem slZ_eq {S T : PS} {x : Nat} {c a : Int} (h : fnZ T x = fnZ S x) : ∀ n : Nat, slZ T x c a n = slZ S x c a n
  | 0 => rfl
  | n + 1 => by
    show slZ T x c a n + Int32.ofInt (fnZ T x c (a + (n : Int))) = slZ S x c a n + Int32.ofInt (fnZ S x c (a + (n : Int)))
    rw [slZ_eq h n, h]
theorem oi_o {v : Int32} {z : Int} (h : v.toInt = z) : v = Int32.ofInt z := by
  rw [← h]
  exact (Int32.ofInt_toInt v).symm

set_option maxHeartbeats 4000000 in
set_option maxRecDepth 100000 in
theorem k_X12_silk9 (l : Launch) (G : va_G) (cy : Nat → ClassId) (κ : Nat → Nat) (S : PS) (sz : Nat) (x : Nat) (a1 : Int32) (a1_z : Int) (a2 : Int32) (a2_z : Int) (a3 : Int32) (a3_z : Int) (hG : GX S) (ha_x : At S x 12) (hz_a1 : a1.toInt = a1_z) (hz_a2 : a2.toInt = a2_z) (hz_a3 : a3.toInt = a3_z) (hp_0 : 0 ≤ a1_z) (hp_1 : a1_z ≤ 599) (hp_2 : 0 ≤ a2_z) (hp_3 : a3_z ≤ 220) (hp_4 : a3_z ≤ lenZ S x a1_z) : Ci l yX12_silk wsX12_silk ({ frames := 4, cells := 0, slots := 0, locals := 192 }) G cy κ S sz [.ref x, .int (a1), .int (a2), .int (a3)] (fun (r : Int32) (S9 : PS) => S = S9 ∧ (-2147483648 ≤ r.toInt ∧ r.toInt ≤ 2147483647 ∧ r = slZ S x a1_z a2_z (a3_z - a2_z).toNat)) := by
  refine ent_m (cc := cX12_silk) (maxL := 6) (ret := (some .int)) (by decide) rfl (Nat.le_of_ble_eq_true rfl) ?_
  intro p e s m below meth c ls X hr hlocks hin hw hl hsz
  subst hsz
  have X : Cx p c cX12_silk 6 s [.ref x, .int (a1), .int (a2), .int (a3)].toArray wsX12_silk RX12 m G cy κ (AS S s.heap.size) := X
  have hl : lv_has ls 6 [(0, .ref x), (1, .int (a1)), (2, .int (a2)), (3, .int (a3))] := hl
  have rg_a1 : (-2147483648) ≤ a1_z ∧ a1_z ≤ 2147483647 := by rw [← hz_a1]; exact ⟨z_lo _, z_hi _⟩
  have rg_a2 : (-2147483648) ≤ a2_z ∧ a2_z ≤ 2147483647 := by rw [← hz_a2]; exact ⟨z_lo _, z_hi _⟩
  have rg_a3 : (-2147483648) ≤ a3_z ∧ a3_z ≤ 2147483647 := by rw [← hz_a3]; exact ⟨z_lo _, z_hi _⟩
  generalize hQQ : MQ below _ _ _ _ _ _ = QQ
  replace hQQ := hQQ.symm
  refine lv_iconst (v := 0) X.1 X.2.1 dX12_silk_0 (by decide) ?_
  refine lv_istore (lv' := [(4, .int 0), (0, .ref x), (1, .int (a1)), (2, .int (a2)), (3, .int (a3))]) X.1 X.2.1 dX12_silk_1 hl (by decide) rfl (fun ls hl => ?_)
  refine lv_iload_n X.1 X.2.1 dX12_silk_3 rfl (lv_at hl 3 rfl) ?_
  refine lv_istore (lv' := [(5, .int (a2)), (4, .int 0), (0, .ref x), (1, .int (a1)), (2, .int (a2)), (3, .int (a3))]) X.1 X.2.1 dX12_silk_4 hl (by decide) rfl (fun ls hl => ?_)
  have L_1 : ∀ (n : Nat) (H : Heap) (locs : List Loc) (ls : Array Slot) (i4_2 : Int32) (i4_2_z : Int) (i5_3 : Int32) (i5_3_z : Int), ((a3_z - i5_3_z).toNat = n) → (Wd G cy (AS S s.heap.size) s.heap S H locs) → (i4_2.toInt = i4_2_z) → (i5_3.toInt = i5_3_z) → (0 ≤ i5_3_z ∧ i5_3_z ≤ 2147483647) → ((i4_2) = slZ S x a1_z a2_z (i5_3_z - a2_z).toNat) → (a2_z ≤ i5_3_z) → (i5_3_z ≤ a3_z ∨ i5_3_z = a2_z) → (lv_has ls 6 [(4, .int (i4_2)), (5, .int (i5_3)), (0, .ref x), (1, .int (a1)), (2, .int (a2)), (3, .int (a3))]) → W p l e ({ frames := 4, cells := 0, slots := 0, locals := 192 }) s m [.ref x, .int (a1), .int (a2), .int (a3)].toArray below meth c H locs 0 0 QQ (F0 m 6 ls []) := by
    intro n
    induction n using Nat.strongRecOn with
    | ind n ih_L_1 =>
    intro H locs ls i4_2 i4_2_z i5_3 i5_3_z hn hw hz_i4_2 hz_i5_3 hr_i5_3 iv_4 iv_5 iv_6 hl
    have rg_7 : (-2147483648) ≤ i4_2_z ∧ i4_2_z ≤ 2147483647 := by rw [← hz_i4_2]; exact ⟨z_lo _, z_hi _⟩
    have rg_8 : (-2147483648) ≤ i5_3_z ∧ i5_3_z ≤ 2147483647 := by rw [← hz_i5_3]; exact ⟨z_lo _, z_hi _⟩
    refine lv_iload X.1 X.2.1 dX12_silk_6 (lv_at hl 1 rfl) ?_
    refine lv_iload_n X.1 X.2.1 dX12_silk_8 rfl (lv_at hl 5 rfl) ?_
    refine lv_icmp_ge (tgt := 30) X.1 X.2.1 dX12_silk_9 (by decide) (fun c_9 => ?_) (fun c_9 => ?_)
    · have z_b_10 := trivial
      have k_11 : i5_3_z ≥ a3_z := z_le hz_a3 hz_i5_3 c_9
      refine lv_iload X.1 X.2.1 dX12_silk_30 (lv_at hl 0 rfl) ?_
      rw [hQQ]
      exact ret_i X hw hr hlocks (Nat.le_of_ble_eq_true rfl) (Nat.le_of_ble_eq_true rfl) ⟨rfl, ⟨z_lo _, z_hi _, by rw [iv_4, show (i5_3_z - a2_z).toNat = (a3_z - a2_z).toNat by omega]⟩⟩ dX12_silk_32
    · have z_b_12 := trivial
      have k_13 : i5_3_z < a3_z := z_nle hz_a3 hz_i5_3 c_9
      refine lv_iload X.1 X.2.1 dX12_silk_12 (lv_at hl 0 rfl) ?_
      refine lv_aload_n X.1 X.2.1 dX12_silk_14 rfl (lv_at hl 2 rfl) ?_
      refine lv_iload_n X.1 X.2.1 dX12_silk_15 rfl (lv_at hl 3 rfl) ?_
      refine lv_iload X.1 X.2.1 dX12_silk_16 (lv_at hl 1 rfl) ?_
      refine k_i (rm := { frames := 3, cells := 0, slots := 0, locals := 144 }) (av := [.ref x, .int (a1), .int (i5_3)]) X hw (va_runV (As := [.int (a1), .int (i5_3)]) (rest := [.int (i4_2)]) (cfix X) (k_X12_fineOf2 l G cy κ S _ x (a1) (a1_z) (i5_3) (i5_3_z) hG ha_x hz_a1 hz_i5_3 (by first | assumption | omega) (by first | assumption | omega) (by first | assumption | omega) (by first | assumption | omega) (by first | assumption | omega)) (cwV 2 X.2.2.2.1 gX12_silk_X12_fineOf rfl rfl rfl (by decide +kernel) ⟨Nat.le_of_ble_eq_true rfl, Nat.le_of_ble_eq_true rfl⟩) (pre_V X hw _ ha_x rfl (by decide) rfl) rfl rfl hl.1 rfl (lv_room (Nat.le_of_ble_eq_true rfl)) dX12_silk_18 ⟨Nat.le_of_ble_eq_true rfl, Nat.le_of_ble_eq_true rfl⟩) 0 0 (Nat.le_of_ble_eq_true rfl) (Nat.le_of_ble_eq_true rfl) (fun rr_14 S_15 H locs hp hw hfr hnw => ?_)
      obtain ⟨e2, hp⟩ := hp
      subst e2
      obtain ⟨fo_16, fo_17, fo_18⟩ := hp
      refine lv_iadd X.1 X.2.1 dX12_silk_21 ?_
      refine lv_topi (fun v_19 ev_19 => ?_)
      have rg_20 := And.intro (z_lo v_19) (z_hi v_19)
      refine lv_istore (lv' := [(4, .int (v_19)), (5, .int (i5_3)), (0, .ref x), (1, .int (a1)), (2, .int (a2)), (3, .int (a3))]) X.1 X.2.1 dX12_silk_22 hl (by decide) rfl (fun ls hl => ?_)
      obtain ⟨x_21, ex_21⟩ : ∃ y : Int32, y = i5_3 + 1 := ⟨_, rfl⟩
      have z_22 : x_21.toInt = i5_3_z + 1 := z_add ex_21 hz_i5_3 ti_1 (by omega) (by omega)
      refine lv_iinc (v := x_21) (lv' := [(5, .int (x_21)), (4, .int (v_19)), (0, .ref x), (1, .int (a1)), (2, .int (a2)), (3, .int (a3))]) X.1 X.2.1 dX12_silk_24 hl (k := 1) rfl (by rw [ex_21]; rfl) (by decide) rfl (fun ls hl => ?_)
      refine lv_goto (tgt := 6) X.1 X.2.1 dX12_silk_27 (by decide) ?_
      exact ih_L_1 _ (by omega) _ _ _ (v_19) (v_19.toInt) (x_21) (x_21.toInt) rfl hw rfl rfl (by omega) (by rw [show (x_21.toInt - a2_z).toNat = (i5_3_z - a2_z).toNat + 1 by omega, slZ_s (show a2_z + (((i5_3_z - a2_z).toNat : Nat) : Int) = i5_3_z by omega), ← iv_4, ev_19]; exact congrArg (fun y => i4_2 + y) (oi_o fo_18)) (by omega) (by omega) (lv_sub hl [1, 0, 2, 3, 4, 5] rfl)
  exact L_1 _ _ _ _ (0) (0) (a2) (a2_z) rfl hw ti_0 hz_a2 (by omega) (by rw [show (a2_z - a2_z).toNat = 0 by omega]; rfl) (by omega) (by omega) (lv_sub hl [1, 0, 2, 3, 4, 5] rfl)
