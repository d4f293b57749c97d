
set_option maxHeartbeats 4000000 in
set_option maxRecDepth 100000 in
theorem k_X12_fineAt7 (l : Launch) (G : va_G) (cy : Nat → ClassId) (κ : Nat → Nat) (S : PS) (sz : Nat) (x : Nat) (a1 : Int32) (a1_z : Int) (t : Mt) (hG : GX S) (ha_x : At S x 12) (hz_a1 : a1.toInt = a1_z) (hp_0 : 0 ≤ a1_z) (hp_1 : a1_z ≤ 13199) (hp_2 : MI S x) (hp_3 : MtR S x a1_z.toNat t) : Ci l yX12_fineAt wsX12_fineAt ({ frames := 4, cells := 0, slots := 0, locals := 192 }) G cy κ S sz [.ref x, .int (a1)] (fun (r : Int32) (S9 : PS) => S = S9 ∧ (-2147483648 ≤ r.toInt ∧ r.toInt ≤ 2147483647 ∧ r = mtZ S x t)) := by
  refine ent_m (cc := cX12_fineAt) (maxL := 4) (ret := (some .int)) (by decide) rfl (Nat.le_of_ble_eq_true rfl) ?_
  intro p e s m below meth c ls X hr hlocks hin hw hl hsz
  subst hsz
  have X : Cx p c cX12_fineAt 4 s [.ref x, .int (a1)].toArray wsX12_fineAt RX12 m G cy κ (AS S s.heap.size) := X
  have hl : lv_has ls 4 [(0, .ref x), (1, .int (a1))] := hl
  have rg_a1 : (-2147483648) ≤ a1_z ∧ a1_z ≤ 2147483647 := by rw [← hz_a1]; exact ⟨z_lo _, z_hi _⟩
  generalize hQQ : MQ below _ _ _ _ _ _ = QQ
  replace hQQ := hQQ.symm
  refine lv_iconst (v := 0) X.1 X.2.1 dX12_fineAt_0 (by decide) ?_
  refine lv_istore_n (lv' := [(2, .int 0), (0, .ref x), (1, .int (a1))]) X.1 X.2.1 dX12_fineAt_1 rfl hl (by decide) rfl (fun ls hl => ?_)
  refine lv_iconst (v := 0) X.1 X.2.1 dX12_fineAt_2 (by decide) ?_
  refine lv_istore_n (lv' := [(3, .int 0), (2, .int 0), (0, .ref x), (1, .int (a1))]) X.1 X.2.1 dX12_fineAt_3 rfl hl (by decide) rfl (fun ls hl => ?_)
  have L_1 : ∀ (n : Nat) (H : Heap) (locs : List Loc) (ls : Array Slot) (i2_2 : Int32) (i2_2_z : Int) (i3_3 : Int32) (i3_3_z : Int), ((12 - i3_3_z).toNat = n) → (Wd G cy (AS S s.heap.size) s.heap S H locs) → (i2_2.toInt = i2_2_z) → (i3_3.toInt = i3_3_z) → (0 ≤ i3_3_z ∧ i3_3_z ≤ 12) → ((i2_2) = mtZ S x (t.take (i3_3_z).toNat)) → (i3_3_z ≤ (t.length : Int)) → (lv_has ls 4 [(2, .int (i2_2)), (3, .int (i3_3)), (0, .ref x), (1, .int (a1))]) → W p l e ({ frames := 4, cells := 0, slots := 0, locals := 192 }) s m [.ref x, .int (a1)].toArray below meth c H locs 0 0 QQ (F0 m 4 ls []) := by
    intro n
    induction n using Nat.strongRecOn with
    | ind n ih_L_1 =>
    intro H locs ls i2_2 i2_2_z i3_3 i3_3_z hn hw hz_i2_2 hz_i3_3 hr_i3_3 iv_4 iv_5 hl
    have rg_6 : (-2147483648) ≤ i2_2_z ∧ i2_2_z ≤ 2147483647 := by rw [← hz_i2_2]; exact ⟨z_lo _, z_hi _⟩
    have rg_7 : (-2147483648) ≤ i3_3_z ∧ i3_3_z ≤ 2147483647 := by rw [← hz_i3_3]; exact ⟨z_lo _, z_hi _⟩
    refine lv_iload_n X.1 X.2.1 dX12_fineAt_4 rfl (lv_at hl 1 rfl) ?_
    refine lv_aload_n X.1 X.2.1 dX12_fineAt_5 rfl (lv_at hl 2 rfl) ?_
    obtain ⟨q_8, h_9, h_10, h_11⟩ := gQ_12_1235 hG ha_x
    refine r_getR (g := 1235) X hw ha_x rfl 35 h_9 (by decide) rfl inn_X12_fineAt_12 (by decide) (X.2.2.2.1 (.fieldLink RX12 90 "SilkMillModel" "metreEnds" "[I") (by decide +kernel)) rfl (gv_1235 _ _) dX12_fineAt_6 ?_
    refine lv_iload_n X.1 X.2.1 dX12_fineAt_9 rfl (lv_at hl 3 rfl) ?_
    refine r_iald X hw h_10 rfl (by rw [h_11]; exact z_ix hz_a1 (by omega) (by omega)) dX12_fineAt_10 ?_
    refine lv_topi (fun v_12 ev_12 => ?_)
    have z_13 := gE_914 hG h_10 (Int32.toNatClampNeg (a1)); rw [← ev_12] at z_13
    have ev_12 := ev_12.symm
    have zf_14 : zA S x 1235 (a1_z).toNat = v_12.toInt := (zA_of h_9 hz_a1 (by omega) ev_12)
    have fl_15 : v_12.toInt = (t.length : Int) := by rw [← hp_3.1, ← zf_14]
    refine lv_icmp_ge (tgt := 57) X.1 X.2.1 dX12_fineAt_11 (by decide) (fun c_16 => ?_) (fun c_16 => ?_)
    · have z_b_17 := trivial
      have k_18 : i3_3_z ≥ v_12.toInt := z_le rfl hz_i3_3 c_16
      refine lv_iload_n X.1 X.2.1 dX12_fineAt_57 rfl (lv_at hl 0 rfl) ?_
      rw [hQQ]
      exact ret_i X hw hr hlocks (Nat.le_of_ble_eq_true rfl) (Nat.le_of_ble_eq_true rfl) ⟨rfl, ⟨z_lo _, z_hi _, by rw [iv_4, show (i3_3_z).toNat = t.length by omega, List.take_length]⟩⟩ dX12_fineAt_58
    · have z_b_19 := trivial
      have k_20 : i3_3_z < v_12.toInt := z_nle rfl hz_i3_3 c_16
      refine lv_iload_n X.1 X.2.1 dX12_fineAt_14 rfl (lv_at hl 0 rfl) ?_
      refine lv_aload_n X.1 X.2.1 dX12_fineAt_15 rfl (lv_at hl 2 rfl) ?_
      refine lv_aload_n X.1 X.2.1 dX12_fineAt_16 rfl (lv_at hl 2 rfl) ?_
      obtain ⟨q_21, h_22, h_23, h_24⟩ := gQ_12_1236 hG ha_x
      refine r_getR (g := 1236) X hw ha_x rfl 36 h_22 (by decide) rfl inn_X12_fineAt_12 (by decide) (X.2.2.2.1 (.fieldLink RX12 94 "SilkMillModel" "drawn" "[I") (by decide +kernel)) rfl (gv_1236 _ _) dX12_fineAt_17 ?_
      refine lv_bipush (v := 12) X.1 X.2.1 dX12_fineAt_20 (by decide) ?_
      refine lv_iload_n X.1 X.2.1 dX12_fineAt_22 rfl (lv_at hl 3 rfl) ?_
      refine lv_imul X.1 X.2.1 dX12_fineAt_23 ?_
      refine lv_topi (fun v_25 ev_25 => ?_)
      have z_26 : v_25.toInt = 12 * a1_z := z_mul ev_25 ti_12 hz_a1 (by omega) (by omega)
      refine lv_iload_n X.1 X.2.1 dX12_fineAt_24 rfl (lv_at hl 1 rfl) ?_
      refine lv_iadd X.1 X.2.1 dX12_fineAt_25 ?_
      refine lv_topi (fun v_27 ev_27 => ?_)
      have z_28 : v_27.toInt = (12 * a1_z) + i3_3_z := z_add ev_27 z_26 hz_i3_3 (by omega) (by omega)
      refine r_iald X hw h_23 rfl (by rw [h_24]; exact z_ix z_28 (by omega) (by omega)) dX12_fineAt_26 ?_
      refine lv_topi (fun v_29 ev_29 => ?_)
      have z_30 := gE_934 hG h_23 (Int32.toNatClampNeg (v_27)); rw [← ev_29] at z_30
      have ev_29 := ev_29.symm
      have zf_31 : zA S x 1236 (((12 * a1_z) + i3_3_z)).toNat = v_29.toInt := (zA_of h_22 z_28 (by omega) ev_29)
      obtain ⟨fz_32, fz_33⟩ : ∃ z, t[(i3_3_z).toNat]? = some z := ⟨_, List.getElem?_eq_getElem (by omega)⟩
      obtain ⟨fz_34, fz_35, fz_36⟩ := hp_3.2 _ _ fz_33
      have fz_37 : v_29.toInt = 1000 * (fz_32.1 : Int) + fz_32.2.toInt := by rw [← fz_34, ← zf_31]; congr 1; omega
      have zf_38 : zA S x 1236 (((12 * a1_z) + i3_3_z)).toNat = v_29.toInt := (zA_of h_22 z_28 (by omega) ev_29)
      have m6_39 := MI_6 hp_2 (j := ((12 * a1_z) + i3_3_z)) (by omega) (by omega); rw [zf_38] at m6_39
      obtain ⟨d_40, d_41, d_42, d_43, d_44⟩ := dr_ok (u := v_29.toInt) (by omega) m6_39 (lenZ_ge S x (v_29.toInt / 1000)) (lenZ_le hG ha_x (v_29.toInt / 1000))
      clear m6_39 zf_38
      refine lv_sipush (v := 1000) X.1 X.2.1 dX12_fineAt_27 (by decide) ?_
      refine lv_idiv X.1 X.2.1 dX12_fineAt_30 (by decide) ?_
      refine lv_topi (fun v_45 ev_45 => ?_)
      have z_46 : v_45.toInt = v_29.toInt / 1000 := z_div ev_45 rfl ti_1000 (by omega) (by omega)
      refine lv_aload_n X.1 X.2.1 dX12_fineAt_31 rfl (lv_at hl 2 rfl) ?_
      refine r_getR (g := 1236) X hw ha_x rfl 36 h_22 (by decide) rfl inn_X12_fineAt_12 (by decide) (X.2.2.2.1 (.fieldLink RX12 94 "SilkMillModel" "drawn" "[I") (by decide +kernel)) rfl (gv_1236 _ _) dX12_fineAt_32 ?_
      refine lv_bipush (v := 12) X.1 X.2.1 dX12_fineAt_35 (by decide) ?_
      refine lv_iload_n X.1 X.2.1 dX12_fineAt_37 rfl (lv_at hl 3 rfl) ?_
      refine lv_imul X.1 X.2.1 dX12_fineAt_38 ?_
      refine lv_topi (fun v_47 ev_47 => ?_)
      have z_48 : v_47.toInt = 12 * a1_z := z_mul ev_47 ti_12 hz_a1 (by omega) (by omega)
      refine lv_iload_n X.1 X.2.1 dX12_fineAt_39 rfl (lv_at hl 1 rfl) ?_
      refine lv_iadd X.1 X.2.1 dX12_fineAt_40 ?_
      refine lv_topi (fun v_49 ev_49 => ?_)
      have z_50 : v_49.toInt = (12 * a1_z) + i3_3_z := z_add ev_49 z_48 hz_i3_3 (by omega) (by omega)
      refine r_iald X hw h_23 rfl (by rw [h_24]; exact z_ix z_50 (by omega) (by omega)) dX12_fineAt_41 ?_
      rw [show (Int32.toNatClampNeg (v_49)) = (Int32.toNatClampNeg (v_27)) from (z_nc z_50 (by omega)).trans (z_nc z_28 (by omega)).symm]
      rw [ev_29]
      refine lv_sipush (v := 1000) X.1 X.2.1 dX12_fineAt_42 (by decide) ?_
      refine lv_irem X.1 X.2.1 dX12_fineAt_45 (by decide) ?_
      refine lv_topi (fun v_51 ev_51 => ?_)
      have z_52 : v_51.toInt = v_29.toInt % 1000 := z_rem ev_51 rfl ti_1000 (by omega) (by omega)
      have z_53 : 0 ≤ v_51.toInt ∧ v_51.toInt < 1000 := by rw [z_52]; exact ⟨Int.emod_nonneg _ (by omega), Int.emod_lt_of_pos _ (by omega)⟩
      refine k_i (rm := { frames := 3, cells := 0, slots := 0, locals := 144 }) (av := [.ref x, .int (v_45), .int (v_51)]) X hw (va_runV (As := [.int (v_45), .int (v_51)]) (rest := [.int (i2_2)]) (cfix X) (k_X12_fineOf2 l G cy κ S _ x (v_45) ((v_29.toInt / 1000)) (v_51) ((v_29.toInt % 1000)) hG ha_x z_46 z_52 (by first | assumption | omega) (by first | assumption | omega) (by first | assumption | omega) (by first | assumption | omega) (by first | assumption | omega)) (cwV 2 X.2.2.2.1 gX12_fineAt_X12_fineOf rfl rfl rfl (by decide +kernel) ⟨Nat.le_of_ble_eq_true rfl, Nat.le_of_ble_eq_true rfl⟩) (pre_V X hw _ ha_x rfl (by decide) rfl) rfl rfl hl.1 rfl (lv_room (Nat.le_of_ble_eq_true rfl)) dX12_fineAt_46 ⟨Nat.le_of_ble_eq_true rfl, Nat.le_of_ble_eq_true rfl⟩) 0 0 (Nat.le_of_ble_eq_true rfl) (Nat.le_of_ble_eq_true rfl) (fun rr_54 S_55 H locs hp hw hfr hnw => ?_)
      obtain ⟨e2, hp⟩ := hp
      subst e2
      obtain ⟨fo_56, fo_57, fo_58⟩ := hp
      have rg_59 := And.intro (z_lo rr_54) (z_hi rr_54)
      refine lv_iadd X.1 X.2.1 dX12_fineAt_49 ?_
      refine lv_topi (fun v_60 ev_60 => ?_)
      have rg_61 := And.intro (z_lo v_60) (z_hi v_60)
      refine lv_istore_n (lv' := [(2, .int (v_60)), (3, .int (i3_3)), (0, .ref x), (1, .int (a1))]) X.1 X.2.1 dX12_fineAt_50 rfl hl (by decide) rfl (fun ls hl => ?_)
      obtain ⟨x_62, ex_62⟩ : ∃ y : Int32, y = i3_3 + 1 := ⟨_, rfl⟩
      have z_63 : x_62.toInt = i3_3_z + 1 := z_add ex_62 hz_i3_3 ti_1 (by omega) (by omega)
      refine lv_iinc (v := x_62) (lv' := [(3, .int (x_62)), (2, .int (v_60)), (0, .ref x), (1, .int (a1))]) X.1 X.2.1 dX12_fineAt_51 hl (k := 1) rfl (by rw [ex_62]; rfl) (by decide) rfl (fun ls hl => ?_)
      refine lv_goto (tgt := 4) X.1 X.2.1 dX12_fineAt_54 (by decide) ?_
      have fe_64 : rr_54 = Int32.ofInt (fnZ S x (fz_32.1 : Int) fz_32.2.toInt) := oi_of (by rw [fo_58, show ((v_29.toInt / 1000) : Int) = (fz_32.1 : Int) by omega, show ((v_29.toInt % 1000) : Int) = fz_32.2.toInt by omega])
      exact ih_L_1 _ (by omega) _ _ _ (v_60) (v_60.toInt) (x_62) (x_62.toInt) rfl hw rfl rfl (by omega) (by rw [show (x_62.toInt).toNat = (i3_3_z).toNat + 1 by omega, mtZ_s fz_33, ← iv_4, ← fe_64]; exact ev_60) (by omega) (lv_sub hl [1, 0, 2, 3] rfl)
  exact L_1 _ _ _ _ (0) (0) (0) (0) rfl hw ti_0 ti_0 (by omega) rfl (by omega) (lv_sub hl [1, 0, 2, 3] rfl)
set_option maxHeartbeats 4000000 in
set_option maxRecDepth 100000 in
theorem k_X12_metre7 (l : Launch) (G : va_G) (cy : Nat → ClassId) (κ : Nat → Nat) (S : PS) (sz : Nat) (x : Nat) (a1 : Int32) (a1_z : Int) (a2 : Int32) (a2_z : Int) (a3 : Int32) (a3_z : Int) (Ls : List Sk) (hG : GX S) (ha_x : At S x 12) (hz_a1 : a1.toInt = a1_z) (hz_a2 : a2.toInt = a2_z) (hz_a3 : a3.toInt = a3_z) (hp_0 : MI S x) (hp_1 : SkW S x Ls) : Ci l yX12_metre wsX12_metre ({ frames := 5, cells := 0, slots := 0, locals := 240 }) G cy κ S sz [.ref x, .int (a1), .int (a2), .int (a3)] (fun (r : Int32) (S9 : PS) => Ok MN S S9 ∧ (-2147483648 ≤ r.toInt ∧ r.toInt ≤ 2147483647 ∧ (∀ s t, 0 ≤ a1_z → Ls[a1_z.toNat]? = some s → 0 ≤ a2_z → s.2.2.2[a2_z.toNat]? = some t → r.toInt = meF (mtZ S x t) (t.length : Int) a3_z) ∧ (¬ MeI Ls a1_z a2_z → r.toInt = -1))) := by
  refine ent_m (cc := cX12_metre) (maxL := 4) (ret := (some .int)) (by decide) rfl (Nat.le_of_ble_eq_true rfl) ?_
  intro p e s m below meth c ls X hr hlocks hin hw hl hsz
  subst hsz
  have X : Cx p c cX12_metre 4 s [.ref x, .int (a1), .int (a2), .int (a3)].toArray wsX12_metre RX12 m G cy κ (AS S s.heap.size) := X
  have hl : lv_has ls 4 [(0, .ref x), (1, .int (a1)), (2, .int (a2)), (3, .int (a3))] := hl
  have rg_a1 : (-2147483648) ≤ a1_z ∧ a1_z ≤ 2147483647 := by rw [← hz_a1]; exact ⟨z_lo _, z_hi _⟩
  have rg_a2 : (-2147483648) ≤ a2_z ∧ a2_z ≤ 2147483647 := by rw [← hz_a2]; exact ⟨z_lo _, z_hi _⟩
  have rg_a3 : (-2147483648) ≤ a3_z ∧ a3_z ≤ 2147483647 := by rw [← hz_a3]; exact ⟨z_lo _, z_hi _⟩
  have hO : Ok MN S S := Ok.rf hG
  obtain ⟨v_1, ev_1⟩ : ∃ v, pI S 1238 x = v := ⟨_, rfl⟩
  have rg_2 := gI_12_1238 hO.1 ha_x; rw [ev_1] at rg_2
  have pz_3 : (pI S 1238 x).toInt = v_1.toInt := by rw [ev_1]
  have pz_4 : (pI S 1238 x).toInt = v_1.toInt := (congrArg Int32.toInt ev_1).trans rfl
  refine lv_aload_n X.1 X.2.1 dX12_metre_0 rfl (lv_at hl 0 rfl) ?_
  refine lv_iconst (v := 0) X.1 X.2.1 dX12_metre_1 (by decide) ?_
  refine r_putI (v := 0) X hw ha_x rfl 0 1200 tyX12 (by decide) rfl inn_X12_metre_12 tyX12_ok nmX12 (by decide) (X.2.2.2.1 (.fieldLink RX12 161 "SilkMillModel" "thrown" "I") (by decide +kernel)) rfl (Or.inl rfl) rfl rfl (Nat.le_of_ble_eq_true rfl) (st_1200 _ _) dX12_metre_2 (fun H locs hw => ?_)
  obtain ⟨S_5, eS_5⟩ : ∃ T, T = sI S 1200 x (0) := ⟨_, rfl⟩
  rw [← eS_5] at hw
  have hO_6 : Ok MN S S_5 := hO.sI eS_5 (by decide +kernel) (uI_12_1200 hO.1 ha_x)
  have h_7 : pI S_5 1200 x = 0 := tI_sIs eS_5
  refine lv_aload_n X.1 X.2.1 dX12_metre_5 rfl (lv_at hl 0 rfl) ?_
  refine lv_iload_n X.1 X.2.1 dX12_metre_6 rfl (lv_at hl 1 rfl) ?_
  have t_8 : pI S_5 1238 x = v_1 := tI_sI eS_5 rfl ev_1
  have pz_9 : (pI S_5 1238 x).toInt = v_1.toInt := (congrArg Int32.toInt t_8).trans rfl
  have t_10 : At S_5 x 12 := tAt_sI eS_5 ha_x
  refine k_i (rm := { frames := 2, cells := 0, slots := 0, locals := 96 }) (av := [.ref x, .int (a1)]) X hw (va_runV (As := [.int (a1)]) (rest := []) (cfix X) (k_X12_isSkein7 l G cy κ S_5 _ x (a1) (a1_z) hO_6.1 t_10 hz_a1) (cwV 1 X.2.2.2.1 gX12_metre_X12_isSkein rfl rfl rfl (by decide +kernel) ⟨Nat.le_of_ble_eq_true rfl, Nat.le_of_ble_eq_true rfl⟩) (pre_V X hw _ t_10 rfl (by decide) rfl) rfl rfl hl.1 rfl (lv_room (Nat.le_of_ble_eq_true rfl)) dX12_metre_7 ⟨Nat.le_of_ble_eq_true rfl, Nat.le_of_ble_eq_true rfl⟩) 0 0 (Nat.le_of_ble_eq_true rfl) (Nat.le_of_ble_eq_true rfl) (fun rr_11 S_12 H locs hp hw hfr hnw => ?_)
  obtain ⟨e2, hp⟩ := hp
  subst e2
  rcases hp with ⟨f_13, er_14⟩ | ⟨f_13, er_14⟩ <;> subst er_14
  · have z_b_15 := trivial
    refine lv_if_eq (tgt := 28) X.1 X.2.1 dX12_metre_10 (by decide) (fun c_16 => absurd c_16 (by decide)) (fun c_16 => ?_)
    refine lv_iload_n X.1 X.2.1 dX12_metre_13 rfl (lv_at hl 2 rfl) ?_
    refine lv_iconst (v := 0) X.1 X.2.1 dX12_metre_14 (by decide) ?_
    refine lv_aload_n X.1 X.2.1 dX12_metre_15 rfl (lv_at hl 0 rfl) ?_
    refine lv_iload_n X.1 X.2.1 dX12_metre_16 rfl (lv_at hl 1 rfl) ?_
    have kl_22 := hp_1.1
    have pz_23 : (pI S_5 1238 x).toInt = v_1.toInt := (congrArg Int32.toInt t_8).trans rfl
    obtain ⟨s_17, hs_18⟩ : ∃ s, Ls[a1_z.toNat]? = some s := ⟨_, List.getElem?_eq_getElem (by omega)⟩
    obtain ⟨sr_19, sr_20, sr_21⟩ := hp_1.2 _ _ hs_18
    have z9_24 : zA S_5 x 1239 a1_z.toNat = zA S x 1239 a1_z.toNat := congrFun (zA_sI eS_5) _
    have z9_25 : zA S_5 x 1239 (a1_z + 1).toNat = zA S x 1239 (a1_z + 1).toNat := congrFun (zA_sI eS_5) _
    have z9_26 : zA S x 1239 (a1_z + 1).toNat = zA S x 1239 (a1_z.toNat + 1) := by rw [show (a1_z + 1).toNat = a1_z.toNat + 1 by omega]
    refine k_i (rm := { frames := 1, cells := 0, slots := 0, locals := 48 }) (av := [.ref x, .int (a1)]) X hw (va_runV (As := [.int (a1)]) (rest := [.int 0, .int (a2)]) (cfix X) (k_X12_metres l G cy κ S_5 _ x (a1) (a1_z) hO_6.1 t_10 hz_a1 (by first | assumption | omega) (by first | assumption | omega) (by first | assumption | omega) (MIe_free hG ha_x hO_6.fr (by decide +kernel) hp_0)) (cwV 1 X.2.2.2.1 gX12_metre_X12_metres rfl rfl rfl (by decide +kernel) ⟨Nat.le_of_ble_eq_true rfl, Nat.le_of_ble_eq_true rfl⟩) (pre_V X hw _ t_10 rfl (by decide) rfl) rfl rfl hl.1 rfl (lv_room (Nat.le_of_ble_eq_true rfl)) dX12_metre_17 ⟨Nat.le_of_ble_eq_true rfl, Nat.le_of_ble_eq_true rfl⟩) 0 0 (Nat.le_of_ble_eq_true rfl) (Nat.le_of_ble_eq_true rfl) (fun rr_27 S_28 H locs hp hw hfr hnw => ?_)
    obtain ⟨e2, hp⟩ := hp
    subst e2
    obtain ⟨f_29, f_30, f_31⟩ := hp
    refine lv_iconst (v := 1) X.1 X.2.1 dX12_metre_20 (by decide) ?_
    refine lv_isub X.1 X.2.1 dX12_metre_21 ?_
    refine lv_topi (fun v_32 ev_32 => ?_)
    have z_33 : v_32.toInt = rr_27.toInt - 1 := z_sub ev_32 rfl ti_1 (by omega) (by omega)
    refine k_i (rm := { frames := 1, cells := 0, slots := 0, locals := 48 }) (av := [.int (a2), .int 0, .int (v_32)]) X hw (va_runS (As := [.int (a2), .int 0, .int (v_32)]) (rest := []) (cfix X) (k_X12_within l G cy κ S_5 _ (a2) (a2_z) (0) (0) (v_32) ((rr_27.toInt - 1)) hO_6.1 hz_a2 ti_0 z_33) (cwS 3 X.2.2.2.1 gX12_metre_X12_within rfl rfl rfl (by decide +kernel) ⟨Nat.le_of_ble_eq_true rfl, Nat.le_of_ble_eq_true rfl⟩) (pre_S X hw _) rfl rfl hl.1 rfl (lv_room (Nat.le_of_ble_eq_true rfl)) dX12_metre_22 ⟨Nat.le_of_ble_eq_true rfl, Nat.le_of_ble_eq_true rfl⟩) 0 0 (Nat.le_of_ble_eq_true rfl) (Nat.le_of_ble_eq_true rfl) (fun rr_34 S_35 H locs hp hw hfr hnw => ?_)
    obtain ⟨e2, hp⟩ := hp
    subst e2
    rcases hp with ⟨f_36, er_37⟩ | ⟨f_36, er_37⟩ <;> subst er_37
    · have z_b_38 := trivial
      refine lv_if_ne (tgt := 30) X.1 X.2.1 dX12_metre_25 (by decide) (fun c_39 => ?_) (fun c_39 => absurd c_39 (by decide))
      refine lv_iload_n X.1 X.2.1 dX12_metre_30 rfl (lv_at hl 3 rfl) ?_
      refine lv_if_ne (tgt := 49) X.1 X.2.1 dX12_metre_31 (by decide) (fun c_40 => ?_) (fun c_40 => ?_)
      · have z_b_41 := trivial
        have k_42 : a3_z ≠ 0 := z_ne hz_a3 ti_0 c_40
        refine lv_iload_n X.1 X.2.1 dX12_metre_49 rfl (lv_at hl 3 rfl) ?_
        refine lv_iconst (v := 1) X.1 X.2.1 dX12_metre_50 (by decide) ?_
        refine lv_icmp_ne (tgt := 70) X.1 X.2.1 dX12_metre_51 (by decide) (fun c_43 => ?_) (fun c_43 => ?_)
        · have z_b_44 := trivial
          have k_45 : a3_z ≠ 1 := z_ne hz_a3 ti_1 c_43
          refine lv_iconst (v := (-1)) X.1 X.2.1 dX12_metre_70 (by decide) ?_
          obtain ⟨t_46, ht_47⟩ : ∃ t, s_17.2.2.2[a2_z.toNat]? = some t := ⟨_, List.getElem?_eq_getElem (by omega)⟩
          exact ret_i X hw hr hlocks (Nat.le_of_ble_eq_true rfl) (Nat.le_of_ble_eq_true rfl) ⟨hO_6, ⟨z_lo _, z_hi _, fun s t h0 h1 h2 h3 => (by rw [hs_18] at h1; cases h1; rw [ht_47] at h3; cases h3; rw [meF_d (by omega) (by omega)]; decide), fun h => absurd ⟨s_17, t_46, by omega, hs_18, by omega, ht_47⟩ h⟩⟩ dX12_metre_71
        · have z_b_48 := trivial
          have k_49 : a3_z = 1 := z_eq hz_a3 ti_1 c_43
          refine lv_aload_n X.1 X.2.1 dX12_metre_54 rfl (lv_at hl 0 rfl) ?_
          obtain ⟨q_50, h_51, h_52, h_53⟩ := gQ_12_1235 hO_6.1 t_10
          refine r_getR (g := 1235) X hw t_10 rfl 35 h_51 (by decide) rfl inn_X12_metre_12 (by decide) (X.2.2.2.1 (.fieldLink RX12 90 "SilkMillModel" "metreEnds" "[I") (by decide +kernel)) rfl (gv_1235 _ _) dX12_metre_55 ?_
          refine lv_aload_n X.1 X.2.1 dX12_metre_58 rfl (lv_at hl 0 rfl) ?_
          obtain ⟨q_54, h_55, h_56, h_57⟩ := gQ_12_1239 hO_6.1 t_10
          refine r_getR (g := 1239) X hw t_10 rfl 39 h_55 (by decide) rfl inn_X12_metre_12 (by decide) (X.2.2.2.1 (.fieldLink RX12 100 "SilkMillModel" "firstMetre" "[I") (by decide +kernel)) rfl (gv_1239 _ _) dX12_metre_59 ?_
          refine lv_iload_n X.1 X.2.1 dX12_metre_62 rfl (lv_at hl 1 rfl) ?_
          refine r_iald X hw h_56 rfl (by rw [h_57]; exact z_ix hz_a1 (by omega) (by omega)) dX12_metre_63 ?_
          refine lv_topi (fun v_58 ev_58 => ?_)
          have z_59 := gE_994 hO_6.1 h_56 (Int32.toNatClampNeg (a1)); rw [← ev_58] at z_59
          have ev_58 := ev_58.symm
          have zf_60 : zA S_5 x 1239 (a1_z).toNat = v_58.toInt := (zA_of h_55 hz_a1 (by omega) ev_58)
          refine lv_iload_n X.1 X.2.1 dX12_metre_64 rfl (lv_at hl 2 rfl) ?_
          refine lv_iadd X.1 X.2.1 dX12_metre_65 ?_
          refine lv_topi (fun v_61 ev_61 => ?_)
          have z_62 : v_61.toInt = v_58.toInt + a2_z := z_add ev_61 rfl hz_a2 (by omega) (by omega)
          refine r_iald X hw h_52 rfl (by rw [h_53]; exact z_ix z_62 (by omega) (by omega)) dX12_metre_66 ?_
          refine lv_topi (fun v_63 ev_63 => ?_)
          have z_64 := gE_914 hO_6.1 h_52 (Int32.toNatClampNeg (v_61)); rw [← ev_63] at z_64
          have ev_63 := ev_63.symm
          have zf_65 : zA S_5 x 1235 ((v_58.toInt + a2_z)).toNat = v_63.toInt := (zA_of h_51 z_62 (by omega) ev_63)
          refine lv_goto (tgt := 71) X.1 X.2.1 dX12_metre_67 (by decide) ?_
          obtain ⟨t_66, ht_67⟩ : ∃ t, s_17.2.2.2[a2_z.toNat]? = some t := ⟨_, List.getElem?_eq_getElem (by omega)⟩
          have g5_68 : v_63.toInt = (t_66.length : Int) := by have h := (sr_21 _ _ ht_67).1; rw [← h, show (zA S x 1239 a1_z.toNat).toNat + a2_z.toNat = ((v_58.toInt + a2_z)).toNat by omega, ← congrFun (zA_sI eS_5) _]; exact zf_65.symm
          exact ret_i X hw hr hlocks (Nat.le_of_ble_eq_true rfl) (Nat.le_of_ble_eq_true rfl) ⟨hO_6, ⟨z_lo _, z_hi _, fun s t h0 h1 h2 h3 => (by rw [hs_18] at h1; cases h1; rw [ht_67] at h3; cases h3; rw [meF_1 (by omega)]; have e1 : (v_63 : Int32).toInt = v_63.toInt := rfl; omega), fun h => absurd ⟨s_17, t_66, by omega, hs_18, by omega, ht_67⟩ h⟩⟩ dX12_metre_71
      · have z_b_69 := trivial
        have k_70 : a3_z = 0 := z_eq hz_a3 ti_0 c_40
        refine lv_aload_n X.1 X.2.1 dX12_metre_34 rfl (lv_at hl 0 rfl) ?_
        refine lv_aload_n X.1 X.2.1 dX12_metre_35 rfl (lv_at hl 0 rfl) ?_
        obtain ⟨q_71, h_72, h_73, h_74⟩ := gQ_12_1239 hO_6.1 t_10
        refine r_getR (g := 1239) X hw t_10 rfl 39 h_72 (by decide) rfl inn_X12_metre_12 (by decide) (X.2.2.2.1 (.fieldLink RX12 100 "SilkMillModel" "firstMetre" "[I") (by decide +kernel)) rfl (gv_1239 _ _) dX12_metre_36 ?_
        refine lv_iload_n X.1 X.2.1 dX12_metre_39 rfl (lv_at hl 1 rfl) ?_
        refine r_iald X hw h_73 rfl (by rw [h_74]; exact z_ix hz_a1 (by omega) (by omega)) dX12_metre_40 ?_
        refine lv_topi (fun v_75 ev_75 => ?_)
        have z_76 := gE_994 hO_6.1 h_73 (Int32.toNatClampNeg (a1)); rw [← ev_75] at z_76
        have ev_75 := ev_75.symm
        have zf_77 : zA S_5 x 1239 (a1_z).toNat = v_75.toInt := (zA_of h_72 hz_a1 (by omega) ev_75)
        refine lv_iload_n X.1 X.2.1 dX12_metre_41 rfl (lv_at hl 2 rfl) ?_
        refine lv_iadd X.1 X.2.1 dX12_metre_42 ?_
        refine lv_topi (fun v_78 ev_78 => ?_)
        have z_79 : v_78.toInt = v_75.toInt + a2_z := z_add ev_78 rfl hz_a2 (by omega) (by omega)
        obtain ⟨t_80, ht_81⟩ : ∃ t, s_17.2.2.2[a2_z.toNat]? = some t := ⟨_, List.getElem?_eq_getElem (by omega)⟩
        refine k_i (rm := { frames := 4, cells := 0, slots := 0, locals := 192 }) (av := [.ref x, .int (v_78)]) X hw (va_runV (As := [.int (v_78)]) (rest := []) (cfix X) (k_X12_fineAt7 l G cy κ S_5 _ x (v_78) ((v_75.toInt + a2_z)) t_80 hO_6.1 t_10 z_79 (by omega) (by omega) (MIe_free hG ha_x hO_6.fr (by decide +kernel) hp_0) (MtR_eq (zA_sI eS_5) (zA_sI eS_5) (by rw [show ((v_75.toInt + a2_z)).toNat = (zA S x 1239 a1_z.toNat).toNat + a2_z.toNat by omega]; exact sr_21 _ _ ht_81))) (cwV 1 X.2.2.2.1 gX12_metre_X12_fineAt rfl rfl rfl (by decide +kernel) ⟨Nat.le_of_ble_eq_true rfl, Nat.le_of_ble_eq_true rfl⟩) (pre_V X hw _ t_10 rfl (by decide) rfl) rfl rfl hl.1 rfl (lv_room (Nat.le_of_ble_eq_true rfl)) dX12_metre_43 ⟨Nat.le_of_ble_eq_true rfl, Nat.le_of_ble_eq_true rfl⟩) 0 0 (Nat.le_of_ble_eq_true rfl) (Nat.le_of_ble_eq_true rfl) (fun rr_82 S_83 H locs hp hw hfr hnw => ?_)
        obtain ⟨e2, hp⟩ := hp
        subst e2
        obtain ⟨fa_84, fa_85, fa_86⟩ := hp
        refine lv_goto (tgt := 71) X.1 X.2.1 dX12_metre_46 (by decide) ?_
        exact ret_i X hw hr hlocks (Nat.le_of_ble_eq_true rfl) (Nat.le_of_ble_eq_true rfl) ⟨hO_6, ⟨z_lo _, z_hi _, fun s t h0 h1 h2 h3 => (by rw [hs_18] at h1; cases h1; rw [ht_81] at h3; cases h3; rw [meF_0 (by omega), fa_86, mtZ_eq (fnZ_fr hG ha_x hO_6.fr (by decide +kernel))]), fun h => absurd ⟨s_17, t_80, by omega, hs_18, by omega, ht_81⟩ h⟩⟩ dX12_metre_71
    · have z_b_87 := trivial
      refine lv_if_ne (tgt := 30) X.1 X.2.1 dX12_metre_25 (by decide) (fun c_88 => absurd c_88 (by decide)) (fun c_88 => ?_)
      refine lv_iconst (v := (-1)) X.1 X.2.1 dX12_metre_28 (by decide) ?_
      exact ret_i X hw hr hlocks (Nat.le_of_ble_eq_true rfl) (Nat.le_of_ble_eq_true rfl) ⟨hO_6, ⟨z_lo _, z_hi _, fun s t h0 h1 h2 h3 => (by exfalso; rw [hs_18] at h1; cases h1; have := (List.getElem?_eq_some_iff.mp h3).1; omega), fun _ => by decide⟩⟩ dX12_metre_29
  · have z_b_89 := trivial
    refine lv_if_eq (tgt := 28) X.1 X.2.1 dX12_metre_10 (by decide) (fun c_90 => ?_) (fun c_90 => absurd c_90 (by decide))
    refine lv_iconst (v := (-1)) X.1 X.2.1 dX12_metre_28 (by decide) ?_
    exact ret_i X hw hr hlocks (Nat.le_of_ble_eq_true rfl) (Nat.le_of_ble_eq_true rfl) ⟨hO_6, ⟨z_lo _, z_hi _, fun s t h0 h1 _ _ => (by exfalso; have := (List.getElem?_eq_some_iff.mp h1).1; have := hp_1.1; omega), fun _ => by decide⟩⟩ dX12_metre_29
