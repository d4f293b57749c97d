
set_option maxHeartbeats 4000000 in
set_option maxRecDepth 100000 in
theorem k_X12_pot6 (l : Launch) (G : va_G) (cy : Nat → ClassId) (κ : Nat → Nat) (S : PS) (sz : Nat) (x : Nat) (a1 : Int32) (a1_z : Int) (a2 : Int32) (a2_z : Int) (hG : GX S) (ha_x : At S x 12) (hz_a1 : a1.toInt = a1_z) (hz_a2 : a2.toInt = a2_z) : Ci l yX12_pot wsX12_pot ({ frames := 2, cells := 0, slots := 0, locals := 96 }) G cy κ S sz [.ref x, .int (a1), .int (a2)] (fun (r : Int32) (S9 : PS) => Ok MP S S9 ∧ (-2147483648 ≤ r.toInt ∧ r.toInt ≤ 2147483647 ∧ ((((pI S 1211 x).toInt < 4 ∧ 10 ≤ a1_z ∧ a1_z ≤ 2000 ∧ 1 ≤ a2_z ∧ a2_z ≤ 50) ∧ r.toInt = (pI S 1211 x).toInt ∧ (pI S9 1211 x).toInt = (pI S 1211 x).toInt + 1) ∨ (¬ (((pI S 1211 x).toInt < 4 ∧ 10 ≤ a1_z ∧ a1_z ≤ 2000 ∧ 1 ≤ a2_z ∧ a2_z ≤ 50)) ∧ r.toInt = -1 ∧ (pI S9 1211 x).toInt = (pI S 1211 x).toInt)) ∧ (((pI S 1211 x).toInt < 4 ∧ 10 ≤ a1_z ∧ a1_z ≤ 2000 ∧ 1 ≤ a2_z ∧ a2_z ≤ 50) → (∀ j, zA S9 x 1212 j = if j = (pI S 1211 x).toInt.toNat then a1_z else zA S x 1212 j) ∧ ∀ j, zA S9 x 1213 j = if j = (pI S 1211 x).toInt.toNat then a2_z else zA S x 1213 j) ∧ (¬ ((pI S 1211 x).toInt < 4 ∧ 10 ≤ a1_z ∧ a1_z ≤ 2000 ∧ 1 ≤ a2_z ∧ a2_z ≤ 50) → S9 = sI S 1200 x 0))) := by
  refine ent_m (cc := cX12_pot) (maxL := 3) (ret := (some .int)) (by decide) rfl (Nat.le_of_ble_eq_true rfl) ?_
  intro p e s m below meth c ls X hr hlocks hin hw hl hsz
  subst hsz
  have X : Cx p c cX12_pot 3 s [.ref x, .int (a1), .int (a2)].toArray wsX12_pot RX12 m G cy κ (AS S s.heap.size) := X
  have hl : lv_has ls 3 [(0, .ref x), (1, .int (a1)), (2, .int (a2))] := hl
  have rg_a1 : (-2147483648) ≤ a1_z ∧ a1_z ≤ 2147483647 := by rw [← hz_a1]; exact ⟨z_lo _, z_hi _⟩
  have rg_a2 : (-2147483648) ≤ a2_z ∧ a2_z ≤ 2147483647 := by rw [← hz_a2]; exact ⟨z_lo _, z_hi _⟩
  have hO : Ok MP S S := Ok.rf hG
  obtain ⟨v_1, ev_1⟩ : ∃ v, pI S 1211 x = v := ⟨_, rfl⟩
  have rg_2 := gI_12_1211 hO.1 ha_x; rw [ev_1] at rg_2
  have pz_3 : (pI S 1211 x).toInt = v_1.toInt := by rw [ev_1]
  have pz_4 : (pI S 1211 x).toInt = v_1.toInt := (congrArg Int32.toInt ev_1).trans rfl
  refine lv_aload_n X.1 X.2.1 dX12_pot_0 rfl (lv_at hl 0 rfl) ?_
  refine lv_iconst (v := 0) X.1 X.2.1 dX12_pot_1 (by decide) ?_
  refine r_putI (v := 0) X hw ha_x rfl 0 1200 tyX12 (by decide) rfl inn_X12_pot_12 tyX12_ok nmX12 (by decide) (X.2.2.2.1 (.fieldLink RX12 161 "SilkMillModel" "thrown" "I") (by decide +kernel)) rfl (Or.inl rfl) rfl rfl (Nat.le_of_ble_eq_true rfl) (st_1200 _ _) dX12_pot_2 (fun H locs hw => ?_)
  obtain ⟨S_5, eS_5⟩ : ∃ T, T = sI S 1200 x (0) := ⟨_, rfl⟩
  rw [← eS_5] at hw
  have hO_6 : Ok MP S S_5 := hO.sI eS_5 (by decide +kernel) (uI_12_1200 hO.1 ha_x)
  have h_7 : pI S_5 1200 x = 0 := tI_sIs eS_5
  refine lv_aload_n X.1 X.2.1 dX12_pot_5 rfl (lv_at hl 0 rfl) ?_
  have t_8 : At S_5 x 12 := tAt_sI eS_5 ha_x
  have t_9 : pI S_5 1211 x = v_1 := tI_sI eS_5 rfl ev_1
  refine r_getI (g := 1211) (x := v_1) X hw t_8 rfl 11 t_9 (by decide) rfl inn_X12_pot_12 (by decide) (X.2.2.2.1 (.fieldLink RX12 197 "SilkMillModel" "pots" "I") (by decide +kernel)) rfl (gv_1211 _ _) dX12_pot_6 ?_
  refine lv_iconst (v := 4) X.1 X.2.1 dX12_pot_9 (by decide) ?_
  refine lv_icmp_eq (tgt := 35) X.1 X.2.1 dX12_pot_10 (by decide) (fun c_10 => ?_) (fun c_10 => ?_)
  · have z_b_11 := trivial
    have k_12 : v_1.toInt = 4 := z_eq rfl ti_4 c_10
    refine lv_iconst (v := (-1)) X.1 X.2.1 dX12_pot_35 (by decide) ?_
    have pz_13 : (pI S_5 1211 x).toInt = v_1.toInt := (congrArg Int32.toInt t_9).trans rfl
    exact ret_i X hw hr hlocks (Nat.le_of_ble_eq_true rfl) (Nat.le_of_ble_eq_true rfl) ⟨hO_6, ⟨z_lo _, z_hi _, Or.inr ⟨by omega, by decide, by omega⟩, fun h => absurd h (by omega), fun _ => eS_5⟩⟩ dX12_pot_36
  · have z_b_14 := trivial
    have k_15 : v_1.toInt ≠ 4 := z_ne rfl ti_4 c_10
    refine lv_iload_n X.1 X.2.1 dX12_pot_13 rfl (lv_at hl 1 rfl) ?_
    refine lv_bipush (v := 10) X.1 X.2.1 dX12_pot_14 (by decide) ?_
    refine lv_sipush (v := 2000) X.1 X.2.1 dX12_pot_16 (by decide) ?_
    refine k_i (rm := { frames := 1, cells := 0, slots := 0, locals := 48 }) (av := [.int (a1), .int 10, .int 2000]) X hw (va_runS (As := [.int (a1), .int 10, .int 2000]) (rest := []) (cfix X) (k_X12_within l G cy κ S_5 _ (a1) (a1_z) (10) (10) (2000) (2000) hO_6.1 hz_a1 ti_10 ti_2000) (cwS 3 X.2.2.2.1 gX12_pot_X12_within rfl rfl rfl (by decide +kernel) ⟨Nat.le_of_ble_eq_true rfl, Nat.le_of_ble_eq_true rfl⟩) (pre_S X hw _) rfl rfl hl.1 rfl (lv_room (Nat.le_of_ble_eq_true rfl)) dX12_pot_19 ⟨Nat.le_of_ble_eq_true rfl, Nat.le_of_ble_eq_true rfl⟩) 0 0 (Nat.le_of_ble_eq_true rfl) (Nat.le_of_ble_eq_true rfl) (fun rr_16 S_17 H locs hp hw hfr hnw => ?_)
    obtain ⟨e2, hp⟩ := hp
    subst e2
    rcases hp with ⟨f_18, er_19⟩ | ⟨f_18, er_19⟩ <;> subst er_19
    · have z_b_20 := trivial
      refine lv_if_eq (tgt := 35) X.1 X.2.1 dX12_pot_22 (by decide) (fun c_21 => absurd c_21 (by decide)) (fun c_21 => ?_)
      refine lv_iload_n X.1 X.2.1 dX12_pot_25 rfl (lv_at hl 2 rfl) ?_
      refine lv_iconst (v := 1) X.1 X.2.1 dX12_pot_26 (by decide) ?_
      refine lv_bipush (v := 50) X.1 X.2.1 dX12_pot_27 (by decide) ?_
      refine k_i (rm := { frames := 1, cells := 0, slots := 0, locals := 48 }) (av := [.int (a2), .int 1, .int 50]) X hw (va_runS (As := [.int (a2), .int 1, .int 50]) (rest := []) (cfix X) (k_X12_within l G cy κ S_5 _ (a2) (a2_z) (1) (1) (50) (50) hO_6.1 hz_a2 ti_1 ti_50) (cwS 3 X.2.2.2.1 gX12_pot_X12_within rfl rfl rfl (by decide +kernel) ⟨Nat.le_of_ble_eq_true rfl, Nat.le_of_ble_eq_true rfl⟩) (pre_S X hw _) rfl rfl hl.1 rfl (lv_room (Nat.le_of_ble_eq_true rfl)) dX12_pot_29 ⟨Nat.le_of_ble_eq_true rfl, Nat.le_of_ble_eq_true rfl⟩) 0 0 (Nat.le_of_ble_eq_true rfl) (Nat.le_of_ble_eq_true rfl) (fun rr_22 S_23 H locs hp hw hfr hnw => ?_)
      obtain ⟨e2, hp⟩ := hp
      subst e2
      rcases hp with ⟨f_24, er_25⟩ | ⟨f_24, er_25⟩ <;> subst er_25
      · have z_b_26 := trivial
        refine lv_if_ne (tgt := 37) X.1 X.2.1 dX12_pot_32 (by decide) (fun c_27 => ?_) (fun c_27 => absurd c_27 (by decide))
        refine lv_aload_n X.1 X.2.1 dX12_pot_37 rfl (lv_at hl 0 rfl) ?_
        obtain ⟨q_28, h_29, h_30, h_31⟩ := gQ_12_1212 hO_6.1 t_8
        refine r_getR (g := 1212) X hw t_8 rfl 12 h_29 (by decide) rfl inn_X12_pot_12 (by decide) (X.2.2.2.1 (.fieldLink RX12 37 "SilkMillModel" "aim" "[I") (by decide +kernel)) rfl (gv_1212 _ _) dX12_pot_38 ?_
        refine lv_aload_n X.1 X.2.1 dX12_pot_41 rfl (lv_at hl 0 rfl) ?_
        refine r_getI (g := 1211) (x := v_1) X hw t_8 rfl 11 t_9 (by decide) rfl inn_X12_pot_12 (by decide) (X.2.2.2.1 (.fieldLink RX12 197 "SilkMillModel" "pots" "I") (by decide +kernel)) rfl (gv_1211 _ _) dX12_pot_42 ?_
        refine lv_iload_n X.1 X.2.1 dX12_pot_45 rfl (lv_at hl 1 rfl) ?_
        refine r_iast X hw h_30 rfl (by rw [h_31]; exact z_ix rfl (by omega) (by omega)) dX12_pot_46 (fun H locs hw => ?_)
        obtain ⟨S_32, eS_32⟩ : ∃ T, T = sA S_5 q_28 (upd (pA S_5 q_28) (Int32.toNatClampNeg (v_1)) (a1)) := ⟨_, rfl⟩
        rw [← eS_32] at hw
        have hO_33 : Ok MP S S_32 := hO_6.sA eS_32 h_30 (by decide +kernel) (uA_454 hO_6.1 h_30)
        have h_34 : pA S_32 q_28 (Int32.toNatClampNeg (v_1)) = a1 := tA_sAs eS_32
        have zc_35 : zA S_5 x 1212 = zA S x 1212 := zA_sI eS_5
        have t_36 : pR S_32 1212 x = some q_28 := tR_sA eS_32 h_29
        have t_38 : pR S_5 1212 x = some q_28 := by have h := t_36; rw [eS_32, pR_sA] at h; exact h
        have zs_37 : ∀ j, zA S_32 x 1212 j = if j = (v_1.toInt).toNat then a1_z else zA S_5 x 1212 j := by have h := zA_sAs eS_32 t_38 hz_a1; rw [z_nc rfl (by omega)] at h; exact h
        have zs_39 : ∀ j, zA S_32 x 1212 j = if j = (v_1.toInt).toNat then a1_z else zA S x 1212 j := fun j => by rw [zs_37 j, zc_35]
        refine lv_aload_n X.1 X.2.1 dX12_pot_47 rfl (lv_at hl 0 rfl) ?_
        have t_40 : At S_32 x 12 := tAt_sA eS_32 t_8
        obtain ⟨q_41, h_42, h_43, h_44⟩ := gQ_12_1213 hO_33.1 t_40
        refine r_getR (g := 1213) X hw t_40 rfl 13 h_42 (by decide) rfl inn_X12_pot_12 (by decide) (X.2.2.2.1 (.fieldLink RX12 40 "SilkMillModel" "find" "[I") (by decide +kernel)) rfl (gv_1213 _ _) dX12_pot_48 ?_
        refine lv_aload_n X.1 X.2.1 dX12_pot_51 rfl (lv_at hl 0 rfl) ?_
        have t_45 : pI S_32 1211 x = v_1 := tI_sA eS_32 t_9
        refine r_getI (g := 1211) (x := v_1) X hw t_40 rfl 11 t_45 (by decide) rfl inn_X12_pot_12 (by decide) (X.2.2.2.1 (.fieldLink RX12 197 "SilkMillModel" "pots" "I") (by decide +kernel)) rfl (gv_1211 _ _) dX12_pot_52 ?_
        refine lv_iload_n X.1 X.2.1 dX12_pot_55 rfl (lv_at hl 2 rfl) ?_
        refine r_iast X hw h_43 rfl (by rw [h_44]; exact z_ix rfl (by omega) (by omega)) dX12_pot_56 (fun H locs hw => ?_)
        obtain ⟨S_46, eS_46⟩ : ∃ T, T = sA S_32 q_41 (upd (pA S_32 q_41) (Int32.toNatClampNeg (v_1)) (a2)) := ⟨_, rfl⟩
        rw [← eS_46] at hw
        have hO_47 : Ok MP S S_46 := hO_33.sA eS_46 h_43 (by decide +kernel) (uA_474 hO_33.1 h_43)
        have h_48 : pA S_46 q_41 (Int32.toNatClampNeg (v_1)) = a2 := tA_sAs eS_46
        have zc_49 : zA S_5 x 1213 = zA S x 1213 := zA_sI eS_5
        have zc_50 : zA S_32 x 1213 = zA S x 1213 := (zA_sAn eS_32 (ex3 (gQ_12_1213 hO_6.1 t_8)) h_30 rfl).trans zc_49
        have t_51 : pR S_46 1213 x = some q_41 := tR_sA eS_46 h_42
        have t_53 : pR S_32 1213 x = some q_41 := by have h := t_51; rw [eS_46, pR_sA] at h; exact h
        have zs_52 : ∀ j, zA S_46 x 1213 j = if j = (v_1.toInt).toNat then a2_z else zA S_32 x 1213 j := by have h := zA_sAs eS_46 t_53 hz_a2; rw [z_nc rfl (by omega)] at h; exact h
        have zs_54 : ∀ j, zA S_46 x 1213 j = if j = (v_1.toInt).toNat then a2_z else zA S x 1213 j := fun j => by rw [zs_52 j, zc_50]
        refine lv_aload_n X.1 X.2.1 dX12_pot_57 rfl (lv_at hl 0 rfl) ?_
        refine lv_dup X.1 X.2.1 dX12_pot_58 rfl ?_
        have t_55 : At S_46 x 12 := tAt_sA eS_46 t_40
        have t_56 : pI S_46 1211 x = v_1 := tI_sA eS_46 t_45
        refine r_getI (g := 1211) (x := v_1) X hw t_55 rfl 11 t_56 (by decide) rfl inn_X12_pot_12 (by decide) (X.2.2.2.1 (.fieldLink RX12 197 "SilkMillModel" "pots" "I") (by decide +kernel)) rfl (gv_1211 _ _) dX12_pot_59 ?_
        refine lv_iconst (v := 1) X.1 X.2.1 dX12_pot_62 (by decide) ?_
        refine lv_iadd X.1 X.2.1 dX12_pot_63 ?_
        refine lv_topi (fun v_57 ev_57 => ?_)
        have z_58 : v_57.toInt = v_1.toInt + 1 := z_add ev_57 rfl ti_1 (by omega) (by omega)
        refine r_putI (v := v_57) X hw t_55 rfl 11 1211 tyX12 (by decide) rfl inn_X12_pot_12 tyX12_ok nmX12 (by decide) (X.2.2.2.1 (.fieldLink RX12 197 "SilkMillModel" "pots" "I") (by decide +kernel)) rfl (Or.inl rfl) rfl rfl (Nat.le_of_ble_eq_true rfl) (st_1211 _ _) dX12_pot_64 (fun H locs hw => ?_)
        obtain ⟨S_59, eS_59⟩ : ∃ T, T = sI S_46 1211 x (v_57) := ⟨_, rfl⟩
        rw [← eS_59] at hw
        have hO_60 : Ok MP S S_59 := hO_47.sI eS_59 (by decide +kernel) (uI_12_1211 hO_47.1 t_55 (by omega) (by omega))
        have h_61 : pI S_59 1211 x = v_57 := tI_sIs eS_59
        refine lv_aload_n X.1 X.2.1 dX12_pot_67 rfl (lv_at hl 0 rfl) ?_
        have t_62 : At S_59 x 12 := tAt_sI eS_59 t_55
        refine r_getI (g := 1211) (x := v_57) X hw t_62 rfl 11 h_61 (by decide) rfl inn_X12_pot_12 (by decide) (X.2.2.2.1 (.fieldLink RX12 197 "SilkMillModel" "pots" "I") (by decide +kernel)) rfl (gv_1211 _ _) dX12_pot_68 ?_
        refine lv_iconst (v := 1) X.1 X.2.1 dX12_pot_71 (by decide) ?_
        refine lv_isub X.1 X.2.1 dX12_pot_72 ?_
        refine lv_topi (fun v_63 ev_63 => ?_)
        have z_64 : v_63.toInt = (v_1.toInt + 1) - 1 := z_sub ev_63 z_58 ti_1 (by omega) (by omega)
        have pz_65 : (pI S_59 1211 x).toInt = (v_1.toInt + 1) := (congrArg Int32.toInt h_61).trans z_58
        have zc_66 : zA S_5 x 1212 = zA S x 1212 := zA_sI eS_5
        have zc_67 : zA S_46 x 1212 = zA S_32 x 1212 := zA_sAn eS_46 (ex3 (gQ_12_1212 hO_33.1 t_40)) h_43 rfl
        have zc_68 : zA S_59 x 1212 = zA S_32 x 1212 := (zA_sI eS_59).trans zc_67
        have zc_69 : zA S_5 x 1213 = zA S x 1213 := zA_sI eS_5
        have zc_70 : zA S_32 x 1213 = zA S x 1213 := (zA_sAn eS_32 (ex3 (gQ_12_1213 hO_6.1 t_8)) h_30 rfl).trans zc_69
        have zc_71 : zA S_59 x 1213 = zA S_46 x 1213 := zA_sI eS_59
        exact ret_i X hw hr hlocks (Nat.le_of_ble_eq_true rfl) (Nat.le_of_ble_eq_true rfl) ⟨hO_60, ⟨z_lo _, z_hi _, Or.inl ⟨by omega, by have hzr := z_64; omega, by omega⟩, fun _ => ⟨fun j => (by rw [zc_68, zs_39 j, show (pI S 1211 x).toInt.toNat = (v_1.toInt).toNat by omega]), fun j => (by rw [zc_71, zs_54 j, show (pI S 1211 x).toInt.toNat = (v_1.toInt).toNat by omega])⟩, fun h => absurd (by omega) h⟩⟩ dX12_pot_73
      · have z_b_72 := trivial
        refine lv_if_ne (tgt := 37) X.1 X.2.1 dX12_pot_32 (by decide) (fun c_73 => absurd c_73 (by decide)) (fun c_73 => ?_)
        refine lv_iconst (v := (-1)) X.1 X.2.1 dX12_pot_35 (by decide) ?_
        have pz_74 : (pI S_5 1211 x).toInt = v_1.toInt := (congrArg Int32.toInt t_9).trans rfl
        exact ret_i X hw hr hlocks (Nat.le_of_ble_eq_true rfl) (Nat.le_of_ble_eq_true rfl) ⟨hO_6, ⟨z_lo _, z_hi _, Or.inr ⟨by omega, by decide, by omega⟩, fun h => absurd h (by omega), fun _ => eS_5⟩⟩ dX12_pot_36
    · have z_b_75 := trivial
      refine lv_if_eq (tgt := 35) X.1 X.2.1 dX12_pot_22 (by decide) (fun c_76 => ?_) (fun c_76 => absurd c_76 (by decide))
      refine lv_iconst (v := (-1)) X.1 X.2.1 dX12_pot_35 (by decide) ?_
      have pz_77 : (pI S_5 1211 x).toInt = v_1.toInt := (congrArg Int32.toInt t_9).trans rfl
      exact ret_i X hw hr hlocks (Nat.le_of_ble_eq_true rfl) (Nat.le_of_ble_eq_true rfl) ⟨hO_6, ⟨z_lo _, z_hi _, Or.inr ⟨by omega, by decide, by omega⟩, fun h => absurd h (by omega), fun _ => eS_5⟩⟩ dX12_pot_36
set_option maxHeartbeats 4000000 in
set_option maxRecDepth 100000 in
theorem k_X12_target6 (l : Launch) (G : va_G) (cy : Nat → ClassId) (κ : Nat → Nat) (S : PS) (sz : Nat) (x : Nat) (a1 : Int32) (a1_z : Int) (a2 : Int32) (a2_z : Int) (hG : GX S) (ha_x : At S x 12) (hz_a1 : a1.toInt = a1_z) (hz_a2 : a2.toInt = a2_z) : Ci l yX12_target wsX12_target ({ frames := 3, cells := 0, slots := 0, locals := 144 }) G cy κ S sz [.ref x, .int (a1), .int (a2)] (fun (r : Int32) (S9 : PS) => Ok Mtg S S9 ∧ ((((0 ≤ a1_z ∧ a1_z < (pI S 1211 x).toInt ∧ 10 ≤ a2_z ∧ a2_z ≤ 2000) ∧ ∀ j, zA S9 x 1212 j = if j = a1_z.toNat then a2_z else zA S x 1212 j) ∧ r = 1) ∨ (((¬ (0 ≤ a1_z ∧ a1_z < (pI S 1211 x).toInt ∧ 10 ≤ a2_z ∧ a2_z ≤ 2000)) ∧ S9 = sI S 1200 x 0) ∧ r = 0))) := by
  refine ent_m (cc := cX12_target) (maxL := 3) (ret := (some .boolean)) (by decide) rfl (Nat.le_of_ble_eq_true rfl) ?_
  intro p e s m below meth c ls X hr hlocks hin hw hl hsz
  subst hsz
  have X : Cx p c cX12_target 3 s [.ref x, .int (a1), .int (a2)].toArray wsX12_target RX12 m G cy κ (AS S s.heap.size) := X
  have hl : lv_has ls 3 [(0, .ref x), (1, .int (a1)), (2, .int (a2))] := hl
  have rg_a1 : (-2147483648) ≤ a1_z ∧ a1_z ≤ 2147483647 := by rw [← hz_a1]; exact ⟨z_lo _, z_hi _⟩
  have rg_a2 : (-2147483648) ≤ a2_z ∧ a2_z ≤ 2147483647 := by rw [← hz_a2]; exact ⟨z_lo _, z_hi _⟩
  have hO : Ok Mtg S S := Ok.rf hG
  obtain ⟨v_1, ev_1⟩ : ∃ v, pI S 1211 x = v := ⟨_, rfl⟩
  have rg_2 := gI_12_1211 hO.1 ha_x; rw [ev_1] at rg_2
  have pz_3 : (pI S 1211 x).toInt = v_1.toInt := by rw [ev_1]
  have pz_4 : (pI S 1211 x).toInt = v_1.toInt := (congrArg Int32.toInt ev_1).trans rfl
  refine lv_aload_n X.1 X.2.1 dX12_target_0 rfl (lv_at hl 0 rfl) ?_
  refine lv_iconst (v := 0) X.1 X.2.1 dX12_target_1 (by decide) ?_
  refine r_putI (v := 0) X hw ha_x rfl 0 1200 tyX12 (by decide) rfl inn_X12_target_12 tyX12_ok nmX12 (by decide) (X.2.2.2.1 (.fieldLink RX12 161 "SilkMillModel" "thrown" "I") (by decide +kernel)) rfl (Or.inl rfl) rfl rfl (Nat.le_of_ble_eq_true rfl) (st_1200 _ _) dX12_target_2 (fun H locs hw => ?_)
  obtain ⟨S_5, eS_5⟩ : ∃ T, T = sI S 1200 x (0) := ⟨_, rfl⟩
  rw [← eS_5] at hw
  have hO_6 : Ok Mtg S S_5 := hO.sI eS_5 (by decide +kernel) (uI_12_1200 hO.1 ha_x)
  have h_7 : pI S_5 1200 x = 0 := tI_sIs eS_5
  refine lv_aload_n X.1 X.2.1 dX12_target_5 rfl (lv_at hl 0 rfl) ?_
  refine lv_iload_n X.1 X.2.1 dX12_target_6 rfl (lv_at hl 1 rfl) ?_
  have t_8 : pI S_5 1211 x = v_1 := tI_sI eS_5 rfl ev_1
  have pz_9 : (pI S_5 1211 x).toInt = v_1.toInt := (congrArg Int32.toInt t_8).trans rfl
  have t_10 : At S_5 x 12 := tAt_sI eS_5 ha_x
  refine k_i (rm := { frames := 2, cells := 0, slots := 0, locals := 96 }) (av := [.ref x, .int (a1)]) X hw (va_runV (As := [.int (a1)]) (rest := []) (cfix X) (k_X12_isPot l G cy κ S_5 _ x (a1) (a1_z) hO_6.1 t_10 hz_a1) (cwV 1 X.2.2.2.1 gX12_target_X12_isPot rfl rfl rfl (by decide +kernel) ⟨Nat.le_of_ble_eq_true rfl, Nat.le_of_ble_eq_true rfl⟩) (pre_V X hw _ t_10 rfl (by decide) rfl) rfl rfl hl.1 rfl (lv_room (Nat.le_of_ble_eq_true rfl)) dX12_target_7 ⟨Nat.le_of_ble_eq_true rfl, Nat.le_of_ble_eq_true rfl⟩) 0 0 (Nat.le_of_ble_eq_true rfl) (Nat.le_of_ble_eq_true rfl) (fun rr_11 S_12 H locs hp hw hfr hnw => ?_)
  obtain ⟨e2, hp⟩ := hp
  subst e2
  rcases hp with ⟨f_13, er_14⟩ | ⟨f_13, er_14⟩ <;> subst er_14
  · have z_b_15 := trivial
    refine lv_if_eq (tgt := 25) X.1 X.2.1 dX12_target_10 (by decide) (fun c_16 => absurd c_16 (by decide)) (fun c_16 => ?_)
    refine lv_iload_n X.1 X.2.1 dX12_target_13 rfl (lv_at hl 2 rfl) ?_
    refine lv_bipush (v := 10) X.1 X.2.1 dX12_target_14 (by decide) ?_
    refine lv_sipush (v := 2000) X.1 X.2.1 dX12_target_16 (by decide) ?_
    refine k_i (rm := { frames := 1, cells := 0, slots := 0, locals := 48 }) (av := [.int (a2), .int 10, .int 2000]) X hw (va_runS (As := [.int (a2), .int 10, .int 2000]) (rest := []) (cfix X) (k_X12_within l G cy κ S_5 _ (a2) (a2_z) (10) (10) (2000) (2000) hO_6.1 hz_a2 ti_10 ti_2000) (cwS 3 X.2.2.2.1 gX12_target_X12_within rfl rfl rfl (by decide +kernel) ⟨Nat.le_of_ble_eq_true rfl, Nat.le_of_ble_eq_true rfl⟩) (pre_S X hw _) rfl rfl hl.1 rfl (lv_room (Nat.le_of_ble_eq_true rfl)) dX12_target_19 ⟨Nat.le_of_ble_eq_true rfl, Nat.le_of_ble_eq_true rfl⟩) 0 0 (Nat.le_of_ble_eq_true rfl) (Nat.le_of_ble_eq_true rfl) (fun rr_17 S_18 H locs hp hw hfr hnw => ?_)
    obtain ⟨e2, hp⟩ := hp
    subst e2
    rcases hp with ⟨f_19, er_20⟩ | ⟨f_19, er_20⟩ <;> subst er_20
    · have z_b_21 := trivial
      refine lv_if_ne (tgt := 27) X.1 X.2.1 dX12_target_22 (by decide) (fun c_22 => ?_) (fun c_22 => absurd c_22 (by decide))
      refine lv_aload_n X.1 X.2.1 dX12_target_27 rfl (lv_at hl 0 rfl) ?_
      obtain ⟨q_23, h_24, h_25, h_26⟩ := gQ_12_1212 hO_6.1 t_10
      refine r_getR (g := 1212) X hw t_10 rfl 12 h_24 (by decide) rfl inn_X12_target_12 (by decide) (X.2.2.2.1 (.fieldLink RX12 37 "SilkMillModel" "aim" "[I") (by decide +kernel)) rfl (gv_1212 _ _) dX12_target_28 ?_
      refine lv_iload_n X.1 X.2.1 dX12_target_31 rfl (lv_at hl 1 rfl) ?_
      refine lv_iload_n X.1 X.2.1 dX12_target_32 rfl (lv_at hl 2 rfl) ?_
      refine r_iast X hw h_25 rfl (by rw [h_26]; exact z_ix hz_a1 (by omega) (by omega)) dX12_target_33 (fun H locs hw => ?_)
      obtain ⟨S_27, eS_27⟩ : ∃ T, T = sA S_5 q_23 (upd (pA S_5 q_23) (Int32.toNatClampNeg (a1)) (a2)) := ⟨_, rfl⟩
      rw [← eS_27] at hw
      have hO_28 : Ok Mtg S S_27 := hO_6.sA eS_27 h_25 (by decide +kernel) (uA_454 hO_6.1 h_25)
      have h_29 : pA S_27 q_23 (Int32.toNatClampNeg (a1)) = a2 := tA_sAs eS_27
      have zc_30 : zA S_5 x 1212 = zA S x 1212 := zA_sI eS_5
      have t_31 : pR S_27 1212 x = some q_23 := tR_sA eS_27 h_24
      have t_33 : pR S_5 1212 x = some q_23 := by have h := t_31; rw [eS_27, pR_sA] at h; exact h
      have zs_32 : ∀ j, zA S_27 x 1212 j = if j = (a1_z).toNat then a2_z else zA S_5 x 1212 j := by have h := zA_sAs eS_27 t_33 hz_a2; rw [z_nc hz_a1 (by omega)] at h; exact h
      have zs_34 : ∀ j, zA S_27 x 1212 j = if j = (a1_z).toNat then a2_z else zA S x 1212 j := fun j => by rw [zs_32 j, zc_30]
      refine lv_iconst (v := 1) X.1 X.2.1 dX12_target_34 (by decide) ?_
      have zc_35 : zA S_5 x 1212 = zA S x 1212 := zA_sI eS_5
      exact ret_z X hw hr hlocks (Nat.le_of_ble_eq_true rfl) (Nat.le_of_ble_eq_true rfl) (by decide) ⟨hO_28, Or.inl ⟨⟨⟨by omega, by omega, by omega, by omega⟩, fun j => (by rw [zs_34 j, show a1_z.toNat = (a1_z).toNat by omega])⟩, rfl⟩⟩ dX12_target_35
    · have z_b_36 := trivial
      refine lv_if_ne (tgt := 27) X.1 X.2.1 dX12_target_22 (by decide) (fun c_37 => absurd c_37 (by decide)) (fun c_37 => ?_)
      refine lv_iconst (v := 0) X.1 X.2.1 dX12_target_25 (by decide) ?_
      exact ret_z X hw hr hlocks (Nat.le_of_ble_eq_true rfl) (Nat.le_of_ble_eq_true rfl) (by decide) ⟨hO_6, Or.inr ⟨⟨by omega, eS_5⟩, rfl⟩⟩ dX12_target_26
  · have z_b_38 := trivial
    refine lv_if_eq (tgt := 25) X.1 X.2.1 dX12_target_10 (by decide) (fun c_39 => ?_) (fun c_39 => absurd c_39 (by decide))
    refine lv_iconst (v := 0) X.1 X.2.1 dX12_target_25 (by decide) ?_
    exact ret_z X hw hr hlocks (Nat.le_of_ble_eq_true rfl) (Nat.le_of_ble_eq_true rfl) (by decide) ⟨hO_6, Or.inr ⟨⟨by omega, eS_5⟩, rfl⟩⟩ dX12_target_26
set_option maxHeartbeats 4000000 in
set_option maxRecDepth 100000 in
theorem k_X11_target6 (l : Launch) (G : va_G) (cy : Nat → ClassId) (κ : Nat → Nat) (S : PS) (sz : Nat) (x : Nat) (a1 : Int32) (a1_z : Int) (a2 : Int32) (a2_z : Int) (hG : GX S) (ha_x : At S x 11) (hz_a1 : a1.toInt = a1_z) (hz_a2 : a2.toInt = a2_z) : Ci l yX11_target wsX11_target ({ frames := 3, cells := 0, slots := 0, locals := 144 }) G cy κ S sz [.ref x, .int (a1), .int (a2)] (fun (r : Int32) (S9 : PS) => Ok eTG S S9 ∧ ((((0 ≤ a1_z ∧ a1_z < (pI S 1104 x).toInt ∧ 10 ≤ a2_z ∧ a2_z ≤ 2000) ∧ ∀ P, mB S x 1103 a1_z.toNat = some P → S9 = sI S 404 P a2) ∧ r = 1) ∨ (((PN S x → ¬ (0 ≤ a1_z ∧ a1_z < (pI S 1104 x).toInt ∧ 10 ≤ a2_z ∧ a2_z ≤ 2000)) ∧ S9 = S) ∧ r = 0))) := by
  refine ent_m (cc := cX11_target) (maxL := 4) (ret := (some .boolean)) (by decide) rfl (Nat.le_of_ble_eq_true rfl) ?_
  intro p e s m below meth c ls X hr hlocks hin hw hl hsz
  subst hsz
  have X : Cx p c cX11_target 4 s [.ref x, .int (a1), .int (a2)].toArray wsX11_target RX11 m G cy κ (AS S s.heap.size) := X
  have hl : lv_has ls 4 [(0, .ref x), (1, .int (a1)), (2, .int (a2))] := hl
  have rg_a1 : (-2147483648) ≤ a1_z ∧ a1_z ≤ 2147483647 := by rw [← hz_a1]; exact ⟨z_lo _, z_hi _⟩
  have rg_a2 : (-2147483648) ≤ a2_z ∧ a2_z ≤ 2147483647 := by rw [← hz_a2]; exact ⟨z_lo _, z_hi _⟩
  have hO : Ok eTG S S := Ok.rf hG
  refine lv_aload_n X.1 X.2.1 dX11_target_0 rfl (lv_at hl 0 rfl) ?_
  refine lv_iload_n X.1 X.2.1 dX11_target_1 rfl (lv_at hl 1 rfl) ?_
  refine k_q (rm := { frames := 1, cells := 0, slots := 0, locals := 48 }) (av := [.ref x, .int (a1)]) X hw (va_runV (As := [.int (a1)]) (rest := []) (cfix X) (k_X11_potAt3 l G cy κ S _ x (a1) (a1_z) hO.1 ha_x hz_a1) (cwV 1 X.2.2.2.1 gX11_target_X11_potAt rfl rfl rfl (by decide +kernel) ⟨Nat.le_of_ble_eq_true rfl, Nat.le_of_ble_eq_true rfl⟩) (pre_V X hw _ ha_x rfl (by decide) rfl) rfl rfl hl.1 rfl (lv_room (Nat.le_of_ble_eq_true rfl)) dX11_target_2 ⟨Nat.le_of_ble_eq_true rfl, Nat.le_of_ble_eq_true rfl⟩) 0 0 (Nat.le_of_ble_eq_true rfl) (Nat.le_of_ble_eq_true rfl) (fun rr_1 S_2 H locs hp hw hfr hnw => ?_)
  obtain ⟨e2, hp⟩ := hp
  subst e2
  obtain ⟨hq_3, hnf_4⟩ := hp
  rcases rr_1 with _ | q_5
  · refine W.eq (g2 := F0 m 5 ls (.null :: [])) rfl ?_
    have nf_6 := hnf_4 rfl
    refine lv_astore_nN (lv' := [(3, .null), (0, .ref x), (1, .int (a1)), (2, .int (a2))]) X.1 X.2.1 dX11_target_5 rfl hl (by decide) rfl (fun ls hl => ?_)
    refine lv_aload_nN X.1 X.2.1 dX11_target_6 rfl (lv_at hl 0 rfl) ?_
    refine lv_ifnullN (tgt := 17) X.1 X.2.1 dX11_target_7 (by decide) ?_
    refine lv_iconst (v := 0) X.1 X.2.1 dX11_target_17 (by decide) ?_
    exact ret_z X hw hr hlocks (Nat.le_of_ble_eq_true rfl) (Nat.le_of_ble_eq_true rfl) (by decide) ⟨hO, Or.inr ⟨⟨fun hPN h => nf_6 hPN ⟨h.1, h.2.1⟩, rfl⟩, rfl⟩⟩ dX11_target_18
  · refine W.eq (g2 := F0 m 5 ls (.ref q_5 :: [])) rfl ?_
    obtain ⟨ha_7, f_8, f_9, f_10⟩ := hq_3 _ rfl
    refine lv_astore_n (lv' := [(3, .ref q_5), (0, .ref x), (1, .int (a1)), (2, .int (a2))]) X.1 X.2.1 dX11_target_5 rfl hl (by decide) rfl (fun ls hl => ?_)
    refine lv_aload_n X.1 X.2.1 dX11_target_6 rfl (lv_at hl 0 rfl) ?_
    refine lv_ifnull X.1 X.2.1 dX11_target_7 ?_
    refine lv_iload_n X.1 X.2.1 dX11_target_10 rfl (lv_at hl 3 rfl) ?_
    refine k_i (rm := { frames := 2, cells := 0, slots := 0, locals := 96 }) (av := [.int (a2)]) X hw (va_runS (As := [.int (a2)]) (rest := []) (cfix X) (k_X11_isTarget l G cy κ S _ (a2) (a2_z) hO.1 hz_a2) (cwS 1 X.2.2.2.1 gX11_target_X11_isTarget rfl rfl rfl (by decide +kernel) ⟨Nat.le_of_ble_eq_true rfl, Nat.le_of_ble_eq_true rfl⟩) (pre_S X hw _) rfl rfl hl.1 rfl (lv_room (Nat.le_of_ble_eq_true rfl)) dX11_target_11 ⟨Nat.le_of_ble_eq_true rfl, Nat.le_of_ble_eq_true rfl⟩) 0 0 (Nat.le_of_ble_eq_true rfl) (Nat.le_of_ble_eq_true rfl) (fun rr_11 S_12 H locs hp hw hfr hnw => ?_)
    obtain ⟨e2, hp⟩ := hp
    subst e2
    rcases hp with ⟨f_13, er_14⟩ | ⟨f_13, er_14⟩ <;> subst er_14
    · have z_b_15 := trivial
      refine lv_if_ne (tgt := 19) X.1 X.2.1 dX11_target_14 (by decide) (fun c_16 => ?_) (fun c_16 => absurd c_16 (by decide))
      refine lv_aload_n X.1 X.2.1 dX11_target_19 rfl (lv_at hl 0 rfl) ?_
      refine lv_iload_n X.1 X.2.1 dX11_target_20 rfl (lv_at hl 3 rfl) ?_
      refine r_putI (v := a2) X hw ha_7 rfl 4 404 tyX4 (by decide) rfl inn_X11_target_4 tyX4_ok nmX4 (by decide) (X.2.2.2.1 (.fieldLink RX11 138 "SilkMill$Pot" "aim" "I") (by decide +kernel)) rfl (Or.inl rfl) rfl rfl (Nat.le_of_ble_eq_true rfl) (st_404 _ _) dX11_target_21 (fun H locs hw => ?_)
      obtain ⟨S_17, eS_17⟩ : ∃ T, T = sI S 404 q_5 (a2) := ⟨_, rfl⟩
      rw [← eS_17] at hw
      have hO_18 : Ok eTG S S_17 := hO.sI eS_17 (by decide +kernel) (uI_4_404 hO.1 ha_7)
      have h_19 : pI S_17 404 q_5 = a2 := tI_sIs eS_17
      refine lv_iconst (v := 1) X.1 X.2.1 dX11_target_24 (by decide) ?_
      exact ret_z X hw hr hlocks (Nat.le_of_ble_eq_true rfl) (Nat.le_of_ble_eq_true rfl) (by decide) ⟨hO_18, Or.inl ⟨⟨⟨by omega, by omega, by omega, by omega⟩, fun P hP => (by rw [f_10] at hP; cases hP; exact eS_17)⟩, rfl⟩⟩ dX11_target_25
    · have z_b_20 := trivial
      refine lv_if_ne (tgt := 19) X.1 X.2.1 dX11_target_14 (by decide) (fun c_21 => absurd c_21 (by decide)) (fun c_21 => ?_)
      refine lv_iconst (v := 0) X.1 X.2.1 dX11_target_17 (by decide) ?_
      exact ret_z X hw hr hlocks (Nat.le_of_ble_eq_true rfl) (Nat.le_of_ble_eq_true rfl) (by decide) ⟨hO, Or.inr ⟨⟨fun _ h => (by omega), rfl⟩, rfl⟩⟩ dX11_target_18
