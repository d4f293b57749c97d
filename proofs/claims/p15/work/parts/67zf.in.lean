
set_option maxHeartbeats 4000000 in
set_option maxRecDepth 100000 in
theorem k_X12_in6 (l : Launch) (G : va_G) (cy : Nat → ClassId) (κ : Nat → Nat) (S : PS) (sz : Nat) (x : Nat) (a1 : Int32) (a1_z : Int) (a2 : Int32) (a2_z : Int) (a3 : Int32) (a3_z : Int) (hG : GX S) (ha_x : At S x 12) (hz_a1 : a1.toInt = a1_z) (hz_a2 : a2.toInt = a2_z) (hz_a3 : a3.toInt = a3_z) : Ci l yX12_in wsX12_in ({ frames := 3, cells := 0, slots := 0, locals := 144 }) G cy κ S sz [.ref x, .int (a1), .int (a2), .int (a3)] (fun (r : Int32) (S9 : PS) => Ok MN S S9 ∧ (-2147483648 ≤ r.toInt ∧ r.toInt ≤ 2147483647 ∧ (InZ S x a1_z a2_z a3_z → pI S9 1200 x = 0 ∧ r.toInt = inZ S x a1_z a2_z a3_z) ∧ (¬ InZ S x a1_z a2_z a3_z → pI S9 1200 x = 1 ∧ r = 0))) := by
  refine ent_m (cc := cX12_in) (maxL := 5) (ret := (some .int)) (by decide) rfl (Nat.le_of_ble_eq_true rfl) ?_
  intro p e s m below meth c ls X hr hlocks hin hw hl hsz
  subst hsz
  have X : Cx p c cX12_in 5 s [.ref x, .int (a1), .int (a2), .int (a3)].toArray wsX12_in RX12 m G cy κ (AS S s.heap.size) := X
  have hl : lv_has ls 5 [(0, .ref x), (1, .int (a1)), (2, .int (a2)), (3, .int (a3))] := hl
  have rg_a1 : (-2147483648) ≤ a1_z ∧ a1_z ≤ 2147483647 := by rw [← hz_a1]; exact ⟨z_lo _, z_hi _⟩
  have rg_a2 : (-2147483648) ≤ a2_z ∧ a2_z ≤ 2147483647 := by rw [← hz_a2]; exact ⟨z_lo _, z_hi _⟩
  have rg_a3 : (-2147483648) ≤ a3_z ∧ a3_z ≤ 2147483647 := by rw [← hz_a3]; exact ⟨z_lo _, z_hi _⟩
  have hO : Ok MN S S := Ok.rf hG
  obtain ⟨v_1, ev_1⟩ : ∃ v, pI S 1211 x = v := ⟨_, rfl⟩
  have rg_2 := gI_12_1211 hO.1 ha_x; rw [ev_1] at rg_2
  have pz_3 : (pI S 1211 x).toInt = v_1.toInt := by rw [ev_1]
  have pz_4 : (pI S 1211 x).toInt = v_1.toInt := (congrArg Int32.toInt ev_1).trans rfl
  refine lv_aload_n X.1 X.2.1 dX12_in_0 rfl (lv_at hl 0 rfl) ?_
  refine lv_iload_n X.1 X.2.1 dX12_in_1 rfl (lv_at hl 1 rfl) ?_
  have pz_5 : (pI S 1211 x).toInt = v_1.toInt := (congrArg Int32.toInt ev_1).trans rfl
  refine k_i (rm := { frames := 2, cells := 0, slots := 0, locals := 96 }) (av := [.ref x, .int (a1)]) X hw (va_runV (As := [.int (a1)]) (rest := []) (cfix X) (k_X12_isPot l G cy κ S _ x (a1) (a1_z) hO.1 ha_x hz_a1) (cwV 1 X.2.2.2.1 gX12_in_X12_isPot rfl rfl rfl (by decide +kernel) ⟨Nat.le_of_ble_eq_true rfl, Nat.le_of_ble_eq_true rfl⟩) (pre_V X hw _ ha_x rfl (by decide) rfl) rfl rfl hl.1 rfl (lv_room (Nat.le_of_ble_eq_true rfl)) dX12_in_2 ⟨Nat.le_of_ble_eq_true rfl, Nat.le_of_ble_eq_true rfl⟩) 0 0 (Nat.le_of_ble_eq_true rfl) (Nat.le_of_ble_eq_true rfl) (fun rr_6 S_7 H locs hp hw hfr hnw => ?_)
  obtain ⟨e2, hp⟩ := hp
  subst e2
  rcases hp with ⟨f_8, er_9⟩ | ⟨f_8, er_9⟩ <;> subst er_9
  · have z_b_10 := trivial
    refine lv_if_eq (tgt := 37) X.1 X.2.1 dX12_in_5 (by decide) (fun c_11 => absurd c_11 (by decide)) (fun c_11 => ?_)
    refine lv_iload_n X.1 X.2.1 dX12_in_8 rfl (lv_at hl 2 rfl) ?_
    refine lv_iconst (v := 0) X.1 X.2.1 dX12_in_9 (by decide) ?_
    refine lv_iconst (v := 2) X.1 X.2.1 dX12_in_10 (by decide) ?_
    refine k_i (rm := { frames := 1, cells := 0, slots := 0, locals := 48 }) (av := [.int (a2), .int 0, .int 2]) X hw (va_runS (As := [.int (a2), .int 0, .int 2]) (rest := []) (cfix X) (k_X12_within l G cy κ S _ (a2) (a2_z) (0) (0) (2) (2) hO.1 hz_a2 ti_0 ti_2) (cwS 3 X.2.2.2.1 gX12_in_X12_within rfl rfl rfl (by decide +kernel) ⟨Nat.le_of_ble_eq_true rfl, Nat.le_of_ble_eq_true rfl⟩) (pre_S X hw _) rfl rfl hl.1 rfl (lv_room (Nat.le_of_ble_eq_true rfl)) dX12_in_11 ⟨Nat.le_of_ble_eq_true rfl, Nat.le_of_ble_eq_true rfl⟩) 0 0 (Nat.le_of_ble_eq_true rfl) (Nat.le_of_ble_eq_true rfl) (fun rr_12 S_13 H locs hp hw hfr hnw => ?_)
    obtain ⟨e2, hp⟩ := hp
    subst e2
    rcases hp with ⟨f_14, er_15⟩ | ⟨f_14, er_15⟩ <;> subst er_15
    · have z_b_16 := trivial
      refine lv_if_eq (tgt := 37) X.1 X.2.1 dX12_in_14 (by decide) (fun c_17 => absurd c_17 (by decide)) (fun c_17 => ?_)
      refine lv_iload_n X.1 X.2.1 dX12_in_17 rfl (lv_at hl 3 rfl) ?_
      refine lv_iconst (v := 0) X.1 X.2.1 dX12_in_18 (by decide) ?_
      refine lv_aload_n X.1 X.2.1 dX12_in_19 rfl (lv_at hl 0 rfl) ?_
      refine lv_iload_n X.1 X.2.1 dX12_in_20 rfl (lv_at hl 1 rfl) ?_
      refine lv_iload_n X.1 X.2.1 dX12_in_21 rfl (lv_at hl 2 rfl) ?_
      refine k_i (rm := { frames := 1, cells := 0, slots := 0, locals := 48 }) (av := [.ref x, .int (a1), .int (a2)]) X hw (va_runV (As := [.int (a1), .int (a2)]) (rest := [.int 0, .int (a3)]) (cfix X) (k_X12_many2 l G cy κ S _ x (a1) (a1_z) (a2) (a2_z) hO.1 ha_x hz_a1 hz_a2 (by first | assumption | omega) (by first | assumption | omega) (by first | assumption | omega) (by first | assumption | omega)) (cwV 2 X.2.2.2.1 gX12_in_X12_many rfl rfl rfl (by decide +kernel) ⟨Nat.le_of_ble_eq_true rfl, Nat.le_of_ble_eq_true rfl⟩) (pre_V X hw _ ha_x rfl (by decide) rfl) rfl rfl hl.1 rfl (lv_room (Nat.le_of_ble_eq_true rfl)) dX12_in_22 ⟨Nat.le_of_ble_eq_true rfl, Nat.le_of_ble_eq_true rfl⟩) 0 0 (Nat.le_of_ble_eq_true rfl) (Nat.le_of_ble_eq_true rfl) (fun rr_18 S_19 H locs hp hw hfr hnw => ?_)
      obtain ⟨e2, hp⟩ := hp
      subst e2
      obtain ⟨f_20, f_21, f_22⟩ := hp
      refine lv_iconst (v := 1) X.1 X.2.1 dX12_in_25 (by decide) ?_
      refine lv_isub X.1 X.2.1 dX12_in_26 ?_
      refine lv_topi (fun v_23 ev_23 => ?_)
      have z_24 : v_23.toInt = rr_18.toInt - 1 := z_sub ev_23 rfl ti_1 (by omega) (by omega)
      refine k_i (rm := { frames := 1, cells := 0, slots := 0, locals := 48 }) (av := [.int (a3), .int 0, .int (v_23)]) X hw (va_runS (As := [.int (a3), .int 0, .int (v_23)]) (rest := []) (cfix X) (k_X12_within l G cy κ S _ (a3) (a3_z) (0) (0) (v_23) ((rr_18.toInt - 1)) hO.1 hz_a3 ti_0 z_24) (cwS 3 X.2.2.2.1 gX12_in_X12_within rfl rfl rfl (by decide +kernel) ⟨Nat.le_of_ble_eq_true rfl, Nat.le_of_ble_eq_true rfl⟩) (pre_S X hw _) rfl rfl hl.1 rfl (lv_room (Nat.le_of_ble_eq_true rfl)) dX12_in_27 ⟨Nat.le_of_ble_eq_true rfl, Nat.le_of_ble_eq_true rfl⟩) 0 0 (Nat.le_of_ble_eq_true rfl) (Nat.le_of_ble_eq_true rfl) (fun rr_25 S_26 H locs hp hw hfr hnw => ?_)
      obtain ⟨e2, hp⟩ := hp
      subst e2
      rcases hp with ⟨f_27, er_28⟩ | ⟨f_27, er_28⟩ <;> subst er_28
      · have z_b_29 := trivial
        refine lv_if_eq (tgt := 37) X.1 X.2.1 dX12_in_30 (by decide) (fun c_30 => absurd c_30 (by decide)) (fun c_30 => ?_)
        refine lv_iconst (v := 1) X.1 X.2.1 dX12_in_33 (by decide) ?_
        refine lv_goto (tgt := 38) X.1 X.2.1 dX12_in_34 (by decide) ?_
        refine lv_istore (lv' := [(4, .int 1), (0, .ref x), (1, .int (a1)), (2, .int (a2)), (3, .int (a3))]) X.1 X.2.1 dX12_in_38 hl (by decide) rfl (fun ls hl => ?_)
        refine lv_aload_n X.1 X.2.1 dX12_in_40 rfl (lv_at hl 1 rfl) ?_
        refine lv_iload X.1 X.2.1 dX12_in_41 (lv_at hl 0 rfl) ?_
        refine lv_if_eq (tgt := 50) X.1 X.2.1 dX12_in_43 (by decide) (fun c_31 => absurd c_31 (by decide)) (fun c_31 => ?_)
        refine lv_iconst (v := 0) X.1 X.2.1 dX12_in_46 (by decide) ?_
        refine lv_goto (tgt := 51) X.1 X.2.1 dX12_in_47 (by decide) ?_
        refine r_putI (v := 0) X hw ha_x rfl 0 1200 tyX12 (by decide) rfl inn_X12_in_12 tyX12_ok nmX12 (by decide) (X.2.2.2.1 (.fieldLink RX12 161 "SilkMillModel" "thrown" "I") (by decide +kernel)) rfl (Or.inl rfl) rfl rfl (Nat.le_of_ble_eq_true rfl) (st_1200 _ _) dX12_in_51 (fun H locs hw => ?_)
        obtain ⟨S_32, eS_32⟩ : ∃ T, T = sI S 1200 x (0) := ⟨_, rfl⟩
        rw [← eS_32] at hw
        have hO_33 : Ok MN S S_32 := hO.sI eS_32 (by decide +kernel) (uI_12_1200 hO.1 ha_x)
        have h_34 : pI S_32 1200 x = 0 := tI_sIs eS_32
        refine lv_iload X.1 X.2.1 dX12_in_54 (lv_at hl 0 rfl) ?_
        refine lv_if_eq (tgt := 86) X.1 X.2.1 dX12_in_56 (by decide) (fun c_35 => absurd c_35 (by decide)) (fun c_35 => ?_)
        refine lv_aload_n X.1 X.2.1 dX12_in_59 rfl (lv_at hl 1 rfl) ?_
        refine lv_iload_n X.1 X.2.1 dX12_in_60 rfl (lv_at hl 2 rfl) ?_
        refine lv_iload_n X.1 X.2.1 dX12_in_61 rfl (lv_at hl 3 rfl) ?_
        refine lv_iload_n X.1 X.2.1 dX12_in_62 rfl (lv_at hl 4 rfl) ?_
        have t_36 : At S_32 x 12 := tAt_sI eS_32 ha_x
        refine k_i (rm := { frames := 1, cells := 0, slots := 0, locals := 48 }) (av := [.ref x, .int (a1), .int (a2), .int (a3)]) X hw (va_runV (As := [.int (a1), .int (a2), .int (a3)]) (rest := []) (cfix X) (k_X12_at2 l G cy κ S_32 _ x (a1) (a1_z) (a2) (a2_z) (a3) (a3_z) hO_33.1 t_36 hz_a1 hz_a2 hz_a3 (by first | assumption | omega) (by first | assumption | omega) (by first | assumption | omega) (by first | assumption | omega) (by first | assumption | omega) (by first | assumption | omega)) (cwV 3 X.2.2.2.1 gX12_in_X12_at rfl rfl rfl (by decide +kernel) ⟨Nat.le_of_ble_eq_true rfl, Nat.le_of_ble_eq_true rfl⟩) (pre_V X hw _ t_36 rfl (by decide) rfl) rfl rfl hl.1 rfl (lv_room (Nat.le_of_ble_eq_true rfl)) dX12_in_63 ⟨Nat.le_of_ble_eq_true rfl, Nat.le_of_ble_eq_true rfl⟩) 0 0 (Nat.le_of_ble_eq_true rfl) (Nat.le_of_ble_eq_true rfl) (fun rr_37 S_38 H locs hp hw hfr hnw => ?_)
        obtain ⟨e2, hp⟩ := hp
        subst e2
        obtain ⟨f_39, f_40, f_41⟩ := hp
        refine lv_bipush (v := 60) X.1 X.2.1 dX12_in_66 (by decide) ?_
        refine lv_idiv X.1 X.2.1 dX12_in_68 (by decide) ?_
        refine lv_topi (fun v_42 ev_42 => ?_)
        have z_43 : v_42.toInt = rr_37.toInt / 60 := z_div ev_42 rfl ti_60 (by omega) (by omega)
        refine lv_bipush (v := 100) X.1 X.2.1 dX12_in_69 (by decide) ?_
        refine lv_imul X.1 X.2.1 dX12_in_71 ?_
        refine lv_topi (fun v_44 ev_44 => ?_)
        have z_45 : v_44.toInt = (rr_37.toInt / 60) * 100 := z_mul ev_44 z_43 ti_100 (by omega) (by omega)
        refine lv_aload_n X.1 X.2.1 dX12_in_72 rfl (lv_at hl 1 rfl) ?_
        refine lv_iload_n X.1 X.2.1 dX12_in_73 rfl (lv_at hl 2 rfl) ?_
        refine lv_iload_n X.1 X.2.1 dX12_in_74 rfl (lv_at hl 3 rfl) ?_
        refine lv_iload_n X.1 X.2.1 dX12_in_75 rfl (lv_at hl 4 rfl) ?_
        refine k_i (rm := { frames := 1, cells := 0, slots := 0, locals := 48 }) (av := [.ref x, .int (a1), .int (a2), .int (a3)]) X hw (va_runV (As := [.int (a1), .int (a2), .int (a3)]) (rest := [.int (v_44)]) (cfix X) (k_X12_at2 l G cy κ S_32 _ x (a1) (a1_z) (a2) (a2_z) (a3) (a3_z) hO_33.1 t_36 hz_a1 hz_a2 hz_a3 (by first | assumption | omega) (by first | assumption | omega) (by first | assumption | omega) (by first | assumption | omega) (by first | assumption | omega) (by first | assumption | omega)) (cwV 3 X.2.2.2.1 gX12_in_X12_at rfl rfl rfl (by decide +kernel) ⟨Nat.le_of_ble_eq_true rfl, Nat.le_of_ble_eq_true rfl⟩) (pre_V X hw _ t_36 rfl (by decide) rfl) rfl rfl hl.1 rfl (lv_room (Nat.le_of_ble_eq_true rfl)) dX12_in_76 ⟨Nat.le_of_ble_eq_true rfl, Nat.le_of_ble_eq_true rfl⟩) 0 0 (Nat.le_of_ble_eq_true rfl) (Nat.le_of_ble_eq_true rfl) (fun rr_46 S_47 H locs hp hw hfr hnw => ?_)
        obtain ⟨e2, hp⟩ := hp
        subst e2
        obtain ⟨f_48, f_49, f_50⟩ := hp
        refine lv_bipush (v := 60) X.1 X.2.1 dX12_in_79 (by decide) ?_
        refine lv_irem X.1 X.2.1 dX12_in_81 (by decide) ?_
        refine lv_topi (fun v_51 ev_51 => ?_)
        have z_52 : v_51.toInt = rr_46.toInt % 60 := z_rem ev_51 rfl ti_60 (by omega) (by omega)
        have z_53 : 0 ≤ v_51.toInt ∧ v_51.toInt < 60 := by rw [z_52]; exact ⟨Int.emod_nonneg _ (by omega), Int.emod_lt_of_pos _ (by omega)⟩
        refine lv_iadd X.1 X.2.1 dX12_in_82 ?_
        refine lv_topi (fun v_54 ev_54 => ?_)
        have z_55 : v_54.toInt = ((rr_37.toInt / 60) * 100) + (rr_46.toInt % 60) := z_add ev_54 z_45 z_52 (by omega) (by omega)
        refine lv_goto (tgt := 87) X.1 X.2.1 dX12_in_83 (by decide) ?_
        exact ret_i X hw hr hlocks (Nat.le_of_ble_eq_true rfl) (Nat.le_of_ble_eq_true rfl) ⟨hO_33, ⟨z_lo _, z_hi _, fun _ => ⟨h_34, by have e1 : (v_54 : Int32).toInt = (((rr_37.toInt / 60) * 100) + (rr_46.toInt % 60)) := z_55; have hz : zA S_32 x 1218 (600 * (3 * a1_z + a2_z) + a3_z).toNat = zA S x 1218 (600 * (3 * a1_z + a2_z) + a3_z).toNat := congrFun (zA_sI eS_32) _; unfold inZ; omega⟩, fun h => absurd (by unfold InZ; omega) h⟩⟩ dX12_in_87
      · have z_b_56 := trivial
        refine lv_if_eq (tgt := 37) X.1 X.2.1 dX12_in_30 (by decide) (fun c_57 => ?_) (fun c_57 => absurd c_57 (by decide))
        refine lv_iconst (v := 0) X.1 X.2.1 dX12_in_37 (by decide) ?_
        refine lv_istore (lv' := [(4, .int 0), (0, .ref x), (1, .int (a1)), (2, .int (a2)), (3, .int (a3))]) X.1 X.2.1 dX12_in_38 hl (by decide) rfl (fun ls hl => ?_)
        refine lv_aload_n X.1 X.2.1 dX12_in_40 rfl (lv_at hl 1 rfl) ?_
        refine lv_iload X.1 X.2.1 dX12_in_41 (lv_at hl 0 rfl) ?_
        refine lv_if_eq (tgt := 50) X.1 X.2.1 dX12_in_43 (by decide) (fun c_58 => ?_) (fun c_58 => absurd c_58 (by decide))
        refine lv_iconst (v := 1) X.1 X.2.1 dX12_in_50 (by decide) ?_
        refine r_putI (v := 1) X hw ha_x rfl 0 1200 tyX12 (by decide) rfl inn_X12_in_12 tyX12_ok nmX12 (by decide) (X.2.2.2.1 (.fieldLink RX12 161 "SilkMillModel" "thrown" "I") (by decide +kernel)) rfl (Or.inl rfl) rfl rfl (Nat.le_of_ble_eq_true rfl) (st_1200 _ _) dX12_in_51 (fun H locs hw => ?_)
        obtain ⟨S_59, eS_59⟩ : ∃ T, T = sI S 1200 x (1) := ⟨_, rfl⟩
        rw [← eS_59] at hw
        have hO_60 : Ok MN S S_59 := hO.sI eS_59 (by decide +kernel) (uI_12_1200 hO.1 ha_x)
        have h_61 : pI S_59 1200 x = 1 := tI_sIs eS_59
        refine lv_iload X.1 X.2.1 dX12_in_54 (lv_at hl 0 rfl) ?_
        refine lv_if_eq (tgt := 86) X.1 X.2.1 dX12_in_56 (by decide) (fun c_62 => ?_) (fun c_62 => absurd c_62 (by decide))
        refine lv_iconst (v := 0) X.1 X.2.1 dX12_in_86 (by decide) ?_
        exact ret_i X hw hr hlocks (Nat.le_of_ble_eq_true rfl) (Nat.le_of_ble_eq_true rfl) ⟨hO_60, ⟨z_lo _, z_hi _, fun h => absurd h (by unfold InZ; omega), fun _ => ⟨h_61, rfl⟩⟩⟩ dX12_in_87
    · have z_b_63 := trivial
      refine lv_if_eq (tgt := 37) X.1 X.2.1 dX12_in_14 (by decide) (fun c_64 => ?_) (fun c_64 => absurd c_64 (by decide))
      refine lv_iconst (v := 0) X.1 X.2.1 dX12_in_37 (by decide) ?_
      refine lv_istore (lv' := [(4, .int 0), (0, .ref x), (1, .int (a1)), (2, .int (a2)), (3, .int (a3))]) X.1 X.2.1 dX12_in_38 hl (by decide) rfl (fun ls hl => ?_)
      refine lv_aload_n X.1 X.2.1 dX12_in_40 rfl (lv_at hl 1 rfl) ?_
      refine lv_iload X.1 X.2.1 dX12_in_41 (lv_at hl 0 rfl) ?_
      refine lv_if_eq (tgt := 50) X.1 X.2.1 dX12_in_43 (by decide) (fun c_65 => ?_) (fun c_65 => absurd c_65 (by decide))
      refine lv_iconst (v := 1) X.1 X.2.1 dX12_in_50 (by decide) ?_
      refine r_putI (v := 1) X hw ha_x rfl 0 1200 tyX12 (by decide) rfl inn_X12_in_12 tyX12_ok nmX12 (by decide) (X.2.2.2.1 (.fieldLink RX12 161 "SilkMillModel" "thrown" "I") (by decide +kernel)) rfl (Or.inl rfl) rfl rfl (Nat.le_of_ble_eq_true rfl) (st_1200 _ _) dX12_in_51 (fun H locs hw => ?_)
      obtain ⟨S_66, eS_66⟩ : ∃ T, T = sI S 1200 x (1) := ⟨_, rfl⟩
      rw [← eS_66] at hw
      have hO_67 : Ok MN S S_66 := hO.sI eS_66 (by decide +kernel) (uI_12_1200 hO.1 ha_x)
      have h_68 : pI S_66 1200 x = 1 := tI_sIs eS_66
      refine lv_iload X.1 X.2.1 dX12_in_54 (lv_at hl 0 rfl) ?_
      refine lv_if_eq (tgt := 86) X.1 X.2.1 dX12_in_56 (by decide) (fun c_69 => ?_) (fun c_69 => absurd c_69 (by decide))
      refine lv_iconst (v := 0) X.1 X.2.1 dX12_in_86 (by decide) ?_
      exact ret_i X hw hr hlocks (Nat.le_of_ble_eq_true rfl) (Nat.le_of_ble_eq_true rfl) ⟨hO_67, ⟨z_lo _, z_hi _, fun h => absurd h (by unfold InZ; omega), fun _ => ⟨h_68, rfl⟩⟩⟩ dX12_in_87
  · have z_b_70 := trivial
    refine lv_if_eq (tgt := 37) X.1 X.2.1 dX12_in_5 (by decide) (fun c_71 => ?_) (fun c_71 => absurd c_71 (by decide))
    refine lv_iconst (v := 0) X.1 X.2.1 dX12_in_37 (by decide) ?_
    refine lv_istore (lv' := [(4, .int 0), (0, .ref x), (1, .int (a1)), (2, .int (a2)), (3, .int (a3))]) X.1 X.2.1 dX12_in_38 hl (by decide) rfl (fun ls hl => ?_)
    refine lv_aload_n X.1 X.2.1 dX12_in_40 rfl (lv_at hl 1 rfl) ?_
    refine lv_iload X.1 X.2.1 dX12_in_41 (lv_at hl 0 rfl) ?_
    refine lv_if_eq (tgt := 50) X.1 X.2.1 dX12_in_43 (by decide) (fun c_72 => ?_) (fun c_72 => absurd c_72 (by decide))
    refine lv_iconst (v := 1) X.1 X.2.1 dX12_in_50 (by decide) ?_
    refine r_putI (v := 1) X hw ha_x rfl 0 1200 tyX12 (by decide) rfl inn_X12_in_12 tyX12_ok nmX12 (by decide) (X.2.2.2.1 (.fieldLink RX12 161 "SilkMillModel" "thrown" "I") (by decide +kernel)) rfl (Or.inl rfl) rfl rfl (Nat.le_of_ble_eq_true rfl) (st_1200 _ _) dX12_in_51 (fun H locs hw => ?_)
    obtain ⟨S_73, eS_73⟩ : ∃ T, T = sI S 1200 x (1) := ⟨_, rfl⟩
    rw [← eS_73] at hw
    have hO_74 : Ok MN S S_73 := hO.sI eS_73 (by decide +kernel) (uI_12_1200 hO.1 ha_x)
    have h_75 : pI S_73 1200 x = 1 := tI_sIs eS_73
    refine lv_iload X.1 X.2.1 dX12_in_54 (lv_at hl 0 rfl) ?_
    refine lv_if_eq (tgt := 86) X.1 X.2.1 dX12_in_56 (by decide) (fun c_76 => ?_) (fun c_76 => absurd c_76 (by decide))
    refine lv_iconst (v := 0) X.1 X.2.1 dX12_in_86 (by decide) ?_
    exact ret_i X hw hr hlocks (Nat.le_of_ble_eq_true rfl) (Nat.le_of_ble_eq_true rfl) ⟨hO_74, ⟨z_lo _, z_hi _, fun h => absurd h (by unfold InZ; omega), fun _ => ⟨h_75, rfl⟩⟩⟩ dX12_in_87
