
set_option maxHeartbeats 4000000 in
set_option maxRecDepth 100000 in
theorem k_X5_removeAt5 (l : Launch) (G : va_G) (cy : Nat → ClassId) (κ : Nat → Nat) (S : PS) (sz : Nat) (x : Nat) (a1 : Int32) (a1_z : Int) (L : List Nat) (n : Nat) (hG : GX S) (ha_x : At S x 5) (hz_a1 : a1.toInt = a1_z) (hp_0 : RowIs S x L n) : Cq l yX5_removeAt wsX5_removeAt ({ frames := 3, cells := 0, slots := 0, locals := 144 }) G cy κ S sz [.ref x, .int (a1)] (fun (r : Option Nat) (S9 : PS) => Ok eRW S S9 ∧ ((∀ q, r = some q → At S9 q 0 ∧ 0 ≤ a1_z ∧ a1_z < (L.length : Int) ∧ L[a1_z.toNat]? = some q ∧ RowIs S9 x (L.eraseIdx a1_z.toNat) n) ∧ (r = none → ¬ (0 ≤ a1_z ∧ a1_z < (L.length : Int)) ∧ S9 = S) ∧ RowX S S9 x)) := by
  refine ent_m (cc := cX5_removeAt) (maxL := 4) (ret := (some (.object "SilkMill$Cocoon"))) (by decide) rfl (Nat.le_of_ble_eq_true rfl) ?_
  intro p e s m below meth c ls X hr hlocks hin hw hl hsz
  subst hsz
  have X : Cx p c cX5_removeAt 4 s [.ref x, .int (a1)].toArray wsX5_removeAt RX5 m G cy κ (AS S s.heap.size) := X
  have hl : lv_has ls 4 [(0, .ref x), (1, .int (a1))] := hl
  have rg_a1 : (-2147483648) ≤ a1_z ∧ a1_z ≤ 2147483647 := by rw [← hz_a1]; exact ⟨z_lo _, z_hi _⟩
  have hO : Ok eRW S S := Ok.rf hG
  generalize hQQ : MQ below _ _ _ _ _ _ = QQ
  replace hQQ := hQQ.symm
  have hp0 := hp_0
  obtain ⟨q, hrq, hrn, hrs, hrl⟩ := hp0
  have hrr := gRow_all hG ha_x hrq hrn
  have haq := hrr.1
  have hnn := hrr.2.1
  have hhd := hrr.2.2
  obtain ⟨v_1, ev_1⟩ : ∃ v, pI S 500 x = v := ⟨_, rfl⟩
  have rg_2 := gRow_500 hO.1 ha_x hrq hrn; rw [ev_1] at rg_2
  have pz_3 : (pI S 500 x).toInt = v_1.toInt := by rw [ev_1]
  have pz_4 : (pI S 500 x).toInt = v_1.toInt := (congrArg Int32.toInt ev_1).trans rfl
  obtain ⟨v_5, ev_5⟩ : ∃ v, pI S 502 x = v := ⟨_, rfl⟩
  have rg_6 := gRow_502 hO.1 ha_x hrq hrn; rw [ev_5] at rg_6
  have pz_7 : (pI S 502 x).toInt = v_5.toInt := by rw [ev_5]
  have pz_8 : (pI S 502 x).toInt = v_5.toInt := (congrArg Int32.toInt ev_5).trans rfl
  refine lv_aload_n X.1 X.2.1 dX5_removeAt_0 rfl (lv_at hl 0 rfl) ?_
  refine lv_iload_n X.1 X.2.1 dX5_removeAt_1 rfl (lv_at hl 1 rfl) ?_
  refine k_q (rm := { frames := 2, cells := 0, slots := 0, locals := 96 }) (av := [.ref x, .int (a1)]) X hw (va_runV (As := [.int (a1)]) (rest := []) (cfix X) (k_X5_at5 l G cy κ S _ x (a1) (a1_z) L n hO.1 ha_x hz_a1 hp_0) (cwV 1 X.2.2.2.1 gX5_removeAt_X5_at rfl rfl rfl (by decide +kernel) ⟨Nat.le_of_ble_eq_true rfl, Nat.le_of_ble_eq_true rfl⟩) (pre_V X hw _ ha_x rfl (by decide) rfl) rfl rfl hl.1 rfl (lv_room (Nat.le_of_ble_eq_true rfl)) dX5_removeAt_2 ⟨Nat.le_of_ble_eq_true rfl, Nat.le_of_ble_eq_true rfl⟩) 0 0 (Nat.le_of_ble_eq_true rfl) (Nat.le_of_ble_eq_true rfl) (fun rr_9 S_10 H locs hp hw hfr hnw => ?_)
  obtain ⟨e2, hp⟩ := hp
  subst e2
  obtain ⟨hq_11, hnf_12⟩ := hp
  rcases rr_9 with _ | q_13
  · refine W.eq (g2 := F0 m 5 ls (.null :: [])) rfl ?_
    have nf_14 := hnf_12 rfl
    refine lv_astore_nN (lv' := [(2, .null), (0, .ref x), (1, .int (a1))]) X.1 X.2.1 dX5_removeAt_5 rfl hl (by decide) rfl (fun ls hl => ?_)
    refine lv_aload_nN X.1 X.2.1 dX5_removeAt_6 rfl (lv_at hl 0 rfl) ?_
    refine lv_ifnonnullN X.1 X.2.1 dX5_removeAt_7 ?_
    refine lv_null X.1 X.2.1 dX5_removeAt_10 ?_
    rw [hQQ]
    exact ret_q none rfl X hw hr hlocks (Nat.le_of_ble_eq_true rfl) (Nat.le_of_ble_eq_true rfl) ⟨hO, ⟨fun q h => (by cases h), fun _ => ⟨nf_14, rfl⟩, (RowX_rf S x)⟩⟩ dX5_removeAt_11
  · refine W.eq (g2 := F0 m 5 ls (.ref q_13 :: [])) rfl ?_
    obtain ⟨ha_15, f_16, f_17, f_18⟩ := hq_11 _ rfl
    refine lv_astore_n (lv' := [(2, .ref q_13), (0, .ref x), (1, .int (a1))]) X.1 X.2.1 dX5_removeAt_5 rfl hl (by decide) rfl (fun ls hl => ?_)
    refine lv_aload_n X.1 X.2.1 dX5_removeAt_6 rfl (lv_at hl 0 rfl) ?_
    refine lv_ifnonnull (tgt := 12) X.1 X.2.1 dX5_removeAt_7 (by decide) ?_
    refine lv_iload_n X.1 X.2.1 dX5_removeAt_12 rfl (lv_at hl 2 rfl) ?_
    refine lv_istore_n (lv' := [(3, .int (a1)), (2, .ref q_13), (0, .ref x), (1, .int (a1))]) X.1 X.2.1 dX5_removeAt_13 rfl hl (by decide) rfl (fun ls hl => ?_)
    have L_19 : ∀ (nI : Nat) (T_21 : PS) (H : Heap) (locs : List Loc) (ls : Array Slot) (i3_20 : Int32) (i3_20_z : Int), ((600 - i3_20_z).toNat = nI) → (Wd G cy (AS S s.heap.size) s.heap T_21 H locs) → (i3_20.toInt = i3_20_z) → (0 ≤ i3_20_z ∧ i3_20_z ≤ 2147483647) → (At T_21 q_13 0) → (At T_21 x 5) → (Ok eRW S T_21) → (RM5 (pB T_21 q) (pI S 502 x).toInt.toNat n L a1_z.toNat (i3_20_z).toNat) → (RowX S T_21 x) → (a1_z ≤ i3_20_z ∧ i3_20_z < (L.length : Int)) → (pI T_21 500 x = v_1) → (pI T_21 502 x = v_5) → (pR T_21 501 x = some q) → (At T_21 q 16) → (pN T_21 q = n) → (lv_has ls 4 [(3, .int (i3_20)), (2, .ref q_13), (0, .ref x), (1, .int (a1))]) → W p l e ({ frames := 3, cells := 0, slots := 0, locals := 144 }) s m [.ref x, .int (a1)].toArray below meth c H locs 0 0 QQ (F0 m 14 ls []) := by
      intro nI
      induction nI using Nat.strongRecOn with
      | ind nI ih =>
      intro T_21 H locs ls i3_20 i3_20_z hn hw hz_i3_20 hr_i3_20 ha_q_13_L_22 ha_x_L_23 hO_T_21 iv_24 iv_25 iv_26 ik_27 ik_28 ik_29 ik_30 ik_31 hl
      have rg_32 : (-2147483648) ≤ i3_20_z ∧ i3_20_z ≤ 2147483647 := by rw [← hz_i3_20]; exact ⟨z_lo _, z_hi _⟩
      refine lv_iload_n X.1 X.2.1 dX5_removeAt_14 rfl (lv_at hl 0 rfl) ?_
      refine lv_aload_n X.1 X.2.1 dX5_removeAt_15 rfl (lv_at hl 2 rfl) ?_
      refine r_getI (g := 500) (x := v_1) X hw ha_x_L_23 rfl 0 ik_27 (by decide) rfl inn_X5_removeAt_5 (by decide) (X.2.2.2.1 (.fieldLink RX5 23 "SilkMill$Row" "size" "I") (by decide +kernel)) rfl (gv_500 _ _) dX5_removeAt_16 ?_
      refine lv_iconst (v := 1) X.1 X.2.1 dX5_removeAt_19 (by decide) ?_
      refine lv_isub X.1 X.2.1 dX5_removeAt_20 ?_
      refine lv_topi (fun v_33 ev_33 => ?_)
      have z_34 : v_33.toInt = v_1.toInt - 1 := z_sub ev_33 rfl ti_1 (by omega) (by omega)
      refine lv_icmp_ge (tgt := 52) X.1 X.2.1 dX5_removeAt_21 (by decide) (fun c_35 => ?_) (fun c_35 => ?_)
      · have z_b_36 := trivial
        have k_37 : i3_20_z ≥ v_33.toInt := z_le rfl hz_i3_20 c_35
        refine lv_aload_n X.1 X.2.1 dX5_removeAt_52 rfl (lv_at hl 2 rfl) ?_
        refine lv_dup X.1 X.2.1 dX5_removeAt_53 rfl ?_
        refine r_getI (g := 500) (x := v_1) X hw ha_x_L_23 rfl 0 ik_27 (by decide) rfl inn_X5_removeAt_5 (by decide) (X.2.2.2.1 (.fieldLink RX5 23 "SilkMill$Row" "size" "I") (by decide +kernel)) rfl (gv_500 _ _) dX5_removeAt_54 ?_
        refine lv_iconst (v := 1) X.1 X.2.1 dX5_removeAt_57 (by decide) ?_
        refine lv_isub X.1 X.2.1 dX5_removeAt_58 ?_
        refine lv_topi (fun v_38 ev_38 => ?_)
        have z_39 : v_38.toInt = v_1.toInt - 1 := z_sub ev_38 rfl ti_1 (by omega) (by omega)
        refine r_putI (v := v_38) X hw ha_x_L_23 rfl 0 500 tyX5 (by decide) rfl inn_X5_removeAt_5 tyX5_ok nmX5 (by decide) (X.2.2.2.1 (.fieldLink RX5 23 "SilkMill$Row" "size" "I") (by decide +kernel)) rfl (Or.inl rfl) rfl rfl (Nat.le_of_ble_eq_true rfl) (st_500 _ _) dX5_removeAt_59 (fun H locs hw => ?_)
        obtain ⟨S_40, eS_40⟩ : ∃ T, T = sI T_21 500 x (v_38) := ⟨_, rfl⟩
        rw [← eS_40] at hw
        have hO_41 : Ok eRW S S_40 := hO_T_21.sI eS_40 (by decide +kernel) (uI_5_500 hO_T_21.1 ha_x_L_23 ik_29 ik_31 (by omega) (by omega))
        have h_42 : pI S_40 500 x = v_38 := tI_sIs eS_40
        refine lv_aload_n X.1 X.2.1 dX5_removeAt_62 rfl (lv_at hl 1 rfl) ?_
        have rx_43 : RowX S S_40 x := RowX_sI iv_25 eS_40
        have t_44 : pR S_40 501 x = some q := tR_sI eS_40 ik_29
        have t_45 : pN S_40 q = n := tN_sI eS_40 ik_31
        have t_46 : pI S_40 502 x = v_5 := tI_sI eS_40 rfl ik_28
        have bb_47 : pB S_40 q = pB T_21 q := by rw [eS_40]; rfl
        have t_48 : At S_40 q_13 0 := tAt_sI eS_40 ha_q_13_L_22
        rw [hQQ]
        exact ret_q (some q_13) rfl X hw hr hlocks (Nat.le_of_ble_eq_true rfl) (Nat.le_of_ble_eq_true rfl) ⟨hO_41, ⟨fun q h => (by cases h; exact ⟨t_48, f_16, f_17, f_18, q, t_44, t_45, by rw [List.length_eraseIdx, if_pos (by omega), h_42]; omega, by rw [bb_47, show (pI S_40 502 x).toInt.toNat = (pI S 502 x).toInt.toNat from by rw [t_46]; omega]; exact RM5_e (j := (i3_20_z).toNat) (by omega) (by omega) iv_24⟩), fun h => (by cases h), rx_43⟩⟩ dX5_removeAt_63
      · have z_b_49 := trivial
        have k_50 : i3_20_z < v_33.toInt := z_nle rfl hz_i3_20 c_35
        refine lv_aload_n X.1 X.2.1 dX5_removeAt_24 rfl (lv_at hl 2 rfl) ?_
        refine r_getR (g := 501) X hw ha_x_L_23 rfl 1 ik_29 (by decide) rfl inn_X5_removeAt_5 (by decide) (X.2.2.2.1 (.fieldLink RX5 17 "SilkMill$Row" "cells" "[LSilkMill$Cocoon;") (by decide +kernel)) rfl (gv_501 _ _) dX5_removeAt_25 ?_
        refine lv_aload_n X.1 X.2.1 dX5_removeAt_28 rfl (lv_at hl 2 rfl) ?_
        refine lv_iload_n X.1 X.2.1 dX5_removeAt_29 rfl (lv_at hl 0 rfl) ?_
        refine k_i (rm := { frames := 1, cells := 0, slots := 0, locals := 48 }) (av := [.ref x, .int (i3_20)]) X hw (va_runV (As := [.int (i3_20)]) (rest := [.ref q]) (cfix X) (k_X5_cellOf5 l G cy κ T_21 _ x (i3_20) (i3_20_z) q n hO_T_21.1 ha_x_L_23 hz_i3_20 ik_29 ik_31 (by omega)) (cwV 1 X.2.2.2.1 gX5_removeAt_X5_cellOf rfl rfl rfl (by decide +kernel) ⟨Nat.le_of_ble_eq_true rfl, Nat.le_of_ble_eq_true rfl⟩) (pre_V X hw _ ha_x_L_23 rfl (by decide) rfl) rfl rfl hl.1 rfl (lv_room (Nat.le_of_ble_eq_true rfl)) dX5_removeAt_30 ⟨Nat.le_of_ble_eq_true rfl, Nat.le_of_ble_eq_true rfl⟩) 0 0 (Nat.le_of_ble_eq_true rfl) (Nat.le_of_ble_eq_true rfl) (fun rr_51 S_52 H locs hp hw hfr hnw => ?_)
        obtain ⟨e2, hp⟩ := hp
        subst e2
        obtain ⟨ce_53, ce_54, ce_55⟩ := hp
        rw [show pI T_21 502 x = pI S 502 x from ik_28.trans ev_5.symm] at ce_55
        refine lv_aload_n X.1 X.2.1 dX5_removeAt_33 rfl (lv_at hl 2 rfl) ?_
        refine r_getR (g := 501) X hw ha_x_L_23 rfl 1 ik_29 (by decide) rfl inn_X5_removeAt_5 (by decide) (X.2.2.2.1 (.fieldLink RX5 17 "SilkMill$Row" "cells" "[LSilkMill$Cocoon;") (by decide +kernel)) rfl (gv_501 _ _) dX5_removeAt_34 ?_
        refine lv_aload_n X.1 X.2.1 dX5_removeAt_37 rfl (lv_at hl 2 rfl) ?_
        refine lv_iload_n X.1 X.2.1 dX5_removeAt_38 rfl (lv_at hl 0 rfl) ?_
        refine lv_iconst (v := 1) X.1 X.2.1 dX5_removeAt_39 (by decide) ?_
        refine lv_iadd X.1 X.2.1 dX5_removeAt_40 ?_
        refine lv_topi (fun v_56 ev_56 => ?_)
        have z_57 : v_56.toInt = i3_20_z + 1 := z_add ev_56 hz_i3_20 ti_1 (by omega) (by omega)
        refine k_i (rm := { frames := 1, cells := 0, slots := 0, locals := 48 }) (av := [.ref x, .int (v_56)]) X hw (va_runV (As := [.int (v_56)]) (rest := [.ref q, .int (rr_51), .ref q]) (cfix X) (k_X5_cellOf5 l G cy κ T_21 _ x (v_56) (v_56.toInt) q n hO_T_21.1 ha_x_L_23 rfl ik_29 ik_31 (by omega)) (cwV 1 X.2.2.2.1 gX5_removeAt_X5_cellOf rfl rfl rfl (by decide +kernel) ⟨Nat.le_of_ble_eq_true rfl, Nat.le_of_ble_eq_true rfl⟩) (pre_V X hw _ ha_x_L_23 rfl (by decide) rfl) rfl rfl hl.1 rfl (lv_room (Nat.le_of_ble_eq_true rfl)) dX5_removeAt_41 ⟨Nat.le_of_ble_eq_true rfl, Nat.le_of_ble_eq_true rfl⟩) 0 0 (Nat.le_of_ble_eq_true rfl) (Nat.le_of_ble_eq_true rfl) (fun rr_58 S_59 H locs hp hw hfr hnw => ?_)
        obtain ⟨e2, hp⟩ := hp
        subst e2
        obtain ⟨ce_60, ce_61, ce_62⟩ := hp
        rw [show pI T_21 502 x = pI S 502 x from ik_28.trans ev_5.symm] at ce_62
        refine r_aald X hw ik_30 rfl (by decide) rfl (by rw [ik_31]; exact z_ix rfl (by omega) (by omega)) dX5_removeAt_44 ?_
        rcases ho_63 : pB T_21 q (Int32.toNatClampNeg (rr_58)) with _ | q_64
        · refine W.eq (g2 := F0 m 45 ls (.null :: .int (rr_51) :: .ref q :: [])) rfl ?_
          refine r_aastN (C := "SilkMill$Cocoon") X hw ik_30 rfl (by decide) rfl (by rw [ik_31]; exact z_ix rfl (by omega) (by omega)) dX5_removeAt_45 (fun H locs hw => ?_)
          obtain ⟨S_65, eS_65⟩ : ∃ T, T = sB T_21 q (va_up (pB T_21 q) (Int32.toNatClampNeg (rr_51)) none) := ⟨_, rfl⟩
          rw [← eS_65] at hw
          have hO_66 : Ok eRW S S_65 := hO_T_21.sB eS_65 ik_30 (by decide +kernel) (uB_16 hO_T_21.1 ik_30 (fun q hq => by cases hq))
          obtain ⟨x_67, ex_67⟩ : ∃ y : Int32, y = i3_20 + 1 := ⟨_, rfl⟩
          have z_68 : x_67.toInt = i3_20_z + 1 := z_add ex_67 hz_i3_20 ti_1 (by omega) (by omega)
          refine lv_iinc (v := x_67) (lv' := [(3, .int (x_67)), (2, .ref q_13), (0, .ref x), (1, .int (a1))]) X.1 X.2.1 dX5_removeAt_46 hl (k := 0) rfl (by rw [ex_67]; rfl) (by decide) rfl (fun ls hl => ?_)
          refine lv_goto (tgt := 14) X.1 X.2.1 dX5_removeAt_49 (by decide) ?_
          have t_69 : At S_65 q_13 0 := tAt_sB eS_65 ha_q_13_L_22
          have t_70 : At S_65 x 5 := tAt_sB eS_65 ha_x_L_23
          have rx_71 : RowX S S_65 x := RowX_sB iv_25 hrq eS_65
          have t_72 : pI S_65 500 x = v_1 := tI_sB eS_65 ik_27
          have t_73 : pI S_65 502 x = v_5 := tI_sB eS_65 ik_28
          have t_74 : pR S_65 501 x = some q := tR_sB eS_65 ik_29
          have t_75 : At S_65 q 16 := tAt_sB eS_65 ik_30
          have t_76 : pN S_65 q = n := tN_sB eS_65 ik_31
          exact ih _ (by omega) _ _ _ _ (x_67) (x_67.toInt) rfl hw rfl (by omega) t_69 t_70 hO_66 (by rw [show pB S_65 q = va_up (pB T_21 q) (Int32.toNatClampNeg rr_51) (pB T_21 q (Int32.toNatClampNeg rr_58)) from (by rw [eS_65]; exact (if_pos rfl).trans (by rw [ho_63])), show (x_67.toInt).toNat = (i3_20_z).toNat + 1 by omega, ← (show rix (pI S 502 x).toInt.toNat n (i3_20_z).toNat = Int32.toNatClampNeg rr_51 from (by rw [show (i3_20_z).toNat = (i3_20_z).toNat by omega]; have hzn := z_nc (x := rr_51) rfl (by omega); omega)), ← (show rix (pI S 502 x).toInt.toNat n ((i3_20_z).toNat + 1) = Int32.toNatClampNeg rr_58 from (by rw [show ((i3_20_z).toNat + 1) = (v_56.toInt).toNat by omega]; have hzn := z_nc (x := rr_58) rfl (by omega); omega))]; exact RM5_s (by omega) (by omega) (by omega) (by omega) iv_24) rx_71 (by omega) t_72 t_73 t_74 t_75 t_76 (lv_sub hl [0, 1, 2, 3] rfl)
        · refine W.eq (g2 := F0 m 45 ls (.ref q_64 :: .int (rr_51) :: .ref q :: [])) rfl ?_
          have ha_77 : At T_21 q_64 0 := gEl_16 hO_T_21.1 ik_30 _ _ ho_63
          refine r_aast X hw ik_30 rfl ha_77 rfl (by decide) (by decide) rfl rfl (by rw [ik_31]; exact z_ix rfl (by omega) (by omega)) dX5_removeAt_45 (fun H locs hw => ?_)
          obtain ⟨S_78, eS_78⟩ : ∃ T, T = sB T_21 q (va_up (pB T_21 q) (Int32.toNatClampNeg (rr_51)) (some q_64)) := ⟨_, rfl⟩
          rw [← eS_78] at hw
          have hO_79 : Ok eRW S S_78 := hO_T_21.sB eS_78 ik_30 (by decide +kernel) (uB_16 hO_T_21.1 ik_30 (fun q hq => by cases hq; exact ha_77))
          obtain ⟨x_80, ex_80⟩ : ∃ y : Int32, y = i3_20 + 1 := ⟨_, rfl⟩
          have z_81 : x_80.toInt = i3_20_z + 1 := z_add ex_80 hz_i3_20 ti_1 (by omega) (by omega)
          refine lv_iinc (v := x_80) (lv' := [(3, .int (x_80)), (2, .ref q_13), (0, .ref x), (1, .int (a1))]) X.1 X.2.1 dX5_removeAt_46 hl (k := 0) rfl (by rw [ex_80]; rfl) (by decide) rfl (fun ls hl => ?_)
          refine lv_goto (tgt := 14) X.1 X.2.1 dX5_removeAt_49 (by decide) ?_
          have t_82 : At S_78 q_13 0 := tAt_sB eS_78 ha_q_13_L_22
          have t_83 : At S_78 x 5 := tAt_sB eS_78 ha_x_L_23
          have rx_84 : RowX S S_78 x := RowX_sB iv_25 hrq eS_78
          have t_85 : pI S_78 500 x = v_1 := tI_sB eS_78 ik_27
          have t_86 : pI S_78 502 x = v_5 := tI_sB eS_78 ik_28
          have t_87 : pR S_78 501 x = some q := tR_sB eS_78 ik_29
          have t_88 : At S_78 q 16 := tAt_sB eS_78 ik_30
          have t_89 : pN S_78 q = n := tN_sB eS_78 ik_31
          exact ih _ (by omega) _ _ _ _ (x_80) (x_80.toInt) rfl hw rfl (by omega) t_82 t_83 hO_79 (by rw [show pB S_78 q = va_up (pB T_21 q) (Int32.toNatClampNeg rr_51) (pB T_21 q (Int32.toNatClampNeg rr_58)) from (by rw [eS_78]; exact (if_pos rfl).trans (by rw [ho_63])), show (x_80.toInt).toNat = (i3_20_z).toNat + 1 by omega, ← (show rix (pI S 502 x).toInt.toNat n (i3_20_z).toNat = Int32.toNatClampNeg rr_51 from (by rw [show (i3_20_z).toNat = (i3_20_z).toNat by omega]; have hzn := z_nc (x := rr_51) rfl (by omega); omega)), ← (show rix (pI S 502 x).toInt.toNat n ((i3_20_z).toNat + 1) = Int32.toNatClampNeg rr_58 from (by rw [show ((i3_20_z).toNat + 1) = (v_56.toInt).toNat by omega]; have hzn := z_nc (x := rr_58) rfl (by omega); omega))]; exact RM5_s (by omega) (by omega) (by omega) (by omega) iv_24) rx_84 (by omega) t_85 t_86 t_87 t_88 t_89 (lv_sub hl [0, 1, 2, 3] rfl)
    exact L_19 _ _ _ _ _ (a1) (a1_z) rfl hw hz_a1 (by omega) ha_15 ha_x hO (RM5_0 hrl) (RowX_rf S x) (by omega) ev_1 ev_5 hrq haq hrn (lv_sub hl [0, 1, 2, 3] rfl)
set_option maxHeartbeats 4000000 in
set_option maxRecDepth 100000 in
theorem k_X5_sumOfFineness5 (l : Launch) (G : va_G) (cy : Nat → ClassId) (κ : Nat → Nat) (S : PS) (sz : Nat) (x : Nat) (L : List Nat) (n : Nat) (hG : GX S) (ha_x : At S x 5) (hp_0 : RowIs S x L n) : Ci l yX5_sumOfFineness wsX5_sumOfFineness ({ frames := 3, cells := 0, slots := 0, locals := 144 }) G cy κ S sz [.ref x] (fun (r : Int32) (S9 : PS) => S = S9 ∧ (-2147483648 ≤ r.toInt ∧ r.toInt ≤ 2147483647 ∧ r = suL (fvS S) L)) := by
  refine ent_m (cc := cX5_sumOfFineness) (maxL := 4) (ret := (some .int)) (by decide) rfl (Nat.le_of_ble_eq_true rfl) ?_
  intro p e s m below meth c ls X hr hlocks hin hw hl hsz
  subst hsz
  have X : Cx p c cX5_sumOfFineness 4 s [.ref x].toArray wsX5_sumOfFineness RX5 m G cy κ (AS S s.heap.size) := X
  have hl : lv_has ls 4 [(0, .ref x)] := hl
  generalize hQQ : MQ below _ _ _ _ _ _ = QQ
  replace hQQ := hQQ.symm
  have hp0 := hp_0
  obtain ⟨q, hrq, hrn, hrs, hrl⟩ := hp0
  have hrr := gRow_all hG ha_x hrq hrn
  have haq := hrr.1
  have hnn := hrr.2.1
  have hhd := hrr.2.2
  obtain ⟨v_1, ev_1⟩ : ∃ v, pI S 500 x = v := ⟨_, rfl⟩
  have rg_2 := gRow_500 hG ha_x hrq hrn; rw [ev_1] at rg_2
  have pz_3 : (pI S 500 x).toInt = v_1.toInt := by rw [ev_1]
  have pz_4 : (pI S 500 x).toInt = v_1.toInt := (congrArg Int32.toInt ev_1).trans rfl
  obtain ⟨v_5, ev_5⟩ : ∃ v, pI S 502 x = v := ⟨_, rfl⟩
  have rg_6 := gRow_502 hG ha_x hrq hrn; rw [ev_5] at rg_6
  have pz_7 : (pI S 502 x).toInt = v_5.toInt := by rw [ev_5]
  have pz_8 : (pI S 502 x).toInt = v_5.toInt := (congrArg Int32.toInt ev_5).trans rfl
  refine lv_iconst (v := 0) X.1 X.2.1 dX5_sumOfFineness_0 (by decide) ?_
  refine lv_istore_n (lv' := [(1, .int 0), (0, .ref x)]) X.1 X.2.1 dX5_sumOfFineness_1 rfl hl (by decide) rfl (fun ls hl => ?_)
  refine lv_iconst (v := 0) X.1 X.2.1 dX5_sumOfFineness_2 (by decide) ?_
  refine lv_istore_n (lv' := [(2, .int 0), (1, .int 0), (0, .ref x)]) X.1 X.2.1 dX5_sumOfFineness_3 rfl hl (by decide) rfl (fun ls hl => ?_)
  have L_9 : ∀ (nI : Nat) (H : Heap) (locs : List Loc) (ls : Array Slot) (i1_10 : Int32) (i1_10_z : Int) (i2_11 : Int32) (i2_11_z : Int), ((600 - i2_11_z).toNat = nI) → (Wd G cy (AS S s.heap.size) s.heap S H locs) → (i1_10.toInt = i1_10_z) → (i2_11.toInt = i2_11_z) → (0 ≤ i2_11_z ∧ i2_11_z ≤ 600) → ((i1_10) = suL (fvS S) (L.take (i2_11_z).toNat)) → (i2_11_z ≤ (L.length : Int)) → (lv_has ls 4 [(1, .int (i1_10)), (2, .int (i2_11)), (0, .ref x)]) → W p l e ({ frames := 3, cells := 0, slots := 0, locals := 144 }) s m [.ref x].toArray below meth c H locs 0 0 QQ (F0 m 4 ls []) := by
    intro nI
    induction nI using Nat.strongRecOn with
    | ind nI ih =>
    intro H locs ls i1_10 i1_10_z i2_11 i2_11_z hn hw hz_i1_10 hz_i2_11 hr_i2_11 iv_12 iv_13 hl
    have rg_14 : (-2147483648) ≤ i1_10_z ∧ i1_10_z ≤ 2147483647 := by rw [← hz_i1_10]; exact ⟨z_lo _, z_hi _⟩
    have rg_15 : (-2147483648) ≤ i2_11_z ∧ i2_11_z ≤ 2147483647 := by rw [← hz_i2_11]; exact ⟨z_lo _, z_hi _⟩
    refine lv_iload_n X.1 X.2.1 dX5_sumOfFineness_4 rfl (lv_at hl 1 rfl) ?_
    refine lv_aload_n X.1 X.2.1 dX5_sumOfFineness_5 rfl (lv_at hl 2 rfl) ?_
    refine r_getI (g := 500) (x := v_1) X hw ha_x rfl 0 ev_1 (by decide) rfl inn_X5_sumOfFineness_5 (by decide) (X.2.2.2.1 (.fieldLink RX5 23 "SilkMill$Row" "size" "I") (by decide +kernel)) rfl (gv_500 _ _) dX5_sumOfFineness_6 ?_
    refine lv_icmp_ge (tgt := 43) X.1 X.2.1 dX5_sumOfFineness_9 (by decide) (fun c_16 => ?_) (fun c_16 => ?_)
    · have z_b_17 := trivial
      have k_18 : i2_11_z ≥ v_1.toInt := z_le rfl hz_i2_11 c_16
      refine lv_iload_n X.1 X.2.1 dX5_sumOfFineness_43 rfl (lv_at hl 0 rfl) ?_
      rw [hQQ]
      exact ret_i X hw hr hlocks (Nat.le_of_ble_eq_true rfl) (Nat.le_of_ble_eq_true rfl) ⟨rfl, ⟨z_lo _, z_hi _, by rw [iv_12, show (i2_11_z).toNat = L.length by omega, List.take_length]⟩⟩ dX5_sumOfFineness_44
    · have z_b_19 := trivial
      have k_20 : i2_11_z < v_1.toInt := z_nle rfl hz_i2_11 c_16
      refine lv_aload_n X.1 X.2.1 dX5_sumOfFineness_12 rfl (lv_at hl 2 rfl) ?_
      refine lv_iload_n X.1 X.2.1 dX5_sumOfFineness_13 rfl (lv_at hl 1 rfl) ?_
      refine k_q (rm := { frames := 2, cells := 0, slots := 0, locals := 96 }) (av := [.ref x, .int (i2_11)]) X hw (va_runV (As := [.int (i2_11)]) (rest := []) (cfix X) (k_X5_at5 l G cy κ S _ x (i2_11) (i2_11_z) L n hG ha_x hz_i2_11 hp_0) (cwV 1 X.2.2.2.1 gX5_sumOfFineness_X5_at rfl rfl rfl (by decide +kernel) ⟨Nat.le_of_ble_eq_true rfl, Nat.le_of_ble_eq_true rfl⟩) (pre_V X hw _ ha_x rfl (by decide) rfl) rfl rfl hl.1 rfl (lv_room (Nat.le_of_ble_eq_true rfl)) dX5_sumOfFineness_14 ⟨Nat.le_of_ble_eq_true rfl, Nat.le_of_ble_eq_true rfl⟩) 0 0 (Nat.le_of_ble_eq_true rfl) (Nat.le_of_ble_eq_true rfl) (fun rr_21 S_22 H locs hp hw hfr hnw => ?_)
      obtain ⟨e2, hp⟩ := hp
      subst e2
      obtain ⟨hq_23, hnf_24⟩ := hp
      rcases rr_21 with _ | q_25
      · refine W.eq (g2 := F0 m 17 ls (.null :: [])) rfl ?_
        have nf_26 := hnf_24 rfl
        refine lv_astore_nN (lv' := [(3, .null), (1, .int (i1_10)), (2, .int (i2_11)), (0, .ref x)]) X.1 X.2.1 dX5_sumOfFineness_17 rfl hl (by decide) rfl (fun ls hl => ?_)
        exact absurd ⟨by omega, by omega⟩ nf_26
      · refine W.eq (g2 := F0 m 17 ls (.ref q_25 :: [])) rfl ?_
        obtain ⟨ha_27, f_28, f_29, f_30⟩ := hq_23 _ rfl
        refine lv_astore_n (lv' := [(3, .ref q_25), (1, .int (i1_10)), (2, .int (i2_11)), (0, .ref x)]) X.1 X.2.1 dX5_sumOfFineness_17 rfl hl (by decide) rfl (fun ls hl => ?_)
        refine lv_iload_n X.1 X.2.1 dX5_sumOfFineness_18 rfl (lv_at hl 1 rfl) ?_
        refine lv_aload_n X.1 X.2.1 dX5_sumOfFineness_19 rfl (lv_at hl 0 rfl) ?_
        refine lv_ifnonnull (tgt := 27) X.1 X.2.1 dX5_sumOfFineness_20 (by decide) ?_
        refine lv_aload_n X.1 X.2.1 dX5_sumOfFineness_27 rfl (lv_at hl 0 rfl) ?_
        refine lv_aload_n X.1 X.2.1 dX5_sumOfFineness_28 rfl (lv_at hl 0 rfl) ?_
        obtain ⟨v_31, ev_31⟩ : ∃ v, pI S 4 q_25 = v := ⟨_, rfl⟩
        have rg_33 := And.intro (z_lo v_31) (z_hi v_31)
        have pz_34 : (pI S 4 q_25).toInt = v_31.toInt := by rw [ev_31]
        refine r_getI (g := 4) (x := v_31) X hw ha_27 rfl 4 ev_31 (by decide) rfl inn_X5_sumOfFineness_0 (by decide) (X.2.2.2.1 (.fieldLink RX5 38 "SilkMill$Cocoon" "drawnTo" "I") (by decide +kernel)) rfl (gv_4 _ _) dX5_sumOfFineness_29 ?_
        refine k_i (rm := { frames := 1, cells := 0, slots := 0, locals := 48 }) (av := [.ref q_25, .int (v_31)]) X hw (va_runV (As := [.int (v_31)]) (rest := [.int (i1_10)]) (cfix X) (k_X0_finenessAt2 l G cy κ S _ q_25 (v_31) (v_31.toInt) hG ha_27 rfl) (cwV 1 X.2.2.2.1 gX5_sumOfFineness_X0_finenessAt rfl rfl rfl (by decide +kernel) ⟨Nat.le_of_ble_eq_true rfl, Nat.le_of_ble_eq_true rfl⟩) (pre_V X hw _ ha_27 rfl (by decide) rfl) rfl rfl hl.1 rfl (lv_room (Nat.le_of_ble_eq_true rfl)) dX5_sumOfFineness_32 ⟨Nat.le_of_ble_eq_true rfl, Nat.le_of_ble_eq_true rfl⟩) 0 0 (Nat.le_of_ble_eq_true rfl) (Nat.le_of_ble_eq_true rfl) (fun rr_35 S_36 H locs hp hw hfr hnw => ?_)
        obtain ⟨e2, hp⟩ := hp
        subst e2
        have fn_37 := hp
        have rg_38 := And.intro (z_lo rr_35) (z_hi rr_35)
        refine lv_iadd X.1 X.2.1 dX5_sumOfFineness_35 ?_
        refine lv_topi (fun v_39 ev_39 => ?_)
        have rg_40 := And.intro (z_lo v_39) (z_hi v_39)
        refine lv_istore_n (lv' := [(1, .int (v_39)), (3, .ref q_25), (2, .int (i2_11)), (0, .ref x)]) X.1 X.2.1 dX5_sumOfFineness_36 rfl hl (by decide) rfl (fun ls hl => ?_)
        obtain ⟨x_41, ex_41⟩ : ∃ y : Int32, y = i2_11 + 1 := ⟨_, rfl⟩
        have z_42 : x_41.toInt = i2_11_z + 1 := z_add ex_41 hz_i2_11 ti_1 (by omega) (by omega)
        refine lv_iinc (v := x_41) (lv' := [(2, .int (x_41)), (1, .int (v_39)), (3, .ref q_25), (0, .ref x)]) X.1 X.2.1 dX5_sumOfFineness_37 hl (k := 2) rfl (by rw [ex_41]; rfl) (by decide) rfl (fun ls hl => ?_)
        refine lv_goto (tgt := 4) X.1 X.2.1 dX5_sumOfFineness_40 (by decide) ?_
        exact ih _ (by omega) _ _ _ (v_39) (v_39.toInt) (x_41) (x_41.toInt) rfl hw rfl rfl (by omega) (by rw [show (x_41.toInt).toNat = (i2_11_z).toNat + 1 by omega, suL_s f_30, ← iv_12, ev_39]; exact congrArg (fun y => i1_10 + y) (by unfold fvS; rw [ev_31]; exact fn_37)) (by omega) (lv_sub hl [1, 0, 3] rfl)
  exact L_9 _ _ _ _ (0) (0) (0) (0) rfl hw ti_0 ti_0 (by omega) rfl (by omega) (lv_sub hl [1, 0, 2] rfl)
set_option maxHeartbeats 4000000 in
set_option maxRecDepth 100000 in
theorem k_X5_thinnest5 (l : Launch) (G : va_G) (cy : Nat → ClassId) (κ : Nat → Nat) (S : PS) (sz : Nat) (x : Nat) (L : List Nat) (n : Nat) (hG : GX S) (ha_x : At S x 5) (hp_0 : RowIs S x L n) : Ci l yX5_thinnest wsX5_thinnest ({ frames := 3, cells := 0, slots := 0, locals := 144 }) G cy κ S sz [.ref x] (fun (r : Int32) (S9 : PS) => S = S9 ∧ (-2147483648 ≤ r.toInt ∧ r.toInt ≤ 2147483647 ∧ r.toInt = (thN (fun c => (fvS S c).toInt) L L.length).1)) := by
  refine ent_m (cc := cX5_thinnest) (maxL := 5) (ret := (some .int)) (by decide) rfl (Nat.le_of_ble_eq_true rfl) ?_
  intro p e s m below meth c ls X hr hlocks hin hw hl hsz
  subst hsz
  have X : Cx p c cX5_thinnest 5 s [.ref x].toArray wsX5_thinnest RX5 m G cy κ (AS S s.heap.size) := X
  have hl : lv_has ls 5 [(0, .ref x)] := hl
  generalize hQQ : MQ below _ _ _ _ _ _ = QQ
  replace hQQ := hQQ.symm
  have hp0 := hp_0
  obtain ⟨q, hrq, hrn, hrs, hrl⟩ := hp0
  have hrr := gRow_all hG ha_x hrq hrn
  have haq := hrr.1
  have hnn := hrr.2.1
  have hhd := hrr.2.2
  obtain ⟨v_1, ev_1⟩ : ∃ v, pI S 500 x = v := ⟨_, rfl⟩
  have rg_2 := gRow_500 hG ha_x hrq hrn; rw [ev_1] at rg_2
  have pz_3 : (pI S 500 x).toInt = v_1.toInt := by rw [ev_1]
  have pz_4 : (pI S 500 x).toInt = v_1.toInt := (congrArg Int32.toInt ev_1).trans rfl
  obtain ⟨v_5, ev_5⟩ : ∃ v, pI S 502 x = v := ⟨_, rfl⟩
  have rg_6 := gRow_502 hG ha_x hrq hrn; rw [ev_5] at rg_6
  have pz_7 : (pI S 502 x).toInt = v_5.toInt := by rw [ev_5]
  have pz_8 : (pI S 502 x).toInt = v_5.toInt := (congrArg Int32.toInt ev_5).trans rfl
  refine lv_iconst (v := (-1)) X.1 X.2.1 dX5_thinnest_0 (by decide) ?_
  refine lv_istore_n (lv' := [(1, .int (-1)), (0, .ref x)]) X.1 X.2.1 dX5_thinnest_1 rfl hl (by decide) rfl (fun ls hl => ?_)
  refine lv_ldc (v := 2147483647) X.1 X.2.1 X.2.2.2.2.1 (X.2.2.2.1 (.constant RX5 46 2147483647) (by decide +kernel)) dX5_thinnest_2 ?_
  refine lv_istore_n (lv' := [(2, .int 2147483647), (1, .int (-1)), (0, .ref x)]) X.1 X.2.1 dX5_thinnest_4 rfl hl (by decide) rfl (fun ls hl => ?_)
  refine lv_iconst (v := 0) X.1 X.2.1 dX5_thinnest_5 (by decide) ?_
  refine lv_istore_n (lv' := [(3, .int 0), (2, .int 2147483647), (1, .int (-1)), (0, .ref x)]) X.1 X.2.1 dX5_thinnest_6 rfl hl (by decide) rfl (fun ls hl => ?_)
  have L_9 : ∀ (nI : Nat) (H : Heap) (locs : List Loc) (ls : Array Slot) (i1_10 : Int32) (i1_10_z : Int) (i2_11 : Int32) (i2_11_z : Int) (i3_12 : Int32) (i3_12_z : Int), ((600 - i3_12_z).toNat = nI) → (Wd G cy (AS S s.heap.size) s.heap S H locs) → (i1_10.toInt = i1_10_z) → (i2_11.toInt = i2_11_z) → (i3_12.toInt = i3_12_z) → (0 ≤ i3_12_z ∧ i3_12_z ≤ 600) → (i1_10_z = (thN (fun c => (fvS S c).toInt) L (i3_12_z).toNat).1) → (i2_11_z = (thN (fun c => (fvS S c).toInt) L (i3_12_z).toNat).2) → (i3_12_z ≤ (L.length : Int)) → (lv_has ls 5 [(1, .int (i1_10)), (2, .int (i2_11)), (3, .int (i3_12)), (0, .ref x)]) → W p l e ({ frames := 3, cells := 0, slots := 0, locals := 144 }) s m [.ref x].toArray below meth c H locs 0 0 QQ (F0 m 7 ls []) := by
    intro nI
    induction nI using Nat.strongRecOn with
    | ind nI ih =>
    intro H locs ls i1_10 i1_10_z i2_11 i2_11_z i3_12 i3_12_z hn hw hz_i1_10 hz_i2_11 hz_i3_12 hr_i3_12 iv_13 iv_14 iv_15 hl
    have rg_16 : (-2147483648) ≤ i1_10_z ∧ i1_10_z ≤ 2147483647 := by rw [← hz_i1_10]; exact ⟨z_lo _, z_hi _⟩
    have rg_17 : (-2147483648) ≤ i2_11_z ∧ i2_11_z ≤ 2147483647 := by rw [← hz_i2_11]; exact ⟨z_lo _, z_hi _⟩
    have rg_18 : (-2147483648) ≤ i3_12_z ∧ i3_12_z ≤ 2147483647 := by rw [← hz_i3_12]; exact ⟨z_lo _, z_hi _⟩
    refine lv_iload_n X.1 X.2.1 dX5_thinnest_7 rfl (lv_at hl 2 rfl) ?_
    refine lv_aload_n X.1 X.2.1 dX5_thinnest_8 rfl (lv_at hl 3 rfl) ?_
    refine r_getI (g := 500) (x := v_1) X hw ha_x rfl 0 ev_1 (by decide) rfl inn_X5_thinnest_5 (by decide) (X.2.2.2.1 (.fieldLink RX5 23 "SilkMill$Row" "size" "I") (by decide +kernel)) rfl (gv_500 _ _) dX5_thinnest_9 ?_
    refine lv_icmp_ge (tgt := 60) X.1 X.2.1 dX5_thinnest_12 (by decide) (fun c_19 => ?_) (fun c_19 => ?_)
    · have z_b_20 := trivial
      have k_21 : i3_12_z ≥ v_1.toInt := z_le rfl hz_i3_12 c_19
      refine lv_iload_n X.1 X.2.1 dX5_thinnest_60 rfl (lv_at hl 0 rfl) ?_
      rw [hQQ]
      exact ret_i X hw hr hlocks (Nat.le_of_ble_eq_true rfl) (Nat.le_of_ble_eq_true rfl) ⟨rfl, ⟨z_lo _, z_hi _, by rw [show (i1_10).toInt = i1_10_z from hz_i1_10, iv_13, show (i3_12_z).toNat = L.length by omega]⟩⟩ dX5_thinnest_61
    · have z_b_22 := trivial
      have k_23 : i3_12_z < v_1.toInt := z_nle rfl hz_i3_12 c_19
      refine lv_aload_n X.1 X.2.1 dX5_thinnest_15 rfl (lv_at hl 3 rfl) ?_
      refine lv_iload_n X.1 X.2.1 dX5_thinnest_16 rfl (lv_at hl 2 rfl) ?_
      refine k_q (rm := { frames := 2, cells := 0, slots := 0, locals := 96 }) (av := [.ref x, .int (i3_12)]) X hw (va_runV (As := [.int (i3_12)]) (rest := []) (cfix X) (k_X5_at5 l G cy κ S _ x (i3_12) (i3_12_z) L n hG ha_x hz_i3_12 hp_0) (cwV 1 X.2.2.2.1 gX5_thinnest_X5_at rfl rfl rfl (by decide +kernel) ⟨Nat.le_of_ble_eq_true rfl, Nat.le_of_ble_eq_true rfl⟩) (pre_V X hw _ ha_x rfl (by decide) rfl) rfl rfl hl.1 rfl (lv_room (Nat.le_of_ble_eq_true rfl)) dX5_thinnest_17 ⟨Nat.le_of_ble_eq_true rfl, Nat.le_of_ble_eq_true rfl⟩) 0 0 (Nat.le_of_ble_eq_true rfl) (Nat.le_of_ble_eq_true rfl) (fun rr_24 S_25 H locs hp hw hfr hnw => ?_)
      obtain ⟨e2, hp⟩ := hp
      subst e2
      obtain ⟨hq_26, hnf_27⟩ := hp
      rcases rr_24 with _ | q_28
      · refine W.eq (g2 := F0 m 20 ls (.null :: [])) rfl ?_
        have nf_29 := hnf_27 rfl
        refine lv_astoreN (lv' := [(4, .null), (1, .int (i1_10)), (2, .int (i2_11)), (3, .int (i3_12)), (0, .ref x)]) X.1 X.2.1 dX5_thinnest_20 hl (by decide) rfl (fun ls hl => ?_)
        exact absurd ⟨by omega, by omega⟩ nf_29
      · refine W.eq (g2 := F0 m 20 ls (.ref q_28 :: [])) rfl ?_
        obtain ⟨ha_30, f_31, f_32, f_33⟩ := hq_26 _ rfl
        refine lv_astore (lv' := [(4, .ref q_28), (1, .int (i1_10)), (2, .int (i2_11)), (3, .int (i3_12)), (0, .ref x)]) X.1 X.2.1 dX5_thinnest_20 hl (by decide) rfl (fun ls hl => ?_)
        refine lv_aload X.1 X.2.1 dX5_thinnest_22 (lv_at hl 0 rfl) ?_
        refine lv_ifnull X.1 X.2.1 dX5_thinnest_24 ?_
        refine lv_aload X.1 X.2.1 dX5_thinnest_27 (lv_at hl 0 rfl) ?_
        refine lv_aload X.1 X.2.1 dX5_thinnest_29 (lv_at hl 0 rfl) ?_
        obtain ⟨v_34, ev_34⟩ : ∃ v, pI S 4 q_28 = v := ⟨_, rfl⟩
        have rg_36 := And.intro (z_lo v_34) (z_hi v_34)
        have pz_37 : (pI S 4 q_28).toInt = v_34.toInt := by rw [ev_34]
        refine r_getI (g := 4) (x := v_34) X hw ha_30 rfl 4 ev_34 (by decide) rfl inn_X5_thinnest_0 (by decide) (X.2.2.2.1 (.fieldLink RX5 38 "SilkMill$Cocoon" "drawnTo" "I") (by decide +kernel)) rfl (gv_4 _ _) dX5_thinnest_31 ?_
        refine k_i (rm := { frames := 1, cells := 0, slots := 0, locals := 48 }) (av := [.ref q_28, .int (v_34)]) X hw (va_runV (As := [.int (v_34)]) (rest := []) (cfix X) (k_X0_finenessAt2 l G cy κ S _ q_28 (v_34) (v_34.toInt) hG ha_30 rfl) (cwV 1 X.2.2.2.1 gX5_thinnest_X0_finenessAt rfl rfl rfl (by decide +kernel) ⟨Nat.le_of_ble_eq_true rfl, Nat.le_of_ble_eq_true rfl⟩) (pre_V X hw _ ha_30 rfl (by decide) rfl) rfl rfl hl.1 rfl (lv_room (Nat.le_of_ble_eq_true rfl)) dX5_thinnest_34 ⟨Nat.le_of_ble_eq_true rfl, Nat.le_of_ble_eq_true rfl⟩) 0 0 (Nat.le_of_ble_eq_true rfl) (Nat.le_of_ble_eq_true rfl) (fun rr_38 S_39 H locs hp hw hfr hnw => ?_)
        obtain ⟨e2, hp⟩ := hp
        subst e2
        have fn_40 := hp
        have rg_41 := And.intro (z_lo rr_38) (z_hi rr_38)
        refine lv_iload_n X.1 X.2.1 dX5_thinnest_37 rfl (lv_at hl 2 rfl) ?_
        refine lv_icmp_ge (tgt := 54) X.1 X.2.1 dX5_thinnest_38 (by decide) (fun c_42 => ?_) (fun c_42 => ?_)
        · have z_b_43 := trivial
          have k_44 : rr_38.toInt ≥ i2_11_z := z_le hz_i2_11 rfl c_42
          obtain ⟨x_45, ex_45⟩ : ∃ y : Int32, y = i3_12 + 1 := ⟨_, rfl⟩
          have z_46 : x_45.toInt = i3_12_z + 1 := z_add ex_45 hz_i3_12 ti_1 (by omega) (by omega)
          refine lv_iinc (v := x_45) (lv' := [(3, .int (x_45)), (4, .ref q_28), (1, .int (i1_10)), (2, .int (i2_11)), (0, .ref x)]) X.1 X.2.1 dX5_thinnest_54 hl (k := 3) rfl (by rw [ex_45]; rfl) (by decide) rfl (fun ls hl => ?_)
          refine lv_goto (tgt := 7) X.1 X.2.1 dX5_thinnest_57 (by decide) ?_
          have fe_47 : fvS S q_28 = rr_38 := by unfold fvS; rw [ev_34]; exact fn_40.symm
          have fe_48 : fvS S q_28 = rr_38 := by unfold fvS; rw [ev_34]; exact fn_40.symm
          exact ih _ (by omega) _ _ _ (i1_10) (i1_10_z) (i2_11) (i2_11_z) (x_45) (x_45.toInt) rfl hw hz_i1_10 hz_i2_11 rfl (by omega) (by rw [show (x_45.toInt).toNat = (i3_12_z).toNat + 1 by omega, thN_n f_33 (by show ¬ (fvS S q_28).toInt < _; rw [fe_47]; omega)]; exact iv_13) (by rw [show (x_45.toInt).toNat = (i3_12_z).toNat + 1 by omega, thN_n f_33 (by show ¬ (fvS S q_28).toInt < _; rw [fe_48]; omega)]; exact iv_14) (by omega) (lv_sub hl [2, 3, 0, 4] rfl)
        · have z_b_49 := trivial
          have k_50 : rr_38.toInt < i2_11_z := z_nle hz_i2_11 rfl c_42
          refine lv_aload X.1 X.2.1 dX5_thinnest_41 (lv_at hl 0 rfl) ?_
          refine lv_aload X.1 X.2.1 dX5_thinnest_43 (lv_at hl 0 rfl) ?_
          refine r_getI (g := 4) (x := v_34) X hw ha_30 rfl 4 ev_34 (by decide) rfl inn_X5_thinnest_0 (by decide) (X.2.2.2.1 (.fieldLink RX5 38 "SilkMill$Cocoon" "drawnTo" "I") (by decide +kernel)) rfl (gv_4 _ _) dX5_thinnest_45 ?_
          refine k_i (rm := { frames := 1, cells := 0, slots := 0, locals := 48 }) (av := [.ref q_28, .int (v_34)]) X hw (va_runV (As := [.int (v_34)]) (rest := []) (cfix X) (k_X0_finenessAt2 l G cy κ S _ q_28 (v_34) (v_34.toInt) hG ha_30 rfl) (cwV 1 X.2.2.2.1 gX5_thinnest_X0_finenessAt rfl rfl rfl (by decide +kernel) ⟨Nat.le_of_ble_eq_true rfl, Nat.le_of_ble_eq_true rfl⟩) (pre_V X hw _ ha_30 rfl (by decide) rfl) rfl rfl hl.1 rfl (lv_room (Nat.le_of_ble_eq_true rfl)) dX5_thinnest_48 ⟨Nat.le_of_ble_eq_true rfl, Nat.le_of_ble_eq_true rfl⟩) 0 0 (Nat.le_of_ble_eq_true rfl) (Nat.le_of_ble_eq_true rfl) (fun rr_51 S_52 H locs hp hw hfr hnw => ?_)
          obtain ⟨e2, hp⟩ := hp
          subst e2
          have fn_53 := hp
          have rg_54 := And.intro (z_lo rr_51) (z_hi rr_51)
          refine lv_istore_n (lv' := [(2, .int (rr_51)), (4, .ref q_28), (1, .int (i1_10)), (3, .int (i3_12)), (0, .ref x)]) X.1 X.2.1 dX5_thinnest_51 rfl hl (by decide) rfl (fun ls hl => ?_)
          refine lv_iload_n X.1 X.2.1 dX5_thinnest_52 rfl (lv_at hl 3 rfl) ?_
          refine lv_istore_n (lv' := [(1, .int (i3_12)), (2, .int (rr_51)), (4, .ref q_28), (3, .int (i3_12)), (0, .ref x)]) X.1 X.2.1 dX5_thinnest_53 rfl hl (by decide) rfl (fun ls hl => ?_)
          obtain ⟨x_55, ex_55⟩ : ∃ y : Int32, y = i3_12 + 1 := ⟨_, rfl⟩
          have z_56 : x_55.toInt = i3_12_z + 1 := z_add ex_55 hz_i3_12 ti_1 (by omega) (by omega)
          refine lv_iinc (v := x_55) (lv' := [(3, .int (x_55)), (1, .int (i3_12)), (2, .int (rr_51)), (4, .ref q_28), (0, .ref x)]) X.1 X.2.1 dX5_thinnest_54 hl (k := 3) rfl (by rw [ex_55]; rfl) (by decide) rfl (fun ls hl => ?_)
          refine lv_goto (tgt := 7) X.1 X.2.1 dX5_thinnest_57 (by decide) ?_
          have fe_57 : fvS S q_28 = rr_38 := by unfold fvS; rw [ev_34]; exact fn_40.symm
          have fe_58 : fvS S q_28 = rr_38 := by unfold fvS; rw [ev_34]; exact fn_40.symm
          exact ih _ (by omega) _ _ _ (i3_12) (i3_12_z) (rr_51) (rr_51.toInt) (x_55) (x_55.toInt) rfl hw hz_i3_12 rfl rfl (by omega) (by rw [show (x_55.toInt).toNat = (i3_12_z).toNat + 1 by omega, thN_y f_33 (by show (fvS S q_28).toInt < _; rw [fe_57]; omega)]; show _ = (((i3_12_z).toNat : Nat) : Int); omega) (by rw [show (x_55.toInt).toNat = (i3_12_z).toNat + 1 by omega, thN_y f_33 (by show (fvS S q_28).toInt < _; rw [fe_58]; omega)]; show _ = (fvS S q_28).toInt; rw [fe_58]; exact congrArg Int32.toInt (fn_53.trans fn_40.symm)) (by omega) (lv_sub hl [1, 2, 0, 4] rfl)
  exact L_9 _ _ _ _ ((-1)) ((-1)) (2147483647) (2147483647) (0) (0) rfl hw ti_m1 ti_2147483647 ti_0 (by omega) rfl rfl (by omega) (lv_sub hl [2, 1, 0, 3] rfl)
