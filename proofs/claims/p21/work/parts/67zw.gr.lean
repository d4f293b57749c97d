
set_option maxHeartbeats 4000000 in
set_option maxRecDepth 100000 in
theorem k_X1_drawFrom7 (l : Launch) (G : va_G) (cy : Nat → ClassId) (κ : Nat → Nat) (S : PS) (sz : Nat) (x : Nat) (s1 : Nat) (a1 : Int32) (a1_z : Int) (a2 : Int32) (a2_z : Int) (g : Nat) (n : Int) (hG : GX S) (ha_x : At S x 1) (ha_s1 : At S s1 7) (hz_a1 : a1.toInt = a1_z) (hz_a2 : a2.toInt = a2_z) (hp_0 : pR S 703 s1 = some g) (hp_1 : (pI S 902 g).toInt = n) (hp_2 : 1 ≤ a2_z) (hp_3 : a2_z ≤ 5) (hp_4 : a2_z ≤ n) : Cv l yX1_drawFrom wsX1_drawFrom ({ frames := 3, cells := 0, slots := 0, locals := 144 }) G cy κ S sz [.ref x, .ref s1, .int (a1), .int (a2)] (fun (S9 : PS) => Ok eDR S S9 ∧ (DwO S S9 x g s1 n a1 a2_z)) := by
  refine ent_m (cc := cX1_drawFrom) (maxL := 7) (ret := none) (by decide) rfl (Nat.le_of_ble_eq_true rfl) ?_
  intro p e s m below meth c ls X hr hlocks hin hw hl hsz
  subst hsz
  have X : Cx p c cX1_drawFrom 7 s [.ref x, .ref s1, .int (a1), .int (a2)].toArray wsX1_drawFrom RX1 m G cy κ (AS S s.heap.size) := X
  have hl : lv_has ls 7 [(0, .ref x), (1, .ref s1), (2, .int (a1)), (3, .int (a2))] := hl
  have rg_a1 : (-2147483648) ≤ a1_z ∧ a1_z ≤ 2147483647 := by rw [← hz_a1]; exact ⟨z_lo _, z_hi _⟩
  have rg_a2 : (-2147483648) ≤ a2_z ∧ a2_z ≤ 2147483647 := by rw [← hz_a2]; exact ⟨z_lo _, z_hi _⟩
  have hO : Ok eDR S S := Ok.rf hG
  generalize hQQ : MQ below _ _ _ _ _ _ = QQ
  replace hQQ := hQQ.symm
  have hag := sk_str hG ha_s1 hp_0
  obtain ⟨v_1, ev_1⟩ : ∃ v, pI S 902 g = v := ⟨_, rfl⟩
  have rg_2 := gI_9_902 hO.1 hag; rw [ev_1] at rg_2
  have pz_3 : (pI S 902 g).toInt = v_1.toInt := by rw [ev_1]
  have pz_4 : (pI S 902 g).toInt = v_1.toInt := (congrArg Int32.toInt ev_1).trans rfl
  obtain ⟨v_5, ev_5⟩ : ∃ v, pI S 701 s1 = v := ⟨_, rfl⟩
  have rg_7 := And.intro (z_lo v_5) (z_hi v_5)
  have pz_8 : (pI S 701 s1).toInt = v_5.toInt := by rw [ev_5]
  obtain ⟨q_9, h_10, h_11, h_12, h_15⟩ := gC_9_900 hO.1 hag
  obtain ⟨n_13, h_14⟩ : ∃ n, pN S q_9 = n := ⟨_, rfl⟩
  rw [ev_1, h_14] at h_12
  rw [h_14] at h_15
  refine lv_aload_n X.1 X.2.1 dX1_drawFrom_0 rfl (lv_at hl 0 rfl) ?_
  refine lv_iconst (v := 0) X.1 X.2.1 dX1_drawFrom_1 (by decide) ?_
  refine r_putI (v := 0) X hw ha_x rfl 1 101 tyX1 (by decide) rfl inn_X1_drawFrom_1 tyX1_ok nmX1 (by decide) (X.2.2.2.1 (.fieldLink RX1 15 "SilkMill$Draw" "size" "I") (by decide +kernel)) rfl (Or.inl rfl) rfl rfl (Nat.le_of_ble_eq_true rfl) (st_101 _ _) dX1_drawFrom_2 (fun H locs hw => ?_)
  obtain ⟨S_16, eS_16⟩ : ∃ T, T = sI S 101 x (0) := ⟨_, rfl⟩
  rw [← eS_16] at hw
  have hO_17 : Ok eDR S S_16 := hO.sI eS_16 (by decide +kernel) (uI_1_101 hO.1 ha_x (by rw [ti_0]; omega) (by rw [ti_0]; omega))
  have h_18 : pI S_16 101 x = 0 := tI_sIs eS_16
  refine lv_aload_n X.1 X.2.1 dX1_drawFrom_5 rfl (lv_at hl 0 rfl) ?_
  refine lv_iconst (v := 0) X.1 X.2.1 dX1_drawFrom_6 (by decide) ?_
  have t_19 : At S_16 x 1 := tAt_sI eS_16 ha_x
  refine r_putI (v := 0) X hw t_19 rfl 2 102 tyX1 (by decide) rfl inn_X1_drawFrom_1 tyX1_ok nmX1 (by decide) (X.2.2.2.1 (.fieldLink RX1 19 "SilkMill$Draw" "off" "I") (by decide +kernel)) rfl (Or.inl rfl) rfl rfl (Nat.le_of_ble_eq_true rfl) (st_102 _ _) dX1_drawFrom_7 (fun H locs hw => ?_)
  obtain ⟨S_20, eS_20⟩ : ∃ T, T = sI S_16 102 x (0) := ⟨_, rfl⟩
  rw [← eS_20] at hw
  have hO_21 : Ok eDR S S_20 := hO_17.sI eS_20 (by decide +kernel) (uI_1_102 hO_17.1 t_19)
  have h_22 : pI S_20 102 x = 0 := tI_sIs eS_20
  refine lv_iload_n X.1 X.2.1 dX1_drawFrom_10 rfl (lv_at hl 2 rfl) ?_
  refine lv_istore (lv' := [(4, .int (a1)), (0, .ref x), (1, .ref s1), (2, .int (a1)), (3, .int (a2))]) X.1 X.2.1 dX1_drawFrom_11 hl (by decide) rfl (fun ls hl => ?_)
  refine lv_iconst (v := 0) X.1 X.2.1 dX1_drawFrom_13 (by decide) ?_
  refine lv_istore (lv' := [(5, .int 0), (4, .int (a1)), (0, .ref x), (1, .ref s1), (2, .int (a1)), (3, .int (a2))]) X.1 X.2.1 dX1_drawFrom_14 hl (by decide) rfl (fun ls hl => ?_)
  have t_34 : pI S_16 902 g = v_1 := tI_sI eS_16 rfl ev_1
  have t_35 : pI S_20 902 g = v_1 := tI_sI eS_20 rfl t_34
  have t_37 : pI S_16 701 s1 = v_5 := tI_sI eS_16 rfl ev_5
  have t_38 : pI S_20 701 s1 = v_5 := tI_sI eS_20 rfl t_37
  have t_40 : pR S_16 703 s1 = some g := tR_sI eS_16 hp_0
  have t_41 : pR S_20 703 s1 = some g := tR_sI eS_20 t_40
  have t_44 : pR S_16 900 g = some q_9 := tR_sI eS_16 h_10
  have t_45 : pR S_20 900 g = some q_9 := tR_sI eS_20 t_44
  have t_48 : pN S_16 q_9 = n_13 := tN_sI eS_16 h_14
  clear h_14
  have t_49 : pN S_20 q_9 = n_13 := tN_sI eS_20 t_48
  clear t_48
  have L_23 : ∀ (nI : Nat) (T_26 : PS) (H : Heap) (locs : List Loc) (ls : Array Slot) (i4_24 : Int32) (i4_24_z : Int) (i5_25 : Int32) (i5_25_z : Int), ((5 - i5_25_z).toNat = nI) → (Wd G cy (AS S s.heap.size) s.heap T_26 H locs) → (i4_24.toInt = i4_24_z) → (i5_25.toInt = i5_25_z) → (0 ≤ i5_25_z ∧ i5_25_z ≤ 5) → (At T_26 s1 7) → (At T_26 x 1) → (Ok eDR S T_26) → ((pI T_26 101 x).toInt = i5_25_z) → (i5_25_z ≤ a2_z) → (lkZ (zA T_26 x 100) i5_25_z = (drF n a1 (i5_25_z).toNat).1) → ((i4_24) = (drF n a1 (i5_25_z).toNat).2) → (pI T_26 102 x = ofF (fun m => mA S g 900 m.toNat) (pI S 701 s1) (drF n a1 (i5_25_z).toNat).1) → (pI T_26 902 g = v_1) → (pI T_26 701 s1 = v_5) → (pR T_26 703 s1 = some g) → (At T_26 g 9) → (pR T_26 900 g = some q_9) → (At T_26 q_9 1654) → (pN T_26 q_9 = n_13) → (lv_has ls 7 [(4, .int (i4_24)), (5, .int (i5_25)), (0, .ref x), (1, .ref s1), (2, .int (a1)), (3, .int (a2))]) → W p l e ({ frames := 3, cells := 0, slots := 0, locals := 144 }) s m [.ref x, .ref s1, .int (a1), .int (a2)].toArray below meth c H locs 0 0 QQ (F0 m 16 ls []) := by
    intro nI
    induction nI using Nat.strongRecOn with
    | ind nI ih =>
    intro T_26 H locs ls i4_24 i4_24_z i5_25 i5_25_z hn hw hz_i4_24 hz_i5_25 hr_i5_25 ha_s1_L_27 ha_x_L_28 hO_T_26 iv_29 iv_30 iv_31 iv_32 iv_33 ik_36 ik_39 ik_42 ik_43 ik_46 ik_47 ik_50 hl
    have rg_51 : (-2147483648) ≤ i4_24_z ∧ i4_24_z ≤ 2147483647 := by rw [← hz_i4_24]; exact ⟨z_lo _, z_hi _⟩
    have rg_52 : (-2147483648) ≤ i5_25_z ∧ i5_25_z ≤ 2147483647 := by rw [← hz_i5_25]; exact ⟨z_lo _, z_hi _⟩
    obtain ⟨v_53, ev_53⟩ : ∃ v, pI T_26 101 x = v := ⟨_, rfl⟩
    have rg_54 := gI_1_101 hO_T_26.1 ha_x_L_28; rw [ev_53] at rg_54
    have pz_55 : (pI T_26 101 x).toInt = v_53.toInt := by rw [ev_53]
    have pz_56 : (pI T_26 101 x).toInt = v_53.toInt := (congrArg Int32.toInt ev_53).trans rfl
    obtain ⟨v_57, ev_57⟩ : ∃ v, pI T_26 102 x = v := ⟨_, rfl⟩
    have rg_59 := And.intro (z_lo v_57) (z_hi v_57)
    have pz_60 : (pI T_26 102 x).toInt = v_57.toInt := by rw [ev_57]
    have pz_61 : (pI T_26 102 x).toInt = v_57.toInt := (congrArg Int32.toInt ev_57).trans rfl
    refine lv_iload X.1 X.2.1 dX1_drawFrom_16 (lv_at hl 1 rfl) ?_
    refine lv_iload_n X.1 X.2.1 dX1_drawFrom_18 rfl (lv_at hl 5 rfl) ?_
    refine lv_icmp_ge (tgt := 127) X.1 X.2.1 dX1_drawFrom_19 (by decide) (fun c_62 => ?_) (fun c_62 => ?_)
    · have z_b_63 := trivial
      have k_64 : i5_25_z ≥ a2_z := z_le hz_a2 hz_i5_25 c_62
      refine lv_aload_n X.1 X.2.1 dX1_drawFrom_127 rfl (lv_at hl 2 rfl) ?_
      refine lv_aload_n X.1 X.2.1 dX1_drawFrom_128 rfl (lv_at hl 3 rfl) ?_
      refine r_getR (g := 703) X hw ha_s1_L_27 rfl 3 ik_42 (by decide) rfl inn_X1_drawFrom_7 (by decide) (X.2.2.2.1 (.fieldLink RX1 22 "SilkMill$Skein" "strand" "LSilkMill$Strand;") (by decide +kernel)) rfl (gv_703 _ _) dX1_drawFrom_129 ?_
      refine r_getI (g := 902) (x := v_1) X hw ik_43 rfl 2 ik_36 (by decide) rfl inn_X1_drawFrom_9 (by decide) (X.2.2.2.1 (.fieldLink RX1 28 "SilkMill$Strand" "metres" "I") (by decide +kernel)) rfl (gv_902 _ _) dX1_drawFrom_132 ?_
      refine lv_aload_n X.1 X.2.1 dX1_drawFrom_135 rfl (lv_at hl 2 rfl) ?_
      refine r_getI (g := 101) (x := v_53) X hw ha_x_L_28 rfl 1 ev_53 (by decide) rfl inn_X1_drawFrom_1 (by decide) (X.2.2.2.1 (.fieldLink RX1 15 "SilkMill$Draw" "size" "I") (by decide +kernel)) rfl (gv_101 _ _) dX1_drawFrom_136 ?_
      have pz_65 : (pI T_26 101 x).toInt = v_53.toInt := (congrArg Int32.toInt ev_53).trans rfl
      refine k_i (rm := { frames := 2, cells := 0, slots := 0, locals := 96 }) (av := [.int (v_1), .int (v_53)]) X hw (va_runS (As := [.int (v_1), .int (v_53)]) (rest := [.ref x]) (cfix X) (k_X1_boundOf7 l G cy κ T_26 _ (v_1) (v_1.toInt) (v_53) (v_53.toInt) hO_T_26.1 rfl rfl (by omega) (by omega) (by omega) (by omega)) (cwS 2 X.2.2.2.1 gX1_drawFrom_X1_boundOf rfl rfl rfl (by decide +kernel) ⟨Nat.le_of_ble_eq_true rfl, Nat.le_of_ble_eq_true rfl⟩) (pre_S X hw _) rfl rfl hl.1 rfl (lv_room (Nat.le_of_ble_eq_true rfl)) dX1_drawFrom_139 ⟨Nat.le_of_ble_eq_true rfl, Nat.le_of_ble_eq_true rfl⟩) 0 0 (Nat.le_of_ble_eq_true rfl) (Nat.le_of_ble_eq_true rfl) (fun rr_66 S_67 H locs hp hw hfr hnw => ?_)
      obtain ⟨e2, hp⟩ := hp
      subst e2
      obtain ⟨bd_68, bd_69, bd_70⟩ := hp
      refine r_putI (v := rr_66) X hw ha_x_L_28 rfl 3 103 tyX1 (by decide) rfl inn_X1_drawFrom_1 tyX1_ok nmX1 (by decide) (X.2.2.2.1 (.fieldLink RX1 57 "SilkMill$Draw" "bound" "I") (by decide +kernel)) rfl (Or.inl rfl) rfl rfl (Nat.le_of_ble_eq_true rfl) (st_103 _ _) dX1_drawFrom_142 (fun H locs hw => ?_)
      obtain ⟨S_71, eS_71⟩ : ∃ T, T = sI T_26 103 x (rr_66) := ⟨_, rfl⟩
      rw [← eS_71] at hw
      have hO_72 : Ok eDR S S_71 := hO_T_26.sI eS_71 (by decide +kernel) (uI_1_103 hO_T_26.1 ha_x_L_28)
      have h_73 : pI S_71 103 x = rr_66 := tI_sIs eS_71
      have t_74 : pI S_71 101 x = v_53 := tI_sI eS_71 rfl ev_53
      have pz_75 : (pI S_71 101 x).toInt = v_53.toInt := (congrArg Int32.toInt t_74).trans rfl
      have t_76 : pI S_71 102 x = v_57 := tI_sI eS_71 rfl ev_57
      have hu_77 : (v_1 : Int32).toInt = n := (by have e1 : (v_1 : Int32).toInt = v_1.toInt := rfl; omega)
      rw [hQQ]
      exact ret_v X hw hr hlocks (Nat.le_of_ble_eq_true rfl) (Nat.le_of_ble_eq_true rfl) ⟨hO_72, ⟨by omega, by rw [t_76, ← ev_57, iv_33, show (i5_25_z) = a2_z by omega], by rw [h_73, bd_70, oi_e hu_77, show (v_53.toInt) = a2_z by omega, show (v_1.toInt) = n by omega], by rw [zA_sI eS_71, show a2_z = i5_25_z by omega]; exact iv_31⟩⟩ dX1_drawFrom_145
    · have z_b_78 := trivial
      have k_79 : i5_25_z < a2_z := z_nle hz_a2 hz_i5_25 c_62
      refine lv_iload X.1 X.2.1 dX1_drawFrom_22 (lv_at hl 1 rfl) ?_
      refine lv_iconst (v := 5) X.1 X.2.1 dX1_drawFrom_24 (by decide) ?_
      refine lv_icmp_ge (tgt := 127) X.1 X.2.1 dX1_drawFrom_25 (by decide) (fun c_80 => ?_) (fun c_80 => ?_)
      · have z_b_81 := trivial
        have k_82 : i5_25_z ≥ 5 := z_le ti_5 hz_i5_25 c_80
        refine lv_aload_n X.1 X.2.1 dX1_drawFrom_127 rfl (lv_at hl 2 rfl) ?_
        refine lv_aload_n X.1 X.2.1 dX1_drawFrom_128 rfl (lv_at hl 3 rfl) ?_
        refine r_getR (g := 703) X hw ha_s1_L_27 rfl 3 ik_42 (by decide) rfl inn_X1_drawFrom_7 (by decide) (X.2.2.2.1 (.fieldLink RX1 22 "SilkMill$Skein" "strand" "LSilkMill$Strand;") (by decide +kernel)) rfl (gv_703 _ _) dX1_drawFrom_129 ?_
        refine r_getI (g := 902) (x := v_1) X hw ik_43 rfl 2 ik_36 (by decide) rfl inn_X1_drawFrom_9 (by decide) (X.2.2.2.1 (.fieldLink RX1 28 "SilkMill$Strand" "metres" "I") (by decide +kernel)) rfl (gv_902 _ _) dX1_drawFrom_132 ?_
        refine lv_aload_n X.1 X.2.1 dX1_drawFrom_135 rfl (lv_at hl 2 rfl) ?_
        refine r_getI (g := 101) (x := v_53) X hw ha_x_L_28 rfl 1 ev_53 (by decide) rfl inn_X1_drawFrom_1 (by decide) (X.2.2.2.1 (.fieldLink RX1 15 "SilkMill$Draw" "size" "I") (by decide +kernel)) rfl (gv_101 _ _) dX1_drawFrom_136 ?_
        have pz_83 : (pI T_26 101 x).toInt = v_53.toInt := (congrArg Int32.toInt ev_53).trans rfl
        refine k_i (rm := { frames := 2, cells := 0, slots := 0, locals := 96 }) (av := [.int (v_1), .int (v_53)]) X hw (va_runS (As := [.int (v_1), .int (v_53)]) (rest := [.ref x]) (cfix X) (k_X1_boundOf7 l G cy κ T_26 _ (v_1) (v_1.toInt) (v_53) (v_53.toInt) hO_T_26.1 rfl rfl (by omega) (by omega) (by omega) (by omega)) (cwS 2 X.2.2.2.1 gX1_drawFrom_X1_boundOf rfl rfl rfl (by decide +kernel) ⟨Nat.le_of_ble_eq_true rfl, Nat.le_of_ble_eq_true rfl⟩) (pre_S X hw _) rfl rfl hl.1 rfl (lv_room (Nat.le_of_ble_eq_true rfl)) dX1_drawFrom_139 ⟨Nat.le_of_ble_eq_true rfl, Nat.le_of_ble_eq_true rfl⟩) 0 0 (Nat.le_of_ble_eq_true rfl) (Nat.le_of_ble_eq_true rfl) (fun rr_84 S_85 H locs hp hw hfr hnw => ?_)
        obtain ⟨e2, hp⟩ := hp
        subst e2
        obtain ⟨bd_86, bd_87, bd_88⟩ := hp
        refine r_putI (v := rr_84) X hw ha_x_L_28 rfl 3 103 tyX1 (by decide) rfl inn_X1_drawFrom_1 tyX1_ok nmX1 (by decide) (X.2.2.2.1 (.fieldLink RX1 57 "SilkMill$Draw" "bound" "I") (by decide +kernel)) rfl (Or.inl rfl) rfl rfl (Nat.le_of_ble_eq_true rfl) (st_103 _ _) dX1_drawFrom_142 (fun H locs hw => ?_)
        obtain ⟨S_89, eS_89⟩ : ∃ T, T = sI T_26 103 x (rr_84) := ⟨_, rfl⟩
        rw [← eS_89] at hw
        have hO_90 : Ok eDR S S_89 := hO_T_26.sI eS_89 (by decide +kernel) (uI_1_103 hO_T_26.1 ha_x_L_28)
        have h_91 : pI S_89 103 x = rr_84 := tI_sIs eS_89
        have t_92 : pI S_89 101 x = v_53 := tI_sI eS_89 rfl ev_53
        have pz_93 : (pI S_89 101 x).toInt = v_53.toInt := (congrArg Int32.toInt t_92).trans rfl
        have t_94 : pI S_89 102 x = v_57 := tI_sI eS_89 rfl ev_57
        have hu_95 : (v_1 : Int32).toInt = n := (by have e1 : (v_1 : Int32).toInt = v_1.toInt := rfl; omega)
        rw [hQQ]
        exact ret_v X hw hr hlocks (Nat.le_of_ble_eq_true rfl) (Nat.le_of_ble_eq_true rfl) ⟨hO_90, ⟨by omega, by rw [t_94, ← ev_57, iv_33, show (i5_25_z) = a2_z by omega], by rw [h_91, bd_88, oi_e hu_95, show (v_53.toInt) = a2_z by omega, show (v_1.toInt) = n by omega], by rw [zA_sI eS_89, show a2_z = i5_25_z by omega]; exact iv_31⟩⟩ dX1_drawFrom_145
      · have z_b_96 := trivial
        have k_97 : i5_25_z < 5 := z_nle ti_5 hz_i5_25 c_80
        refine lv_aload_n X.1 X.2.1 dX1_drawFrom_28 rfl (lv_at hl 3 rfl) ?_
        refine r_getR (g := 703) X hw ha_s1_L_27 rfl 3 ik_42 (by decide) rfl inn_X1_drawFrom_7 (by decide) (X.2.2.2.1 (.fieldLink RX1 22 "SilkMill$Skein" "strand" "LSilkMill$Strand;") (by decide +kernel)) rfl (gv_703 _ _) dX1_drawFrom_29 ?_
        refine r_getI (g := 902) (x := v_1) X hw ik_43 rfl 2 ik_36 (by decide) rfl inn_X1_drawFrom_9 (by decide) (X.2.2.2.1 (.fieldLink RX1 28 "SilkMill$Strand" "metres" "I") (by decide +kernel)) rfl (gv_902 _ _) dX1_drawFrom_32 ?_
        refine lv_if_le (tgt := 127) X.1 X.2.1 dX1_drawFrom_35 (by decide) (fun c_98 => ?_) (fun c_98 => ?_)
        · have z_b_99 := trivial
          have k_100 : v_1.toInt ≤ 0 := z_le rfl ti_0 c_98
          refine lv_aload_n X.1 X.2.1 dX1_drawFrom_127 rfl (lv_at hl 2 rfl) ?_
          refine lv_aload_n X.1 X.2.1 dX1_drawFrom_128 rfl (lv_at hl 3 rfl) ?_
          refine r_getR (g := 703) X hw ha_s1_L_27 rfl 3 ik_42 (by decide) rfl inn_X1_drawFrom_7 (by decide) (X.2.2.2.1 (.fieldLink RX1 22 "SilkMill$Skein" "strand" "LSilkMill$Strand;") (by decide +kernel)) rfl (gv_703 _ _) dX1_drawFrom_129 ?_
          refine r_getI (g := 902) (x := v_1) X hw ik_43 rfl 2 ik_36 (by decide) rfl inn_X1_drawFrom_9 (by decide) (X.2.2.2.1 (.fieldLink RX1 28 "SilkMill$Strand" "metres" "I") (by decide +kernel)) rfl (gv_902 _ _) dX1_drawFrom_132 ?_
          refine lv_aload_n X.1 X.2.1 dX1_drawFrom_135 rfl (lv_at hl 2 rfl) ?_
          refine r_getI (g := 101) (x := v_53) X hw ha_x_L_28 rfl 1 ev_53 (by decide) rfl inn_X1_drawFrom_1 (by decide) (X.2.2.2.1 (.fieldLink RX1 15 "SilkMill$Draw" "size" "I") (by decide +kernel)) rfl (gv_101 _ _) dX1_drawFrom_136 ?_
          have pz_101 : (pI T_26 101 x).toInt = v_53.toInt := (congrArg Int32.toInt ev_53).trans rfl
          refine k_i (rm := { frames := 2, cells := 0, slots := 0, locals := 96 }) (av := [.int (v_1), .int (v_53)]) X hw (va_runS (As := [.int (v_1), .int (v_53)]) (rest := [.ref x]) (cfix X) (k_X1_boundOf7 l G cy κ T_26 _ (v_1) (v_1.toInt) (v_53) (v_53.toInt) hO_T_26.1 rfl rfl (by omega) (by omega) (by omega) (by omega)) (cwS 2 X.2.2.2.1 gX1_drawFrom_X1_boundOf rfl rfl rfl (by decide +kernel) ⟨Nat.le_of_ble_eq_true rfl, Nat.le_of_ble_eq_true rfl⟩) (pre_S X hw _) rfl rfl hl.1 rfl (lv_room (Nat.le_of_ble_eq_true rfl)) dX1_drawFrom_139 ⟨Nat.le_of_ble_eq_true rfl, Nat.le_of_ble_eq_true rfl⟩) 0 0 (Nat.le_of_ble_eq_true rfl) (Nat.le_of_ble_eq_true rfl) (fun rr_102 S_103 H locs hp hw hfr hnw => ?_)
          obtain ⟨e2, hp⟩ := hp
          subst e2
          obtain ⟨bd_104, bd_105, bd_106⟩ := hp
          refine r_putI (v := rr_102) X hw ha_x_L_28 rfl 3 103 tyX1 (by decide) rfl inn_X1_drawFrom_1 tyX1_ok nmX1 (by decide) (X.2.2.2.1 (.fieldLink RX1 57 "SilkMill$Draw" "bound" "I") (by decide +kernel)) rfl (Or.inl rfl) rfl rfl (Nat.le_of_ble_eq_true rfl) (st_103 _ _) dX1_drawFrom_142 (fun H locs hw => ?_)
          obtain ⟨S_107, eS_107⟩ : ∃ T, T = sI T_26 103 x (rr_102) := ⟨_, rfl⟩
          rw [← eS_107] at hw
          have hO_108 : Ok eDR S S_107 := hO_T_26.sI eS_107 (by decide +kernel) (uI_1_103 hO_T_26.1 ha_x_L_28)
          have h_109 : pI S_107 103 x = rr_102 := tI_sIs eS_107
          have t_110 : pI S_107 101 x = v_53 := tI_sI eS_107 rfl ev_53
          have pz_111 : (pI S_107 101 x).toInt = v_53.toInt := (congrArg Int32.toInt t_110).trans rfl
          have t_112 : pI S_107 102 x = v_57 := tI_sI eS_107 rfl ev_57
          have hu_113 : (v_1 : Int32).toInt = n := (by have e1 : (v_1 : Int32).toInt = v_1.toInt := rfl; omega)
          rw [hQQ]
          exact ret_v X hw hr hlocks (Nat.le_of_ble_eq_true rfl) (Nat.le_of_ble_eq_true rfl) ⟨hO_108, ⟨by omega, by rw [t_112, ← ev_57, iv_33, show (i5_25_z) = a2_z by omega], by rw [h_109, bd_106, oi_e hu_113, show (v_53.toInt) = a2_z by omega, show (v_1.toInt) = n by omega], by rw [zA_sI eS_107, show a2_z = i5_25_z by omega]; exact iv_31⟩⟩ dX1_drawFrom_145
        · have z_b_114 := trivial
          have k_115 : v_1.toInt > 0 := z_nle rfl ti_0 c_98
          refine lv_iload X.1 X.2.1 dX1_drawFrom_38 (lv_at hl 0 rfl) ?_
          refine k_i (rm := { frames := 1, cells := 0, slots := 0, locals := 48 }) (av := [.int (i4_24)]) X hw (va_runSN (As := [.int (i4_24)]) (rest := []) (cfix X) (k_X11_next2 l G cy κ T_26 _ (i4_24) (i4_24_z) hO_T_26.1 hz_i4_24) ⟨(va_cnB (host := RX11) 1 X.2.2.2.1 gX1_drawFrom_X11_next_n32 rfl rfl rfl (X.2.2.2.2.2.2.2.1.2.1 (RX1, 32, yX11_next) (by decide +kernel)) (X.2.2.2.1 (.initialized RX11) (by decide +kernel)) (by decide +kernel) ⟨Nat.le_of_ble_eq_true rfl, Nat.le_of_ble_eq_true rfl⟩), (X.2.2.2.1 (.static yX11_next) (by decide +kernel)), trivial⟩ (pre_S X hw _) rfl rfl hl.1 rfl (lv_room (Nat.le_of_ble_eq_true rfl)) dX1_drawFrom_40 ⟨Nat.le_of_ble_eq_true rfl, Nat.le_of_ble_eq_true rfl⟩) 0 0 (Nat.le_of_ble_eq_true rfl) (Nat.le_of_ble_eq_true rfl) (fun rr_116 S_117 H locs hp hw hfr hnw => ?_)
          obtain ⟨e2, hp⟩ := hp
          subst e2
          have nx_118 : rr_116 = nxt (i4_24) := hp
          have rg_119 := And.intro (z_lo rr_116) (z_hi rr_116)
          refine lv_istore (lv' := [(4, .int (rr_116)), (5, .int (i5_25)), (0, .ref x), (1, .ref s1), (2, .int (a1)), (3, .int (a2))]) X.1 X.2.1 dX1_drawFrom_43 hl (by decide) rfl (fun ls hl => ?_)
          refine lv_aload_n X.1 X.2.1 dX1_drawFrom_45 rfl (lv_at hl 2 rfl) ?_
          refine lv_iload X.1 X.2.1 dX1_drawFrom_46 (lv_at hl 0 rfl) ?_
          refine lv_bipush (v := 16) X.1 X.2.1 dX1_drawFrom_48 (by decide) ?_
          refine lv_iushr X.1 X.2.1 dX1_drawFrom_50 rfl ?_
          refine lv_topi (fun v_120 ev_120 => ?_)
          have z_121 : 0 ≤ v_120.toInt ∧ v_120.toInt ≤ 65535 := z_ushr16 ev_120
          refine lv_aload_n X.1 X.2.1 dX1_drawFrom_51 rfl (lv_at hl 3 rfl) ?_
          refine r_getR (g := 703) X hw ha_s1_L_27 rfl 3 ik_42 (by decide) rfl inn_X1_drawFrom_7 (by decide) (X.2.2.2.1 (.fieldLink RX1 22 "SilkMill$Skein" "strand" "LSilkMill$Strand;") (by decide +kernel)) rfl (gv_703 _ _) dX1_drawFrom_52 ?_
          refine r_getI (g := 902) (x := v_1) X hw ik_43 rfl 2 ik_36 (by decide) rfl inn_X1_drawFrom_9 (by decide) (X.2.2.2.1 (.fieldLink RX1 28 "SilkMill$Strand" "metres" "I") (by decide +kernel)) rfl (gv_902 _ _) dX1_drawFrom_55 ?_
          refine lv_irem X.1 X.2.1 dX1_drawFrom_58 (z_nz rfl (by omega)) ?_
          refine lv_topi (fun v_122 ev_122 => ?_)
          have z_123 : v_122.toInt = v_120.toInt % v_1.toInt := z_rem ev_122 rfl rfl (by omega) (by omega)
          have z_124 : 0 ≤ v_122.toInt ∧ v_122.toInt < v_1.toInt := by rw [z_123]; exact ⟨Int.emod_nonneg _ (by omega), Int.emod_lt_of_pos _ (by omega)⟩
          have dp_125 : v_122 = prt rr_116 (v_1) := (by subst_vars; rfl)
          refine lv_aload_n X.1 X.2.1 dX1_drawFrom_59 rfl (lv_at hl 3 rfl) ?_
          refine r_getR (g := 703) X hw ha_s1_L_27 rfl 3 ik_42 (by decide) rfl inn_X1_drawFrom_7 (by decide) (X.2.2.2.1 (.fieldLink RX1 22 "SilkMill$Skein" "strand" "LSilkMill$Strand;") (by decide +kernel)) rfl (gv_703 _ _) dX1_drawFrom_60 ?_
          refine r_getI (g := 902) (x := v_1) X hw ik_43 rfl 2 ik_36 (by decide) rfl inn_X1_drawFrom_9 (by decide) (X.2.2.2.1 (.fieldLink RX1 28 "SilkMill$Strand" "metres" "I") (by decide +kernel)) rfl (gv_902 _ _) dX1_drawFrom_63 ?_
          have pz_126 : (pI T_26 101 x).toInt = v_53.toInt := (congrArg Int32.toInt ev_53).trans rfl
          refine k_i (rm := { frames := 2, cells := 0, slots := 0, locals := 96 }) (av := [.ref x, .int (v_122), .int (v_1)]) X hw (va_runV (As := [.int (v_122), .int (v_1)]) (rest := []) (cfix X) (k_X1_notDrawnFrom7 l G cy κ T_26 _ x (v_122) (v_122.toInt) (v_1) (v_1.toInt) (i5_25_z) hO_T_26.1 ha_x_L_28 rfl rfl (by omega) (by omega) (by omega) (by omega)) (cwV 2 X.2.2.2.1 gX1_drawFrom_X1_notDrawnFrom rfl rfl rfl (by decide +kernel) ⟨Nat.le_of_ble_eq_true rfl, Nat.le_of_ble_eq_true rfl⟩) (pre_V X hw _ ha_x_L_28 rfl (by decide) rfl) rfl rfl hl.1 rfl (lv_room (Nat.le_of_ble_eq_true rfl)) dX1_drawFrom_66 ⟨Nat.le_of_ble_eq_true rfl, Nat.le_of_ble_eq_true rfl⟩) 0 0 (Nat.le_of_ble_eq_true rfl) (Nat.le_of_ble_eq_true rfl) (fun rr_127 S_128 H locs hp hw hfr hnw => ?_)
          obtain ⟨e2, hp⟩ := hp
          subst e2
          obtain ⟨nd_129, nd_130, nd_131⟩ := hp
          refine lv_istore (lv' := [(6, .int (rr_127)), (4, .int (rr_116)), (5, .int (i5_25)), (0, .ref x), (1, .ref s1), (2, .int (a1)), (3, .int (a2))]) X.1 X.2.1 dX1_drawFrom_69 hl (by decide) rfl (fun ls hl => ?_)
          refine lv_aload_n X.1 X.2.1 dX1_drawFrom_71 rfl (lv_at hl 3 rfl) ?_
          obtain ⟨q_132, h_133, h_134, h_135⟩ := gQ_1_100 hO_T_26.1 ha_x_L_28
          refine r_getR (g := 100) X hw ha_x_L_28 rfl 0 h_133 (by decide) rfl inn_X1_drawFrom_1 (by decide) (X.2.2.2.1 (.fieldLink RX1 9 "SilkMill$Draw" "metres" "[I") (by decide +kernel)) rfl (gv_100 _ _) dX1_drawFrom_72 ?_
          refine lv_aload_n X.1 X.2.1 dX1_drawFrom_75 rfl (lv_at hl 3 rfl) ?_
          refine r_getI (g := 101) (x := v_53) X hw ha_x_L_28 rfl 1 ev_53 (by decide) rfl inn_X1_drawFrom_1 (by decide) (X.2.2.2.1 (.fieldLink RX1 15 "SilkMill$Draw" "size" "I") (by decide +kernel)) rfl (gv_101 _ _) dX1_drawFrom_76 ?_
          refine lv_iload X.1 X.2.1 dX1_drawFrom_79 (lv_at hl 0 rfl) ?_
          refine r_iast X hw h_134 rfl (by rw [h_135]; exact z_ix rfl (by omega) (by omega)) dX1_drawFrom_81 (fun H locs hw => ?_)
          obtain ⟨S_136, eS_136⟩ : ∃ T, T = sA T_26 q_132 (upd (pA T_26 q_132) (Int32.toNatClampNeg (v_53)) (rr_127)) := ⟨_, rfl⟩
          rw [← eS_136] at hw
          have hO_137 : Ok eDR S S_136 := hO_T_26.sA eS_136 h_134 (by decide +kernel) (uA_74 hO_T_26.1 h_134)
          have h_138 : pA S_136 q_132 (Int32.toNatClampNeg (v_53)) = rr_127 := tA_sAs eS_136
          have t_139 : pR S_136 100 x = some q_132 := tR_sA eS_136 h_133
          have t_141 : pR T_26 100 x = some q_132 := by have h := t_139; rw [eS_136, pR_sA] at h; exact h
          have zs_140 : ∀ j, zA S_136 x 100 j = if j = (v_53.toInt).toNat then rr_127.toInt else zA T_26 x 100 j := by have h := zA_sAs eS_136 t_141 rfl; rw [z_nc rfl (by omega)] at h; exact h
          refine lv_aload_n X.1 X.2.1 dX1_drawFrom_82 rfl (lv_at hl 3 rfl) ?_
          refine lv_dup X.1 X.2.1 dX1_drawFrom_83 rfl ?_
          have t_142 : At S_136 x 1 := tAt_sA eS_136 ha_x_L_28
          have t_143 : pI S_136 101 x = v_53 := tI_sA eS_136 ev_53
          refine r_getI (g := 101) (x := v_53) X hw t_142 rfl 1 t_143 (by decide) rfl inn_X1_drawFrom_1 (by decide) (X.2.2.2.1 (.fieldLink RX1 15 "SilkMill$Draw" "size" "I") (by decide +kernel)) rfl (gv_101 _ _) dX1_drawFrom_84 ?_
          refine lv_iconst (v := 1) X.1 X.2.1 dX1_drawFrom_87 (by decide) ?_
          refine lv_iadd X.1 X.2.1 dX1_drawFrom_88 ?_
          refine lv_topi (fun v_144 ev_144 => ?_)
          have z_145 : v_144.toInt = v_53.toInt + 1 := z_add ev_144 rfl ti_1 (by omega) (by omega)
          refine r_putI (v := v_144) X hw t_142 rfl 1 101 tyX1 (by decide) rfl inn_X1_drawFrom_1 tyX1_ok nmX1 (by decide) (X.2.2.2.1 (.fieldLink RX1 15 "SilkMill$Draw" "size" "I") (by decide +kernel)) rfl (Or.inl rfl) rfl rfl (Nat.le_of_ble_eq_true rfl) (st_101 _ _) dX1_drawFrom_89 (fun H locs hw => ?_)
          obtain ⟨S_146, eS_146⟩ : ∃ T, T = sI S_136 101 x (v_144) := ⟨_, rfl⟩
          rw [← eS_146] at hw
          have hO_147 : Ok eDR S S_146 := hO_137.sI eS_146 (by decide +kernel) (uI_1_101 hO_137.1 t_142 (by omega) (by omega))
          have h_148 : pI S_146 101 x = v_144 := tI_sIs eS_146
          refine lv_aload_n X.1 X.2.1 dX1_drawFrom_92 rfl (lv_at hl 3 rfl) ?_
          refine lv_aload_n X.1 X.2.1 dX1_drawFrom_93 rfl (lv_at hl 3 rfl) ?_
          have t_149 : At S_146 x 1 := tAt_sI eS_146 t_142
          have t_150 : pI S_136 102 x = v_57 := tI_sA eS_136 ev_57
          have t_151 : pI S_146 102 x = v_57 := tI_sI eS_146 rfl t_150
          refine r_getI (g := 102) (x := v_57) X hw t_149 rfl 2 t_151 (by decide) rfl inn_X1_drawFrom_1 (by decide) (X.2.2.2.1 (.fieldLink RX1 19 "SilkMill$Draw" "off" "I") (by decide +kernel)) rfl (gv_102 _ _) dX1_drawFrom_94 ?_
          refine lv_aload_n X.1 X.2.1 dX1_drawFrom_97 rfl (lv_at hl 4 rfl) ?_
          have t_152 : At S_136 s1 7 := tAt_sA eS_136 ha_s1_L_27
          have t_153 : At S_146 s1 7 := tAt_sI eS_146 t_152
          have t_154 : pR S_136 703 s1 = some g := tR_sA eS_136 ik_42
          have t_155 : pR S_146 703 s1 = some g := tR_sI eS_146 t_154
          refine r_getR (g := 703) X hw t_153 rfl 3 t_155 (by decide) rfl inn_X1_drawFrom_7 (by decide) (X.2.2.2.1 (.fieldLink RX1 22 "SilkMill$Skein" "strand" "LSilkMill$Strand;") (by decide +kernel)) rfl (gv_703 _ _) dX1_drawFrom_98 ?_
          have t_156 : At S_136 g 9 := tAt_sA eS_136 ik_43
          have t_157 : At S_146 g 9 := tAt_sI eS_146 t_156
          have t_158 : pR S_136 900 g = some q_9 := tR_sA eS_136 ik_46
          have t_159 : pR S_146 900 g = some q_9 := tR_sI eS_146 t_158
          refine r_getR (g := 900) X hw t_157 rfl 0 t_159 (by decide) rfl inn_X1_drawFrom_9 (by decide) (X.2.2.2.1 (.fieldLink RX1 40 "SilkMill$Strand" "fineness" "[I") (by decide +kernel)) rfl (gv_900 _ _) dX1_drawFrom_101 ?_
          refine lv_iload X.1 X.2.1 dX1_drawFrom_104 (lv_at hl 0 rfl) ?_
          have t_160 : At S_136 q_9 1654 := tAt_sA eS_136 ik_47
          have t_161 : At S_146 q_9 1654 := tAt_sI eS_146 t_160
          have t_162 : pN S_136 q_9 = n_13 := tN_sA eS_136 ik_50
          have t_163 : pN S_146 q_9 = n_13 := tN_sI eS_146 t_162
          clear t_162
          refine r_iald X hw t_161 rfl (by rw [t_163]; exact z_ix rfl (by omega) (by omega)) dX1_drawFrom_106 ?_
          refine lv_topi (fun v_164 ev_164 => ?_)
          have rg_165 := And.intro (z_lo v_164) (z_hi v_164)
          have ev_164 := ev_164.symm
          have bb_166 : pA S_136 q_9 = pA T_26 q_9 := by rw [eS_136]; exact if_neg (At_ne ik_47 h_134 (by decide))
          have bb_167 : pA S_146 q_9 = pA T_26 q_9 := (show pA S_146 q_9 = pA S_136 q_9 from by rw [eS_146]; rfl).trans bb_166
          have hA_169 : pA T_26 q_9 = pA S q_9 := hO_T_26.fr.A' (by decide +kernel) h_11
          have fu_168 : v_164 = mA S g 900 (rr_127.toInt).toNat := by rw [mA_eq h_10, ← hA_169, ← bb_167, ← z_nc rfl (by omega)]; exact ev_164.symm
          refine lv_aload_n X.1 X.2.1 dX1_drawFrom_107 rfl (lv_at hl 4 rfl) ?_
          have t_170 : pI S_136 701 s1 = v_5 := tI_sA eS_136 ik_39
          have t_171 : pI S_146 701 s1 = v_5 := tI_sI eS_146 rfl t_170
          refine r_getI (g := 701) (x := v_5) X hw t_153 rfl 1 t_171 (by decide) rfl inn_X1_drawFrom_7 (by decide) (X.2.2.2.1 (.fieldLink RX1 43 "SilkMill$Skein" "aim" "I") (by decide +kernel)) rfl (gv_701 _ _) dX1_drawFrom_108 ?_
          refine lv_isub X.1 X.2.1 dX1_drawFrom_111 ?_
          refine lv_topi (fun v_172 ev_172 => ?_)
          have rg_173 := And.intro (z_lo v_172) (z_hi v_172)
          refine va_mabs X.1 X.2.1 (X.2.2.1.trans hl.1.symm) X.2.2.2.2.1 (X.2.2.2.1 (.methodLink RX1 46 Lib.Math.abs.name) (by decide +kernel)) (X.2.2.2.1 (.static Lib.Math.abs.name) (by decide +kernel)) (X.2.2.2.1 (.initialized "java/lang/Math") (by decide +kernel)) (X.2.2.2.1 (.code Lib.Math.abs.name Lib.Math.abs.code 1 (some .int)) (by decide +kernel)) (Nat.le_of_ble_eq_true rfl) (Nat.le_of_ble_eq_true rfl) (Nat.le_of_ble_eq_true rfl) (Nat.le_of_ble_eq_true rfl) dX1_drawFrom_112 ?_
          refine lv_topi (fun v_174 ev_174 => ?_)
          have rg_176 := And.intro (z_lo v_174) (z_hi v_174)
          refine va_mmax X.1 X.2.1 (X.2.2.1.trans hl.1.symm) X.2.2.2.2.1 (X.2.2.2.1 (.methodLink RX1 51 Lib.Math.max.name) (by decide +kernel)) (X.2.2.2.1 (.static Lib.Math.max.name) (by decide +kernel)) (X.2.2.2.1 (.initialized "java/lang/Math") (by decide +kernel)) (X.2.2.2.1 (.code Lib.Math.max.name Lib.Math.max.code 2 (some .int)) (by decide +kernel)) (Nat.le_of_ble_eq_true rfl) (Nat.le_of_ble_eq_true rfl) (Nat.le_of_ble_eq_true rfl) (Nat.le_of_ble_eq_true rfl) dX1_drawFrom_115 ?_
          refine lv_topi (fun v_177 ev_177 => ?_)
          have z_178 := z_max ev_177 rfl rfl
          refine r_putI (v := v_177) X hw t_149 rfl 2 102 tyX1 (by decide) rfl inn_X1_drawFrom_1 tyX1_ok nmX1 (by decide) (X.2.2.2.1 (.fieldLink RX1 19 "SilkMill$Draw" "off" "I") (by decide +kernel)) rfl (Or.inl rfl) rfl rfl (Nat.le_of_ble_eq_true rfl) (st_102 _ _) dX1_drawFrom_118 (fun H locs hw => ?_)
          obtain ⟨S_179, eS_179⟩ : ∃ T, T = sI S_146 102 x (v_177) := ⟨_, rfl⟩
          rw [← eS_179] at hw
          have hO_180 : Ok eDR S S_179 := hO_147.sI eS_179 (by decide +kernel) (uI_1_102 hO_147.1 t_149)
          have h_181 : pI S_179 102 x = v_177 := tI_sIs eS_179
          obtain ⟨x_182, ex_182⟩ : ∃ y : Int32, y = i5_25 + 1 := ⟨_, rfl⟩
          have z_183 : x_182.toInt = i5_25_z + 1 := z_add ex_182 hz_i5_25 ti_1 (by omega) (by omega)
          refine lv_iinc (v := x_182) (lv' := [(5, .int (x_182)), (6, .int (rr_127)), (4, .int (rr_116)), (0, .ref x), (1, .ref s1), (2, .int (a1)), (3, .int (a2))]) X.1 X.2.1 dX1_drawFrom_121 hl (k := 2) rfl (by rw [ex_182]; rfl) (by decide) rfl (fun ls hl => ?_)
          refine lv_goto (tgt := 16) X.1 X.2.1 dX1_drawFrom_124 (by decide) ?_
          have t_184 : pI S_179 101 x = v_144 := tI_sI eS_179 rfl h_148
          have pz_185 : (pI S_179 101 x).toInt = v_144.toInt := (congrArg Int32.toInt t_184).trans rfl
          have pz_186 : (pI S_179 102 x).toInt = v_177.toInt := (congrArg Int32.toInt h_181).trans rfl
          have t_187 : At S_179 s1 7 := tAt_sI eS_179 t_153
          have t_188 : At S_179 x 1 := tAt_sI eS_179 t_149
          have zc_190 : zA S_179 x 100 = zA S_136 x 100 := (zA_sI eS_179).trans (zA_sI eS_146)
          have ap_189 : lkZ (zA S_179 x 100) (x_182.toInt) = lkZ (zA T_26 x 100) (i5_25_z) ++ [rr_127.toInt] := by rw [zc_190]; exact lkZ_app (by omega) (by omega) (fun j => by have h := zs_140 j; rw [show (v_53.toInt).toNat = (i5_25_z).toNat by omega] at h; exact h)
          have t_191 : pI S_136 902 g = v_1 := tI_sA eS_136 ik_36
          have t_192 : pI S_146 902 g = v_1 := tI_sI eS_146 rfl t_191
          have t_193 : pI S_179 902 g = v_1 := tI_sI eS_179 rfl t_192
          have ds_196 : (v_1 : Int32).toInt = n := (by have e1 : (v_1 : Int32).toInt = v_1.toInt := rfl; omega)
          have nn_197 : rr_127.toInt = ndF (lkZ (zA T_26 x 100) (i5_25_z)) n 5 (v_122).toInt := by have h := nd_131; rw [show v_1.toInt = n by omega] at h; exact h
          obtain ⟨ds_194, ds_195⟩ := dr_step (n := n) (sd := a1) (by omega) (show x_182.toInt = i5_25_z + 1 by omega) iv_31 iv_32 nx_118 ds_196 dp_125 nn_197 ap_189
          have t_198 : pI S_179 701 s1 = v_5 := tI_sI eS_179 rfl t_171
          have t_199 : pR S_179 703 s1 = some g := tR_sI eS_179 t_155
          have t_200 : At S_179 g 9 := tAt_sI eS_179 t_157
          have t_201 : pR S_179 900 g = some q_9 := tR_sI eS_179 t_159
          have t_202 : At S_179 q_9 1654 := tAt_sI eS_179 t_161
          have t_203 : pN S_179 q_9 = n_13 := tN_sI eS_179 t_163
          clear t_163
          exact ih _ (by omega) _ _ _ _ (rr_116) (rr_116.toInt) (x_182) (x_182.toInt) rfl hw rfl rfl (by omega) t_187 t_188 hO_180 (by omega) (by omega) ds_194 ds_195 (by rw [← ds_194, ap_189, iv_31, ofF_s, ← iv_33]; show _ = mxI _ (abI (mA S g 900 (rr_127.toInt).toNat - pI S 701 s1)); rw [← fu_168, ev_5, h_181, ev_57, ev_177, ev_174, ev_172]; rfl) t_193 t_198 t_199 t_200 t_201 t_202 t_203 (lv_sub hl [2, 0, 3, 4, 5, 6] rfl)
  have t_204 : pI S_20 101 x = 0 := tI_sI eS_20 rfl h_18
  have pz_205 : (pI S_20 101 x).toInt = 0 := (congrArg Int32.toInt t_204).trans ti_0
  have pz_206 : (pI S_20 102 x).toInt = 0 := (congrArg Int32.toInt h_22).trans ti_0
  have t_207 : At S_16 s1 7 := tAt_sI eS_16 ha_s1
  have t_208 : At S_20 s1 7 := tAt_sI eS_20 t_207
  have t_209 : At S_20 x 1 := tAt_sI eS_20 t_19
  have t_210 : At S_16 g 9 := tAt_sI eS_16 hag
  have t_211 : At S_20 g 9 := tAt_sI eS_20 t_210
  have t_212 : At S_16 q_9 1654 := tAt_sI eS_16 h_11
  have t_213 : At S_20 q_9 1654 := tAt_sI eS_20 t_212
  exact L_23 _ _ _ _ _ (a1) (a1_z) (0) (0) rfl hw hz_a1 ti_0 (by omega) t_208 t_209 hO_21 (by omega) (by omega) (lkZ_0 _) rfl (by rw [h_22]; rfl) t_35 t_38 t_41 t_211 t_45 t_213 t_49 (lv_sub hl [1, 0, 2, 3, 4, 5] rfl)
