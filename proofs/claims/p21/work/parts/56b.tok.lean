def MLa : List Nat := [1004, 1005, 1006]

set_option maxHeartbeats 4000000 in
set_option maxRecDepth 100000 in
theorem k_X10_advance2 (l : Launch) (G : va_G) (cy : Nat → ClassId) (κ : Nat → Nat) (S : PS) (sz : Nat) (x : Nat) (hG : GX S) (ha_x : At S x 10) (hp_0 : 0 ≤ (pI S 1006 x).toInt) (hp_1 : (pI S 1006 x).toInt ≤ 400) : Cv l yX10_advance wsX10_advance ({ frames := 2, cells := 0, slots := 0, locals := 96 }) G cy κ S sz [.ref x] (fun (S9 : PS) => Ok MLa S S9 ∧ (TokAt S9 x (tokF (tB S x) (pI S 1000 x).toInt.toNat (pI S 1006 x).toInt.toNat) ∧ 0 ≤ (pI S9 1006 x).toInt ∧ (pI S9 1006 x).toInt ≤ 400)) := by
  refine ent_m (cc := cX10_advance) (maxL := 1) (ret := none) (by decide) rfl (Nat.le_of_ble_eq_true rfl) ?_
  intro p e s m below meth c ls X hr hlocks hin hw hl hsz
  subst hsz
  have X : Cx p c cX10_advance 1 s [.ref x].toArray wsX10_advance RX10 m G cy κ (AS S s.heap.size) := X
  have hl : lv_has ls 1 [(0, .ref x)] := hl
  have hO : Ok MLa S S := Ok.rf hG
  generalize hQQ : MQ below _ _ _ _ _ _ = QQ
  replace hQQ := hQQ.symm
  obtain ⟨v_1, ev_1⟩ : ∃ v, pI S 1006 x = v := ⟨_, rfl⟩
  have rg_3 := And.intro (z_lo v_1) (z_hi v_1)
  have pz_4 : (pI S 1006 x).toInt = v_1.toInt := by rw [ev_1]
  have pz_5 : (pI S 1006 x).toInt = v_1.toInt := (congrArg Int32.toInt ev_1).trans rfl
  obtain ⟨v_6, ev_6⟩ : ∃ v, pI S 1000 x = v := ⟨_, rfl⟩
  have rg_7 := gI_10_1000 hO.1 ha_x; rw [ev_6] at rg_7
  have pz_8 : (pI S 1000 x).toInt = v_6.toInt := by rw [ev_6]
  have pz_9 : (pI S 1000 x).toInt = v_6.toInt := (congrArg Int32.toInt ev_6).trans rfl
  refine lv_aload_n X.1 X.2.1 dX10_advance_0 rfl (lv_at hl 0 rfl) ?_
  refine lv_aload_n X.1 X.2.1 dX10_advance_1 rfl (lv_at hl 0 rfl) ?_
  refine r_getI (g := 1006) (x := v_1) X hw ha_x rfl 6 ev_1 (by decide) rfl inn_X10_advance_10 (by decide) (X.2.2.2.1 (.fieldLink RX10 31 "SilkMill$Tape" "behind" "I") (by decide +kernel)) rfl (gv_1006 _ _) dX10_advance_2 ?_
  refine r_putI (v := v_1) X hw ha_x rfl 5 1005 tyX10 (by decide) rfl inn_X10_advance_10 tyX10_ok nmX10 (by decide) (X.2.2.2.1 (.fieldLink RX10 79 "SilkMill$Tape" "start" "I") (by decide +kernel)) rfl (Or.inl rfl) rfl rfl (Nat.le_of_ble_eq_true rfl) (st_1005 _ _) dX10_advance_5 (fun H locs hw => ?_)
  obtain ⟨S_10, eS_10⟩ : ∃ T, T = sI S 1005 x (v_1) := ⟨_, rfl⟩
  rw [← eS_10] at hw
  have hO_11 : Ok MLa S S_10 := hO.sI eS_10 (by decide +kernel) (uI_10_1005 hO.1 ha_x)
  have h_12 : pI S_10 1005 x = v_1 := tI_sIs eS_10
  have t_19 : pI S_10 1000 x = v_6 := tI_sI eS_10 rfl ev_6
  have L_13 : ∀ (n : Nat) (T_14 : PS) (H : Heap) (locs : List Loc) (ls : Array Slot) , ((400 - (pI T_14 1005 x).toInt).toNat = n) → (Wd G cy (AS S s.heap.size) s.heap T_14 H locs) → (At T_14 x 10) → (Ok MLa S T_14) → (0 ≤ (pI T_14 1005 x).toInt ∧ (pI T_14 1005 x).toInt ≤ 400) → ((pI S 1006 x).toInt ≤ (pI T_14 1005 x).toInt) → ((∀ j : Nat, (pI S 1006 x).toInt ≤ (j : Int) → (j : Int) < (pI T_14 1005 x).toInt → blaP (tB S x j) = true)) → (pI T_14 1000 x = v_6) → (lv_has ls 1 [(0, .ref x)]) → W p l e ({ frames := 2, cells := 0, slots := 0, locals := 96 }) s m [.ref x].toArray below meth c H locs 0 0 QQ (F0 m 8 ls []) := by
    intro n
    induction n using Nat.strongRecOn with
    | ind n ih =>
    intro T_14 H locs ls  hn hw ha_x_L_15 hO_T_14 iv_16 iv_17 iv_18 ik_20 hl
    obtain ⟨v_21, ev_21⟩ : ∃ v, pI T_14 1005 x = v := ⟨_, rfl⟩
    have rg_23 := And.intro (z_lo v_21) (z_hi v_21)
    have pz_24 : (pI T_14 1005 x).toInt = v_21.toInt := by rw [ev_21]
    have pz_25 : (pI T_14 1005 x).toInt = v_21.toInt := (congrArg Int32.toInt ev_21).trans rfl
    refine lv_aload_n X.1 X.2.1 dX10_advance_8 rfl (lv_at hl 0 rfl) ?_
    refine r_getI (g := 1005) (x := v_21) X hw ha_x_L_15 rfl 5 ev_21 (by decide) rfl inn_X10_advance_10 (by decide) (X.2.2.2.1 (.fieldLink RX10 79 "SilkMill$Tape" "start" "I") (by decide +kernel)) rfl (gv_1005 _ _) dX10_advance_9 ?_
    refine lv_aload_n X.1 X.2.1 dX10_advance_12 rfl (lv_at hl 0 rfl) ?_
    refine r_getI (g := 1000) (x := v_6) X hw ha_x_L_15 rfl 0 ik_20 (by decide) rfl inn_X10_advance_10 (by decide) (X.2.2.2.1 (.fieldLink RX10 19 "SilkMill$Tape" "size" "I") (by decide +kernel)) rfl (gv_1000 _ _) dX10_advance_13 ?_
    refine lv_icmp_ge (tgt := 46) X.1 X.2.1 dX10_advance_16 (by decide) (fun c_26 => ?_) (fun c_26 => ?_)
    · have z_b_27 := trivial
      have k_28 : v_21.toInt ≥ v_6.toInt := z_le rfl rfl c_26
      have hT_29 : tokF (tB S x) (pI S 1000 x).toInt.toNat (pI S 1006 x).toInt.toNat = tokS (tB S x) (pI S 1000 x).toInt.toNat (v_21.toInt).toNat := tokF_at (by omega) (by omega) (all_nat (q := v_21.toInt) (fun j h1 h2 => iv_18 j h1 (by omega)) (by omega)) (by rw [tB_out (by omega) (by omega)]; rfl)
      refine lv_aload_n X.1 X.2.1 dX10_advance_46 rfl (lv_at hl 0 rfl) ?_
      refine lv_aload_n X.1 X.2.1 dX10_advance_47 rfl (lv_at hl 0 rfl) ?_
      refine r_getI (g := 1005) (x := v_21) X hw ha_x_L_15 rfl 5 ev_21 (by decide) rfl inn_X10_advance_10 (by decide) (X.2.2.2.1 (.fieldLink RX10 79 "SilkMill$Tape" "start" "I") (by decide +kernel)) rfl (gv_1005 _ _) dX10_advance_48 ?_
      refine r_putI (v := v_21) X hw ha_x_L_15 rfl 6 1006 tyX10 (by decide) rfl inn_X10_advance_10 tyX10_ok nmX10 (by decide) (X.2.2.2.1 (.fieldLink RX10 31 "SilkMill$Tape" "behind" "I") (by decide +kernel)) rfl (Or.inl rfl) rfl rfl (Nat.le_of_ble_eq_true rfl) (st_1006 _ _) dX10_advance_51 (fun H locs hw => ?_)
      obtain ⟨S_30, eS_30⟩ : ∃ T, T = sI T_14 1006 x (v_21) := ⟨_, rfl⟩
      rw [← eS_30] at hw
      have hO_31 : Ok MLa S S_30 := hO_T_14.sI eS_30 (by decide +kernel) (uI_10_1006 hO_T_14.1 ha_x_L_15)
      have h_32 : pI S_30 1006 x = v_21 := tI_sIs eS_30
      refine lv_aload_n X.1 X.2.1 dX10_advance_54 rfl (lv_at hl 0 rfl) ?_
      have t_33 : At S_30 x 10 := tAt_sI eS_30 ha_x_L_15
      have t_34 : pI S_30 1005 x = v_21 := tI_sI eS_30 rfl ev_21
      refine r_getI (g := 1005) (x := v_21) X hw t_33 rfl 5 t_34 (by decide) rfl inn_X10_advance_10 (by decide) (X.2.2.2.1 (.fieldLink RX10 79 "SilkMill$Tape" "start" "I") (by decide +kernel)) rfl (gv_1005 _ _) dX10_advance_55 ?_
      refine lv_aload_n X.1 X.2.1 dX10_advance_58 rfl (lv_at hl 0 rfl) ?_
      have t_35 : pI S_30 1000 x = v_6 := tI_sI eS_30 rfl ik_20
      refine r_getI (g := 1000) (x := v_6) X hw t_33 rfl 0 t_35 (by decide) rfl inn_X10_advance_10 (by decide) (X.2.2.2.1 (.fieldLink RX10 19 "SilkMill$Tape" "size" "I") (by decide +kernel)) rfl (gv_1000 _ _) dX10_advance_59 ?_
      refine lv_icmp_lt (tgt := 73) X.1 X.2.1 dX10_advance_62 (by decide) (fun c_36 => ?_) (fun c_36 => ?_)
      · have z_b_37 := trivial
        have k_38 : v_21.toInt < v_6.toInt := z_lt rfl rfl c_36
        refine lv_aload_n X.1 X.2.1 dX10_advance_73 rfl (lv_at hl 0 rfl) ?_
        refine lv_aload_n X.1 X.2.1 dX10_advance_74 rfl (lv_at hl 0 rfl) ?_
        refine r_getI (g := 1005) (x := v_21) X hw t_33 rfl 5 t_34 (by decide) rfl inn_X10_advance_10 (by decide) (X.2.2.2.1 (.fieldLink RX10 79 "SilkMill$Tape" "start" "I") (by decide +kernel)) rfl (gv_1005 _ _) dX10_advance_75 ?_
        refine k_i (rm := { frames := 1, cells := 0, slots := 0, locals := 48 }) (av := [.ref x, .int (v_21)]) X hw (va_runV (As := [.int (v_21)]) (rest := []) (cfix X) (k_X10_byteAt2 l G cy κ S_30 _ x (v_21) (v_21.toInt) hO_31.1 t_33 rfl) (cwV 1 X.2.2.2.1 gX10_advance_X10_byteAt rfl rfl rfl (by decide +kernel) ⟨Nat.le_of_ble_eq_true rfl, Nat.le_of_ble_eq_true rfl⟩) (pre_V X hw _ t_33 rfl (by decide) rfl) rfl rfl hl.1 rfl (lv_room (Nat.le_of_ble_eq_true rfl)) dX10_advance_78 ⟨Nat.le_of_ble_eq_true rfl, Nat.le_of_ble_eq_true rfl⟩) 0 0 (Nat.le_of_ble_eq_true rfl) (Nat.le_of_ble_eq_true rfl) (fun rr_39 S_40 H locs hp hw hfr hnw => ?_)
        obtain ⟨e2, hp⟩ := hp
        subst e2
        have rg_42 := And.intro (z_lo rr_39) (z_hi rr_39)
        have by_41 := hp (by omega)
        rw [tB_fr hG ha_x hO_31.fr (by decide +kernel)] at by_41
        refine k_i (rm := { frames := 1, cells := 0, slots := 0, locals := 48 }) (av := [.int (rr_39)]) X hw (va_runS (As := [.int (rr_39)]) (rest := []) (cfix X) (k_X10_isLetter2 l G cy κ S_30 _ (rr_39) (rr_39.toInt) hO_31.1 rfl) (cwS 1 X.2.2.2.1 gX10_advance_X10_isLetter rfl rfl rfl (by decide +kernel) ⟨Nat.le_of_ble_eq_true rfl, Nat.le_of_ble_eq_true rfl⟩) (pre_S X hw _) rfl rfl hl.1 rfl (lv_room (Nat.le_of_ble_eq_true rfl)) dX10_advance_81 ⟨Nat.le_of_ble_eq_true rfl, Nat.le_of_ble_eq_true rfl⟩) 0 0 (Nat.le_of_ble_eq_true rfl) (Nat.le_of_ble_eq_true rfl) (fun rr_43 S_44 H locs hp hw hfr hnw => ?_)
        obtain ⟨e2, hp⟩ := hp
        subst e2
        rcases hp with ⟨f_45, er_46⟩ | ⟨f_45, er_46⟩ <;> subst er_46
        · have z_b_47 := trivial
          refine lv_if_eq (tgt := 151) X.1 X.2.1 dX10_advance_84 (by decide) (fun c_48 => absurd c_48 (by decide)) (fun c_48 => ?_)
          have L_49 : ∀ (n : Nat) (T_50 : PS) (H : Heap) (locs : List Loc) (ls : Array Slot) , ((400 - (pI T_50 1006 x).toInt).toNat = n) → (Wd G cy (AS S s.heap.size) s.heap T_50 H locs) → (At T_50 x 10) → (Ok MLa S T_50) → (0 ≤ (pI T_50 1006 x).toInt ∧ (pI T_50 1006 x).toInt ≤ 400) → (v_21.toInt ≤ (pI T_50 1006 x).toInt) → ((∀ j : Nat, v_21.toInt ≤ (j : Int) → (j : Int) < (pI T_50 1006 x).toInt → letP (tB S x j) = true)) → (pI T_50 1000 x = v_6) → (pI T_50 1005 x = v_21) → (lv_has ls 1 [(0, .ref x)]) → W p l e ({ frames := 2, cells := 0, slots := 0, locals := 96 }) s m [.ref x].toArray below meth c H locs 0 0 QQ (F0 m 87 ls []) := by
            intro n
            induction n using Nat.strongRecOn with
            | ind n ih =>
            intro T_50 H locs ls  hn hw ha_x_L_51 hO_T_50 iv_52 iv_53 iv_54 ik_55 ik_56 hl
            obtain ⟨v_57, ev_57⟩ : ∃ v, pI T_50 1006 x = v := ⟨_, rfl⟩
            have rg_59 := And.intro (z_lo v_57) (z_hi v_57)
            have pz_60 : (pI T_50 1006 x).toInt = v_57.toInt := by rw [ev_57]
            have pz_61 : (pI T_50 1006 x).toInt = v_57.toInt := (congrArg Int32.toInt ev_57).trans rfl
            refine lv_aload_n X.1 X.2.1 dX10_advance_87 rfl (lv_at hl 0 rfl) ?_
            refine r_getI (g := 1006) (x := v_57) X hw ha_x_L_51 rfl 6 ev_57 (by decide) rfl inn_X10_advance_10 (by decide) (X.2.2.2.1 (.fieldLink RX10 31 "SilkMill$Tape" "behind" "I") (by decide +kernel)) rfl (gv_1006 _ _) dX10_advance_88 ?_
            refine lv_aload_n X.1 X.2.1 dX10_advance_91 rfl (lv_at hl 0 rfl) ?_
            refine r_getI (g := 1000) (x := v_6) X hw ha_x_L_51 rfl 0 ik_55 (by decide) rfl inn_X10_advance_10 (by decide) (X.2.2.2.1 (.fieldLink RX10 19 "SilkMill$Tape" "size" "I") (by decide +kernel)) rfl (gv_1000 _ _) dX10_advance_92 ?_
            refine lv_icmp_ge (tgt := 125) X.1 X.2.1 dX10_advance_95 (by decide) (fun c_62 => ?_) (fun c_62 => ?_)
            · have z_b_63 := trivial
              have k_64 : v_57.toInt ≥ v_6.toInt := z_le rfl rfl c_62
              refine lv_aload_n X.1 X.2.1 dX10_advance_125 rfl (lv_at hl 0 rfl) ?_
              refine lv_aload_n X.1 X.2.1 dX10_advance_126 rfl (lv_at hl 0 rfl) ?_
              refine r_getI (g := 1006) (x := v_57) X hw ha_x_L_51 rfl 6 ev_57 (by decide) rfl inn_X10_advance_10 (by decide) (X.2.2.2.1 (.fieldLink RX10 31 "SilkMill$Tape" "behind" "I") (by decide +kernel)) rfl (gv_1006 _ _) dX10_advance_127 ?_
              refine lv_aload_n X.1 X.2.1 dX10_advance_130 rfl (lv_at hl 0 rfl) ?_
              refine r_getI (g := 1005) (x := v_21) X hw ha_x_L_51 rfl 5 ik_56 (by decide) rfl inn_X10_advance_10 (by decide) (X.2.2.2.1 (.fieldLink RX10 79 "SilkMill$Tape" "start" "I") (by decide +kernel)) rfl (gv_1005 _ _) dX10_advance_131 ?_
              refine lv_isub X.1 X.2.1 dX10_advance_134 ?_
              refine lv_topi (fun v_65 ev_65 => ?_)
              have z_66 : v_65.toInt = v_57.toInt - v_21.toInt := z_sub ev_65 rfl rfl (by omega) (by omega)
              refine lv_bipush (v := 8) X.1 X.2.1 dX10_advance_135 (by decide) ?_
              refine lv_icmp_gt (tgt := 144) X.1 X.2.1 dX10_advance_137 (by decide) (fun c_67 => ?_) (fun c_67 => ?_)
              · have z_b_68 := trivial
                have k_69 : v_65.toInt > 8 := z_lt ti_8 rfl c_67
                refine lv_iconst (v := 4) X.1 X.2.1 dX10_advance_144 (by decide) ?_
                refine r_putI (v := 4) X hw ha_x_L_51 rfl 4 1004 tyX10 (by decide) rfl inn_X10_advance_10 tyX10_ok nmX10 (by decide) (X.2.2.2.1 (.fieldLink RX10 37 "SilkMill$Tape" "token" "I") (by decide +kernel)) rfl (Or.inl rfl) rfl rfl (Nat.le_of_ble_eq_true rfl) (st_1004 _ _) dX10_advance_145 (fun H locs hw => ?_)
                obtain ⟨S_70, eS_70⟩ : ∃ T, T = sI T_50 1004 x (4) := ⟨_, rfl⟩
                rw [← eS_70] at hw
                have hO_71 : Ok MLa S S_70 := hO_T_50.sI eS_70 (by decide +kernel) (uI_10_1004 hO_T_50.1 ha_x_L_51)
                have h_72 : pI S_70 1004 x = 4 := tI_sIs eS_70
                refine lv_goto (tgt := 261) X.1 X.2.1 dX10_advance_148 (by decide) ?_
                have pz_73 : (pI S_70 1004 x).toInt = 4 := (congrArg Int32.toInt h_72).trans ti_4
                have t_74 : pI S_70 1005 x = v_21 := tI_sI eS_70 rfl ik_56
                have pz_75 : (pI S_70 1005 x).toInt = v_21.toInt := (congrArg Int32.toInt t_74).trans rfl
                have t_76 : pI S_70 1006 x = v_57 := tI_sI eS_70 rfl ev_57
                have pz_77 : (pI S_70 1006 x).toInt = v_57.toInt := (congrArg Int32.toInt t_76).trans rfl
                rw [hQQ]
                exact ret_v X hw hr hlocks (Nat.le_of_ble_eq_true rfl) (Nat.le_of_ble_eq_true rfl) ⟨hO_71, ⟨by rw [hT_29, tokS_let (e := (v_57.toInt).toNat) (by omega) (letP_t (by rw [← by_41]; exact f_45)) (by omega) (by omega) (all_nat (q := v_57.toInt) (fun j h1 h2 => iv_54 j h1 (by omega)) (by omega)) (by rw [tB_out (by omega) (by omega)]; rfl), if_neg (by omega)]; exact TokAt_mk (by omega) (by omega) (by omega), by omega, by omega⟩⟩ dX10_advance_261
              · have z_b_78 := trivial
                have k_79 : v_65.toInt ≤ 8 := z_nlt ti_8 rfl c_67
                refine lv_iconst (v := 1) X.1 X.2.1 dX10_advance_140 (by decide) ?_
                refine lv_goto (tgt := 145) X.1 X.2.1 dX10_advance_141 (by decide) ?_
                refine r_putI (v := 1) X hw ha_x_L_51 rfl 4 1004 tyX10 (by decide) rfl inn_X10_advance_10 tyX10_ok nmX10 (by decide) (X.2.2.2.1 (.fieldLink RX10 37 "SilkMill$Tape" "token" "I") (by decide +kernel)) rfl (Or.inl rfl) rfl rfl (Nat.le_of_ble_eq_true rfl) (st_1004 _ _) dX10_advance_145 (fun H locs hw => ?_)
                obtain ⟨S_80, eS_80⟩ : ∃ T, T = sI T_50 1004 x (1) := ⟨_, rfl⟩
                rw [← eS_80] at hw
                have hO_81 : Ok MLa S S_80 := hO_T_50.sI eS_80 (by decide +kernel) (uI_10_1004 hO_T_50.1 ha_x_L_51)
                have h_82 : pI S_80 1004 x = 1 := tI_sIs eS_80
                refine lv_goto (tgt := 261) X.1 X.2.1 dX10_advance_148 (by decide) ?_
                have pz_83 : (pI S_80 1004 x).toInt = 1 := (congrArg Int32.toInt h_82).trans ti_1
                have t_84 : pI S_80 1005 x = v_21 := tI_sI eS_80 rfl ik_56
                have pz_85 : (pI S_80 1005 x).toInt = v_21.toInt := (congrArg Int32.toInt t_84).trans rfl
                have t_86 : pI S_80 1006 x = v_57 := tI_sI eS_80 rfl ev_57
                have pz_87 : (pI S_80 1006 x).toInt = v_57.toInt := (congrArg Int32.toInt t_86).trans rfl
                rw [hQQ]
                exact ret_v X hw hr hlocks (Nat.le_of_ble_eq_true rfl) (Nat.le_of_ble_eq_true rfl) ⟨hO_81, ⟨by rw [hT_29, tokS_let (e := (v_57.toInt).toNat) (by omega) (letP_t (by rw [← by_41]; exact f_45)) (by omega) (by omega) (all_nat (q := v_57.toInt) (fun j h1 h2 => iv_54 j h1 (by omega)) (by omega)) (by rw [tB_out (by omega) (by omega)]; rfl), if_pos (by omega)]; exact TokAt_mk (by omega) (by omega) (by omega), by omega, by omega⟩⟩ dX10_advance_261
            · have z_b_88 := trivial
              have k_89 : v_57.toInt < v_6.toInt := z_nle rfl rfl c_62
              refine lv_aload_n X.1 X.2.1 dX10_advance_98 rfl (lv_at hl 0 rfl) ?_
              refine lv_aload_n X.1 X.2.1 dX10_advance_99 rfl (lv_at hl 0 rfl) ?_
              refine r_getI (g := 1006) (x := v_57) X hw ha_x_L_51 rfl 6 ev_57 (by decide) rfl inn_X10_advance_10 (by decide) (X.2.2.2.1 (.fieldLink RX10 31 "SilkMill$Tape" "behind" "I") (by decide +kernel)) rfl (gv_1006 _ _) dX10_advance_100 ?_
              refine k_i (rm := { frames := 1, cells := 0, slots := 0, locals := 48 }) (av := [.ref x, .int (v_57)]) X hw (va_runV (As := [.int (v_57)]) (rest := []) (cfix X) (k_X10_byteAt2 l G cy κ T_50 _ x (v_57) (v_57.toInt) hO_T_50.1 ha_x_L_51 rfl) (cwV 1 X.2.2.2.1 gX10_advance_X10_byteAt rfl rfl rfl (by decide +kernel) ⟨Nat.le_of_ble_eq_true rfl, Nat.le_of_ble_eq_true rfl⟩) (pre_V X hw _ ha_x_L_51 rfl (by decide) rfl) rfl rfl hl.1 rfl (lv_room (Nat.le_of_ble_eq_true rfl)) dX10_advance_103 ⟨Nat.le_of_ble_eq_true rfl, Nat.le_of_ble_eq_true rfl⟩) 0 0 (Nat.le_of_ble_eq_true rfl) (Nat.le_of_ble_eq_true rfl) (fun rr_90 S_91 H locs hp hw hfr hnw => ?_)
              obtain ⟨e2, hp⟩ := hp
              subst e2
              have rg_93 := And.intro (z_lo rr_90) (z_hi rr_90)
              have by_92 := hp (by omega)
              rw [tB_fr hG ha_x hO_T_50.fr (by decide +kernel)] at by_92
              refine k_i (rm := { frames := 1, cells := 0, slots := 0, locals := 48 }) (av := [.int (rr_90)]) X hw (va_runS (As := [.int (rr_90)]) (rest := []) (cfix X) (k_X10_isLetter2 l G cy κ T_50 _ (rr_90) (rr_90.toInt) hO_T_50.1 rfl) (cwS 1 X.2.2.2.1 gX10_advance_X10_isLetter rfl rfl rfl (by decide +kernel) ⟨Nat.le_of_ble_eq_true rfl, Nat.le_of_ble_eq_true rfl⟩) (pre_S X hw _) rfl rfl hl.1 rfl (lv_room (Nat.le_of_ble_eq_true rfl)) dX10_advance_106 ⟨Nat.le_of_ble_eq_true rfl, Nat.le_of_ble_eq_true rfl⟩) 0 0 (Nat.le_of_ble_eq_true rfl) (Nat.le_of_ble_eq_true rfl) (fun rr_94 S_95 H locs hp hw hfr hnw => ?_)
              obtain ⟨e2, hp⟩ := hp
              subst e2
              rcases hp with ⟨f_96, er_97⟩ | ⟨f_96, er_97⟩ <;> subst er_97
              · have z_b_98 := trivial
                refine lv_if_eq (tgt := 125) X.1 X.2.1 dX10_advance_109 (by decide) (fun c_99 => absurd c_99 (by decide)) (fun c_99 => ?_)
                refine lv_aload_n X.1 X.2.1 dX10_advance_112 rfl (lv_at hl 0 rfl) ?_
                refine lv_dup X.1 X.2.1 dX10_advance_113 rfl ?_
                refine r_getI (g := 1006) (x := v_57) X hw ha_x_L_51 rfl 6 ev_57 (by decide) rfl inn_X10_advance_10 (by decide) (X.2.2.2.1 (.fieldLink RX10 31 "SilkMill$Tape" "behind" "I") (by decide +kernel)) rfl (gv_1006 _ _) dX10_advance_114 ?_
                refine lv_iconst (v := 1) X.1 X.2.1 dX10_advance_117 (by decide) ?_
                refine lv_iadd X.1 X.2.1 dX10_advance_118 ?_
                refine lv_topi (fun v_100 ev_100 => ?_)
                have z_101 : v_100.toInt = v_57.toInt + 1 := z_add ev_100 rfl ti_1 (by omega) (by omega)
                refine r_putI (v := v_100) X hw ha_x_L_51 rfl 6 1006 tyX10 (by decide) rfl inn_X10_advance_10 tyX10_ok nmX10 (by decide) (X.2.2.2.1 (.fieldLink RX10 31 "SilkMill$Tape" "behind" "I") (by decide +kernel)) rfl (Or.inl rfl) rfl rfl (Nat.le_of_ble_eq_true rfl) (st_1006 _ _) dX10_advance_119 (fun H locs hw => ?_)
                obtain ⟨S_102, eS_102⟩ : ∃ T, T = sI T_50 1006 x (v_100) := ⟨_, rfl⟩
                rw [← eS_102] at hw
                have hO_103 : Ok MLa S S_102 := hO_T_50.sI eS_102 (by decide +kernel) (uI_10_1006 hO_T_50.1 ha_x_L_51)
                have h_104 : pI S_102 1006 x = v_100 := tI_sIs eS_102
                refine lv_goto (tgt := 87) X.1 X.2.1 dX10_advance_122 (by decide) ?_
                have pz_105 : (pI S_102 1006 x).toInt = v_100.toInt := (congrArg Int32.toInt h_104).trans rfl
                have t_106 : At S_102 x 10 := tAt_sI eS_102 ha_x_L_51
                have t_107 : pI S_102 1000 x = v_6 := tI_sI eS_102 rfl ik_55
                have t_108 : pI S_102 1005 x = v_21 := tI_sI eS_102 rfl ik_56
                exact ih _ (by omega) _ _ _ _  rfl hw t_106 hO_103 (by omega) (by omega) (fun j h1 h2 => all_ext (q := v_57.toInt) (fun j h1 h2 => iv_54 j h1 (by omega)) (letP_t (by rw [← by_92]; exact f_96)) (by omega) j h1 (by omega)) t_107 t_108 (lv_sub hl [0] rfl)
              · have z_b_109 := trivial
                refine lv_if_eq (tgt := 125) X.1 X.2.1 dX10_advance_109 (by decide) (fun c_110 => ?_) (fun c_110 => absurd c_110 (by decide))
                refine lv_aload_n X.1 X.2.1 dX10_advance_125 rfl (lv_at hl 0 rfl) ?_
                refine lv_aload_n X.1 X.2.1 dX10_advance_126 rfl (lv_at hl 0 rfl) ?_
                refine r_getI (g := 1006) (x := v_57) X hw ha_x_L_51 rfl 6 ev_57 (by decide) rfl inn_X10_advance_10 (by decide) (X.2.2.2.1 (.fieldLink RX10 31 "SilkMill$Tape" "behind" "I") (by decide +kernel)) rfl (gv_1006 _ _) dX10_advance_127 ?_
                refine lv_aload_n X.1 X.2.1 dX10_advance_130 rfl (lv_at hl 0 rfl) ?_
                refine r_getI (g := 1005) (x := v_21) X hw ha_x_L_51 rfl 5 ik_56 (by decide) rfl inn_X10_advance_10 (by decide) (X.2.2.2.1 (.fieldLink RX10 79 "SilkMill$Tape" "start" "I") (by decide +kernel)) rfl (gv_1005 _ _) dX10_advance_131 ?_
                refine lv_isub X.1 X.2.1 dX10_advance_134 ?_
                refine lv_topi (fun v_111 ev_111 => ?_)
                have z_112 : v_111.toInt = v_57.toInt - v_21.toInt := z_sub ev_111 rfl rfl (by omega) (by omega)
                refine lv_bipush (v := 8) X.1 X.2.1 dX10_advance_135 (by decide) ?_
                refine lv_icmp_gt (tgt := 144) X.1 X.2.1 dX10_advance_137 (by decide) (fun c_113 => ?_) (fun c_113 => ?_)
                · have z_b_114 := trivial
                  have k_115 : v_111.toInt > 8 := z_lt ti_8 rfl c_113
                  refine lv_iconst (v := 4) X.1 X.2.1 dX10_advance_144 (by decide) ?_
                  refine r_putI (v := 4) X hw ha_x_L_51 rfl 4 1004 tyX10 (by decide) rfl inn_X10_advance_10 tyX10_ok nmX10 (by decide) (X.2.2.2.1 (.fieldLink RX10 37 "SilkMill$Tape" "token" "I") (by decide +kernel)) rfl (Or.inl rfl) rfl rfl (Nat.le_of_ble_eq_true rfl) (st_1004 _ _) dX10_advance_145 (fun H locs hw => ?_)
                  obtain ⟨S_116, eS_116⟩ : ∃ T, T = sI T_50 1004 x (4) := ⟨_, rfl⟩
                  rw [← eS_116] at hw
                  have hO_117 : Ok MLa S S_116 := hO_T_50.sI eS_116 (by decide +kernel) (uI_10_1004 hO_T_50.1 ha_x_L_51)
                  have h_118 : pI S_116 1004 x = 4 := tI_sIs eS_116
                  refine lv_goto (tgt := 261) X.1 X.2.1 dX10_advance_148 (by decide) ?_
                  have pz_119 : (pI S_116 1004 x).toInt = 4 := (congrArg Int32.toInt h_118).trans ti_4
                  have t_120 : pI S_116 1005 x = v_21 := tI_sI eS_116 rfl ik_56
                  have pz_121 : (pI S_116 1005 x).toInt = v_21.toInt := (congrArg Int32.toInt t_120).trans rfl
                  have t_122 : pI S_116 1006 x = v_57 := tI_sI eS_116 rfl ev_57
                  have pz_123 : (pI S_116 1006 x).toInt = v_57.toInt := (congrArg Int32.toInt t_122).trans rfl
                  rw [hQQ]
                  exact ret_v X hw hr hlocks (Nat.le_of_ble_eq_true rfl) (Nat.le_of_ble_eq_true rfl) ⟨hO_117, ⟨by rw [hT_29, tokS_let (e := (v_57.toInt).toNat) (by omega) (letP_t (by rw [← by_41]; exact f_45)) (by omega) (by omega) (all_nat (q := v_57.toInt) (fun j h1 h2 => iv_54 j h1 (by omega)) (by omega)) (letP_f (by rw [← by_92]; exact f_96)), if_neg (by omega)]; exact TokAt_mk (by omega) (by omega) (by omega), by omega, by omega⟩⟩ dX10_advance_261
                · have z_b_124 := trivial
                  have k_125 : v_111.toInt ≤ 8 := z_nlt ti_8 rfl c_113
                  refine lv_iconst (v := 1) X.1 X.2.1 dX10_advance_140 (by decide) ?_
                  refine lv_goto (tgt := 145) X.1 X.2.1 dX10_advance_141 (by decide) ?_
                  refine r_putI (v := 1) X hw ha_x_L_51 rfl 4 1004 tyX10 (by decide) rfl inn_X10_advance_10 tyX10_ok nmX10 (by decide) (X.2.2.2.1 (.fieldLink RX10 37 "SilkMill$Tape" "token" "I") (by decide +kernel)) rfl (Or.inl rfl) rfl rfl (Nat.le_of_ble_eq_true rfl) (st_1004 _ _) dX10_advance_145 (fun H locs hw => ?_)
                  obtain ⟨S_126, eS_126⟩ : ∃ T, T = sI T_50 1004 x (1) := ⟨_, rfl⟩
                  rw [← eS_126] at hw
                  have hO_127 : Ok MLa S S_126 := hO_T_50.sI eS_126 (by decide +kernel) (uI_10_1004 hO_T_50.1 ha_x_L_51)
                  have h_128 : pI S_126 1004 x = 1 := tI_sIs eS_126
                  refine lv_goto (tgt := 261) X.1 X.2.1 dX10_advance_148 (by decide) ?_
                  have pz_129 : (pI S_126 1004 x).toInt = 1 := (congrArg Int32.toInt h_128).trans ti_1
                  have t_130 : pI S_126 1005 x = v_21 := tI_sI eS_126 rfl ik_56
                  have pz_131 : (pI S_126 1005 x).toInt = v_21.toInt := (congrArg Int32.toInt t_130).trans rfl
                  have t_132 : pI S_126 1006 x = v_57 := tI_sI eS_126 rfl ev_57
                  have pz_133 : (pI S_126 1006 x).toInt = v_57.toInt := (congrArg Int32.toInt t_132).trans rfl
                  rw [hQQ]
                  exact ret_v X hw hr hlocks (Nat.le_of_ble_eq_true rfl) (Nat.le_of_ble_eq_true rfl) ⟨hO_127, ⟨by rw [hT_29, tokS_let (e := (v_57.toInt).toNat) (by omega) (letP_t (by rw [← by_41]; exact f_45)) (by omega) (by omega) (all_nat (q := v_57.toInt) (fun j h1 h2 => iv_54 j h1 (by omega)) (by omega)) (letP_f (by rw [← by_92]; exact f_96)), if_pos (by omega)]; exact TokAt_mk (by omega) (by omega) (by omega), by omega, by omega⟩⟩ dX10_advance_261
          have pz_134 : (pI S_30 1006 x).toInt = v_21.toInt := (congrArg Int32.toInt h_32).trans rfl
          exact L_49 _ _ _ _ _  rfl hw t_33 hO_31 (by omega) (by omega) (fun j h1 h2 => absurd h2 (by omega)) t_35 t_34 (lv_sub hl [0] rfl)
        · have z_b_135 := trivial
          refine lv_if_eq (tgt := 151) X.1 X.2.1 dX10_advance_84 (by decide) (fun c_136 => ?_) (fun c_136 => absurd c_136 (by decide))
          refine lv_aload_n X.1 X.2.1 dX10_advance_151 rfl (lv_at hl 0 rfl) ?_
          refine lv_aload_n X.1 X.2.1 dX10_advance_152 rfl (lv_at hl 0 rfl) ?_
          refine r_getI (g := 1005) (x := v_21) X hw t_33 rfl 5 t_34 (by decide) rfl inn_X10_advance_10 (by decide) (X.2.2.2.1 (.fieldLink RX10 79 "SilkMill$Tape" "start" "I") (by decide +kernel)) rfl (gv_1005 _ _) dX10_advance_153 ?_
          refine k_i (rm := { frames := 1, cells := 0, slots := 0, locals := 48 }) (av := [.ref x, .int (v_21)]) X hw (va_runV (As := [.int (v_21)]) (rest := []) (cfix X) (k_X10_byteAt2 l G cy κ S_30 _ x (v_21) (v_21.toInt) hO_31.1 t_33 rfl) (cwV 1 X.2.2.2.1 gX10_advance_X10_byteAt rfl rfl rfl (by decide +kernel) ⟨Nat.le_of_ble_eq_true rfl, Nat.le_of_ble_eq_true rfl⟩) (pre_V X hw _ t_33 rfl (by decide) rfl) rfl rfl hl.1 rfl (lv_room (Nat.le_of_ble_eq_true rfl)) dX10_advance_156 ⟨Nat.le_of_ble_eq_true rfl, Nat.le_of_ble_eq_true rfl⟩) 0 0 (Nat.le_of_ble_eq_true rfl) (Nat.le_of_ble_eq_true rfl) (fun rr_137 S_138 H locs hp hw hfr hnw => ?_)
          obtain ⟨e2, hp⟩ := hp
          subst e2
          have rg_140 := And.intro (z_lo rr_137) (z_hi rr_137)
          have by_139 := hp (by omega)
          rw [tB_fr hG ha_x hO_31.fr (by decide +kernel)] at by_139
          refine k_i (rm := { frames := 1, cells := 0, slots := 0, locals := 48 }) (av := [.int (rr_137)]) X hw (va_runS (As := [.int (rr_137)]) (rest := []) (cfix X) (k_X10_isDigit2 l G cy κ S_30 _ (rr_137) (rr_137.toInt) hO_31.1 rfl) (cwS 1 X.2.2.2.1 gX10_advance_X10_isDigit rfl rfl rfl (by decide +kernel) ⟨Nat.le_of_ble_eq_true rfl, Nat.le_of_ble_eq_true rfl⟩) (pre_S X hw _) rfl rfl hl.1 rfl (lv_room (Nat.le_of_ble_eq_true rfl)) dX10_advance_159 ⟨Nat.le_of_ble_eq_true rfl, Nat.le_of_ble_eq_true rfl⟩) 0 0 (Nat.le_of_ble_eq_true rfl) (Nat.le_of_ble_eq_true rfl) (fun rr_141 S_142 H locs hp hw hfr hnw => ?_)
          obtain ⟨e2, hp⟩ := hp
          subst e2
          rcases hp with ⟨f_143, er_144⟩ | ⟨f_143, er_144⟩ <;> subst er_144
          · have z_b_145 := trivial
            refine lv_if_eq (tgt := 228) X.1 X.2.1 dX10_advance_162 (by decide) (fun c_146 => absurd c_146 (by decide)) (fun c_146 => ?_)
            have L_147 : ∀ (n : Nat) (T_148 : PS) (H : Heap) (locs : List Loc) (ls : Array Slot) , ((400 - (pI T_148 1006 x).toInt).toNat = n) → (Wd G cy (AS S s.heap.size) s.heap T_148 H locs) → (At T_148 x 10) → (Ok MLa S T_148) → (0 ≤ (pI T_148 1006 x).toInt ∧ (pI T_148 1006 x).toInt ≤ 400) → (v_21.toInt ≤ (pI T_148 1006 x).toInt) → ((∀ j : Nat, v_21.toInt ≤ (j : Int) → (j : Int) < (pI T_148 1006 x).toInt → digP (tB S x j) = true)) → (pI T_148 1000 x = v_6) → (pI T_148 1005 x = v_21) → (lv_has ls 1 [(0, .ref x)]) → W p l e ({ frames := 2, cells := 0, slots := 0, locals := 96 }) s m [.ref x].toArray below meth c H locs 0 0 QQ (F0 m 165 ls []) := by
              intro n
              induction n using Nat.strongRecOn with
              | ind n ih =>
              intro T_148 H locs ls  hn hw ha_x_L_149 hO_T_148 iv_150 iv_151 iv_152 ik_153 ik_154 hl
              obtain ⟨v_155, ev_155⟩ : ∃ v, pI T_148 1006 x = v := ⟨_, rfl⟩
              have rg_157 := And.intro (z_lo v_155) (z_hi v_155)
              have pz_158 : (pI T_148 1006 x).toInt = v_155.toInt := by rw [ev_155]
              have pz_159 : (pI T_148 1006 x).toInt = v_155.toInt := (congrArg Int32.toInt ev_155).trans rfl
              refine lv_aload_n X.1 X.2.1 dX10_advance_165 rfl (lv_at hl 0 rfl) ?_
              refine r_getI (g := 1006) (x := v_155) X hw ha_x_L_149 rfl 6 ev_155 (by decide) rfl inn_X10_advance_10 (by decide) (X.2.2.2.1 (.fieldLink RX10 31 "SilkMill$Tape" "behind" "I") (by decide +kernel)) rfl (gv_1006 _ _) dX10_advance_166 ?_
              refine lv_aload_n X.1 X.2.1 dX10_advance_169 rfl (lv_at hl 0 rfl) ?_
              refine r_getI (g := 1000) (x := v_6) X hw ha_x_L_149 rfl 0 ik_153 (by decide) rfl inn_X10_advance_10 (by decide) (X.2.2.2.1 (.fieldLink RX10 19 "SilkMill$Tape" "size" "I") (by decide +kernel)) rfl (gv_1000 _ _) dX10_advance_170 ?_
              refine lv_icmp_ge (tgt := 203) X.1 X.2.1 dX10_advance_173 (by decide) (fun c_160 => ?_) (fun c_160 => ?_)
              · have z_b_161 := trivial
                have k_162 : v_155.toInt ≥ v_6.toInt := z_le rfl rfl c_160
                refine lv_aload_n X.1 X.2.1 dX10_advance_203 rfl (lv_at hl 0 rfl) ?_
                refine lv_aload_n X.1 X.2.1 dX10_advance_204 rfl (lv_at hl 0 rfl) ?_
                refine r_getI (g := 1006) (x := v_155) X hw ha_x_L_149 rfl 6 ev_155 (by decide) rfl inn_X10_advance_10 (by decide) (X.2.2.2.1 (.fieldLink RX10 31 "SilkMill$Tape" "behind" "I") (by decide +kernel)) rfl (gv_1006 _ _) dX10_advance_205 ?_
                refine lv_aload_n X.1 X.2.1 dX10_advance_208 rfl (lv_at hl 0 rfl) ?_
                refine r_getI (g := 1005) (x := v_21) X hw ha_x_L_149 rfl 5 ik_154 (by decide) rfl inn_X10_advance_10 (by decide) (X.2.2.2.1 (.fieldLink RX10 79 "SilkMill$Tape" "start" "I") (by decide +kernel)) rfl (gv_1005 _ _) dX10_advance_209 ?_
                refine lv_isub X.1 X.2.1 dX10_advance_212 ?_
                refine lv_topi (fun v_163 ev_163 => ?_)
                have z_164 : v_163.toInt = v_155.toInt - v_21.toInt := z_sub ev_163 rfl rfl (by omega) (by omega)
                refine lv_iconst (v := 4) X.1 X.2.1 dX10_advance_213 (by decide) ?_
                refine lv_icmp_gt (tgt := 221) X.1 X.2.1 dX10_advance_214 (by decide) (fun c_165 => ?_) (fun c_165 => ?_)
                · have z_b_166 := trivial
                  have k_167 : v_163.toInt > 4 := z_lt ti_4 rfl c_165
                  refine lv_iconst (v := 4) X.1 X.2.1 dX10_advance_221 (by decide) ?_
                  refine r_putI (v := 4) X hw ha_x_L_149 rfl 4 1004 tyX10 (by decide) rfl inn_X10_advance_10 tyX10_ok nmX10 (by decide) (X.2.2.2.1 (.fieldLink RX10 37 "SilkMill$Tape" "token" "I") (by decide +kernel)) rfl (Or.inl rfl) rfl rfl (Nat.le_of_ble_eq_true rfl) (st_1004 _ _) dX10_advance_222 (fun H locs hw => ?_)
                  obtain ⟨S_168, eS_168⟩ : ∃ T, T = sI T_148 1004 x (4) := ⟨_, rfl⟩
                  rw [← eS_168] at hw
                  have hO_169 : Ok MLa S S_168 := hO_T_148.sI eS_168 (by decide +kernel) (uI_10_1004 hO_T_148.1 ha_x_L_149)
                  have h_170 : pI S_168 1004 x = 4 := tI_sIs eS_168
                  refine lv_goto (tgt := 261) X.1 X.2.1 dX10_advance_225 (by decide) ?_
                  have pz_171 : (pI S_168 1004 x).toInt = 4 := (congrArg Int32.toInt h_170).trans ti_4
                  have t_172 : pI S_168 1005 x = v_21 := tI_sI eS_168 rfl ik_154
                  have pz_173 : (pI S_168 1005 x).toInt = v_21.toInt := (congrArg Int32.toInt t_172).trans rfl
                  have t_174 : pI S_168 1006 x = v_155 := tI_sI eS_168 rfl ev_155
                  have pz_175 : (pI S_168 1006 x).toInt = v_155.toInt := (congrArg Int32.toInt t_174).trans rfl
                  rw [hQQ]
                  exact ret_v X hw hr hlocks (Nat.le_of_ble_eq_true rfl) (Nat.le_of_ble_eq_true rfl) ⟨hO_169, ⟨by rw [hT_29, tokS_dig (e := (v_155.toInt).toNat) (by omega) (letP_f (by rw [← by_41]; exact f_45)) (digP_t (by rw [← by_139]; exact f_143)) (by omega) (by omega) (all_nat (q := v_155.toInt) (fun j h1 h2 => iv_152 j h1 (by omega)) (by omega)) (by rw [tB_out (by omega) (by omega)]; rfl), if_neg (by omega)]; exact TokAt_mk (by omega) (by omega) (by omega), by omega, by omega⟩⟩ dX10_advance_261
                · have z_b_176 := trivial
                  have k_177 : v_163.toInt ≤ 4 := z_nlt ti_4 rfl c_165
                  refine lv_iconst (v := 2) X.1 X.2.1 dX10_advance_217 (by decide) ?_
                  refine lv_goto (tgt := 222) X.1 X.2.1 dX10_advance_218 (by decide) ?_
                  refine r_putI (v := 2) X hw ha_x_L_149 rfl 4 1004 tyX10 (by decide) rfl inn_X10_advance_10 tyX10_ok nmX10 (by decide) (X.2.2.2.1 (.fieldLink RX10 37 "SilkMill$Tape" "token" "I") (by decide +kernel)) rfl (Or.inl rfl) rfl rfl (Nat.le_of_ble_eq_true rfl) (st_1004 _ _) dX10_advance_222 (fun H locs hw => ?_)
                  obtain ⟨S_178, eS_178⟩ : ∃ T, T = sI T_148 1004 x (2) := ⟨_, rfl⟩
                  rw [← eS_178] at hw
                  have hO_179 : Ok MLa S S_178 := hO_T_148.sI eS_178 (by decide +kernel) (uI_10_1004 hO_T_148.1 ha_x_L_149)
                  have h_180 : pI S_178 1004 x = 2 := tI_sIs eS_178
                  refine lv_goto (tgt := 261) X.1 X.2.1 dX10_advance_225 (by decide) ?_
                  have pz_181 : (pI S_178 1004 x).toInt = 2 := (congrArg Int32.toInt h_180).trans ti_2
                  have t_182 : pI S_178 1005 x = v_21 := tI_sI eS_178 rfl ik_154
                  have pz_183 : (pI S_178 1005 x).toInt = v_21.toInt := (congrArg Int32.toInt t_182).trans rfl
                  have t_184 : pI S_178 1006 x = v_155 := tI_sI eS_178 rfl ev_155
                  have pz_185 : (pI S_178 1006 x).toInt = v_155.toInt := (congrArg Int32.toInt t_184).trans rfl
                  rw [hQQ]
                  exact ret_v X hw hr hlocks (Nat.le_of_ble_eq_true rfl) (Nat.le_of_ble_eq_true rfl) ⟨hO_179, ⟨by rw [hT_29, tokS_dig (e := (v_155.toInt).toNat) (by omega) (letP_f (by rw [← by_41]; exact f_45)) (digP_t (by rw [← by_139]; exact f_143)) (by omega) (by omega) (all_nat (q := v_155.toInt) (fun j h1 h2 => iv_152 j h1 (by omega)) (by omega)) (by rw [tB_out (by omega) (by omega)]; rfl), if_pos (by omega)]; exact TokAt_mk (by omega) (by omega) (by omega), by omega, by omega⟩⟩ dX10_advance_261
              · have z_b_186 := trivial
                have k_187 : v_155.toInt < v_6.toInt := z_nle rfl rfl c_160
                refine lv_aload_n X.1 X.2.1 dX10_advance_176 rfl (lv_at hl 0 rfl) ?_
                refine lv_aload_n X.1 X.2.1 dX10_advance_177 rfl (lv_at hl 0 rfl) ?_
                refine r_getI (g := 1006) (x := v_155) X hw ha_x_L_149 rfl 6 ev_155 (by decide) rfl inn_X10_advance_10 (by decide) (X.2.2.2.1 (.fieldLink RX10 31 "SilkMill$Tape" "behind" "I") (by decide +kernel)) rfl (gv_1006 _ _) dX10_advance_178 ?_
                refine k_i (rm := { frames := 1, cells := 0, slots := 0, locals := 48 }) (av := [.ref x, .int (v_155)]) X hw (va_runV (As := [.int (v_155)]) (rest := []) (cfix X) (k_X10_byteAt2 l G cy κ T_148 _ x (v_155) (v_155.toInt) hO_T_148.1 ha_x_L_149 rfl) (cwV 1 X.2.2.2.1 gX10_advance_X10_byteAt rfl rfl rfl (by decide +kernel) ⟨Nat.le_of_ble_eq_true rfl, Nat.le_of_ble_eq_true rfl⟩) (pre_V X hw _ ha_x_L_149 rfl (by decide) rfl) rfl rfl hl.1 rfl (lv_room (Nat.le_of_ble_eq_true rfl)) dX10_advance_181 ⟨Nat.le_of_ble_eq_true rfl, Nat.le_of_ble_eq_true rfl⟩) 0 0 (Nat.le_of_ble_eq_true rfl) (Nat.le_of_ble_eq_true rfl) (fun rr_188 S_189 H locs hp hw hfr hnw => ?_)
                obtain ⟨e2, hp⟩ := hp
                subst e2
                have rg_191 := And.intro (z_lo rr_188) (z_hi rr_188)
                have by_190 := hp (by omega)
                rw [tB_fr hG ha_x hO_T_148.fr (by decide +kernel)] at by_190
                refine k_i (rm := { frames := 1, cells := 0, slots := 0, locals := 48 }) (av := [.int (rr_188)]) X hw (va_runS (As := [.int (rr_188)]) (rest := []) (cfix X) (k_X10_isDigit2 l G cy κ T_148 _ (rr_188) (rr_188.toInt) hO_T_148.1 rfl) (cwS 1 X.2.2.2.1 gX10_advance_X10_isDigit rfl rfl rfl (by decide +kernel) ⟨Nat.le_of_ble_eq_true rfl, Nat.le_of_ble_eq_true rfl⟩) (pre_S X hw _) rfl rfl hl.1 rfl (lv_room (Nat.le_of_ble_eq_true rfl)) dX10_advance_184 ⟨Nat.le_of_ble_eq_true rfl, Nat.le_of_ble_eq_true rfl⟩) 0 0 (Nat.le_of_ble_eq_true rfl) (Nat.le_of_ble_eq_true rfl) (fun rr_192 S_193 H locs hp hw hfr hnw => ?_)
                obtain ⟨e2, hp⟩ := hp
                subst e2
                rcases hp with ⟨f_194, er_195⟩ | ⟨f_194, er_195⟩ <;> subst er_195
                · have z_b_196 := trivial
                  refine lv_if_eq (tgt := 203) X.1 X.2.1 dX10_advance_187 (by decide) (fun c_197 => absurd c_197 (by decide)) (fun c_197 => ?_)
                  refine lv_aload_n X.1 X.2.1 dX10_advance_190 rfl (lv_at hl 0 rfl) ?_
                  refine lv_dup X.1 X.2.1 dX10_advance_191 rfl ?_
                  refine r_getI (g := 1006) (x := v_155) X hw ha_x_L_149 rfl 6 ev_155 (by decide) rfl inn_X10_advance_10 (by decide) (X.2.2.2.1 (.fieldLink RX10 31 "SilkMill$Tape" "behind" "I") (by decide +kernel)) rfl (gv_1006 _ _) dX10_advance_192 ?_
                  refine lv_iconst (v := 1) X.1 X.2.1 dX10_advance_195 (by decide) ?_
                  refine lv_iadd X.1 X.2.1 dX10_advance_196 ?_
                  refine lv_topi (fun v_198 ev_198 => ?_)
                  have z_199 : v_198.toInt = v_155.toInt + 1 := z_add ev_198 rfl ti_1 (by omega) (by omega)
                  refine r_putI (v := v_198) X hw ha_x_L_149 rfl 6 1006 tyX10 (by decide) rfl inn_X10_advance_10 tyX10_ok nmX10 (by decide) (X.2.2.2.1 (.fieldLink RX10 31 "SilkMill$Tape" "behind" "I") (by decide +kernel)) rfl (Or.inl rfl) rfl rfl (Nat.le_of_ble_eq_true rfl) (st_1006 _ _) dX10_advance_197 (fun H locs hw => ?_)
                  obtain ⟨S_200, eS_200⟩ : ∃ T, T = sI T_148 1006 x (v_198) := ⟨_, rfl⟩
                  rw [← eS_200] at hw
                  have hO_201 : Ok MLa S S_200 := hO_T_148.sI eS_200 (by decide +kernel) (uI_10_1006 hO_T_148.1 ha_x_L_149)
                  have h_202 : pI S_200 1006 x = v_198 := tI_sIs eS_200
                  refine lv_goto (tgt := 165) X.1 X.2.1 dX10_advance_200 (by decide) ?_
                  have pz_203 : (pI S_200 1006 x).toInt = v_198.toInt := (congrArg Int32.toInt h_202).trans rfl
                  have t_204 : At S_200 x 10 := tAt_sI eS_200 ha_x_L_149
                  have t_205 : pI S_200 1000 x = v_6 := tI_sI eS_200 rfl ik_153
                  have t_206 : pI S_200 1005 x = v_21 := tI_sI eS_200 rfl ik_154
                  exact ih _ (by omega) _ _ _ _  rfl hw t_204 hO_201 (by omega) (by omega) (fun j h1 h2 => all_ext (q := v_155.toInt) (fun j h1 h2 => iv_152 j h1 (by omega)) (digP_t (by rw [← by_190]; exact f_194)) (by omega) j h1 (by omega)) t_205 t_206 (lv_sub hl [0] rfl)
                · have z_b_207 := trivial
                  refine lv_if_eq (tgt := 203) X.1 X.2.1 dX10_advance_187 (by decide) (fun c_208 => ?_) (fun c_208 => absurd c_208 (by decide))
                  refine lv_aload_n X.1 X.2.1 dX10_advance_203 rfl (lv_at hl 0 rfl) ?_
                  refine lv_aload_n X.1 X.2.1 dX10_advance_204 rfl (lv_at hl 0 rfl) ?_
                  refine r_getI (g := 1006) (x := v_155) X hw ha_x_L_149 rfl 6 ev_155 (by decide) rfl inn_X10_advance_10 (by decide) (X.2.2.2.1 (.fieldLink RX10 31 "SilkMill$Tape" "behind" "I") (by decide +kernel)) rfl (gv_1006 _ _) dX10_advance_205 ?_
                  refine lv_aload_n X.1 X.2.1 dX10_advance_208 rfl (lv_at hl 0 rfl) ?_
                  refine r_getI (g := 1005) (x := v_21) X hw ha_x_L_149 rfl 5 ik_154 (by decide) rfl inn_X10_advance_10 (by decide) (X.2.2.2.1 (.fieldLink RX10 79 "SilkMill$Tape" "start" "I") (by decide +kernel)) rfl (gv_1005 _ _) dX10_advance_209 ?_
                  refine lv_isub X.1 X.2.1 dX10_advance_212 ?_
                  refine lv_topi (fun v_209 ev_209 => ?_)
                  have z_210 : v_209.toInt = v_155.toInt - v_21.toInt := z_sub ev_209 rfl rfl (by omega) (by omega)
                  refine lv_iconst (v := 4) X.1 X.2.1 dX10_advance_213 (by decide) ?_
                  refine lv_icmp_gt (tgt := 221) X.1 X.2.1 dX10_advance_214 (by decide) (fun c_211 => ?_) (fun c_211 => ?_)
                  · have z_b_212 := trivial
                    have k_213 : v_209.toInt > 4 := z_lt ti_4 rfl c_211
                    refine lv_iconst (v := 4) X.1 X.2.1 dX10_advance_221 (by decide) ?_
                    refine r_putI (v := 4) X hw ha_x_L_149 rfl 4 1004 tyX10 (by decide) rfl inn_X10_advance_10 tyX10_ok nmX10 (by decide) (X.2.2.2.1 (.fieldLink RX10 37 "SilkMill$Tape" "token" "I") (by decide +kernel)) rfl (Or.inl rfl) rfl rfl (Nat.le_of_ble_eq_true rfl) (st_1004 _ _) dX10_advance_222 (fun H locs hw => ?_)
                    obtain ⟨S_214, eS_214⟩ : ∃ T, T = sI T_148 1004 x (4) := ⟨_, rfl⟩
                    rw [← eS_214] at hw
                    have hO_215 : Ok MLa S S_214 := hO_T_148.sI eS_214 (by decide +kernel) (uI_10_1004 hO_T_148.1 ha_x_L_149)
                    have h_216 : pI S_214 1004 x = 4 := tI_sIs eS_214
                    refine lv_goto (tgt := 261) X.1 X.2.1 dX10_advance_225 (by decide) ?_
                    have pz_217 : (pI S_214 1004 x).toInt = 4 := (congrArg Int32.toInt h_216).trans ti_4
                    have t_218 : pI S_214 1005 x = v_21 := tI_sI eS_214 rfl ik_154
                    have pz_219 : (pI S_214 1005 x).toInt = v_21.toInt := (congrArg Int32.toInt t_218).trans rfl
                    have t_220 : pI S_214 1006 x = v_155 := tI_sI eS_214 rfl ev_155
                    have pz_221 : (pI S_214 1006 x).toInt = v_155.toInt := (congrArg Int32.toInt t_220).trans rfl
                    rw [hQQ]
                    exact ret_v X hw hr hlocks (Nat.le_of_ble_eq_true rfl) (Nat.le_of_ble_eq_true rfl) ⟨hO_215, ⟨by rw [hT_29, tokS_dig (e := (v_155.toInt).toNat) (by omega) (letP_f (by rw [← by_41]; exact f_45)) (digP_t (by rw [← by_139]; exact f_143)) (by omega) (by omega) (all_nat (q := v_155.toInt) (fun j h1 h2 => iv_152 j h1 (by omega)) (by omega)) (digP_f (by rw [← by_190]; exact f_194)), if_neg (by omega)]; exact TokAt_mk (by omega) (by omega) (by omega), by omega, by omega⟩⟩ dX10_advance_261
                  · have z_b_222 := trivial
                    have k_223 : v_209.toInt ≤ 4 := z_nlt ti_4 rfl c_211
                    refine lv_iconst (v := 2) X.1 X.2.1 dX10_advance_217 (by decide) ?_
                    refine lv_goto (tgt := 222) X.1 X.2.1 dX10_advance_218 (by decide) ?_
                    refine r_putI (v := 2) X hw ha_x_L_149 rfl 4 1004 tyX10 (by decide) rfl inn_X10_advance_10 tyX10_ok nmX10 (by decide) (X.2.2.2.1 (.fieldLink RX10 37 "SilkMill$Tape" "token" "I") (by decide +kernel)) rfl (Or.inl rfl) rfl rfl (Nat.le_of_ble_eq_true rfl) (st_1004 _ _) dX10_advance_222 (fun H locs hw => ?_)
                    obtain ⟨S_224, eS_224⟩ : ∃ T, T = sI T_148 1004 x (2) := ⟨_, rfl⟩
                    rw [← eS_224] at hw
                    have hO_225 : Ok MLa S S_224 := hO_T_148.sI eS_224 (by decide +kernel) (uI_10_1004 hO_T_148.1 ha_x_L_149)
                    have h_226 : pI S_224 1004 x = 2 := tI_sIs eS_224
                    refine lv_goto (tgt := 261) X.1 X.2.1 dX10_advance_225 (by decide) ?_
                    have pz_227 : (pI S_224 1004 x).toInt = 2 := (congrArg Int32.toInt h_226).trans ti_2
                    have t_228 : pI S_224 1005 x = v_21 := tI_sI eS_224 rfl ik_154
                    have pz_229 : (pI S_224 1005 x).toInt = v_21.toInt := (congrArg Int32.toInt t_228).trans rfl
                    have t_230 : pI S_224 1006 x = v_155 := tI_sI eS_224 rfl ev_155
                    have pz_231 : (pI S_224 1006 x).toInt = v_155.toInt := (congrArg Int32.toInt t_230).trans rfl
                    rw [hQQ]
                    exact ret_v X hw hr hlocks (Nat.le_of_ble_eq_true rfl) (Nat.le_of_ble_eq_true rfl) ⟨hO_225, ⟨by rw [hT_29, tokS_dig (e := (v_155.toInt).toNat) (by omega) (letP_f (by rw [← by_41]; exact f_45)) (digP_t (by rw [← by_139]; exact f_143)) (by omega) (by omega) (all_nat (q := v_155.toInt) (fun j h1 h2 => iv_152 j h1 (by omega)) (by omega)) (digP_f (by rw [← by_190]; exact f_194)), if_pos (by omega)]; exact TokAt_mk (by omega) (by omega) (by omega), by omega, by omega⟩⟩ dX10_advance_261
            have pz_232 : (pI S_30 1006 x).toInt = v_21.toInt := (congrArg Int32.toInt h_32).trans rfl
            exact L_147 _ _ _ _ _  rfl hw t_33 hO_31 (by omega) (by omega) (fun j h1 h2 => absurd h2 (by omega)) t_35 t_34 (lv_sub hl [0] rfl)
          · have z_b_233 := trivial
            refine lv_if_eq (tgt := 228) X.1 X.2.1 dX10_advance_162 (by decide) (fun c_234 => ?_) (fun c_234 => absurd c_234 (by decide))
            refine lv_aload_n X.1 X.2.1 dX10_advance_228 rfl (lv_at hl 0 rfl) ?_
            refine lv_dup X.1 X.2.1 dX10_advance_229 rfl ?_
            refine r_getI (g := 1006) (x := v_21) X hw t_33 rfl 6 h_32 (by decide) rfl inn_X10_advance_10 (by decide) (X.2.2.2.1 (.fieldLink RX10 31 "SilkMill$Tape" "behind" "I") (by decide +kernel)) rfl (gv_1006 _ _) dX10_advance_230 ?_
            refine lv_iconst (v := 1) X.1 X.2.1 dX10_advance_233 (by decide) ?_
            refine lv_iadd X.1 X.2.1 dX10_advance_234 ?_
            refine lv_topi (fun v_235 ev_235 => ?_)
            have z_236 : v_235.toInt = v_21.toInt + 1 := z_add ev_235 rfl ti_1 (by omega) (by omega)
            refine r_putI (v := v_235) X hw t_33 rfl 6 1006 tyX10 (by decide) rfl inn_X10_advance_10 tyX10_ok nmX10 (by decide) (X.2.2.2.1 (.fieldLink RX10 31 "SilkMill$Tape" "behind" "I") (by decide +kernel)) rfl (Or.inl rfl) rfl rfl (Nat.le_of_ble_eq_true rfl) (st_1006 _ _) dX10_advance_235 (fun H locs hw => ?_)
            obtain ⟨S_237, eS_237⟩ : ∃ T, T = sI S_30 1006 x (v_235) := ⟨_, rfl⟩
            rw [← eS_237] at hw
            have hO_238 : Ok MLa S S_237 := hO_31.sI eS_237 (by decide +kernel) (uI_10_1006 hO_31.1 t_33)
            have h_239 : pI S_237 1006 x = v_235 := tI_sIs eS_237
            refine lv_aload_n X.1 X.2.1 dX10_advance_238 rfl (lv_at hl 0 rfl) ?_
            refine lv_aload_n X.1 X.2.1 dX10_advance_239 rfl (lv_at hl 0 rfl) ?_
            refine lv_aload_n X.1 X.2.1 dX10_advance_240 rfl (lv_at hl 0 rfl) ?_
            have t_240 : At S_237 x 10 := tAt_sI eS_237 t_33
            have t_241 : pI S_237 1005 x = v_21 := tI_sI eS_237 rfl t_34
            refine r_getI (g := 1005) (x := v_21) X hw t_240 rfl 5 t_241 (by decide) rfl inn_X10_advance_10 (by decide) (X.2.2.2.1 (.fieldLink RX10 79 "SilkMill$Tape" "start" "I") (by decide +kernel)) rfl (gv_1005 _ _) dX10_advance_241 ?_
            refine k_i (rm := { frames := 1, cells := 0, slots := 0, locals := 48 }) (av := [.ref x, .int (v_21)]) X hw (va_runV (As := [.int (v_21)]) (rest := [.ref x]) (cfix X) (k_X10_byteAt2 l G cy κ S_237 _ x (v_21) (v_21.toInt) hO_238.1 t_240 rfl) (cwV 1 X.2.2.2.1 gX10_advance_X10_byteAt rfl rfl rfl (by decide +kernel) ⟨Nat.le_of_ble_eq_true rfl, Nat.le_of_ble_eq_true rfl⟩) (pre_V X hw _ t_240 rfl (by decide) rfl) rfl rfl hl.1 rfl (lv_room (Nat.le_of_ble_eq_true rfl)) dX10_advance_244 ⟨Nat.le_of_ble_eq_true rfl, Nat.le_of_ble_eq_true rfl⟩) 0 0 (Nat.le_of_ble_eq_true rfl) (Nat.le_of_ble_eq_true rfl) (fun rr_242 S_243 H locs hp hw hfr hnw => ?_)
            obtain ⟨e2, hp⟩ := hp
            subst e2
            have rg_245 := And.intro (z_lo rr_242) (z_hi rr_242)
            have by_244 := hp (by omega)
            rw [tB_fr hG ha_x hO_238.fr (by decide +kernel)] at by_244
            refine k_i (rm := { frames := 1, cells := 0, slots := 0, locals := 48 }) (av := [.int (rr_242)]) X hw (va_runS (As := [.int (rr_242)]) (rest := [.ref x]) (cfix X) (k_X10_isSignByte2 l G cy κ S_237 _ (rr_242) (rr_242.toInt) hO_238.1 rfl) (cwS 1 X.2.2.2.1 gX10_advance_X10_isSignByte rfl rfl rfl (by decide +kernel) ⟨Nat.le_of_ble_eq_true rfl, Nat.le_of_ble_eq_true rfl⟩) (pre_S X hw _) rfl rfl hl.1 rfl (lv_room (Nat.le_of_ble_eq_true rfl)) dX10_advance_247 ⟨Nat.le_of_ble_eq_true rfl, Nat.le_of_ble_eq_true rfl⟩) 0 0 (Nat.le_of_ble_eq_true rfl) (Nat.le_of_ble_eq_true rfl) (fun rr_246 S_247 H locs hp hw hfr hnw => ?_)
            obtain ⟨e2, hp⟩ := hp
            subst e2
            rcases hp with ⟨f_248, er_249⟩ | ⟨f_248, er_249⟩ <;> subst er_249
            · have z_b_250 := trivial
              refine lv_if_eq (tgt := 257) X.1 X.2.1 dX10_advance_250 (by decide) (fun c_251 => absurd c_251 (by decide)) (fun c_251 => ?_)
              refine lv_iconst (v := 3) X.1 X.2.1 dX10_advance_253 (by decide) ?_
              refine lv_goto (tgt := 258) X.1 X.2.1 dX10_advance_254 (by decide) ?_
              refine r_putI (v := 3) X hw t_240 rfl 4 1004 tyX10 (by decide) rfl inn_X10_advance_10 tyX10_ok nmX10 (by decide) (X.2.2.2.1 (.fieldLink RX10 37 "SilkMill$Tape" "token" "I") (by decide +kernel)) rfl (Or.inl rfl) rfl rfl (Nat.le_of_ble_eq_true rfl) (st_1004 _ _) dX10_advance_258 (fun H locs hw => ?_)
              obtain ⟨S_252, eS_252⟩ : ∃ T, T = sI S_237 1004 x (3) := ⟨_, rfl⟩
              rw [← eS_252] at hw
              have hO_253 : Ok MLa S S_252 := hO_238.sI eS_252 (by decide +kernel) (uI_10_1004 hO_238.1 t_240)
              have h_254 : pI S_252 1004 x = 3 := tI_sIs eS_252
              have pz_255 : (pI S_252 1004 x).toInt = 3 := (congrArg Int32.toInt h_254).trans ti_3
              have t_256 : pI S_252 1005 x = v_21 := tI_sI eS_252 rfl t_241
              have pz_257 : (pI S_252 1005 x).toInt = v_21.toInt := (congrArg Int32.toInt t_256).trans rfl
              have t_258 : pI S_252 1006 x = v_235 := tI_sI eS_252 rfl h_239
              have pz_259 : (pI S_252 1006 x).toInt = v_235.toInt := (congrArg Int32.toInt t_258).trans rfl
              rw [hQQ]
              exact ret_v X hw hr hlocks (Nat.le_of_ble_eq_true rfl) (Nat.le_of_ble_eq_true rfl) ⟨hO_253, ⟨by rw [hT_29, tokS_sgn (by omega) (letP_f (by rw [← by_41]; exact f_45)) (digP_f (by rw [← by_139]; exact f_143)), if_pos (sgnP_t (by rw [← by_244]; exact f_248))]; exact TokAt_mk (by omega) (by omega) (by omega), by omega, by omega⟩⟩ dX10_advance_261
            · have z_b_260 := trivial
              refine lv_if_eq (tgt := 257) X.1 X.2.1 dX10_advance_250 (by decide) (fun c_261 => ?_) (fun c_261 => absurd c_261 (by decide))
              refine lv_iconst (v := 4) X.1 X.2.1 dX10_advance_257 (by decide) ?_
              refine r_putI (v := 4) X hw t_240 rfl 4 1004 tyX10 (by decide) rfl inn_X10_advance_10 tyX10_ok nmX10 (by decide) (X.2.2.2.1 (.fieldLink RX10 37 "SilkMill$Tape" "token" "I") (by decide +kernel)) rfl (Or.inl rfl) rfl rfl (Nat.le_of_ble_eq_true rfl) (st_1004 _ _) dX10_advance_258 (fun H locs hw => ?_)
              obtain ⟨S_262, eS_262⟩ : ∃ T, T = sI S_237 1004 x (4) := ⟨_, rfl⟩
              rw [← eS_262] at hw
              have hO_263 : Ok MLa S S_262 := hO_238.sI eS_262 (by decide +kernel) (uI_10_1004 hO_238.1 t_240)
              have h_264 : pI S_262 1004 x = 4 := tI_sIs eS_262
              have pz_265 : (pI S_262 1004 x).toInt = 4 := (congrArg Int32.toInt h_264).trans ti_4
              have t_266 : pI S_262 1005 x = v_21 := tI_sI eS_262 rfl t_241
              have pz_267 : (pI S_262 1005 x).toInt = v_21.toInt := (congrArg Int32.toInt t_266).trans rfl
              have t_268 : pI S_262 1006 x = v_235 := tI_sI eS_262 rfl h_239
              have pz_269 : (pI S_262 1006 x).toInt = v_235.toInt := (congrArg Int32.toInt t_268).trans rfl
              rw [hQQ]
              exact ret_v X hw hr hlocks (Nat.le_of_ble_eq_true rfl) (Nat.le_of_ble_eq_true rfl) ⟨hO_263, ⟨by rw [hT_29, tokS_sgn (by omega) (letP_f (by rw [← by_41]; exact f_45)) (digP_f (by rw [← by_139]; exact f_143)), if_neg (by rw [(sgnP_f (by rw [← by_244]; exact f_248))]; decide)]; exact TokAt_mk (by omega) (by omega) (by omega), by omega, by omega⟩⟩ dX10_advance_261
      · have z_b_270 := trivial
        have k_271 : v_21.toInt ≥ v_6.toInt := z_nlt rfl rfl c_36
        refine lv_aload_n X.1 X.2.1 dX10_advance_65 rfl (lv_at hl 0 rfl) ?_
        refine lv_iconst (v := 0) X.1 X.2.1 dX10_advance_66 (by decide) ?_
        refine r_putI (v := 0) X hw t_33 rfl 4 1004 tyX10 (by decide) rfl inn_X10_advance_10 tyX10_ok nmX10 (by decide) (X.2.2.2.1 (.fieldLink RX10 37 "SilkMill$Tape" "token" "I") (by decide +kernel)) rfl (Or.inl rfl) rfl rfl (Nat.le_of_ble_eq_true rfl) (st_1004 _ _) dX10_advance_67 (fun H locs hw => ?_)
        obtain ⟨S_272, eS_272⟩ : ∃ T, T = sI S_30 1004 x (0) := ⟨_, rfl⟩
        rw [← eS_272] at hw
        have hO_273 : Ok MLa S S_272 := hO_31.sI eS_272 (by decide +kernel) (uI_10_1004 hO_31.1 t_33)
        have h_274 : pI S_272 1004 x = 0 := tI_sIs eS_272
        refine lv_goto (tgt := 261) X.1 X.2.1 dX10_advance_70 (by decide) ?_
        have pz_275 : (pI S_272 1004 x).toInt = 0 := (congrArg Int32.toInt h_274).trans ti_0
        have t_276 : pI S_272 1005 x = v_21 := tI_sI eS_272 rfl t_34
        have pz_277 : (pI S_272 1005 x).toInt = v_21.toInt := (congrArg Int32.toInt t_276).trans rfl
        have t_278 : pI S_272 1006 x = v_21 := tI_sI eS_272 rfl h_32
        have pz_279 : (pI S_272 1006 x).toInt = v_21.toInt := (congrArg Int32.toInt t_278).trans rfl
        rw [hQQ]
        exact ret_v X hw hr hlocks (Nat.le_of_ble_eq_true rfl) (Nat.le_of_ble_eq_true rfl) ⟨hO_273, ⟨by rw [hT_29, tokS_end (by omega)]; exact TokAt_mk (by omega) (by omega) (by omega), by omega, by omega⟩⟩ dX10_advance_261
    · have z_b_280 := trivial
      have k_281 : v_21.toInt < v_6.toInt := z_nle rfl rfl c_26
      refine lv_aload_n X.1 X.2.1 dX10_advance_19 rfl (lv_at hl 0 rfl) ?_
      refine lv_aload_n X.1 X.2.1 dX10_advance_20 rfl (lv_at hl 0 rfl) ?_
      refine r_getI (g := 1005) (x := v_21) X hw ha_x_L_15 rfl 5 ev_21 (by decide) rfl inn_X10_advance_10 (by decide) (X.2.2.2.1 (.fieldLink RX10 79 "SilkMill$Tape" "start" "I") (by decide +kernel)) rfl (gv_1005 _ _) dX10_advance_21 ?_
      refine k_i (rm := { frames := 1, cells := 0, slots := 0, locals := 48 }) (av := [.ref x, .int (v_21)]) X hw (va_runV (As := [.int (v_21)]) (rest := []) (cfix X) (k_X10_byteAt2 l G cy κ T_14 _ x (v_21) (v_21.toInt) hO_T_14.1 ha_x_L_15 rfl) (cwV 1 X.2.2.2.1 gX10_advance_X10_byteAt rfl rfl rfl (by decide +kernel) ⟨Nat.le_of_ble_eq_true rfl, Nat.le_of_ble_eq_true rfl⟩) (pre_V X hw _ ha_x_L_15 rfl (by decide) rfl) rfl rfl hl.1 rfl (lv_room (Nat.le_of_ble_eq_true rfl)) dX10_advance_24 ⟨Nat.le_of_ble_eq_true rfl, Nat.le_of_ble_eq_true rfl⟩) 0 0 (Nat.le_of_ble_eq_true rfl) (Nat.le_of_ble_eq_true rfl) (fun rr_282 S_283 H locs hp hw hfr hnw => ?_)
      obtain ⟨e2, hp⟩ := hp
      subst e2
      have rg_285 := And.intro (z_lo rr_282) (z_hi rr_282)
      have by_284 := hp (by omega)
      rw [tB_fr hG ha_x hO_T_14.fr (by decide +kernel)] at by_284
      refine k_i (rm := { frames := 1, cells := 0, slots := 0, locals := 48 }) (av := [.int (rr_282)]) X hw (va_runS (As := [.int (rr_282)]) (rest := []) (cfix X) (k_X10_isBlank2 l G cy κ T_14 _ (rr_282) (rr_282.toInt) hO_T_14.1 rfl) (cwS 1 X.2.2.2.1 gX10_advance_X10_isBlank rfl rfl rfl (by decide +kernel) ⟨Nat.le_of_ble_eq_true rfl, Nat.le_of_ble_eq_true rfl⟩) (pre_S X hw _) rfl rfl hl.1 rfl (lv_room (Nat.le_of_ble_eq_true rfl)) dX10_advance_27 ⟨Nat.le_of_ble_eq_true rfl, Nat.le_of_ble_eq_true rfl⟩) 0 0 (Nat.le_of_ble_eq_true rfl) (Nat.le_of_ble_eq_true rfl) (fun rr_286 S_287 H locs hp hw hfr hnw => ?_)
      obtain ⟨e2, hp⟩ := hp
      subst e2
      rcases hp with ⟨f_288, er_289⟩ | ⟨f_288, er_289⟩ <;> subst er_289
      · have z_b_290 := trivial
        refine lv_if_eq (tgt := 46) X.1 X.2.1 dX10_advance_30 (by decide) (fun c_291 => absurd c_291 (by decide)) (fun c_291 => ?_)
        refine lv_aload_n X.1 X.2.1 dX10_advance_33 rfl (lv_at hl 0 rfl) ?_
        refine lv_dup X.1 X.2.1 dX10_advance_34 rfl ?_
        refine r_getI (g := 1005) (x := v_21) X hw ha_x_L_15 rfl 5 ev_21 (by decide) rfl inn_X10_advance_10 (by decide) (X.2.2.2.1 (.fieldLink RX10 79 "SilkMill$Tape" "start" "I") (by decide +kernel)) rfl (gv_1005 _ _) dX10_advance_35 ?_
        refine lv_iconst (v := 1) X.1 X.2.1 dX10_advance_38 (by decide) ?_
        refine lv_iadd X.1 X.2.1 dX10_advance_39 ?_
        refine lv_topi (fun v_292 ev_292 => ?_)
        have z_293 : v_292.toInt = v_21.toInt + 1 := z_add ev_292 rfl ti_1 (by omega) (by omega)
        refine r_putI (v := v_292) X hw ha_x_L_15 rfl 5 1005 tyX10 (by decide) rfl inn_X10_advance_10 tyX10_ok nmX10 (by decide) (X.2.2.2.1 (.fieldLink RX10 79 "SilkMill$Tape" "start" "I") (by decide +kernel)) rfl (Or.inl rfl) rfl rfl (Nat.le_of_ble_eq_true rfl) (st_1005 _ _) dX10_advance_40 (fun H locs hw => ?_)
        obtain ⟨S_294, eS_294⟩ : ∃ T, T = sI T_14 1005 x (v_292) := ⟨_, rfl⟩
        rw [← eS_294] at hw
        have hO_295 : Ok MLa S S_294 := hO_T_14.sI eS_294 (by decide +kernel) (uI_10_1005 hO_T_14.1 ha_x_L_15)
        have h_296 : pI S_294 1005 x = v_292 := tI_sIs eS_294
        refine lv_goto (tgt := 8) X.1 X.2.1 dX10_advance_43 (by decide) ?_
        have pz_297 : (pI S_294 1005 x).toInt = v_292.toInt := (congrArg Int32.toInt h_296).trans rfl
        have t_298 : At S_294 x 10 := tAt_sI eS_294 ha_x_L_15
        have t_299 : pI S_294 1000 x = v_6 := tI_sI eS_294 rfl ik_20
        exact ih _ (by omega) _ _ _ _  rfl hw t_298 hO_295 (by omega) (by omega) (fun j h1 h2 => all_ext (q := v_21.toInt) (fun j h1 h2 => iv_18 j h1 (by omega)) (blaP_t (by rw [← by_284]; exact f_288)) (by omega) j h1 (by omega)) t_299 (lv_sub hl [0] rfl)
      · have z_b_300 := trivial
        refine lv_if_eq (tgt := 46) X.1 X.2.1 dX10_advance_30 (by decide) (fun c_301 => ?_) (fun c_301 => absurd c_301 (by decide))
        have hT_302 : tokF (tB S x) (pI S 1000 x).toInt.toNat (pI S 1006 x).toInt.toNat = tokS (tB S x) (pI S 1000 x).toInt.toNat (v_21.toInt).toNat := tokF_at (by omega) (by omega) (all_nat (q := v_21.toInt) (fun j h1 h2 => iv_18 j h1 (by omega)) (by omega)) (blaP_f (by rw [← by_284]; exact f_288))
        refine lv_aload_n X.1 X.2.1 dX10_advance_46 rfl (lv_at hl 0 rfl) ?_
        refine lv_aload_n X.1 X.2.1 dX10_advance_47 rfl (lv_at hl 0 rfl) ?_
        refine r_getI (g := 1005) (x := v_21) X hw ha_x_L_15 rfl 5 ev_21 (by decide) rfl inn_X10_advance_10 (by decide) (X.2.2.2.1 (.fieldLink RX10 79 "SilkMill$Tape" "start" "I") (by decide +kernel)) rfl (gv_1005 _ _) dX10_advance_48 ?_
        refine r_putI (v := v_21) X hw ha_x_L_15 rfl 6 1006 tyX10 (by decide) rfl inn_X10_advance_10 tyX10_ok nmX10 (by decide) (X.2.2.2.1 (.fieldLink RX10 31 "SilkMill$Tape" "behind" "I") (by decide +kernel)) rfl (Or.inl rfl) rfl rfl (Nat.le_of_ble_eq_true rfl) (st_1006 _ _) dX10_advance_51 (fun H locs hw => ?_)
        obtain ⟨S_303, eS_303⟩ : ∃ T, T = sI T_14 1006 x (v_21) := ⟨_, rfl⟩
        rw [← eS_303] at hw
        have hO_304 : Ok MLa S S_303 := hO_T_14.sI eS_303 (by decide +kernel) (uI_10_1006 hO_T_14.1 ha_x_L_15)
        have h_305 : pI S_303 1006 x = v_21 := tI_sIs eS_303
        refine lv_aload_n X.1 X.2.1 dX10_advance_54 rfl (lv_at hl 0 rfl) ?_
        have t_306 : At S_303 x 10 := tAt_sI eS_303 ha_x_L_15
        have t_307 : pI S_303 1005 x = v_21 := tI_sI eS_303 rfl ev_21
        refine r_getI (g := 1005) (x := v_21) X hw t_306 rfl 5 t_307 (by decide) rfl inn_X10_advance_10 (by decide) (X.2.2.2.1 (.fieldLink RX10 79 "SilkMill$Tape" "start" "I") (by decide +kernel)) rfl (gv_1005 _ _) dX10_advance_55 ?_
        refine lv_aload_n X.1 X.2.1 dX10_advance_58 rfl (lv_at hl 0 rfl) ?_
        have t_308 : pI S_303 1000 x = v_6 := tI_sI eS_303 rfl ik_20
        refine r_getI (g := 1000) (x := v_6) X hw t_306 rfl 0 t_308 (by decide) rfl inn_X10_advance_10 (by decide) (X.2.2.2.1 (.fieldLink RX10 19 "SilkMill$Tape" "size" "I") (by decide +kernel)) rfl (gv_1000 _ _) dX10_advance_59 ?_
        refine lv_icmp_lt (tgt := 73) X.1 X.2.1 dX10_advance_62 (by decide) (fun c_309 => ?_) (fun c_309 => ?_)
        · have z_b_310 := trivial
          have k_311 : v_21.toInt < v_6.toInt := z_lt rfl rfl c_309
          refine lv_aload_n X.1 X.2.1 dX10_advance_73 rfl (lv_at hl 0 rfl) ?_
          refine lv_aload_n X.1 X.2.1 dX10_advance_74 rfl (lv_at hl 0 rfl) ?_
          refine r_getI (g := 1005) (x := v_21) X hw t_306 rfl 5 t_307 (by decide) rfl inn_X10_advance_10 (by decide) (X.2.2.2.1 (.fieldLink RX10 79 "SilkMill$Tape" "start" "I") (by decide +kernel)) rfl (gv_1005 _ _) dX10_advance_75 ?_
          refine k_i (rm := { frames := 1, cells := 0, slots := 0, locals := 48 }) (av := [.ref x, .int (v_21)]) X hw (va_runV (As := [.int (v_21)]) (rest := []) (cfix X) (k_X10_byteAt2 l G cy κ S_303 _ x (v_21) (v_21.toInt) hO_304.1 t_306 rfl) (cwV 1 X.2.2.2.1 gX10_advance_X10_byteAt rfl rfl rfl (by decide +kernel) ⟨Nat.le_of_ble_eq_true rfl, Nat.le_of_ble_eq_true rfl⟩) (pre_V X hw _ t_306 rfl (by decide) rfl) rfl rfl hl.1 rfl (lv_room (Nat.le_of_ble_eq_true rfl)) dX10_advance_78 ⟨Nat.le_of_ble_eq_true rfl, Nat.le_of_ble_eq_true rfl⟩) 0 0 (Nat.le_of_ble_eq_true rfl) (Nat.le_of_ble_eq_true rfl) (fun rr_312 S_313 H locs hp hw hfr hnw => ?_)
          obtain ⟨e2, hp⟩ := hp
          subst e2
          have rg_315 := And.intro (z_lo rr_312) (z_hi rr_312)
          have by_314 := hp (by omega)
          rw [tB_fr hG ha_x hO_304.fr (by decide +kernel)] at by_314
          refine k_i (rm := { frames := 1, cells := 0, slots := 0, locals := 48 }) (av := [.int (rr_312)]) X hw (va_runS (As := [.int (rr_312)]) (rest := []) (cfix X) (k_X10_isLetter2 l G cy κ S_303 _ (rr_312) (rr_312.toInt) hO_304.1 rfl) (cwS 1 X.2.2.2.1 gX10_advance_X10_isLetter rfl rfl rfl (by decide +kernel) ⟨Nat.le_of_ble_eq_true rfl, Nat.le_of_ble_eq_true rfl⟩) (pre_S X hw _) rfl rfl hl.1 rfl (lv_room (Nat.le_of_ble_eq_true rfl)) dX10_advance_81 ⟨Nat.le_of_ble_eq_true rfl, Nat.le_of_ble_eq_true rfl⟩) 0 0 (Nat.le_of_ble_eq_true rfl) (Nat.le_of_ble_eq_true rfl) (fun rr_316 S_317 H locs hp hw hfr hnw => ?_)
          obtain ⟨e2, hp⟩ := hp
          subst e2
          rcases hp with ⟨f_318, er_319⟩ | ⟨f_318, er_319⟩ <;> subst er_319
          · have z_b_320 := trivial
            refine lv_if_eq (tgt := 151) X.1 X.2.1 dX10_advance_84 (by decide) (fun c_321 => absurd c_321 (by decide)) (fun c_321 => ?_)
            have L_322 : ∀ (n : Nat) (T_323 : PS) (H : Heap) (locs : List Loc) (ls : Array Slot) , ((400 - (pI T_323 1006 x).toInt).toNat = n) → (Wd G cy (AS S s.heap.size) s.heap T_323 H locs) → (At T_323 x 10) → (Ok MLa S T_323) → (0 ≤ (pI T_323 1006 x).toInt ∧ (pI T_323 1006 x).toInt ≤ 400) → (v_21.toInt ≤ (pI T_323 1006 x).toInt) → ((∀ j : Nat, v_21.toInt ≤ (j : Int) → (j : Int) < (pI T_323 1006 x).toInt → letP (tB S x j) = true)) → (pI T_323 1000 x = v_6) → (pI T_323 1005 x = v_21) → (lv_has ls 1 [(0, .ref x)]) → W p l e ({ frames := 2, cells := 0, slots := 0, locals := 96 }) s m [.ref x].toArray below meth c H locs 0 0 QQ (F0 m 87 ls []) := by
              intro n
              induction n using Nat.strongRecOn with
              | ind n ih =>
              intro T_323 H locs ls  hn hw ha_x_L_324 hO_T_323 iv_325 iv_326 iv_327 ik_328 ik_329 hl
              obtain ⟨v_330, ev_330⟩ : ∃ v, pI T_323 1006 x = v := ⟨_, rfl⟩
              have rg_332 := And.intro (z_lo v_330) (z_hi v_330)
              have pz_333 : (pI T_323 1006 x).toInt = v_330.toInt := by rw [ev_330]
              have pz_334 : (pI T_323 1006 x).toInt = v_330.toInt := (congrArg Int32.toInt ev_330).trans rfl
              refine lv_aload_n X.1 X.2.1 dX10_advance_87 rfl (lv_at hl 0 rfl) ?_
              refine r_getI (g := 1006) (x := v_330) X hw ha_x_L_324 rfl 6 ev_330 (by decide) rfl inn_X10_advance_10 (by decide) (X.2.2.2.1 (.fieldLink RX10 31 "SilkMill$Tape" "behind" "I") (by decide +kernel)) rfl (gv_1006 _ _) dX10_advance_88 ?_
              refine lv_aload_n X.1 X.2.1 dX10_advance_91 rfl (lv_at hl 0 rfl) ?_
              refine r_getI (g := 1000) (x := v_6) X hw ha_x_L_324 rfl 0 ik_328 (by decide) rfl inn_X10_advance_10 (by decide) (X.2.2.2.1 (.fieldLink RX10 19 "SilkMill$Tape" "size" "I") (by decide +kernel)) rfl (gv_1000 _ _) dX10_advance_92 ?_
              refine lv_icmp_ge (tgt := 125) X.1 X.2.1 dX10_advance_95 (by decide) (fun c_335 => ?_) (fun c_335 => ?_)
              · have z_b_336 := trivial
                have k_337 : v_330.toInt ≥ v_6.toInt := z_le rfl rfl c_335
                refine lv_aload_n X.1 X.2.1 dX10_advance_125 rfl (lv_at hl 0 rfl) ?_
                refine lv_aload_n X.1 X.2.1 dX10_advance_126 rfl (lv_at hl 0 rfl) ?_
                refine r_getI (g := 1006) (x := v_330) X hw ha_x_L_324 rfl 6 ev_330 (by decide) rfl inn_X10_advance_10 (by decide) (X.2.2.2.1 (.fieldLink RX10 31 "SilkMill$Tape" "behind" "I") (by decide +kernel)) rfl (gv_1006 _ _) dX10_advance_127 ?_
                refine lv_aload_n X.1 X.2.1 dX10_advance_130 rfl (lv_at hl 0 rfl) ?_
                refine r_getI (g := 1005) (x := v_21) X hw ha_x_L_324 rfl 5 ik_329 (by decide) rfl inn_X10_advance_10 (by decide) (X.2.2.2.1 (.fieldLink RX10 79 "SilkMill$Tape" "start" "I") (by decide +kernel)) rfl (gv_1005 _ _) dX10_advance_131 ?_
                refine lv_isub X.1 X.2.1 dX10_advance_134 ?_
                refine lv_topi (fun v_338 ev_338 => ?_)
                have z_339 : v_338.toInt = v_330.toInt - v_21.toInt := z_sub ev_338 rfl rfl (by omega) (by omega)
                refine lv_bipush (v := 8) X.1 X.2.1 dX10_advance_135 (by decide) ?_
                refine lv_icmp_gt (tgt := 144) X.1 X.2.1 dX10_advance_137 (by decide) (fun c_340 => ?_) (fun c_340 => ?_)
                · have z_b_341 := trivial
                  have k_342 : v_338.toInt > 8 := z_lt ti_8 rfl c_340
                  refine lv_iconst (v := 4) X.1 X.2.1 dX10_advance_144 (by decide) ?_
                  refine r_putI (v := 4) X hw ha_x_L_324 rfl 4 1004 tyX10 (by decide) rfl inn_X10_advance_10 tyX10_ok nmX10 (by decide) (X.2.2.2.1 (.fieldLink RX10 37 "SilkMill$Tape" "token" "I") (by decide +kernel)) rfl (Or.inl rfl) rfl rfl (Nat.le_of_ble_eq_true rfl) (st_1004 _ _) dX10_advance_145 (fun H locs hw => ?_)
                  obtain ⟨S_343, eS_343⟩ : ∃ T, T = sI T_323 1004 x (4) := ⟨_, rfl⟩
                  rw [← eS_343] at hw
                  have hO_344 : Ok MLa S S_343 := hO_T_323.sI eS_343 (by decide +kernel) (uI_10_1004 hO_T_323.1 ha_x_L_324)
                  have h_345 : pI S_343 1004 x = 4 := tI_sIs eS_343
                  refine lv_goto (tgt := 261) X.1 X.2.1 dX10_advance_148 (by decide) ?_
                  have pz_346 : (pI S_343 1004 x).toInt = 4 := (congrArg Int32.toInt h_345).trans ti_4
                  have t_347 : pI S_343 1005 x = v_21 := tI_sI eS_343 rfl ik_329
                  have pz_348 : (pI S_343 1005 x).toInt = v_21.toInt := (congrArg Int32.toInt t_347).trans rfl
                  have t_349 : pI S_343 1006 x = v_330 := tI_sI eS_343 rfl ev_330
                  have pz_350 : (pI S_343 1006 x).toInt = v_330.toInt := (congrArg Int32.toInt t_349).trans rfl
                  rw [hQQ]
                  exact ret_v X hw hr hlocks (Nat.le_of_ble_eq_true rfl) (Nat.le_of_ble_eq_true rfl) ⟨hO_344, ⟨by rw [hT_302, tokS_let (e := (v_330.toInt).toNat) (by omega) (letP_t (by rw [← by_314]; exact f_318)) (by omega) (by omega) (all_nat (q := v_330.toInt) (fun j h1 h2 => iv_327 j h1 (by omega)) (by omega)) (by rw [tB_out (by omega) (by omega)]; rfl), if_neg (by omega)]; exact TokAt_mk (by omega) (by omega) (by omega), by omega, by omega⟩⟩ dX10_advance_261
                · have z_b_351 := trivial
                  have k_352 : v_338.toInt ≤ 8 := z_nlt ti_8 rfl c_340
                  refine lv_iconst (v := 1) X.1 X.2.1 dX10_advance_140 (by decide) ?_
                  refine lv_goto (tgt := 145) X.1 X.2.1 dX10_advance_141 (by decide) ?_
                  refine r_putI (v := 1) X hw ha_x_L_324 rfl 4 1004 tyX10 (by decide) rfl inn_X10_advance_10 tyX10_ok nmX10 (by decide) (X.2.2.2.1 (.fieldLink RX10 37 "SilkMill$Tape" "token" "I") (by decide +kernel)) rfl (Or.inl rfl) rfl rfl (Nat.le_of_ble_eq_true rfl) (st_1004 _ _) dX10_advance_145 (fun H locs hw => ?_)
                  obtain ⟨S_353, eS_353⟩ : ∃ T, T = sI T_323 1004 x (1) := ⟨_, rfl⟩
                  rw [← eS_353] at hw
                  have hO_354 : Ok MLa S S_353 := hO_T_323.sI eS_353 (by decide +kernel) (uI_10_1004 hO_T_323.1 ha_x_L_324)
                  have h_355 : pI S_353 1004 x = 1 := tI_sIs eS_353
                  refine lv_goto (tgt := 261) X.1 X.2.1 dX10_advance_148 (by decide) ?_
                  have pz_356 : (pI S_353 1004 x).toInt = 1 := (congrArg Int32.toInt h_355).trans ti_1
                  have t_357 : pI S_353 1005 x = v_21 := tI_sI eS_353 rfl ik_329
                  have pz_358 : (pI S_353 1005 x).toInt = v_21.toInt := (congrArg Int32.toInt t_357).trans rfl
                  have t_359 : pI S_353 1006 x = v_330 := tI_sI eS_353 rfl ev_330
                  have pz_360 : (pI S_353 1006 x).toInt = v_330.toInt := (congrArg Int32.toInt t_359).trans rfl
                  rw [hQQ]
                  exact ret_v X hw hr hlocks (Nat.le_of_ble_eq_true rfl) (Nat.le_of_ble_eq_true rfl) ⟨hO_354, ⟨by rw [hT_302, tokS_let (e := (v_330.toInt).toNat) (by omega) (letP_t (by rw [← by_314]; exact f_318)) (by omega) (by omega) (all_nat (q := v_330.toInt) (fun j h1 h2 => iv_327 j h1 (by omega)) (by omega)) (by rw [tB_out (by omega) (by omega)]; rfl), if_pos (by omega)]; exact TokAt_mk (by omega) (by omega) (by omega), by omega, by omega⟩⟩ dX10_advance_261
              · have z_b_361 := trivial
                have k_362 : v_330.toInt < v_6.toInt := z_nle rfl rfl c_335
                refine lv_aload_n X.1 X.2.1 dX10_advance_98 rfl (lv_at hl 0 rfl) ?_
                refine lv_aload_n X.1 X.2.1 dX10_advance_99 rfl (lv_at hl 0 rfl) ?_
                refine r_getI (g := 1006) (x := v_330) X hw ha_x_L_324 rfl 6 ev_330 (by decide) rfl inn_X10_advance_10 (by decide) (X.2.2.2.1 (.fieldLink RX10 31 "SilkMill$Tape" "behind" "I") (by decide +kernel)) rfl (gv_1006 _ _) dX10_advance_100 ?_
                refine k_i (rm := { frames := 1, cells := 0, slots := 0, locals := 48 }) (av := [.ref x, .int (v_330)]) X hw (va_runV (As := [.int (v_330)]) (rest := []) (cfix X) (k_X10_byteAt2 l G cy κ T_323 _ x (v_330) (v_330.toInt) hO_T_323.1 ha_x_L_324 rfl) (cwV 1 X.2.2.2.1 gX10_advance_X10_byteAt rfl rfl rfl (by decide +kernel) ⟨Nat.le_of_ble_eq_true rfl, Nat.le_of_ble_eq_true rfl⟩) (pre_V X hw _ ha_x_L_324 rfl (by decide) rfl) rfl rfl hl.1 rfl (lv_room (Nat.le_of_ble_eq_true rfl)) dX10_advance_103 ⟨Nat.le_of_ble_eq_true rfl, Nat.le_of_ble_eq_true rfl⟩) 0 0 (Nat.le_of_ble_eq_true rfl) (Nat.le_of_ble_eq_true rfl) (fun rr_363 S_364 H locs hp hw hfr hnw => ?_)
                obtain ⟨e2, hp⟩ := hp
                subst e2
                have rg_366 := And.intro (z_lo rr_363) (z_hi rr_363)
                have by_365 := hp (by omega)
                rw [tB_fr hG ha_x hO_T_323.fr (by decide +kernel)] at by_365
                refine k_i (rm := { frames := 1, cells := 0, slots := 0, locals := 48 }) (av := [.int (rr_363)]) X hw (va_runS (As := [.int (rr_363)]) (rest := []) (cfix X) (k_X10_isLetter2 l G cy κ T_323 _ (rr_363) (rr_363.toInt) hO_T_323.1 rfl) (cwS 1 X.2.2.2.1 gX10_advance_X10_isLetter rfl rfl rfl (by decide +kernel) ⟨Nat.le_of_ble_eq_true rfl, Nat.le_of_ble_eq_true rfl⟩) (pre_S X hw _) rfl rfl hl.1 rfl (lv_room (Nat.le_of_ble_eq_true rfl)) dX10_advance_106 ⟨Nat.le_of_ble_eq_true rfl, Nat.le_of_ble_eq_true rfl⟩) 0 0 (Nat.le_of_ble_eq_true rfl) (Nat.le_of_ble_eq_true rfl) (fun rr_367 S_368 H locs hp hw hfr hnw => ?_)
                obtain ⟨e2, hp⟩ := hp
                subst e2
                rcases hp with ⟨f_369, er_370⟩ | ⟨f_369, er_370⟩ <;> subst er_370
                · have z_b_371 := trivial
                  refine lv_if_eq (tgt := 125) X.1 X.2.1 dX10_advance_109 (by decide) (fun c_372 => absurd c_372 (by decide)) (fun c_372 => ?_)
                  refine lv_aload_n X.1 X.2.1 dX10_advance_112 rfl (lv_at hl 0 rfl) ?_
                  refine lv_dup X.1 X.2.1 dX10_advance_113 rfl ?_
                  refine r_getI (g := 1006) (x := v_330) X hw ha_x_L_324 rfl 6 ev_330 (by decide) rfl inn_X10_advance_10 (by decide) (X.2.2.2.1 (.fieldLink RX10 31 "SilkMill$Tape" "behind" "I") (by decide +kernel)) rfl (gv_1006 _ _) dX10_advance_114 ?_
                  refine lv_iconst (v := 1) X.1 X.2.1 dX10_advance_117 (by decide) ?_
                  refine lv_iadd X.1 X.2.1 dX10_advance_118 ?_
                  refine lv_topi (fun v_373 ev_373 => ?_)
                  have z_374 : v_373.toInt = v_330.toInt + 1 := z_add ev_373 rfl ti_1 (by omega) (by omega)
                  refine r_putI (v := v_373) X hw ha_x_L_324 rfl 6 1006 tyX10 (by decide) rfl inn_X10_advance_10 tyX10_ok nmX10 (by decide) (X.2.2.2.1 (.fieldLink RX10 31 "SilkMill$Tape" "behind" "I") (by decide +kernel)) rfl (Or.inl rfl) rfl rfl (Nat.le_of_ble_eq_true rfl) (st_1006 _ _) dX10_advance_119 (fun H locs hw => ?_)
                  obtain ⟨S_375, eS_375⟩ : ∃ T, T = sI T_323 1006 x (v_373) := ⟨_, rfl⟩
                  rw [← eS_375] at hw
                  have hO_376 : Ok MLa S S_375 := hO_T_323.sI eS_375 (by decide +kernel) (uI_10_1006 hO_T_323.1 ha_x_L_324)
                  have h_377 : pI S_375 1006 x = v_373 := tI_sIs eS_375
                  refine lv_goto (tgt := 87) X.1 X.2.1 dX10_advance_122 (by decide) ?_
                  have pz_378 : (pI S_375 1006 x).toInt = v_373.toInt := (congrArg Int32.toInt h_377).trans rfl
                  have t_379 : At S_375 x 10 := tAt_sI eS_375 ha_x_L_324
                  have t_380 : pI S_375 1000 x = v_6 := tI_sI eS_375 rfl ik_328
                  have t_381 : pI S_375 1005 x = v_21 := tI_sI eS_375 rfl ik_329
                  exact ih _ (by omega) _ _ _ _  rfl hw t_379 hO_376 (by omega) (by omega) (fun j h1 h2 => all_ext (q := v_330.toInt) (fun j h1 h2 => iv_327 j h1 (by omega)) (letP_t (by rw [← by_365]; exact f_369)) (by omega) j h1 (by omega)) t_380 t_381 (lv_sub hl [0] rfl)
                · have z_b_382 := trivial
                  refine lv_if_eq (tgt := 125) X.1 X.2.1 dX10_advance_109 (by decide) (fun c_383 => ?_) (fun c_383 => absurd c_383 (by decide))
                  refine lv_aload_n X.1 X.2.1 dX10_advance_125 rfl (lv_at hl 0 rfl) ?_
                  refine lv_aload_n X.1 X.2.1 dX10_advance_126 rfl (lv_at hl 0 rfl) ?_
                  refine r_getI (g := 1006) (x := v_330) X hw ha_x_L_324 rfl 6 ev_330 (by decide) rfl inn_X10_advance_10 (by decide) (X.2.2.2.1 (.fieldLink RX10 31 "SilkMill$Tape" "behind" "I") (by decide +kernel)) rfl (gv_1006 _ _) dX10_advance_127 ?_
                  refine lv_aload_n X.1 X.2.1 dX10_advance_130 rfl (lv_at hl 0 rfl) ?_
                  refine r_getI (g := 1005) (x := v_21) X hw ha_x_L_324 rfl 5 ik_329 (by decide) rfl inn_X10_advance_10 (by decide) (X.2.2.2.1 (.fieldLink RX10 79 "SilkMill$Tape" "start" "I") (by decide +kernel)) rfl (gv_1005 _ _) dX10_advance_131 ?_
                  refine lv_isub X.1 X.2.1 dX10_advance_134 ?_
                  refine lv_topi (fun v_384 ev_384 => ?_)
                  have z_385 : v_384.toInt = v_330.toInt - v_21.toInt := z_sub ev_384 rfl rfl (by omega) (by omega)
                  refine lv_bipush (v := 8) X.1 X.2.1 dX10_advance_135 (by decide) ?_
                  refine lv_icmp_gt (tgt := 144) X.1 X.2.1 dX10_advance_137 (by decide) (fun c_386 => ?_) (fun c_386 => ?_)
                  · have z_b_387 := trivial
                    have k_388 : v_384.toInt > 8 := z_lt ti_8 rfl c_386
                    refine lv_iconst (v := 4) X.1 X.2.1 dX10_advance_144 (by decide) ?_
                    refine r_putI (v := 4) X hw ha_x_L_324 rfl 4 1004 tyX10 (by decide) rfl inn_X10_advance_10 tyX10_ok nmX10 (by decide) (X.2.2.2.1 (.fieldLink RX10 37 "SilkMill$Tape" "token" "I") (by decide +kernel)) rfl (Or.inl rfl) rfl rfl (Nat.le_of_ble_eq_true rfl) (st_1004 _ _) dX10_advance_145 (fun H locs hw => ?_)
                    obtain ⟨S_389, eS_389⟩ : ∃ T, T = sI T_323 1004 x (4) := ⟨_, rfl⟩
                    rw [← eS_389] at hw
                    have hO_390 : Ok MLa S S_389 := hO_T_323.sI eS_389 (by decide +kernel) (uI_10_1004 hO_T_323.1 ha_x_L_324)
                    have h_391 : pI S_389 1004 x = 4 := tI_sIs eS_389
                    refine lv_goto (tgt := 261) X.1 X.2.1 dX10_advance_148 (by decide) ?_
                    have pz_392 : (pI S_389 1004 x).toInt = 4 := (congrArg Int32.toInt h_391).trans ti_4
                    have t_393 : pI S_389 1005 x = v_21 := tI_sI eS_389 rfl ik_329
                    have pz_394 : (pI S_389 1005 x).toInt = v_21.toInt := (congrArg Int32.toInt t_393).trans rfl
                    have t_395 : pI S_389 1006 x = v_330 := tI_sI eS_389 rfl ev_330
                    have pz_396 : (pI S_389 1006 x).toInt = v_330.toInt := (congrArg Int32.toInt t_395).trans rfl
                    rw [hQQ]
                    exact ret_v X hw hr hlocks (Nat.le_of_ble_eq_true rfl) (Nat.le_of_ble_eq_true rfl) ⟨hO_390, ⟨by rw [hT_302, tokS_let (e := (v_330.toInt).toNat) (by omega) (letP_t (by rw [← by_314]; exact f_318)) (by omega) (by omega) (all_nat (q := v_330.toInt) (fun j h1 h2 => iv_327 j h1 (by omega)) (by omega)) (letP_f (by rw [← by_365]; exact f_369)), if_neg (by omega)]; exact TokAt_mk (by omega) (by omega) (by omega), by omega, by omega⟩⟩ dX10_advance_261
                  · have z_b_397 := trivial
                    have k_398 : v_384.toInt ≤ 8 := z_nlt ti_8 rfl c_386
                    refine lv_iconst (v := 1) X.1 X.2.1 dX10_advance_140 (by decide) ?_
                    refine lv_goto (tgt := 145) X.1 X.2.1 dX10_advance_141 (by decide) ?_
                    refine r_putI (v := 1) X hw ha_x_L_324 rfl 4 1004 tyX10 (by decide) rfl inn_X10_advance_10 tyX10_ok nmX10 (by decide) (X.2.2.2.1 (.fieldLink RX10 37 "SilkMill$Tape" "token" "I") (by decide +kernel)) rfl (Or.inl rfl) rfl rfl (Nat.le_of_ble_eq_true rfl) (st_1004 _ _) dX10_advance_145 (fun H locs hw => ?_)
                    obtain ⟨S_399, eS_399⟩ : ∃ T, T = sI T_323 1004 x (1) := ⟨_, rfl⟩
                    rw [← eS_399] at hw
                    have hO_400 : Ok MLa S S_399 := hO_T_323.sI eS_399 (by decide +kernel) (uI_10_1004 hO_T_323.1 ha_x_L_324)
                    have h_401 : pI S_399 1004 x = 1 := tI_sIs eS_399
                    refine lv_goto (tgt := 261) X.1 X.2.1 dX10_advance_148 (by decide) ?_
                    have pz_402 : (pI S_399 1004 x).toInt = 1 := (congrArg Int32.toInt h_401).trans ti_1
                    have t_403 : pI S_399 1005 x = v_21 := tI_sI eS_399 rfl ik_329
                    have pz_404 : (pI S_399 1005 x).toInt = v_21.toInt := (congrArg Int32.toInt t_403).trans rfl
                    have t_405 : pI S_399 1006 x = v_330 := tI_sI eS_399 rfl ev_330
                    have pz_406 : (pI S_399 1006 x).toInt = v_330.toInt := (congrArg Int32.toInt t_405).trans rfl
                    rw [hQQ]
                    exact ret_v X hw hr hlocks (Nat.le_of_ble_eq_true rfl) (Nat.le_of_ble_eq_true rfl) ⟨hO_400, ⟨by rw [hT_302, tokS_let (e := (v_330.toInt).toNat) (by omega) (letP_t (by rw [← by_314]; exact f_318)) (by omega) (by omega) (all_nat (q := v_330.toInt) (fun j h1 h2 => iv_327 j h1 (by omega)) (by omega)) (letP_f (by rw [← by_365]; exact f_369)), if_pos (by omega)]; exact TokAt_mk (by omega) (by omega) (by omega), by omega, by omega⟩⟩ dX10_advance_261
            have pz_407 : (pI S_303 1006 x).toInt = v_21.toInt := (congrArg Int32.toInt h_305).trans rfl
            exact L_322 _ _ _ _ _  rfl hw t_306 hO_304 (by omega) (by omega) (fun j h1 h2 => absurd h2 (by omega)) t_308 t_307 (lv_sub hl [0] rfl)
          · have z_b_408 := trivial
            refine lv_if_eq (tgt := 151) X.1 X.2.1 dX10_advance_84 (by decide) (fun c_409 => ?_) (fun c_409 => absurd c_409 (by decide))
            refine lv_aload_n X.1 X.2.1 dX10_advance_151 rfl (lv_at hl 0 rfl) ?_
            refine lv_aload_n X.1 X.2.1 dX10_advance_152 rfl (lv_at hl 0 rfl) ?_
            refine r_getI (g := 1005) (x := v_21) X hw t_306 rfl 5 t_307 (by decide) rfl inn_X10_advance_10 (by decide) (X.2.2.2.1 (.fieldLink RX10 79 "SilkMill$Tape" "start" "I") (by decide +kernel)) rfl (gv_1005 _ _) dX10_advance_153 ?_
            refine k_i (rm := { frames := 1, cells := 0, slots := 0, locals := 48 }) (av := [.ref x, .int (v_21)]) X hw (va_runV (As := [.int (v_21)]) (rest := []) (cfix X) (k_X10_byteAt2 l G cy κ S_303 _ x (v_21) (v_21.toInt) hO_304.1 t_306 rfl) (cwV 1 X.2.2.2.1 gX10_advance_X10_byteAt rfl rfl rfl (by decide +kernel) ⟨Nat.le_of_ble_eq_true rfl, Nat.le_of_ble_eq_true rfl⟩) (pre_V X hw _ t_306 rfl (by decide) rfl) rfl rfl hl.1 rfl (lv_room (Nat.le_of_ble_eq_true rfl)) dX10_advance_156 ⟨Nat.le_of_ble_eq_true rfl, Nat.le_of_ble_eq_true rfl⟩) 0 0 (Nat.le_of_ble_eq_true rfl) (Nat.le_of_ble_eq_true rfl) (fun rr_410 S_411 H locs hp hw hfr hnw => ?_)
            obtain ⟨e2, hp⟩ := hp
            subst e2
            have rg_413 := And.intro (z_lo rr_410) (z_hi rr_410)
            have by_412 := hp (by omega)
            rw [tB_fr hG ha_x hO_304.fr (by decide +kernel)] at by_412
            refine k_i (rm := { frames := 1, cells := 0, slots := 0, locals := 48 }) (av := [.int (rr_410)]) X hw (va_runS (As := [.int (rr_410)]) (rest := []) (cfix X) (k_X10_isDigit2 l G cy κ S_303 _ (rr_410) (rr_410.toInt) hO_304.1 rfl) (cwS 1 X.2.2.2.1 gX10_advance_X10_isDigit rfl rfl rfl (by decide +kernel) ⟨Nat.le_of_ble_eq_true rfl, Nat.le_of_ble_eq_true rfl⟩) (pre_S X hw _) rfl rfl hl.1 rfl (lv_room (Nat.le_of_ble_eq_true rfl)) dX10_advance_159 ⟨Nat.le_of_ble_eq_true rfl, Nat.le_of_ble_eq_true rfl⟩) 0 0 (Nat.le_of_ble_eq_true rfl) (Nat.le_of_ble_eq_true rfl) (fun rr_414 S_415 H locs hp hw hfr hnw => ?_)
            obtain ⟨e2, hp⟩ := hp
            subst e2
            rcases hp with ⟨f_416, er_417⟩ | ⟨f_416, er_417⟩ <;> subst er_417
            · have z_b_418 := trivial
              refine lv_if_eq (tgt := 228) X.1 X.2.1 dX10_advance_162 (by decide) (fun c_419 => absurd c_419 (by decide)) (fun c_419 => ?_)
              have L_420 : ∀ (n : Nat) (T_421 : PS) (H : Heap) (locs : List Loc) (ls : Array Slot) , ((400 - (pI T_421 1006 x).toInt).toNat = n) → (Wd G cy (AS S s.heap.size) s.heap T_421 H locs) → (At T_421 x 10) → (Ok MLa S T_421) → (0 ≤ (pI T_421 1006 x).toInt ∧ (pI T_421 1006 x).toInt ≤ 400) → (v_21.toInt ≤ (pI T_421 1006 x).toInt) → ((∀ j : Nat, v_21.toInt ≤ (j : Int) → (j : Int) < (pI T_421 1006 x).toInt → digP (tB S x j) = true)) → (pI T_421 1000 x = v_6) → (pI T_421 1005 x = v_21) → (lv_has ls 1 [(0, .ref x)]) → W p l e ({ frames := 2, cells := 0, slots := 0, locals := 96 }) s m [.ref x].toArray below meth c H locs 0 0 QQ (F0 m 165 ls []) := by
                intro n
                induction n using Nat.strongRecOn with
                | ind n ih =>
                intro T_421 H locs ls  hn hw ha_x_L_422 hO_T_421 iv_423 iv_424 iv_425 ik_426 ik_427 hl
                obtain ⟨v_428, ev_428⟩ : ∃ v, pI T_421 1006 x = v := ⟨_, rfl⟩
                have rg_430 := And.intro (z_lo v_428) (z_hi v_428)
                have pz_431 : (pI T_421 1006 x).toInt = v_428.toInt := by rw [ev_428]
                have pz_432 : (pI T_421 1006 x).toInt = v_428.toInt := (congrArg Int32.toInt ev_428).trans rfl
                refine lv_aload_n X.1 X.2.1 dX10_advance_165 rfl (lv_at hl 0 rfl) ?_
                refine r_getI (g := 1006) (x := v_428) X hw ha_x_L_422 rfl 6 ev_428 (by decide) rfl inn_X10_advance_10 (by decide) (X.2.2.2.1 (.fieldLink RX10 31 "SilkMill$Tape" "behind" "I") (by decide +kernel)) rfl (gv_1006 _ _) dX10_advance_166 ?_
                refine lv_aload_n X.1 X.2.1 dX10_advance_169 rfl (lv_at hl 0 rfl) ?_
                refine r_getI (g := 1000) (x := v_6) X hw ha_x_L_422 rfl 0 ik_426 (by decide) rfl inn_X10_advance_10 (by decide) (X.2.2.2.1 (.fieldLink RX10 19 "SilkMill$Tape" "size" "I") (by decide +kernel)) rfl (gv_1000 _ _) dX10_advance_170 ?_
                refine lv_icmp_ge (tgt := 203) X.1 X.2.1 dX10_advance_173 (by decide) (fun c_433 => ?_) (fun c_433 => ?_)
                · have z_b_434 := trivial
                  have k_435 : v_428.toInt ≥ v_6.toInt := z_le rfl rfl c_433
                  refine lv_aload_n X.1 X.2.1 dX10_advance_203 rfl (lv_at hl 0 rfl) ?_
                  refine lv_aload_n X.1 X.2.1 dX10_advance_204 rfl (lv_at hl 0 rfl) ?_
                  refine r_getI (g := 1006) (x := v_428) X hw ha_x_L_422 rfl 6 ev_428 (by decide) rfl inn_X10_advance_10 (by decide) (X.2.2.2.1 (.fieldLink RX10 31 "SilkMill$Tape" "behind" "I") (by decide +kernel)) rfl (gv_1006 _ _) dX10_advance_205 ?_
                  refine lv_aload_n X.1 X.2.1 dX10_advance_208 rfl (lv_at hl 0 rfl) ?_
                  refine r_getI (g := 1005) (x := v_21) X hw ha_x_L_422 rfl 5 ik_427 (by decide) rfl inn_X10_advance_10 (by decide) (X.2.2.2.1 (.fieldLink RX10 79 "SilkMill$Tape" "start" "I") (by decide +kernel)) rfl (gv_1005 _ _) dX10_advance_209 ?_
                  refine lv_isub X.1 X.2.1 dX10_advance_212 ?_
                  refine lv_topi (fun v_436 ev_436 => ?_)
                  have z_437 : v_436.toInt = v_428.toInt - v_21.toInt := z_sub ev_436 rfl rfl (by omega) (by omega)
                  refine lv_iconst (v := 4) X.1 X.2.1 dX10_advance_213 (by decide) ?_
                  refine lv_icmp_gt (tgt := 221) X.1 X.2.1 dX10_advance_214 (by decide) (fun c_438 => ?_) (fun c_438 => ?_)
                  · have z_b_439 := trivial
                    have k_440 : v_436.toInt > 4 := z_lt ti_4 rfl c_438
                    refine lv_iconst (v := 4) X.1 X.2.1 dX10_advance_221 (by decide) ?_
                    refine r_putI (v := 4) X hw ha_x_L_422 rfl 4 1004 tyX10 (by decide) rfl inn_X10_advance_10 tyX10_ok nmX10 (by decide) (X.2.2.2.1 (.fieldLink RX10 37 "SilkMill$Tape" "token" "I") (by decide +kernel)) rfl (Or.inl rfl) rfl rfl (Nat.le_of_ble_eq_true rfl) (st_1004 _ _) dX10_advance_222 (fun H locs hw => ?_)
                    obtain ⟨S_441, eS_441⟩ : ∃ T, T = sI T_421 1004 x (4) := ⟨_, rfl⟩
                    rw [← eS_441] at hw
                    have hO_442 : Ok MLa S S_441 := hO_T_421.sI eS_441 (by decide +kernel) (uI_10_1004 hO_T_421.1 ha_x_L_422)
                    have h_443 : pI S_441 1004 x = 4 := tI_sIs eS_441
                    refine lv_goto (tgt := 261) X.1 X.2.1 dX10_advance_225 (by decide) ?_
                    have pz_444 : (pI S_441 1004 x).toInt = 4 := (congrArg Int32.toInt h_443).trans ti_4
                    have t_445 : pI S_441 1005 x = v_21 := tI_sI eS_441 rfl ik_427
                    have pz_446 : (pI S_441 1005 x).toInt = v_21.toInt := (congrArg Int32.toInt t_445).trans rfl
                    have t_447 : pI S_441 1006 x = v_428 := tI_sI eS_441 rfl ev_428
                    have pz_448 : (pI S_441 1006 x).toInt = v_428.toInt := (congrArg Int32.toInt t_447).trans rfl
                    rw [hQQ]
                    exact ret_v X hw hr hlocks (Nat.le_of_ble_eq_true rfl) (Nat.le_of_ble_eq_true rfl) ⟨hO_442, ⟨by rw [hT_302, tokS_dig (e := (v_428.toInt).toNat) (by omega) (letP_f (by rw [← by_314]; exact f_318)) (digP_t (by rw [← by_412]; exact f_416)) (by omega) (by omega) (all_nat (q := v_428.toInt) (fun j h1 h2 => iv_425 j h1 (by omega)) (by omega)) (by rw [tB_out (by omega) (by omega)]; rfl), if_neg (by omega)]; exact TokAt_mk (by omega) (by omega) (by omega), by omega, by omega⟩⟩ dX10_advance_261
                  · have z_b_449 := trivial
                    have k_450 : v_436.toInt ≤ 4 := z_nlt ti_4 rfl c_438
                    refine lv_iconst (v := 2) X.1 X.2.1 dX10_advance_217 (by decide) ?_
                    refine lv_goto (tgt := 222) X.1 X.2.1 dX10_advance_218 (by decide) ?_
                    refine r_putI (v := 2) X hw ha_x_L_422 rfl 4 1004 tyX10 (by decide) rfl inn_X10_advance_10 tyX10_ok nmX10 (by decide) (X.2.2.2.1 (.fieldLink RX10 37 "SilkMill$Tape" "token" "I") (by decide +kernel)) rfl (Or.inl rfl) rfl rfl (Nat.le_of_ble_eq_true rfl) (st_1004 _ _) dX10_advance_222 (fun H locs hw => ?_)
                    obtain ⟨S_451, eS_451⟩ : ∃ T, T = sI T_421 1004 x (2) := ⟨_, rfl⟩
                    rw [← eS_451] at hw
                    have hO_452 : Ok MLa S S_451 := hO_T_421.sI eS_451 (by decide +kernel) (uI_10_1004 hO_T_421.1 ha_x_L_422)
                    have h_453 : pI S_451 1004 x = 2 := tI_sIs eS_451
                    refine lv_goto (tgt := 261) X.1 X.2.1 dX10_advance_225 (by decide) ?_
                    have pz_454 : (pI S_451 1004 x).toInt = 2 := (congrArg Int32.toInt h_453).trans ti_2
                    have t_455 : pI S_451 1005 x = v_21 := tI_sI eS_451 rfl ik_427
                    have pz_456 : (pI S_451 1005 x).toInt = v_21.toInt := (congrArg Int32.toInt t_455).trans rfl
                    have t_457 : pI S_451 1006 x = v_428 := tI_sI eS_451 rfl ev_428
                    have pz_458 : (pI S_451 1006 x).toInt = v_428.toInt := (congrArg Int32.toInt t_457).trans rfl
                    rw [hQQ]
                    exact ret_v X hw hr hlocks (Nat.le_of_ble_eq_true rfl) (Nat.le_of_ble_eq_true rfl) ⟨hO_452, ⟨by rw [hT_302, tokS_dig (e := (v_428.toInt).toNat) (by omega) (letP_f (by rw [← by_314]; exact f_318)) (digP_t (by rw [← by_412]; exact f_416)) (by omega) (by omega) (all_nat (q := v_428.toInt) (fun j h1 h2 => iv_425 j h1 (by omega)) (by omega)) (by rw [tB_out (by omega) (by omega)]; rfl), if_pos (by omega)]; exact TokAt_mk (by omega) (by omega) (by omega), by omega, by omega⟩⟩ dX10_advance_261
                · have z_b_459 := trivial
                  have k_460 : v_428.toInt < v_6.toInt := z_nle rfl rfl c_433
                  refine lv_aload_n X.1 X.2.1 dX10_advance_176 rfl (lv_at hl 0 rfl) ?_
                  refine lv_aload_n X.1 X.2.1 dX10_advance_177 rfl (lv_at hl 0 rfl) ?_
                  refine r_getI (g := 1006) (x := v_428) X hw ha_x_L_422 rfl 6 ev_428 (by decide) rfl inn_X10_advance_10 (by decide) (X.2.2.2.1 (.fieldLink RX10 31 "SilkMill$Tape" "behind" "I") (by decide +kernel)) rfl (gv_1006 _ _) dX10_advance_178 ?_
                  refine k_i (rm := { frames := 1, cells := 0, slots := 0, locals := 48 }) (av := [.ref x, .int (v_428)]) X hw (va_runV (As := [.int (v_428)]) (rest := []) (cfix X) (k_X10_byteAt2 l G cy κ T_421 _ x (v_428) (v_428.toInt) hO_T_421.1 ha_x_L_422 rfl) (cwV 1 X.2.2.2.1 gX10_advance_X10_byteAt rfl rfl rfl (by decide +kernel) ⟨Nat.le_of_ble_eq_true rfl, Nat.le_of_ble_eq_true rfl⟩) (pre_V X hw _ ha_x_L_422 rfl (by decide) rfl) rfl rfl hl.1 rfl (lv_room (Nat.le_of_ble_eq_true rfl)) dX10_advance_181 ⟨Nat.le_of_ble_eq_true rfl, Nat.le_of_ble_eq_true rfl⟩) 0 0 (Nat.le_of_ble_eq_true rfl) (Nat.le_of_ble_eq_true rfl) (fun rr_461 S_462 H locs hp hw hfr hnw => ?_)
                  obtain ⟨e2, hp⟩ := hp
                  subst e2
                  have rg_464 := And.intro (z_lo rr_461) (z_hi rr_461)
                  have by_463 := hp (by omega)
                  rw [tB_fr hG ha_x hO_T_421.fr (by decide +kernel)] at by_463
                  refine k_i (rm := { frames := 1, cells := 0, slots := 0, locals := 48 }) (av := [.int (rr_461)]) X hw (va_runS (As := [.int (rr_461)]) (rest := []) (cfix X) (k_X10_isDigit2 l G cy κ T_421 _ (rr_461) (rr_461.toInt) hO_T_421.1 rfl) (cwS 1 X.2.2.2.1 gX10_advance_X10_isDigit rfl rfl rfl (by decide +kernel) ⟨Nat.le_of_ble_eq_true rfl, Nat.le_of_ble_eq_true rfl⟩) (pre_S X hw _) rfl rfl hl.1 rfl (lv_room (Nat.le_of_ble_eq_true rfl)) dX10_advance_184 ⟨Nat.le_of_ble_eq_true rfl, Nat.le_of_ble_eq_true rfl⟩) 0 0 (Nat.le_of_ble_eq_true rfl) (Nat.le_of_ble_eq_true rfl) (fun rr_465 S_466 H locs hp hw hfr hnw => ?_)
                  obtain ⟨e2, hp⟩ := hp
                  subst e2
                  rcases hp with ⟨f_467, er_468⟩ | ⟨f_467, er_468⟩ <;> subst er_468
                  · have z_b_469 := trivial
                    refine lv_if_eq (tgt := 203) X.1 X.2.1 dX10_advance_187 (by decide) (fun c_470 => absurd c_470 (by decide)) (fun c_470 => ?_)
                    refine lv_aload_n X.1 X.2.1 dX10_advance_190 rfl (lv_at hl 0 rfl) ?_
                    refine lv_dup X.1 X.2.1 dX10_advance_191 rfl ?_
                    refine r_getI (g := 1006) (x := v_428) X hw ha_x_L_422 rfl 6 ev_428 (by decide) rfl inn_X10_advance_10 (by decide) (X.2.2.2.1 (.fieldLink RX10 31 "SilkMill$Tape" "behind" "I") (by decide +kernel)) rfl (gv_1006 _ _) dX10_advance_192 ?_
                    refine lv_iconst (v := 1) X.1 X.2.1 dX10_advance_195 (by decide) ?_
                    refine lv_iadd X.1 X.2.1 dX10_advance_196 ?_
                    refine lv_topi (fun v_471 ev_471 => ?_)
                    have z_472 : v_471.toInt = v_428.toInt + 1 := z_add ev_471 rfl ti_1 (by omega) (by omega)
                    refine r_putI (v := v_471) X hw ha_x_L_422 rfl 6 1006 tyX10 (by decide) rfl inn_X10_advance_10 tyX10_ok nmX10 (by decide) (X.2.2.2.1 (.fieldLink RX10 31 "SilkMill$Tape" "behind" "I") (by decide +kernel)) rfl (Or.inl rfl) rfl rfl (Nat.le_of_ble_eq_true rfl) (st_1006 _ _) dX10_advance_197 (fun H locs hw => ?_)
                    obtain ⟨S_473, eS_473⟩ : ∃ T, T = sI T_421 1006 x (v_471) := ⟨_, rfl⟩
                    rw [← eS_473] at hw
                    have hO_474 : Ok MLa S S_473 := hO_T_421.sI eS_473 (by decide +kernel) (uI_10_1006 hO_T_421.1 ha_x_L_422)
                    have h_475 : pI S_473 1006 x = v_471 := tI_sIs eS_473
                    refine lv_goto (tgt := 165) X.1 X.2.1 dX10_advance_200 (by decide) ?_
                    have pz_476 : (pI S_473 1006 x).toInt = v_471.toInt := (congrArg Int32.toInt h_475).trans rfl
                    have t_477 : At S_473 x 10 := tAt_sI eS_473 ha_x_L_422
                    have t_478 : pI S_473 1000 x = v_6 := tI_sI eS_473 rfl ik_426
                    have t_479 : pI S_473 1005 x = v_21 := tI_sI eS_473 rfl ik_427
                    exact ih _ (by omega) _ _ _ _  rfl hw t_477 hO_474 (by omega) (by omega) (fun j h1 h2 => all_ext (q := v_428.toInt) (fun j h1 h2 => iv_425 j h1 (by omega)) (digP_t (by rw [← by_463]; exact f_467)) (by omega) j h1 (by omega)) t_478 t_479 (lv_sub hl [0] rfl)
                  · have z_b_480 := trivial
                    refine lv_if_eq (tgt := 203) X.1 X.2.1 dX10_advance_187 (by decide) (fun c_481 => ?_) (fun c_481 => absurd c_481 (by decide))
                    refine lv_aload_n X.1 X.2.1 dX10_advance_203 rfl (lv_at hl 0 rfl) ?_
                    refine lv_aload_n X.1 X.2.1 dX10_advance_204 rfl (lv_at hl 0 rfl) ?_
                    refine r_getI (g := 1006) (x := v_428) X hw ha_x_L_422 rfl 6 ev_428 (by decide) rfl inn_X10_advance_10 (by decide) (X.2.2.2.1 (.fieldLink RX10 31 "SilkMill$Tape" "behind" "I") (by decide +kernel)) rfl (gv_1006 _ _) dX10_advance_205 ?_
                    refine lv_aload_n X.1 X.2.1 dX10_advance_208 rfl (lv_at hl 0 rfl) ?_
                    refine r_getI (g := 1005) (x := v_21) X hw ha_x_L_422 rfl 5 ik_427 (by decide) rfl inn_X10_advance_10 (by decide) (X.2.2.2.1 (.fieldLink RX10 79 "SilkMill$Tape" "start" "I") (by decide +kernel)) rfl (gv_1005 _ _) dX10_advance_209 ?_
                    refine lv_isub X.1 X.2.1 dX10_advance_212 ?_
                    refine lv_topi (fun v_482 ev_482 => ?_)
                    have z_483 : v_482.toInt = v_428.toInt - v_21.toInt := z_sub ev_482 rfl rfl (by omega) (by omega)
                    refine lv_iconst (v := 4) X.1 X.2.1 dX10_advance_213 (by decide) ?_
                    refine lv_icmp_gt (tgt := 221) X.1 X.2.1 dX10_advance_214 (by decide) (fun c_484 => ?_) (fun c_484 => ?_)
                    · have z_b_485 := trivial
                      have k_486 : v_482.toInt > 4 := z_lt ti_4 rfl c_484
                      refine lv_iconst (v := 4) X.1 X.2.1 dX10_advance_221 (by decide) ?_
                      refine r_putI (v := 4) X hw ha_x_L_422 rfl 4 1004 tyX10 (by decide) rfl inn_X10_advance_10 tyX10_ok nmX10 (by decide) (X.2.2.2.1 (.fieldLink RX10 37 "SilkMill$Tape" "token" "I") (by decide +kernel)) rfl (Or.inl rfl) rfl rfl (Nat.le_of_ble_eq_true rfl) (st_1004 _ _) dX10_advance_222 (fun H locs hw => ?_)
                      obtain ⟨S_487, eS_487⟩ : ∃ T, T = sI T_421 1004 x (4) := ⟨_, rfl⟩
                      rw [← eS_487] at hw
                      have hO_488 : Ok MLa S S_487 := hO_T_421.sI eS_487 (by decide +kernel) (uI_10_1004 hO_T_421.1 ha_x_L_422)
                      have h_489 : pI S_487 1004 x = 4 := tI_sIs eS_487
                      refine lv_goto (tgt := 261) X.1 X.2.1 dX10_advance_225 (by decide) ?_
                      have pz_490 : (pI S_487 1004 x).toInt = 4 := (congrArg Int32.toInt h_489).trans ti_4
                      have t_491 : pI S_487 1005 x = v_21 := tI_sI eS_487 rfl ik_427
                      have pz_492 : (pI S_487 1005 x).toInt = v_21.toInt := (congrArg Int32.toInt t_491).trans rfl
                      have t_493 : pI S_487 1006 x = v_428 := tI_sI eS_487 rfl ev_428
                      have pz_494 : (pI S_487 1006 x).toInt = v_428.toInt := (congrArg Int32.toInt t_493).trans rfl
                      rw [hQQ]
                      exact ret_v X hw hr hlocks (Nat.le_of_ble_eq_true rfl) (Nat.le_of_ble_eq_true rfl) ⟨hO_488, ⟨by rw [hT_302, tokS_dig (e := (v_428.toInt).toNat) (by omega) (letP_f (by rw [← by_314]; exact f_318)) (digP_t (by rw [← by_412]; exact f_416)) (by omega) (by omega) (all_nat (q := v_428.toInt) (fun j h1 h2 => iv_425 j h1 (by omega)) (by omega)) (digP_f (by rw [← by_463]; exact f_467)), if_neg (by omega)]; exact TokAt_mk (by omega) (by omega) (by omega), by omega, by omega⟩⟩ dX10_advance_261
                    · have z_b_495 := trivial
                      have k_496 : v_482.toInt ≤ 4 := z_nlt ti_4 rfl c_484
                      refine lv_iconst (v := 2) X.1 X.2.1 dX10_advance_217 (by decide) ?_
                      refine lv_goto (tgt := 222) X.1 X.2.1 dX10_advance_218 (by decide) ?_
                      refine r_putI (v := 2) X hw ha_x_L_422 rfl 4 1004 tyX10 (by decide) rfl inn_X10_advance_10 tyX10_ok nmX10 (by decide) (X.2.2.2.1 (.fieldLink RX10 37 "SilkMill$Tape" "token" "I") (by decide +kernel)) rfl (Or.inl rfl) rfl rfl (Nat.le_of_ble_eq_true rfl) (st_1004 _ _) dX10_advance_222 (fun H locs hw => ?_)
                      obtain ⟨S_497, eS_497⟩ : ∃ T, T = sI T_421 1004 x (2) := ⟨_, rfl⟩
                      rw [← eS_497] at hw
                      have hO_498 : Ok MLa S S_497 := hO_T_421.sI eS_497 (by decide +kernel) (uI_10_1004 hO_T_421.1 ha_x_L_422)
                      have h_499 : pI S_497 1004 x = 2 := tI_sIs eS_497
                      refine lv_goto (tgt := 261) X.1 X.2.1 dX10_advance_225 (by decide) ?_
                      have pz_500 : (pI S_497 1004 x).toInt = 2 := (congrArg Int32.toInt h_499).trans ti_2
                      have t_501 : pI S_497 1005 x = v_21 := tI_sI eS_497 rfl ik_427
                      have pz_502 : (pI S_497 1005 x).toInt = v_21.toInt := (congrArg Int32.toInt t_501).trans rfl
                      have t_503 : pI S_497 1006 x = v_428 := tI_sI eS_497 rfl ev_428
                      have pz_504 : (pI S_497 1006 x).toInt = v_428.toInt := (congrArg Int32.toInt t_503).trans rfl
                      rw [hQQ]
                      exact ret_v X hw hr hlocks (Nat.le_of_ble_eq_true rfl) (Nat.le_of_ble_eq_true rfl) ⟨hO_498, ⟨by rw [hT_302, tokS_dig (e := (v_428.toInt).toNat) (by omega) (letP_f (by rw [← by_314]; exact f_318)) (digP_t (by rw [← by_412]; exact f_416)) (by omega) (by omega) (all_nat (q := v_428.toInt) (fun j h1 h2 => iv_425 j h1 (by omega)) (by omega)) (digP_f (by rw [← by_463]; exact f_467)), if_pos (by omega)]; exact TokAt_mk (by omega) (by omega) (by omega), by omega, by omega⟩⟩ dX10_advance_261
              have pz_505 : (pI S_303 1006 x).toInt = v_21.toInt := (congrArg Int32.toInt h_305).trans rfl
              exact L_420 _ _ _ _ _  rfl hw t_306 hO_304 (by omega) (by omega) (fun j h1 h2 => absurd h2 (by omega)) t_308 t_307 (lv_sub hl [0] rfl)
            · have z_b_506 := trivial
              refine lv_if_eq (tgt := 228) X.1 X.2.1 dX10_advance_162 (by decide) (fun c_507 => ?_) (fun c_507 => absurd c_507 (by decide))
              refine lv_aload_n X.1 X.2.1 dX10_advance_228 rfl (lv_at hl 0 rfl) ?_
              refine lv_dup X.1 X.2.1 dX10_advance_229 rfl ?_
              refine r_getI (g := 1006) (x := v_21) X hw t_306 rfl 6 h_305 (by decide) rfl inn_X10_advance_10 (by decide) (X.2.2.2.1 (.fieldLink RX10 31 "SilkMill$Tape" "behind" "I") (by decide +kernel)) rfl (gv_1006 _ _) dX10_advance_230 ?_
              refine lv_iconst (v := 1) X.1 X.2.1 dX10_advance_233 (by decide) ?_
              refine lv_iadd X.1 X.2.1 dX10_advance_234 ?_
              refine lv_topi (fun v_508 ev_508 => ?_)
              have z_509 : v_508.toInt = v_21.toInt + 1 := z_add ev_508 rfl ti_1 (by omega) (by omega)
              refine r_putI (v := v_508) X hw t_306 rfl 6 1006 tyX10 (by decide) rfl inn_X10_advance_10 tyX10_ok nmX10 (by decide) (X.2.2.2.1 (.fieldLink RX10 31 "SilkMill$Tape" "behind" "I") (by decide +kernel)) rfl (Or.inl rfl) rfl rfl (Nat.le_of_ble_eq_true rfl) (st_1006 _ _) dX10_advance_235 (fun H locs hw => ?_)
              obtain ⟨S_510, eS_510⟩ : ∃ T, T = sI S_303 1006 x (v_508) := ⟨_, rfl⟩
              rw [← eS_510] at hw
              have hO_511 : Ok MLa S S_510 := hO_304.sI eS_510 (by decide +kernel) (uI_10_1006 hO_304.1 t_306)
              have h_512 : pI S_510 1006 x = v_508 := tI_sIs eS_510
              refine lv_aload_n X.1 X.2.1 dX10_advance_238 rfl (lv_at hl 0 rfl) ?_
              refine lv_aload_n X.1 X.2.1 dX10_advance_239 rfl (lv_at hl 0 rfl) ?_
              refine lv_aload_n X.1 X.2.1 dX10_advance_240 rfl (lv_at hl 0 rfl) ?_
              have t_513 : At S_510 x 10 := tAt_sI eS_510 t_306
              have t_514 : pI S_510 1005 x = v_21 := tI_sI eS_510 rfl t_307
              refine r_getI (g := 1005) (x := v_21) X hw t_513 rfl 5 t_514 (by decide) rfl inn_X10_advance_10 (by decide) (X.2.2.2.1 (.fieldLink RX10 79 "SilkMill$Tape" "start" "I") (by decide +kernel)) rfl (gv_1005 _ _) dX10_advance_241 ?_
              refine k_i (rm := { frames := 1, cells := 0, slots := 0, locals := 48 }) (av := [.ref x, .int (v_21)]) X hw (va_runV (As := [.int (v_21)]) (rest := [.ref x]) (cfix X) (k_X10_byteAt2 l G cy κ S_510 _ x (v_21) (v_21.toInt) hO_511.1 t_513 rfl) (cwV 1 X.2.2.2.1 gX10_advance_X10_byteAt rfl rfl rfl (by decide +kernel) ⟨Nat.le_of_ble_eq_true rfl, Nat.le_of_ble_eq_true rfl⟩) (pre_V X hw _ t_513 rfl (by decide) rfl) rfl rfl hl.1 rfl (lv_room (Nat.le_of_ble_eq_true rfl)) dX10_advance_244 ⟨Nat.le_of_ble_eq_true rfl, Nat.le_of_ble_eq_true rfl⟩) 0 0 (Nat.le_of_ble_eq_true rfl) (Nat.le_of_ble_eq_true rfl) (fun rr_515 S_516 H locs hp hw hfr hnw => ?_)
              obtain ⟨e2, hp⟩ := hp
              subst e2
              have rg_518 := And.intro (z_lo rr_515) (z_hi rr_515)
              have by_517 := hp (by omega)
              rw [tB_fr hG ha_x hO_511.fr (by decide +kernel)] at by_517
              refine k_i (rm := { frames := 1, cells := 0, slots := 0, locals := 48 }) (av := [.int (rr_515)]) X hw (va_runS (As := [.int (rr_515)]) (rest := [.ref x]) (cfix X) (k_X10_isSignByte2 l G cy κ S_510 _ (rr_515) (rr_515.toInt) hO_511.1 rfl) (cwS 1 X.2.2.2.1 gX10_advance_X10_isSignByte rfl rfl rfl (by decide +kernel) ⟨Nat.le_of_ble_eq_true rfl, Nat.le_of_ble_eq_true rfl⟩) (pre_S X hw _) rfl rfl hl.1 rfl (lv_room (Nat.le_of_ble_eq_true rfl)) dX10_advance_247 ⟨Nat.le_of_ble_eq_true rfl, Nat.le_of_ble_eq_true rfl⟩) 0 0 (Nat.le_of_ble_eq_true rfl) (Nat.le_of_ble_eq_true rfl) (fun rr_519 S_520 H locs hp hw hfr hnw => ?_)
              obtain ⟨e2, hp⟩ := hp
              subst e2
              rcases hp with ⟨f_521, er_522⟩ | ⟨f_521, er_522⟩ <;> subst er_522
              · have z_b_523 := trivial
                refine lv_if_eq (tgt := 257) X.1 X.2.1 dX10_advance_250 (by decide) (fun c_524 => absurd c_524 (by decide)) (fun c_524 => ?_)
                refine lv_iconst (v := 3) X.1 X.2.1 dX10_advance_253 (by decide) ?_
                refine lv_goto (tgt := 258) X.1 X.2.1 dX10_advance_254 (by decide) ?_
                refine r_putI (v := 3) X hw t_513 rfl 4 1004 tyX10 (by decide) rfl inn_X10_advance_10 tyX10_ok nmX10 (by decide) (X.2.2.2.1 (.fieldLink RX10 37 "SilkMill$Tape" "token" "I") (by decide +kernel)) rfl (Or.inl rfl) rfl rfl (Nat.le_of_ble_eq_true rfl) (st_1004 _ _) dX10_advance_258 (fun H locs hw => ?_)
                obtain ⟨S_525, eS_525⟩ : ∃ T, T = sI S_510 1004 x (3) := ⟨_, rfl⟩
                rw [← eS_525] at hw
                have hO_526 : Ok MLa S S_525 := hO_511.sI eS_525 (by decide +kernel) (uI_10_1004 hO_511.1 t_513)
                have h_527 : pI S_525 1004 x = 3 := tI_sIs eS_525
                have pz_528 : (pI S_525 1004 x).toInt = 3 := (congrArg Int32.toInt h_527).trans ti_3
                have t_529 : pI S_525 1005 x = v_21 := tI_sI eS_525 rfl t_514
                have pz_530 : (pI S_525 1005 x).toInt = v_21.toInt := (congrArg Int32.toInt t_529).trans rfl
                have t_531 : pI S_525 1006 x = v_508 := tI_sI eS_525 rfl h_512
                have pz_532 : (pI S_525 1006 x).toInt = v_508.toInt := (congrArg Int32.toInt t_531).trans rfl
                rw [hQQ]
                exact ret_v X hw hr hlocks (Nat.le_of_ble_eq_true rfl) (Nat.le_of_ble_eq_true rfl) ⟨hO_526, ⟨by rw [hT_302, tokS_sgn (by omega) (letP_f (by rw [← by_314]; exact f_318)) (digP_f (by rw [← by_412]; exact f_416)), if_pos (sgnP_t (by rw [← by_517]; exact f_521))]; exact TokAt_mk (by omega) (by omega) (by omega), by omega, by omega⟩⟩ dX10_advance_261
              · have z_b_533 := trivial
                refine lv_if_eq (tgt := 257) X.1 X.2.1 dX10_advance_250 (by decide) (fun c_534 => ?_) (fun c_534 => absurd c_534 (by decide))
                refine lv_iconst (v := 4) X.1 X.2.1 dX10_advance_257 (by decide) ?_
                refine r_putI (v := 4) X hw t_513 rfl 4 1004 tyX10 (by decide) rfl inn_X10_advance_10 tyX10_ok nmX10 (by decide) (X.2.2.2.1 (.fieldLink RX10 37 "SilkMill$Tape" "token" "I") (by decide +kernel)) rfl (Or.inl rfl) rfl rfl (Nat.le_of_ble_eq_true rfl) (st_1004 _ _) dX10_advance_258 (fun H locs hw => ?_)
                obtain ⟨S_535, eS_535⟩ : ∃ T, T = sI S_510 1004 x (4) := ⟨_, rfl⟩
                rw [← eS_535] at hw
                have hO_536 : Ok MLa S S_535 := hO_511.sI eS_535 (by decide +kernel) (uI_10_1004 hO_511.1 t_513)
                have h_537 : pI S_535 1004 x = 4 := tI_sIs eS_535
                have pz_538 : (pI S_535 1004 x).toInt = 4 := (congrArg Int32.toInt h_537).trans ti_4
                have t_539 : pI S_535 1005 x = v_21 := tI_sI eS_535 rfl t_514
                have pz_540 : (pI S_535 1005 x).toInt = v_21.toInt := (congrArg Int32.toInt t_539).trans rfl
                have t_541 : pI S_535 1006 x = v_508 := tI_sI eS_535 rfl h_512
                have pz_542 : (pI S_535 1006 x).toInt = v_508.toInt := (congrArg Int32.toInt t_541).trans rfl
                rw [hQQ]
                exact ret_v X hw hr hlocks (Nat.le_of_ble_eq_true rfl) (Nat.le_of_ble_eq_true rfl) ⟨hO_536, ⟨by rw [hT_302, tokS_sgn (by omega) (letP_f (by rw [← by_314]; exact f_318)) (digP_f (by rw [← by_412]; exact f_416)), if_neg (by rw [(sgnP_f (by rw [← by_517]; exact f_521))]; decide)]; exact TokAt_mk (by omega) (by omega) (by omega), by omega, by omega⟩⟩ dX10_advance_261
        · have z_b_543 := trivial
          have k_544 : v_21.toInt ≥ v_6.toInt := z_nlt rfl rfl c_309
          refine lv_aload_n X.1 X.2.1 dX10_advance_65 rfl (lv_at hl 0 rfl) ?_
          refine lv_iconst (v := 0) X.1 X.2.1 dX10_advance_66 (by decide) ?_
          refine r_putI (v := 0) X hw t_306 rfl 4 1004 tyX10 (by decide) rfl inn_X10_advance_10 tyX10_ok nmX10 (by decide) (X.2.2.2.1 (.fieldLink RX10 37 "SilkMill$Tape" "token" "I") (by decide +kernel)) rfl (Or.inl rfl) rfl rfl (Nat.le_of_ble_eq_true rfl) (st_1004 _ _) dX10_advance_67 (fun H locs hw => ?_)
          obtain ⟨S_545, eS_545⟩ : ∃ T, T = sI S_303 1004 x (0) := ⟨_, rfl⟩
          rw [← eS_545] at hw
          have hO_546 : Ok MLa S S_545 := hO_304.sI eS_545 (by decide +kernel) (uI_10_1004 hO_304.1 t_306)
          have h_547 : pI S_545 1004 x = 0 := tI_sIs eS_545
          refine lv_goto (tgt := 261) X.1 X.2.1 dX10_advance_70 (by decide) ?_
          have pz_548 : (pI S_545 1004 x).toInt = 0 := (congrArg Int32.toInt h_547).trans ti_0
          have t_549 : pI S_545 1005 x = v_21 := tI_sI eS_545 rfl t_307
          have pz_550 : (pI S_545 1005 x).toInt = v_21.toInt := (congrArg Int32.toInt t_549).trans rfl
          have t_551 : pI S_545 1006 x = v_21 := tI_sI eS_545 rfl h_305
          have pz_552 : (pI S_545 1006 x).toInt = v_21.toInt := (congrArg Int32.toInt t_551).trans rfl
          rw [hQQ]
          exact ret_v X hw hr hlocks (Nat.le_of_ble_eq_true rfl) (Nat.le_of_ble_eq_true rfl) ⟨hO_546, ⟨by rw [hT_302, tokS_end (by omega)]; exact TokAt_mk (by omega) (by omega) (by omega), by omega, by omega⟩⟩ dX10_advance_261
  have pz_553 : (pI S_10 1005 x).toInt = v_1.toInt := (congrArg Int32.toInt h_12).trans rfl
  have t_554 : At S_10 x 10 := tAt_sI eS_10 ha_x
  exact L_13 _ _ _ _ _  rfl hw t_554 hO_11 (by omega) (by omega) (fun j h1 h2 => absurd h2 (by omega)) t_19 (lv_sub hl [0] rfl)
