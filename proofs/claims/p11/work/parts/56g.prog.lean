def MPt : List Nat := [1000, 409, 1106, 600, 1001, 1002, 1004, 1005, 1006, 10034, 10134]

set_option maxHeartbeats 4000000 in
set_option maxRecDepth 100000 in
theorem k_X11_program2 (l : Launch) (G : va_G) (cy : Nat → ClassId) (κ : Nat → Nat) (S : PS) (sz : Nat) (x : Nat) (a1 : Int32) (a1_z : Int) (hG : GX S) (ha_x : At S x 11) (hz_a1 : a1.toInt = a1_z) : Ci l yX11_program wsX11_program ({ frames := 11, cells := 0, slots := 0, locals := 528 }) G cy κ S sz [.ref x, .int (a1)] (fun (r : Int32) (S9 : PS) => Ok MPt S S9 ∧ (-2147483648 ≤ r.toInt ∧ r.toInt ≤ 2147483647 ∧ (∀ q0, pR S 1105 x = some q0 → (PN S x → ((0 ≤ a1_z ∧ a1_z < (pI S 1104 x).toInt) ∧ (pI S9 1000 q0).toInt = 0) ∨ (¬ (0 ≤ a1_z ∧ a1_z < (pI S 1104 x).toInt) ∧ (pI S9 1000 q0).toInt = (pI S 1000 q0).toInt))) ∧ (∀ q0, pR S 1105 x = some q0 → (PN S x → (0 ≤ a1_z ∧ a1_z < (pI S 1104 x).toInt) → r.toInt = prR (tB S q0) (pI S 1000 q0).toInt.toNat)) ∧ (PN S x → ¬ (0 ≤ a1_z ∧ a1_z < (pI S 1104 x).toInt) → r.toInt = -1))) := by
  refine ent_m (cc := cX11_program) (maxL := 5) (ret := (some .int)) (by decide) rfl (Nat.le_of_ble_eq_true rfl) ?_
  intro p e s m below meth c ls X hr hlocks hin hw hl hsz
  subst hsz
  have X : Cx p c cX11_program 5 s [.ref x, .int (a1)].toArray wsX11_program RX11 m G cy κ (AS S s.heap.size) := X
  have hl : lv_has ls 5 [(0, .ref x), (1, .int (a1))] := hl
  have rg_a1 : (-2147483648) ≤ a1_z ∧ a1_z ≤ 2147483647 := by rw [← hz_a1]; exact ⟨z_lo _, z_hi _⟩
  have hO : Ok MPt S S := Ok.rf hG
  obtain ⟨q_1, h_2, h_3⟩ := gQ_11_1105 hO.1 ha_x
  obtain ⟨v_5, ev_5⟩ : ∃ v, pI S 1000 q_1 = v := ⟨_, rfl⟩
  have rg_6 := gI_10_1000 hO.1 h_3; rw [ev_5] at rg_6
  have pz_7 : (pI S 1000 q_1).toInt = v_5.toInt := by rw [ev_5]
  have pz_8 : (pI S 1000 q_1).toInt = v_5.toInt := (congrArg Int32.toInt ev_5).trans rfl
  refine lv_aload_n X.1 X.2.1 dX11_program_0 rfl (lv_at hl 0 rfl) ?_
  refine lv_iload_n X.1 X.2.1 dX11_program_1 rfl (lv_at hl 1 rfl) ?_
  refine k_q (rm := { frames := 1, cells := 0, slots := 0, locals := 48 }) (av := [.ref x, .int (a1)]) X hw (va_runV (As := [.int (a1)]) (rest := []) (cfix X) (k_X11_potAt l G cy κ S _ x (a1) (a1_z) hO.1 ha_x hz_a1) (cwV 1 X.2.2.2.1 gX11_program_X11_potAt rfl rfl rfl (by decide +kernel) ⟨Nat.le_of_ble_eq_true rfl, Nat.le_of_ble_eq_true rfl⟩) (pre_V X hw _ ha_x rfl (by decide) rfl) rfl rfl hl.1 rfl (lv_room (Nat.le_of_ble_eq_true rfl)) dX11_program_2 ⟨Nat.le_of_ble_eq_true rfl, Nat.le_of_ble_eq_true rfl⟩) 0 0 (Nat.le_of_ble_eq_true rfl) (Nat.le_of_ble_eq_true rfl) (fun rr_9 S_10 H locs hp hw hfr hnw => ?_)
  obtain ⟨e2, hp⟩ := hp
  subst e2
  obtain ⟨hq_11, hnf_12⟩ := hp
  rcases rr_9 with _ | q_13
  · refine W.eq (g2 := F0 m 5 ls (.null :: [])) rfl ?_
    have nf_14 := hnf_12 rfl
    refine lv_astore_nN (lv' := [(2, .null), (0, .ref x), (1, .int (a1))]) X.1 X.2.1 dX11_program_5 rfl hl (by decide) rfl (fun ls hl => ?_)
    refine lv_aload_nN X.1 X.2.1 dX11_program_6 rfl (lv_at hl 0 rfl) ?_
    refine lv_ifnonnullN X.1 X.2.1 dX11_program_7 ?_
    refine lv_aload_n X.1 X.2.1 dX11_program_10 rfl (lv_at hl 1 rfl) ?_
    refine r_getR (g := 1105) X hw ha_x rfl 5 h_2 (by decide) rfl inn_X11_program_11 (by decide) (X.2.2.2.1 (.fieldLink RX11 28 "SilkMill" "tape" "LSilkMill$Tape;") (by decide +kernel)) rfl (gv_1105 _ _) dX11_program_11 ?_
    refine k_v (rm := { frames := 1, cells := 0, slots := 0, locals := 48 }) (av := [.ref q_1]) X hw (va_runV (As := []) (rest := []) (cfix X) (k_X10_forgetFault2 l G cy κ S _ q_1 hO.1 h_3) (cwV 0 X.2.2.2.1 gX11_program_X10_forgetFault rfl rfl rfl (by decide +kernel) ⟨Nat.le_of_ble_eq_true rfl, Nat.le_of_ble_eq_true rfl⟩) (pre_V X hw _ h_3 rfl (by decide) rfl) rfl rfl hl.1 rfl (lv_room (Nat.le_of_ble_eq_true rfl)) dX11_program_14 ⟨Nat.le_of_ble_eq_true rfl, Nat.le_of_ble_eq_true rfl⟩) 0 0 (Nat.le_of_ble_eq_true rfl) (Nat.le_of_ble_eq_true rfl) (fun S_16 H locs hp hw hfr hnw => ?_)
    obtain ⟨hk_17, hp⟩ := hp
    have hO_18 : Ok MPt S S_16 := hO.call hk_17 (by decide +kernel)
    refine lv_iconst (v := (-1)) X.1 X.2.1 dX11_program_17 (by decide) ?_
    have t_19 : pI S_16 1000 q_1 = v_5 := hk_17.fr.I' (by decide +kernel) h_3 ev_5
    have pz_20 : (pI S_16 1000 q_1).toInt = v_5.toInt := (congrArg Int32.toInt t_19).trans rfl
    exact ret_i X hw hr hlocks (Nat.le_of_ble_eq_true rfl) (Nat.le_of_ble_eq_true rfl) ⟨hO_18, ⟨z_lo _, z_hi _, fun q0 hq0 hPN => by rw [h_2] at hq0; cases hq0; have hnf := nf_14 hPN; have hzr := ti_m1; omega, fun q0 hq0 hPN hin => by rw [h_2] at hq0; cases hq0; have hnf := nf_14 hPN; omega, fun hPN h => by decide⟩⟩ dX11_program_18
  · refine W.eq (g2 := F0 m 5 ls (.ref q_13 :: [])) rfl ?_
    obtain ⟨ha_21, f_22, f_23⟩ := hq_11 _ rfl
    refine lv_astore_n (lv' := [(2, .ref q_13), (0, .ref x), (1, .int (a1))]) X.1 X.2.1 dX11_program_5 rfl hl (by decide) rfl (fun ls hl => ?_)
    refine lv_aload_n X.1 X.2.1 dX11_program_6 rfl (lv_at hl 0 rfl) ?_
    refine lv_ifnonnull (tgt := 19) X.1 X.2.1 dX11_program_7 (by decide) ?_
    refine lv_aload_n X.1 X.2.1 dX11_program_19 rfl (lv_at hl 1 rfl) ?_
    refine r_getR (g := 1105) X hw ha_x rfl 5 h_2 (by decide) rfl inn_X11_program_11 (by decide) (X.2.2.2.1 (.fieldLink RX11 28 "SilkMill" "tape" "LSilkMill$Tape;") (by decide +kernel)) rfl (gv_1105 _ _) dX11_program_20 ?_
    refine lv_aload_n X.1 X.2.1 dX11_program_23 rfl (lv_at hl 1 rfl) ?_
    obtain ⟨q_24, h_25, h_26⟩ := gQ_11_1106 hO.1 ha_x
    refine r_getR (g := 1106) X hw ha_x rfl 6 h_25 (by decide) rfl inn_X11_program_11 (by decide) (X.2.2.2.1 (.fieldLink RX11 35 "SilkMill" "spareRules" "LSilkMill$Rules;") (by decide +kernel)) rfl (gv_1106 _ _) dX11_program_24 ?_
    refine k_i (rm := { frames := 10, cells := 0, slots := 0, locals := 480 }) (av := [.ref q_1, .ref q_24]) X hw (va_runV (As := [.ref q_24]) (rest := []) (cfix X) (k_X10_readInto2 l G cy κ S _ q_1 q_24 hO.1 h_3 h_26) (cwV 1 X.2.2.2.1 gX11_program_X10_readInto rfl rfl rfl (by decide +kernel) ⟨Nat.le_of_ble_eq_true rfl, Nat.le_of_ble_eq_true rfl⟩) (pre_V X hw _ h_3 rfl (by decide) rfl) rfl rfl hl.1 rfl (lv_room (Nat.le_of_ble_eq_true rfl)) dX11_program_27 ⟨Nat.le_of_ble_eq_true rfl, Nat.le_of_ble_eq_true rfl⟩) 0 0 (Nat.le_of_ble_eq_true rfl) (Nat.le_of_ble_eq_true rfl) (fun rr_28 S_29 H locs hp hw hfr hnw => ?_)
    obtain ⟨hk_30, hp⟩ := hp
    have hO_31 : Ok MPt S S_29 := hO.call hk_30 (by decide +kernel)
    rcases hp with ⟨f_32, er_33⟩ | ⟨f_32, er_33⟩ <;> subst er_33
    · have z_b_34 := trivial
      obtain ⟨v_35, ev_35⟩ : ∃ v, pI S_29 600 q_24 = v := ⟨_, rfl⟩
      have t_37 : At S_29 q_24 6 := hk_30.fr.at h_26
      have rg_36 := gI_6_600 hO_31.1 t_37; rw [ev_35] at rg_36
      have pz_38 : (pI S_29 600 q_24).toInt = v_35.toInt := by rw [ev_35]
      have pz_39 : (pI S_29 600 q_24).toInt = v_35.toInt := (congrArg Int32.toInt ev_35).trans rfl
      obtain ⟨v_40, ev_40⟩ : ∃ v, pI S_29 1001 q_1 = v := ⟨_, rfl⟩
      have rg_42 := And.intro (z_lo v_40) (z_hi v_40)
      have pz_43 : (pI S_29 1001 q_1).toInt = v_40.toInt := by rw [ev_40]
      have pz_44 : (pI S_29 1001 q_1).toInt = v_40.toInt := (congrArg Int32.toInt ev_40).trans rfl
      refine lv_istore_n (lv' := [(3, .int 1), (2, .ref q_13), (0, .ref x), (1, .int (a1))]) X.1 X.2.1 dX11_program_30 rfl hl (by decide) rfl (fun ls hl => ?_)
      refine lv_aload_n X.1 X.2.1 dX11_program_31 rfl (lv_at hl 2 rfl) ?_
      have t_45 : At S_29 x 11 := hk_30.fr.at ha_x
      have t_46 : pR S_29 1105 x = some q_1 := hk_30.fr.R' (by decide +kernel) ha_x h_2
      refine r_getR (g := 1105) X hw t_45 rfl 5 t_46 (by decide) rfl inn_X11_program_11 (by decide) (X.2.2.2.1 (.fieldLink RX11 28 "SilkMill" "tape" "LSilkMill$Tape;") (by decide +kernel)) rfl (gv_1105 _ _) dX11_program_32 ?_
      refine lv_iconst (v := 0) X.1 X.2.1 dX11_program_35 (by decide) ?_
      have t_47 : At S_29 q_1 10 := hk_30.fr.at h_3
      refine r_putI (v := 0) X hw t_47 rfl 0 1000 tyX10 (by decide) rfl inn_X11_program_10 tyX10_ok nmX10 (by decide) (X.2.2.2.1 (.fieldLink RX11 145 "SilkMill$Tape" "size" "I") (by decide +kernel)) rfl (Or.inl rfl) rfl rfl (Nat.le_of_ble_eq_true rfl) (st_1000 _ _) dX11_program_36 (fun H locs hw => ?_)
      obtain ⟨S_48, eS_48⟩ : ∃ T, T = sI S_29 1000 q_1 (0) := ⟨_, rfl⟩
      rw [← eS_48] at hw
      have hO_49 : Ok MPt S S_48 := hO_31.sI eS_48 (by decide +kernel) (uI_10_1000 hO_31.1 t_47 (by rw [ti_0]; omega) (by rw [ti_0]; omega))
      have h_50 : pI S_48 1000 q_1 = 0 := tI_sIs eS_48
      refine lv_iload_n X.1 X.2.1 dX11_program_39 rfl (lv_at hl 0 rfl) ?_
      refine lv_if_ne (tgt := 54) X.1 X.2.1 dX11_program_40 (by decide) (fun c_51 => ?_) (fun c_51 => absurd c_51 (by decide))
      refine lv_aload_n X.1 X.2.1 dX11_program_54 rfl (lv_at hl 1 rfl) ?_
      have t_52 : At S_29 q_13 4 := hk_30.fr.at ha_21
      have t_53 : At S_48 q_13 4 := tAt_sI eS_48 t_52
      obtain ⟨q_54, h_55, h_56⟩ := gQ_4_409 hO_49.1 t_53
      refine r_getR (g := 409) X hw t_53 rfl 9 h_55 (by decide) rfl inn_X11_program_4 (by decide) (X.2.2.2.1 (.fieldLink RX11 162 "SilkMill$Pot" "rules" "LSilkMill$Rules;") (by decide +kernel)) rfl (gv_409 _ _) dX11_program_55 ?_
      refine lv_astore (lv' := [(4, .ref q_54), (3, .int 1), (2, .ref q_13), (0, .ref x), (1, .int (a1))]) X.1 X.2.1 dX11_program_58 hl (by decide) rfl (fun ls hl => ?_)
      refine lv_aload_n X.1 X.2.1 dX11_program_60 rfl (lv_at hl 2 rfl) ?_
      refine lv_aload_n X.1 X.2.1 dX11_program_61 rfl (lv_at hl 3 rfl) ?_
      have t_58 : At S_48 x 11 := tAt_sI eS_48 t_45
      have t_59 : pR S_29 1106 x = some q_24 := hk_30.fr.R' (by decide +kernel) ha_x h_25
      have t_60 : pR S_48 1106 x = some q_24 := tR_sI eS_48 t_59
      refine r_getR (g := 1106) X hw t_58 rfl 6 t_60 (by decide) rfl inn_X11_program_11 (by decide) (X.2.2.2.1 (.fieldLink RX11 35 "SilkMill" "spareRules" "LSilkMill$Rules;") (by decide +kernel)) rfl (gv_1106 _ _) dX11_program_62 ?_
      have t_61 : At S_48 q_24 6 := tAt_sI eS_48 t_37
      refine r_putR X hw t_53 rfl 9 409 (some q_24) rfl tyX4 (by decide) rfl inn_X11_program_4 tyX4_ok nmX4 (by decide) (X.2.2.2.1 (.fieldLink RX11 162 "SilkMill$Pot" "rules" "LSilkMill$Rules;") (by decide +kernel)) rfl (Or.inl rfl) (fun _ => rfl) rfl (fun _ => rfl) rfl (Nat.le_of_ble_eq_true rfl) (st_409 _ _) dX11_program_65 (fun H locs hw => ?_)
      obtain ⟨S_62, eS_62⟩ : ∃ T, T = sR S_48 409 q_13 (some q_24) := ⟨_, rfl⟩
      rw [← eS_62] at hw
      have hO_63 : Ok MPt S S_62 := hO_49.sR eS_62 (by decide +kernel) (uR_4_409 hO_49.1 t_53 t_61)
      have h_64 : pR S_62 409 q_13 = some q_24 := tR_sRs eS_62
      refine lv_aload_n X.1 X.2.1 dX11_program_68 rfl (lv_at hl 3 rfl) ?_
      refine lv_aload X.1 X.2.1 dX11_program_69 (lv_at hl 0 rfl) ?_
      have t_65 : At S_62 x 11 := tAt_sR eS_62 t_58
      have t_66 : At S_62 q_54 6 := tAt_sR eS_62 h_56
      refine r_putR X hw t_65 rfl 6 1106 (some q_54) rfl tyX11 (by decide) rfl inn_X11_program_11 tyX11_ok nmX11 (by decide) (X.2.2.2.1 (.fieldLink RX11 35 "SilkMill" "spareRules" "LSilkMill$Rules;") (by decide +kernel)) rfl (Or.inl rfl) (fun _ => rfl) rfl (fun _ => rfl) rfl (Nat.le_of_ble_eq_true rfl) (st_1106 _ _) dX11_program_71 (fun H locs hw => ?_)
      obtain ⟨S_67, eS_67⟩ : ∃ T, T = sR S_62 1106 x (some q_54) := ⟨_, rfl⟩
      rw [← eS_67] at hw
      have hO_68 : Ok MPt S S_67 := hO_63.sR eS_67 (by decide +kernel) (uR_11_1106 hO_63.1 t_65 t_66)
      have h_69 : pR S_67 1106 x = some q_54 := tR_sRs eS_67
      refine lv_aload_n X.1 X.2.1 dX11_program_74 rfl (lv_at hl 2 rfl) ?_
      have t_70 : At S_62 q_13 4 := tAt_sR eS_62 t_53
      have t_71 : At S_67 q_13 4 := tAt_sR eS_67 t_70
      have t_72 : pR S_67 409 q_13 = some q_24 := tR_sR eS_67 rfl h_64
      refine r_getR (g := 409) X hw t_71 rfl 9 t_72 (by decide) rfl inn_X11_program_4 (by decide) (X.2.2.2.1 (.fieldLink RX11 162 "SilkMill$Pot" "rules" "LSilkMill$Rules;") (by decide +kernel)) rfl (gv_409 _ _) dX11_program_75 ?_
      have t_73 : pI S_48 600 q_24 = v_35 := tI_sI eS_48 rfl ev_35
      have t_74 : pI S_62 600 q_24 = v_35 := tI_sR eS_62 t_73
      have t_75 : pI S_67 600 q_24 = v_35 := tI_sR eS_67 t_74
      have pz_76 : (pI S_67 600 q_24).toInt = v_35.toInt := (congrArg Int32.toInt t_75).trans rfl
      have t_77 : At S_62 q_24 6 := tAt_sR eS_62 t_61
      have t_78 : At S_67 q_24 6 := tAt_sR eS_67 t_77
      refine r_getI (g := 600) (x := v_35) X hw t_78 rfl 0 t_75 (by decide) rfl inn_X11_program_6 (by decide) (X.2.2.2.1 (.fieldLink RX11 165 "SilkMill$Rules" "size" "I") (by decide +kernel)) rfl (gv_600 _ _) dX11_program_78 ?_
      have t_79 : pI S_62 1000 q_1 = 0 := tI_sR eS_62 h_50
      have t_80 : pI S_67 1000 q_1 = 0 := tI_sR eS_67 t_79
      have pz_81 : (pI S_67 1000 q_1).toInt = 0 := (congrArg Int32.toInt t_80).trans ti_0
      exact ret_i X hw hr hlocks (Nat.le_of_ble_eq_true rfl) (Nat.le_of_ble_eq_true rfl) ⟨hO_68, ⟨z_lo _, z_hi _, fun q0 hq0 hPN => by rw [h_2] at hq0; cases hq0; omega, fun q0 hq0 hPN hin => by rw [h_2] at hq0; cases hq0; unfold prR; rw [cit_y f_32.1]; have h2 := f_32.2; omega, fun hPN h => by exfalso; omega⟩⟩ dX11_program_81
    · have z_b_82 := trivial
      obtain ⟨v_83, ev_83⟩ : ∃ v, pI S_29 600 q_24 = v := ⟨_, rfl⟩
      have t_85 : At S_29 q_24 6 := hk_30.fr.at h_26
      have rg_84 := gI_6_600 hO_31.1 t_85; rw [ev_83] at rg_84
      have pz_86 : (pI S_29 600 q_24).toInt = v_83.toInt := by rw [ev_83]
      have pz_87 : (pI S_29 600 q_24).toInt = v_83.toInt := (congrArg Int32.toInt ev_83).trans rfl
      obtain ⟨v_88, ev_88⟩ : ∃ v, pI S_29 1001 q_1 = v := ⟨_, rfl⟩
      have rg_90 := And.intro (z_lo v_88) (z_hi v_88)
      have pz_91 : (pI S_29 1001 q_1).toInt = v_88.toInt := by rw [ev_88]
      have pz_92 : (pI S_29 1001 q_1).toInt = v_88.toInt := (congrArg Int32.toInt ev_88).trans rfl
      refine lv_istore_n (lv' := [(3, .int 0), (2, .ref q_13), (0, .ref x), (1, .int (a1))]) X.1 X.2.1 dX11_program_30 rfl hl (by decide) rfl (fun ls hl => ?_)
      refine lv_aload_n X.1 X.2.1 dX11_program_31 rfl (lv_at hl 2 rfl) ?_
      have t_93 : At S_29 x 11 := hk_30.fr.at ha_x
      have t_94 : pR S_29 1105 x = some q_1 := hk_30.fr.R' (by decide +kernel) ha_x h_2
      refine r_getR (g := 1105) X hw t_93 rfl 5 t_94 (by decide) rfl inn_X11_program_11 (by decide) (X.2.2.2.1 (.fieldLink RX11 28 "SilkMill" "tape" "LSilkMill$Tape;") (by decide +kernel)) rfl (gv_1105 _ _) dX11_program_32 ?_
      refine lv_iconst (v := 0) X.1 X.2.1 dX11_program_35 (by decide) ?_
      have t_95 : At S_29 q_1 10 := hk_30.fr.at h_3
      refine r_putI (v := 0) X hw t_95 rfl 0 1000 tyX10 (by decide) rfl inn_X11_program_10 tyX10_ok nmX10 (by decide) (X.2.2.2.1 (.fieldLink RX11 145 "SilkMill$Tape" "size" "I") (by decide +kernel)) rfl (Or.inl rfl) rfl rfl (Nat.le_of_ble_eq_true rfl) (st_1000 _ _) dX11_program_36 (fun H locs hw => ?_)
      obtain ⟨S_96, eS_96⟩ : ∃ T, T = sI S_29 1000 q_1 (0) := ⟨_, rfl⟩
      rw [← eS_96] at hw
      have hO_97 : Ok MPt S S_96 := hO_31.sI eS_96 (by decide +kernel) (uI_10_1000 hO_31.1 t_95 (by rw [ti_0]; omega) (by rw [ti_0]; omega))
      have h_98 : pI S_96 1000 q_1 = 0 := tI_sIs eS_96
      refine lv_iload_n X.1 X.2.1 dX11_program_39 rfl (lv_at hl 0 rfl) ?_
      refine lv_if_ne (tgt := 54) X.1 X.2.1 dX11_program_40 (by decide) (fun c_99 => absurd c_99 (by decide)) (fun c_99 => ?_)
      refine lv_aload_n X.1 X.2.1 dX11_program_43 rfl (lv_at hl 2 rfl) ?_
      have t_100 : At S_96 x 11 := tAt_sI eS_96 t_93
      have t_101 : pR S_96 1105 x = some q_1 := tR_sI eS_96 t_94
      refine r_getR (g := 1105) X hw t_100 rfl 5 t_101 (by decide) rfl inn_X11_program_11 (by decide) (X.2.2.2.1 (.fieldLink RX11 28 "SilkMill" "tape" "LSilkMill$Tape;") (by decide +kernel)) rfl (gv_1105 _ _) dX11_program_44 ?_
      have t_102 : At S_96 q_1 10 := tAt_sI eS_96 t_95
      have t_103 : pI S_96 1001 q_1 = v_88 := tI_sI eS_96 rfl ev_88
      refine r_getI (g := 1001) (x := v_88) X hw t_102 rfl 1 t_103 (by decide) rfl inn_X11_program_10 (by decide) (X.2.2.2.1 (.fieldLink RX11 159 "SilkMill$Tape" "faultKind" "I") (by decide +kernel)) rfl (gv_1001 _ _) dX11_program_47 ?_
      refine lv_bipush (v := 10) X.1 X.2.1 dX11_program_50 (by decide) ?_
      have pz_104 : (pI S_96 1001 q_1).toInt = v_88.toInt := (congrArg Int32.toInt t_103).trans rfl
      have fr_105 : 0 ≤ v_88.toInt ∧ v_88.toInt ≤ 2 := by have h := prF_ok (B := tB S q_1) (n := (pI S 1000 q_1).toInt.toNat) 13 0 (tokF (tB S q_1) (pI S 1000 q_1).toInt.toNat 0); unfold okR at h; have h2 := f_32.2; omega
      refine lv_isub X.1 X.2.1 dX11_program_52 ?_
      refine lv_topi (fun v_106 ev_106 => ?_)
      have z_107 : v_106.toInt = v_88.toInt - 10 := z_sub ev_106 rfl ti_10 (by omega) (by omega)
      have pz_108 : (pI S_96 1000 q_1).toInt = 0 := (congrArg Int32.toInt h_98).trans ti_0
      exact ret_i X hw hr hlocks (Nat.le_of_ble_eq_true rfl) (Nat.le_of_ble_eq_true rfl) ⟨hO_97, ⟨z_lo _, z_hi _, fun q0 hq0 hPN => by rw [h_2] at hq0; cases hq0; omega, fun q0 hq0 hPN hin => by rw [h_2] at hq0; cases hq0; unfold prR; rw [cit_n f_32.1]; have h2 := f_32.2; omega, fun hPN h => by exfalso; omega⟩⟩ dX11_program_53
