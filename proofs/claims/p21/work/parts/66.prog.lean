def MPt : List Nat := [1000, 409, 1106, 600, 1001, 1002, 1004, 1005, 1006, 10034, 10134]
/-- what a program() of a pot P does: rh was the spare program, u is the tape -/
def PgO (S T : PS) (x P rh u : Nat) : Prop := ((prF (tB S u) (pI S 1000 u).toInt.toNat 13 0 (tokF (tB S u) (pI S 1000 u).toInt.toNat 0)).1 = 0 ∧ ∃ (V U W : PS) (o : Nat), Fr MLr S V ∧ RuK S V rh ∧ RuIs V rh (prA (tB S u) (pI S 1000 u).toInt.toNat) ∧ pR S 409 P = some o ∧ U = sI V 1000 u 0 ∧ W = sR U 409 P (some rh) ∧ T = sR W 1106 x (some o)) ∨ ((prF (tB S u) (pI S 1000 u).toInt.toNat 13 0 (tokF (tB S u) (pI S 1000 u).toInt.toNat 0)).1 ≠ 0 ∧ ∃ V : PS, Fr MLr S V ∧ RuK S V rh ∧ T = sI V 1000 u 0)

set_option maxHeartbeats 4000000 in
set_option maxRecDepth 100000 in
theorem k_X11_program6 (l : Launch) (G : va_G) (cy : Nat → ClassId) (κ : Nat → Nat) (S : PS) (sz : Nat) (x : Nat) (a1 : Int32) (a1_z : Int) (hG : GX S) (ha_x : At S x 11) (hz_a1 : a1.toInt = a1_z) (hp_0 : (∀ q, pR S 1106 x = some q → RuD S q)) : Ci l yX11_program wsX11_program ({ frames := 11, cells := 0, slots := 0, locals := 528 }) G cy κ S sz [.ref x, .int (a1)] (fun (r : Int32) (S9 : PS) => Ok MPt S S9 ∧ (-2147483648 ≤ r.toInt ∧ r.toInt ≤ 2147483647 ∧ (∀ q0, pR S 1105 x = some q0 → (PN S x → ((0 ≤ a1_z ∧ a1_z < (pI S 1104 x).toInt) ∧ (pI S9 1000 q0).toInt = 0) ∨ (¬ (0 ≤ a1_z ∧ a1_z < (pI S 1104 x).toInt) ∧ (pI S9 1000 q0).toInt = (pI S 1000 q0).toInt))) ∧ (∀ q0, pR S 1105 x = some q0 → (PN S x → (0 ≤ a1_z ∧ a1_z < (pI S 1104 x).toInt) → r.toInt = prR (tB S q0) (pI S 1000 q0).toInt.toNat)) ∧ (PN S x → ¬ (0 ≤ a1_z ∧ a1_z < (pI S 1104 x).toInt) → r.toInt = -1) ∧ (∀ P rh u, PN S x → 0 ≤ a1_z → a1_z < (pI S 1104 x).toInt → mB S x 1103 a1_z.toNat = some P → pR S 1106 x = some rh → pR S 1105 x = some u → PgO S S9 x P rh u) ∧ (PN S x → ¬ (0 ≤ a1_z ∧ a1_z < (pI S 1104 x).toInt) → Fr MLf S S9))) := by
  refine ent_m (cc := cX11_program) (maxL := 5) (ret := (some .int)) (by decide) rfl (Nat.le_of_ble_eq_true rfl) ?_
  intro p e s m below meth c ls X hr hlocks hin hw hl hsz
  subst hsz
  have X : Cx p c cX11_program 5 s [.ref x, .int (a1)].toArray wsX11_program RX11 m G cy κ (AS S s.heap.size) := X
  have hl : lv_has ls 5 [(0, .ref x), (1, .int (a1))] := hl
  have rg_a1 : (-2147483648) ≤ a1_z ∧ a1_z ≤ 2147483647 := by rw [← hz_a1]; exact ⟨z_lo _, z_hi _⟩
  have hO : Ok MPt S S := Ok.rf hG
  obtain ⟨q_1, h_2, h_3⟩ := gQ_11_1105 hO.1 ha_x
  obtain ⟨v_5, ev_5⟩ : ∃ v, pI S 1000 q_1 = v := ⟨_, rfl⟩
  have rg_6 := gI_10_1000 hO.1 h_3; rw [ev_5] at rg_6
  have pz_7 : (pI S 1000 q_1).toInt = v_5.toInt := by rw [ev_5]
  have pz_8 : (pI S 1000 q_1).toInt = v_5.toInt := (congrArg Int32.toInt ev_5).trans rfl
  refine lv_aload_n X.1 X.2.1 dX11_program_0 rfl (lv_at hl 0 rfl) ?_
  refine lv_iload_n X.1 X.2.1 dX11_program_1 rfl (lv_at hl 1 rfl) ?_
  refine k_q (rm := { frames := 1, cells := 0, slots := 0, locals := 48 }) (av := [.ref x, .int (a1)]) X hw (va_runV (As := [.int (a1)]) (rest := []) (cfix X) (k_X11_potAt3 l G cy κ S _ x (a1) (a1_z) hO.1 ha_x hz_a1) (cwV 1 X.2.2.2.1 gX11_program_X11_potAt rfl rfl rfl (by decide +kernel) ⟨Nat.le_of_ble_eq_true rfl, Nat.le_of_ble_eq_true rfl⟩) (pre_V X hw _ ha_x rfl (by decide) rfl) rfl rfl hl.1 rfl (lv_room (Nat.le_of_ble_eq_true rfl)) dX11_program_2 ⟨Nat.le_of_ble_eq_true rfl, Nat.le_of_ble_eq_true rfl⟩) 0 0 (Nat.le_of_ble_eq_true rfl) (Nat.le_of_ble_eq_true rfl) (fun rr_9 S_10 H locs hp hw hfr hnw => ?_)
  obtain ⟨e2, hp⟩ := hp
  subst e2
  obtain ⟨hq_11, hnf_12⟩ := hp
  rcases rr_9 with _ | q_13
  · refine W.eq (g2 := F0 m 5 ls (.null :: [])) rfl ?_
    have nf_14 := hnf_12 rfl
    refine lv_astore_nN (lv' := [(2, .null), (0, .ref x), (1, .int (a1))]) X.1 X.2.1 dX11_program_5 rfl hl (by decide) rfl (fun ls hl => ?_)
    refine lv_aload_nN X.1 X.2.1 dX11_program_6 rfl (lv_at hl 0 rfl) ?_
    refine lv_ifnonnullN X.1 X.2.1 dX11_program_7 ?_
    refine lv_aload_n X.1 X.2.1 dX11_program_10 rfl (lv_at hl 1 rfl) ?_
    refine r_getR (g := 1105) X hw ha_x rfl 5 h_2 (by decide) rfl inn_X11_program_11 (by decide) (X.2.2.2.1 (.fieldLink RX11 28 "SilkMill" "tape" "LSilkMill$Tape;") (by decide +kernel)) rfl (gv_1105 _ _) dX11_program_11 ?_
    refine k_v (rm := { frames := 1, cells := 0, slots := 0, locals := 48 }) (av := [.ref q_1]) X hw (va_runV (As := []) (rest := []) (cfix X) (k_X10_forgetFault2 l G cy κ S _ q_1 hO.1 h_3) (cwV 0 X.2.2.2.1 gX11_program_X10_forgetFault rfl rfl rfl (by decide +kernel) ⟨Nat.le_of_ble_eq_true rfl, Nat.le_of_ble_eq_true rfl⟩) (pre_V X hw _ h_3 rfl (by decide) rfl) rfl rfl hl.1 rfl (lv_room (Nat.le_of_ble_eq_true rfl)) dX11_program_14 ⟨Nat.le_of_ble_eq_true rfl, Nat.le_of_ble_eq_true rfl⟩) 0 0 (Nat.le_of_ble_eq_true rfl) (Nat.le_of_ble_eq_true rfl) (fun S_16 H locs hp hw hfr hnw => ?_)
    obtain ⟨hk_17, hp⟩ := hp
    have hO_18 : Ok MPt S S_16 := hO.call hk_17 (by decide +kernel)
    refine lv_iconst (v := (-1)) X.1 X.2.1 dX11_program_17 (by decide) ?_
    have t_19 : pI S_16 1000 q_1 = v_5 := hk_17.fr.I' (by decide +kernel) h_3 ev_5
    have pz_20 : (pI S_16 1000 q_1).toInt = v_5.toInt := (congrArg Int32.toInt t_19).trans rfl
    exact ret_i X hw hr hlocks (Nat.le_of_ble_eq_true rfl) (Nat.le_of_ble_eq_true rfl) ⟨hO_18, ⟨z_lo _, z_hi _, fun q0 hq0 hPN => by rw [h_2] at hq0; cases hq0; have hnf := nf_14 hPN; have hzr := ti_m1; omega, fun q0 hq0 hPN hin => by rw [h_2] at hq0; cases hq0; have hnf := nf_14 hPN; omega, fun hPN h => by decide, fun P rh u hPN h1 h2 h3 h4 h5 => by exfalso; exact nf_14 hPN ⟨h1, h2⟩, fun _ _ => hk_17.fr⟩⟩ dX11_program_18
  · refine W.eq (g2 := F0 m 5 ls (.ref q_13 :: [])) rfl ?_
    obtain ⟨ha_21, f_22, f_23, f_24⟩ := hq_11 _ rfl
    refine lv_astore_n (lv' := [(2, .ref q_13), (0, .ref x), (1, .int (a1))]) X.1 X.2.1 dX11_program_5 rfl hl (by decide) rfl (fun ls hl => ?_)
    refine lv_aload_n X.1 X.2.1 dX11_program_6 rfl (lv_at hl 0 rfl) ?_
    refine lv_ifnonnull (tgt := 19) X.1 X.2.1 dX11_program_7 (by decide) ?_
    refine lv_aload_n X.1 X.2.1 dX11_program_19 rfl (lv_at hl 1 rfl) ?_
    refine r_getR (g := 1105) X hw ha_x rfl 5 h_2 (by decide) rfl inn_X11_program_11 (by decide) (X.2.2.2.1 (.fieldLink RX11 28 "SilkMill" "tape" "LSilkMill$Tape;") (by decide +kernel)) rfl (gv_1105 _ _) dX11_program_20 ?_
    refine lv_aload_n X.1 X.2.1 dX11_program_23 rfl (lv_at hl 1 rfl) ?_
    obtain ⟨q_25, h_26, h_27⟩ := gQ_11_1106 hO.1 ha_x
    refine r_getR (g := 1106) X hw ha_x rfl 6 h_26 (by decide) rfl inn_X11_program_11 (by decide) (X.2.2.2.1 (.fieldLink RX11 35 "SilkMill" "spareRules" "LSilkMill$Rules;") (by decide +kernel)) rfl (gv_1106 _ _) dX11_program_24 ?_
    obtain ⟨q_29, h_30, h_31⟩ := gQ_4_409 hO.1 ha_21
    refine k_i (rm := { frames := 10, cells := 0, slots := 0, locals := 480 }) (av := [.ref q_1, .ref q_25]) X hw (va_runV (As := [.ref q_25]) (rest := []) (cfix X) (k_X10_readInto2 l G cy κ S _ q_1 q_25 hO.1 h_3 h_27 (hp_0 _ h_26)) (cwV 1 X.2.2.2.1 gX11_program_X10_readInto rfl rfl rfl (by decide +kernel) ⟨Nat.le_of_ble_eq_true rfl, Nat.le_of_ble_eq_true rfl⟩) (pre_V X hw _ h_3 rfl (by decide) rfl) rfl rfl hl.1 rfl (lv_room (Nat.le_of_ble_eq_true rfl)) dX11_program_27 ⟨Nat.le_of_ble_eq_true rfl, Nat.le_of_ble_eq_true rfl⟩) 0 0 (Nat.le_of_ble_eq_true rfl) (Nat.le_of_ble_eq_true rfl) (fun rr_33 S_34 H locs hp hw hfr hnw => ?_)
    obtain ⟨hk_35, hp⟩ := hp
    have hO_36 : Ok MPt S S_34 := hO.call hk_35 (by decide +kernel)
    rcases hp with ⟨f_37, er_38⟩ | ⟨f_37, er_38⟩ <;> subst er_38
    · have z_b_39 := trivial
      obtain ⟨v_40, ev_40⟩ : ∃ v, pI S_34 600 q_25 = v := ⟨_, rfl⟩
      have t_42 : At S_34 q_25 6 := hk_35.fr.at h_27
      have rg_41 := gI_6_600 hO_36.1 t_42; rw [ev_40] at rg_41
      have pz_43 : (pI S_34 600 q_25).toInt = v_40.toInt := by rw [ev_40]
      have pz_44 : (pI S_34 600 q_25).toInt = v_40.toInt := (congrArg Int32.toInt ev_40).trans rfl
      obtain ⟨v_45, ev_45⟩ : ∃ v, pI S_34 1001 q_1 = v := ⟨_, rfl⟩
      have rg_47 := And.intro (z_lo v_45) (z_hi v_45)
      have pz_48 : (pI S_34 1001 q_1).toInt = v_45.toInt := by rw [ev_45]
      have pz_49 : (pI S_34 1001 q_1).toInt = v_45.toInt := (congrArg Int32.toInt ev_45).trans rfl
      refine lv_istore_n (lv' := [(3, .int 1), (2, .ref q_13), (0, .ref x), (1, .int (a1))]) X.1 X.2.1 dX11_program_30 rfl hl (by decide) rfl (fun ls hl => ?_)
      refine lv_aload_n X.1 X.2.1 dX11_program_31 rfl (lv_at hl 2 rfl) ?_
      have t_50 : At S_34 x 11 := hk_35.fr.at ha_x
      have t_51 : pR S_34 1105 x = some q_1 := hk_35.fr.R' (by decide +kernel) ha_x h_2
      refine r_getR (g := 1105) X hw t_50 rfl 5 t_51 (by decide) rfl inn_X11_program_11 (by decide) (X.2.2.2.1 (.fieldLink RX11 28 "SilkMill" "tape" "LSilkMill$Tape;") (by decide +kernel)) rfl (gv_1105 _ _) dX11_program_32 ?_
      refine lv_iconst (v := 0) X.1 X.2.1 dX11_program_35 (by decide) ?_
      have t_52 : At S_34 q_1 10 := hk_35.fr.at h_3
      refine r_putI (v := 0) X hw t_52 rfl 0 1000 tyX10 (by decide) rfl inn_X11_program_10 tyX10_ok nmX10 (by decide) (X.2.2.2.1 (.fieldLink RX11 145 "SilkMill$Tape" "size" "I") (by decide +kernel)) rfl (Or.inl rfl) rfl rfl (Nat.le_of_ble_eq_true rfl) (st_1000 _ _) dX11_program_36 (fun H locs hw => ?_)
      obtain ⟨S_53, eS_53⟩ : ∃ T, T = sI S_34 1000 q_1 (0) := ⟨_, rfl⟩
      rw [← eS_53] at hw
      have hO_54 : Ok MPt S S_53 := hO_36.sI eS_53 (by decide +kernel) (uI_10_1000 hO_36.1 t_52 (by rw [ti_0]; omega) (by rw [ti_0]; omega))
      have h_55 : pI S_53 1000 q_1 = 0 := tI_sIs eS_53
      refine lv_iload_n X.1 X.2.1 dX11_program_39 rfl (lv_at hl 0 rfl) ?_
      refine lv_if_ne (tgt := 54) X.1 X.2.1 dX11_program_40 (by decide) (fun c_56 => ?_) (fun c_56 => absurd c_56 (by decide))
      refine lv_aload_n X.1 X.2.1 dX11_program_54 rfl (lv_at hl 1 rfl) ?_
      have t_57 : At S_34 q_13 4 := hk_35.fr.at ha_21
      have t_58 : At S_53 q_13 4 := tAt_sI eS_53 t_57
      have t_59 : pR S_34 409 q_13 = some q_29 := hk_35.fr.R' (by decide +kernel) ha_21 h_30
      have t_60 : pR S_53 409 q_13 = some q_29 := tR_sI eS_53 t_59
      refine r_getR (g := 409) X hw t_58 rfl 9 t_60 (by decide) rfl inn_X11_program_4 (by decide) (X.2.2.2.1 (.fieldLink RX11 162 "SilkMill$Pot" "rules" "LSilkMill$Rules;") (by decide +kernel)) rfl (gv_409 _ _) dX11_program_55 ?_
      refine lv_astore (lv' := [(4, .ref q_29), (3, .int 1), (2, .ref q_13), (0, .ref x), (1, .int (a1))]) X.1 X.2.1 dX11_program_58 hl (by decide) rfl (fun ls hl => ?_)
      refine lv_aload_n X.1 X.2.1 dX11_program_60 rfl (lv_at hl 2 rfl) ?_
      refine lv_aload_n X.1 X.2.1 dX11_program_61 rfl (lv_at hl 3 rfl) ?_
      have t_61 : At S_53 x 11 := tAt_sI eS_53 t_50
      have t_62 : pR S_34 1106 x = some q_25 := hk_35.fr.R' (by decide +kernel) ha_x h_26
      have t_63 : pR S_53 1106 x = some q_25 := tR_sI eS_53 t_62
      refine r_getR (g := 1106) X hw t_61 rfl 6 t_63 (by decide) rfl inn_X11_program_11 (by decide) (X.2.2.2.1 (.fieldLink RX11 35 "SilkMill" "spareRules" "LSilkMill$Rules;") (by decide +kernel)) rfl (gv_1106 _ _) dX11_program_62 ?_
      have t_64 : At S_53 q_25 6 := tAt_sI eS_53 t_42
      refine r_putR X hw t_58 rfl 9 409 (some q_25) rfl tyX4 (by decide) rfl inn_X11_program_4 tyX4_ok nmX4 (by decide) (X.2.2.2.1 (.fieldLink RX11 162 "SilkMill$Pot" "rules" "LSilkMill$Rules;") (by decide +kernel)) rfl (Or.inl rfl) (fun _ => rfl) rfl (fun _ => rfl) rfl (Nat.le_of_ble_eq_true rfl) (st_409 _ _) dX11_program_65 (fun H locs hw => ?_)
      obtain ⟨S_65, eS_65⟩ : ∃ T, T = sR S_53 409 q_13 (some q_25) := ⟨_, rfl⟩
      rw [← eS_65] at hw
      have hO_66 : Ok MPt S S_65 := hO_54.sR eS_65 (by decide +kernel) (uR_4_409 hO_54.1 t_58 t_64)
      have h_67 : pR S_65 409 q_13 = some q_25 := tR_sRs eS_65
      refine lv_aload_n X.1 X.2.1 dX11_program_68 rfl (lv_at hl 3 rfl) ?_
      refine lv_aload X.1 X.2.1 dX11_program_69 (lv_at hl 0 rfl) ?_
      have t_68 : At S_65 x 11 := tAt_sR eS_65 t_61
      have t_69 : At S_34 q_29 6 := hk_35.fr.at h_31
      have t_70 : At S_53 q_29 6 := tAt_sI eS_53 t_69
      have t_71 : At S_65 q_29 6 := tAt_sR eS_65 t_70
      refine r_putR X hw t_68 rfl 6 1106 (some q_29) rfl tyX11 (by decide) rfl inn_X11_program_11 tyX11_ok nmX11 (by decide) (X.2.2.2.1 (.fieldLink RX11 35 "SilkMill" "spareRules" "LSilkMill$Rules;") (by decide +kernel)) rfl (Or.inl rfl) (fun _ => rfl) rfl (fun _ => rfl) rfl (Nat.le_of_ble_eq_true rfl) (st_1106 _ _) dX11_program_71 (fun H locs hw => ?_)
      obtain ⟨S_72, eS_72⟩ : ∃ T, T = sR S_65 1106 x (some q_29) := ⟨_, rfl⟩
      rw [← eS_72] at hw
      have hO_73 : Ok MPt S S_72 := hO_66.sR eS_72 (by decide +kernel) (uR_11_1106 hO_66.1 t_68 t_71)
      have h_74 : pR S_72 1106 x = some q_29 := tR_sRs eS_72
      refine lv_aload_n X.1 X.2.1 dX11_program_74 rfl (lv_at hl 2 rfl) ?_
      have t_75 : At S_65 q_13 4 := tAt_sR eS_65 t_58
      have t_76 : At S_72 q_13 4 := tAt_sR eS_72 t_75
      have t_77 : pR S_72 409 q_13 = some q_25 := tR_sR eS_72 rfl h_67
      refine r_getR (g := 409) X hw t_76 rfl 9 t_77 (by decide) rfl inn_X11_program_4 (by decide) (X.2.2.2.1 (.fieldLink RX11 162 "SilkMill$Pot" "rules" "LSilkMill$Rules;") (by decide +kernel)) rfl (gv_409 _ _) dX11_program_75 ?_
      have t_78 : pI S_53 600 q_25 = v_40 := tI_sI eS_53 rfl ev_40
      have t_79 : pI S_65 600 q_25 = v_40 := tI_sR eS_65 t_78
      have t_80 : pI S_72 600 q_25 = v_40 := tI_sR eS_72 t_79
      have pz_81 : (pI S_72 600 q_25).toInt = v_40.toInt := (congrArg Int32.toInt t_80).trans rfl
      have t_82 : At S_65 q_25 6 := tAt_sR eS_65 t_64
      have t_83 : At S_72 q_25 6 := tAt_sR eS_72 t_82
      refine r_getI (g := 600) (x := v_40) X hw t_83 rfl 0 t_80 (by decide) rfl inn_X11_program_6 (by decide) (X.2.2.2.1 (.fieldLink RX11 165 "SilkMill$Rules" "size" "I") (by decide +kernel)) rfl (gv_600 _ _) dX11_program_78 ?_
      have t_84 : pI S_65 1000 q_1 = 0 := tI_sR eS_65 h_55
      have t_85 : pI S_72 1000 q_1 = 0 := tI_sR eS_72 t_84
      have pz_86 : (pI S_72 1000 q_1).toInt = 0 := (congrArg Int32.toInt t_85).trans ti_0
      exact ret_i X hw hr hlocks (Nat.le_of_ble_eq_true rfl) (Nat.le_of_ble_eq_true rfl) ⟨hO_73, ⟨z_lo _, z_hi _, fun q0 hq0 hPN => by rw [h_2] at hq0; cases hq0; omega, fun q0 hq0 hPN hin => by rw [h_2] at hq0; cases hq0; unfold prR; rw [cit_y f_37.1]; have h2 := f_37.2.1; omega, fun hPN h => by exfalso; omega, fun P rh u hPN h1 h2 h3 h4 h5 => by rw [f_24] at h3; cases h3; rw [h_26] at h4; cases h4; rw [h_2] at h5; cases h5; exact Or.inl ⟨f_37.1, _, _, _, _, hk_35.fr, f_37.2.2.2, f_37.2.2.1, h_30, eS_53, eS_65, eS_72⟩, fun hPN h => absurd ⟨by omega, by omega⟩ h⟩⟩ dX11_program_81
    · have z_b_87 := trivial
      obtain ⟨v_88, ev_88⟩ : ∃ v, pI S_34 600 q_25 = v := ⟨_, rfl⟩
      have t_90 : At S_34 q_25 6 := hk_35.fr.at h_27
      have rg_89 := gI_6_600 hO_36.1 t_90; rw [ev_88] at rg_89
      have pz_91 : (pI S_34 600 q_25).toInt = v_88.toInt := by rw [ev_88]
      have pz_92 : (pI S_34 600 q_25).toInt = v_88.toInt := (congrArg Int32.toInt ev_88).trans rfl
      obtain ⟨v_93, ev_93⟩ : ∃ v, pI S_34 1001 q_1 = v := ⟨_, rfl⟩
      have rg_95 := And.intro (z_lo v_93) (z_hi v_93)
      have pz_96 : (pI S_34 1001 q_1).toInt = v_93.toInt := by rw [ev_93]
      have pz_97 : (pI S_34 1001 q_1).toInt = v_93.toInt := (congrArg Int32.toInt ev_93).trans rfl
      refine lv_istore_n (lv' := [(3, .int 0), (2, .ref q_13), (0, .ref x), (1, .int (a1))]) X.1 X.2.1 dX11_program_30 rfl hl (by decide) rfl (fun ls hl => ?_)
      refine lv_aload_n X.1 X.2.1 dX11_program_31 rfl (lv_at hl 2 rfl) ?_
      have t_98 : At S_34 x 11 := hk_35.fr.at ha_x
      have t_99 : pR S_34 1105 x = some q_1 := hk_35.fr.R' (by decide +kernel) ha_x h_2
      refine r_getR (g := 1105) X hw t_98 rfl 5 t_99 (by decide) rfl inn_X11_program_11 (by decide) (X.2.2.2.1 (.fieldLink RX11 28 "SilkMill" "tape" "LSilkMill$Tape;") (by decide +kernel)) rfl (gv_1105 _ _) dX11_program_32 ?_
      refine lv_iconst (v := 0) X.1 X.2.1 dX11_program_35 (by decide) ?_
      have t_100 : At S_34 q_1 10 := hk_35.fr.at h_3
      refine r_putI (v := 0) X hw t_100 rfl 0 1000 tyX10 (by decide) rfl inn_X11_program_10 tyX10_ok nmX10 (by decide) (X.2.2.2.1 (.fieldLink RX11 145 "SilkMill$Tape" "size" "I") (by decide +kernel)) rfl (Or.inl rfl) rfl rfl (Nat.le_of_ble_eq_true rfl) (st_1000 _ _) dX11_program_36 (fun H locs hw => ?_)
      obtain ⟨S_101, eS_101⟩ : ∃ T, T = sI S_34 1000 q_1 (0) := ⟨_, rfl⟩
      rw [← eS_101] at hw
      have hO_102 : Ok MPt S S_101 := hO_36.sI eS_101 (by decide +kernel) (uI_10_1000 hO_36.1 t_100 (by rw [ti_0]; omega) (by rw [ti_0]; omega))
      have h_103 : pI S_101 1000 q_1 = 0 := tI_sIs eS_101
      refine lv_iload_n X.1 X.2.1 dX11_program_39 rfl (lv_at hl 0 rfl) ?_
      refine lv_if_ne (tgt := 54) X.1 X.2.1 dX11_program_40 (by decide) (fun c_104 => absurd c_104 (by decide)) (fun c_104 => ?_)
      refine lv_aload_n X.1 X.2.1 dX11_program_43 rfl (lv_at hl 2 rfl) ?_
      have t_105 : At S_101 x 11 := tAt_sI eS_101 t_98
      have t_106 : pR S_101 1105 x = some q_1 := tR_sI eS_101 t_99
      refine r_getR (g := 1105) X hw t_105 rfl 5 t_106 (by decide) rfl inn_X11_program_11 (by decide) (X.2.2.2.1 (.fieldLink RX11 28 "SilkMill" "tape" "LSilkMill$Tape;") (by decide +kernel)) rfl (gv_1105 _ _) dX11_program_44 ?_
      have t_107 : At S_101 q_1 10 := tAt_sI eS_101 t_100
      have t_108 : pI S_101 1001 q_1 = v_93 := tI_sI eS_101 rfl ev_93
      refine r_getI (g := 1001) (x := v_93) X hw t_107 rfl 1 t_108 (by decide) rfl inn_X11_program_10 (by decide) (X.2.2.2.1 (.fieldLink RX11 159 "SilkMill$Tape" "faultKind" "I") (by decide +kernel)) rfl (gv_1001 _ _) dX11_program_47 ?_
      refine lv_bipush (v := 10) X.1 X.2.1 dX11_program_50 (by decide) ?_
      have pz_109 : (pI S_101 1001 q_1).toInt = v_93.toInt := (congrArg Int32.toInt t_108).trans rfl
      have fr_110 : 0 ≤ v_93.toInt ∧ v_93.toInt ≤ 2 := by have h := prF_ok (B := tB S q_1) (n := (pI S 1000 q_1).toInt.toNat) 13 0 (tokF (tB S q_1) (pI S 1000 q_1).toInt.toNat 0); unfold okR at h; have h2 := f_37.2.1; omega
      refine lv_isub X.1 X.2.1 dX11_program_52 ?_
      refine lv_topi (fun v_111 ev_111 => ?_)
      have z_112 : v_111.toInt = v_93.toInt - 10 := z_sub ev_111 rfl ti_10 (by omega) (by omega)
      have pz_113 : (pI S_101 1000 q_1).toInt = 0 := (congrArg Int32.toInt h_103).trans ti_0
      exact ret_i X hw hr hlocks (Nat.le_of_ble_eq_true rfl) (Nat.le_of_ble_eq_true rfl) ⟨hO_102, ⟨z_lo _, z_hi _, fun q0 hq0 hPN => by rw [h_2] at hq0; cases hq0; omega, fun q0 hq0 hPN hin => by rw [h_2] at hq0; cases hq0; unfold prR; rw [cit_n f_37.1]; have h2 := f_37.2.1; omega, fun hPN h => by exfalso; omega, fun P rh u hPN h1 h2 h3 h4 h5 => by rw [f_24] at h3; cases h3; rw [h_26] at h4; cases h4; rw [h_2] at h5; cases h5; exact Or.inr ⟨f_37.1, _, hk_35.fr, f_37.2.2, eS_101⟩, fun hPN h => absurd ⟨by omega, by omega⟩ h⟩⟩ dX11_program_53
