
set_option maxHeartbeats 4000000 in
set_option maxRecDepth 100000 in
theorem k_X12_about6 (l : Launch) (G : va_G) (cy : Nat → ClassId) (κ : Nat → Nat) (S : PS) (sz : Nat) (x : Nat) (a1 : Int32) (a1_z : Int) (a2 : Int32) (a2_z : Int) (A : Pt) (Ev : En) (Rl : List Ru) (hG : GX S) (ha_x : At S x 12) (hz_a1 : a1.toInt = a1_z) (hz_a2 : a2.toInt = a2_z) (hp_0 : MI S x) (hp_1 : (0 ≤ a1_z → a1_z < (pI S 1211 x).toInt → PwA S x a1_z A Ev Rl)) : Ci l yX12_about wsX12_about ({ frames := 5, cells := 0, slots := 0, locals := 240 }) G cy κ S sz [.ref x, .int (a1), .int (a2)] (fun (r : Int32) (S9 : PS) => Ok MN S S9 ∧ (-2147483648 ≤ r.toInt ∧ r.toInt ≤ 2147483647 ∧ ((0 ≤ a1_z ∧ a1_z < (pI S 1211 x).toInt) → r.toInt = abF Ev A Rl a2_z) ∧ (¬ (0 ≤ a1_z ∧ a1_z < (pI S 1211 x).toInt) → r.toInt = -1))) := by
  refine ent_m (cc := cX12_about) (maxL := 3) (ret := (some .int)) (by decide) rfl (Nat.le_of_ble_eq_true rfl) ?_
  intro p e s m below meth c ls X hr hlocks hin hw hl hsz
  subst hsz
  have X : Cx p c cX12_about 3 s [.ref x, .int (a1), .int (a2)].toArray wsX12_about RX12 m G cy κ (AS S s.heap.size) := X
  have hl : lv_has ls 3 [(0, .ref x), (1, .int (a1)), (2, .int (a2))] := hl
  have rg_a1 : (-2147483648) ≤ a1_z ∧ a1_z ≤ 2147483647 := by rw [← hz_a1]; exact ⟨z_lo _, z_hi _⟩
  have rg_a2 : (-2147483648) ≤ a2_z ∧ a2_z ≤ 2147483647 := by rw [← hz_a2]; exact ⟨z_lo _, z_hi _⟩
  have hO : Ok MN S S := Ok.rf hG
  obtain ⟨v_1, ev_1⟩ : ∃ v, pI S 1211 x = v := ⟨_, rfl⟩
  have rg_2 := gI_12_1211 hO.1 ha_x; rw [ev_1] at rg_2
  have pz_3 : (pI S 1211 x).toInt = v_1.toInt := by rw [ev_1]
  have pz_4 : (pI S 1211 x).toInt = v_1.toInt := (congrArg Int32.toInt ev_1).trans rfl
  refine lv_aload_n X.1 X.2.1 dX12_about_0 rfl (lv_at hl 0 rfl) ?_
  refine lv_iconst (v := 0) X.1 X.2.1 dX12_about_1 (by decide) ?_
  refine r_putI (v := 0) X hw ha_x rfl 0 1200 tyX12 (by decide) rfl inn_X12_about_12 tyX12_ok nmX12 (by decide) (X.2.2.2.1 (.fieldLink RX12 161 "SilkMillModel" "thrown" "I") (by decide +kernel)) rfl (Or.inl rfl) rfl rfl (Nat.le_of_ble_eq_true rfl) (st_1200 _ _) dX12_about_2 (fun H locs hw => ?_)
  obtain ⟨S_5, eS_5⟩ : ∃ T, T = sI S 1200 x (0) := ⟨_, rfl⟩
  rw [← eS_5] at hw
  have hO_6 : Ok MN S S_5 := hO.sI eS_5 (by decide +kernel) (uI_12_1200 hO.1 ha_x)
  have h_7 : pI S_5 1200 x = 0 := tI_sIs eS_5
  refine lv_aload_n X.1 X.2.1 dX12_about_5 rfl (lv_at hl 0 rfl) ?_
  refine lv_iload_n X.1 X.2.1 dX12_about_6 rfl (lv_at hl 1 rfl) ?_
  have t_8 : pI S_5 1211 x = v_1 := tI_sI eS_5 rfl ev_1
  have pz_9 : (pI S_5 1211 x).toInt = v_1.toInt := (congrArg Int32.toInt t_8).trans rfl
  have t_10 : At S_5 x 12 := tAt_sI eS_5 ha_x
  refine k_i (rm := { frames := 2, cells := 0, slots := 0, locals := 96 }) (av := [.ref x, .int (a1)]) X hw (va_runV (As := [.int (a1)]) (rest := []) (cfix X) (k_X12_isPot l G cy κ S_5 _ x (a1) (a1_z) hO_6.1 t_10 hz_a1) (cwV 1 X.2.2.2.1 gX12_about_X12_isPot rfl rfl rfl (by decide +kernel) ⟨Nat.le_of_ble_eq_true rfl, Nat.le_of_ble_eq_true rfl⟩) (pre_V X hw _ t_10 rfl (by decide) rfl) rfl rfl hl.1 rfl (lv_room (Nat.le_of_ble_eq_true rfl)) dX12_about_7 ⟨Nat.le_of_ble_eq_true rfl, Nat.le_of_ble_eq_true rfl⟩) 0 0 (Nat.le_of_ble_eq_true rfl) (Nat.le_of_ble_eq_true rfl) (fun rr_11 S_12 H locs hp hw hfr hnw => ?_)
  obtain ⟨e2, hp⟩ := hp
  subst e2
  rcases hp with ⟨f_13, er_14⟩ | ⟨f_13, er_14⟩ <;> subst er_14
  · have z_b_15 := trivial
    refine lv_if_ne (tgt := 15) X.1 X.2.1 dX12_about_10 (by decide) (fun c_16 => ?_) (fun c_16 => absurd c_16 (by decide))
    have pa_17 := hp_1 (by omega) (by omega)
    have pw_18 := PotW_sI pa_17.1 eS_5 (by decide)
    obtain ⟨w0, w1, w2, w3, w4, w5, w6, w7, w8, w9⟩ := pw_18
    have aen := EnR_fr hG ha_x hO_6.fr (by decide +kernel) pa_17.2.1
    have aru := RuR_fr hG ha_x hO_6.fr (by decide +kernel) pa_17.2.2.1
    refine lv_iload_n X.1 X.2.1 dX12_about_15 rfl (lv_at hl 2 rfl) ?_
    by_cases w_19 : (a2).toInt < 0 ∨ 10 < (a2).toInt
    · refine lv_tableOut (tgt := 138) X.1 X.2.1 dX12_about_16 w_19 (by decide) ?_
      refine lv_iconst (v := (-1)) X.1 X.2.1 dX12_about_138 (by decide) ?_
      exact ret_i X hw hr hlocks (Nat.le_of_ble_eq_true rfl) (Nat.le_of_ble_eq_true rfl) ⟨hO_6, ⟨z_lo _, z_hi _, fun _ => (by rw [abF_d (by omega)]; decide), fun h => absurd ⟨by omega, by omega⟩ h⟩⟩ dX12_about_139
    have w_19b : (a2).toInt = 0 ∨ (a2).toInt = 1 ∨ (a2).toInt = 2 ∨ (a2).toInt = 3 ∨ (a2).toInt = 4 ∨ (a2).toInt = 5 ∨ (a2).toInt = 6 ∨ (a2).toInt = 7 ∨ (a2).toInt = 8 ∨ (a2).toInt = 9 ∨ (a2).toInt = 10 := by omega
    rcases w_19b with w_19c | w_19c | w_19c | w_19c | w_19c | w_19c | w_19c | w_19c | w_19c | w_19c | w_19c
    · refine lv_tableIn (tgt := 76) X.1 X.2.1 dX12_about_16 (by omega) (by omega) (by rw [w_19c]; rfl) (by decide) ?_
      refine lv_aload_n X.1 X.2.1 dX12_about_76 rfl (lv_at hl 0 rfl) ?_
      refine lv_iload_n X.1 X.2.1 dX12_about_77 rfl (lv_at hl 1 rfl) ?_
      refine lv_iload_n X.1 X.2.1 dX12_about_78 rfl (lv_at hl 2 rfl) ?_
      refine k_i (rm := { frames := 1, cells := 0, slots := 0, locals := 48 }) (av := [.ref x, .int (a1), .int (a2)]) X hw (va_runV (As := [.int (a1), .int (a2)]) (rest := []) (cfix X) (k_X12_many2 l G cy κ S_5 _ x (a1) (a1_z) (a2) (a2_z) hO_6.1 t_10 hz_a1 hz_a2 (by first | assumption | omega) (by first | assumption | omega) (by first | assumption | omega) (by first | assumption | omega)) (cwV 2 X.2.2.2.1 gX12_about_X12_many rfl rfl rfl (by decide +kernel) ⟨Nat.le_of_ble_eq_true rfl, Nat.le_of_ble_eq_true rfl⟩) (pre_V X hw _ t_10 rfl (by decide) rfl) rfl rfl hl.1 rfl (lv_room (Nat.le_of_ble_eq_true rfl)) dX12_about_79 ⟨Nat.le_of_ble_eq_true rfl, Nat.le_of_ble_eq_true rfl⟩) 0 0 (Nat.le_of_ble_eq_true rfl) (Nat.le_of_ble_eq_true rfl) (fun rr_20 S_21 H locs hp hw hfr hnw => ?_)
      obtain ⟨e2, hp⟩ := hp
      subst e2
      obtain ⟨mn_22, mn_23, mn_24⟩ := hp
      exact ret_i X hw hr hlocks (Nat.le_of_ble_eq_true rfl) (Nat.le_of_ble_eq_true rfl) ⟨hO_6, ⟨z_lo _, z_hi _, fun _ => (by first | (rw [abF_0 (show a2_z = 0 by omega)]; have h := mn_24; rw [show (3 * a1_z + a2_z).toNat = (3 * a1_z + 0).toNat by omega] at h; exact h.trans w0.1) | (rw [abF_1 (show a2_z = 1 by omega)]; have h := mn_24; rw [show (3 * a1_z + a2_z).toNat = (3 * a1_z + 1).toNat by omega] at h; exact h.trans w1.1) | (rw [abF_2 (show a2_z = 2 by omega)]; have h := mn_24; rw [show (3 * a1_z + a2_z).toNat = (3 * a1_z + 2).toNat by omega] at h; exact h.trans w2.1)), fun h => absurd ⟨by omega, by omega⟩ h⟩⟩ dX12_about_82
    · refine lv_tableIn (tgt := 76) X.1 X.2.1 dX12_about_16 (by omega) (by omega) (by rw [w_19c]; rfl) (by decide) ?_
      refine lv_aload_n X.1 X.2.1 dX12_about_76 rfl (lv_at hl 0 rfl) ?_
      refine lv_iload_n X.1 X.2.1 dX12_about_77 rfl (lv_at hl 1 rfl) ?_
      refine lv_iload_n X.1 X.2.1 dX12_about_78 rfl (lv_at hl 2 rfl) ?_
      refine k_i (rm := { frames := 1, cells := 0, slots := 0, locals := 48 }) (av := [.ref x, .int (a1), .int (a2)]) X hw (va_runV (As := [.int (a1), .int (a2)]) (rest := []) (cfix X) (k_X12_many2 l G cy κ S_5 _ x (a1) (a1_z) (a2) (a2_z) hO_6.1 t_10 hz_a1 hz_a2 (by first | assumption | omega) (by first | assumption | omega) (by first | assumption | omega) (by first | assumption | omega)) (cwV 2 X.2.2.2.1 gX12_about_X12_many rfl rfl rfl (by decide +kernel) ⟨Nat.le_of_ble_eq_true rfl, Nat.le_of_ble_eq_true rfl⟩) (pre_V X hw _ t_10 rfl (by decide) rfl) rfl rfl hl.1 rfl (lv_room (Nat.le_of_ble_eq_true rfl)) dX12_about_79 ⟨Nat.le_of_ble_eq_true rfl, Nat.le_of_ble_eq_true rfl⟩) 0 0 (Nat.le_of_ble_eq_true rfl) (Nat.le_of_ble_eq_true rfl) (fun rr_25 S_26 H locs hp hw hfr hnw => ?_)
      obtain ⟨e2, hp⟩ := hp
      subst e2
      obtain ⟨mn_27, mn_28, mn_29⟩ := hp
      exact ret_i X hw hr hlocks (Nat.le_of_ble_eq_true rfl) (Nat.le_of_ble_eq_true rfl) ⟨hO_6, ⟨z_lo _, z_hi _, fun _ => (by first | (rw [abF_0 (show a2_z = 0 by omega)]; have h := mn_29; rw [show (3 * a1_z + a2_z).toNat = (3 * a1_z + 0).toNat by omega] at h; exact h.trans w0.1) | (rw [abF_1 (show a2_z = 1 by omega)]; have h := mn_29; rw [show (3 * a1_z + a2_z).toNat = (3 * a1_z + 1).toNat by omega] at h; exact h.trans w1.1) | (rw [abF_2 (show a2_z = 2 by omega)]; have h := mn_29; rw [show (3 * a1_z + a2_z).toNat = (3 * a1_z + 2).toNat by omega] at h; exact h.trans w2.1)), fun h => absurd ⟨by omega, by omega⟩ h⟩⟩ dX12_about_82
    · refine lv_tableIn (tgt := 76) X.1 X.2.1 dX12_about_16 (by omega) (by omega) (by rw [w_19c]; rfl) (by decide) ?_
      refine lv_aload_n X.1 X.2.1 dX12_about_76 rfl (lv_at hl 0 rfl) ?_
      refine lv_iload_n X.1 X.2.1 dX12_about_77 rfl (lv_at hl 1 rfl) ?_
      refine lv_iload_n X.1 X.2.1 dX12_about_78 rfl (lv_at hl 2 rfl) ?_
      refine k_i (rm := { frames := 1, cells := 0, slots := 0, locals := 48 }) (av := [.ref x, .int (a1), .int (a2)]) X hw (va_runV (As := [.int (a1), .int (a2)]) (rest := []) (cfix X) (k_X12_many2 l G cy κ S_5 _ x (a1) (a1_z) (a2) (a2_z) hO_6.1 t_10 hz_a1 hz_a2 (by first | assumption | omega) (by first | assumption | omega) (by first | assumption | omega) (by first | assumption | omega)) (cwV 2 X.2.2.2.1 gX12_about_X12_many rfl rfl rfl (by decide +kernel) ⟨Nat.le_of_ble_eq_true rfl, Nat.le_of_ble_eq_true rfl⟩) (pre_V X hw _ t_10 rfl (by decide) rfl) rfl rfl hl.1 rfl (lv_room (Nat.le_of_ble_eq_true rfl)) dX12_about_79 ⟨Nat.le_of_ble_eq_true rfl, Nat.le_of_ble_eq_true rfl⟩) 0 0 (Nat.le_of_ble_eq_true rfl) (Nat.le_of_ble_eq_true rfl) (fun rr_30 S_31 H locs hp hw hfr hnw => ?_)
      obtain ⟨e2, hp⟩ := hp
      subst e2
      obtain ⟨mn_32, mn_33, mn_34⟩ := hp
      exact ret_i X hw hr hlocks (Nat.le_of_ble_eq_true rfl) (Nat.le_of_ble_eq_true rfl) ⟨hO_6, ⟨z_lo _, z_hi _, fun _ => (by first | (rw [abF_0 (show a2_z = 0 by omega)]; have h := mn_34; rw [show (3 * a1_z + a2_z).toNat = (3 * a1_z + 0).toNat by omega] at h; exact h.trans w0.1) | (rw [abF_1 (show a2_z = 1 by omega)]; have h := mn_34; rw [show (3 * a1_z + a2_z).toNat = (3 * a1_z + 1).toNat by omega] at h; exact h.trans w1.1) | (rw [abF_2 (show a2_z = 2 by omega)]; have h := mn_34; rw [show (3 * a1_z + a2_z).toNat = (3 * a1_z + 2).toNat by omega] at h; exact h.trans w2.1)), fun h => absurd ⟨by omega, by omega⟩ h⟩⟩ dX12_about_82
    · refine lv_tableIn (tgt := 83) X.1 X.2.1 dX12_about_16 (by omega) (by omega) (by rw [w_19c]; rfl) (by decide) ?_
      refine lv_aload_n X.1 X.2.1 dX12_about_83 rfl (lv_at hl 0 rfl) ?_
      obtain ⟨q_35, h_36, h_37, h_38⟩ := gQ_12_1237 hO_6.1 t_10
      refine r_getR (g := 1237) X hw t_10 rfl 37 h_36 (by decide) rfl inn_X12_about_12 (by decide) (X.2.2.2.1 (.fieldLink RX12 97 "SilkMillModel" "grown" "[I") (by decide +kernel)) rfl (gv_1237 _ _) dX12_about_84 ?_
      refine lv_iload_n X.1 X.2.1 dX12_about_87 rfl (lv_at hl 1 rfl) ?_
      refine r_iald X hw h_37 rfl (by rw [h_38]; exact z_ix hz_a1 (by omega) (by omega)) dX12_about_88 ?_
      refine lv_topi (fun v_39 ev_39 => ?_)
      have z_40 := gE_954 hO_6.1 h_37 (Int32.toNatClampNeg (a1)); rw [← ev_39] at z_40
      have ev_39 := ev_39.symm
      have zf_41 : zA S_5 x 1237 (a1_z).toNat = v_39.toInt := (zA_of h_36 hz_a1 (by omega) ev_39)
      exact ret_i X hw hr hlocks (Nat.le_of_ble_eq_true rfl) (Nat.le_of_ble_eq_true rfl) ⟨hO_6, ⟨z_lo _, z_hi _, fun _ => (by rw [abF_3 (by omega)]; have e1 : (v_39 : Int32).toInt = v_39.toInt := rfl; omega), fun h => absurd ⟨by omega, by omega⟩ h⟩⟩ dX12_about_89
    · refine lv_tableIn (tgt := 90) X.1 X.2.1 dX12_about_16 (by omega) (by omega) (by rw [w_19c]; rfl) (by decide) ?_
      refine lv_aload_n X.1 X.2.1 dX12_about_90 rfl (lv_at hl 0 rfl) ?_
      obtain ⟨q_42, h_43, h_44, h_45⟩ := gQ_12_1215 hO_6.1 t_10
      refine r_getR (g := 1215) X hw t_10 rfl 15 h_43 (by decide) rfl inn_X12_about_12 (by decide) (X.2.2.2.1 (.fieldLink RX12 46 "SilkMillModel" "stop" "[I") (by decide +kernel)) rfl (gv_1215 _ _) dX12_about_91 ?_
      refine lv_iload_n X.1 X.2.1 dX12_about_94 rfl (lv_at hl 1 rfl) ?_
      refine r_iald X hw h_44 rfl (by rw [h_45]; exact z_ix hz_a1 (by omega) (by omega)) dX12_about_95 ?_
      refine lv_topi (fun v_46 ev_46 => ?_)
      have rg_47 := And.intro (z_lo v_46) (z_hi v_46)
      have ev_46 := ev_46.symm
      have zf_48 : zA S_5 x 1215 (a1_z).toNat = v_46.toInt := (zA_of h_43 hz_a1 (by omega) ev_46)
      exact ret_i X hw hr hlocks (Nat.le_of_ble_eq_true rfl) (Nat.le_of_ble_eq_true rfl) ⟨hO_6, ⟨z_lo _, z_hi _, fun _ => (by rw [abF_4 (by omega)]; have e1 : (v_46 : Int32).toInt = v_46.toInt := rfl; omega), fun h => absurd ⟨by omega, by omega⟩ h⟩⟩ dX12_about_96
    · refine lv_tableIn (tgt := 97) X.1 X.2.1 dX12_about_16 (by omega) (by omega) (by rw [w_19c]; rfl) (by decide) ?_
      refine lv_aload_n X.1 X.2.1 dX12_about_97 rfl (lv_at hl 0 rfl) ?_
      obtain ⟨q_49, h_50, h_51, h_52⟩ := gQ_12_1214 hO_6.1 t_10
      refine r_getR (g := 1214) X hw t_10 rfl 14 h_50 (by decide) rfl inn_X12_about_12 (by decide) (X.2.2.2.1 (.fieldLink RX12 43 "SilkMillModel" "search" "[I") (by decide +kernel)) rfl (gv_1214 _ _) dX12_about_98 ?_
      refine lv_iload_n X.1 X.2.1 dX12_about_101 rfl (lv_at hl 1 rfl) ?_
      refine r_iald X hw h_51 rfl (by rw [h_52]; exact z_ix hz_a1 (by omega) (by omega)) dX12_about_102 ?_
      refine lv_topi (fun v_53 ev_53 => ?_)
      have rg_54 := And.intro (z_lo v_53) (z_hi v_53)
      have ev_53 := ev_53.symm
      have zf_55 : zA S_5 x 1214 (a1_z).toNat = v_53.toInt := (zA_of h_50 hz_a1 (by omega) ev_53)
      exact ret_i X hw hr hlocks (Nat.le_of_ble_eq_true rfl) (Nat.le_of_ble_eq_true rfl) ⟨hO_6, ⟨z_lo _, z_hi _, fun _ => (by rw [abF_5 (by omega)]; have e1 : (v_53 : Int32).toInt = v_53.toInt := rfl; omega), fun h => absurd ⟨by omega, by omega⟩ h⟩⟩ dX12_about_103
    · refine lv_tableIn (tgt := 104) X.1 X.2.1 dX12_about_16 (by omega) (by omega) (by rw [w_19c]; rfl) (by decide) ?_
      refine lv_aload_n X.1 X.2.1 dX12_about_104 rfl (lv_at hl 0 rfl) ?_
      refine lv_iload_n X.1 X.2.1 dX12_about_105 rfl (lv_at hl 1 rfl) ?_
      refine k_i (rm := { frames := 4, cells := 0, slots := 0, locals := 192 }) (av := [.ref x, .int (a1)]) X hw (va_runV (As := [.int (a1)]) (rest := []) (cfix X) (k_X12_nowFine5 l G cy κ S_5 _ x (a1) (a1_z) A Ev hO_6.1 t_10 hz_a1 (by omega) (by omega) (MIe_free hG ha_x hO_6.fr (by decide +kernel) hp_0) w1 aen w9) (cwV 1 X.2.2.2.1 gX12_about_X12_nowFine rfl rfl rfl (by decide +kernel) ⟨Nat.le_of_ble_eq_true rfl, Nat.le_of_ble_eq_true rfl⟩) (pre_V X hw _ t_10 rfl (by decide) rfl) rfl rfl hl.1 rfl (lv_room (Nat.le_of_ble_eq_true rfl)) dX12_about_106 ⟨Nat.le_of_ble_eq_true rfl, Nat.le_of_ble_eq_true rfl⟩) 0 0 (Nat.le_of_ble_eq_true rfl) (Nat.le_of_ble_eq_true rfl) (fun rr_56 S_57 H locs hp hw hfr hnw => ?_)
      obtain ⟨e2, hp⟩ := hp
      subst e2
      obtain ⟨su_58, su_59, su_60⟩ := hp
      exact ret_i X hw hr hlocks (Nat.le_of_ble_eq_true rfl) (Nat.le_of_ble_eq_true rfl) ⟨hO_6, ⟨z_lo _, z_hi _, fun _ => (by rw [abF_6 (by omega), su_60]), fun h => absurd ⟨by omega, by omega⟩ h⟩⟩ dX12_about_109
    · refine lv_tableIn (tgt := 110) X.1 X.2.1 dX12_about_16 (by omega) (by omega) (by rw [w_19c]; rfl) (by decide) ?_
      refine lv_aload_n X.1 X.2.1 dX12_about_110 rfl (lv_at hl 0 rfl) ?_
      obtain ⟨q_61, h_62, h_63, h_64⟩ := gQ_12_1216 hO_6.1 t_10
      refine r_getR (g := 1216) X hw t_10 rfl 16 h_62 (by decide) rfl inn_X12_about_12 (by decide) (X.2.2.2.1 (.fieldLink RX12 49 "SilkMillModel" "drawnEver" "[I") (by decide +kernel)) rfl (gv_1216 _ _) dX12_about_111 ?_
      refine lv_iload_n X.1 X.2.1 dX12_about_114 rfl (lv_at hl 1 rfl) ?_
      refine r_iald X hw h_63 rfl (by rw [h_64]; exact z_ix hz_a1 (by omega) (by omega)) dX12_about_115 ?_
      refine lv_topi (fun v_65 ev_65 => ?_)
      have rg_66 := And.intro (z_lo v_65) (z_hi v_65)
      have ev_65 := ev_65.symm
      have zf_67 : zA S_5 x 1216 (a1_z).toNat = v_65.toInt := (zA_of h_62 hz_a1 (by omega) ev_65)
      exact ret_i X hw hr hlocks (Nat.le_of_ble_eq_true rfl) (Nat.le_of_ble_eq_true rfl) ⟨hO_6, ⟨z_lo _, z_hi _, fun _ => (by rw [abF_7 (by omega)]; have e1 : (v_65 : Int32).toInt = v_65.toInt := rfl; omega), fun h => absurd ⟨by omega, by omega⟩ h⟩⟩ dX12_about_116
    · refine lv_tableIn (tgt := 117) X.1 X.2.1 dX12_about_16 (by omega) (by omega) (by rw [w_19c]; rfl) (by decide) ?_
      refine lv_aload_n X.1 X.2.1 dX12_about_117 rfl (lv_at hl 0 rfl) ?_
      obtain ⟨q_68, h_69, h_70, h_71⟩ := gQ_12_1217 hO_6.1 t_10
      refine r_getR (g := 1217) X hw t_10 rfl 17 h_69 (by decide) rfl inn_X12_about_12 (by decide) (X.2.2.2.1 (.fieldLink RX12 52 "SilkMillModel" "ticksEver" "[I") (by decide +kernel)) rfl (gv_1217 _ _) dX12_about_118 ?_
      refine lv_iload_n X.1 X.2.1 dX12_about_121 rfl (lv_at hl 1 rfl) ?_
      refine r_iald X hw h_70 rfl (by rw [h_71]; exact z_ix hz_a1 (by omega) (by omega)) dX12_about_122 ?_
      refine lv_topi (fun v_72 ev_72 => ?_)
      have rg_73 := And.intro (z_lo v_72) (z_hi v_72)
      have ev_72 := ev_72.symm
      have zf_74 : zA S_5 x 1217 (a1_z).toNat = v_72.toInt := (zA_of h_69 hz_a1 (by omega) ev_72)
      exact ret_i X hw hr hlocks (Nat.le_of_ble_eq_true rfl) (Nat.le_of_ble_eq_true rfl) ⟨hO_6, ⟨z_lo _, z_hi _, fun _ => (by rw [abF_8 (by omega)]; have e1 : (v_72 : Int32).toInt = v_72.toInt := rfl; omega), fun h => absurd ⟨by omega, by omega⟩ h⟩⟩ dX12_about_123
    · refine lv_tableIn (tgt := 124) X.1 X.2.1 dX12_about_16 (by omega) (by omega) (by rw [w_19c]; rfl) (by decide) ?_
      refine lv_aload_n X.1 X.2.1 dX12_about_124 rfl (lv_at hl 0 rfl) ?_
      obtain ⟨q_75, h_76, h_77, h_78⟩ := gQ_12_1220 hO_6.1 t_10
      refine r_getR (g := 1220) X hw t_10 rfl 20 h_76 (by decide) rfl inn_X12_about_12 (by decide) (X.2.2.2.1 (.fieldLink RX12 61 "SilkMillModel" "rules" "[I") (by decide +kernel)) rfl (gv_1220 _ _) dX12_about_125 ?_
      refine lv_iload_n X.1 X.2.1 dX12_about_128 rfl (lv_at hl 1 rfl) ?_
      refine r_iald X hw h_77 rfl (by rw [h_78]; exact z_ix hz_a1 (by omega) (by omega)) dX12_about_129 ?_
      refine lv_topi (fun v_79 ev_79 => ?_)
      have z_80 := gE_614 hO_6.1 h_77 (Int32.toNatClampNeg (a1)); rw [← ev_79] at z_80
      have ev_79 := ev_79.symm
      have zf_81 : zA S_5 x 1220 (a1_z).toNat = v_79.toInt := (zA_of h_76 hz_a1 (by omega) ev_79)
      exact ret_i X hw hr hlocks (Nat.le_of_ble_eq_true rfl) (Nat.le_of_ble_eq_true rfl) ⟨hO_6, ⟨z_lo _, z_hi _, fun _ => (by rw [abF_9 (by omega)]; have h := aru.1; have e1 : (v_79 : Int32).toInt = v_79.toInt := rfl; omega), fun h => absurd ⟨by omega, by omega⟩ h⟩⟩ dX12_about_130
    · refine lv_tableIn (tgt := 131) X.1 X.2.1 dX12_about_16 (by omega) (by omega) (by rw [w_19c]; rfl) (by decide) ?_
      refine lv_aload_n X.1 X.2.1 dX12_about_131 rfl (lv_at hl 0 rfl) ?_
      obtain ⟨q_82, h_83, h_84, h_85⟩ := gQ_12_1212 hO_6.1 t_10
      refine r_getR (g := 1212) X hw t_10 rfl 12 h_83 (by decide) rfl inn_X12_about_12 (by decide) (X.2.2.2.1 (.fieldLink RX12 37 "SilkMillModel" "aim" "[I") (by decide +kernel)) rfl (gv_1212 _ _) dX12_about_132 ?_
      refine lv_iload_n X.1 X.2.1 dX12_about_135 rfl (lv_at hl 1 rfl) ?_
      refine r_iald X hw h_84 rfl (by rw [h_85]; exact z_ix hz_a1 (by omega) (by omega)) dX12_about_136 ?_
      refine lv_topi (fun v_86 ev_86 => ?_)
      have rg_87 := And.intro (z_lo v_86) (z_hi v_86)
      have ev_86 := ev_86.symm
      have zf_88 : zA S_5 x 1212 (a1_z).toNat = v_86.toInt := (zA_of h_83 hz_a1 (by omega) ev_86)
      exact ret_i X hw hr hlocks (Nat.le_of_ble_eq_true rfl) (Nat.le_of_ble_eq_true rfl) ⟨hO_6, ⟨z_lo _, z_hi _, fun _ => (by rw [abF_10 (by omega), aen.2.2.2.1, ← zA_eq]; have e1 : (v_86 : Int32).toInt = v_86.toInt := rfl; omega), fun h => absurd ⟨by omega, by omega⟩ h⟩⟩ dX12_about_137
  · have z_b_89 := trivial
    refine lv_if_ne (tgt := 15) X.1 X.2.1 dX12_about_10 (by decide) (fun c_90 => absurd c_90 (by decide)) (fun c_90 => ?_)
    refine lv_iconst (v := (-1)) X.1 X.2.1 dX12_about_13 (by decide) ?_
    exact ret_i X hw hr hlocks (Nat.le_of_ble_eq_true rfl) (Nat.le_of_ble_eq_true rfl) ⟨hO_6, ⟨z_lo _, z_hi _, fun h => (by exfalso; omega), fun _ => by decide⟩⟩ dX12_about_14
