
set_option maxHeartbeats 4000000 in
set_option maxRecDepth 100000 in
theorem k_X11_grade7 (l : Launch) (G : va_G) (cy : Nat → ClassId) (κ : Nat → Nat) (S : PS) (sz : Nat) (x : Nat) (a1 : Int32) (a1_z : Int) (a2 : Int32) (a2_z : Int) (a3 : Int32) (a3_z : Int) (D : Nat → Prop) (K : Nat) (Ls : List Sk) (Dw : Nat) (hG : GX S) (ha_x : At S x 11) (hz_a1 : a1.toInt = a1_z) (hz_a2 : a2.toInt = a2_z) (hz_a3 : a3.toInt = a3_z) (hp_0 : pR S 1107 x = some K) (hp_1 : SkV S D K Ls) (hp_2 : pR S 1108 x = some Dw) : Ci l yX11_grade wsX11_grade ({ frames := 4, cells := 0, slots := 0, locals := 192 }) G cy κ S sz [.ref x, .int (a1), .int (a2), .int (a3)] (fun (r : Int32) (S9 : PS) => Ok eGR S S9 ∧ (-2147483648 ≤ r.toInt ∧ r.toInt ≤ 2147483647 ∧ (∀ s, 0 ≤ a1_z → Ls[a1_z.toNat]? = some s → 1 ≤ a3_z → a3_z ≤ 5 → a3_z ≤ (s.2.2.2.length : Int) → GrC S S9 K Dw a1_z s a2 a3_z r) ∧ (¬ GrI Ls a1_z a3_z → r.toInt = -1 ∧ S9 = S))) := by
  refine ent_m (cc := cX11_grade) (maxL := 5) (ret := (some .int)) (by decide) rfl (Nat.le_of_ble_eq_true rfl) ?_
  intro p e s m below meth c ls X hr hlocks hin hw hl hsz
  subst hsz
  have X : Cx p c cX11_grade 5 s [.ref x, .int (a1), .int (a2), .int (a3)].toArray wsX11_grade RX11 m G cy κ (AS S s.heap.size) := X
  have hl : lv_has ls 5 [(0, .ref x), (1, .int (a1)), (2, .int (a2)), (3, .int (a3))] := hl
  have rg_a1 : (-2147483648) ≤ a1_z ∧ a1_z ≤ 2147483647 := by rw [← hz_a1]; exact ⟨z_lo _, z_hi _⟩
  have rg_a2 : (-2147483648) ≤ a2_z ∧ a2_z ≤ 2147483647 := by rw [← hz_a2]; exact ⟨z_lo _, z_hi _⟩
  have rg_a3 : (-2147483648) ≤ a3_z ∧ a3_z ≤ 2147483647 := by rw [← hz_a3]; exact ⟨z_lo _, z_hi _⟩
  have hO : Ok eGR S S := Ok.rf hG
  have haK := st_at hG ha_x hp_0
  obtain ⟨v_1, ev_1⟩ : ∃ v, pI S 800 K = v := ⟨_, rfl⟩
  have rg_2 := gI_8_800 hO.1 haK; rw [ev_1] at rg_2
  have pz_3 : (pI S 800 K).toInt = v_1.toInt := by rw [ev_1]
  have pz_4 : (pI S 800 K).toInt = v_1.toInt := (congrArg Int32.toInt ev_1).trans rfl
  have hkl := hp_1.1
  have haDw := dw_at hG ha_x hp_2
  refine lv_aload_n X.1 X.2.1 dX11_grade_0 rfl (lv_at hl 0 rfl) ?_
  refine r_getR (g := 1107) X hw ha_x rfl 7 hp_0 (by decide) rfl inn_X11_grade_11 (by decide) (X.2.2.2.1 (.fieldLink RX11 42 "SilkMill" "store" "LSilkMill$Store;") (by decide +kernel)) rfl (gv_1107 _ _) dX11_grade_1 ?_
  refine lv_iload_n X.1 X.2.1 dX11_grade_4 rfl (lv_at hl 1 rfl) ?_
  refine k_q (rm := { frames := 1, cells := 0, slots := 0, locals := 48 }) (av := [.ref K, .int (a1)]) X hw (va_runV (As := [.int (a1)]) (rest := []) (cfix X) (k_X8_skeinAt7 l G cy κ S _ K (a1) (a1_z) hO.1 haK hz_a1) (cwV 1 X.2.2.2.1 gX11_grade_X8_skeinAt rfl rfl rfl (by decide +kernel) ⟨Nat.le_of_ble_eq_true rfl, Nat.le_of_ble_eq_true rfl⟩) (pre_V X hw _ haK rfl (by decide) rfl) rfl rfl hl.1 rfl (lv_room (Nat.le_of_ble_eq_true rfl)) dX11_grade_5 ⟨Nat.le_of_ble_eq_true rfl, Nat.le_of_ble_eq_true rfl⟩) 0 0 (Nat.le_of_ble_eq_true rfl) (Nat.le_of_ble_eq_true rfl) (fun rr_5 S_6 H locs hp hw hfr hnw => ?_)
  obtain ⟨e2, hp⟩ := hp
  subst e2
  obtain ⟨hq_7, hnf_8⟩ := hp
  rcases rr_5 with _ | q_9
  · refine W.eq (g2 := F0 m 8 ls (.null :: [])) rfl ?_
    have nf_10 := hnf_8 rfl
    refine lv_astoreN (lv' := [(4, .null), (0, .ref x), (1, .int (a1)), (2, .int (a2)), (3, .int (a3))]) X.1 X.2.1 dX11_grade_8 hl (by decide) rfl (fun ls hl => ?_)
    refine lv_aloadN X.1 X.2.1 dX11_grade_10 (lv_at hl 0 rfl) ?_
    refine lv_ifnullN (tgt := 36) X.1 X.2.1 dX11_grade_12 (by decide) ?_
    refine lv_iconst (v := (-1)) X.1 X.2.1 dX11_grade_36 (by decide) ?_
    exact ret_i X hw hr hlocks (Nat.le_of_ble_eq_true rfl) (Nat.le_of_ble_eq_true rfl) ⟨hO, ⟨z_lo _, z_hi _, fun s h0 h1 _ _ _ => (by exfalso; have := (List.getElem?_eq_some_iff.mp h1).1; exact nf_10 (SN_of hp_1) ⟨h0, by omega⟩), fun _ => ⟨by decide, rfl⟩⟩⟩ dX11_grade_37
  · refine W.eq (g2 := F0 m 8 ls (.ref q_9 :: [])) rfl ?_
    obtain ⟨ha_11, f_12, f_13, f_14⟩ := hq_7 _ rfl
    obtain ⟨s_15, hs_16⟩ : ∃ s, Ls[a1_z.toNat]? = some s := ⟨_, List.getElem?_eq_getElem (by omega)⟩
    obtain ⟨q_17, j_18, g_19, fo_20, j_21, j_22, j_23, ⟨k_24, k_25, k_26, fo_27, eo_28, k_29, k_30, k_31⟩, j_32⟩ := hp_1.2 _ _ hs_16
    have eq_33 : q_17 = q_9 := Option.some.inj (j_18.symm.trans f_14)
    rw [eq_33] at j_21 j_23
    have ha_34 := sk_str hG ha_11 j_21
    obtain ⟨v_35, ev_35⟩ : ∃ v, pI S 902 g_19 = v := ⟨_, rfl⟩
    have rg_36 := gI_9_902 hO.1 ha_34; rw [ev_35] at rg_36
    have pz_37 : (pI S 902 g_19).toInt = v_35.toInt := by rw [ev_35]
    have pz_38 : (pI S 902 g_19).toInt = v_35.toInt := (congrArg Int32.toInt ev_35).trans rfl
    refine lv_astore (lv' := [(4, .ref q_9), (0, .ref x), (1, .int (a1)), (2, .int (a2)), (3, .int (a3))]) X.1 X.2.1 dX11_grade_8 hl (by decide) rfl (fun ls hl => ?_)
    refine lv_aload X.1 X.2.1 dX11_grade_10 (lv_at hl 0 rfl) ?_
    refine lv_ifnull X.1 X.2.1 dX11_grade_12 ?_
    refine lv_iload_n X.1 X.2.1 dX11_grade_15 rfl (lv_at hl 4 rfl) ?_
    refine lv_iconst (v := 1) X.1 X.2.1 dX11_grade_16 (by decide) ?_
    refine lv_iconst (v := 5) X.1 X.2.1 dX11_grade_17 (by decide) ?_
    refine k_i (rm := { frames := 1, cells := 0, slots := 0, locals := 48 }) (av := [.int (a3), .int 1, .int 5]) X hw (va_runS (As := [.int (a3), .int 1, .int 5]) (rest := []) (cfix X) (k_X11_isWithin l G cy κ S _ (a3) (a3_z) (1) (1) (5) (5) hO.1 hz_a3 ti_1 ti_5) (cwS 3 X.2.2.2.1 gX11_grade_X11_isWithin rfl rfl rfl (by decide +kernel) ⟨Nat.le_of_ble_eq_true rfl, Nat.le_of_ble_eq_true rfl⟩) (pre_S X hw _) rfl rfl hl.1 rfl (lv_room (Nat.le_of_ble_eq_true rfl)) dX11_grade_18 ⟨Nat.le_of_ble_eq_true rfl, Nat.le_of_ble_eq_true rfl⟩) 0 0 (Nat.le_of_ble_eq_true rfl) (Nat.le_of_ble_eq_true rfl) (fun rr_39 S_40 H locs hp hw hfr hnw => ?_)
    obtain ⟨e2, hp⟩ := hp
    subst e2
    rcases hp with ⟨f_41, er_42⟩ | ⟨f_41, er_42⟩ <;> subst er_42
    · have z_b_43 := trivial
      refine lv_if_eq (tgt := 36) X.1 X.2.1 dX11_grade_21 (by decide) (fun c_44 => absurd c_44 (by decide)) (fun c_44 => ?_)
      refine lv_iload_n X.1 X.2.1 dX11_grade_24 rfl (lv_at hl 4 rfl) ?_
      refine lv_aload X.1 X.2.1 dX11_grade_25 (lv_at hl 0 rfl) ?_
      refine r_getR (g := 703) X hw ha_11 rfl 3 j_21 (by decide) rfl inn_X11_grade_7 (by decide) (X.2.2.2.1 (.fieldLink RX11 241 "SilkMill$Skein" "strand" "LSilkMill$Strand;") (by decide +kernel)) rfl (gv_703 _ _) dX11_grade_27 ?_
      refine r_getI (g := 902) (x := v_35) X hw ha_34 rfl 2 ev_35 (by decide) rfl inn_X11_grade_9 (by decide) (X.2.2.2.1 (.fieldLink RX11 190 "SilkMill$Strand" "metres" "I") (by decide +kernel)) rfl (gv_902 _ _) dX11_grade_30 ?_
      refine lv_icmp_le (tgt := 38) X.1 X.2.1 dX11_grade_33 (by decide) (fun c_45 => ?_) (fun c_45 => ?_)
      · have z_b_46 := trivial
        have k_47 : a3_z ≤ v_35.toInt := z_le hz_a3 rfl c_45
        refine lv_aload_n X.1 X.2.1 dX11_grade_38 rfl (lv_at hl 1 rfl) ?_
        refine r_getR (g := 1108) X hw ha_x rfl 8 hp_2 (by decide) rfl inn_X11_grade_11 (by decide) (X.2.2.2.1 (.fieldLink RX11 49 "SilkMill" "latestDraw" "LSilkMill$Draw;") (by decide +kernel)) rfl (gv_1108 _ _) dX11_grade_39 ?_
        refine lv_aload X.1 X.2.1 dX11_grade_42 (lv_at hl 0 rfl) ?_
        refine lv_iload_n X.1 X.2.1 dX11_grade_44 rfl (lv_at hl 3 rfl) ?_
        refine lv_iload_n X.1 X.2.1 dX11_grade_45 rfl (lv_at hl 4 rfl) ?_
        refine k_v (rm := { frames := 3, cells := 0, slots := 0, locals := 144 }) (av := [.ref Dw, .ref q_9, .int (a2), .int (a3)]) X hw (va_runV (As := [.ref q_9, .int (a2), .int (a3)]) (rest := []) (cfix X) (k_X1_drawFrom7 l G cy κ S _ Dw q_9 (a2) (a2_z) (a3) (a3_z) g_19 (s_15.2.2.2.length : Int) hO.1 haDw ha_11 hz_a2 hz_a3 j_21 k_24 (by have := k_24; omega) (by have := k_24; omega) (by have := k_24; omega)) (cwV 3 X.2.2.2.1 gX11_grade_X1_drawFrom rfl rfl rfl (by decide +kernel) ⟨Nat.le_of_ble_eq_true rfl, Nat.le_of_ble_eq_true rfl⟩) (pre_V X hw _ haDw rfl (by decide) rfl) rfl rfl hl.1 rfl (lv_room (Nat.le_of_ble_eq_true rfl)) dX11_grade_46 ⟨Nat.le_of_ble_eq_true rfl, Nat.le_of_ble_eq_true rfl⟩) 0 0 (Nat.le_of_ble_eq_true rfl) (Nat.le_of_ble_eq_true rfl) (fun S_49 H locs hp hw hfr hnw => ?_)
        obtain ⟨hk_50, hp⟩ := hp
        have hO_51 : Ok eGR S S_49 := hO.call hk_50 (by decide +kernel)
        obtain ⟨dw_52, dw_53, dw_54, dw_55⟩ := hp
        refine lv_aload X.1 X.2.1 dX11_grade_49 (lv_at hl 0 rfl) ?_
        refine lv_aload_n X.1 X.2.1 dX11_grade_51 rfl (lv_at hl 1 rfl) ?_
        have t_56 : At S_49 x 11 := hk_50.fr.at ha_x
        have t_57 : pR S_49 1108 x = some Dw := hk_50.fr.R' (by decide +kernel) ha_x hp_2
        refine r_getR (g := 1108) X hw t_56 rfl 8 t_57 (by decide) rfl inn_X11_grade_11 (by decide) (X.2.2.2.1 (.fieldLink RX11 49 "SilkMill" "latestDraw" "LSilkMill$Draw;") (by decide +kernel)) rfl (gv_1108 _ _) dX11_grade_52 ?_
        have t_58 : At S_49 Dw 1 := hk_50.fr.at haDw
        refine k_i (rm := { frames := 1, cells := 0, slots := 0, locals := 48 }) (av := [.ref Dw]) X hw (va_runV (As := []) (rest := [.ref q_9]) (cfix X) (k_X1_gradeOfOff7 l G cy κ S_49 _ Dw hO_51.1 t_58) (cwV 0 X.2.2.2.1 gX11_grade_X1_gradeOfOff rfl rfl rfl (by decide +kernel) ⟨Nat.le_of_ble_eq_true rfl, Nat.le_of_ble_eq_true rfl⟩) (pre_V X hw _ t_58 rfl (by decide) rfl) rfl rfl hl.1 rfl (lv_room (Nat.le_of_ble_eq_true rfl)) dX11_grade_55 ⟨Nat.le_of_ble_eq_true rfl, Nat.le_of_ble_eq_true rfl⟩) 0 0 (Nat.le_of_ble_eq_true rfl) (Nat.le_of_ble_eq_true rfl) (fun rr_59 S_60 H locs hp hw hfr hnw => ?_)
        obtain ⟨e2, hp⟩ := hp
        subst e2
        obtain ⟨go_61, go_62, go_63⟩ := hp
        have t_64 : At S_49 q_9 7 := hk_50.fr.at ha_11
        refine r_putI (v := rr_59) X hw t_64 rfl 7 707 tyX7 (by decide) rfl inn_X11_grade_7 tyX7_ok nmX7 (by decide) (X.2.2.2.1 (.fieldLink RX11 257 "SilkMill$Skein" "latestGrade" "I") (by decide +kernel)) rfl (Or.inl rfl) rfl rfl (Nat.le_of_ble_eq_true rfl) (st_707 _ _) dX11_grade_58 (fun H locs hw => ?_)
        obtain ⟨S_65, eS_65⟩ : ∃ T, T = sI S_49 707 q_9 (rr_59) := ⟨_, rfl⟩
        rw [← eS_65] at hw
        have hO_66 : Ok eGR S S_65 := hO_51.sI eS_65 (by decide +kernel) (uI_7_707 hO_51.1 t_64)
        have h_67 : pI S_65 707 q_9 = rr_59 := tI_sIs eS_65
        refine lv_aload X.1 X.2.1 dX11_grade_61 (lv_at hl 0 rfl) ?_
        have t_68 : At S_65 q_9 7 := tAt_sI eS_65 t_64
        refine r_getI (g := 707) (x := rr_59) X hw t_68 rfl 7 h_67 (by decide) rfl inn_X11_grade_7 (by decide) (X.2.2.2.1 (.fieldLink RX11 257 "SilkMill$Skein" "latestGrade" "I") (by decide +kernel)) rfl (gv_707 _ _) dX11_grade_63 ?_
        have gd_69 : ofF (fun m => mA S g_19 900 m.toNat) (pI S 701 q_9) (drF (s_15.2.2.2.length : Int) a2 a3_z.toNat).1 = gdO (mtS S) s_15 a2 a3_z := gd_c (by have := k_24; omega) (by have := k_24; omega) k_29 j_23.2.2 (fun k t hk => (k_31 k t hk).1)
        exact ret_i X hw hr hlocks (Nat.le_of_ble_eq_true rfl) (Nat.le_of_ble_eq_true rfl) ⟨hO_66, ⟨z_lo _, z_hi _, fun s h0 h1 h2 h3 h4 => (by rw [hs_16] at h1; cases h1; exact ⟨(by rw [go_63, dw_53, gd_69]), ⟨by rw [eS_65, pI_sI_nf (by decide)]; exact dw_52, by rw [eS_65, pI_sI_nf (by decide)]; exact dw_53.trans gd_69, by rw [eS_65, pI_sI_nf (by decide)]; exact dw_54, (by rw [zA_sI eS_65]; exact dw_55)⟩, fun q1 hq1 => (by rw [f_14] at hq1; cases hq1; exact ⟨by rw [eS_65]; exact pI_sI_same, fun b hb hn => by rw [eS_65, pI_sI_ne hn]; exact hk_50.fr.I' (g := 707) (by decide +kernel) hb rfl⟩)⟩), fun h => absurd ⟨s_15, by omega, hs_16, by omega, by omega, by have := k_24; omega⟩ h⟩⟩ dX11_grade_66
      · have z_b_70 := trivial
        have k_71 : a3_z > v_35.toInt := z_nle hz_a3 rfl c_45
        refine lv_iconst (v := (-1)) X.1 X.2.1 dX11_grade_36 (by decide) ?_
        exact ret_i X hw hr hlocks (Nat.le_of_ble_eq_true rfl) (Nat.le_of_ble_eq_true rfl) ⟨hO, ⟨z_lo _, z_hi _, fun s h0 h1 h2 h3 h4 => (by exfalso; rw [hs_16] at h1; cases h1; have := k_24; omega), fun _ => ⟨by decide, rfl⟩⟩⟩ dX11_grade_37
    · have z_b_72 := trivial
      refine lv_if_eq (tgt := 36) X.1 X.2.1 dX11_grade_21 (by decide) (fun c_73 => ?_) (fun c_73 => absurd c_73 (by decide))
      refine lv_iconst (v := (-1)) X.1 X.2.1 dX11_grade_36 (by decide) ?_
      exact ret_i X hw hr hlocks (Nat.le_of_ble_eq_true rfl) (Nat.le_of_ble_eq_true rfl) ⟨hO, ⟨z_lo _, z_hi _, fun s h0 h1 h2 h3 h4 => (by exfalso; rw [hs_16] at h1; cases h1; have := k_24; omega), fun _ => ⟨by decide, rfl⟩⟩⟩ dX11_grade_37
set_option maxHeartbeats 4000000 in
set_option maxRecDepth 100000 in
theorem k_X11_drawn7 (l : Launch) (G : va_G) (cy : Nat → ClassId) (κ : Nat → Nat) (S : PS) (sz : Nat) (x : Nat) (a1 : Int32) (a1_z : Int) (Dw : Nat) (hG : GX S) (ha_x : At S x 11) (hz_a1 : a1.toInt = a1_z) (hp_0 : pR S 1108 x = some Dw) : Ci l yX11_drawn wsX11_drawn ({ frames := 1, cells := 0, slots := 0, locals := 48 }) G cy κ S sz [.ref x, .int (a1)] (fun (r : Int32) (S9 : PS) => S = S9 ∧ (-2147483648 ≤ r.toInt ∧ r.toInt ≤ 2147483647 ∧ r.toInt = dwF (pI S 101 Dw).toInt (pI S 102 Dw).toInt (pI S 103 Dw).toInt (zA S Dw 100) a1_z)) := by
  refine ent_m (cc := cX11_drawn) (maxL := 2) (ret := (some .int)) (by decide) rfl (Nat.le_of_ble_eq_true rfl) ?_
  intro p e s m below meth c ls X hr hlocks hin hw hl hsz
  subst hsz
  have X : Cx p c cX11_drawn 2 s [.ref x, .int (a1)].toArray wsX11_drawn RX11 m G cy κ (AS S s.heap.size) := X
  have hl : lv_has ls 2 [(0, .ref x), (1, .int (a1))] := hl
  have rg_a1 : (-2147483648) ≤ a1_z ∧ a1_z ≤ 2147483647 := by rw [← hz_a1]; exact ⟨z_lo _, z_hi _⟩
  have haDw := dw_at hG ha_x hp_0
  obtain ⟨v_1, ev_1⟩ : ∃ v, pI S 101 Dw = v := ⟨_, rfl⟩
  have rg_2 := gI_1_101 hG haDw; rw [ev_1] at rg_2
  have pz_3 : (pI S 101 Dw).toInt = v_1.toInt := by rw [ev_1]
  have pz_4 : (pI S 101 Dw).toInt = v_1.toInt := (congrArg Int32.toInt ev_1).trans rfl
  obtain ⟨v_5, ev_5⟩ : ∃ v, pI S 102 Dw = v := ⟨_, rfl⟩
  have rg_7 := And.intro (z_lo v_5) (z_hi v_5)
  have pz_8 : (pI S 102 Dw).toInt = v_5.toInt := by rw [ev_5]
  have pz_9 : (pI S 102 Dw).toInt = v_5.toInt := (congrArg Int32.toInt ev_5).trans rfl
  obtain ⟨v_10, ev_10⟩ : ∃ v, pI S 103 Dw = v := ⟨_, rfl⟩
  have rg_12 := And.intro (z_lo v_10) (z_hi v_10)
  have pz_13 : (pI S 103 Dw).toInt = v_10.toInt := by rw [ev_10]
  have pz_14 : (pI S 103 Dw).toInt = v_10.toInt := (congrArg Int32.toInt ev_10).trans rfl
  refine lv_aload_n X.1 X.2.1 dX11_drawn_0 rfl (lv_at hl 0 rfl) ?_
  refine r_getR (g := 1108) X hw ha_x rfl 8 hp_0 (by decide) rfl inn_X11_drawn_11 (by decide) (X.2.2.2.1 (.fieldLink RX11 49 "SilkMill" "latestDraw" "LSilkMill$Draw;") (by decide +kernel)) rfl (gv_1108 _ _) dX11_drawn_1 ?_
  refine r_getI (g := 101) (x := v_1) X hw haDw rfl 1 ev_1 (by decide) rfl inn_X11_drawn_1 (by decide) (X.2.2.2.1 (.fieldLink RX11 294 "SilkMill$Draw" "size" "I") (by decide +kernel)) rfl (gv_101 _ _) dX11_drawn_4 ?_
  refine lv_if_eq (tgt := 14) X.1 X.2.1 dX11_drawn_7 (by decide) (fun c_15 => ?_) (fun c_15 => ?_)
  · have z_b_16 := trivial
    have k_17 : v_1.toInt = 0 := z_eq rfl ti_0 c_15
    refine lv_iconst (v := (-1)) X.1 X.2.1 dX11_drawn_14 (by decide) ?_
    exact ret_i X hw hr hlocks (Nat.le_of_ble_eq_true rfl) (Nat.le_of_ble_eq_true rfl) ⟨rfl, ⟨z_lo _, z_hi _, (by rw [dwF_n (by omega)]; decide)⟩⟩ dX11_drawn_15
  · have z_b_18 := trivial
    have k_19 : v_1.toInt ≠ 0 := z_ne rfl ti_0 c_15
    refine lv_iload_n X.1 X.2.1 dX11_drawn_10 rfl (lv_at hl 1 rfl) ?_
    refine lv_if_ge (tgt := 16) X.1 X.2.1 dX11_drawn_11 (by decide) (fun c_20 => ?_) (fun c_20 => ?_)
    · have z_b_21 := trivial
      have k_22 : a1_z ≥ 0 := z_le ti_0 hz_a1 c_20
      refine lv_iload_n X.1 X.2.1 dX11_drawn_16 rfl (lv_at hl 1 rfl) ?_
      refine lv_if_ne (tgt := 28) X.1 X.2.1 dX11_drawn_17 (by decide) (fun c_23 => ?_) (fun c_23 => ?_)
      · have z_b_24 := trivial
        have k_25 : a1_z ≠ 0 := z_ne hz_a1 ti_0 c_23
        refine lv_iload_n X.1 X.2.1 dX11_drawn_28 rfl (lv_at hl 1 rfl) ?_
        refine lv_iconst (v := 1) X.1 X.2.1 dX11_drawn_29 (by decide) ?_
        refine lv_icmp_ne (tgt := 41) X.1 X.2.1 dX11_drawn_30 (by decide) (fun c_26 => ?_) (fun c_26 => ?_)
        · have z_b_27 := trivial
          have k_28 : a1_z ≠ 1 := z_ne hz_a1 ti_1 c_26
          refine lv_iload_n X.1 X.2.1 dX11_drawn_41 rfl (lv_at hl 1 rfl) ?_
          refine lv_iconst (v := 2) X.1 X.2.1 dX11_drawn_42 (by decide) ?_
          refine lv_isub X.1 X.2.1 dX11_drawn_43 ?_
          refine lv_topi (fun v_29 ev_29 => ?_)
          have z_30 : v_29.toInt = a1_z - 2 := z_sub ev_29 hz_a1 ti_2 (by omega) (by omega)
          refine lv_aload_n X.1 X.2.1 dX11_drawn_44 rfl (lv_at hl 0 rfl) ?_
          refine r_getR (g := 1108) X hw ha_x rfl 8 hp_0 (by decide) rfl inn_X11_drawn_11 (by decide) (X.2.2.2.1 (.fieldLink RX11 49 "SilkMill" "latestDraw" "LSilkMill$Draw;") (by decide +kernel)) rfl (gv_1108 _ _) dX11_drawn_45 ?_
          refine r_getI (g := 101) (x := v_1) X hw haDw rfl 1 ev_1 (by decide) rfl inn_X11_drawn_1 (by decide) (X.2.2.2.1 (.fieldLink RX11 294 "SilkMill$Draw" "size" "I") (by decide +kernel)) rfl (gv_101 _ _) dX11_drawn_48 ?_
          refine lv_icmp_ge (tgt := 68) X.1 X.2.1 dX11_drawn_51 (by decide) (fun c_31 => ?_) (fun c_31 => ?_)
          · have z_b_32 := trivial
            have k_33 : v_29.toInt ≥ v_1.toInt := z_le rfl rfl c_31
            refine lv_iconst (v := (-1)) X.1 X.2.1 dX11_drawn_68 (by decide) ?_
            exact ret_i X hw hr hlocks (Nat.le_of_ble_eq_true rfl) (Nat.le_of_ble_eq_true rfl) ⟨rfl, ⟨z_lo _, z_hi _, (by rw [dwF_n (by omega)]; decide)⟩⟩ dX11_drawn_69
          · have z_b_34 := trivial
            have k_35 : v_29.toInt < v_1.toInt := z_nle rfl rfl c_31
            refine lv_aload_n X.1 X.2.1 dX11_drawn_54 rfl (lv_at hl 0 rfl) ?_
            refine r_getR (g := 1108) X hw ha_x rfl 8 hp_0 (by decide) rfl inn_X11_drawn_11 (by decide) (X.2.2.2.1 (.fieldLink RX11 49 "SilkMill" "latestDraw" "LSilkMill$Draw;") (by decide +kernel)) rfl (gv_1108 _ _) dX11_drawn_55 ?_
            obtain ⟨q_36, h_37, h_38, h_39⟩ := gQ_1_100 hG haDw
            refine r_getR (g := 100) X hw haDw rfl 0 h_37 (by decide) rfl inn_X11_drawn_1 (by decide) (X.2.2.2.1 (.fieldLink RX11 301 "SilkMill$Draw" "metres" "[I") (by decide +kernel)) rfl (gv_100 _ _) dX11_drawn_58 ?_
            refine lv_iload_n X.1 X.2.1 dX11_drawn_61 rfl (lv_at hl 1 rfl) ?_
            refine lv_iconst (v := 2) X.1 X.2.1 dX11_drawn_62 (by decide) ?_
            refine lv_isub X.1 X.2.1 dX11_drawn_63 ?_
            refine lv_topi (fun v_40 ev_40 => ?_)
            have z_41 : v_40.toInt = a1_z - 2 := z_sub ev_40 hz_a1 ti_2 (by omega) (by omega)
            refine r_iald X hw h_38 rfl (by rw [h_39]; exact z_ix rfl (by omega) (by omega)) dX11_drawn_64 ?_
            refine lv_topi (fun v_42 ev_42 => ?_)
            have rg_43 := And.intro (z_lo v_42) (z_hi v_42)
            have ev_42 := ev_42.symm
            have zf_44 : zA S Dw 100 (v_40.toInt).toNat = v_42.toInt := (zA_of h_37 rfl (by omega) ev_42)
            refine lv_goto (tgt := 69) X.1 X.2.1 dX11_drawn_65 (by decide) ?_
            exact ret_i X hw hr hlocks (Nat.le_of_ble_eq_true rfl) (Nat.le_of_ble_eq_true rfl) ⟨rfl, ⟨z_lo _, z_hi _, (by rw [dwF_2 (by omega) (by omega), show (a1_z - 2).toNat = (v_40.toInt).toNat by omega, zf_44]; first | done | (have e1 : (v_42 : Int32).toInt = v_42.toInt := rfl; omega))⟩⟩ dX11_drawn_69
        · have z_b_45 := trivial
          have k_46 : a1_z = 1 := z_eq hz_a1 ti_1 c_26
          refine lv_aload_n X.1 X.2.1 dX11_drawn_33 rfl (lv_at hl 0 rfl) ?_
          refine r_getR (g := 1108) X hw ha_x rfl 8 hp_0 (by decide) rfl inn_X11_drawn_11 (by decide) (X.2.2.2.1 (.fieldLink RX11 49 "SilkMill" "latestDraw" "LSilkMill$Draw;") (by decide +kernel)) rfl (gv_1108 _ _) dX11_drawn_34 ?_
          refine r_getI (g := 103) (x := v_10) X hw haDw rfl 3 ev_10 (by decide) rfl inn_X11_drawn_1 (by decide) (X.2.2.2.1 (.fieldLink RX11 298 "SilkMill$Draw" "bound" "I") (by decide +kernel)) rfl (gv_103 _ _) dX11_drawn_37 ?_
          exact ret_i X hw hr hlocks (Nat.le_of_ble_eq_true rfl) (Nat.le_of_ble_eq_true rfl) ⟨rfl, ⟨z_lo _, z_hi _, (by rw [dwF_1 (by omega) (by omega)]; have e1 : (v_10 : Int32).toInt = v_10.toInt := rfl; omega)⟩⟩ dX11_drawn_40
      · have z_b_47 := trivial
        have k_48 : a1_z = 0 := z_eq hz_a1 ti_0 c_23
        refine lv_aload_n X.1 X.2.1 dX11_drawn_20 rfl (lv_at hl 0 rfl) ?_
        refine r_getR (g := 1108) X hw ha_x rfl 8 hp_0 (by decide) rfl inn_X11_drawn_11 (by decide) (X.2.2.2.1 (.fieldLink RX11 49 "SilkMill" "latestDraw" "LSilkMill$Draw;") (by decide +kernel)) rfl (gv_1108 _ _) dX11_drawn_21 ?_
        refine r_getI (g := 102) (x := v_5) X hw haDw rfl 2 ev_5 (by decide) rfl inn_X11_drawn_1 (by decide) (X.2.2.2.1 (.fieldLink RX11 295 "SilkMill$Draw" "off" "I") (by decide +kernel)) rfl (gv_102 _ _) dX11_drawn_24 ?_
        exact ret_i X hw hr hlocks (Nat.le_of_ble_eq_true rfl) (Nat.le_of_ble_eq_true rfl) ⟨rfl, ⟨z_lo _, z_hi _, (by rw [dwF_0 (by omega) (by omega)]; have e1 : (v_5 : Int32).toInt = v_5.toInt := rfl; omega)⟩⟩ dX11_drawn_27
    · have z_b_49 := trivial
      have k_50 : a1_z < 0 := z_nle ti_0 hz_a1 c_20
      refine lv_iconst (v := (-1)) X.1 X.2.1 dX11_drawn_14 (by decide) ?_
      exact ret_i X hw hr hlocks (Nat.le_of_ble_eq_true rfl) (Nat.le_of_ble_eq_true rfl) ⟨rfl, ⟨z_lo _, z_hi _, (by rw [dwF_n (by omega)]; decide)⟩⟩ dX11_drawn_15
