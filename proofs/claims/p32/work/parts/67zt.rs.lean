
set_option maxHeartbeats 4000000 in
set_option maxRecDepth 100000 in
theorem k_X12_metre7 (l : Launch) (G : va_G) (cy : Nat → ClassId) (κ : Nat → Nat) (S : PS) (sz : Nat) (x : Nat) (a1 : Int32) (a1_z : Int) (a2 : Int32) (a2_z : Int) (a3 : Int32) (a3_z : Int) (Ls : List Sk) (hG : GX S) (ha_x : At S x 12) (hz_a1 : a1.toInt = a1_z) (hz_a2 : a2.toInt = a2_z) (hz_a3 : a3.toInt = a3_z) (hp_0 : MI S x) (hp_1 : SkW S x Ls) : Ci l yX12_metre wsX12_metre ({ frames := 5, cells := 0, slots := 0, locals := 240 }) G cy κ S sz [.ref x, .int (a1), .int (a2), .int (a3)] (fun (r : Int32) (S9 : PS) => Ok MN S S9 ∧ (-2147483648 ≤ r.toInt ∧ r.toInt ≤ 2147483647 ∧ (∀ s t, 0 ≤ a1_z → Ls[a1_z.toNat]? = some s → 0 ≤ a2_z → s.2.2.2[a2_z.toNat]? = some t → r.toInt = meF (mtZ S x t) (t.length : Int) a3_z) ∧ (¬ MeI Ls a1_z a2_z → r.toInt = -1))) := by
  refine ent_m (cc := cX12_metre) (maxL := 4) (ret := (some .int)) (by decide) rfl (Nat.le_of_ble_eq_true rfl) ?_
  intro p e s m below meth c ls X hr hlocks hin hw hl hsz
  subst hsz
  have X : Cx p c cX12_metre 4 s [.ref x, .int (a1), .int (a2), .int (a3)].toArray wsX12_metre RX12 m G cy κ (AS S s.heap.size) := X
  have hl : lv_has ls 4 [(0, .ref x), (1, .int (a1)), (2, .int (a2)), (3, .int (a3))] := hl
  have rg_a1 : (-2147483648) ≤ a1_z ∧ a1_z ≤ 2147483647 := by rw [← hz_a1]; exact ⟨z_lo _, z_hi _⟩
  have rg_a2 : (-2147483648) ≤ a2_z ∧ a2_z ≤ 2147483647 := by rw [← hz_a2]; exact ⟨z_lo _, z_hi _⟩
  have rg_a3 : (-2147483648) ≤ a3_z ∧ a3_z ≤ 2147483647 := by rw [← hz_a3]; exact ⟨z_lo _, z_hi _⟩
  have hO : Ok MN S S := Ok.rf hG
  obtain ⟨v_1, ev_1⟩ : ∃ v, pI S 1238 x = v := ⟨_, rfl⟩
  have rg_2 := gI_12_1238 hO.1 ha_x; rw [ev_1] at rg_2
  have pz_3 : (pI S 1238 x).toInt = v_1.toInt := by rw [ev_1]
  have pz_4 : (pI S 1238 x).toInt = v_1.toInt := (congrArg Int32.toInt ev_1).trans rfl
  refine lv_aload_n X.1 X.2.1 dX12_metre_0 rfl (lv_at hl 0 rfl) ?_
  refine lv_iconst (v := 0) X.1 X.2.1 dX12_metre_1 (by decide) ?_
  refine r_putI (v := 0) X hw ha_x rfl 0 1200 tyX12 (by decide) rfl inn_X12_metre_12 tyX12_ok nmX12 (by decide) (X.2.2.2.1 (.fieldLink RX12 161 "SilkMillModel" "thrown" "I") (by decide +kernel)) rfl (Or.inl rfl) rfl rfl (Nat.le_of_ble_eq_true rfl) (st_1200 _ _) dX12_metre_2 (fun H locs hw => ?_)
  obtain ⟨S_5, eS_5⟩ : ∃ T, T = sI S 1200 x (0) := ⟨_, rfl⟩
  rw [← eS_5] at hw
  have hO_6 : Ok MN S S_5 := hO.sI eS_5 (by decide +kernel) (uI_12_1200 hO.1 ha_x)
  have h_7 : pI S_5 1200 x = 0 := tI_sIs eS_5
  refine lv_aload_n X.1 X.2.1 dX12_metre_5 rfl (lv_at hl 0 rfl) ?_
  refine lv_iload_n X.1 X.2.1 dX12_metre_6 rfl (lv_at hl 1 rfl) ?_
  have t_8 : pI S_5 1238 x = v_1 := tI_sI eS_5 rfl ev_1
  have pz_9 : (pI S_5 1238 x).toInt = v_1.toInt := (congrArg Int32.toInt t_8).trans rfl
  have t_10 : At S_5 x 12 := tAt_sI eS_5 ha_x
  refine k_i (rm := { frames := 2, cells := 0, slots := 0, locals := 96 }) (av := [.ref x, .int (a1)]) X hw (va_runV (As := [.int (a1)]) (rest := []) (cfix X) (k_X12_isSkein7 l G cy κ S_5 _ x (a1) (a1_z) hO_6.1 t_10 hz_a1) (cwV 1 X.2.2.2.1 gX12_metre_X12_isSkein rfl rfl rfl (by decide +kernel) ⟨Nat.le_of_ble_eq_true rfl, Nat.le_of_ble_eq_true rfl⟩) (pre_V X hw _ t_10 rfl (by decide) rfl) rfl rfl hl.1 rfl (lv_room (Nat.le_of_ble_eq_true rfl)) dX12_metre_7 ⟨Nat.le_of_ble_eq_true rfl, Nat.le_of_ble_eq_true rfl⟩) 0 0 (Nat.le_of_ble_eq_true rfl) (Nat.le_of_ble_eq_true rfl) (fun rr_11 S_12 H locs hp hw hfr hnw => ?_)
  obtain ⟨e2, hp⟩ := hp
  subst e2
  rcases hp with ⟨f_13, er_14⟩ | ⟨f_13, er_14⟩ <;> subst er_14
  · have z_b_15 := trivial
    refine lv_if_eq (tgt := 28) X.1 X.2.1 dX12_metre_10 (by decide) (fun c_16 => absurd c_16 (by decide)) (fun c_16 => ?_)
    refine lv_iload_n X.1 X.2.1 dX12_metre_13 rfl (lv_at hl 2 rfl) ?_
    refine lv_iconst (v := 0) X.1 X.2.1 dX12_metre_14 (by decide) ?_
    refine lv_aload_n X.1 X.2.1 dX12_metre_15 rfl (lv_at hl 0 rfl) ?_
    refine lv_iload_n X.1 X.2.1 dX12_metre_16 rfl (lv_at hl 1 rfl) ?_
    have kl_22 := hp_1.1
    have pz_23 : (pI S_5 1238 x).toInt = v_1.toInt := (congrArg Int32.toInt t_8).trans rfl
    obtain ⟨s_17, hs_18⟩ : ∃ s, Ls[a1_z.toNat]? = some s := ⟨_, List.getElem?_eq_getElem (by omega)⟩
    obtain ⟨sr_19, sr_20, sr_21⟩ := hp_1.2 _ _ hs_18
    have z9_24 : zA S_5 x 1239 a1_z.toNat = zA S x 1239 a1_z.toNat := congrFun (zA_sI eS_5) _
    have z9_25 : zA S_5 x 1239 (a1_z + 1).toNat = zA S x 1239 (a1_z + 1).toNat := congrFun (zA_sI eS_5) _
    have z9_26 : zA S x 1239 (a1_z + 1).toNat = zA S x 1239 (a1_z.toNat + 1) := by rw [show (a1_z + 1).toNat = a1_z.toNat + 1 by omega]
    refine k_i (rm := { frames := 1, cells := 0, slots := 0, locals := 48 }) (av := [.ref x, .int (a1)]) X hw (va_runV (As := [.int (a1)]) (rest := [.int 0, .int (a2)]) (cfix X) (k_X12_metres l G cy κ S_5 _ x (a1) (a1_z) hO_6.1 t_10 hz_a1 (by first | assumption | omega) (by first | assumption | omega) (by first | assumption | omega) (MIe_free hG ha_x hO_6.fr (by decide +kernel) hp_0)) (cwV 1 X.2.2.2.1 gX12_metre_X12_metres rfl rfl rfl (by decide +kernel) ⟨Nat.le_of_ble_eq_true rfl, Nat.le_of_ble_eq_true rfl⟩) (pre_V X hw _ t_10 rfl (by decide) rfl) rfl rfl hl.1 rfl (lv_room (Nat.le_of_ble_eq_true rfl)) dX12_metre_17 ⟨Nat.le_of_ble_eq_true rfl, Nat.le_of_ble_eq_true rfl⟩) 0 0 (Nat.le_of_ble_eq_true rfl) (Nat.le_of_ble_eq_true rfl) (fun rr_27 S_28 H locs hp hw hfr hnw => ?_)
    obtain ⟨e2, hp⟩ := hp
    subst e2
    obtain ⟨f_29, f_30, f_31⟩ := hp
    refine lv_iconst (v := 1) X.1 X.2.1 dX12_metre_20 (by decide) ?_
    refine lv_isub X.1 X.2.1 dX12_metre_21 ?_
    refine lv_topi (fun v_32 ev_32 => ?_)
    have z_33 : v_32.toInt = rr_27.toInt - 1 := z_sub ev_32 rfl ti_1 (by omega) (by omega)
    refine k_i (rm := { frames := 1, cells := 0, slots := 0, locals := 48 }) (av := [.int (a2), .int 0, .int (v_32)]) X hw (va_runS (As := [.int (a2), .int 0, .int (v_32)]) (rest := []) (cfix X) (k_X12_within l G cy κ S_5 _ (a2) (a2_z) (0) (0) (v_32) ((rr_27.toInt - 1)) hO_6.1 hz_a2 ti_0 z_33) (cwS 3 X.2.2.2.1 gX12_metre_X12_within rfl rfl rfl (by decide +kernel) ⟨Nat.le_of_ble_eq_true rfl, Nat.le_of_ble_eq_true rfl⟩) (pre_S X hw _) rfl rfl hl.1 rfl (lv_room (Nat.le_of_ble_eq_true rfl)) dX12_metre_22 ⟨Nat.le_of_ble_eq_true rfl, Nat.le_of_ble_eq_true rfl⟩) 0 0 (Nat.le_of_ble_eq_true rfl) (Nat.le_of_ble_eq_true rfl) (fun rr_34 S_35 H locs hp hw hfr hnw => ?_)
    obtain ⟨e2, hp⟩ := hp
    subst e2
    rcases hp with ⟨f_36, er_37⟩ | ⟨f_36, er_37⟩ <;> subst er_37
    · have z_b_38 := trivial
      refine lv_if_ne (tgt := 30) X.1 X.2.1 dX12_metre_25 (by decide) (fun c_39 => ?_) (fun c_39 => absurd c_39 (by decide))
      refine lv_iload_n X.1 X.2.1 dX12_metre_30 rfl (lv_at hl 3 rfl) ?_
      refine lv_if_ne (tgt := 49) X.1 X.2.1 dX12_metre_31 (by decide) (fun c_40 => ?_) (fun c_40 => ?_)
      · have z_b_41 := trivial
        have k_42 : a3_z ≠ 0 := z_ne hz_a3 ti_0 c_40
        refine lv_iload_n X.1 X.2.1 dX12_metre_49 rfl (lv_at hl 3 rfl) ?_
        refine lv_iconst (v := 1) X.1 X.2.1 dX12_metre_50 (by decide) ?_
        refine lv_icmp_ne (tgt := 70) X.1 X.2.1 dX12_metre_51 (by decide) (fun c_43 => ?_) (fun c_43 => ?_)
        · have z_b_44 := trivial
          have k_45 : a3_z ≠ 1 := z_ne hz_a3 ti_1 c_43
          refine lv_iconst (v := (-1)) X.1 X.2.1 dX12_metre_70 (by decide) ?_
          obtain ⟨t_46, ht_47⟩ : ∃ t, s_17.2.2.2[a2_z.toNat]? = some t := ⟨_, List.getElem?_eq_getElem (by omega)⟩
          exact ret_i X hw hr hlocks (Nat.le_of_ble_eq_true rfl) (Nat.le_of_ble_eq_true rfl) ⟨hO_6, ⟨z_lo _, z_hi _, fun s t h0 h1 h2 h3 => (by rw [hs_18] at h1; cases h1; rw [ht_47] at h3; cases h3; rw [meF_d (by omega) (by omega)]; decide), fun h => absurd ⟨s_17, t_46, by omega, hs_18, by omega, ht_47⟩ h⟩⟩ dX12_metre_71
        · have z_b_48 := trivial
          have k_49 : a3_z = 1 := z_eq hz_a3 ti_1 c_43
          refine lv_aload_n X.1 X.2.1 dX12_metre_54 rfl (lv_at hl 0 rfl) ?_
          obtain ⟨q_50, h_51, h_52, h_53⟩ := gQ_12_1235 hO_6.1 t_10
          refine r_getR (g := 1235) X hw t_10 rfl 35 h_51 (by decide) rfl inn_X12_metre_12 (by decide) (X.2.2.2.1 (.fieldLink RX12 90 "SilkMillModel" "metreEnds" "[I") (by decide +kernel)) rfl (gv_1235 _ _) dX12_metre_55 ?_
          refine lv_aload_n X.1 X.2.1 dX12_metre_58 rfl (lv_at hl 0 rfl) ?_
          obtain ⟨q_54, h_55, h_56, h_57⟩ := gQ_12_1239 hO_6.1 t_10
          refine r_getR (g := 1239) X hw t_10 rfl 39 h_55 (by decide) rfl inn_X12_metre_12 (by decide) (X.2.2.2.1 (.fieldLink RX12 100 "SilkMillModel" "firstMetre" "[I") (by decide +kernel)) rfl (gv_1239 _ _) dX12_metre_59 ?_
          refine lv_iload_n X.1 X.2.1 dX12_metre_62 rfl (lv_at hl 1 rfl) ?_
          refine r_iald X hw h_56 rfl (by rw [h_57]; exact z_ix hz_a1 (by omega) (by omega)) dX12_metre_63 ?_
          refine lv_topi (fun v_58 ev_58 => ?_)
          have z_59 := gE_994 hO_6.1 h_56 (Int32.toNatClampNeg (a1)); rw [← ev_58] at z_59
          have ev_58 := ev_58.symm
          have zf_60 : zA S_5 x 1239 (a1_z).toNat = v_58.toInt := (zA_of h_55 hz_a1 (by omega) ev_58)
          refine lv_iload_n X.1 X.2.1 dX12_metre_64 rfl (lv_at hl 2 rfl) ?_
          refine lv_iadd X.1 X.2.1 dX12_metre_65 ?_
          refine lv_topi (fun v_61 ev_61 => ?_)
          have z_62 : v_61.toInt = v_58.toInt + a2_z := z_add ev_61 rfl hz_a2 (by omega) (by omega)
          refine r_iald X hw h_52 rfl (by rw [h_53]; exact z_ix z_62 (by omega) (by omega)) dX12_metre_66 ?_
          refine lv_topi (fun v_63 ev_63 => ?_)
          have z_64 := gE_914 hO_6.1 h_52 (Int32.toNatClampNeg (v_61)); rw [← ev_63] at z_64
          have ev_63 := ev_63.symm
          have zf_65 : zA S_5 x 1235 ((v_58.toInt + a2_z)).toNat = v_63.toInt := (zA_of h_51 z_62 (by omega) ev_63)
          refine lv_goto (tgt := 71) X.1 X.2.1 dX12_metre_67 (by decide) ?_
          obtain ⟨t_66, ht_67⟩ : ∃ t, s_17.2.2.2[a2_z.toNat]? = some t := ⟨_, List.getElem?_eq_getElem (by omega)⟩
          have g5_68 : v_63.toInt = (t_66.length : Int) := by have h := (sr_21 _ _ ht_67).1; rw [← h, show (zA S x 1239 a1_z.toNat).toNat + a2_z.toNat = ((v_58.toInt + a2_z)).toNat by omega, ← congrFun (zA_sI eS_5) _]; exact zf_65.symm
          exact ret_i X hw hr hlocks (Nat.le_of_ble_eq_true rfl) (Nat.le_of_ble_eq_true rfl) ⟨hO_6, ⟨z_lo _, z_hi _, fun s t h0 h1 h2 h3 => (by rw [hs_18] at h1; cases h1; rw [ht_67] at h3; cases h3; rw [meF_1 (by omega)]; have e1 : (v_63 : Int32).toInt = v_63.toInt := rfl; omega), fun h => absurd ⟨s_17, t_66, by omega, hs_18, by omega, ht_67⟩ h⟩⟩ dX12_metre_71
      · have z_b_69 := trivial
        have k_70 : a3_z = 0 := z_eq hz_a3 ti_0 c_40
        refine lv_aload_n X.1 X.2.1 dX12_metre_34 rfl (lv_at hl 0 rfl) ?_
        refine lv_aload_n X.1 X.2.1 dX12_metre_35 rfl (lv_at hl 0 rfl) ?_
        obtain ⟨q_71, h_72, h_73, h_74⟩ := gQ_12_1239 hO_6.1 t_10
        refine r_getR (g := 1239) X hw t_10 rfl 39 h_72 (by decide) rfl inn_X12_metre_12 (by decide) (X.2.2.2.1 (.fieldLink RX12 100 "SilkMillModel" "firstMetre" "[I") (by decide +kernel)) rfl (gv_1239 _ _) dX12_metre_36 ?_
        refine lv_iload_n X.1 X.2.1 dX12_metre_39 rfl (lv_at hl 1 rfl) ?_
        refine r_iald X hw h_73 rfl (by rw [h_74]; exact z_ix hz_a1 (by omega) (by omega)) dX12_metre_40 ?_
        refine lv_topi (fun v_75 ev_75 => ?_)
        have z_76 := gE_994 hO_6.1 h_73 (Int32.toNatClampNeg (a1)); rw [← ev_75] at z_76
        have ev_75 := ev_75.symm
        have zf_77 : zA S_5 x 1239 (a1_z).toNat = v_75.toInt := (zA_of h_72 hz_a1 (by omega) ev_75)
        refine lv_iload_n X.1 X.2.1 dX12_metre_41 rfl (lv_at hl 2 rfl) ?_
        refine lv_iadd X.1 X.2.1 dX12_metre_42 ?_
        refine lv_topi (fun v_78 ev_78 => ?_)
        have z_79 : v_78.toInt = v_75.toInt + a2_z := z_add ev_78 rfl hz_a2 (by omega) (by omega)
        obtain ⟨t_80, ht_81⟩ : ∃ t, s_17.2.2.2[a2_z.toNat]? = some t := ⟨_, List.getElem?_eq_getElem (by omega)⟩
        refine k_i (rm := { frames := 4, cells := 0, slots := 0, locals := 192 }) (av := [.ref x, .int (v_78)]) X hw (va_runV (As := [.int (v_78)]) (rest := []) (cfix X) (k_X12_fineAt7 l G cy κ S_5 _ x (v_78) ((v_75.toInt + a2_z)) t_80 hO_6.1 t_10 z_79 (by omega) (by omega) (MIe_free hG ha_x hO_6.fr (by decide +kernel) hp_0) (MtR_eq (zA_sI eS_5) (zA_sI eS_5) (by rw [show ((v_75.toInt + a2_z)).toNat = (zA S x 1239 a1_z.toNat).toNat + a2_z.toNat by omega]; exact sr_21 _ _ ht_81))) (cwV 1 X.2.2.2.1 gX12_metre_X12_fineAt rfl rfl rfl (by decide +kernel) ⟨Nat.le_of_ble_eq_true rfl, Nat.le_of_ble_eq_true rfl⟩) (pre_V X hw _ t_10 rfl (by decide) rfl) rfl rfl hl.1 rfl (lv_room (Nat.le_of_ble_eq_true rfl)) dX12_metre_43 ⟨Nat.le_of_ble_eq_true rfl, Nat.le_of_ble_eq_true rfl⟩) 0 0 (Nat.le_of_ble_eq_true rfl) (Nat.le_of_ble_eq_true rfl) (fun rr_82 S_83 H locs hp hw hfr hnw => ?_)
        obtain ⟨e2, hp⟩ := hp
        subst e2
        obtain ⟨fa_84, fa_85, fa_86⟩ := hp
        refine lv_goto (tgt := 71) X.1 X.2.1 dX12_metre_46 (by decide) ?_
        exact ret_i X hw hr hlocks (Nat.le_of_ble_eq_true rfl) (Nat.le_of_ble_eq_true rfl) ⟨hO_6, ⟨z_lo _, z_hi _, fun s t h0 h1 h2 h3 => (by rw [hs_18] at h1; cases h1; rw [ht_81] at h3; cases h3; rw [meF_0 (by omega), fa_86, mtZ_eq (fnZ_fr hG ha_x hO_6.fr (by decide +kernel))]), fun h => absurd ⟨s_17, t_80, by omega, hs_18, by omega, ht_81⟩ h⟩⟩ dX12_metre_71
    · have z_b_87 := trivial
      refine lv_if_ne (tgt := 30) X.1 X.2.1 dX12_metre_25 (by decide) (fun c_88 => absurd c_88 (by decide)) (fun c_88 => ?_)
      refine lv_iconst (v := (-1)) X.1 X.2.1 dX12_metre_28 (by decide) ?_
      exact ret_i X hw hr hlocks (Nat.le_of_ble_eq_true rfl) (Nat.le_of_ble_eq_true rfl) ⟨hO_6, ⟨z_lo _, z_hi _, fun s t h0 h1 h2 h3 => (by exfalso; rw [hs_18] at h1; cases h1; have := (List.getElem?_eq_some_iff.mp h3).1; omega), fun _ => by decide⟩⟩ dX12_metre_29
  · have z_b_89 := trivial
    refine lv_if_eq (tgt := 28) X.1 X.2.1 dX12_metre_10 (by decide) (fun c_90 => ?_) (fun c_90 => absurd c_90 (by decide))
    refine lv_iconst (v := (-1)) X.1 X.2.1 dX12_metre_28 (by decide) ?_
    exact ret_i X hw hr hlocks (Nat.le_of_ble_eq_true rfl) (Nat.le_of_ble_eq_true rfl) ⟨hO_6, ⟨z_lo _, z_hi _, fun s t h0 h1 _ _ => (by exfalso; have := (List.getElem?_eq_some_iff.mp h1).1; have := hp_1.1; omega), fun _ => by decide⟩⟩ dX12_metre_29
