
set_option maxHeartbeats 4000000 in
set_option maxRecDepth 100000 in
theorem k_X11_metre7 (l : Launch) (G : va_G) (cy : Nat → ClassId) (κ : Nat → Nat) (S : PS) (sz : Nat) (x : Nat) (a1 : Int32) (a1_z : Int) (a2 : Int32) (a2_z : Int) (a3 : Int32) (a3_z : Int) (D : Nat → Prop) (K : Nat) (Ls : List Sk) (hG : GX S) (ha_x : At S x 11) (hz_a1 : a1.toInt = a1_z) (hz_a2 : a2.toInt = a2_z) (hz_a3 : a3.toInt = a3_z) (hp_0 : pR S 1107 x = some K) (hp_1 : SkV S D K Ls) : Ci l yX11_metre wsX11_metre ({ frames := 2, cells := 0, slots := 0, locals := 96 }) G cy κ S sz [.ref x, .int (a1), .int (a2), .int (a3)] (fun (r : Int32) (S9 : PS) => S = S9 ∧ (-2147483648 ≤ r.toInt ∧ r.toInt ≤ 2147483647 ∧ (∀ s t, 0 ≤ a1_z → Ls[a1_z.toNat]? = some s → 0 ≤ a2_z → s.2.2.2[a2_z.toNat]? = some t → r.toInt = meF (mtS S t) (t.length : Int) a3_z) ∧ (¬ MeI Ls a1_z a2_z → r.toInt = -1))) := by
  refine ent_m (cc := cX11_metre) (maxL := 5) (ret := (some .int)) (by decide) rfl (Nat.le_of_ble_eq_true rfl) ?_
  intro p e s m below meth c ls X hr hlocks hin hw hl hsz
  subst hsz
  have X : Cx p c cX11_metre 5 s [.ref x, .int (a1), .int (a2), .int (a3)].toArray wsX11_metre RX11 m G cy κ (AS S s.heap.size) := X
  have hl : lv_has ls 5 [(0, .ref x), (1, .int (a1)), (2, .int (a2)), (3, .int (a3))] := hl
  have rg_a1 : (-2147483648) ≤ a1_z ∧ a1_z ≤ 2147483647 := by rw [← hz_a1]; exact ⟨z_lo _, z_hi _⟩
  have rg_a2 : (-2147483648) ≤ a2_z ∧ a2_z ≤ 2147483647 := by rw [← hz_a2]; exact ⟨z_lo _, z_hi _⟩
  have rg_a3 : (-2147483648) ≤ a3_z ∧ a3_z ≤ 2147483647 := by rw [← hz_a3]; exact ⟨z_lo _, z_hi _⟩
  have haK := st_at hG ha_x hp_0
  obtain ⟨v_1, ev_1⟩ : ∃ v, pI S 800 K = v := ⟨_, rfl⟩
  have rg_2 := gI_8_800 hG haK; rw [ev_1] at rg_2
  have pz_3 : (pI S 800 K).toInt = v_1.toInt := by rw [ev_1]
  have pz_4 : (pI S 800 K).toInt = v_1.toInt := (congrArg Int32.toInt ev_1).trans rfl
  have hkl := hp_1.1
  refine lv_aload_n X.1 X.2.1 dX11_metre_0 rfl (lv_at hl 0 rfl) ?_
  refine r_getR (g := 1107) X hw ha_x rfl 7 hp_0 (by decide) rfl inn_X11_metre_11 (by decide) (X.2.2.2.1 (.fieldLink RX11 42 "SilkMill" "store" "LSilkMill$Store;") (by decide +kernel)) rfl (gv_1107 _ _) dX11_metre_1 ?_
  refine lv_iload_n X.1 X.2.1 dX11_metre_4 rfl (lv_at hl 1 rfl) ?_
  refine k_q (rm := { frames := 1, cells := 0, slots := 0, locals := 48 }) (av := [.ref K, .int (a1)]) X hw (va_runV (As := [.int (a1)]) (rest := []) (cfix X) (k_X8_skeinAt7 l G cy κ S _ K (a1) (a1_z) hG haK hz_a1) (cwV 1 X.2.2.2.1 gX11_metre_X8_skeinAt rfl rfl rfl (by decide +kernel) ⟨Nat.le_of_ble_eq_true rfl, Nat.le_of_ble_eq_true rfl⟩) (pre_V X hw _ haK rfl (by decide) rfl) rfl rfl hl.1 rfl (lv_room (Nat.le_of_ble_eq_true rfl)) dX11_metre_5 ⟨Nat.le_of_ble_eq_true rfl, Nat.le_of_ble_eq_true rfl⟩) 0 0 (Nat.le_of_ble_eq_true rfl) (Nat.le_of_ble_eq_true rfl) (fun rr_5 S_6 H locs hp hw hfr hnw => ?_)
  obtain ⟨e2, hp⟩ := hp
  subst e2
  obtain ⟨hq_7, hnf_8⟩ := hp
  rcases rr_5 with _ | q_9
  · refine W.eq (g2 := F0 m 8 ls (.null :: [])) rfl ?_
    have nf_10 := hnf_8 rfl
    refine lv_astoreN (lv' := [(4, .null), (0, .ref x), (1, .int (a1)), (2, .int (a2)), (3, .int (a3))]) X.1 X.2.1 dX11_metre_8 hl (by decide) rfl (fun ls hl => ?_)
    refine lv_aloadN X.1 X.2.1 dX11_metre_10 (lv_at hl 0 rfl) ?_
    refine lv_ifnullN (tgt := 31) X.1 X.2.1 dX11_metre_12 (by decide) ?_
    refine lv_iconst (v := (-1)) X.1 X.2.1 dX11_metre_31 (by decide) ?_
    exact ret_i X hw hr hlocks (Nat.le_of_ble_eq_true rfl) (Nat.le_of_ble_eq_true rfl) ⟨rfl, ⟨z_lo _, z_hi _, fun s t h0 h1 _ _ => (by exfalso; have := (List.getElem?_eq_some_iff.mp h1).1; exact nf_10 (SN_of hp_1) ⟨h0, by omega⟩), fun _ => by decide⟩⟩ dX11_metre_32
  · refine W.eq (g2 := F0 m 8 ls (.ref q_9 :: [])) rfl ?_
    obtain ⟨ha_11, f_12, f_13, f_14⟩ := hq_7 _ rfl
    obtain ⟨s_15, hs_16⟩ : ∃ s, Ls[a1_z.toNat]? = some s := ⟨_, List.getElem?_eq_getElem (by omega)⟩
    obtain ⟨q_17, j_18, g_19, fo_20, j_21, j_22, j_23, ⟨k_24, k_25, k_26, fo_27, eo_28, k_29, k_30, k_31⟩, j_32⟩ := hp_1.2 _ _ hs_16
    have eq_33 : q_17 = q_9 := Option.some.inj (j_18.symm.trans f_14)
    rw [eq_33] at j_21 j_23
    have ha_34 := sk_str hG ha_11 j_21
    obtain ⟨v_35, ev_35⟩ : ∃ v, pI S 902 g_19 = v := ⟨_, rfl⟩
    have rg_36 := gI_9_902 hG ha_34; rw [ev_35] at rg_36
    have pz_37 : (pI S 902 g_19).toInt = v_35.toInt := by rw [ev_35]
    have pz_38 : (pI S 902 g_19).toInt = v_35.toInt := (congrArg Int32.toInt ev_35).trans rfl
    refine lv_astore (lv' := [(4, .ref q_9), (0, .ref x), (1, .int (a1)), (2, .int (a2)), (3, .int (a3))]) X.1 X.2.1 dX11_metre_8 hl (by decide) rfl (fun ls hl => ?_)
    refine lv_aload X.1 X.2.1 dX11_metre_10 (lv_at hl 0 rfl) ?_
    refine lv_ifnull X.1 X.2.1 dX11_metre_12 ?_
    refine lv_iload_n X.1 X.2.1 dX11_metre_15 rfl (lv_at hl 3 rfl) ?_
    refine lv_if_lt (tgt := 31) X.1 X.2.1 dX11_metre_16 (by decide) (fun c_39 => ?_) (fun c_39 => ?_)
    · have z_b_40 := trivial
      have k_41 : a2_z < 0 := z_lt hz_a2 ti_0 c_39
      refine lv_iconst (v := (-1)) X.1 X.2.1 dX11_metre_31 (by decide) ?_
      exact ret_i X hw hr hlocks (Nat.le_of_ble_eq_true rfl) (Nat.le_of_ble_eq_true rfl) ⟨rfl, ⟨z_lo _, z_hi _, fun s t h0 h1 h2 h3 => (by exfalso; rw [hs_16] at h1; cases h1; have := (List.getElem?_eq_some_iff.mp h3).1; have := k_24; omega), fun _ => by decide⟩⟩ dX11_metre_32
    · have z_b_42 := trivial
      have k_43 : a2_z ≥ 0 := z_nlt hz_a2 ti_0 c_39
      refine lv_iload_n X.1 X.2.1 dX11_metre_19 rfl (lv_at hl 3 rfl) ?_
      refine lv_aload X.1 X.2.1 dX11_metre_20 (lv_at hl 0 rfl) ?_
      refine r_getR (g := 703) X hw ha_11 rfl 3 j_21 (by decide) rfl inn_X11_metre_7 (by decide) (X.2.2.2.1 (.fieldLink RX11 241 "SilkMill$Skein" "strand" "LSilkMill$Strand;") (by decide +kernel)) rfl (gv_703 _ _) dX11_metre_22 ?_
      refine r_getI (g := 902) (x := v_35) X hw ha_34 rfl 2 ev_35 (by decide) rfl inn_X11_metre_9 (by decide) (X.2.2.2.1 (.fieldLink RX11 190 "SilkMill$Strand" "metres" "I") (by decide +kernel)) rfl (gv_902 _ _) dX11_metre_25 ?_
      refine lv_icmp_lt (tgt := 33) X.1 X.2.1 dX11_metre_28 (by decide) (fun c_44 => ?_) (fun c_44 => ?_)
      · have z_b_45 := trivial
        have k_46 : a2_z < v_35.toInt := z_lt hz_a2 rfl c_44
        refine lv_iload_n X.1 X.2.1 dX11_metre_33 rfl (lv_at hl 4 rfl) ?_
        by_cases w_47 : a3 = 0
        · refine lv_lookup (off := 26) (tgt := 60) X.1 X.2.1 dX11_metre_34 (by decide) (by rw [w_47]; decide +kernel) (by decide) ?_
          have k_48 : a3_z = 0 := z_eq hz_a3 ti_0 w_47
          refine lv_aload X.1 X.2.1 dX11_metre_60 (lv_at hl 0 rfl) ?_
          refine r_getR (g := 703) X hw ha_11 rfl 3 j_21 (by decide) rfl inn_X11_metre_7 (by decide) (X.2.2.2.1 (.fieldLink RX11 241 "SilkMill$Skein" "strand" "LSilkMill$Strand;") (by decide +kernel)) rfl (gv_703 _ _) dX11_metre_62 ?_
          obtain ⟨q_49, h_50, h_51, h_52, h_55⟩ := gC_9_900 hG ha_34
          obtain ⟨n_53, h_54⟩ : ∃ n, pN S q_49 = n := ⟨_, rfl⟩
          rw [ev_35, h_54] at h_52
          rw [h_54] at h_55
          refine r_getR (g := 900) X hw ha_34 rfl 0 h_50 (by decide) rfl inn_X11_metre_9 (by decide) (X.2.2.2.1 (.fieldLink RX11 269 "SilkMill$Strand" "fineness" "[I") (by decide +kernel)) rfl (gv_900 _ _) dX11_metre_65 ?_
          refine lv_iload_n X.1 X.2.1 dX11_metre_68 rfl (lv_at hl 3 rfl) ?_
          refine r_iald X hw h_51 rfl (by rw [h_54]; exact z_ix hz_a2 (by omega) (by omega)) dX11_metre_69 ?_
          refine lv_topi (fun v_56 ev_56 => ?_)
          have rg_57 := And.intro (z_lo v_56) (z_hi v_56)
          have ev_56 := ev_56.symm
          obtain ⟨t_58, ht_59⟩ : ∃ t, s_15.2.2.2[a2_z.toNat]? = some t := ⟨_, List.getElem?_eq_getElem (by have := k_24; omega)⟩
          obtain ⟨c_60, c_61⟩ := k_31 _ _ ht_59
          have ef_62 : fo_27 = q_49 := Option.some.inj (k_29.symm.trans h_50)
          have cx_63 : pA S fo_27 a2_z.toNat = v_56 := by rw [ef_62, ← z_nc hz_a2 (by omega)]; exact ev_56
          exact ret_i X hw hr hlocks (Nat.le_of_ble_eq_true rfl) (Nat.le_of_ble_eq_true rfl) ⟨rfl, ⟨z_lo _, z_hi _, fun s t h0 h1 h2 h3 => (by rw [hs_16] at h1; cases h1; rw [ht_59] at h3; cases h3; rw [meF_0 (by omega), ← c_60, cx_63]), fun h => absurd ⟨s_15, t_58, by omega, hs_16, by omega, ht_59⟩ h⟩⟩ dX11_metre_70
        by_cases w_64 : a3 = 1
        · refine lv_lookup (off := 37) (tgt := 71) X.1 X.2.1 dX11_metre_34 (by decide) (by rw [w_64]; decide +kernel) (by decide) ?_
          have k_65 : a3_z = 1 := z_eq hz_a3 ti_1 w_64
          refine lv_aload X.1 X.2.1 dX11_metre_71 (lv_at hl 0 rfl) ?_
          refine r_getR (g := 703) X hw ha_11 rfl 3 j_21 (by decide) rfl inn_X11_metre_7 (by decide) (X.2.2.2.1 (.fieldLink RX11 241 "SilkMill$Skein" "strand" "LSilkMill$Strand;") (by decide +kernel)) rfl (gv_703 _ _) dX11_metre_73 ?_
          obtain ⟨q_66, h_67, h_68, h_69, h_72⟩ := gC_9_901 hG ha_34
          obtain ⟨n_70, h_71⟩ : ∃ n, pN S q_66 = n := ⟨_, rfl⟩
          rw [ev_35, h_71] at h_69
          rw [h_71] at h_72
          refine r_getR (g := 901) X hw ha_34 rfl 1 h_67 (by decide) rfl inn_X11_metre_9 (by decide) (X.2.2.2.1 (.fieldLink RX11 272 "SilkMill$Strand" "endCounts" "[I") (by decide +kernel)) rfl (gv_901 _ _) dX11_metre_76 ?_
          refine lv_iload_n X.1 X.2.1 dX11_metre_79 rfl (lv_at hl 3 rfl) ?_
          refine r_iald X hw h_68 rfl (by rw [h_71]; exact z_ix hz_a2 (by omega) (by omega)) dX11_metre_80 ?_
          refine lv_topi (fun v_73 ev_73 => ?_)
          have rg_74 := And.intro (z_lo v_73) (z_hi v_73)
          have ev_73 := ev_73.symm
          obtain ⟨t_75, ht_76⟩ : ∃ t, s_15.2.2.2[a2_z.toNat]? = some t := ⟨_, List.getElem?_eq_getElem (by have := k_24; omega)⟩
          obtain ⟨c_77, c_78⟩ := k_31 _ _ ht_76
          have ef_79 : eo_28 = q_66 := Option.some.inj (k_30.symm.trans h_67)
          have cx_80 : pA S eo_28 a2_z.toNat = v_73 := by rw [ef_79, ← z_nc hz_a2 (by omega)]; exact ev_73
          exact ret_i X hw hr hlocks (Nat.le_of_ble_eq_true rfl) (Nat.le_of_ble_eq_true rfl) ⟨rfl, ⟨z_lo _, z_hi _, fun s t h0 h1 h2 h3 => (by rw [hs_16] at h1; cases h1; rw [ht_76] at h3; cases h3; rw [meF_1 (by omega), ← c_78, cx_80]), fun h => absurd ⟨s_15, t_75, by omega, hs_16, by omega, ht_76⟩ h⟩⟩ dX11_metre_81
        refine lv_lookup (off := 48) (tgt := 82) X.1 X.2.1 dX11_metre_34 (by decide) (by rw [show (#[(0, 26), (1, 37)] : Array (Int × Int)).toList = [(0, 26), (1, 37)] from rfl, lv_osw w_47 ti_0, lv_osw w_64 ti_1]; rfl) (by decide) ?_
        refine lv_iconst (v := (-1)) X.1 X.2.1 dX11_metre_82 (by decide) ?_
        obtain ⟨t_81, ht_82⟩ : ∃ t, s_15.2.2.2[a2_z.toNat]? = some t := ⟨_, List.getElem?_eq_getElem (by have := k_24; omega)⟩
        obtain ⟨c_83, c_84⟩ := k_31 _ _ ht_82
        have lk_85 : a3_z ≠ 0 := fun z => w_47 (i32_eq hz_a3 ti_0 z)
        have lk_86 : a3_z ≠ 1 := fun z => w_64 (i32_eq hz_a3 ti_1 z)
        exact ret_i X hw hr hlocks (Nat.le_of_ble_eq_true rfl) (Nat.le_of_ble_eq_true rfl) ⟨rfl, ⟨z_lo _, z_hi _, fun s t h0 h1 h2 h3 => (by rw [hs_16] at h1; cases h1; rw [ht_82] at h3; cases h3; rw [meF_d (by omega) (by omega)]; decide), fun h => absurd ⟨s_15, t_81, by omega, hs_16, by omega, ht_82⟩ h⟩⟩ dX11_metre_83
      · have z_b_87 := trivial
        have k_88 : a2_z ≥ v_35.toInt := z_nlt hz_a2 rfl c_44
        refine lv_iconst (v := (-1)) X.1 X.2.1 dX11_metre_31 (by decide) ?_
        exact ret_i X hw hr hlocks (Nat.le_of_ble_eq_true rfl) (Nat.le_of_ble_eq_true rfl) ⟨rfl, ⟨z_lo _, z_hi _, fun s t h0 h1 h2 h3 => (by exfalso; rw [hs_16] at h1; cases h1; have := (List.getElem?_eq_some_iff.mp h3).1; have := k_24; omega), fun _ => by decide⟩⟩ dX11_metre_32
