
set_option maxHeartbeats 4000000 in
set_option maxRecDepth 100000 in
theorem k_X11_piece8 (l : Launch) (G : va_G) (cy : Nat → ClassId) (κ : Nat → Nat) (S : PS) (sz : Nat) (x : Nat) (a1 : Int32) (a1_z : Int) (a2 : Int32) (a2_z : Int) (a3 : Int32) (a3_z : Int) (D : Nat → Prop) (K : Nat) (Ls : List Sk) (hG : GX S) (ha_x : At S x 11) (hz_a1 : a1.toInt = a1_z) (hz_a2 : a2.toInt = a2_z) (hz_a3 : a3.toInt = a3_z) (hp_0 : pR S 1107 x = some K) (hp_1 : SkV S D K Ls) (hp_2 : SkP S K Ls) : Ci l yX11_piece wsX11_piece ({ frames := 2, cells := 0, slots := 0, locals := 96 }) G cy κ S sz [.ref x, .int (a1), .int (a2), .int (a3)] (fun (r : Int32) (S9 : PS) => S = S9 ∧ (-2147483648 ≤ r.toInt ∧ r.toInt ≤ 2147483647 ∧ (∀ s p, 0 ≤ a1_z → Ls[a1_z.toNat]? = some s → 0 ≤ a2_z → (pcs s.2.2.2)[a2_z.toNat]? = some p → PcC S s.2.2.2 p r a3_z) ∧ (¬ PcI Ls a1_z a2_z a3_z → r.toInt = -1))) := by
  refine ent_m (cc := cX11_piece) (maxL := 5) (ret := (some .int)) (by decide) rfl (Nat.le_of_ble_eq_true rfl) ?_
  intro p e s m below meth c ls X hr hlocks hin hw hl hsz
  subst hsz
  have X : Cx p c cX11_piece 5 s [.ref x, .int (a1), .int (a2), .int (a3)].toArray wsX11_piece RX11 m G cy κ (AS S s.heap.size) := X
  have hl : lv_has ls 5 [(0, .ref x), (1, .int (a1)), (2, .int (a2)), (3, .int (a3))] := hl
  have rg_a1 : (-2147483648) ≤ a1_z ∧ a1_z ≤ 2147483647 := by rw [← hz_a1]; exact ⟨z_lo _, z_hi _⟩
  have rg_a2 : (-2147483648) ≤ a2_z ∧ a2_z ≤ 2147483647 := by rw [← hz_a2]; exact ⟨z_lo _, z_hi _⟩
  have rg_a3 : (-2147483648) ≤ a3_z ∧ a3_z ≤ 2147483647 := by rw [← hz_a3]; exact ⟨z_lo _, z_hi _⟩
  have haK := st_at hG ha_x hp_0
  obtain ⟨v_1, ev_1⟩ : ∃ v, pI S 800 K = v := ⟨_, rfl⟩
  have rg_2 := gI_8_800 hG haK; rw [ev_1] at rg_2
  have pz_3 : (pI S 800 K).toInt = v_1.toInt := by rw [ev_1]
  have pz_4 : (pI S 800 K).toInt = v_1.toInt := (congrArg Int32.toInt ev_1).trans rfl
  have hkl := hp_1.1
  refine lv_aload_n X.1 X.2.1 dX11_piece_0 rfl (lv_at hl 0 rfl) ?_
  refine r_getR (g := 1107) X hw ha_x rfl 7 hp_0 (by decide) rfl inn_X11_piece_11 (by decide) (X.2.2.2.1 (.fieldLink RX11 42 "SilkMill" "store" "LSilkMill$Store;") (by decide +kernel)) rfl (gv_1107 _ _) dX11_piece_1 ?_
  refine lv_iload_n X.1 X.2.1 dX11_piece_4 rfl (lv_at hl 1 rfl) ?_
  refine k_q (rm := { frames := 1, cells := 0, slots := 0, locals := 48 }) (av := [.ref K, .int (a1)]) X hw (va_runV (As := [.int (a1)]) (rest := []) (cfix X) (k_X8_skeinAt7 l G cy κ S _ K (a1) (a1_z) hG haK hz_a1) (cwV 1 X.2.2.2.1 gX11_piece_X8_skeinAt rfl rfl rfl (by decide +kernel) ⟨Nat.le_of_ble_eq_true rfl, Nat.le_of_ble_eq_true rfl⟩) (pre_V X hw _ haK rfl (by decide) rfl) rfl rfl hl.1 rfl (lv_room (Nat.le_of_ble_eq_true rfl)) dX11_piece_5 ⟨Nat.le_of_ble_eq_true rfl, Nat.le_of_ble_eq_true rfl⟩) 0 0 (Nat.le_of_ble_eq_true rfl) (Nat.le_of_ble_eq_true rfl) (fun rr_5 S_6 H locs hp hw hfr hnw => ?_)
  obtain ⟨e2, hp⟩ := hp
  subst e2
  obtain ⟨hq_7, hnf_8⟩ := hp
  rcases rr_5 with _ | q_9
  · refine W.eq (g2 := F0 m 8 ls (.null :: [])) rfl ?_
    have nf_10 := hnf_8 rfl
    refine lv_astoreN (lv' := [(4, .null), (0, .ref x), (1, .int (a1)), (2, .int (a2)), (3, .int (a3))]) X.1 X.2.1 dX11_piece_8 hl (by decide) rfl (fun ls hl => ?_)
    refine lv_aloadN X.1 X.2.1 dX11_piece_10 (lv_at hl 0 rfl) ?_
    refine lv_ifnullN (tgt := 31) X.1 X.2.1 dX11_piece_12 (by decide) ?_
    refine lv_iconst (v := (-1)) X.1 X.2.1 dX11_piece_31 (by decide) ?_
    exact ret_i X hw hr hlocks (Nat.le_of_ble_eq_true rfl) (Nat.le_of_ble_eq_true rfl) ⟨rfl, ⟨z_lo _, z_hi _, fun s p h0 h1 _ _ => (by exfalso; have := (List.getElem?_eq_some_iff.mp h1).1; exact nf_10 (SN_of hp_1) ⟨h0, by omega⟩), fun _ => by decide⟩⟩ dX11_piece_32
  · refine W.eq (g2 := F0 m 8 ls (.ref q_9 :: [])) rfl ?_
    obtain ⟨ha_11, f_12, f_13, f_14⟩ := hq_7 _ rfl
    obtain ⟨s_15, hs_16⟩ : ∃ s, Ls[a1_z.toNat]? = some s := ⟨_, List.getElem?_eq_getElem (by omega)⟩
    obtain ⟨o_17, b_18, j_19, j_20, j_21, j_22⟩ := hp_2 _ _ hs_16
    have eq_23 : o_17 = q_9 := Option.some.inj (j_19.symm.trans f_14)
    rw [eq_23] at j_20
    have ha_24 := sk_str hG ha_11 j_20
    obtain ⟨v_25, ev_25⟩ : ∃ v, pI S 904 b_18 = v := ⟨_, rfl⟩
    have rg_26 := gI_9_904 hG ha_24; rw [ev_25] at rg_26
    have pz_27 : (pI S 904 b_18).toInt = v_25.toInt := by rw [ev_25]
    have pz_28 : (pI S 904 b_18).toInt = v_25.toInt := (congrArg Int32.toInt ev_25).trans rfl
    have pl_29 := j_21.1
    refine lv_astore (lv' := [(4, .ref q_9), (0, .ref x), (1, .int (a1)), (2, .int (a2)), (3, .int (a3))]) X.1 X.2.1 dX11_piece_8 hl (by decide) rfl (fun ls hl => ?_)
    refine lv_aload X.1 X.2.1 dX11_piece_10 (lv_at hl 0 rfl) ?_
    refine lv_ifnull X.1 X.2.1 dX11_piece_12 ?_
    refine lv_iload_n X.1 X.2.1 dX11_piece_15 rfl (lv_at hl 3 rfl) ?_
    refine lv_if_lt (tgt := 31) X.1 X.2.1 dX11_piece_16 (by decide) (fun c_30 => ?_) (fun c_30 => ?_)
    · have z_b_31 := trivial
      have k_32 : a2_z < 0 := z_lt hz_a2 ti_0 c_30
      refine lv_iconst (v := (-1)) X.1 X.2.1 dX11_piece_31 (by decide) ?_
      exact ret_i X hw hr hlocks (Nat.le_of_ble_eq_true rfl) (Nat.le_of_ble_eq_true rfl) ⟨rfl, ⟨z_lo _, z_hi _, fun s p h0 h1 h2 h3 => (by exfalso; rw [hs_16] at h1; cases h1; have := (List.getElem?_eq_some_iff.mp h3).1; omega), fun _ => by decide⟩⟩ dX11_piece_32
    · have z_b_33 := trivial
      have k_34 : a2_z ≥ 0 := z_nlt hz_a2 ti_0 c_30
      refine lv_iload_n X.1 X.2.1 dX11_piece_19 rfl (lv_at hl 3 rfl) ?_
      refine lv_aload X.1 X.2.1 dX11_piece_20 (lv_at hl 0 rfl) ?_
      refine r_getR (g := 703) X hw ha_11 rfl 3 j_20 (by decide) rfl inn_X11_piece_7 (by decide) (X.2.2.2.1 (.fieldLink RX11 241 "SilkMill$Skein" "strand" "LSilkMill$Strand;") (by decide +kernel)) rfl (gv_703 _ _) dX11_piece_22 ?_
      refine r_getI (g := 904) (x := v_25) X hw ha_24 rfl 4 ev_25 (by decide) rfl inn_X11_piece_9 (by decide) (X.2.2.2.1 (.fieldLink RX11 254 "SilkMill$Strand" "pieces" "I") (by decide +kernel)) rfl (gv_904 _ _) dX11_piece_25 ?_
      refine lv_icmp_lt (tgt := 33) X.1 X.2.1 dX11_piece_28 (by decide) (fun c_35 => ?_) (fun c_35 => ?_)
      · have z_b_36 := trivial
        have k_37 : a2_z < v_25.toInt := z_lt hz_a2 rfl c_35
        refine lv_iload_n X.1 X.2.1 dX11_piece_33 rfl (lv_at hl 4 rfl) ?_
        by_cases w_38 : (a3).toInt < 0 ∨ 4 < (a3).toInt
        · refine lv_tableOut (tgt := 129) X.1 X.2.1 dX11_piece_34 w_38 (by decide) ?_
          refine lv_iconst (v := (-1)) X.1 X.2.1 dX11_piece_129 (by decide) ?_
          exact ret_i X hw hr hlocks (Nat.le_of_ble_eq_true rfl) (Nat.le_of_ble_eq_true rfl) ⟨rfl, ⟨z_lo _, z_hi _, fun s p h0 h1 h2 h3 => ⟨fun h => absurd h (by omega), fun h => absurd h (by omega), fun h => absurd h (by omega), fun h => absurd h (by omega), fun h => absurd h (by omega)⟩, fun _ => by decide⟩⟩ dX11_piece_130
        have w_38b : (a3).toInt = 0 ∨ (a3).toInt = 1 ∨ (a3).toInt = 2 ∨ (a3).toInt = 3 ∨ (a3).toInt = 4 := by omega
        rcases w_38b with w_38c | w_38c | w_38c | w_38c | w_38c
        · refine lv_tableIn (tgt := 68) X.1 X.2.1 dX11_piece_34 (by omega) (by omega) (by rw [w_38c]; rfl) (by decide) ?_
          refine lv_aload X.1 X.2.1 dX11_piece_68 (lv_at hl 0 rfl) ?_
          refine r_getR (g := 703) X hw ha_11 rfl 3 j_20 (by decide) rfl inn_X11_piece_7 (by decide) (X.2.2.2.1 (.fieldLink RX11 241 "SilkMill$Skein" "strand" "LSilkMill$Strand;") (by decide +kernel)) rfl (gv_703 _ _) dX11_piece_70 ?_
          obtain ⟨q_39, h_40, h_41, h_42, h_45⟩ := gC_9_905 hG ha_24
          obtain ⟨n_43, h_44⟩ : ∃ n, pN S q_39 = n := ⟨_, rfl⟩
          rw [ev_25, h_44] at h_42
          rw [h_44] at h_45
          refine r_getR (g := 905) X hw ha_24 rfl 5 h_40 (by decide) rfl inn_X11_piece_9 (by decide) (X.2.2.2.1 (.fieldLink RX11 275 "SilkMill$Strand" "codes" "[I") (by decide +kernel)) rfl (gv_905 _ _) dX11_piece_73 ?_
          refine lv_iload_n X.1 X.2.1 dX11_piece_76 rfl (lv_at hl 3 rfl) ?_
          refine r_iald X hw h_41 rfl (by rw [h_44]; exact z_ix hz_a2 (by omega) (by omega)) dX11_piece_77 ?_
          refine lv_topi (fun v_46 ev_46 => ?_)
          have rg_47 := And.intro (z_lo v_46) (z_hi v_46)
          have ev_46 := ev_46.symm
          refine lv_bipush (v := 100) X.1 X.2.1 dX11_piece_78 (by decide) ?_
          refine lv_idiv X.1 X.2.1 dX11_piece_80 (by decide) ?_
          refine lv_topi (fun v_48 ev_48 => ?_)
          have rg_49 := And.intro (z_lo v_48) (z_hi v_48)
          obtain ⟨p_50, hq_51⟩ : ∃ p, (pcs s_15.2.2.2)[a2_z.toNat]? = some p := ⟨_, List.getElem?_eq_getElem (by omega)⟩
          obtain ⟨c_52, c_53, c_54, c_55⟩ := j_21.2 _ _ hq_51
          have cx_56 : mA S b_18 905 a2_z.toNat = v_46 := by rw [mA_eq h_40, ← z_nc hz_a2 (by omega)]; exact ev_46
          exact ret_i X hw hr hlocks (Nat.le_of_ble_eq_true rfl) (Nat.le_of_ble_eq_true rfl) ⟨rfl, ⟨z_lo _, z_hi _, fun s p h0 h1 h2 h3 => (by rw [hs_16] at h1; cases h1; rw [hq_51] at h3; cases h3; exact ⟨fun _ => by rw [← c_52, cx_56]; exact ev_48, fun h => absurd h (by omega), fun h => absurd h (by omega), fun h => absurd h (by omega), fun h => absurd h (by omega)⟩), fun h => absurd ⟨s_15, p_50, by omega, hs_16, by omega, hq_51, by omega, by omega⟩ h⟩⟩ dX11_piece_81
        · refine lv_tableIn (tgt := 82) X.1 X.2.1 dX11_piece_34 (by omega) (by omega) (by rw [w_38c]; rfl) (by decide) ?_
          refine lv_aload X.1 X.2.1 dX11_piece_82 (lv_at hl 0 rfl) ?_
          refine r_getR (g := 703) X hw ha_11 rfl 3 j_20 (by decide) rfl inn_X11_piece_7 (by decide) (X.2.2.2.1 (.fieldLink RX11 241 "SilkMill$Skein" "strand" "LSilkMill$Strand;") (by decide +kernel)) rfl (gv_703 _ _) dX11_piece_84 ?_
          obtain ⟨q_57, h_58, h_59, h_60, h_63⟩ := gC_9_905 hG ha_24
          obtain ⟨n_61, h_62⟩ : ∃ n, pN S q_57 = n := ⟨_, rfl⟩
          rw [ev_25, h_62] at h_60
          rw [h_62] at h_63
          refine r_getR (g := 905) X hw ha_24 rfl 5 h_58 (by decide) rfl inn_X11_piece_9 (by decide) (X.2.2.2.1 (.fieldLink RX11 275 "SilkMill$Strand" "codes" "[I") (by decide +kernel)) rfl (gv_905 _ _) dX11_piece_87 ?_
          refine lv_iload_n X.1 X.2.1 dX11_piece_90 rfl (lv_at hl 3 rfl) ?_
          refine r_iald X hw h_59 rfl (by rw [h_62]; exact z_ix hz_a2 (by omega) (by omega)) dX11_piece_91 ?_
          refine lv_topi (fun v_64 ev_64 => ?_)
          have rg_65 := And.intro (z_lo v_64) (z_hi v_64)
          have ev_64 := ev_64.symm
          refine lv_bipush (v := 100) X.1 X.2.1 dX11_piece_92 (by decide) ?_
          refine lv_irem X.1 X.2.1 dX11_piece_94 (by decide) ?_
          refine lv_topi (fun v_66 ev_66 => ?_)
          have rg_67 := And.intro (z_lo v_66) (z_hi v_66)
          obtain ⟨p_68, hq_69⟩ : ∃ p, (pcs s_15.2.2.2)[a2_z.toNat]? = some p := ⟨_, List.getElem?_eq_getElem (by omega)⟩
          obtain ⟨c_70, c_71, c_72, c_73⟩ := j_21.2 _ _ hq_69
          have cx_74 : mA S b_18 905 a2_z.toNat = v_64 := by rw [mA_eq h_58, ← z_nc hz_a2 (by omega)]; exact ev_64
          exact ret_i X hw hr hlocks (Nat.le_of_ble_eq_true rfl) (Nat.le_of_ble_eq_true rfl) ⟨rfl, ⟨z_lo _, z_hi _, fun s p h0 h1 h2 h3 => (by rw [hs_16] at h1; cases h1; rw [hq_69] at h3; cases h3; exact ⟨fun h => absurd h (by omega), fun _ => by rw [← c_70, cx_74]; exact ev_66, fun h => absurd h (by omega), fun h => absurd h (by omega), fun h => absurd h (by omega)⟩), fun h => absurd ⟨s_15, p_68, by omega, hs_16, by omega, hq_69, by omega, by omega⟩ h⟩⟩ dX11_piece_95
        · refine lv_tableIn (tgt := 96) X.1 X.2.1 dX11_piece_34 (by omega) (by omega) (by rw [w_38c]; rfl) (by decide) ?_
          refine lv_aload X.1 X.2.1 dX11_piece_96 (lv_at hl 0 rfl) ?_
          refine r_getR (g := 703) X hw ha_11 rfl 3 j_20 (by decide) rfl inn_X11_piece_7 (by decide) (X.2.2.2.1 (.fieldLink RX11 241 "SilkMill$Skein" "strand" "LSilkMill$Strand;") (by decide +kernel)) rfl (gv_703 _ _) dX11_piece_98 ?_
          obtain ⟨q_75, h_76, h_77, h_78, h_81⟩ := gC_9_906 hG ha_24
          obtain ⟨n_79, h_80⟩ : ∃ n, pN S q_75 = n := ⟨_, rfl⟩
          rw [ev_25, h_80] at h_78
          rw [h_80] at h_81
          refine r_getR (g := 906) X hw ha_24 rfl 6 h_76 (by decide) rfl inn_X11_piece_9 (by decide) (X.2.2.2.1 (.fieldLink RX11 278 "SilkMill$Strand" "firsts" "[I") (by decide +kernel)) rfl (gv_906 _ _) dX11_piece_101 ?_
          refine lv_iload_n X.1 X.2.1 dX11_piece_104 rfl (lv_at hl 3 rfl) ?_
          refine r_iald X hw h_77 rfl (by rw [h_80]; exact z_ix hz_a2 (by omega) (by omega)) dX11_piece_105 ?_
          refine lv_topi (fun v_82 ev_82 => ?_)
          have rg_83 := And.intro (z_lo v_82) (z_hi v_82)
          have ev_82 := ev_82.symm
          obtain ⟨p_84, hq_85⟩ : ∃ p, (pcs s_15.2.2.2)[a2_z.toNat]? = some p := ⟨_, List.getElem?_eq_getElem (by omega)⟩
          obtain ⟨c_86, c_87, c_88, c_89⟩ := j_21.2 _ _ hq_85
          have cx_90 : mA S b_18 906 a2_z.toNat = v_82 := by rw [mA_eq h_76, ← z_nc hz_a2 (by omega)]; exact ev_82
          exact ret_i X hw hr hlocks (Nat.le_of_ble_eq_true rfl) (Nat.le_of_ble_eq_true rfl) ⟨rfl, ⟨z_lo _, z_hi _, fun s p h0 h1 h2 h3 => (by rw [hs_16] at h1; cases h1; rw [hq_85] at h3; cases h3; exact ⟨fun h => absurd h (by omega), fun h => absurd h (by omega), fun _ => by rw [← c_87, cx_90], fun h => absurd h (by omega), fun h => absurd h (by omega)⟩), fun h => absurd ⟨s_15, p_84, by omega, hs_16, by omega, hq_85, by omega, by omega⟩ h⟩⟩ dX11_piece_106
        · refine lv_tableIn (tgt := 107) X.1 X.2.1 dX11_piece_34 (by omega) (by omega) (by rw [w_38c]; rfl) (by decide) ?_
          refine lv_aload X.1 X.2.1 dX11_piece_107 (lv_at hl 0 rfl) ?_
          refine r_getR (g := 703) X hw ha_11 rfl 3 j_20 (by decide) rfl inn_X11_piece_7 (by decide) (X.2.2.2.1 (.fieldLink RX11 241 "SilkMill$Skein" "strand" "LSilkMill$Strand;") (by decide +kernel)) rfl (gv_703 _ _) dX11_piece_109 ?_
          obtain ⟨q_91, h_92, h_93, h_94, h_97⟩ := gC_9_907 hG ha_24
          obtain ⟨n_95, h_96⟩ : ∃ n, pN S q_91 = n := ⟨_, rfl⟩
          rw [ev_25, h_96] at h_94
          rw [h_96] at h_97
          refine r_getR (g := 907) X hw ha_24 rfl 7 h_92 (by decide) rfl inn_X11_piece_9 (by decide) (X.2.2.2.1 (.fieldLink RX11 281 "SilkMill$Strand" "lengths" "[I") (by decide +kernel)) rfl (gv_907 _ _) dX11_piece_112 ?_
          refine lv_iload_n X.1 X.2.1 dX11_piece_115 rfl (lv_at hl 3 rfl) ?_
          refine r_iald X hw h_93 rfl (by rw [h_96]; exact z_ix hz_a2 (by omega) (by omega)) dX11_piece_116 ?_
          refine lv_topi (fun v_98 ev_98 => ?_)
          have rg_99 := And.intro (z_lo v_98) (z_hi v_98)
          have ev_98 := ev_98.symm
          obtain ⟨p_100, hq_101⟩ : ∃ p, (pcs s_15.2.2.2)[a2_z.toNat]? = some p := ⟨_, List.getElem?_eq_getElem (by omega)⟩
          obtain ⟨c_102, c_103, c_104, c_105⟩ := j_21.2 _ _ hq_101
          have cx_106 : mA S b_18 907 a2_z.toNat = v_98 := by rw [mA_eq h_92, ← z_nc hz_a2 (by omega)]; exact ev_98
          exact ret_i X hw hr hlocks (Nat.le_of_ble_eq_true rfl) (Nat.le_of_ble_eq_true rfl) ⟨rfl, ⟨z_lo _, z_hi _, fun s p h0 h1 h2 h3 => (by rw [hs_16] at h1; cases h1; rw [hq_101] at h3; cases h3; exact ⟨fun h => absurd h (by omega), fun h => absurd h (by omega), fun h => absurd h (by omega), fun _ => by rw [← c_104, cx_106], fun h => absurd h (by omega)⟩), fun h => absurd ⟨s_15, p_100, by omega, hs_16, by omega, hq_101, by omega, by omega⟩ h⟩⟩ dX11_piece_117
        · refine lv_tableIn (tgt := 118) X.1 X.2.1 dX11_piece_34 (by omega) (by omega) (by rw [w_38c]; rfl) (by decide) ?_
          refine lv_aload X.1 X.2.1 dX11_piece_118 (lv_at hl 0 rfl) ?_
          refine r_getR (g := 703) X hw ha_11 rfl 3 j_20 (by decide) rfl inn_X11_piece_7 (by decide) (X.2.2.2.1 (.fieldLink RX11 241 "SilkMill$Skein" "strand" "LSilkMill$Strand;") (by decide +kernel)) rfl (gv_703 _ _) dX11_piece_120 ?_
          obtain ⟨q_107, h_108, h_109, h_110, h_113⟩ := gC_9_908 hG ha_24
          obtain ⟨n_111, h_112⟩ : ∃ n, pN S q_107 = n := ⟨_, rfl⟩
          rw [ev_25, h_112] at h_110
          rw [h_112] at h_113
          refine r_getR (g := 908) X hw ha_24 rfl 8 h_108 (by decide) rfl inn_X11_piece_9 (by decide) (X.2.2.2.1 (.fieldLink RX11 284 "SilkMill$Strand" "places" "[I") (by decide +kernel)) rfl (gv_908 _ _) dX11_piece_123 ?_
          refine lv_iload_n X.1 X.2.1 dX11_piece_126 rfl (lv_at hl 3 rfl) ?_
          refine r_iald X hw h_109 rfl (by rw [h_112]; exact z_ix hz_a2 (by omega) (by omega)) dX11_piece_127 ?_
          refine lv_topi (fun v_114 ev_114 => ?_)
          have rg_115 := And.intro (z_lo v_114) (z_hi v_114)
          have ev_114 := ev_114.symm
          obtain ⟨p_116, hq_117⟩ : ∃ p, (pcs s_15.2.2.2)[a2_z.toNat]? = some p := ⟨_, List.getElem?_eq_getElem (by omega)⟩
          obtain ⟨c_118, c_119, c_120, c_121⟩ := j_21.2 _ _ hq_117
          have cx_122 : mA S b_18 908 a2_z.toNat = v_114 := by rw [mA_eq h_108, ← z_nc hz_a2 (by omega)]; exact ev_114
          exact ret_i X hw hr hlocks (Nat.le_of_ble_eq_true rfl) (Nat.le_of_ble_eq_true rfl) ⟨rfl, ⟨z_lo _, z_hi _, fun s p h0 h1 h2 h3 => (by rw [hs_16] at h1; cases h1; rw [hq_117] at h3; cases h3; exact ⟨fun h => absurd h (by omega), fun h => absurd h (by omega), fun h => absurd h (by omega), fun h => absurd h (by omega), fun _ => by rw [← c_121, cx_122]⟩), fun h => absurd ⟨s_15, p_116, by omega, hs_16, by omega, hq_117, by omega, by omega⟩ h⟩⟩ dX11_piece_128
      · have z_b_123 := trivial
        have k_124 : a2_z ≥ v_25.toInt := z_nlt hz_a2 rfl c_35
        refine lv_iconst (v := (-1)) X.1 X.2.1 dX11_piece_31 (by decide) ?_
        exact ret_i X hw hr hlocks (Nat.le_of_ble_eq_true rfl) (Nat.le_of_ble_eq_true rfl) ⟨rfl, ⟨z_lo _, z_hi _, fun s p h0 h1 h2 h3 => (by exfalso; rw [hs_16] at h1; cases h1; have := (List.getElem?_eq_some_iff.mp h3).1; omega), fun _ => by decide⟩⟩ dX11_piece_32
