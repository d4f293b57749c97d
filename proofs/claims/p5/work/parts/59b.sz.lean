
set_option maxHeartbeats 4000000 in
set_option maxRecDepth 100000 in
theorem k_X4_fetchLost3 (l : Launch) (G : va_G) (cy : Nat → ClassId) (κ : Nat → Nat) (S : PS) (sz : Nat) (x : Nat) (A : Nat → Prop) (hG : GX S) (ha_x : At S x 4) (hp_0 : AO A S) (hp_1 : PIn A S x) : Cv l yX4_fetchLost wsX4_fetchLost ({ frames := 3, cells := 0, slots := 0, locals := 144 }) G cy κ S sz [.ref x] (fun (S9 : PS) => Ok eFL S S9 ∧ (Tch A S S9)) := by
  refine ent_m (cc := cX4_fetchLost) (maxL := 2) (ret := none) (by decide) rfl (Nat.le_of_ble_eq_true rfl) ?_
  intro p e s m below meth c ls X hr hlocks hin hw hl hsz
  subst hsz
  have X : Cx p c cX4_fetchLost 2 s [.ref x].toArray wsX4_fetchLost RX4 m G cy κ (AS S s.heap.size) := X
  have hl : lv_has ls 2 [(0, .ref x)] := hl
  have hO : Ok eFL S S := Ok.rf hG
  obtain ⟨q_1, h_2, h_3⟩ := gQ_4_400 hO.1 ha_x
  obtain ⟨q_5, n_6, h_7, h_8, h_9, h_10, h_11⟩ := gRowQ hO.1 h_3
  have hA_12 : A q_5 := hp_1 _ _ (Or.inl h_2) h_7
  obtain ⟨q_13, h_14, h_15⟩ := gQ_4_401 hO.1 ha_x
  obtain ⟨q_17, n_18, h_19, h_20, h_21, h_22, h_23⟩ := gRowQ hO.1 h_15
  have hA_24 : A q_17 := hp_1 _ _ (Or.inr (Or.inl h_14)) h_19
  obtain ⟨q_25, h_26, h_27⟩ := gQ_4_402 hO.1 ha_x
  obtain ⟨q_29, n_30, h_31, h_32, h_33, h_34, h_35⟩ := gRowQ hO.1 h_27
  have hA_36 : A q_29 := hp_1 _ _ (Or.inr (Or.inr h_26)) h_31
  have htc0 : Tch A S S := Tch_rf A S
  refine lv_aload_n X.1 X.2.1 dX4_fetchLost_0 rfl (lv_at hl 0 rfl) ?_
  refine r_getR (g := 402) X hw ha_x rfl 2 h_26 (by decide) rfl inn_X4_fetchLost_4 (by decide) (X.2.2.2.1 (.fieldLink RX4 23 "SilkMill$Pot" "lost" "LSilkMill$Row;") (by decide +kernel)) rfl (gv_402 _ _) dX4_fetchLost_1 ?_
  refine k_q (rm := { frames := 2, cells := 0, slots := 0, locals := 96 }) (av := [.ref q_25]) X hw (va_runV (As := []) (rest := []) (cfix X) (k_X5_removeFirst3 l G cy κ S _ q_25 A hO.1 h_27 (AO_ext htc0.1 hp_0) (fun q h => by rw [h_31] at h; cases h; exact hA_36)) (cwV 0 X.2.2.2.1 gX4_fetchLost_X5_removeFirst rfl rfl rfl (by decide +kernel) ⟨Nat.le_of_ble_eq_true rfl, Nat.le_of_ble_eq_true rfl⟩) (pre_V X hw _ h_27 rfl (by decide) rfl) rfl rfl hl.1 rfl (lv_room (Nat.le_of_ble_eq_true rfl)) dX4_fetchLost_4 ⟨Nat.le_of_ble_eq_true rfl, Nat.le_of_ble_eq_true rfl⟩) 0 0 (Nat.le_of_ble_eq_true rfl) (Nat.le_of_ble_eq_true rfl) (fun rr_37 S_38 H locs hp hw hfr hnw => ?_)
  obtain ⟨hk_39, hp⟩ := hp
  have hO_40 : Ok eFL S S_38 := hO.call hk_39 (by decide +kernel)
  have hq_41 := hp
  rcases rr_37 with _ | q_42
  · refine W.eq (g2 := F0 m 7 ls (.null :: [])) rfl ?_
    refine lv_astore_nN (lv' := [(1, .null), (0, .ref x)]) X.1 X.2.1 dX4_fetchLost_7 rfl hl (by decide) rfl (fun ls hl => ?_)
    refine lv_aload_nN X.1 X.2.1 dX4_fetchLost_8 rfl (lv_at hl 0 rfl) ?_
    refine lv_ifnullN (tgt := 25) X.1 X.2.1 dX4_fetchLost_9 (by decide) ?_
    refine lv_aload_n X.1 X.2.1 dX4_fetchLost_25 rfl (lv_at hl 1 rfl) ?_
    have t_43 : At S_38 x 4 := hk_39.fr.at ha_x
    have t_44 : pR S_38 402 x = some q_25 := hk_39.fr.R' (by decide +kernel) ha_x h_26
    refine r_getR (g := 402) X hw t_43 rfl 2 t_44 (by decide) rfl inn_X4_fetchLost_4 (by decide) (X.2.2.2.1 (.fieldLink RX4 23 "SilkMill$Pot" "lost" "LSilkMill$Row;") (by decide +kernel)) rfl (gv_402 _ _) dX4_fetchLost_26 ?_
    have t_45 : At S_38 q_25 5 := hk_39.fr.at h_27
    obtain ⟨v_46, ev_46⟩ : ∃ v, pI S_38 500 q_25 = v := ⟨_, rfl⟩
    have t_48 : pR S_38 501 q_25 = some q_29 := hk_39.fr.R' (by decide +kernel) h_27 h_31
    have t_49 : pN S_38 q_29 = n_30 := hk_39.fr.N h_32 h_33
    clear h_33
    have rg_47 := gRow_500 hO_40.1 t_45 t_48 t_49; rw [ev_46] at rg_47
    refine r_getI (g := 500) (x := v_46) X hw t_45 rfl 0 ev_46 (by decide) rfl inn_X4_fetchLost_5 (by decide) (X.2.2.2.1 (.fieldLink RX4 73 "SilkMill$Row" "size" "I") (by decide +kernel)) rfl (gv_500 _ _) dX4_fetchLost_29 ?_
    refine lv_if_ne (tgt := 40) X.1 X.2.1 dX4_fetchLost_32 (by decide) (fun c_50 => ?_) (fun c_50 => ?_)
    · have z_b_51 := trivial
      have k_52 : v_46.toInt ≠ 0 := z_ne rfl ti_0 c_50
      have tc_53 : Tch A S S_38 := Tch_fr htc0 hk_39.fr hp_0 (by decide +kernel) (by decide +kernel)
      exact ret_v X hw hr hlocks (Nat.le_of_ble_eq_true rfl) (Nat.le_of_ble_eq_true rfl) ⟨hO_40, tc_53⟩ dX4_fetchLost_40
    · have z_b_54 := trivial
      have k_55 : v_46.toInt = 0 := z_eq rfl ti_0 c_50
      refine lv_aload_n X.1 X.2.1 dX4_fetchLost_35 rfl (lv_at hl 1 rfl) ?_
      refine lv_iconst (v := 0) X.1 X.2.1 dX4_fetchLost_36 (by decide) ?_
      refine r_putI (v := 0) X hw t_43 rfl 6 406 tyX4 (by decide) rfl inn_X4_fetchLost_4 tyX4_ok nmX4 (by decide) (X.2.2.2.1 (.fieldLink RX4 91 "SilkMill$Pot" "search" "I") (by decide +kernel)) rfl (Or.inl rfl) rfl rfl (Nat.le_of_ble_eq_true rfl) (st_406 _ _) dX4_fetchLost_37 (fun H locs hw => ?_)
      obtain ⟨S_56, eS_56⟩ : ∃ T, T = sI S_38 406 x (0) := ⟨_, rfl⟩
      rw [← eS_56] at hw
      have hO_57 : Ok eFL S S_56 := hO_40.sI eS_56 (by decide +kernel) (uI_4_406 hO_40.1 t_43)
      have h_58 : pI S_56 406 x = 0 := tI_sIs eS_56
      have tc_59 : Tch A S S_38 := Tch_fr htc0 hk_39.fr hp_0 (by decide +kernel) (by decide +kernel)
      have tc_60 : Tch A S S_56 := Tch_sI tc_59 eS_56 (by decide)
      exact ret_v X hw hr hlocks (Nat.le_of_ble_eq_true rfl) (Nat.le_of_ble_eq_true rfl) ⟨hO_57, tc_60⟩ dX4_fetchLost_40
  · refine W.eq (g2 := F0 m 7 ls (.ref q_42 :: [])) rfl ?_
    obtain ⟨ha_61, f_62, f_63⟩ := hq_41 _ rfl
    have rh_64 : RH A S q_42 := htc0.2.1 _ f_62
    refine lv_astore_n (lv' := [(1, .ref q_42), (0, .ref x)]) X.1 X.2.1 dX4_fetchLost_7 rfl hl (by decide) rfl (fun ls hl => ?_)
    refine lv_aload_n X.1 X.2.1 dX4_fetchLost_8 rfl (lv_at hl 0 rfl) ?_
    refine lv_ifnull X.1 X.2.1 dX4_fetchLost_9 ?_
    refine lv_aload_n X.1 X.2.1 dX4_fetchLost_12 rfl (lv_at hl 0 rfl) ?_
    refine lv_iconst (v := 1) X.1 X.2.1 dX4_fetchLost_13 (by decide) ?_
    refine r_putI (v := 1) X hw ha_61 rfl 3 3 tyX0 (by decide) rfl inn_X4_fetchLost_0 tyX0_ok nmX0 (by decide) (X.2.2.2.1 (.fieldLink RX4 53 "SilkMill$Cocoon" "stand" "I") (by decide +kernel)) rfl (Or.inl rfl) rfl rfl (Nat.le_of_ble_eq_true rfl) (st_3 _ _) dX4_fetchLost_14 (fun H locs hw => ?_)
    obtain ⟨S_65, eS_65⟩ : ∃ T, T = sI S_38 3 q_42 (1) := ⟨_, rfl⟩
    rw [← eS_65] at hw
    have hO_66 : Ok eFL S S_65 := hO_40.sI eS_65 (by decide +kernel) (uI_0_3 hO_40.1 ha_61)
    have h_67 : pI S_65 3 q_42 = 1 := tI_sIs eS_65
    refine lv_aload_n X.1 X.2.1 dX4_fetchLost_17 rfl (lv_at hl 1 rfl) ?_
    have t_68 : At S_38 x 4 := hk_39.fr.at ha_x
    have t_69 : At S_65 x 4 := tAt_sI eS_65 t_68
    have t_70 : pR S_38 400 x = some q_1 := hk_39.fr.R' (by decide +kernel) ha_x h_2
    have t_71 : pR S_65 400 x = some q_1 := tR_sI eS_65 t_70
    refine r_getR (g := 400) X hw t_69 rfl 0 t_71 (by decide) rfl inn_X4_fetchLost_4 (by decide) (X.2.2.2.1 (.fieldLink RX4 14 "SilkMill$Pot" "basket" "LSilkMill$Row;") (by decide +kernel)) rfl (gv_400 _ _) dX4_fetchLost_18 ?_
    refine lv_aload_n X.1 X.2.1 dX4_fetchLost_21 rfl (lv_at hl 0 rfl) ?_
    have t_72 : At S_38 q_1 5 := hk_39.fr.at h_3
    have t_73 : At S_65 q_1 5 := tAt_sI eS_65 t_72
    have t_74 : At S_65 q_42 0 := tAt_sI eS_65 ha_61
    have tc_75 : Tch A S S_38 := Tch_fr htc0 hk_39.fr hp_0 (by decide +kernel) (by decide +kernel)
    have tc_76 : Tch A S S_65 := Tch_s3 tc_75 eS_65 rh_64 ⟨by decide, by decide⟩
    have t_77 : pR S_38 501 q_1 = some q_5 := hk_39.fr.R' (by decide +kernel) h_3 h_7
    have t_78 : pR S_65 501 q_1 = some q_5 := tR_sI eS_65 t_77
    have t_79 : pN S_38 q_5 = n_6 := hk_39.fr.N h_8 h_9
    clear h_9
    have t_80 : pN S_65 q_5 = n_6 := tN_sI eS_65 t_79
    clear t_79
    refine k_v (rm := { frames := 2, cells := 0, slots := 0, locals := 96 }) (av := [.ref q_1, .ref q_42]) X hw (va_runV (As := [.ref q_42]) (rest := []) (cfix X) (k_X5_addLast3 l G cy κ S_65 _ q_1 q_42 A hO_66.1 t_73 t_74 (AO_ext tc_76.1 hp_0) (fun q h => by rw [t_78] at h; cases h; exact hA_12)) (cwV 1 X.2.2.2.1 gX4_fetchLost_X5_addLast rfl rfl rfl (by decide +kernel) ⟨Nat.le_of_ble_eq_true rfl, Nat.le_of_ble_eq_true rfl⟩) (pre_V X hw _ t_73 rfl (by decide) rfl) rfl rfl hl.1 rfl (lv_room (Nat.le_of_ble_eq_true rfl)) dX4_fetchLost_22 ⟨Nat.le_of_ble_eq_true rfl, Nat.le_of_ble_eq_true rfl⟩) 0 0 (Nat.le_of_ble_eq_true rfl) (Nat.le_of_ble_eq_true rfl) (fun S_82 H locs hp hw hfr hnw => ?_)
    obtain ⟨hk_83, hp⟩ := hp
    have hO_84 : Ok eFL S S_82 := hO_66.call hk_83 (by decide +kernel)
    have hA_85 := hp
    refine lv_aload_n X.1 X.2.1 dX4_fetchLost_25 rfl (lv_at hl 1 rfl) ?_
    have t_86 : At S_82 x 4 := hk_83.fr.at t_69
    have t_87 : pR S_38 402 x = some q_25 := hk_39.fr.R' (by decide +kernel) ha_x h_26
    have t_88 : pR S_65 402 x = some q_25 := tR_sI eS_65 t_87
    have t_89 : pR S_82 402 x = some q_25 := hk_83.fr.R' (by decide +kernel) t_69 t_88
    refine r_getR (g := 402) X hw t_86 rfl 2 t_89 (by decide) rfl inn_X4_fetchLost_4 (by decide) (X.2.2.2.1 (.fieldLink RX4 23 "SilkMill$Pot" "lost" "LSilkMill$Row;") (by decide +kernel)) rfl (gv_402 _ _) dX4_fetchLost_26 ?_
    have t_90 : At S_38 q_25 5 := hk_39.fr.at h_27
    have t_91 : At S_65 q_25 5 := tAt_sI eS_65 t_90
    have t_92 : At S_82 q_25 5 := hk_83.fr.at t_91
    obtain ⟨v_93, ev_93⟩ : ∃ v, pI S_82 500 q_25 = v := ⟨_, rfl⟩
    have t_95 : pR S_38 501 q_25 = some q_29 := hk_39.fr.R' (by decide +kernel) h_27 h_31
    have t_96 : pR S_65 501 q_25 = some q_29 := tR_sI eS_65 t_95
    have t_98 : At S_38 q_25 5 := hk_39.fr.at h_27
    have t_99 : At S_65 q_25 5 := tAt_sI eS_65 t_98
    have t_97 : pR S_82 501 q_25 = some q_29 := hk_83.fr.R' (by decide +kernel) t_99 t_96
    have t_100 : pN S_38 q_29 = n_30 := hk_39.fr.N h_32 h_33
    clear h_33
    have t_101 : pN S_65 q_29 = n_30 := tN_sI eS_65 t_100
    clear t_100
    have t_103 : At S_38 q_29 16 := hk_39.fr.at h_32
    have t_104 : At S_65 q_29 16 := tAt_sI eS_65 t_103
    have t_102 : pN S_82 q_29 = n_30 := hk_83.fr.N t_104 t_101
    clear t_101
    have rg_94 := gRow_500 hO_84.1 t_92 t_97 t_102; rw [ev_93] at rg_94
    refine r_getI (g := 500) (x := v_93) X hw t_92 rfl 0 ev_93 (by decide) rfl inn_X4_fetchLost_5 (by decide) (X.2.2.2.1 (.fieldLink RX4 73 "SilkMill$Row" "size" "I") (by decide +kernel)) rfl (gv_500 _ _) dX4_fetchLost_29 ?_
    refine lv_if_ne (tgt := 40) X.1 X.2.1 dX4_fetchLost_32 (by decide) (fun c_105 => ?_) (fun c_105 => ?_)
    · have z_b_106 := trivial
      have k_107 : v_93.toInt ≠ 0 := z_ne rfl ti_0 c_105
      have tc_108 : Tch A S S_82 := Tch_add tc_76 hk_83.fr (by decide +kernel) hA_85 rh_64
      exact ret_v X hw hr hlocks (Nat.le_of_ble_eq_true rfl) (Nat.le_of_ble_eq_true rfl) ⟨hO_84, tc_108⟩ dX4_fetchLost_40
    · have z_b_109 := trivial
      have k_110 : v_93.toInt = 0 := z_eq rfl ti_0 c_105
      refine lv_aload_n X.1 X.2.1 dX4_fetchLost_35 rfl (lv_at hl 1 rfl) ?_
      refine lv_iconst (v := 0) X.1 X.2.1 dX4_fetchLost_36 (by decide) ?_
      refine r_putI (v := 0) X hw t_86 rfl 6 406 tyX4 (by decide) rfl inn_X4_fetchLost_4 tyX4_ok nmX4 (by decide) (X.2.2.2.1 (.fieldLink RX4 91 "SilkMill$Pot" "search" "I") (by decide +kernel)) rfl (Or.inl rfl) rfl rfl (Nat.le_of_ble_eq_true rfl) (st_406 _ _) dX4_fetchLost_37 (fun H locs hw => ?_)
      obtain ⟨S_111, eS_111⟩ : ∃ T, T = sI S_82 406 x (0) := ⟨_, rfl⟩
      rw [← eS_111] at hw
      have hO_112 : Ok eFL S S_111 := hO_84.sI eS_111 (by decide +kernel) (uI_4_406 hO_84.1 t_86)
      have h_113 : pI S_111 406 x = 0 := tI_sIs eS_111
      have tc_114 : Tch A S S_82 := Tch_add tc_76 hk_83.fr (by decide +kernel) hA_85 rh_64
      have tc_115 : Tch A S S_111 := Tch_sI tc_114 eS_111 (by decide)
      exact ret_v X hw hr hlocks (Nat.le_of_ble_eq_true rfl) (Nat.le_of_ble_eq_true rfl) ⟨hO_112, tc_115⟩ dX4_fetchLost_40
set_option maxHeartbeats 4000000 in
set_option maxRecDepth 100000 in
theorem k_X4_searchLost3 (l : Launch) (G : va_G) (cy : Nat → ClassId) (κ : Nat → Nat) (S : PS) (sz : Nat) (x : Nat) (A : Nat → Prop) (hG : GX S) (ha_x : At S x 4) (hp_0 : AO A S) (hp_1 : PIn A S x) : Cv l yX4_searchLost wsX4_searchLost ({ frames := 4, cells := 0, slots := 0, locals := 192 }) G cy κ S sz [.ref x] (fun (S9 : PS) => Ok eFL S S9 ∧ (Tch A S S9)) := by
  refine ent_m (cc := cX4_searchLost) (maxL := 1) (ret := none) (by decide) rfl (Nat.le_of_ble_eq_true rfl) ?_
  intro p e s m below meth c ls X hr hlocks hin hw hl hsz
  subst hsz
  have X : Cx p c cX4_searchLost 1 s [.ref x].toArray wsX4_searchLost RX4 m G cy κ (AS S s.heap.size) := X
  have hl : lv_has ls 1 [(0, .ref x)] := hl
  have hO : Ok eFL S S := Ok.rf hG
  obtain ⟨q_1, h_2, h_3⟩ := gQ_4_400 hO.1 ha_x
  obtain ⟨q_5, n_6, h_7, h_8, h_9, h_10, h_11⟩ := gRowQ hO.1 h_3
  have hA_12 : A q_5 := hp_1 _ _ (Or.inl h_2) h_7
  obtain ⟨q_13, h_14, h_15⟩ := gQ_4_401 hO.1 ha_x
  obtain ⟨q_17, n_18, h_19, h_20, h_21, h_22, h_23⟩ := gRowQ hO.1 h_15
  have hA_24 : A q_17 := hp_1 _ _ (Or.inr (Or.inl h_14)) h_19
  obtain ⟨q_25, h_26, h_27⟩ := gQ_4_402 hO.1 ha_x
  obtain ⟨q_29, n_30, h_31, h_32, h_33, h_34, h_35⟩ := gRowQ hO.1 h_27
  have hA_36 : A q_29 := hp_1 _ _ (Or.inr (Or.inr h_26)) h_31
  have htc0 : Tch A S S := Tch_rf A S
  refine lv_aload_n X.1 X.2.1 dX4_searchLost_0 rfl (lv_at hl 0 rfl) ?_
  refine r_getR (g := 402) X hw ha_x rfl 2 h_26 (by decide) rfl inn_X4_searchLost_4 (by decide) (X.2.2.2.1 (.fieldLink RX4 23 "SilkMill$Pot" "lost" "LSilkMill$Row;") (by decide +kernel)) rfl (gv_402 _ _) dX4_searchLost_1 ?_
  obtain ⟨v_37, ev_37⟩ : ∃ v, pI S 500 q_25 = v := ⟨_, rfl⟩
  have rg_38 := gRow_500 hO.1 h_27 h_31 h_33; rw [ev_37] at rg_38
  refine r_getI (g := 500) (x := v_37) X hw h_27 rfl 0 ev_37 (by decide) rfl inn_X4_searchLost_5 (by decide) (X.2.2.2.1 (.fieldLink RX4 73 "SilkMill$Row" "size" "I") (by decide +kernel)) rfl (gv_500 _ _) dX4_searchLost_4 ?_
  refine lv_if_ne (tgt := 11) X.1 X.2.1 dX4_searchLost_7 (by decide) (fun c_39 => ?_) (fun c_39 => ?_)
  · have z_b_40 := trivial
    have k_41 : v_37.toInt ≠ 0 := z_ne rfl ti_0 c_39
    refine lv_aload_n X.1 X.2.1 dX4_searchLost_11 rfl (lv_at hl 0 rfl) ?_
    refine lv_dup X.1 X.2.1 dX4_searchLost_12 rfl ?_
    obtain ⟨v_42, ev_42⟩ : ∃ v, pI S 406 x = v := ⟨_, rfl⟩
    have rg_44 := And.intro (z_lo v_42) (z_hi v_42)
    refine r_getI (g := 406) (x := v_42) X hw ha_x rfl 6 ev_42 (by decide) rfl inn_X4_searchLost_4 (by decide) (X.2.2.2.1 (.fieldLink RX4 91 "SilkMill$Pot" "search" "I") (by decide +kernel)) rfl (gv_406 _ _) dX4_searchLost_13 ?_
    refine lv_iconst (v := 1) X.1 X.2.1 dX4_searchLost_16 (by decide) ?_
    refine lv_iadd X.1 X.2.1 dX4_searchLost_17 ?_
    refine lv_topi (fun v_45 ev_45 => ?_)
    have rg_46 := And.intro (z_lo v_45) (z_hi v_45)
    refine r_putI (v := v_45) X hw ha_x rfl 6 406 tyX4 (by decide) rfl inn_X4_searchLost_4 tyX4_ok nmX4 (by decide) (X.2.2.2.1 (.fieldLink RX4 91 "SilkMill$Pot" "search" "I") (by decide +kernel)) rfl (Or.inl rfl) rfl rfl (Nat.le_of_ble_eq_true rfl) (st_406 _ _) dX4_searchLost_18 (fun H locs hw => ?_)
    obtain ⟨S_47, eS_47⟩ : ∃ T, T = sI S 406 x (v_45) := ⟨_, rfl⟩
    rw [← eS_47] at hw
    have hO_48 : Ok eFL S S_47 := hO.sI eS_47 (by decide +kernel) (uI_4_406 hO.1 ha_x)
    have h_49 : pI S_47 406 x = v_45 := tI_sIs eS_47
    refine lv_aload_n X.1 X.2.1 dX4_searchLost_21 rfl (lv_at hl 0 rfl) ?_
    have t_50 : At S_47 x 4 := tAt_sI eS_47 ha_x
    refine r_getI (g := 406) (x := v_45) X hw t_50 rfl 6 h_49 (by decide) rfl inn_X4_searchLost_4 (by decide) (X.2.2.2.1 (.fieldLink RX4 91 "SilkMill$Pot" "search" "I") (by decide +kernel)) rfl (gv_406 _ _) dX4_searchLost_22 ?_
    refine lv_aload_n X.1 X.2.1 dX4_searchLost_25 rfl (lv_at hl 0 rfl) ?_
    obtain ⟨v_51, ev_51⟩ : ∃ v, pI S_47 411 x = v := ⟨_, rfl⟩
    have rg_53 := And.intro (z_lo v_51) (z_hi v_51)
    refine r_getI (g := 411) (x := v_51) X hw t_50 rfl 11 ev_51 (by decide) rfl inn_X4_searchLost_4 (by decide) (X.2.2.2.1 (.fieldLink RX4 47 "SilkMill$Pot" "find" "I") (by decide +kernel)) rfl (gv_411 _ _) dX4_searchLost_26 ?_
    refine lv_icmp_lt (tgt := 41) X.1 X.2.1 dX4_searchLost_29 (by decide) (fun c_54 => ?_) (fun c_54 => ?_)
    · have z_b_55 := trivial
      have k_56 : v_45.toInt < v_51.toInt := z_lt rfl rfl c_54
      have tc_57 : Tch A S S_47 := Tch_sI htc0 eS_47 (by decide)
      exact ret_v X hw hr hlocks (Nat.le_of_ble_eq_true rfl) (Nat.le_of_ble_eq_true rfl) ⟨hO_48, tc_57⟩ dX4_searchLost_41
    · have z_b_58 := trivial
      have k_59 : v_45.toInt ≥ v_51.toInt := z_nlt rfl rfl c_54
      refine lv_aload_n X.1 X.2.1 dX4_searchLost_32 rfl (lv_at hl 0 rfl) ?_
      refine lv_iconst (v := 0) X.1 X.2.1 dX4_searchLost_33 (by decide) ?_
      refine r_putI (v := 0) X hw t_50 rfl 6 406 tyX4 (by decide) rfl inn_X4_searchLost_4 tyX4_ok nmX4 (by decide) (X.2.2.2.1 (.fieldLink RX4 91 "SilkMill$Pot" "search" "I") (by decide +kernel)) rfl (Or.inl rfl) rfl rfl (Nat.le_of_ble_eq_true rfl) (st_406 _ _) dX4_searchLost_34 (fun H locs hw => ?_)
      obtain ⟨S_60, eS_60⟩ : ∃ T, T = sI S_47 406 x (0) := ⟨_, rfl⟩
      rw [← eS_60] at hw
      have hO_61 : Ok eFL S S_60 := hO_48.sI eS_60 (by decide +kernel) (uI_4_406 hO_48.1 t_50)
      have h_62 : pI S_60 406 x = 0 := tI_sIs eS_60
      refine lv_aload_n X.1 X.2.1 dX4_searchLost_37 rfl (lv_at hl 0 rfl) ?_
      have t_63 : At S_60 x 4 := tAt_sI eS_60 t_50
      have tc_64 : Tch A S S_47 := Tch_sI htc0 eS_47 (by decide)
      have tc_65 : Tch A S S_60 := Tch_sI tc_64 eS_60 (by decide)
      have t_66 : pR S_47 400 x = some q_1 := tR_sI eS_47 h_2
      have t_67 : pR S_60 400 x = some q_1 := tR_sI eS_60 t_66
      have t_68 : pR S_47 501 q_1 = some q_5 := tR_sI eS_47 h_7
      have t_69 : pR S_60 501 q_1 = some q_5 := tR_sI eS_60 t_68
      have t_70 : pN S_47 q_5 = n_6 := tN_sI eS_47 h_9
      clear h_9
      have t_71 : pN S_60 q_5 = n_6 := tN_sI eS_60 t_70
      clear t_70
      have t_72 : pR S_47 401 x = some q_13 := tR_sI eS_47 h_14
      have t_73 : pR S_60 401 x = some q_13 := tR_sI eS_60 t_72
      have t_74 : pR S_47 501 q_13 = some q_17 := tR_sI eS_47 h_19
      have t_75 : pR S_60 501 q_13 = some q_17 := tR_sI eS_60 t_74
      have t_76 : pN S_47 q_17 = n_18 := tN_sI eS_47 h_21
      clear h_21
      have t_77 : pN S_60 q_17 = n_18 := tN_sI eS_60 t_76
      clear t_76
      have t_78 : pR S_47 402 x = some q_25 := tR_sI eS_47 h_26
      have t_79 : pR S_60 402 x = some q_25 := tR_sI eS_60 t_78
      have t_80 : pR S_47 501 q_25 = some q_29 := tR_sI eS_47 h_31
      have t_81 : pR S_60 501 q_25 = some q_29 := tR_sI eS_60 t_80
      have t_82 : pN S_47 q_29 = n_30 := tN_sI eS_47 h_33
      clear h_33
      have t_83 : pN S_60 q_29 = n_30 := tN_sI eS_60 t_82
      clear t_82
      refine k_v (rm := { frames := 3, cells := 0, slots := 0, locals := 144 }) (av := [.ref x]) X hw (va_runV (As := []) (rest := []) (cfix X) (k_X4_fetchLost3 l G cy κ S_60 _ x A hO_61.1 t_63 (AO_ext tc_65.1 hp_0) (fun R q h1 h2 => by rcases h1 with h1 | h1 | h1; rw [t_67] at h1; cases h1; rw [t_69] at h2; cases h2; exact hA_12; rw [t_73] at h1; cases h1; rw [t_75] at h2; cases h2; exact hA_24; rw [t_79] at h1; cases h1; rw [t_81] at h2; cases h2; exact hA_36)) (cwV 0 X.2.2.2.1 gX4_searchLost_X4_fetchLost rfl rfl rfl (by decide +kernel) ⟨Nat.le_of_ble_eq_true rfl, Nat.le_of_ble_eq_true rfl⟩) (pre_V X hw _ t_63 rfl (by decide) rfl) rfl rfl hl.1 rfl (lv_room (Nat.le_of_ble_eq_true rfl)) dX4_searchLost_38 ⟨Nat.le_of_ble_eq_true rfl, Nat.le_of_ble_eq_true rfl⟩) 0 0 (Nat.le_of_ble_eq_true rfl) (Nat.le_of_ble_eq_true rfl) (fun S_85 H locs hp hw hfr hnw => ?_)
      obtain ⟨hk_86, hp⟩ := hp
      have hO_87 : Ok eFL S S_85 := hO_61.call hk_86 (by decide +kernel)
      have hT_88 := hp
      have tc_89 : Tch A S S_85 := Tch_tr tc_65 hT_88
      exact ret_v X hw hr hlocks (Nat.le_of_ble_eq_true rfl) (Nat.le_of_ble_eq_true rfl) ⟨hO_87, tc_89⟩ dX4_searchLost_41
  · have z_b_90 := trivial
    have k_91 : v_37.toInt = 0 := z_eq rfl ti_0 c_39
    exact ret_v X hw hr hlocks (Nat.le_of_ble_eq_true rfl) (Nat.le_of_ble_eq_true rfl) ⟨hO, htc0⟩ dX4_searchLost_10
set_option maxHeartbeats 4000000 in
set_option maxRecDepth 100000 in
theorem k_X4_castFirst3 (l : Launch) (G : va_G) (cy : Nat → ClassId) (κ : Nat → Nat) (S : PS) (sz : Nat) (x : Nat) (A : Nat → Prop) (hG : GX S) (ha_x : At S x 4) (hp_0 : AO A S) (hp_1 : PIn A S x) : Cv l yX4_castFirst wsX4_castFirst ({ frames := 3, cells := 0, slots := 0, locals := 144 }) G cy κ S sz [.ref x] (fun (S9 : PS) => Ok eCF S S9 ∧ (Tch A S S9)) := by
  refine ent_m (cc := cX4_castFirst) (maxL := 2) (ret := none) (by decide) rfl (Nat.le_of_ble_eq_true rfl) ?_
  intro p e s m below meth c ls X hr hlocks hin hw hl hsz
  subst hsz
  have X : Cx p c cX4_castFirst 2 s [.ref x].toArray wsX4_castFirst RX4 m G cy κ (AS S s.heap.size) := X
  have hl : lv_has ls 2 [(0, .ref x)] := hl
  have hO : Ok eCF S S := Ok.rf hG
  obtain ⟨q_1, h_2, h_3⟩ := gQ_4_400 hO.1 ha_x
  obtain ⟨q_5, n_6, h_7, h_8, h_9, h_10, h_11⟩ := gRowQ hO.1 h_3
  have hA_12 : A q_5 := hp_1 _ _ (Or.inl h_2) h_7
  obtain ⟨q_13, h_14, h_15⟩ := gQ_4_401 hO.1 ha_x
  obtain ⟨q_17, n_18, h_19, h_20, h_21, h_22, h_23⟩ := gRowQ hO.1 h_15
  have hA_24 : A q_17 := hp_1 _ _ (Or.inr (Or.inl h_14)) h_19
  obtain ⟨q_25, h_26, h_27⟩ := gQ_4_402 hO.1 ha_x
  obtain ⟨q_29, n_30, h_31, h_32, h_33, h_34, h_35⟩ := gRowQ hO.1 h_27
  have hA_36 : A q_29 := hp_1 _ _ (Or.inr (Or.inr h_26)) h_31
  have htc0 : Tch A S S := Tch_rf A S
  refine lv_aload_n X.1 X.2.1 dX4_castFirst_0 rfl (lv_at hl 0 rfl) ?_
  refine r_getR (g := 400) X hw ha_x rfl 0 h_2 (by decide) rfl inn_X4_castFirst_4 (by decide) (X.2.2.2.1 (.fieldLink RX4 14 "SilkMill$Pot" "basket" "LSilkMill$Row;") (by decide +kernel)) rfl (gv_400 _ _) dX4_castFirst_1 ?_
  obtain ⟨v_37, ev_37⟩ : ∃ v, pI S 500 q_1 = v := ⟨_, rfl⟩
  have rg_38 := gRow_500 hO.1 h_3 h_7 h_9; rw [ev_37] at rg_38
  refine r_getI (g := 500) (x := v_37) X hw h_3 rfl 0 ev_37 (by decide) rfl inn_X4_castFirst_5 (by decide) (X.2.2.2.1 (.fieldLink RX4 73 "SilkMill$Row" "size" "I") (by decide +kernel)) rfl (gv_500 _ _) dX4_castFirst_4 ?_
  refine lv_if_le (tgt := 47) X.1 X.2.1 dX4_castFirst_7 (by decide) (fun c_39 => ?_) (fun c_39 => ?_)
  · have z_b_40 := trivial
    have k_41 : v_37.toInt ≤ 0 := z_le rfl ti_0 c_39
    exact ret_v X hw hr hlocks (Nat.le_of_ble_eq_true rfl) (Nat.le_of_ble_eq_true rfl) ⟨hO, htc0⟩ dX4_castFirst_47
  · have z_b_42 := trivial
    have k_43 : v_37.toInt > 0 := z_nle rfl ti_0 c_39
    refine lv_aload_n X.1 X.2.1 dX4_castFirst_10 rfl (lv_at hl 0 rfl) ?_
    refine r_getR (g := 401) X hw ha_x rfl 1 h_14 (by decide) rfl inn_X4_castFirst_4 (by decide) (X.2.2.2.1 (.fieldLink RX4 20 "SilkMill$Pot" "ends" "LSilkMill$Row;") (by decide +kernel)) rfl (gv_401 _ _) dX4_castFirst_11 ?_
    obtain ⟨v_44, ev_44⟩ : ∃ v, pI S 500 q_13 = v := ⟨_, rfl⟩
    have rg_45 := gRow_500 hO.1 h_15 h_19 h_21; rw [ev_44] at rg_45
    refine r_getI (g := 500) (x := v_44) X hw h_15 rfl 0 ev_44 (by decide) rfl inn_X4_castFirst_5 (by decide) (X.2.2.2.1 (.fieldLink RX4 73 "SilkMill$Row" "size" "I") (by decide +kernel)) rfl (gv_500 _ _) dX4_castFirst_14 ?_
    refine lv_bipush (v := 12) X.1 X.2.1 dX4_castFirst_17 (by decide) ?_
    refine lv_icmp_ge (tgt := 47) X.1 X.2.1 dX4_castFirst_19 (by decide) (fun c_46 => ?_) (fun c_46 => ?_)
    · have z_b_47 := trivial
      have k_48 : v_44.toInt ≥ 12 := z_le ti_12 rfl c_46
      exact ret_v X hw hr hlocks (Nat.le_of_ble_eq_true rfl) (Nat.le_of_ble_eq_true rfl) ⟨hO, htc0⟩ dX4_castFirst_47
    · have z_b_49 := trivial
      have k_50 : v_44.toInt < 12 := z_nle ti_12 rfl c_46
      refine lv_aload_n X.1 X.2.1 dX4_castFirst_22 rfl (lv_at hl 0 rfl) ?_
      refine r_getR (g := 400) X hw ha_x rfl 0 h_2 (by decide) rfl inn_X4_castFirst_4 (by decide) (X.2.2.2.1 (.fieldLink RX4 14 "SilkMill$Pot" "basket" "LSilkMill$Row;") (by decide +kernel)) rfl (gv_400 _ _) dX4_castFirst_23 ?_
      refine k_q (rm := { frames := 2, cells := 0, slots := 0, locals := 96 }) (av := [.ref q_1]) X hw (va_runV (As := []) (rest := []) (cfix X) (k_X5_removeFirst3 l G cy κ S _ q_1 A hO.1 h_3 (AO_ext htc0.1 hp_0) (fun q h => by rw [h_7] at h; cases h; exact hA_12)) (cwV 0 X.2.2.2.1 gX4_castFirst_X5_removeFirst rfl rfl rfl (by decide +kernel) ⟨Nat.le_of_ble_eq_true rfl, Nat.le_of_ble_eq_true rfl⟩) (pre_V X hw _ h_3 rfl (by decide) rfl) rfl rfl hl.1 rfl (lv_room (Nat.le_of_ble_eq_true rfl)) dX4_castFirst_26 ⟨Nat.le_of_ble_eq_true rfl, Nat.le_of_ble_eq_true rfl⟩) 0 0 (Nat.le_of_ble_eq_true rfl) (Nat.le_of_ble_eq_true rfl) (fun rr_51 S_52 H locs hp hw hfr hnw => ?_)
      obtain ⟨hk_53, hp⟩ := hp
      have hO_54 : Ok eCF S S_52 := hO.call hk_53 (by decide +kernel)
      have hq_55 := hp
      rcases rr_51 with _ | q_56
      · refine W.eq (g2 := F0 m 29 ls (.null :: [])) rfl ?_
        refine lv_astore_nN (lv' := [(1, .null), (0, .ref x)]) X.1 X.2.1 dX4_castFirst_29 rfl hl (by decide) rfl (fun ls hl => ?_)
        refine lv_aload_nN X.1 X.2.1 dX4_castFirst_30 rfl (lv_at hl 0 rfl) ?_
        refine lv_ifnullN (tgt := 47) X.1 X.2.1 dX4_castFirst_31 (by decide) ?_
        have tc_57 : Tch A S S_52 := Tch_fr htc0 hk_53.fr hp_0 (by decide +kernel) (by decide +kernel)
        exact ret_v X hw hr hlocks (Nat.le_of_ble_eq_true rfl) (Nat.le_of_ble_eq_true rfl) ⟨hO_54, tc_57⟩ dX4_castFirst_47
      · refine W.eq (g2 := F0 m 29 ls (.ref q_56 :: [])) rfl ?_
        obtain ⟨ha_58, f_59, f_60⟩ := hq_55 _ rfl
        have rh_61 : RH A S q_56 := htc0.2.1 _ f_59
        refine lv_astore_n (lv' := [(1, .ref q_56), (0, .ref x)]) X.1 X.2.1 dX4_castFirst_29 rfl hl (by decide) rfl (fun ls hl => ?_)
        refine lv_aload_n X.1 X.2.1 dX4_castFirst_30 rfl (lv_at hl 0 rfl) ?_
        refine lv_ifnull X.1 X.2.1 dX4_castFirst_31 ?_
        refine lv_aload_n X.1 X.2.1 dX4_castFirst_34 rfl (lv_at hl 0 rfl) ?_
        refine lv_iconst (v := 2) X.1 X.2.1 dX4_castFirst_35 (by decide) ?_
        refine r_putI (v := 2) X hw ha_58 rfl 3 3 tyX0 (by decide) rfl inn_X4_castFirst_0 tyX0_ok nmX0 (by decide) (X.2.2.2.1 (.fieldLink RX4 53 "SilkMill$Cocoon" "stand" "I") (by decide +kernel)) rfl (Or.inl rfl) rfl rfl (Nat.le_of_ble_eq_true rfl) (st_3 _ _) dX4_castFirst_36 (fun H locs hw => ?_)
        obtain ⟨S_62, eS_62⟩ : ∃ T, T = sI S_52 3 q_56 (2) := ⟨_, rfl⟩
        rw [← eS_62] at hw
        have hO_63 : Ok eCF S S_62 := hO_54.sI eS_62 (by decide +kernel) (uI_0_3 hO_54.1 ha_58)
        have h_64 : pI S_62 3 q_56 = 2 := tI_sIs eS_62
        refine lv_aload_n X.1 X.2.1 dX4_castFirst_39 rfl (lv_at hl 1 rfl) ?_
        have t_65 : At S_52 x 4 := hk_53.fr.at ha_x
        have t_66 : At S_62 x 4 := tAt_sI eS_62 t_65
        have t_67 : pR S_52 401 x = some q_13 := hk_53.fr.R' (by decide +kernel) ha_x h_14
        have t_68 : pR S_62 401 x = some q_13 := tR_sI eS_62 t_67
        refine r_getR (g := 401) X hw t_66 rfl 1 t_68 (by decide) rfl inn_X4_castFirst_4 (by decide) (X.2.2.2.1 (.fieldLink RX4 20 "SilkMill$Pot" "ends" "LSilkMill$Row;") (by decide +kernel)) rfl (gv_401 _ _) dX4_castFirst_40 ?_
        refine lv_aload_n X.1 X.2.1 dX4_castFirst_43 rfl (lv_at hl 0 rfl) ?_
        have t_69 : At S_52 q_13 5 := hk_53.fr.at h_15
        have t_70 : At S_62 q_13 5 := tAt_sI eS_62 t_69
        have t_71 : At S_62 q_56 0 := tAt_sI eS_62 ha_58
        have tc_72 : Tch A S S_52 := Tch_fr htc0 hk_53.fr hp_0 (by decide +kernel) (by decide +kernel)
        have tc_73 : Tch A S S_62 := Tch_s3 tc_72 eS_62 rh_61 ⟨by decide, by decide⟩
        have t_74 : pR S_52 501 q_13 = some q_17 := hk_53.fr.R' (by decide +kernel) h_15 h_19
        have t_75 : pR S_62 501 q_13 = some q_17 := tR_sI eS_62 t_74
        have t_76 : pN S_52 q_17 = n_18 := hk_53.fr.N h_20 h_21
        clear h_21
        have t_77 : pN S_62 q_17 = n_18 := tN_sI eS_62 t_76
        clear t_76
        refine k_v (rm := { frames := 2, cells := 0, slots := 0, locals := 96 }) (av := [.ref q_13, .ref q_56]) X hw (va_runV (As := [.ref q_56]) (rest := []) (cfix X) (k_X5_addLast3 l G cy κ S_62 _ q_13 q_56 A hO_63.1 t_70 t_71 (AO_ext tc_73.1 hp_0) (fun q h => by rw [t_75] at h; cases h; exact hA_24)) (cwV 1 X.2.2.2.1 gX4_castFirst_X5_addLast rfl rfl rfl (by decide +kernel) ⟨Nat.le_of_ble_eq_true rfl, Nat.le_of_ble_eq_true rfl⟩) (pre_V X hw _ t_70 rfl (by decide) rfl) rfl rfl hl.1 rfl (lv_room (Nat.le_of_ble_eq_true rfl)) dX4_castFirst_44 ⟨Nat.le_of_ble_eq_true rfl, Nat.le_of_ble_eq_true rfl⟩) 0 0 (Nat.le_of_ble_eq_true rfl) (Nat.le_of_ble_eq_true rfl) (fun S_79 H locs hp hw hfr hnw => ?_)
        obtain ⟨hk_80, hp⟩ := hp
        have hO_81 : Ok eCF S S_79 := hO_63.call hk_80 (by decide +kernel)
        have hA_82 := hp
        have tc_83 : Tch A S S_79 := Tch_add tc_73 hk_80.fr (by decide +kernel) hA_82 rh_61
        exact ret_v X hw hr hlocks (Nat.le_of_ble_eq_true rfl) (Nat.le_of_ble_eq_true rfl) ⟨hO_81, tc_83⟩ dX4_castFirst_47
set_option maxHeartbeats 4000000 in
set_option maxRecDepth 100000 in
theorem k_X4_dropThinnest3 (l : Launch) (G : va_G) (cy : Nat → ClassId) (κ : Nat → Nat) (S : PS) (sz : Nat) (x : Nat) (A : Nat → Prop) (hG : GX S) (ha_x : At S x 4) (hp_0 : AO A S) (hp_1 : PIn A S x) : Cv l yX4_dropThinnest wsX4_dropThinnest ({ frames := 4, cells := 0, slots := 0, locals := 192 }) G cy κ S sz [.ref x] (fun (S9 : PS) => Ok eCF S S9 ∧ (Tch A S S9)) := by
  refine ent_m (cc := cX4_dropThinnest) (maxL := 2) (ret := none) (by decide) rfl (Nat.le_of_ble_eq_true rfl) ?_
  intro p e s m below meth c ls X hr hlocks hin hw hl hsz
  subst hsz
  have X : Cx p c cX4_dropThinnest 2 s [.ref x].toArray wsX4_dropThinnest RX4 m G cy κ (AS S s.heap.size) := X
  have hl : lv_has ls 2 [(0, .ref x)] := hl
  have hO : Ok eCF S S := Ok.rf hG
  obtain ⟨q_1, h_2, h_3⟩ := gQ_4_400 hO.1 ha_x
  obtain ⟨q_5, n_6, h_7, h_8, h_9, h_10, h_11⟩ := gRowQ hO.1 h_3
  have hA_12 : A q_5 := hp_1 _ _ (Or.inl h_2) h_7
  obtain ⟨q_13, h_14, h_15⟩ := gQ_4_401 hO.1 ha_x
  obtain ⟨q_17, n_18, h_19, h_20, h_21, h_22, h_23⟩ := gRowQ hO.1 h_15
  have hA_24 : A q_17 := hp_1 _ _ (Or.inr (Or.inl h_14)) h_19
  obtain ⟨q_25, h_26, h_27⟩ := gQ_4_402 hO.1 ha_x
  obtain ⟨q_29, n_30, h_31, h_32, h_33, h_34, h_35⟩ := gRowQ hO.1 h_27
  have hA_36 : A q_29 := hp_1 _ _ (Or.inr (Or.inr h_26)) h_31
  have htc0 : Tch A S S := Tch_rf A S
  refine lv_aload_n X.1 X.2.1 dX4_dropThinnest_0 rfl (lv_at hl 0 rfl) ?_
  refine r_getR (g := 401) X hw ha_x rfl 1 h_14 (by decide) rfl inn_X4_dropThinnest_4 (by decide) (X.2.2.2.1 (.fieldLink RX4 20 "SilkMill$Pot" "ends" "LSilkMill$Row;") (by decide +kernel)) rfl (gv_401 _ _) dX4_dropThinnest_1 ?_
  refine lv_aload_n X.1 X.2.1 dX4_dropThinnest_4 rfl (lv_at hl 0 rfl) ?_
  refine r_getR (g := 401) X hw ha_x rfl 1 h_14 (by decide) rfl inn_X4_dropThinnest_4 (by decide) (X.2.2.2.1 (.fieldLink RX4 20 "SilkMill$Pot" "ends" "LSilkMill$Row;") (by decide +kernel)) rfl (gv_401 _ _) dX4_dropThinnest_5 ?_
  refine k_i (rm := { frames := 3, cells := 0, slots := 0, locals := 144 }) (av := [.ref q_13]) X hw (va_runV (As := []) (rest := [.ref q_13]) (cfix X) (k_X5_thinnest l G cy κ S _ q_13 hO.1 h_15) (cwV 0 X.2.2.2.1 gX4_dropThinnest_X5_thinnest rfl rfl rfl (by decide +kernel) ⟨Nat.le_of_ble_eq_true rfl, Nat.le_of_ble_eq_true rfl⟩) (pre_V X hw _ h_15 rfl (by decide) rfl) rfl rfl hl.1 rfl (lv_room (Nat.le_of_ble_eq_true rfl)) dX4_dropThinnest_8 ⟨Nat.le_of_ble_eq_true rfl, Nat.le_of_ble_eq_true rfl⟩) 0 0 (Nat.le_of_ble_eq_true rfl) (Nat.le_of_ble_eq_true rfl) (fun rr_37 S_38 H locs hp hw hfr hnw => ?_)
  obtain ⟨e2, hp⟩ := hp
  subst e2
  have rg_39 := And.intro (z_lo rr_37) (z_hi rr_37)
  refine k_q (rm := { frames := 3, cells := 0, slots := 0, locals := 144 }) (av := [.ref q_13, .int (rr_37)]) X hw (va_runV (As := [.int (rr_37)]) (rest := []) (cfix X) (k_X5_removeAt3 l G cy κ S _ q_13 (rr_37) (rr_37.toInt) A hO.1 h_15 rfl (AO_ext htc0.1 hp_0) (fun q h => by rw [h_19] at h; cases h; exact hA_24)) (cwV 1 X.2.2.2.1 gX4_dropThinnest_X5_removeAt rfl rfl rfl (by decide +kernel) ⟨Nat.le_of_ble_eq_true rfl, Nat.le_of_ble_eq_true rfl⟩) (pre_V X hw _ h_15 rfl (by decide) rfl) rfl rfl hl.1 rfl (lv_room (Nat.le_of_ble_eq_true rfl)) dX4_dropThinnest_11 ⟨Nat.le_of_ble_eq_true rfl, Nat.le_of_ble_eq_true rfl⟩) 0 0 (Nat.le_of_ble_eq_true rfl) (Nat.le_of_ble_eq_true rfl) (fun rr_40 S_41 H locs hp hw hfr hnw => ?_)
  obtain ⟨hk_42, hp⟩ := hp
  have hO_43 : Ok eCF S S_41 := hO.call hk_42 (by decide +kernel)
  obtain ⟨hq_44, hT_45⟩ := hp
  rcases rr_40 with _ | q_46
  · refine W.eq (g2 := F0 m 14 ls (.null :: [])) rfl ?_
    refine lv_astore_nN (lv' := [(1, .null), (0, .ref x)]) X.1 X.2.1 dX4_dropThinnest_14 rfl hl (by decide) rfl (fun ls hl => ?_)
    refine lv_aload_nN X.1 X.2.1 dX4_dropThinnest_15 rfl (lv_at hl 0 rfl) ?_
    refine lv_ifnullN (tgt := 32) X.1 X.2.1 dX4_dropThinnest_16 (by decide) ?_
    have tc_47 : Tch A S S_41 := Tch_tr htc0 hT_45
    exact ret_v X hw hr hlocks (Nat.le_of_ble_eq_true rfl) (Nat.le_of_ble_eq_true rfl) ⟨hO_43, tc_47⟩ dX4_dropThinnest_32
  · refine W.eq (g2 := F0 m 14 ls (.ref q_46 :: [])) rfl ?_
    obtain ⟨ha_48, f_49⟩ := hq_44 _ rfl
    have rh_50 : RH A S q_46 := htc0.2.1 _ f_49
    refine lv_astore_n (lv' := [(1, .ref q_46), (0, .ref x)]) X.1 X.2.1 dX4_dropThinnest_14 rfl hl (by decide) rfl (fun ls hl => ?_)
    refine lv_aload_n X.1 X.2.1 dX4_dropThinnest_15 rfl (lv_at hl 0 rfl) ?_
    refine lv_ifnull X.1 X.2.1 dX4_dropThinnest_16 ?_
    refine lv_aload_n X.1 X.2.1 dX4_dropThinnest_19 rfl (lv_at hl 0 rfl) ?_
    refine lv_iconst (v := 1) X.1 X.2.1 dX4_dropThinnest_20 (by decide) ?_
    refine r_putI (v := 1) X hw ha_48 rfl 3 3 tyX0 (by decide) rfl inn_X4_dropThinnest_0 tyX0_ok nmX0 (by decide) (X.2.2.2.1 (.fieldLink RX4 53 "SilkMill$Cocoon" "stand" "I") (by decide +kernel)) rfl (Or.inl rfl) rfl rfl (Nat.le_of_ble_eq_true rfl) (st_3 _ _) dX4_dropThinnest_21 (fun H locs hw => ?_)
    obtain ⟨S_51, eS_51⟩ : ∃ T, T = sI S_41 3 q_46 (1) := ⟨_, rfl⟩
    rw [← eS_51] at hw
    have hO_52 : Ok eCF S S_51 := hO_43.sI eS_51 (by decide +kernel) (uI_0_3 hO_43.1 ha_48)
    have h_53 : pI S_51 3 q_46 = 1 := tI_sIs eS_51
    refine lv_aload_n X.1 X.2.1 dX4_dropThinnest_24 rfl (lv_at hl 1 rfl) ?_
    have t_54 : At S_41 x 4 := hk_42.fr.at ha_x
    have t_55 : At S_51 x 4 := tAt_sI eS_51 t_54
    have t_56 : pR S_41 400 x = some q_1 := hk_42.fr.R' (by decide +kernel) ha_x h_2
    have t_57 : pR S_51 400 x = some q_1 := tR_sI eS_51 t_56
    refine r_getR (g := 400) X hw t_55 rfl 0 t_57 (by decide) rfl inn_X4_dropThinnest_4 (by decide) (X.2.2.2.1 (.fieldLink RX4 14 "SilkMill$Pot" "basket" "LSilkMill$Row;") (by decide +kernel)) rfl (gv_400 _ _) dX4_dropThinnest_25 ?_
    refine lv_aload_n X.1 X.2.1 dX4_dropThinnest_28 rfl (lv_at hl 0 rfl) ?_
    have t_58 : At S_41 q_1 5 := hk_42.fr.at h_3
    have t_59 : At S_51 q_1 5 := tAt_sI eS_51 t_58
    have t_60 : At S_51 q_46 0 := tAt_sI eS_51 ha_48
    have tc_61 : Tch A S S_41 := Tch_tr htc0 hT_45
    have tc_62 : Tch A S S_51 := Tch_s3 tc_61 eS_51 rh_50 ⟨by decide, by decide⟩
    have t_63 : pR S_41 501 q_1 = some q_5 := hk_42.fr.R' (by decide +kernel) h_3 h_7
    have t_64 : pR S_51 501 q_1 = some q_5 := tR_sI eS_51 t_63
    have t_65 : pN S_41 q_5 = n_6 := hk_42.fr.N h_8 h_9
    clear h_9
    have t_66 : pN S_51 q_5 = n_6 := tN_sI eS_51 t_65
    clear t_65
    refine k_v (rm := { frames := 2, cells := 0, slots := 0, locals := 96 }) (av := [.ref q_1, .ref q_46]) X hw (va_runV (As := [.ref q_46]) (rest := []) (cfix X) (k_X5_addFirst3 l G cy κ S_51 _ q_1 q_46 A hO_52.1 t_59 t_60 (AO_ext tc_62.1 hp_0) (fun q h => by rw [t_64] at h; cases h; exact hA_12)) (cwV 1 X.2.2.2.1 gX4_dropThinnest_X5_addFirst rfl rfl rfl (by decide +kernel) ⟨Nat.le_of_ble_eq_true rfl, Nat.le_of_ble_eq_true rfl⟩) (pre_V X hw _ t_59 rfl (by decide) rfl) rfl rfl hl.1 rfl (lv_room (Nat.le_of_ble_eq_true rfl)) dX4_dropThinnest_29 ⟨Nat.le_of_ble_eq_true rfl, Nat.le_of_ble_eq_true rfl⟩) 0 0 (Nat.le_of_ble_eq_true rfl) (Nat.le_of_ble_eq_true rfl) (fun S_68 H locs hp hw hfr hnw => ?_)
    obtain ⟨hk_69, hp⟩ := hp
    have hO_70 : Ok eCF S S_68 := hO_52.call hk_69 (by decide +kernel)
    have hA_71 := hp
    have tc_72 : Tch A S S_68 := Tch_add tc_62 hk_69.fr (by decide +kernel) hA_71 rh_50
    exact ret_v X hw hr hlocks (Nat.le_of_ble_eq_true rfl) (Nat.le_of_ble_eq_true rfl) ⟨hO_70, tc_72⟩ dX4_dropThinnest_32
set_option maxHeartbeats 4000000 in
set_option maxRecDepth 100000 in
theorem k_X4_findFirst3 (l : Launch) (G : va_G) (cy : Nat → ClassId) (κ : Nat → Nat) (S : PS) (sz : Nat) (x : Nat) (A : Nat → Prop) (hG : GX S) (ha_x : At S x 4) (hp_0 : AO A S) (hp_1 : PIn A S x) : Cv l yX4_findFirst wsX4_findFirst ({ frames := 4, cells := 0, slots := 0, locals := 192 }) G cy κ S sz [.ref x] (fun (S9 : PS) => Ok eFI S S9 ∧ (Tch A S S9)) := by
  refine ent_m (cc := cX4_findFirst) (maxL := 1) (ret := none) (by decide) rfl (Nat.le_of_ble_eq_true rfl) ?_
  intro p e s m below meth c ls X hr hlocks hin hw hl hsz
  subst hsz
  have X : Cx p c cX4_findFirst 1 s [.ref x].toArray wsX4_findFirst RX4 m G cy κ (AS S s.heap.size) := X
  have hl : lv_has ls 1 [(0, .ref x)] := hl
  have hO : Ok eFI S S := Ok.rf hG
  obtain ⟨q_1, h_2, h_3⟩ := gQ_4_400 hO.1 ha_x
  obtain ⟨q_5, n_6, h_7, h_8, h_9, h_10, h_11⟩ := gRowQ hO.1 h_3
  have hA_12 : A q_5 := hp_1 _ _ (Or.inl h_2) h_7
  obtain ⟨q_13, h_14, h_15⟩ := gQ_4_401 hO.1 ha_x
  obtain ⟨q_17, n_18, h_19, h_20, h_21, h_22, h_23⟩ := gRowQ hO.1 h_15
  have hA_24 : A q_17 := hp_1 _ _ (Or.inr (Or.inl h_14)) h_19
  obtain ⟨q_25, h_26, h_27⟩ := gQ_4_402 hO.1 ha_x
  obtain ⟨q_29, n_30, h_31, h_32, h_33, h_34, h_35⟩ := gRowQ hO.1 h_27
  have hA_36 : A q_29 := hp_1 _ _ (Or.inr (Or.inr h_26)) h_31
  have htc0 : Tch A S S := Tch_rf A S
  refine lv_aload_n X.1 X.2.1 dX4_findFirst_0 rfl (lv_at hl 0 rfl) ?_
  refine r_getR (g := 402) X hw ha_x rfl 2 h_26 (by decide) rfl inn_X4_findFirst_4 (by decide) (X.2.2.2.1 (.fieldLink RX4 23 "SilkMill$Pot" "lost" "LSilkMill$Row;") (by decide +kernel)) rfl (gv_402 _ _) dX4_findFirst_1 ?_
  obtain ⟨v_37, ev_37⟩ : ∃ v, pI S 500 q_25 = v := ⟨_, rfl⟩
  have rg_38 := gRow_500 hO.1 h_27 h_31 h_33; rw [ev_37] at rg_38
  refine r_getI (g := 500) (x := v_37) X hw h_27 rfl 0 ev_37 (by decide) rfl inn_X4_findFirst_5 (by decide) (X.2.2.2.1 (.fieldLink RX4 73 "SilkMill$Row" "size" "I") (by decide +kernel)) rfl (gv_500 _ _) dX4_findFirst_4 ?_
  refine lv_if_le (tgt := 24) X.1 X.2.1 dX4_findFirst_7 (by decide) (fun c_39 => ?_) (fun c_39 => ?_)
  · have z_b_40 := trivial
    have k_41 : v_37.toInt ≤ 0 := z_le rfl ti_0 c_39
    exact ret_v X hw hr hlocks (Nat.le_of_ble_eq_true rfl) (Nat.le_of_ble_eq_true rfl) ⟨hO, htc0⟩ dX4_findFirst_24
  · have z_b_42 := trivial
    have k_43 : v_37.toInt > 0 := z_nle rfl ti_0 c_39
    refine lv_aload_n X.1 X.2.1 dX4_findFirst_10 rfl (lv_at hl 0 rfl) ?_
    refine k_v (rm := { frames := 3, cells := 0, slots := 0, locals := 144 }) (av := [.ref x]) X hw (va_runV (As := []) (rest := []) (cfix X) (k_X4_fetchLost3 l G cy κ S _ x A hO.1 ha_x (AO_ext htc0.1 hp_0) (fun R q h1 h2 => by rcases h1 with h1 | h1 | h1; rw [h_2] at h1; cases h1; rw [h_7] at h2; cases h2; exact hA_12; rw [h_14] at h1; cases h1; rw [h_19] at h2; cases h2; exact hA_24; rw [h_26] at h1; cases h1; rw [h_31] at h2; cases h2; exact hA_36)) (cwV 0 X.2.2.2.1 gX4_findFirst_X4_fetchLost rfl rfl rfl (by decide +kernel) ⟨Nat.le_of_ble_eq_true rfl, Nat.le_of_ble_eq_true rfl⟩) (pre_V X hw _ ha_x rfl (by decide) rfl) rfl rfl hl.1 rfl (lv_room (Nat.le_of_ble_eq_true rfl)) dX4_findFirst_11 ⟨Nat.le_of_ble_eq_true rfl, Nat.le_of_ble_eq_true rfl⟩) 0 0 (Nat.le_of_ble_eq_true rfl) (Nat.le_of_ble_eq_true rfl) (fun S_45 H locs hp hw hfr hnw => ?_)
    obtain ⟨hk_46, hp⟩ := hp
    have hO_47 : Ok eFI S S_45 := hO.call hk_46 (by decide +kernel)
    have hT_48 := hp
    refine lv_aload_n X.1 X.2.1 dX4_findFirst_14 rfl (lv_at hl 0 rfl) ?_
    refine lv_dup X.1 X.2.1 dX4_findFirst_15 rfl ?_
    have t_49 : At S_45 x 4 := hk_46.fr.at ha_x
    obtain ⟨v_50, ev_50⟩ : ∃ v, pI S_45 405 x = v := ⟨_, rfl⟩
    have rg_52 := And.intro (z_lo v_50) (z_hi v_50)
    refine r_getI (g := 405) (x := v_50) X hw t_49 rfl 5 ev_50 (by decide) rfl inn_X4_findFirst_4 (by decide) (X.2.2.2.1 (.fieldLink RX4 66 "SilkMill$Pot" "stop" "I") (by decide +kernel)) rfl (gv_405 _ _) dX4_findFirst_16 ?_
    refine lv_iconst (v := 2) X.1 X.2.1 dX4_findFirst_19 (by decide) ?_
    refine lv_iadd X.1 X.2.1 dX4_findFirst_20 ?_
    refine lv_topi (fun v_53 ev_53 => ?_)
    have rg_54 := And.intro (z_lo v_53) (z_hi v_53)
    refine r_putI (v := v_53) X hw t_49 rfl 5 405 tyX4 (by decide) rfl inn_X4_findFirst_4 tyX4_ok nmX4 (by decide) (X.2.2.2.1 (.fieldLink RX4 66 "SilkMill$Pot" "stop" "I") (by decide +kernel)) rfl (Or.inl rfl) rfl rfl (Nat.le_of_ble_eq_true rfl) (st_405 _ _) dX4_findFirst_21 (fun H locs hw => ?_)
    obtain ⟨S_55, eS_55⟩ : ∃ T, T = sI S_45 405 x (v_53) := ⟨_, rfl⟩
    rw [← eS_55] at hw
    have hO_56 : Ok eFI S S_55 := hO_47.sI eS_55 (by decide +kernel) (uI_4_405 hO_47.1 t_49)
    have h_57 : pI S_55 405 x = v_53 := tI_sIs eS_55
    have tc_58 : Tch A S S_45 := Tch_tr htc0 hT_48
    have tc_59 : Tch A S S_55 := Tch_sI tc_58 eS_55 (by decide)
    exact ret_v X hw hr hlocks (Nat.le_of_ble_eq_true rfl) (Nat.le_of_ble_eq_true rfl) ⟨hO_56, tc_59⟩ dX4_findFirst_24
set_option maxHeartbeats 4000000 in
set_option maxRecDepth 100000 in
theorem k_X4_throwLast3 (l : Launch) (G : va_G) (cy : Nat → ClassId) (κ : Nat → Nat) (S : PS) (sz : Nat) (x : Nat) (s1 : Nat) (A : Nat → Prop) (hG : GX S) (ha_x : At S x 4) (ha_s1 : At S s1 8) (hp_0 : AO A S) (hp_1 : PIn A S x) : Cv l yX4_throwLast wsX4_throwLast ({ frames := 4, cells := 0, slots := 0, locals := 192 }) G cy κ S sz [.ref x, .ref s1] (fun (S9 : PS) => Ok eTH S S9 ∧ (Tch A S S9)) := by
  refine ent_m (cc := cX4_throwLast) (maxL := 3) (ret := none) (by decide) rfl (Nat.le_of_ble_eq_true rfl) ?_
  intro p e s m below meth c ls X hr hlocks hin hw hl hsz
  subst hsz
  have X : Cx p c cX4_throwLast 3 s [.ref x, .ref s1].toArray wsX4_throwLast RX4 m G cy κ (AS S s.heap.size) := X
  have hl : lv_has ls 3 [(0, .ref x), (1, .ref s1)] := hl
  have hO : Ok eTH S S := Ok.rf hG
  obtain ⟨q_1, h_2, h_3⟩ := gQ_4_400 hO.1 ha_x
  obtain ⟨q_5, n_6, h_7, h_8, h_9, h_10, h_11⟩ := gRowQ hO.1 h_3
  have hA_12 : A q_5 := hp_1 _ _ (Or.inl h_2) h_7
  obtain ⟨q_13, h_14, h_15⟩ := gQ_4_401 hO.1 ha_x
  obtain ⟨q_17, n_18, h_19, h_20, h_21, h_22, h_23⟩ := gRowQ hO.1 h_15
  have hA_24 : A q_17 := hp_1 _ _ (Or.inr (Or.inl h_14)) h_19
  obtain ⟨q_25, h_26, h_27⟩ := gQ_4_402 hO.1 ha_x
  obtain ⟨q_29, n_30, h_31, h_32, h_33, h_34, h_35⟩ := gRowQ hO.1 h_27
  have hA_36 : A q_29 := hp_1 _ _ (Or.inr (Or.inr h_26)) h_31
  have htc0 : Tch A S S := Tch_rf A S
  refine lv_aload_n X.1 X.2.1 dX4_throwLast_0 rfl (lv_at hl 0 rfl) ?_
  refine r_getR (g := 400) X hw ha_x rfl 0 h_2 (by decide) rfl inn_X4_throwLast_4 (by decide) (X.2.2.2.1 (.fieldLink RX4 14 "SilkMill$Pot" "basket" "LSilkMill$Row;") (by decide +kernel)) rfl (gv_400 _ _) dX4_throwLast_1 ?_
  refine lv_aload_n X.1 X.2.1 dX4_throwLast_4 rfl (lv_at hl 0 rfl) ?_
  refine r_getR (g := 400) X hw ha_x rfl 0 h_2 (by decide) rfl inn_X4_throwLast_4 (by decide) (X.2.2.2.1 (.fieldLink RX4 14 "SilkMill$Pot" "basket" "LSilkMill$Row;") (by decide +kernel)) rfl (gv_400 _ _) dX4_throwLast_5 ?_
  obtain ⟨v_37, ev_37⟩ : ∃ v, pI S 500 q_1 = v := ⟨_, rfl⟩
  have rg_38 := gRow_500 hO.1 h_3 h_7 h_9; rw [ev_37] at rg_38
  refine r_getI (g := 500) (x := v_37) X hw h_3 rfl 0 ev_37 (by decide) rfl inn_X4_throwLast_5 (by decide) (X.2.2.2.1 (.fieldLink RX4 73 "SilkMill$Row" "size" "I") (by decide +kernel)) rfl (gv_500 _ _) dX4_throwLast_8 ?_
  refine lv_iconst (v := 1) X.1 X.2.1 dX4_throwLast_11 (by decide) ?_
  refine lv_isub X.1 X.2.1 dX4_throwLast_12 ?_
  refine lv_topi (fun v_39 ev_39 => ?_)
  have z_40 : v_39.toInt = v_37.toInt - 1 := z_sub ev_39 rfl ti_1 (by omega) (by omega)
  refine k_q (rm := { frames := 3, cells := 0, slots := 0, locals := 144 }) (av := [.ref q_1, .int (v_39)]) X hw (va_runV (As := [.int (v_39)]) (rest := []) (cfix X) (k_X5_removeAt3 l G cy κ S _ q_1 (v_39) (v_39.toInt) A hO.1 h_3 rfl (AO_ext htc0.1 hp_0) (fun q h => by rw [h_7] at h; cases h; exact hA_12)) (cwV 1 X.2.2.2.1 gX4_throwLast_X5_removeAt rfl rfl rfl (by decide +kernel) ⟨Nat.le_of_ble_eq_true rfl, Nat.le_of_ble_eq_true rfl⟩) (pre_V X hw _ h_3 rfl (by decide) rfl) rfl rfl hl.1 rfl (lv_room (Nat.le_of_ble_eq_true rfl)) dX4_throwLast_13 ⟨Nat.le_of_ble_eq_true rfl, Nat.le_of_ble_eq_true rfl⟩) 0 0 (Nat.le_of_ble_eq_true rfl) (Nat.le_of_ble_eq_true rfl) (fun rr_41 S_42 H locs hp hw hfr hnw => ?_)
  obtain ⟨hk_43, hp⟩ := hp
  have hO_44 : Ok eTH S S_42 := hO.call hk_43 (by decide +kernel)
  obtain ⟨hq_45, hT_46⟩ := hp
  rcases rr_41 with _ | q_47
  · refine W.eq (g2 := F0 m 16 ls (.null :: [])) rfl ?_
    refine lv_astore_nN (lv' := [(2, .null), (0, .ref x), (1, .ref s1)]) X.1 X.2.1 dX4_throwLast_16 rfl hl (by decide) rfl (fun ls hl => ?_)
    refine lv_aload_nN X.1 X.2.1 dX4_throwLast_17 rfl (lv_at hl 0 rfl) ?_
    refine lv_ifnullN (tgt := 48) X.1 X.2.1 dX4_throwLast_18 (by decide) ?_
    have tc_48 : Tch A S S_42 := Tch_tr htc0 hT_46
    exact ret_v X hw hr hlocks (Nat.le_of_ble_eq_true rfl) (Nat.le_of_ble_eq_true rfl) ⟨hO_44, tc_48⟩ dX4_throwLast_48
  · refine W.eq (g2 := F0 m 16 ls (.ref q_47 :: [])) rfl ?_
    obtain ⟨ha_49, f_50⟩ := hq_45 _ rfl
    have rh_51 : RH A S q_47 := htc0.2.1 _ f_50
    refine lv_astore_n (lv' := [(2, .ref q_47), (0, .ref x), (1, .ref s1)]) X.1 X.2.1 dX4_throwLast_16 rfl hl (by decide) rfl (fun ls hl => ?_)
    refine lv_aload_n X.1 X.2.1 dX4_throwLast_17 rfl (lv_at hl 0 rfl) ?_
    refine lv_ifnull X.1 X.2.1 dX4_throwLast_18 ?_
    refine lv_aload_n X.1 X.2.1 dX4_throwLast_21 rfl (lv_at hl 0 rfl) ?_
    refine lv_bipush (v := 6) X.1 X.2.1 dX4_throwLast_22 (by decide) ?_
    refine r_putI (v := 6) X hw ha_49 rfl 3 3 tyX0 (by decide) rfl inn_X4_throwLast_0 tyX0_ok nmX0 (by decide) (X.2.2.2.1 (.fieldLink RX4 53 "SilkMill$Cocoon" "stand" "I") (by decide +kernel)) rfl (Or.inl rfl) rfl rfl (Nat.le_of_ble_eq_true rfl) (st_3 _ _) dX4_throwLast_24 (fun H locs hw => ?_)
    obtain ⟨S_52, eS_52⟩ : ∃ T, T = sI S_42 3 q_47 (6) := ⟨_, rfl⟩
    rw [← eS_52] at hw
    have hO_53 : Ok eTH S S_52 := hO_44.sI eS_52 (by decide +kernel) (uI_0_3 hO_44.1 ha_49)
    have h_54 : pI S_52 3 q_47 = 6 := tI_sIs eS_52
    refine lv_aload_n X.1 X.2.1 dX4_throwLast_27 rfl (lv_at hl 2 rfl) ?_
    refine lv_dup X.1 X.2.1 dX4_throwLast_28 rfl ?_
    have t_55 : At S_42 s1 8 := hk_43.fr.at ha_s1
    have t_56 : At S_52 s1 8 := tAt_sI eS_52 t_55
    obtain ⟨v_57, ev_57⟩ : ∃ v, pI S_52 804 s1 = v := ⟨_, rfl⟩
    have rg_59 := And.intro (z_lo v_57) (z_hi v_57)
    refine r_getI (g := 804) (x := v_57) X hw t_56 rfl 4 ev_57 (by decide) rfl inn_X4_throwLast_8 (by decide) (X.2.2.2.1 (.fieldLink RX4 177 "SilkMill$Store" "silkThrown" "I") (by decide +kernel)) rfl (gv_804 _ _) dX4_throwLast_29 ?_
    refine lv_aload_n X.1 X.2.1 dX4_throwLast_32 rfl (lv_at hl 0 rfl) ?_
    refine lv_aload_n X.1 X.2.1 dX4_throwLast_33 rfl (lv_at hl 0 rfl) ?_
    have t_60 : At S_52 q_47 0 := tAt_sI eS_52 ha_49
    obtain ⟨v_61, ev_61⟩ : ∃ v, pI S_52 4 q_47 = v := ⟨_, rfl⟩
    have rg_63 := And.intro (z_lo v_61) (z_hi v_61)
    refine r_getI (g := 4) (x := v_61) X hw t_60 rfl 4 ev_61 (by decide) rfl inn_X4_throwLast_0 (by decide) (X.2.2.2.1 (.fieldLink RX4 180 "SilkMill$Cocoon" "drawnTo" "I") (by decide +kernel)) rfl (gv_4 _ _) dX4_throwLast_34 ?_
    refine lv_aload_n X.1 X.2.1 dX4_throwLast_37 rfl (lv_at hl 0 rfl) ?_
    obtain ⟨v_64, ev_64⟩ : ∃ v, pI S_52 2 q_47 = v := ⟨_, rfl⟩
    have rg_65 := gI_0_2 hO_53.1 t_60; rw [ev_64] at rg_65
    refine r_getI (g := 2) (x := v_64) X hw t_60 rfl 2 ev_64 (by decide) rfl inn_X4_throwLast_0 (by decide) (X.2.2.2.1 (.fieldLink RX4 183 "SilkMill$Cocoon" "length" "I") (by decide +kernel)) rfl (gv_2 _ _) dX4_throwLast_38 ?_
    refine k_i (rm := { frames := 2, cells := 0, slots := 0, locals := 96 }) (av := [.ref q_47, .int (v_61), .int (v_64)]) X hw (va_runV (As := [.int (v_61), .int (v_64)]) (rest := [.int (v_57), .ref s1]) (cfix X) (k_X0_silkBetween l G cy κ S_52 _ q_47 (v_61) (v_61.toInt) (v_64) (v_64.toInt) hO_53.1 t_60 rfl rfl) (cwV 2 X.2.2.2.1 gX4_throwLast_X0_silkBetween rfl rfl rfl (by decide +kernel) ⟨Nat.le_of_ble_eq_true rfl, Nat.le_of_ble_eq_true rfl⟩) (pre_V X hw _ t_60 rfl (by decide) rfl) rfl rfl hl.1 rfl (lv_room (Nat.le_of_ble_eq_true rfl)) dX4_throwLast_41 ⟨Nat.le_of_ble_eq_true rfl, Nat.le_of_ble_eq_true rfl⟩) 0 0 (Nat.le_of_ble_eq_true rfl) (Nat.le_of_ble_eq_true rfl) (fun rr_66 S_67 H locs hp hw hfr hnw => ?_)
    obtain ⟨e2, hp⟩ := hp
    subst e2
    have rg_68 := And.intro (z_lo rr_66) (z_hi rr_66)
    refine lv_iadd X.1 X.2.1 dX4_throwLast_44 ?_
    refine lv_topi (fun v_69 ev_69 => ?_)
    have rg_70 := And.intro (z_lo v_69) (z_hi v_69)
    refine r_putI (v := v_69) X hw t_56 rfl 4 804 tyX8 (by decide) rfl inn_X4_throwLast_8 tyX8_ok nmX8 (by decide) (X.2.2.2.1 (.fieldLink RX4 177 "SilkMill$Store" "silkThrown" "I") (by decide +kernel)) rfl (Or.inl rfl) rfl rfl (Nat.le_of_ble_eq_true rfl) (st_804 _ _) dX4_throwLast_45 (fun H locs hw => ?_)
    obtain ⟨S_71, eS_71⟩ : ∃ T, T = sI S_52 804 s1 (v_69) := ⟨_, rfl⟩
    rw [← eS_71] at hw
    have hO_72 : Ok eTH S S_71 := hO_53.sI eS_71 (by decide +kernel) (uI_8_804 hO_53.1 t_56)
    have h_73 : pI S_71 804 s1 = v_69 := tI_sIs eS_71
    have tc_74 : Tch A S S_42 := Tch_tr htc0 hT_46
    have tc_75 : Tch A S S_52 := Tch_s3 tc_74 eS_52 rh_51 ⟨by decide, by decide⟩
    have tc_76 : Tch A S S_71 := Tch_sI tc_75 eS_71 (by decide)
    exact ret_v X hw hr hlocks (Nat.le_of_ble_eq_true rfl) (Nat.le_of_ble_eq_true rfl) ⟨hO_72, tc_76⟩ dX4_throwLast_48
set_option maxHeartbeats 4000000 in
set_option maxRecDepth 100000 in
theorem k_X4_drawEnd3 (l : Launch) (G : va_G) (cy : Nat → ClassId) (κ : Nat → Nat) (S : PS) (sz hz : Nat) (x : Nat) (c1 : Option Nat) (a1 : Int32) (a1_z : Int) (A : Nat → Prop) (hG : GX S) (ha_x : At S x 4) (hq_c1 : ∀ q, c1 = some q → At S q 0) (hz_a1 : a1.toInt = a1_z) (hp_0 : AO A S) (hp_1 : PIn A S x) (hp_2 : (∀ q, c1 = some q → RH A S q)) : Gv l yX4_drawEnd wsX4_drawEnd ({ frames := 5, cells := Phc S + 8, slots := Phs S + 15019, locals := 240 }) G cy κ S sz hz 0 0 [.ref x, va_rf c1, .int (a1)] (fun (S9 : PS) => Og eDE S S9 ∧ (Tch A S S9)) := by
  rcases c1 with _ | q_c1
  · have z_b_1 := trivial
    refine ent_g (cc := cX4_drawEnd) (maxL := 3) (ret := none) (by decide) rfl (Nat.le_of_ble_eq_true rfl) ?_
    intro p e s m below meth c ls X hr hlocks hin hw hl hsz hhz
    subst hsz hhz
    have X : Cx p c cX4_drawEnd 3 s [.ref x, .null, .int (a1)].toArray wsX4_drawEnd RX4 m G cy κ (AS S s.heap.size) := X
    have hl : lv_has ls 3 [(0, .ref x), (1, .null), (2, .int (a1))] := hl
    have rg_a1 : (-2147483648) ≤ a1_z ∧ a1_z ≤ 2147483647 := by rw [← hz_a1]; exact ⟨z_lo _, z_hi _⟩
    have hpc0 : 0 + Phc S ≤ Phc S + 0 := by omega
    have hps0 : 0 + Phs S ≤ Phs S + 0 := by omega
    have hO : Og eDE S S := Og.rf hG
    obtain ⟨q_2, h_3, h_4⟩ := gQ_4_400 hO.1 ha_x
    obtain ⟨q_6, n_7, h_8, h_9, h_10, h_11, h_12⟩ := gRowQ hO.1 h_4
    have hA_13 : A q_6 := hp_1 _ _ (Or.inl h_3) h_8
    obtain ⟨q_14, h_15, h_16⟩ := gQ_4_401 hO.1 ha_x
    obtain ⟨q_18, n_19, h_20, h_21, h_22, h_23, h_24⟩ := gRowQ hO.1 h_16
    have hA_25 : A q_18 := hp_1 _ _ (Or.inr (Or.inl h_15)) h_20
    obtain ⟨q_26, h_27, h_28⟩ := gQ_4_402 hO.1 ha_x
    obtain ⟨q_30, n_31, h_32, h_33, h_34, h_35, h_36⟩ := gRowQ hO.1 h_28
    have hA_37 : A q_30 := hp_1 _ _ (Or.inr (Or.inr h_27)) h_32
    have htc0 : Tch A S S := Tch_rf A S
    refine lv_aload_nN X.1 X.2.1 dX4_drawEnd_0 rfl (lv_at hl 1 rfl) ?_
    refine lv_ifnonnullN X.1 X.2.1 dX4_drawEnd_1 ?_
    exact ret_gv X hw hr hlocks (by show 0 ≤ Phc S + 8; omega) (by show 0 ≤ Phs S + 15019; omega) (by omega) (by omega) ⟨hO, htc0⟩ dX4_drawEnd_4
  · have z_b_38 := trivial
    have ha_q_c1 : At S q_c1 0 := hq_c1 _ rfl
    refine ent_g (cc := cX4_drawEnd) (maxL := 3) (ret := none) (by decide) rfl (Nat.le_of_ble_eq_true rfl) ?_
    intro p e s m below meth c ls X hr hlocks hin hw hl hsz hhz
    subst hsz hhz
    have X : Cx p c cX4_drawEnd 3 s [.ref x, .ref q_c1, .int (a1)].toArray wsX4_drawEnd RX4 m G cy κ (AS S s.heap.size) := X
    have hl : lv_has ls 3 [(0, .ref x), (1, .ref q_c1), (2, .int (a1))] := hl
    have rg_a1 : (-2147483648) ≤ a1_z ∧ a1_z ≤ 2147483647 := by rw [← hz_a1]; exact ⟨z_lo _, z_hi _⟩
    have hpc0 : 0 + Phc S ≤ Phc S + 0 := by omega
    have hps0 : 0 + Phs S ≤ Phs S + 0 := by omega
    have hO : Og eDE S S := Og.rf hG
    obtain ⟨q_39, h_40, h_41⟩ := gQ_4_400 hO.1 ha_x
    obtain ⟨q_43, n_44, h_45, h_46, h_47, h_48, h_49⟩ := gRowQ hO.1 h_41
    have hA_50 : A q_43 := hp_1 _ _ (Or.inl h_40) h_45
    obtain ⟨q_51, h_52, h_53⟩ := gQ_4_401 hO.1 ha_x
    obtain ⟨q_55, n_56, h_57, h_58, h_59, h_60, h_61⟩ := gRowQ hO.1 h_53
    have hA_62 : A q_55 := hp_1 _ _ (Or.inr (Or.inl h_52)) h_57
    obtain ⟨q_63, h_64, h_65⟩ := gQ_4_402 hO.1 ha_x
    obtain ⟨q_67, n_68, h_69, h_70, h_71, h_72, h_73⟩ := gRowQ hO.1 h_65
    have hA_74 : A q_67 := hp_1 _ _ (Or.inr (Or.inr h_64)) h_69
    have htc0 : Tch A S S := Tch_rf A S
    have hrhc : RH A S q_c1 := hp_2 _ rfl
    refine lv_aload_n X.1 X.2.1 dX4_drawEnd_0 rfl (lv_at hl 1 rfl) ?_
    refine lv_ifnonnull (tgt := 5) X.1 X.2.1 dX4_drawEnd_1 (by decide) ?_
    refine lv_aload_n X.1 X.2.1 dX4_drawEnd_5 rfl (lv_at hl 0 rfl) ?_
    obtain ⟨q_75, h_76, h_77⟩ := gQ_4_403 hO.1 ha_x
    refine r_getR (g := 403) X hw ha_x rfl 3 h_76 (by decide) rfl inn_X4_drawEnd_4 (by decide) (X.2.2.2.1 (.fieldLink RX4 29 "SilkMill$Pot" "strand" "LSilkMill$Strand;") (by decide +kernel)) rfl (gv_403 _ _) dX4_drawEnd_6 ?_
    refine lv_aload_n X.1 X.2.1 dX4_drawEnd_9 rfl (lv_at hl 1 rfl) ?_
    refine lv_iload_n X.1 X.2.1 dX4_drawEnd_10 rfl (lv_at hl 2 rfl) ?_
    refine k_gv (kc := 0) (ks := 0) (rm := { frames := 4, cells := Phc S + 4, slots := Phs S + 14400, locals := 192 }) (av := [.ref q_75, .ref q_c1, .int (a1)]) X hw (va_runV (As := [.ref q_c1, .int (a1)]) (rest := []) (cfix X) (k_X9_addMetreOf l G cy κ S _ _ q_75 q_c1 (a1) (a1_z) hO.1 h_77 ha_q_c1 hz_a1) (cwV 2 X.2.2.2.1 gX4_drawEnd_X9_addMetreOf rfl rfl rfl (by decide +kernel) ⟨Nat.le_of_ble_eq_true rfl, Nat.le_of_ble_eq_true rfl⟩) (pre_gV X hw _ h_77 rfl (by decide) rfl) rfl rfl hl.1 rfl (lv_room (Nat.le_of_ble_eq_true rfl)) dX4_drawEnd_11 ⟨(by show 0 + (Phc S + 4) ≤ Phc S + 8; omega), (by show 0 + (Phs S + 14400) ≤ Phs S + 15019; omega)⟩) (fun S_80 H locs c_81 n_82 hc_81 hn_82 hp hw => ?_)
    obtain ⟨hk_83, hp⟩ := hp
    have ph_84 : c_81 + Phc S_80 ≤ Phc S + 0 := by omega
    have ph_85 : n_82 + Phs S_80 ≤ Phs S + 0 := by omega
    clear hpc0
    clear hps0
    clear hc_81
    clear hn_82
    have hO_86 : Og eDE S S_80 := hO.call hk_83 (by decide +kernel)
    refine lv_aload_n X.1 X.2.1 dX4_drawEnd_14 rfl (lv_at hl 1 rfl) ?_
    have t_87 : At S_80 q_c1 0 := hk_83.fr.at ha_q_c1
    refine k_v (rm := { frames := 3, cells := 0, slots := 0, locals := 144 }) (av := [.ref q_c1]) X hw (va_runV (As := []) (rest := []) (cfix X) (k_X0_drawOneMetre3 l G cy κ S_80 _ q_c1 hO_86.1 t_87) (cwV 0 X.2.2.2.1 gX4_drawEnd_X0_drawOneMetre rfl rfl rfl (by decide +kernel) ⟨Nat.le_of_ble_eq_true rfl, Nat.le_of_ble_eq_true rfl⟩) (pre_V X hw _ t_87 rfl (by decide) rfl) rfl rfl hl.1 rfl (lv_room (Nat.le_of_ble_eq_true rfl)) dX4_drawEnd_15 ⟨(by show c_81 + 0 ≤ Phc S + 8; omega), (by show n_82 + 0 ≤ Phs S + 15019; omega)⟩) c_81 n_82 (by show c_81 + 0 ≤ c_81; omega) (by show n_82 + 0 ≤ n_82; omega) (fun S_89 H locs hp hw hfr hnw => ?_)
    obtain ⟨hk_90, hp⟩ := hp
    have ph_91 : c_81 + Phc S_89 ≤ Phc S + 0 := by rw [show Phc S_89 = Phc S_80 from Ph_ok hO_86.1 hk_90 (by decide +kernel) (by decide +kernel) (by decide +kernel)]; exact ph_84
    have ph_92 : n_82 + Phs S_89 ≤ Phs S + 0 := by rw [show Phs S_89 = Phs S_80 from Ph_ok hO_86.1 hk_90 (by decide +kernel) (by decide +kernel) (by decide +kernel)]; exact ph_85
    clear ph_84
    clear ph_85
    have hO_93 : Og eDE S S_89 := hO_86.call hk_90.og (by decide +kernel)
    have hS_94 := hp
    refine lv_aload_n X.1 X.2.1 dX4_drawEnd_18 rfl (lv_at hl 1 rfl) ?_
    have t_95 : At S_89 q_c1 0 := hk_90.fr.at t_87
    obtain ⟨v_96, ev_96⟩ : ∃ v, pI S_89 3 q_c1 = v := ⟨_, rfl⟩
    have rg_98 := And.intro (z_lo v_96) (z_hi v_96)
    refine r_getI (g := 3) (x := v_96) X hw t_95 rfl 3 ev_96 (by decide) rfl inn_X4_drawEnd_0 (by decide) (X.2.2.2.1 (.fieldLink RX4 53 "SilkMill$Cocoon" "stand" "I") (by decide +kernel)) rfl (gv_3 _ _) dX4_drawEnd_19 ?_
    refine lv_iconst (v := 2) X.1 X.2.1 dX4_drawEnd_22 (by decide) ?_
    refine lv_icmp_ne (tgt := 37) X.1 X.2.1 dX4_drawEnd_23 (by decide) (fun c_99 => ?_) (fun c_99 => ?_)
    · have z_b_100 := trivial
      have k_101 : v_96.toInt ≠ 2 := z_ne rfl ti_2 c_99
      refine lv_aload_n X.1 X.2.1 dX4_drawEnd_37 rfl (lv_at hl 1 rfl) ?_
      refine r_getI (g := 3) (x := v_96) X hw t_95 rfl 3 ev_96 (by decide) rfl inn_X4_drawEnd_0 (by decide) (X.2.2.2.1 (.fieldLink RX4 53 "SilkMill$Cocoon" "stand" "I") (by decide +kernel)) rfl (gv_3 _ _) dX4_drawEnd_38 ?_
      refine lv_iconst (v := 3) X.1 X.2.1 dX4_drawEnd_41 (by decide) ?_
      refine lv_icmp_ne (tgt := 53) X.1 X.2.1 dX4_drawEnd_42 (by decide) (fun c_102 => ?_) (fun c_102 => ?_)
      · have z_b_103 := trivial
        have k_104 : v_96.toInt ≠ 3 := z_ne rfl ti_3 c_102
        have tc_105 : Tch A S S_80 := Tch_fr htc0 hk_83.fr hp_0 (by decide +kernel) (by decide +kernel)
        have tc_106 : Tch A S S_89 := Tch_sto tc_105 hk_90.fr hp_0 (by decide +kernel) hS_94 hrhc
        exact ret_gv X hw hr hlocks (by show c_81 ≤ Phc S + 8; omega) (by show n_82 ≤ Phs S + 15019; omega) (by omega) (by omega) ⟨hO_93, tc_106⟩ dX4_drawEnd_53
      · have z_b_107 := trivial
        have k_108 : v_96.toInt = 3 := z_eq rfl ti_3 c_102
        refine lv_aload_n X.1 X.2.1 dX4_drawEnd_45 rfl (lv_at hl 0 rfl) ?_
        have t_109 : At S_80 x 4 := hk_83.fr.at ha_x
        have t_110 : At S_89 x 4 := hk_90.fr.at t_109
        have t_111 : pR S_80 402 x = some q_63 := hk_83.fr.R' (by decide +kernel) ha_x h_64
        have t_113 : At S_80 x 4 := hk_83.fr.at ha_x
        have t_112 : pR S_89 402 x = some q_63 := hk_90.fr.R' (by decide +kernel) t_113 t_111
        refine r_getR (g := 402) X hw t_110 rfl 2 t_112 (by decide) rfl inn_X4_drawEnd_4 (by decide) (X.2.2.2.1 (.fieldLink RX4 23 "SilkMill$Pot" "lost" "LSilkMill$Row;") (by decide +kernel)) rfl (gv_402 _ _) dX4_drawEnd_46 ?_
        refine lv_aload_n X.1 X.2.1 dX4_drawEnd_49 rfl (lv_at hl 1 rfl) ?_
        have t_114 : At S_80 q_63 5 := hk_83.fr.at h_65
        have t_115 : At S_89 q_63 5 := hk_90.fr.at t_114
        have tc_116 : Tch A S S_80 := Tch_fr htc0 hk_83.fr hp_0 (by decide +kernel) (by decide +kernel)
        have tc_117 : Tch A S S_89 := Tch_sto tc_116 hk_90.fr hp_0 (by decide +kernel) hS_94 hrhc
        have t_118 : pR S_80 501 q_63 = some q_67 := hk_83.fr.R' (by decide +kernel) h_65 h_69
        have t_120 : At S_80 q_63 5 := hk_83.fr.at h_65
        have t_119 : pR S_89 501 q_63 = some q_67 := hk_90.fr.R' (by decide +kernel) t_120 t_118
        have t_121 : pN S_80 q_67 = n_68 := hk_83.fr.N h_70 h_71
        clear h_71
        have t_123 : At S_80 q_67 16 := hk_83.fr.at h_70
        have t_122 : pN S_89 q_67 = n_68 := hk_90.fr.N t_123 t_121
        clear t_121
        refine k_v (rm := { frames := 2, cells := 0, slots := 0, locals := 96 }) (av := [.ref q_63, .ref q_c1]) X hw (va_runV (As := [.ref q_c1]) (rest := []) (cfix X) (k_X5_addLast3 l G cy κ S_89 _ q_63 q_c1 A hO_93.1 t_115 t_95 (AO_ext tc_117.1 hp_0) (fun q h => by rw [t_119] at h; cases h; exact hA_74)) (cwV 1 X.2.2.2.1 gX4_drawEnd_X5_addLast rfl rfl rfl (by decide +kernel) ⟨Nat.le_of_ble_eq_true rfl, Nat.le_of_ble_eq_true rfl⟩) (pre_V X hw _ t_115 rfl (by decide) rfl) rfl rfl hl.1 rfl (lv_room (Nat.le_of_ble_eq_true rfl)) dX4_drawEnd_50 ⟨(by show c_81 + 0 ≤ Phc S + 8; omega), (by show n_82 + 0 ≤ Phs S + 15019; omega)⟩) c_81 n_82 (by show c_81 + 0 ≤ c_81; omega) (by show n_82 + 0 ≤ n_82; omega) (fun S_125 H locs hp hw hfr hnw => ?_)
        obtain ⟨hk_126, hp⟩ := hp
        have ph_127 : c_81 + Phc S_125 ≤ Phc S + 0 := by rw [show Phc S_125 = Phc S_89 from Ph_ok hO_93.1 hk_126 (by decide +kernel) (by decide +kernel) (by decide +kernel)]; exact ph_91
        have ph_128 : n_82 + Phs S_125 ≤ Phs S + 0 := by rw [show Phs S_125 = Phs S_89 from Ph_ok hO_93.1 hk_126 (by decide +kernel) (by decide +kernel) (by decide +kernel)]; exact ph_92
        clear ph_91
        clear ph_92
        have hO_129 : Og eDE S S_125 := hO_93.call hk_126.og (by decide +kernel)
        have hA_130 := hp
        have tc_131 : Tch A S S_125 := Tch_add tc_117 hk_126.fr (by decide +kernel) hA_130 hrhc
        exact ret_gv X hw hr hlocks (by show c_81 ≤ Phc S + 8; omega) (by show n_82 ≤ Phs S + 15019; omega) (by omega) (by omega) ⟨hO_129, tc_131⟩ dX4_drawEnd_53
    · have z_b_132 := trivial
      have k_133 : v_96.toInt = 2 := z_eq rfl ti_2 c_99
      refine lv_aload_n X.1 X.2.1 dX4_drawEnd_26 rfl (lv_at hl 0 rfl) ?_
      have t_134 : At S_80 x 4 := hk_83.fr.at ha_x
      have t_135 : At S_89 x 4 := hk_90.fr.at t_134
      have t_136 : pR S_80 401 x = some q_51 := hk_83.fr.R' (by decide +kernel) ha_x h_52
      have t_138 : At S_80 x 4 := hk_83.fr.at ha_x
      have t_137 : pR S_89 401 x = some q_51 := hk_90.fr.R' (by decide +kernel) t_138 t_136
      refine r_getR (g := 401) X hw t_135 rfl 1 t_137 (by decide) rfl inn_X4_drawEnd_4 (by decide) (X.2.2.2.1 (.fieldLink RX4 20 "SilkMill$Pot" "ends" "LSilkMill$Row;") (by decide +kernel)) rfl (gv_401 _ _) dX4_drawEnd_27 ?_
      refine lv_aload_n X.1 X.2.1 dX4_drawEnd_30 rfl (lv_at hl 1 rfl) ?_
      have t_139 : At S_80 q_51 5 := hk_83.fr.at h_53
      have t_140 : At S_89 q_51 5 := hk_90.fr.at t_139
      have tc_141 : Tch A S S_80 := Tch_fr htc0 hk_83.fr hp_0 (by decide +kernel) (by decide +kernel)
      have tc_142 : Tch A S S_89 := Tch_sto tc_141 hk_90.fr hp_0 (by decide +kernel) hS_94 hrhc
      have t_143 : pR S_80 501 q_51 = some q_55 := hk_83.fr.R' (by decide +kernel) h_53 h_57
      have t_145 : At S_80 q_51 5 := hk_83.fr.at h_53
      have t_144 : pR S_89 501 q_51 = some q_55 := hk_90.fr.R' (by decide +kernel) t_145 t_143
      have t_146 : pN S_80 q_55 = n_56 := hk_83.fr.N h_58 h_59
      clear h_59
      have t_148 : At S_80 q_55 16 := hk_83.fr.at h_58
      have t_147 : pN S_89 q_55 = n_56 := hk_90.fr.N t_148 t_146
      clear t_146
      refine k_v (rm := { frames := 2, cells := 0, slots := 0, locals := 96 }) (av := [.ref q_51, .ref q_c1]) X hw (va_runV (As := [.ref q_c1]) (rest := []) (cfix X) (k_X5_addLast3 l G cy κ S_89 _ q_51 q_c1 A hO_93.1 t_140 t_95 (AO_ext tc_142.1 hp_0) (fun q h => by rw [t_144] at h; cases h; exact hA_62)) (cwV 1 X.2.2.2.1 gX4_drawEnd_X5_addLast rfl rfl rfl (by decide +kernel) ⟨Nat.le_of_ble_eq_true rfl, Nat.le_of_ble_eq_true rfl⟩) (pre_V X hw _ t_140 rfl (by decide) rfl) rfl rfl hl.1 rfl (lv_room (Nat.le_of_ble_eq_true rfl)) dX4_drawEnd_31 ⟨(by show c_81 + 0 ≤ Phc S + 8; omega), (by show n_82 + 0 ≤ Phs S + 15019; omega)⟩) c_81 n_82 (by show c_81 + 0 ≤ c_81; omega) (by show n_82 + 0 ≤ n_82; omega) (fun S_150 H locs hp hw hfr hnw => ?_)
      obtain ⟨hk_151, hp⟩ := hp
      have ph_152 : c_81 + Phc S_150 ≤ Phc S + 0 := by rw [show Phc S_150 = Phc S_89 from Ph_ok hO_93.1 hk_151 (by decide +kernel) (by decide +kernel) (by decide +kernel)]; exact ph_91
      have ph_153 : n_82 + Phs S_150 ≤ Phs S + 0 := by rw [show Phs S_150 = Phs S_89 from Ph_ok hO_93.1 hk_151 (by decide +kernel) (by decide +kernel) (by decide +kernel)]; exact ph_92
      clear ph_91
      clear ph_92
      have hO_154 : Og eDE S S_150 := hO_93.call hk_151.og (by decide +kernel)
      have hA_155 := hp
      refine lv_goto (tgt := 53) X.1 X.2.1 dX4_drawEnd_34 (by decide) ?_
      have tc_156 : Tch A S S_150 := Tch_add tc_142 hk_151.fr (by decide +kernel) hA_155 hrhc
      exact ret_gv X hw hr hlocks (by show c_81 ≤ Phc S + 8; omega) (by show n_82 ≤ Phs S + 15019; omega) (by omega) (by omega) ⟨hO_154, tc_156⟩ dX4_drawEnd_53
set_option maxHeartbeats 4000000 in
set_option maxRecDepth 100000 in
theorem k_X4_act3 (l : Launch) (G : va_G) (cy : Nat → ClassId) (κ : Nat → Nat) (S : PS) (sz hz : Nat) (x : Nat) (a1 : Int32) (a1_z : Int) (a2 : Int32) (a2_z : Int) (s1 : Nat) (A : Nat → Prop) (hG : GX S) (ha_x : At S x 4) (hz_a1 : a1.toInt = a1_z) (hz_a2 : a2.toInt = a2_z) (ha_s1 : At S s1 8) (hp_0 : AO A S) (hp_1 : PIn A S x) : Gv l yX4_act wsX4_act ({ frames := 6, cells := Phc S + 8, slots := Phs S + 15019, locals := 288 }) G cy κ S sz hz 0 0 [.ref x, .int (a1), .int (a2), .ref s1] (fun (S9 : PS) => Og eAC S S9 ∧ (Tch A S S9)) := by
  refine ent_g (cc := cX4_act) (maxL := 4) (ret := none) (by decide) rfl (Nat.le_of_ble_eq_true rfl) ?_
  intro p e s m below meth c ls X hr hlocks hin hw hl hsz hhz
  subst hsz hhz
  have X : Cx p c cX4_act 4 s [.ref x, .int (a1), .int (a2), .ref s1].toArray wsX4_act RX4 m G cy κ (AS S s.heap.size) := X
  have hl : lv_has ls 4 [(0, .ref x), (1, .int (a1)), (2, .int (a2)), (3, .ref s1)] := hl
  have rg_a1 : (-2147483648) ≤ a1_z ∧ a1_z ≤ 2147483647 := by rw [← hz_a1]; exact ⟨z_lo _, z_hi _⟩
  have rg_a2 : (-2147483648) ≤ a2_z ∧ a2_z ≤ 2147483647 := by rw [← hz_a2]; exact ⟨z_lo _, z_hi _⟩
  have hpc0 : 0 + Phc S ≤ Phc S + 0 := by omega
  have hps0 : 0 + Phs S ≤ Phs S + 0 := by omega
  have hO : Og eAC S S := Og.rf hG
  obtain ⟨q_1, h_2, h_3⟩ := gQ_4_400 hO.1 ha_x
  obtain ⟨q_5, n_6, h_7, h_8, h_9, h_10, h_11⟩ := gRowQ hO.1 h_3
  have hA_12 : A q_5 := hp_1 _ _ (Or.inl h_2) h_7
  obtain ⟨q_13, h_14, h_15⟩ := gQ_4_401 hO.1 ha_x
  obtain ⟨q_17, n_18, h_19, h_20, h_21, h_22, h_23⟩ := gRowQ hO.1 h_15
  have hA_24 : A q_17 := hp_1 _ _ (Or.inr (Or.inl h_14)) h_19
  obtain ⟨q_25, h_26, h_27⟩ := gQ_4_402 hO.1 ha_x
  obtain ⟨q_29, n_30, h_31, h_32, h_33, h_34, h_35⟩ := gRowQ hO.1 h_27
  have hA_36 : A q_29 := hp_1 _ _ (Or.inr (Or.inr h_26)) h_31
  have htc0 : Tch A S S := Tch_rf A S
  refine lv_iload_n X.1 X.2.1 dX4_act_0 rfl (lv_at hl 1 rfl) ?_
  by_cases w_37 : (a1).toInt < 0 ∨ 4 < (a1).toInt
  · refine lv_tableOut (tgt := 74) X.1 X.2.1 dX4_act_1 w_37 (by decide) ?_
    refine lv_aload_n X.1 X.2.1 dX4_act_74 rfl (lv_at hl 0 rfl) ?_
    refine lv_dup X.1 X.2.1 dX4_act_75 rfl ?_
    obtain ⟨v_38, ev_38⟩ : ∃ v, pI S 405 x = v := ⟨_, rfl⟩
    have rg_40 := And.intro (z_lo v_38) (z_hi v_38)
    refine r_getI (g := 405) (x := v_38) X hw ha_x rfl 5 ev_38 (by decide) rfl inn_X4_act_4 (by decide) (X.2.2.2.1 (.fieldLink RX4 66 "SilkMill$Pot" "stop" "I") (by decide +kernel)) rfl (gv_405 _ _) dX4_act_76 ?_
    refine lv_iload_n X.1 X.2.1 dX4_act_79 rfl (lv_at hl 2 rfl) ?_
    refine lv_iadd X.1 X.2.1 dX4_act_80 ?_
    refine lv_topi (fun v_41 ev_41 => ?_)
    have rg_42 := And.intro (z_lo v_41) (z_hi v_41)
    refine r_putI (v := v_41) X hw ha_x rfl 5 405 tyX4 (by decide) rfl inn_X4_act_4 tyX4_ok nmX4 (by decide) (X.2.2.2.1 (.fieldLink RX4 66 "SilkMill$Pot" "stop" "I") (by decide +kernel)) rfl (Or.inl rfl) rfl rfl (Nat.le_of_ble_eq_true rfl) (st_405 _ _) dX4_act_81 (fun H locs hw => ?_)
    obtain ⟨S_43, eS_43⟩ : ∃ T, T = sI S 405 x (v_41) := ⟨_, rfl⟩
    rw [← eS_43] at hw
    have ph_44 : 0 + Phc S_43 ≤ Phc S + 0 := by rw [show Phc S_43 = Phc S from Ph_sI eS_43 rfl rfl]; exact hpc0
    have ph_45 : 0 + Phs S_43 ≤ Phs S + 0 := by rw [show Phs S_43 = Phs S from Ph_sI eS_43 rfl rfl]; exact hps0
    clear hpc0
    clear hps0
    have hO_46 : Og eAC S S_43 := hO.sI eS_43 (by decide +kernel) (uI_4_405 hO.1 ha_x)
    have h_47 : pI S_43 405 x = v_41 := tI_sIs eS_43
    have tc_48 : Tch A S S_43 := Tch_sI htc0 eS_43 (by decide)
    exact ret_gv X hw hr hlocks (by show 0 ≤ Phc S + 8; omega) (by show 0 ≤ Phs S + 15019; omega) (by omega) (by omega) ⟨hO_46, tc_48⟩ dX4_act_84
  have w_37b : (a1).toInt = 0 ∨ (a1).toInt = 1 ∨ (a1).toInt = 2 ∨ (a1).toInt = 3 ∨ (a1).toInt = 4 := by omega
  rcases w_37b with w_37c | w_37c | w_37c | w_37c | w_37c
  · refine lv_tableIn (tgt := 36) X.1 X.2.1 dX4_act_1 (by omega) (by omega) (by rw [w_37c]; rfl) (by decide) ?_
    refine lv_aload_n X.1 X.2.1 dX4_act_36 rfl (lv_at hl 0 rfl) ?_
    refine k_v (rm := { frames := 3, cells := 0, slots := 0, locals := 144 }) (av := [.ref x]) X hw (va_runV (As := []) (rest := []) (cfix X) (k_X4_castFirst3 l G cy κ S _ x A hO.1 ha_x (AO_ext htc0.1 hp_0) (fun R q h1 h2 => by rcases h1 with h1 | h1 | h1; rw [h_2] at h1; cases h1; rw [h_7] at h2; cases h2; exact hA_12; rw [h_14] at h1; cases h1; rw [h_19] at h2; cases h2; exact hA_24; rw [h_26] at h1; cases h1; rw [h_31] at h2; cases h2; exact hA_36)) (cwV 0 X.2.2.2.1 gX4_act_X4_castFirst rfl rfl rfl (by decide +kernel) ⟨Nat.le_of_ble_eq_true rfl, Nat.le_of_ble_eq_true rfl⟩) (pre_V X hw _ ha_x rfl (by decide) rfl) rfl rfl hl.1 rfl (lv_room (Nat.le_of_ble_eq_true rfl)) dX4_act_37 ⟨(by show 0 + 0 ≤ Phc S + 8; omega), (by show 0 + 0 ≤ Phs S + 15019; omega)⟩) 0 0 (by show 0 + 0 ≤ 0; omega) (by show 0 + 0 ≤ 0; omega) (fun S_50 H locs hp hw hfr hnw => ?_)
    obtain ⟨hk_51, hp⟩ := hp
    have ph_52 : 0 + Phc S_50 ≤ Phc S + 0 := by rw [show Phc S_50 = Phc S from Ph_ok hO.1 hk_51 (by decide +kernel) (by decide +kernel) (by decide +kernel)]; exact hpc0
    have ph_53 : 0 + Phs S_50 ≤ Phs S + 0 := by rw [show Phs S_50 = Phs S from Ph_ok hO.1 hk_51 (by decide +kernel) (by decide +kernel) (by decide +kernel)]; exact hps0
    clear hpc0
    clear hps0
    have hO_54 : Og eAC S S_50 := hO.call hk_51.og (by decide +kernel)
    have hT_55 := hp
    refine lv_goto (tgt := 84) X.1 X.2.1 dX4_act_40 (by decide) ?_
    have tc_56 : Tch A S S_50 := Tch_tr htc0 hT_55
    exact ret_gv X hw hr hlocks (by show 0 ≤ Phc S + 8; omega) (by show 0 ≤ Phs S + 15019; omega) (by omega) (by omega) ⟨hO_54, tc_56⟩ dX4_act_84
  · refine lv_tableIn (tgt := 43) X.1 X.2.1 dX4_act_1 (by omega) (by omega) (by rw [w_37c]; rfl) (by decide) ?_
    refine lv_aload_n X.1 X.2.1 dX4_act_43 rfl (lv_at hl 0 rfl) ?_
    refine k_v (rm := { frames := 4, cells := 0, slots := 0, locals := 192 }) (av := [.ref x]) X hw (va_runV (As := []) (rest := []) (cfix X) (k_X4_dropThinnest3 l G cy κ S _ x A hO.1 ha_x (AO_ext htc0.1 hp_0) (fun R q h1 h2 => by rcases h1 with h1 | h1 | h1; rw [h_2] at h1; cases h1; rw [h_7] at h2; cases h2; exact hA_12; rw [h_14] at h1; cases h1; rw [h_19] at h2; cases h2; exact hA_24; rw [h_26] at h1; cases h1; rw [h_31] at h2; cases h2; exact hA_36)) (cwV 0 X.2.2.2.1 gX4_act_X4_dropThinnest rfl rfl rfl (by decide +kernel) ⟨Nat.le_of_ble_eq_true rfl, Nat.le_of_ble_eq_true rfl⟩) (pre_V X hw _ ha_x rfl (by decide) rfl) rfl rfl hl.1 rfl (lv_room (Nat.le_of_ble_eq_true rfl)) dX4_act_44 ⟨(by show 0 + 0 ≤ Phc S + 8; omega), (by show 0 + 0 ≤ Phs S + 15019; omega)⟩) 0 0 (by show 0 + 0 ≤ 0; omega) (by show 0 + 0 ≤ 0; omega) (fun S_58 H locs hp hw hfr hnw => ?_)
    obtain ⟨hk_59, hp⟩ := hp
    have ph_60 : 0 + Phc S_58 ≤ Phc S + 0 := by rw [show Phc S_58 = Phc S from Ph_ok hO.1 hk_59 (by decide +kernel) (by decide +kernel) (by decide +kernel)]; exact hpc0
    have ph_61 : 0 + Phs S_58 ≤ Phs S + 0 := by rw [show Phs S_58 = Phs S from Ph_ok hO.1 hk_59 (by decide +kernel) (by decide +kernel) (by decide +kernel)]; exact hps0
    clear hpc0
    clear hps0
    have hO_62 : Og eAC S S_58 := hO.call hk_59.og (by decide +kernel)
    have hT_63 := hp
    refine lv_goto (tgt := 84) X.1 X.2.1 dX4_act_47 (by decide) ?_
    have tc_64 : Tch A S S_58 := Tch_tr htc0 hT_63
    exact ret_gv X hw hr hlocks (by show 0 ≤ Phc S + 8; omega) (by show 0 ≤ Phs S + 15019; omega) (by omega) (by omega) ⟨hO_62, tc_64⟩ dX4_act_84
  · refine lv_tableIn (tgt := 50) X.1 X.2.1 dX4_act_1 (by omega) (by omega) (by rw [w_37c]; rfl) (by decide) ?_
    refine lv_aload_n X.1 X.2.1 dX4_act_50 rfl (lv_at hl 0 rfl) ?_
    refine k_v (rm := { frames := 4, cells := 0, slots := 0, locals := 192 }) (av := [.ref x]) X hw (va_runV (As := []) (rest := []) (cfix X) (k_X4_findFirst3 l G cy κ S _ x A hO.1 ha_x (AO_ext htc0.1 hp_0) (fun R q h1 h2 => by rcases h1 with h1 | h1 | h1; rw [h_2] at h1; cases h1; rw [h_7] at h2; cases h2; exact hA_12; rw [h_14] at h1; cases h1; rw [h_19] at h2; cases h2; exact hA_24; rw [h_26] at h1; cases h1; rw [h_31] at h2; cases h2; exact hA_36)) (cwV 0 X.2.2.2.1 gX4_act_X4_findFirst rfl rfl rfl (by decide +kernel) ⟨Nat.le_of_ble_eq_true rfl, Nat.le_of_ble_eq_true rfl⟩) (pre_V X hw _ ha_x rfl (by decide) rfl) rfl rfl hl.1 rfl (lv_room (Nat.le_of_ble_eq_true rfl)) dX4_act_51 ⟨(by show 0 + 0 ≤ Phc S + 8; omega), (by show 0 + 0 ≤ Phs S + 15019; omega)⟩) 0 0 (by show 0 + 0 ≤ 0; omega) (by show 0 + 0 ≤ 0; omega) (fun S_66 H locs hp hw hfr hnw => ?_)
    obtain ⟨hk_67, hp⟩ := hp
    have ph_68 : 0 + Phc S_66 ≤ Phc S + 0 := by rw [show Phc S_66 = Phc S from Ph_ok hO.1 hk_67 (by decide +kernel) (by decide +kernel) (by decide +kernel)]; exact hpc0
    have ph_69 : 0 + Phs S_66 ≤ Phs S + 0 := by rw [show Phs S_66 = Phs S from Ph_ok hO.1 hk_67 (by decide +kernel) (by decide +kernel) (by decide +kernel)]; exact hps0
    clear hpc0
    clear hps0
    have hO_70 : Og eAC S S_66 := hO.call hk_67.og (by decide +kernel)
    have hT_71 := hp
    refine lv_goto (tgt := 84) X.1 X.2.1 dX4_act_54 (by decide) ?_
    have tc_72 : Tch A S S_66 := Tch_tr htc0 hT_71
    exact ret_gv X hw hr hlocks (by show 0 ≤ Phc S + 8; omega) (by show 0 ≤ Phs S + 15019; omega) (by omega) (by omega) ⟨hO_70, tc_72⟩ dX4_act_84
  · refine lv_tableIn (tgt := 57) X.1 X.2.1 dX4_act_1 (by omega) (by omega) (by rw [w_37c]; rfl) (by decide) ?_
    refine lv_aload_n X.1 X.2.1 dX4_act_57 rfl (lv_at hl 0 rfl) ?_
    refine lv_aload_n X.1 X.2.1 dX4_act_58 rfl (lv_at hl 3 rfl) ?_
    refine k_v (rm := { frames := 4, cells := 0, slots := 0, locals := 192 }) (av := [.ref x, .ref s1]) X hw (va_runV (As := [.ref s1]) (rest := []) (cfix X) (k_X4_throwLast3 l G cy κ S _ x s1 A hO.1 ha_x ha_s1 (AO_ext htc0.1 hp_0) (fun R q h1 h2 => by rcases h1 with h1 | h1 | h1; rw [h_2] at h1; cases h1; rw [h_7] at h2; cases h2; exact hA_12; rw [h_14] at h1; cases h1; rw [h_19] at h2; cases h2; exact hA_24; rw [h_26] at h1; cases h1; rw [h_31] at h2; cases h2; exact hA_36)) (cwV 1 X.2.2.2.1 gX4_act_X4_throwLast rfl rfl rfl (by decide +kernel) ⟨Nat.le_of_ble_eq_true rfl, Nat.le_of_ble_eq_true rfl⟩) (pre_V X hw _ ha_x rfl (by decide) rfl) rfl rfl hl.1 rfl (lv_room (Nat.le_of_ble_eq_true rfl)) dX4_act_59 ⟨(by show 0 + 0 ≤ Phc S + 8; omega), (by show 0 + 0 ≤ Phs S + 15019; omega)⟩) 0 0 (by show 0 + 0 ≤ 0; omega) (by show 0 + 0 ≤ 0; omega) (fun S_74 H locs hp hw hfr hnw => ?_)
    obtain ⟨hk_75, hp⟩ := hp
    have ph_76 : 0 + Phc S_74 ≤ Phc S + 0 := by rw [show Phc S_74 = Phc S from Ph_ok hO.1 hk_75 (by decide +kernel) (by decide +kernel) (by decide +kernel)]; exact hpc0
    have ph_77 : 0 + Phs S_74 ≤ Phs S + 0 := by rw [show Phs S_74 = Phs S from Ph_ok hO.1 hk_75 (by decide +kernel) (by decide +kernel) (by decide +kernel)]; exact hps0
    clear hpc0
    clear hps0
    have hO_78 : Og eAC S S_74 := hO.call hk_75.og (by decide +kernel)
    have hT_79 := hp
    refine lv_goto (tgt := 84) X.1 X.2.1 dX4_act_62 (by decide) ?_
    have tc_80 : Tch A S S_74 := Tch_tr htc0 hT_79
    exact ret_gv X hw hr hlocks (by show 0 ≤ Phc S + 8; omega) (by show 0 ≤ Phs S + 15019; omega) (by omega) (by omega) ⟨hO_78, tc_80⟩ dX4_act_84
  · refine lv_tableIn (tgt := 65) X.1 X.2.1 dX4_act_1 (by omega) (by omega) (by rw [w_37c]; rfl) (by decide) ?_
    refine lv_aload_n X.1 X.2.1 dX4_act_65 rfl (lv_at hl 0 rfl) ?_
    refine lv_aload_n X.1 X.2.1 dX4_act_66 rfl (lv_at hl 3 rfl) ?_
    refine k_gi (kc := 0) (ks := 0) (rm := { frames := 5, cells := Phc S + 8, slots := Phs S + 15019, locals := 240 }) (av := [.ref x, .ref s1]) X hw (va_runV (As := [.ref s1]) (rest := []) (cfix X) (k_X4_cutStrand l G cy κ S _ _ x s1 hO.1 ha_x ha_s1) (cwV 1 X.2.2.2.1 gX4_act_X4_cutStrand rfl rfl rfl (by decide +kernel) ⟨Nat.le_of_ble_eq_true rfl, Nat.le_of_ble_eq_true rfl⟩) (pre_gV X hw _ ha_x rfl (by decide) rfl) rfl rfl hl.1 rfl (lv_room (Nat.le_of_ble_eq_true rfl)) dX4_act_67 ⟨(by show 0 + (Phc S + 8) ≤ Phc S + 8; omega), (by show 0 + (Phs S + 15019) ≤ Phs S + 15019; omega)⟩) (fun rr_81 S_82 H locs c_83 n_84 hc_83 hn_84 hp hw => ?_)
    obtain ⟨hk_85, hp⟩ := hp
    have ph_86 : c_83 + Phc S_82 ≤ Phc S + 0 := by omega
    have ph_87 : n_84 + Phs S_82 ≤ Phs S + 0 := by omega
    clear hpc0
    clear hps0
    clear hc_83
    clear hn_84
    have hO_88 : Og eAC S S_82 := hO.call hk_85 (by decide +kernel)
    have rg_89 := And.intro (z_lo rr_81) (z_hi rr_81)
    refine lv_pop X.1 X.2.1 dX4_act_70 rfl ?_
    refine lv_goto (tgt := 84) X.1 X.2.1 dX4_act_71 (by decide) ?_
    have tc_90 : Tch A S S_82 := Tch_fr htc0 hk_85.fr hp_0 (by decide +kernel) (by decide +kernel)
    exact ret_gv X hw hr hlocks (by show c_83 ≤ Phc S + 8; omega) (by show n_84 ≤ Phs S + 15019; omega) (by omega) (by omega) ⟨hO_88, tc_90⟩ dX4_act_84
set_option maxHeartbeats 4000000 in
set_option maxRecDepth 100000 in
theorem k_X4_applyRules3 (l : Launch) (G : va_G) (cy : Nat → ClassId) (κ : Nat → Nat) (S : PS) (sz hz : Nat) (x : Nat) (s1 : Nat) (A : Nat → Prop) (hG : GX S) (ha_x : At S x 4) (ha_s1 : At S s1 8) (hp_0 : AO A S) (hp_1 : PIn A S x) : Gv l yX4_applyRules wsX4_applyRules ({ frames := 7, cells := Phc S + 8, slots := Phs S + 15019, locals := 336 }) G cy κ S sz hz 0 0 [.ref x, .ref s1] (fun (S9 : PS) => Og eAC S S9 ∧ (Tch A S S9)) := by
  refine ent_g (cc := cX4_applyRules) (maxL := 3) (ret := none) (by decide) rfl (Nat.le_of_ble_eq_true rfl) ?_
  intro p e s m below meth c ls X hr hlocks hin hw hl hsz hhz
  subst hsz hhz
  have X : Cx p c cX4_applyRules 3 s [.ref x, .ref s1].toArray wsX4_applyRules RX4 m G cy κ (AS S s.heap.size) := X
  have hl : lv_has ls 3 [(0, .ref x), (1, .ref s1)] := hl
  have hpc0 : 0 + Phc S ≤ Phc S + 0 := by omega
  have hps0 : 0 + Phs S ≤ Phs S + 0 := by omega
  have hO : Og eAC S S := Og.rf hG
  generalize hQQ : MQ below _ _ _ _ _ _ = QQ
  replace hQQ := hQQ.symm
  obtain ⟨q_1, h_2, h_3⟩ := gQ_4_400 hO.1 ha_x
  obtain ⟨q_5, n_6, h_7, h_8, h_9, h_10, h_11⟩ := gRowQ hO.1 h_3
  have hA_12 : A q_5 := hp_1 _ _ (Or.inl h_2) h_7
  obtain ⟨q_13, h_14, h_15⟩ := gQ_4_401 hO.1 ha_x
  obtain ⟨q_17, n_18, h_19, h_20, h_21, h_22, h_23⟩ := gRowQ hO.1 h_15
  have hA_24 : A q_17 := hp_1 _ _ (Or.inr (Or.inl h_14)) h_19
  obtain ⟨q_25, h_26, h_27⟩ := gQ_4_402 hO.1 ha_x
  obtain ⟨q_29, n_30, h_31, h_32, h_33, h_34, h_35⟩ := gRowQ hO.1 h_27
  have hA_36 : A q_29 := hp_1 _ _ (Or.inr (Or.inr h_26)) h_31
  have htc0 : Tch A S S := Tch_rf A S
  refine lv_iconst (v := 0) X.1 X.2.1 dX4_applyRules_0 (by decide) ?_
  refine lv_istore_n (lv' := [(2, .int 0), (0, .ref x), (1, .ref s1)]) X.1 X.2.1 dX4_applyRules_1 rfl hl (by decide) rfl (fun ls hl => ?_)
  have L_37 : ∀ (n : Nat) (T_39 : PS) (H : Heap) (locs : List Loc) (ls : Array Slot) (i2_38 : Int32) (i2_38_z : Int) (cc_58 nn_59 : Nat), ((12 - i2_38_z).toNat = n) → (Wd G cy (AS S s.heap.size) s.heap T_39 H locs) → (i2_38.toInt = i2_38_z) → (0 ≤ i2_38_z ∧ i2_38_z ≤ 12) → (At T_39 s1 8) → (At T_39 x 4) → (Og eAC S T_39) → (Tch A S T_39) → (pR T_39 400 x = some q_1) → (At T_39 q_1 5) → (pR T_39 401 x = some q_13) → (At T_39 q_13 5) → (pR T_39 402 x = some q_25) → (At T_39 q_25 5) → (pR T_39 501 q_1 = some q_5) → (At T_39 q_5 16) → (pN T_39 q_5 = n_6) → (pR T_39 501 q_13 = some q_17) → (At T_39 q_17 16) → (pN T_39 q_17 = n_18) → (pR T_39 501 q_25 = some q_29) → (At T_39 q_29 16) → (pN T_39 q_29 = n_30) → (cc_58 + Phc T_39 ≤ Phc S + 0) → (nn_59 + Phs T_39 ≤ Phs S + 0) → (lv_has ls 3 [(2, .int (i2_38)), (0, .ref x), (1, .ref s1)]) → W p l e ({ frames := 7, cells := Phc S + 8, slots := Phs S + 15019, locals := 336 }) s m [.ref x, .ref s1].toArray below meth c H locs cc_58 nn_59 QQ (F0 m 2 ls []) := by
    intro n
    induction n using Nat.strongRecOn with
    | ind n ih =>
    intro T_39 H locs ls i2_38 i2_38_z cc_58 nn_59 hn hw hz_i2_38 hr_i2_38 ha_s1_L_40 ha_x_L_41 hO_T_39 iv_42 ik_43 ik_44 ik_45 ik_46 ik_47 ik_48 ik_49 ik_50 ik_51 ik_52 ik_53 ik_54 ik_55 ik_56 ik_57 hcc_60 hnn_61 hl
    have rg_62 : (-2147483648) ≤ i2_38_z ∧ i2_38_z ≤ 2147483647 := by rw [← hz_i2_38]; exact ⟨z_lo _, z_hi _⟩
    refine lv_iload_n X.1 X.2.1 dX4_applyRules_2 rfl (lv_at hl 0 rfl) ?_
    refine lv_aload_n X.1 X.2.1 dX4_applyRules_3 rfl (lv_at hl 1 rfl) ?_
    obtain ⟨q_63, h_64, h_65⟩ := gQ_4_409 hO_T_39.1 ha_x_L_41
    refine r_getR (g := 409) X hw ha_x_L_41 rfl 9 h_64 (by decide) rfl inn_X4_applyRules_4 (by decide) (X.2.2.2.1 (.fieldLink RX4 36 "SilkMill$Pot" "rules" "LSilkMill$Rules;") (by decide +kernel)) rfl (gv_409 _ _) dX4_applyRules_4 ?_
    obtain ⟨v_67, ev_67⟩ : ∃ v, pI T_39 600 q_63 = v := ⟨_, rfl⟩
    have rg_68 := gI_6_600 hO_T_39.1 h_65; rw [ev_67] at rg_68
    refine r_getI (g := 600) (x := v_67) X hw h_65 rfl 0 ev_67 (by decide) rfl inn_X4_applyRules_6 (by decide) (X.2.2.2.1 (.fieldLink RX4 101 "SilkMill$Rules" "size" "I") (by decide +kernel)) rfl (gv_600 _ _) dX4_applyRules_7 ?_
    refine lv_icmp_ge (tgt := 54) X.1 X.2.1 dX4_applyRules_10 (by decide) (fun c_69 => ?_) (fun c_69 => ?_)
    · have z_b_70 := trivial
      have k_71 : i2_38_z ≥ v_67.toInt := z_le rfl hz_i2_38 c_69
      rw [hQQ]
      exact ret_gv X hw hr hlocks (by show cc_58 ≤ Phc S + 8; omega) (by show nn_59 ≤ Phs S + 15019; omega) (by omega) (by omega) ⟨hO_T_39, iv_42⟩ dX4_applyRules_54
    · have z_b_72 := trivial
      have k_73 : i2_38_z < v_67.toInt := z_nle rfl hz_i2_38 c_69
      refine lv_aload_n X.1 X.2.1 dX4_applyRules_13 rfl (lv_at hl 1 rfl) ?_
      refine lv_iload_n X.1 X.2.1 dX4_applyRules_14 rfl (lv_at hl 0 rfl) ?_
      refine lv_aload_n X.1 X.2.1 dX4_applyRules_15 rfl (lv_at hl 2 rfl) ?_
      obtain ⟨v_74, ev_74⟩ : ∃ v, pI T_39 801 s1 = v := ⟨_, rfl⟩
      have rg_76 := And.intro (z_lo v_74) (z_hi v_74)
      refine r_getI (g := 801) (x := v_74) X hw ha_s1_L_40 rfl 1 ev_74 (by decide) rfl inn_X4_applyRules_8 (by decide) (X.2.2.2.1 (.fieldLink RX4 102 "SilkMill$Store" "today" "I") (by decide +kernel)) rfl (gv_801 _ _) dX4_applyRules_16 ?_
      refine k_i (rm := { frames := 5, cells := 0, slots := 0, locals := 240 }) (av := [.ref x, .int (i2_38), .int (v_74)]) X hw (va_runV (As := [.int (i2_38), .int (v_74)]) (rest := []) (cfix X) (k_X4_allHold l G cy κ T_39 _ x (i2_38) (i2_38_z) (v_74) (v_74.toInt) hO_T_39.1 ha_x_L_41 hz_i2_38 rfl (by omega) (by omega)) (cwV 2 X.2.2.2.1 gX4_applyRules_X4_allHold rfl rfl rfl (by decide +kernel) ⟨Nat.le_of_ble_eq_true rfl, Nat.le_of_ble_eq_true rfl⟩) (pre_V X hw _ ha_x_L_41 rfl (by decide) rfl) rfl rfl hl.1 rfl (lv_room (Nat.le_of_ble_eq_true rfl)) dX4_applyRules_19 ⟨(by show cc_58 + 0 ≤ Phc S + 8; omega), (by show nn_59 + 0 ≤ Phs S + 15019; omega)⟩) cc_58 nn_59 (by show cc_58 + 0 ≤ cc_58; omega) (by show nn_59 + 0 ≤ nn_59; omega) (fun rr_77 S_78 H locs hp hw hfr hnw => ?_)
      obtain ⟨e2, hp⟩ := hp
      subst e2
      rcases hp with ⟨f_79, er_80⟩ | ⟨f_79, er_80⟩ <;> subst er_80
      · have z_b_81 := trivial
        refine lv_if_eq (tgt := 48) X.1 X.2.1 dX4_applyRules_22 (by decide) (fun c_82 => absurd c_82 (by decide)) (fun c_82 => ?_)
        refine lv_aload_n X.1 X.2.1 dX4_applyRules_25 rfl (lv_at hl 1 rfl) ?_
        refine lv_aload_n X.1 X.2.1 dX4_applyRules_26 rfl (lv_at hl 1 rfl) ?_
        refine r_getR (g := 409) X hw ha_x_L_41 rfl 9 h_64 (by decide) rfl inn_X4_applyRules_4 (by decide) (X.2.2.2.1 (.fieldLink RX4 36 "SilkMill$Pot" "rules" "LSilkMill$Rules;") (by decide +kernel)) rfl (gv_409 _ _) dX4_applyRules_27 ?_
        obtain ⟨q_83, h_84, h_85, h_86⟩ := gQ_6_601 hO_T_39.1 h_65
        refine r_getR (g := 601) X hw h_65 rfl 1 h_84 (by decide) rfl inn_X4_applyRules_6 (by decide) (X.2.2.2.1 (.fieldLink RX4 109 "SilkMill$Rules" "acts" "[I") (by decide +kernel)) rfl (gv_601 _ _) dX4_applyRules_30 ?_
        refine lv_iload_n X.1 X.2.1 dX4_applyRules_33 rfl (lv_at hl 0 rfl) ?_
        refine r_iald X hw h_85 rfl (by rw [h_86]; exact z_ix hz_i2_38 (by omega) (by omega)) dX4_applyRules_34 ?_
        refine lv_topi (fun v_87 ev_87 => ?_)
        have rg_88 := And.intro (z_lo v_87) (z_hi v_87)
        have ev_87 := ev_87.symm
        refine lv_aload_n X.1 X.2.1 dX4_applyRules_35 rfl (lv_at hl 1 rfl) ?_
        refine r_getR (g := 409) X hw ha_x_L_41 rfl 9 h_64 (by decide) rfl inn_X4_applyRules_4 (by decide) (X.2.2.2.1 (.fieldLink RX4 36 "SilkMill$Pot" "rules" "LSilkMill$Rules;") (by decide +kernel)) rfl (gv_409 _ _) dX4_applyRules_36 ?_
        obtain ⟨q_89, h_90, h_91, h_92⟩ := gQ_6_602 hO_T_39.1 h_65
        refine r_getR (g := 602) X hw h_65 rfl 2 h_90 (by decide) rfl inn_X4_applyRules_6 (by decide) (X.2.2.2.1 (.fieldLink RX4 113 "SilkMill$Rules" "amounts" "[I") (by decide +kernel)) rfl (gv_602 _ _) dX4_applyRules_39 ?_
        refine lv_iload_n X.1 X.2.1 dX4_applyRules_42 rfl (lv_at hl 0 rfl) ?_
        refine r_iald X hw h_91 rfl (by rw [h_92]; exact z_ix hz_i2_38 (by omega) (by omega)) dX4_applyRules_43 ?_
        refine lv_topi (fun v_93 ev_93 => ?_)
        have rg_94 := And.intro (z_lo v_93) (z_hi v_93)
        have ev_93 := ev_93.symm
        refine lv_aload_n X.1 X.2.1 dX4_applyRules_44 rfl (lv_at hl 2 rfl) ?_
        refine k_gv (kc := 0) (ks := 0) (rm := { frames := 6, cells := Phc T_39 + 8, slots := Phs T_39 + 15019, locals := 288 }) (av := [.ref x, .int (v_87), .int (v_93), .ref s1]) X hw (va_runV (As := [.int (v_87), .int (v_93), .ref s1]) (rest := []) (cfix X) (k_X4_act3 l G cy κ T_39 _ _ x (v_87) (v_87.toInt) (v_93) (v_93.toInt) s1 A hO_T_39.1 ha_x_L_41 rfl rfl ha_s1_L_40 (AO_ext iv_42.1 hp_0) (fun R q h1 h2 => by rcases h1 with h1 | h1 | h1; rw [ik_43] at h1; cases h1; rw [ik_49] at h2; cases h2; exact hA_12; rw [ik_45] at h1; cases h1; rw [ik_52] at h2; cases h2; exact hA_24; rw [ik_47] at h1; cases h1; rw [ik_55] at h2; cases h2; exact hA_36)) (cwV 3 X.2.2.2.1 gX4_applyRules_X4_act rfl rfl rfl (by decide +kernel) ⟨Nat.le_of_ble_eq_true rfl, Nat.le_of_ble_eq_true rfl⟩) (pre_gV X hw _ ha_x_L_41 rfl (by decide) rfl) rfl rfl hl.1 rfl (lv_room (Nat.le_of_ble_eq_true rfl)) dX4_applyRules_45 ⟨(by show cc_58 + (Phc T_39 + 8) ≤ Phc S + 8; omega), (by show nn_59 + (Phs T_39 + 15019) ≤ Phs S + 15019; omega)⟩) (fun S_96 H locs c_97 n_98 hc_97 hn_98 hp hw => ?_)
        obtain ⟨hk_99, hp⟩ := hp
        have ph_100 : c_97 + Phc S_96 ≤ Phc S + 0 := by omega
        have ph_101 : n_98 + Phs S_96 ≤ Phs S + 0 := by omega
        clear hcc_60
        clear hnn_61
        clear hc_97
        clear hn_98
        have hO_102 : Og eAC S S_96 := hO_T_39.call hk_99 (by decide +kernel)
        have hT_103 := hp
        obtain ⟨x_104, ex_104⟩ : ∃ y : Int32, y = i2_38 + 1 := ⟨_, rfl⟩
        have z_105 : x_104.toInt = i2_38_z + 1 := z_add ex_104 hz_i2_38 ti_1 (by omega) (by omega)
        refine lv_iinc (v := x_104) (lv' := [(2, .int (x_104)), (0, .ref x), (1, .ref s1)]) X.1 X.2.1 dX4_applyRules_48 hl (k := 0) rfl (by rw [ex_104]; rfl) (by decide) rfl (fun ls hl => ?_)
        refine lv_goto (tgt := 2) X.1 X.2.1 dX4_applyRules_51 (by decide) ?_
        have t_106 : At S_96 s1 8 := hk_99.fr.at ha_s1_L_40
        have t_107 : At S_96 x 4 := hk_99.fr.at ha_x_L_41
        have tc_108 : Tch A S S_96 := Tch_tr iv_42 hT_103
        have t_109 : pR S_96 400 x = some q_1 := hk_99.fr.R' (by decide +kernel) ha_x_L_41 ik_43
        have t_110 : At S_96 q_1 5 := hk_99.fr.at ik_44
        have t_111 : pR S_96 401 x = some q_13 := hk_99.fr.R' (by decide +kernel) ha_x_L_41 ik_45
        have t_112 : At S_96 q_13 5 := hk_99.fr.at ik_46
        have t_113 : pR S_96 402 x = some q_25 := hk_99.fr.R' (by decide +kernel) ha_x_L_41 ik_47
        have t_114 : At S_96 q_25 5 := hk_99.fr.at ik_48
        have t_115 : pR S_96 501 q_1 = some q_5 := hk_99.fr.R' (by decide +kernel) ik_44 ik_49
        have t_116 : At S_96 q_5 16 := hk_99.fr.at ik_50
        have t_117 : pN S_96 q_5 = n_6 := hk_99.fr.N ik_50 ik_51
        have t_118 : pR S_96 501 q_13 = some q_17 := hk_99.fr.R' (by decide +kernel) ik_46 ik_52
        have t_119 : At S_96 q_17 16 := hk_99.fr.at ik_53
        have t_120 : pN S_96 q_17 = n_18 := hk_99.fr.N ik_53 ik_54
        have t_121 : pR S_96 501 q_25 = some q_29 := hk_99.fr.R' (by decide +kernel) ik_48 ik_55
        have t_122 : At S_96 q_29 16 := hk_99.fr.at ik_56
        have t_123 : pN S_96 q_29 = n_30 := hk_99.fr.N ik_56 ik_57
        exact ih _ (by omega) _ _ _ _ (x_104) (x_104.toInt) (c_97) (n_98) rfl hw rfl (by omega) t_106 t_107 hO_102 tc_108 t_109 t_110 t_111 t_112 t_113 t_114 t_115 t_116 t_117 t_118 t_119 t_120 t_121 t_122 t_123 (by omega) (by omega) (lv_sub hl [0, 1, 2] rfl)
      · have z_b_124 := trivial
        refine lv_if_eq (tgt := 48) X.1 X.2.1 dX4_applyRules_22 (by decide) (fun c_125 => ?_) (fun c_125 => absurd c_125 (by decide))
        obtain ⟨x_126, ex_126⟩ : ∃ y : Int32, y = i2_38 + 1 := ⟨_, rfl⟩
        have z_127 : x_126.toInt = i2_38_z + 1 := z_add ex_126 hz_i2_38 ti_1 (by omega) (by omega)
        refine lv_iinc (v := x_126) (lv' := [(2, .int (x_126)), (0, .ref x), (1, .ref s1)]) X.1 X.2.1 dX4_applyRules_48 hl (k := 0) rfl (by rw [ex_126]; rfl) (by decide) rfl (fun ls hl => ?_)
        refine lv_goto (tgt := 2) X.1 X.2.1 dX4_applyRules_51 (by decide) ?_
        exact ih _ (by omega) _ _ _ _ (x_126) (x_126.toInt) (cc_58) (nn_59) rfl hw rfl (by omega) ha_s1_L_40 ha_x_L_41 hO_T_39 iv_42 ik_43 ik_44 ik_45 ik_46 ik_47 ik_48 ik_49 ik_50 ik_51 ik_52 ik_53 ik_54 ik_55 ik_56 ik_57 (by omega) (by omega) (lv_sub hl [0, 1, 2] rfl)
  exact L_37 _ _ _ _ _ (0) (0) (0) (0) rfl hw ti_0 (by omega) ha_s1 ha_x hO htc0 h_2 h_3 h_14 h_15 h_26 h_27 h_7 h_8 h_9 h_19 h_20 h_21 h_31 h_32 h_33 (by omega) (by omega) (lv_sub hl [0, 1, 2] rfl)
set_option maxHeartbeats 4000000 in
set_option maxRecDepth 100000 in
theorem k_X4_drawMetre3 (l : Launch) (G : va_G) (cy : Nat → ClassId) (κ : Nat → Nat) (S : PS) (sz hz : Nat) (x : Nat) (s1 : Nat) (A : Nat → Prop) (hG : GX S) (ha_x : At S x 4) (ha_s1 : At S s1 8) (hp_0 : AO A S) (hp_1 : PIn A S x) : Gv l yX4_drawMetre wsX4_drawMetre ({ frames := 6, cells := Phc S + 8, slots := Phs S + 15019, locals := 288 }) G cy κ S sz hz 0 0 [.ref x, .ref s1] (fun (S9 : PS) => Og eDM S S9 ∧ (Tch A S S9)) := by
  refine ent_g (cc := cX4_drawMetre) (maxL := 6) (ret := none) (by decide) rfl (Nat.le_of_ble_eq_true rfl) ?_
  intro p e s m below meth c ls X hr hlocks hin hw hl hsz hhz
  subst hsz hhz
  have X : Cx p c cX4_drawMetre 6 s [.ref x, .ref s1].toArray wsX4_drawMetre RX4 m G cy κ (AS S s.heap.size) := X
  have hl : lv_has ls 6 [(0, .ref x), (1, .ref s1)] := hl
  have hpc0 : 0 + Phc S ≤ Phc S + 0 := by omega
  have hps0 : 0 + Phs S ≤ Phs S + 0 := by omega
  have hO : Og eDM S S := Og.rf hG
  generalize hQQ : MQ below _ _ _ _ _ _ = QQ
  replace hQQ := hQQ.symm
  obtain ⟨q_1, h_2, h_3⟩ := gQ_4_400 hO.1 ha_x
  obtain ⟨q_5, n_6, h_7, h_8, h_9, h_10, h_11⟩ := gRowQ hO.1 h_3
  have hA_12 : A q_5 := hp_1 _ _ (Or.inl h_2) h_7
  obtain ⟨q_13, h_14, h_15⟩ := gQ_4_401 hO.1 ha_x
  obtain ⟨q_17, n_18, h_19, h_20, h_21, h_22, h_23⟩ := gRowQ hO.1 h_15
  have hA_24 : A q_17 := hp_1 _ _ (Or.inr (Or.inl h_14)) h_19
  obtain ⟨q_25, h_26, h_27⟩ := gQ_4_402 hO.1 ha_x
  obtain ⟨q_29, n_30, h_31, h_32, h_33, h_34, h_35⟩ := gRowQ hO.1 h_27
  have hA_36 : A q_29 := hp_1 _ _ (Or.inr (Or.inr h_26)) h_31
  have htc0 : Tch A S S := Tch_rf A S
  refine lv_aload_n X.1 X.2.1 dX4_drawMetre_0 rfl (lv_at hl 0 rfl) ?_
  refine r_getR (g := 401) X hw ha_x rfl 1 h_14 (by decide) rfl inn_X4_drawMetre_4 (by decide) (X.2.2.2.1 (.fieldLink RX4 20 "SilkMill$Pot" "ends" "LSilkMill$Row;") (by decide +kernel)) rfl (gv_401 _ _) dX4_drawMetre_1 ?_
  refine k_i (rm := { frames := 3, cells := 0, slots := 0, locals := 144 }) (av := [.ref q_13]) X hw (va_runV (As := []) (rest := []) (cfix X) (k_X5_sumOfFineness l G cy κ S _ q_13 hO.1 h_15) (cwV 0 X.2.2.2.1 gX4_drawMetre_X5_sumOfFineness rfl rfl rfl (by decide +kernel) ⟨Nat.le_of_ble_eq_true rfl, Nat.le_of_ble_eq_true rfl⟩) (pre_V X hw _ h_15 rfl (by decide) rfl) rfl rfl hl.1 rfl (lv_room (Nat.le_of_ble_eq_true rfl)) dX4_drawMetre_4 ⟨(by show 0 + 0 ≤ Phc S + 8; omega), (by show 0 + 0 ≤ Phs S + 15019; omega)⟩) 0 0 (by show 0 + 0 ≤ 0; omega) (by show 0 + 0 ≤ 0; omega) (fun rr_37 S_38 H locs hp hw hfr hnw => ?_)
  obtain ⟨e2, hp⟩ := hp
  subst e2
  have rg_39 := And.intro (z_lo rr_37) (z_hi rr_37)
  refine lv_istore_n (lv' := [(2, .int (rr_37)), (0, .ref x), (1, .ref s1)]) X.1 X.2.1 dX4_drawMetre_7 rfl hl (by decide) rfl (fun ls hl => ?_)
  refine lv_aload_n X.1 X.2.1 dX4_drawMetre_8 rfl (lv_at hl 1 rfl) ?_
  refine r_getR (g := 401) X hw ha_x rfl 1 h_14 (by decide) rfl inn_X4_drawMetre_4 (by decide) (X.2.2.2.1 (.fieldLink RX4 20 "SilkMill$Pot" "ends" "LSilkMill$Row;") (by decide +kernel)) rfl (gv_401 _ _) dX4_drawMetre_9 ?_
  obtain ⟨v_40, ev_40⟩ : ∃ v, pI S 500 q_13 = v := ⟨_, rfl⟩
  have rg_41 := gRow_500 hO.1 h_15 h_19 h_21; rw [ev_40] at rg_41
  refine r_getI (g := 500) (x := v_40) X hw h_15 rfl 0 ev_40 (by decide) rfl inn_X4_drawMetre_5 (by decide) (X.2.2.2.1 (.fieldLink RX4 73 "SilkMill$Row" "size" "I") (by decide +kernel)) rfl (gv_500 _ _) dX4_drawMetre_12 ?_
  refine lv_istore_n (lv' := [(3, .int (v_40)), (2, .int (rr_37)), (0, .ref x), (1, .ref s1)]) X.1 X.2.1 dX4_drawMetre_15 rfl hl (by decide) rfl (fun ls hl => ?_)
  refine lv_aload_n X.1 X.2.1 dX4_drawMetre_16 rfl (lv_at hl 2 rfl) ?_
  obtain ⟨q_42, h_43, h_44⟩ := gQ_4_403 hO.1 ha_x
  refine r_getR (g := 403) X hw ha_x rfl 3 h_43 (by decide) rfl inn_X4_drawMetre_4 (by decide) (X.2.2.2.1 (.fieldLink RX4 29 "SilkMill$Pot" "strand" "LSilkMill$Strand;") (by decide +kernel)) rfl (gv_403 _ _) dX4_drawMetre_17 ?_
  obtain ⟨v_46, ev_46⟩ : ∃ v, pI S 902 q_42 = v := ⟨_, rfl⟩
  have rg_47 := gI_29_902 hO.1 h_44; rw [ev_46] at rg_47
  refine r_getI (g := 902) (x := v_46) X hw h_44 rfl 2 ev_46 (by decide) rfl inn_X4_drawMetre_9 (by decide) (X.2.2.2.1 (.fieldLink RX4 79 "SilkMill$Strand" "metres" "I") (by decide +kernel)) rfl (gv_902 _ _) dX4_drawMetre_20 ?_
  refine lv_istore (lv' := [(4, .int (v_46)), (3, .int (v_40)), (2, .int (rr_37)), (0, .ref x), (1, .ref s1)]) X.1 X.2.1 dX4_drawMetre_23 hl (by decide) rfl (fun ls hl => ?_)
  refine lv_aload_n X.1 X.2.1 dX4_drawMetre_25 rfl (lv_at hl 3 rfl) ?_
  refine r_getR (g := 403) X hw ha_x rfl 3 h_43 (by decide) rfl inn_X4_drawMetre_4 (by decide) (X.2.2.2.1 (.fieldLink RX4 29 "SilkMill$Pot" "strand" "LSilkMill$Strand;") (by decide +kernel)) rfl (gv_403 _ _) dX4_drawMetre_26 ?_
  refine lv_iload_n X.1 X.2.1 dX4_drawMetre_29 rfl (lv_at hl 2 rfl) ?_
  refine lv_iload_n X.1 X.2.1 dX4_drawMetre_30 rfl (lv_at hl 1 rfl) ?_
  refine k_v (rm := { frames := 1, cells := 0, slots := 0, locals := 48 }) (av := [.ref q_42, .int (rr_37), .int (v_40)]) X hw (va_runV (As := [.int (rr_37), .int (v_40)]) (rest := []) (cfix X) (k_X9_addMetre l G cy κ S _ q_42 (rr_37) (rr_37.toInt) (v_40) (v_40.toInt) hO.1 h_44 rfl rfl) (cwV 2 X.2.2.2.1 gX4_drawMetre_X9_addMetre rfl rfl rfl (by decide +kernel) ⟨Nat.le_of_ble_eq_true rfl, Nat.le_of_ble_eq_true rfl⟩) (pre_V X hw _ h_44 rfl (by decide) rfl) rfl rfl hl.1 rfl (lv_room (Nat.le_of_ble_eq_true rfl)) dX4_drawMetre_31 ⟨(by show 0 + 0 ≤ Phc S + 8; omega), (by show 0 + 0 ≤ Phs S + 15019; omega)⟩) 0 0 (by show 0 + 0 ≤ 0; omega) (by show 0 + 0 ≤ 0; omega) (fun S_49 H locs hp hw hfr hnw => ?_)
  obtain ⟨hk_50, hp⟩ := hp
  have ph_51 : 0 + Phc S_49 ≤ Phc S + 0 := by rw [show Phc S_49 = Phc S from Ph_ok hO.1 hk_50 (by decide +kernel) (by decide +kernel) (by decide +kernel)]; exact hpc0
  have ph_52 : 0 + Phs S_49 ≤ Phs S + 0 := by rw [show Phs S_49 = Phs S from Ph_ok hO.1 hk_50 (by decide +kernel) (by decide +kernel) (by decide +kernel)]; exact hps0
  clear hpc0
  clear hps0
  have hO_53 : Og eDM S S_49 := hO.call hk_50.og (by decide +kernel)
  refine lv_aload_n X.1 X.2.1 dX4_drawMetre_34 rfl (lv_at hl 4 rfl) ?_
  refine lv_dup X.1 X.2.1 dX4_drawMetre_35 rfl ?_
  have t_54 : At S_49 s1 8 := hk_50.fr.at ha_s1
  obtain ⟨v_55, ev_55⟩ : ∃ v, pI S_49 802 s1 = v := ⟨_, rfl⟩
  have rg_57 := And.intro (z_lo v_55) (z_hi v_55)
  refine r_getI (g := 802) (x := v_55) X hw t_54 rfl 2 ev_55 (by decide) rfl inn_X4_drawMetre_8 (by decide) (X.2.2.2.1 (.fieldLink RX4 197 "SilkMill$Store" "silkDrawn" "I") (by decide +kernel)) rfl (gv_802 _ _) dX4_drawMetre_36 ?_
  refine lv_iload_n X.1 X.2.1 dX4_drawMetre_39 rfl (lv_at hl 2 rfl) ?_
  refine lv_iadd X.1 X.2.1 dX4_drawMetre_40 ?_
  refine lv_topi (fun v_58 ev_58 => ?_)
  have rg_59 := And.intro (z_lo v_58) (z_hi v_58)
  refine r_putI (v := v_58) X hw t_54 rfl 2 802 tyX8 (by decide) rfl inn_X4_drawMetre_8 tyX8_ok nmX8 (by decide) (X.2.2.2.1 (.fieldLink RX4 197 "SilkMill$Store" "silkDrawn" "I") (by decide +kernel)) rfl (Or.inl rfl) rfl rfl (Nat.le_of_ble_eq_true rfl) (st_802 _ _) dX4_drawMetre_41 (fun H locs hw => ?_)
  obtain ⟨S_60, eS_60⟩ : ∃ T, T = sI S_49 802 s1 (v_58) := ⟨_, rfl⟩
  rw [← eS_60] at hw
  have ph_61 : 0 + Phc S_60 ≤ Phc S + 0 := by rw [show Phc S_60 = Phc S_49 from Ph_sI eS_60 rfl rfl]; exact ph_51
  have ph_62 : 0 + Phs S_60 ≤ Phs S + 0 := by rw [show Phs S_60 = Phs S_49 from Ph_sI eS_60 rfl rfl]; exact ph_52
  clear ph_51
  clear ph_52
  have hO_63 : Og eDM S S_60 := hO_53.sI eS_60 (by decide +kernel) (uI_8_802 hO_53.1 t_54)
  have h_64 : pI S_60 802 s1 = v_58 := tI_sIs eS_60
  refine lv_aload_n X.1 X.2.1 dX4_drawMetre_44 rfl (lv_at hl 3 rfl) ?_
  refine lv_dup X.1 X.2.1 dX4_drawMetre_45 rfl ?_
  have t_65 : At S_49 x 4 := hk_50.fr.at ha_x
  have t_66 : At S_60 x 4 := tAt_sI eS_60 t_65
  obtain ⟨v_67, ev_67⟩ : ∃ v, pI S_60 407 x = v := ⟨_, rfl⟩
  have rg_69 := And.intro (z_lo v_67) (z_hi v_67)
  refine r_getI (g := 407) (x := v_67) X hw t_66 rfl 7 ev_67 (by decide) rfl inn_X4_drawMetre_4 (by decide) (X.2.2.2.1 (.fieldLink RX4 200 "SilkMill$Pot" "metresEver" "I") (by decide +kernel)) rfl (gv_407 _ _) dX4_drawMetre_46 ?_
  refine lv_iconst (v := 1) X.1 X.2.1 dX4_drawMetre_49 (by decide) ?_
  refine lv_iadd X.1 X.2.1 dX4_drawMetre_50 ?_
  refine lv_topi (fun v_70 ev_70 => ?_)
  have rg_71 := And.intro (z_lo v_70) (z_hi v_70)
  refine r_putI (v := v_70) X hw t_66 rfl 7 407 tyX4 (by decide) rfl inn_X4_drawMetre_4 tyX4_ok nmX4 (by decide) (X.2.2.2.1 (.fieldLink RX4 200 "SilkMill$Pot" "metresEver" "I") (by decide +kernel)) rfl (Or.inl rfl) rfl rfl (Nat.le_of_ble_eq_true rfl) (st_407 _ _) dX4_drawMetre_51 (fun H locs hw => ?_)
  obtain ⟨S_72, eS_72⟩ : ∃ T, T = sI S_60 407 x (v_70) := ⟨_, rfl⟩
  rw [← eS_72] at hw
  have ph_73 : 0 + Phc S_72 ≤ Phc S + 0 := by rw [show Phc S_72 = Phc S_60 from Ph_sI eS_72 rfl rfl]; exact ph_61
  have ph_74 : 0 + Phs S_72 ≤ Phs S + 0 := by rw [show Phs S_72 = Phs S_60 from Ph_sI eS_72 rfl rfl]; exact ph_62
  clear ph_61
  clear ph_62
  have hO_75 : Og eDM S S_72 := hO_63.sI eS_72 (by decide +kernel) (uI_4_407 hO_63.1 t_66)
  have h_76 : pI S_72 407 x = v_70 := tI_sIs eS_72
  refine lv_iconst (v := 0) X.1 X.2.1 dX4_drawMetre_54 (by decide) ?_
  refine lv_istore (lv' := [(5, .int 0), (4, .int (v_46)), (3, .int (v_40)), (2, .int (rr_37)), (0, .ref x), (1, .ref s1)]) X.1 X.2.1 dX4_drawMetre_55 hl (by decide) rfl (fun ls hl => ?_)
  have t_83 : pR S_49 400 x = some q_1 := hk_50.fr.R' (by decide +kernel) ha_x h_2
  have t_84 : pR S_60 400 x = some q_1 := tR_sI eS_60 t_83
  have t_85 : pR S_72 400 x = some q_1 := tR_sI eS_72 t_84
  have t_88 : pR S_49 401 x = some q_13 := hk_50.fr.R' (by decide +kernel) ha_x h_14
  have t_89 : pR S_60 401 x = some q_13 := tR_sI eS_60 t_88
  have t_90 : pR S_72 401 x = some q_13 := tR_sI eS_72 t_89
  have t_93 : pR S_49 402 x = some q_25 := hk_50.fr.R' (by decide +kernel) ha_x h_26
  have t_94 : pR S_60 402 x = some q_25 := tR_sI eS_60 t_93
  have t_95 : pR S_72 402 x = some q_25 := tR_sI eS_72 t_94
  have t_98 : pR S_49 501 q_1 = some q_5 := hk_50.fr.R' (by decide +kernel) h_3 h_7
  have t_99 : pR S_60 501 q_1 = some q_5 := tR_sI eS_60 t_98
  have t_100 : pR S_72 501 q_1 = some q_5 := tR_sI eS_72 t_99
  have t_103 : pN S_49 q_5 = n_6 := hk_50.fr.N h_8 h_9
  clear h_9
  have t_104 : pN S_60 q_5 = n_6 := tN_sI eS_60 t_103
  clear t_103
  have t_105 : pN S_72 q_5 = n_6 := tN_sI eS_72 t_104
  clear t_104
  have t_107 : pR S_49 501 q_13 = some q_17 := hk_50.fr.R' (by decide +kernel) h_15 h_19
  have t_108 : pR S_60 501 q_13 = some q_17 := tR_sI eS_60 t_107
  have t_109 : pR S_72 501 q_13 = some q_17 := tR_sI eS_72 t_108
  have t_112 : pN S_49 q_17 = n_18 := hk_50.fr.N h_20 h_21
  clear h_21
  have t_113 : pN S_60 q_17 = n_18 := tN_sI eS_60 t_112
  clear t_112
  have t_114 : pN S_72 q_17 = n_18 := tN_sI eS_72 t_113
  clear t_113
  have t_116 : pR S_49 501 q_25 = some q_29 := hk_50.fr.R' (by decide +kernel) h_27 h_31
  have t_117 : pR S_60 501 q_25 = some q_29 := tR_sI eS_60 t_116
  have t_118 : pR S_72 501 q_25 = some q_29 := tR_sI eS_72 t_117
  have t_121 : pN S_49 q_29 = n_30 := hk_50.fr.N h_32 h_33
  clear h_33
  have t_122 : pN S_60 q_29 = n_30 := tN_sI eS_60 t_121
  clear t_121
  have t_123 : pN S_72 q_29 = n_30 := tN_sI eS_72 t_122
  clear t_122
  have L_77 : ∀ (n : Nat) (T_79 : PS) (H : Heap) (locs : List Loc) (ls : Array Slot) (i5_78 : Int32) (i5_78_z : Int) (cc_125 nn_126 : Nat), ((v_40.toInt - i5_78_z).toNat = n) → (Wd G cy (AS S s.heap.size) s.heap T_79 H locs) → (i5_78.toInt = i5_78_z) → (0 ≤ i5_78_z ∧ i5_78_z ≤ 600) → (At T_79 s1 8) → (At T_79 x 4) → (Og eDM S T_79) → (Tch A S T_79) → (pR T_79 400 x = some q_1) → (At T_79 q_1 5) → (pR T_79 401 x = some q_13) → (At T_79 q_13 5) → (pR T_79 402 x = some q_25) → (At T_79 q_25 5) → (pR T_79 501 q_1 = some q_5) → (At T_79 q_5 16) → (pN T_79 q_5 = n_6) → (pR T_79 501 q_13 = some q_17) → (At T_79 q_17 16) → (pN T_79 q_17 = n_18) → (pR T_79 501 q_25 = some q_29) → (At T_79 q_29 16) → (pN T_79 q_29 = n_30) → (cc_125 + Phc T_79 ≤ Phc S + 0) → (nn_126 + Phs T_79 ≤ Phs S + 0) → (lv_has ls 6 [(5, .int (i5_78)), (4, .int (v_46)), (3, .int (v_40)), (2, .int (rr_37)), (0, .ref x), (1, .ref s1)]) → W p l e ({ frames := 6, cells := Phc S + 8, slots := Phs S + 15019, locals := 288 }) s m [.ref x, .ref s1].toArray below meth c H locs cc_125 nn_126 QQ (F0 m 57 ls []) := by
    intro n
    induction n using Nat.strongRecOn with
    | ind n ih =>
    intro T_79 H locs ls i5_78 i5_78_z cc_125 nn_126 hn hw hz_i5_78 hr_i5_78 ha_s1_L_80 ha_x_L_81 hO_T_79 iv_82 ik_86 ik_87 ik_91 ik_92 ik_96 ik_97 ik_101 ik_102 ik_106 ik_110 ik_111 ik_115 ik_119 ik_120 ik_124 hcc_127 hnn_128 hl
    have rg_129 : (-2147483648) ≤ i5_78_z ∧ i5_78_z ≤ 2147483647 := by rw [← hz_i5_78]; exact ⟨z_lo _, z_hi _⟩
    refine lv_iload X.1 X.2.1 dX4_drawMetre_57 (lv_at hl 0 rfl) ?_
    refine lv_iload_n X.1 X.2.1 dX4_drawMetre_59 rfl (lv_at hl 2 rfl) ?_
    refine lv_icmp_ge (tgt := 82) X.1 X.2.1 dX4_drawMetre_60 (by decide) (fun c_130 => ?_) (fun c_130 => ?_)
    · have z_b_131 := trivial
      have k_132 : i5_78_z ≥ v_40.toInt := z_le rfl hz_i5_78 c_130
      refine lv_aload_n X.1 X.2.1 dX4_drawMetre_82 rfl (lv_at hl 4 rfl) ?_
      obtain ⟨q_133, h_134, h_135⟩ := gQ_4_403 hO_T_79.1 ha_x_L_81
      refine r_getR (g := 403) X hw ha_x_L_81 rfl 3 h_134 (by decide) rfl inn_X4_drawMetre_4 (by decide) (X.2.2.2.1 (.fieldLink RX4 29 "SilkMill$Pot" "strand" "LSilkMill$Strand;") (by decide +kernel)) rfl (gv_403 _ _) dX4_drawMetre_83 ?_
      obtain ⟨v_137, ev_137⟩ : ∃ v, pI T_79 902 q_133 = v := ⟨_, rfl⟩
      have rg_138 := gI_29_902 hO_T_79.1 h_135; rw [ev_137] at rg_138
      refine r_getI (g := 902) (x := v_137) X hw h_135 rfl 2 ev_137 (by decide) rfl inn_X4_drawMetre_9 (by decide) (X.2.2.2.1 (.fieldLink RX4 79 "SilkMill$Strand" "metres" "I") (by decide +kernel)) rfl (gv_902 _ _) dX4_drawMetre_86 ?_
      refine lv_sipush (v := 300) X.1 X.2.1 dX4_drawMetre_89 (by decide) ?_
      refine lv_icmp_lt (tgt := 101) X.1 X.2.1 dX4_drawMetre_92 (by decide) (fun c_139 => ?_) (fun c_139 => ?_)
      · have z_b_140 := trivial
        have k_141 : v_137.toInt < 300 := z_lt rfl ti_300 c_139
        rw [hQQ]
        exact ret_gv X hw hr hlocks (by show cc_125 ≤ Phc S + 8; omega) (by show nn_126 ≤ Phs S + 15019; omega) (by omega) (by omega) ⟨hO_T_79, iv_82⟩ dX4_drawMetre_101
      · have z_b_142 := trivial
        have k_143 : v_137.toInt ≥ 300 := z_nlt rfl ti_300 c_139
        refine lv_aload_n X.1 X.2.1 dX4_drawMetre_95 rfl (lv_at hl 4 rfl) ?_
        refine lv_aload_n X.1 X.2.1 dX4_drawMetre_96 rfl (lv_at hl 5 rfl) ?_
        refine k_gi (kc := 0) (ks := 0) (rm := { frames := 5, cells := Phc T_79 + 8, slots := Phs T_79 + 15019, locals := 240 }) (av := [.ref x, .ref s1]) X hw (va_runV (As := [.ref s1]) (rest := []) (cfix X) (k_X4_cutStrand l G cy κ T_79 _ _ x s1 hO_T_79.1 ha_x_L_81 ha_s1_L_80) (cwV 1 X.2.2.2.1 gX4_drawMetre_X4_cutStrand rfl rfl rfl (by decide +kernel) ⟨Nat.le_of_ble_eq_true rfl, Nat.le_of_ble_eq_true rfl⟩) (pre_gV X hw _ ha_x_L_81 rfl (by decide) rfl) rfl rfl hl.1 rfl (lv_room (Nat.le_of_ble_eq_true rfl)) dX4_drawMetre_97 ⟨(by show cc_125 + (Phc T_79 + 8) ≤ Phc S + 8; omega), (by show nn_126 + (Phs T_79 + 15019) ≤ Phs S + 15019; omega)⟩) (fun rr_144 S_145 H locs c_146 n_147 hc_146 hn_147 hp hw => ?_)
        obtain ⟨hk_148, hp⟩ := hp
        have ph_149 : c_146 + Phc S_145 ≤ Phc S + 0 := by omega
        have ph_150 : n_147 + Phs S_145 ≤ Phs S + 0 := by omega
        clear hcc_127
        clear hnn_128
        clear hc_146
        clear hn_147
        have hO_151 : Og eDM S S_145 := hO_T_79.call hk_148 (by decide +kernel)
        have rg_152 := And.intro (z_lo rr_144) (z_hi rr_144)
        refine lv_pop X.1 X.2.1 dX4_drawMetre_100 rfl ?_
        have tc_153 : Tch A S S_145 := Tch_fr iv_82 hk_148.fr hp_0 (by decide +kernel) (by decide +kernel)
        rw [hQQ]
        exact ret_gv X hw hr hlocks (by show c_146 ≤ Phc S + 8; omega) (by show n_147 ≤ Phs S + 15019; omega) (by omega) (by omega) ⟨hO_151, tc_153⟩ dX4_drawMetre_101
    · have z_b_154 := trivial
      have k_155 : i5_78_z < v_40.toInt := z_nle rfl hz_i5_78 c_130
      refine lv_aload_n X.1 X.2.1 dX4_drawMetre_63 rfl (lv_at hl 4 rfl) ?_
      refine lv_aload_n X.1 X.2.1 dX4_drawMetre_64 rfl (lv_at hl 4 rfl) ?_
      refine r_getR (g := 401) X hw ha_x_L_81 rfl 1 ik_91 (by decide) rfl inn_X4_drawMetre_4 (by decide) (X.2.2.2.1 (.fieldLink RX4 20 "SilkMill$Pot" "ends" "LSilkMill$Row;") (by decide +kernel)) rfl (gv_401 _ _) dX4_drawMetre_65 ?_
      refine k_q (rm := { frames := 2, cells := 0, slots := 0, locals := 96 }) (av := [.ref q_13]) X hw (va_runV (As := []) (rest := [.ref x]) (cfix X) (k_X5_removeFirst3 l G cy κ T_79 _ q_13 A hO_T_79.1 ik_92 (AO_ext iv_82.1 hp_0) (fun q h => by rw [ik_110] at h; cases h; exact hA_24)) (cwV 0 X.2.2.2.1 gX4_drawMetre_X5_removeFirst rfl rfl rfl (by decide +kernel) ⟨Nat.le_of_ble_eq_true rfl, Nat.le_of_ble_eq_true rfl⟩) (pre_V X hw _ ik_92 rfl (by decide) rfl) rfl rfl hl.1 rfl (lv_room (Nat.le_of_ble_eq_true rfl)) dX4_drawMetre_68 ⟨(by show cc_125 + 0 ≤ Phc S + 8; omega), (by show nn_126 + 0 ≤ Phs S + 15019; omega)⟩) cc_125 nn_126 (by show cc_125 + 0 ≤ cc_125; omega) (by show nn_126 + 0 ≤ nn_126; omega) (fun rr_156 S_157 H locs hp hw hfr hnw => ?_)
      obtain ⟨hk_158, hp⟩ := hp
      have ph_159 : cc_125 + Phc S_157 ≤ Phc S + 0 := by rw [show Phc S_157 = Phc T_79 from Ph_ok hO_T_79.1 hk_158 (by decide +kernel) (by decide +kernel) (by decide +kernel)]; exact hcc_127
      have ph_160 : nn_126 + Phs S_157 ≤ Phs S + 0 := by rw [show Phs S_157 = Phs T_79 from Ph_ok hO_T_79.1 hk_158 (by decide +kernel) (by decide +kernel) (by decide +kernel)]; exact hnn_128
      clear hcc_127
      clear hnn_128
      have hO_161 : Og eDM S S_157 := hO_T_79.call hk_158.og (by decide +kernel)
      have hq_162 := hp
      rcases rr_156 with _ | q_163
      · refine W.eq (g2 := F0 m 71 ls (.null :: .ref x :: [])) rfl ?_
        refine lv_iload X.1 X.2.1 dX4_drawMetre_71 (lv_at hl 1 rfl) ?_
        have t_164 : At S_157 x 4 := hk_158.fr.at ha_x_L_81
        have tc_165 : Tch A S S_157 := Tch_fr iv_82 hk_158.fr hp_0 (by decide +kernel) (by decide +kernel)
        have t_166 : pR S_157 400 x = some q_1 := hk_158.fr.R' (by decide +kernel) ha_x_L_81 ik_86
        have t_167 : pR S_157 501 q_1 = some q_5 := hk_158.fr.R' (by decide +kernel) ik_87 ik_101
        have t_168 : pN S_157 q_5 = n_6 := hk_158.fr.N ik_102 ik_106
        have t_169 : pR S_157 401 x = some q_13 := hk_158.fr.R' (by decide +kernel) ha_x_L_81 ik_91
        have t_170 : pR S_157 501 q_13 = some q_17 := hk_158.fr.R' (by decide +kernel) ik_92 ik_110
        have t_171 : pN S_157 q_17 = n_18 := hk_158.fr.N ik_111 ik_115
        have t_172 : pR S_157 402 x = some q_25 := hk_158.fr.R' (by decide +kernel) ha_x_L_81 ik_96
        have t_173 : pR S_157 501 q_25 = some q_29 := hk_158.fr.R' (by decide +kernel) ik_97 ik_119
        have t_174 : pN S_157 q_29 = n_30 := hk_158.fr.N ik_120 ik_124
        refine k_gv (kc := 0) (ks := 0) (rm := { frames := 5, cells := Phc S_157 + 8, slots := Phs S_157 + 15019, locals := 240 }) (av := [.ref x, .null, .int (v_46)]) X hw (va_runV (As := [.null, .int (v_46)]) (rest := []) (cfix X) (k_X4_drawEnd3 l G cy κ S_157 _ _ x none (v_46) (v_46.toInt) A hO_161.1 t_164 (fun q h => by cases h) rfl (AO_ext tc_165.1 hp_0) (fun R q h1 h2 => by rcases h1 with h1 | h1 | h1; rw [t_166] at h1; cases h1; rw [t_167] at h2; cases h2; exact hA_12; rw [t_169] at h1; cases h1; rw [t_170] at h2; cases h2; exact hA_24; rw [t_172] at h1; cases h1; rw [t_173] at h2; cases h2; exact hA_36) (fun q h => by cases h)) (cwV 2 X.2.2.2.1 gX4_drawMetre_X4_drawEnd rfl rfl rfl (by decide +kernel) ⟨Nat.le_of_ble_eq_true rfl, Nat.le_of_ble_eq_true rfl⟩) (pre_gV X hw _ t_164 rfl (by decide) rfl) rfl rfl hl.1 rfl (lv_room (Nat.le_of_ble_eq_true rfl)) dX4_drawMetre_73 ⟨(by show cc_125 + (Phc S_157 + 8) ≤ Phc S + 8; omega), (by show nn_126 + (Phs S_157 + 15019) ≤ Phs S + 15019; omega)⟩) (fun S_176 H locs c_177 n_178 hc_177 hn_178 hp hw => ?_)
        obtain ⟨hk_179, hp⟩ := hp
        have ph_180 : c_177 + Phc S_176 ≤ Phc S + 0 := by omega
        have ph_181 : n_178 + Phs S_176 ≤ Phs S + 0 := by omega
        clear ph_159
        clear ph_160
        clear hc_177
        clear hn_178
        have hO_182 : Og eDM S S_176 := hO_161.call hk_179 (by decide +kernel)
        have hT_183 := hp
        obtain ⟨x_184, ex_184⟩ : ∃ y : Int32, y = i5_78 + 1 := ⟨_, rfl⟩
        have z_185 : x_184.toInt = i5_78_z + 1 := z_add ex_184 hz_i5_78 ti_1 (by omega) (by omega)
        refine lv_iinc (v := x_184) (lv' := [(5, .int (x_184)), (4, .int (v_46)), (3, .int (v_40)), (2, .int (rr_37)), (0, .ref x), (1, .ref s1)]) X.1 X.2.1 dX4_drawMetre_76 hl (k := 0) rfl (by rw [ex_184]; rfl) (by decide) rfl (fun ls hl => ?_)
        refine lv_goto (tgt := 57) X.1 X.2.1 dX4_drawMetre_79 (by decide) ?_
        have t_186 : At S_157 s1 8 := hk_158.fr.at ha_s1_L_80
        have t_187 : At S_176 s1 8 := hk_179.fr.at t_186
        have t_188 : At S_176 x 4 := hk_179.fr.at t_164
        have tc_189 : Tch A S S_176 := Tch_tr tc_165 hT_183
        have t_190 : pR S_176 400 x = some q_1 := hk_179.fr.R' (by decide +kernel) t_164 t_166
        have t_191 : At S_157 q_1 5 := hk_158.fr.at ik_87
        have t_192 : At S_176 q_1 5 := hk_179.fr.at t_191
        have t_193 : pR S_176 401 x = some q_13 := hk_179.fr.R' (by decide +kernel) t_164 t_169
        have t_194 : At S_157 q_13 5 := hk_158.fr.at ik_92
        have t_195 : At S_176 q_13 5 := hk_179.fr.at t_194
        have t_196 : pR S_176 402 x = some q_25 := hk_179.fr.R' (by decide +kernel) t_164 t_172
        have t_197 : At S_157 q_25 5 := hk_158.fr.at ik_97
        have t_198 : At S_176 q_25 5 := hk_179.fr.at t_197
        have t_200 : At S_157 q_1 5 := hk_158.fr.at ik_87
        have t_199 : pR S_176 501 q_1 = some q_5 := hk_179.fr.R' (by decide +kernel) t_200 t_167
        have t_201 : At S_157 q_5 16 := hk_158.fr.at ik_102
        have t_202 : At S_176 q_5 16 := hk_179.fr.at t_201
        have t_204 : At S_157 q_5 16 := hk_158.fr.at ik_102
        have t_203 : pN S_176 q_5 = n_6 := hk_179.fr.N t_204 t_168
        clear t_168
        have t_206 : At S_157 q_13 5 := hk_158.fr.at ik_92
        have t_205 : pR S_176 501 q_13 = some q_17 := hk_179.fr.R' (by decide +kernel) t_206 t_170
        have t_207 : At S_157 q_17 16 := hk_158.fr.at ik_111
        have t_208 : At S_176 q_17 16 := hk_179.fr.at t_207
        have t_210 : At S_157 q_17 16 := hk_158.fr.at ik_111
        have t_209 : pN S_176 q_17 = n_18 := hk_179.fr.N t_210 t_171
        clear t_171
        have t_212 : At S_157 q_25 5 := hk_158.fr.at ik_97
        have t_211 : pR S_176 501 q_25 = some q_29 := hk_179.fr.R' (by decide +kernel) t_212 t_173
        have t_213 : At S_157 q_29 16 := hk_158.fr.at ik_120
        have t_214 : At S_176 q_29 16 := hk_179.fr.at t_213
        have t_216 : At S_157 q_29 16 := hk_158.fr.at ik_120
        have t_215 : pN S_176 q_29 = n_30 := hk_179.fr.N t_216 t_174
        clear t_174
        exact ih _ (by omega) _ _ _ _ (x_184) (x_184.toInt) (c_177) (n_178) rfl hw rfl (by omega) t_187 t_188 hO_182 tc_189 t_190 t_192 t_193 t_195 t_196 t_198 t_199 t_202 t_203 t_205 t_208 t_209 t_211 t_214 t_215 (by omega) (by omega) (lv_sub hl [0, 1, 2, 3, 4, 5] rfl)
      · refine W.eq (g2 := F0 m 71 ls (.ref q_163 :: .ref x :: [])) rfl ?_
        obtain ⟨ha_217, f_218, f_219⟩ := hq_162 _ rfl
        have rh_220 : RH A S q_163 := iv_82.2.1 _ f_218
        refine lv_iload X.1 X.2.1 dX4_drawMetre_71 (lv_at hl 1 rfl) ?_
        have t_221 : At S_157 x 4 := hk_158.fr.at ha_x_L_81
        have tc_222 : Tch A S S_157 := Tch_fr iv_82 hk_158.fr hp_0 (by decide +kernel) (by decide +kernel)
        have t_223 : pR S_157 400 x = some q_1 := hk_158.fr.R' (by decide +kernel) ha_x_L_81 ik_86
        have t_224 : pR S_157 501 q_1 = some q_5 := hk_158.fr.R' (by decide +kernel) ik_87 ik_101
        have t_225 : pN S_157 q_5 = n_6 := hk_158.fr.N ik_102 ik_106
        have t_226 : pR S_157 401 x = some q_13 := hk_158.fr.R' (by decide +kernel) ha_x_L_81 ik_91
        have t_227 : pR S_157 501 q_13 = some q_17 := hk_158.fr.R' (by decide +kernel) ik_92 ik_110
        have t_228 : pN S_157 q_17 = n_18 := hk_158.fr.N ik_111 ik_115
        have t_229 : pR S_157 402 x = some q_25 := hk_158.fr.R' (by decide +kernel) ha_x_L_81 ik_96
        have t_230 : pR S_157 501 q_25 = some q_29 := hk_158.fr.R' (by decide +kernel) ik_97 ik_119
        have t_231 : pN S_157 q_29 = n_30 := hk_158.fr.N ik_120 ik_124
        refine k_gv (kc := 0) (ks := 0) (rm := { frames := 5, cells := Phc S_157 + 8, slots := Phs S_157 + 15019, locals := 240 }) (av := [.ref x, .ref q_163, .int (v_46)]) X hw (va_runV (As := [.ref q_163, .int (v_46)]) (rest := []) (cfix X) (k_X4_drawEnd3 l G cy κ S_157 _ _ x (some q_163) (v_46) (v_46.toInt) A hO_161.1 t_221 (fun q h => by cases h; exact ha_217) rfl (AO_ext tc_222.1 hp_0) (fun R q h1 h2 => by rcases h1 with h1 | h1 | h1; rw [t_223] at h1; cases h1; rw [t_224] at h2; cases h2; exact hA_12; rw [t_226] at h1; cases h1; rw [t_227] at h2; cases h2; exact hA_24; rw [t_229] at h1; cases h1; rw [t_230] at h2; cases h2; exact hA_36) (fun q h => by cases h; exact f_219)) (cwV 2 X.2.2.2.1 gX4_drawMetre_X4_drawEnd rfl rfl rfl (by decide +kernel) ⟨Nat.le_of_ble_eq_true rfl, Nat.le_of_ble_eq_true rfl⟩) (pre_gV X hw _ t_221 rfl (by decide) rfl) rfl rfl hl.1 rfl (lv_room (Nat.le_of_ble_eq_true rfl)) dX4_drawMetre_73 ⟨(by show cc_125 + (Phc S_157 + 8) ≤ Phc S + 8; omega), (by show nn_126 + (Phs S_157 + 15019) ≤ Phs S + 15019; omega)⟩) (fun S_233 H locs c_234 n_235 hc_234 hn_235 hp hw => ?_)
        obtain ⟨hk_236, hp⟩ := hp
        have ph_237 : c_234 + Phc S_233 ≤ Phc S + 0 := by omega
        have ph_238 : n_235 + Phs S_233 ≤ Phs S + 0 := by omega
        clear ph_159
        clear ph_160
        clear hc_234
        clear hn_235
        have hO_239 : Og eDM S S_233 := hO_161.call hk_236 (by decide +kernel)
        have hT_240 := hp
        obtain ⟨x_241, ex_241⟩ : ∃ y : Int32, y = i5_78 + 1 := ⟨_, rfl⟩
        have z_242 : x_241.toInt = i5_78_z + 1 := z_add ex_241 hz_i5_78 ti_1 (by omega) (by omega)
        refine lv_iinc (v := x_241) (lv' := [(5, .int (x_241)), (4, .int (v_46)), (3, .int (v_40)), (2, .int (rr_37)), (0, .ref x), (1, .ref s1)]) X.1 X.2.1 dX4_drawMetre_76 hl (k := 0) rfl (by rw [ex_241]; rfl) (by decide) rfl (fun ls hl => ?_)
        refine lv_goto (tgt := 57) X.1 X.2.1 dX4_drawMetre_79 (by decide) ?_
        have t_243 : At S_157 s1 8 := hk_158.fr.at ha_s1_L_80
        have t_244 : At S_233 s1 8 := hk_236.fr.at t_243
        have t_245 : At S_233 x 4 := hk_236.fr.at t_221
        have tc_246 : Tch A S S_233 := Tch_tr tc_222 hT_240
        have t_247 : pR S_233 400 x = some q_1 := hk_236.fr.R' (by decide +kernel) t_221 t_223
        have t_248 : At S_157 q_1 5 := hk_158.fr.at ik_87
        have t_249 : At S_233 q_1 5 := hk_236.fr.at t_248
        have t_250 : pR S_233 401 x = some q_13 := hk_236.fr.R' (by decide +kernel) t_221 t_226
        have t_251 : At S_157 q_13 5 := hk_158.fr.at ik_92
        have t_252 : At S_233 q_13 5 := hk_236.fr.at t_251
        have t_253 : pR S_233 402 x = some q_25 := hk_236.fr.R' (by decide +kernel) t_221 t_229
        have t_254 : At S_157 q_25 5 := hk_158.fr.at ik_97
        have t_255 : At S_233 q_25 5 := hk_236.fr.at t_254
        have t_257 : At S_157 q_1 5 := hk_158.fr.at ik_87
        have t_256 : pR S_233 501 q_1 = some q_5 := hk_236.fr.R' (by decide +kernel) t_257 t_224
        have t_258 : At S_157 q_5 16 := hk_158.fr.at ik_102
        have t_259 : At S_233 q_5 16 := hk_236.fr.at t_258
        have t_261 : At S_157 q_5 16 := hk_158.fr.at ik_102
        have t_260 : pN S_233 q_5 = n_6 := hk_236.fr.N t_261 t_225
        clear t_225
        have t_263 : At S_157 q_13 5 := hk_158.fr.at ik_92
        have t_262 : pR S_233 501 q_13 = some q_17 := hk_236.fr.R' (by decide +kernel) t_263 t_227
        have t_264 : At S_157 q_17 16 := hk_158.fr.at ik_111
        have t_265 : At S_233 q_17 16 := hk_236.fr.at t_264
        have t_267 : At S_157 q_17 16 := hk_158.fr.at ik_111
        have t_266 : pN S_233 q_17 = n_18 := hk_236.fr.N t_267 t_228
        clear t_228
        have t_269 : At S_157 q_25 5 := hk_158.fr.at ik_97
        have t_268 : pR S_233 501 q_25 = some q_29 := hk_236.fr.R' (by decide +kernel) t_269 t_230
        have t_270 : At S_157 q_29 16 := hk_158.fr.at ik_120
        have t_271 : At S_233 q_29 16 := hk_236.fr.at t_270
        have t_273 : At S_157 q_29 16 := hk_158.fr.at ik_120
        have t_272 : pN S_233 q_29 = n_30 := hk_236.fr.N t_273 t_231
        clear t_231
        exact ih _ (by omega) _ _ _ _ (x_241) (x_241.toInt) (c_234) (n_235) rfl hw rfl (by omega) t_244 t_245 hO_239 tc_246 t_247 t_249 t_250 t_252 t_253 t_255 t_256 t_259 t_260 t_262 t_265 t_266 t_268 t_271 t_272 (by omega) (by omega) (lv_sub hl [0, 1, 2, 3, 4, 5] rfl)
  have t_274 : At S_60 s1 8 := tAt_sI eS_60 t_54
  have t_275 : At S_72 s1 8 := tAt_sI eS_72 t_274
  have t_276 : At S_72 x 4 := tAt_sI eS_72 t_66
  have tc_277 : Tch A S S_49 := Tch_fr htc0 hk_50.fr hp_0 (by decide +kernel) (by decide +kernel)
  have tc_278 : Tch A S S_60 := Tch_sI tc_277 eS_60 (by decide)
  have tc_279 : Tch A S S_72 := Tch_sI tc_278 eS_72 (by decide)
  have t_280 : At S_49 q_1 5 := hk_50.fr.at h_3
  have t_281 : At S_60 q_1 5 := tAt_sI eS_60 t_280
  have t_282 : At S_72 q_1 5 := tAt_sI eS_72 t_281
  have t_283 : At S_49 q_13 5 := hk_50.fr.at h_15
  have t_284 : At S_60 q_13 5 := tAt_sI eS_60 t_283
  have t_285 : At S_72 q_13 5 := tAt_sI eS_72 t_284
  have t_286 : At S_49 q_25 5 := hk_50.fr.at h_27
  have t_287 : At S_60 q_25 5 := tAt_sI eS_60 t_286
  have t_288 : At S_72 q_25 5 := tAt_sI eS_72 t_287
  have t_289 : At S_49 q_5 16 := hk_50.fr.at h_8
  have t_290 : At S_60 q_5 16 := tAt_sI eS_60 t_289
  have t_291 : At S_72 q_5 16 := tAt_sI eS_72 t_290
  have t_292 : At S_49 q_17 16 := hk_50.fr.at h_20
  have t_293 : At S_60 q_17 16 := tAt_sI eS_60 t_292
  have t_294 : At S_72 q_17 16 := tAt_sI eS_72 t_293
  have t_295 : At S_49 q_29 16 := hk_50.fr.at h_32
  have t_296 : At S_60 q_29 16 := tAt_sI eS_60 t_295
  have t_297 : At S_72 q_29 16 := tAt_sI eS_72 t_296
  exact L_77 _ _ _ _ _ (0) (0) (0) (0) rfl hw ti_0 (by omega) t_275 t_276 hO_75 tc_279 t_85 t_282 t_90 t_285 t_95 t_288 t_100 t_291 t_105 t_109 t_294 t_114 t_118 t_297 t_123 (by omega) (by omega) (lv_sub hl [0, 1, 2, 3, 4, 5] rfl)
set_option maxHeartbeats 4000000 in
set_option maxRecDepth 100000 in
theorem k_X4_tick3 (l : Launch) (G : va_G) (cy : Nat → ClassId) (κ : Nat → Nat) (S : PS) (sz hz : Nat) (x : Nat) (s1 : Nat) (A : Nat → Prop) (hG : GX S) (ha_x : At S x 4) (ha_s1 : At S s1 8) (hp_0 : AO A S) (hp_1 : PIn A S x) : Gi l yX4_tick wsX4_tick ({ frames := 8, cells := Phc S + 8, slots := Phs S + 15019, locals := 384 }) G cy κ S sz hz 0 0 [.ref x, .ref s1] (fun (r : Int32) (S9 : PS) => Og eTI S S9 ∧ (((Tch A S S9) ∧ r = 1) ∨ ((Tch A S S9) ∧ r = 0))) := by
  refine ent_g (cc := cX4_tick) (maxL := 2) (ret := (some .boolean)) (by decide) rfl (Nat.le_of_ble_eq_true rfl) ?_
  intro p e s m below meth c ls X hr hlocks hin hw hl hsz hhz
  subst hsz hhz
  have X : Cx p c cX4_tick 2 s [.ref x, .ref s1].toArray wsX4_tick RX4 m G cy κ (AS S s.heap.size) := X
  have hl : lv_has ls 2 [(0, .ref x), (1, .ref s1)] := hl
  have hpc0 : 0 + Phc S ≤ Phc S + 0 := by omega
  have hps0 : 0 + Phs S ≤ Phs S + 0 := by omega
  have hO : Og eTI S S := Og.rf hG
  obtain ⟨q_1, h_2, h_3⟩ := gQ_4_400 hO.1 ha_x
  obtain ⟨q_5, n_6, h_7, h_8, h_9, h_10, h_11⟩ := gRowQ hO.1 h_3
  have hA_12 : A q_5 := hp_1 _ _ (Or.inl h_2) h_7
  obtain ⟨q_13, h_14, h_15⟩ := gQ_4_401 hO.1 ha_x
  obtain ⟨q_17, n_18, h_19, h_20, h_21, h_22, h_23⟩ := gRowQ hO.1 h_15
  have hA_24 : A q_17 := hp_1 _ _ (Or.inr (Or.inl h_14)) h_19
  obtain ⟨q_25, h_26, h_27⟩ := gQ_4_402 hO.1 ha_x
  obtain ⟨q_29, n_30, h_31, h_32, h_33, h_34, h_35⟩ := gRowQ hO.1 h_27
  have hA_36 : A q_29 := hp_1 _ _ (Or.inr (Or.inr h_26)) h_31
  have htc0 : Tch A S S := Tch_rf A S
  refine lv_aload_n X.1 X.2.1 dX4_tick_0 rfl (lv_at hl 0 rfl) ?_
  refine lv_dup X.1 X.2.1 dX4_tick_1 rfl ?_
  obtain ⟨v_37, ev_37⟩ : ∃ v, pI S 408 x = v := ⟨_, rfl⟩
  have rg_39 := And.intro (z_lo v_37) (z_hi v_37)
  refine r_getI (g := 408) (x := v_37) X hw ha_x rfl 8 ev_37 (by decide) rfl inn_X4_tick_4 (by decide) (X.2.2.2.1 (.fieldLink RX4 60 "SilkMill$Pot" "ticksEver" "I") (by decide +kernel)) rfl (gv_408 _ _) dX4_tick_2 ?_
  refine lv_iconst (v := 1) X.1 X.2.1 dX4_tick_5 (by decide) ?_
  refine lv_iadd X.1 X.2.1 dX4_tick_6 ?_
  refine lv_topi (fun v_40 ev_40 => ?_)
  have rg_41 := And.intro (z_lo v_40) (z_hi v_40)
  refine r_putI (v := v_40) X hw ha_x rfl 8 408 tyX4 (by decide) rfl inn_X4_tick_4 tyX4_ok nmX4 (by decide) (X.2.2.2.1 (.fieldLink RX4 60 "SilkMill$Pot" "ticksEver" "I") (by decide +kernel)) rfl (Or.inl rfl) rfl rfl (Nat.le_of_ble_eq_true rfl) (st_408 _ _) dX4_tick_7 (fun H locs hw => ?_)
  obtain ⟨S_42, eS_42⟩ : ∃ T, T = sI S 408 x (v_40) := ⟨_, rfl⟩
  rw [← eS_42] at hw
  have ph_43 : 0 + Phc S_42 ≤ Phc S + 0 := by rw [show Phc S_42 = Phc S from Ph_sI eS_42 rfl rfl]; exact hpc0
  have ph_44 : 0 + Phs S_42 ≤ Phs S + 0 := by rw [show Phs S_42 = Phs S from Ph_sI eS_42 rfl rfl]; exact hps0
  clear hpc0
  clear hps0
  have hO_45 : Og eTI S S_42 := hO.sI eS_42 (by decide +kernel) (uI_4_408 hO.1 ha_x)
  have h_46 : pI S_42 408 x = v_40 := tI_sIs eS_42
  refine lv_aload_n X.1 X.2.1 dX4_tick_10 rfl (lv_at hl 0 rfl) ?_
  have t_47 : At S_42 x 4 := tAt_sI eS_42 ha_x
  have tc_48 : Tch A S S_42 := Tch_sI htc0 eS_42 (by decide)
  have t_49 : pR S_42 400 x = some q_1 := tR_sI eS_42 h_2
  have t_50 : pR S_42 501 q_1 = some q_5 := tR_sI eS_42 h_7
  have t_51 : pN S_42 q_5 = n_6 := tN_sI eS_42 h_9
  clear h_9
  have t_52 : pR S_42 401 x = some q_13 := tR_sI eS_42 h_14
  have t_53 : pR S_42 501 q_13 = some q_17 := tR_sI eS_42 h_19
  have t_54 : pN S_42 q_17 = n_18 := tN_sI eS_42 h_21
  clear h_21
  have t_55 : pR S_42 402 x = some q_25 := tR_sI eS_42 h_26
  have t_56 : pR S_42 501 q_25 = some q_29 := tR_sI eS_42 h_31
  have t_57 : pN S_42 q_29 = n_30 := tN_sI eS_42 h_33
  clear h_33
  refine k_v (rm := { frames := 4, cells := 0, slots := 0, locals := 192 }) (av := [.ref x]) X hw (va_runV (As := []) (rest := []) (cfix X) (k_X4_searchLost3 l G cy κ S_42 _ x A hO_45.1 t_47 (AO_ext tc_48.1 hp_0) (fun R q h1 h2 => by rcases h1 with h1 | h1 | h1; rw [t_49] at h1; cases h1; rw [t_50] at h2; cases h2; exact hA_12; rw [t_52] at h1; cases h1; rw [t_53] at h2; cases h2; exact hA_24; rw [t_55] at h1; cases h1; rw [t_56] at h2; cases h2; exact hA_36)) (cwV 0 X.2.2.2.1 gX4_tick_X4_searchLost rfl rfl rfl (by decide +kernel) ⟨Nat.le_of_ble_eq_true rfl, Nat.le_of_ble_eq_true rfl⟩) (pre_V X hw _ t_47 rfl (by decide) rfl) rfl rfl hl.1 rfl (lv_room (Nat.le_of_ble_eq_true rfl)) dX4_tick_11 ⟨(by show 0 + 0 ≤ Phc S + 8; omega), (by show 0 + 0 ≤ Phs S + 15019; omega)⟩) 0 0 (by show 0 + 0 ≤ 0; omega) (by show 0 + 0 ≤ 0; omega) (fun S_59 H locs hp hw hfr hnw => ?_)
  obtain ⟨hk_60, hp⟩ := hp
  have ph_61 : 0 + Phc S_59 ≤ Phc S + 0 := by rw [show Phc S_59 = Phc S_42 from Ph_ok hO_45.1 hk_60 (by decide +kernel) (by decide +kernel) (by decide +kernel)]; exact ph_43
  have ph_62 : 0 + Phs S_59 ≤ Phs S + 0 := by rw [show Phs S_59 = Phs S_42 from Ph_ok hO_45.1 hk_60 (by decide +kernel) (by decide +kernel) (by decide +kernel)]; exact ph_44
  clear ph_43
  clear ph_44
  have hO_63 : Og eTI S S_59 := hO_45.call hk_60.og (by decide +kernel)
  have hT_64 := hp
  refine lv_aload_n X.1 X.2.1 dX4_tick_14 rfl (lv_at hl 0 rfl) ?_
  have t_65 : At S_59 x 4 := hk_60.fr.at t_47
  obtain ⟨v_66, ev_66⟩ : ∃ v, pI S_59 405 x = v := ⟨_, rfl⟩
  have rg_68 := And.intro (z_lo v_66) (z_hi v_66)
  refine r_getI (g := 405) (x := v_66) X hw t_65 rfl 5 ev_66 (by decide) rfl inn_X4_tick_4 (by decide) (X.2.2.2.1 (.fieldLink RX4 66 "SilkMill$Pot" "stop" "I") (by decide +kernel)) rfl (gv_405 _ _) dX4_tick_15 ?_
  refine lv_if_ne (tgt := 26) X.1 X.2.1 dX4_tick_18 (by decide) (fun c_69 => ?_) (fun c_69 => ?_)
  · have z_b_70 := trivial
    have k_71 : v_66.toInt ≠ 0 := z_ne rfl ti_0 c_69
    refine lv_aload_n X.1 X.2.1 dX4_tick_26 rfl (lv_at hl 0 rfl) ?_
    refine r_getI (g := 405) (x := v_66) X hw t_65 rfl 5 ev_66 (by decide) rfl inn_X4_tick_4 (by decide) (X.2.2.2.1 (.fieldLink RX4 66 "SilkMill$Pot" "stop" "I") (by decide +kernel)) rfl (gv_405 _ _) dX4_tick_27 ?_
    refine lv_if_le (tgt := 45) X.1 X.2.1 dX4_tick_30 (by decide) (fun c_72 => ?_) (fun c_72 => ?_)
    · have z_b_73 := trivial
      have k_74 : v_66.toInt ≤ 0 := z_le rfl ti_0 c_72
      refine lv_aload_n X.1 X.2.1 dX4_tick_45 rfl (lv_at hl 0 rfl) ?_
      have t_75 : pR S_59 401 x = some q_13 := hk_60.fr.R' (by decide +kernel) t_47 t_52
      refine r_getR (g := 401) X hw t_65 rfl 1 t_75 (by decide) rfl inn_X4_tick_4 (by decide) (X.2.2.2.1 (.fieldLink RX4 20 "SilkMill$Pot" "ends" "LSilkMill$Row;") (by decide +kernel)) rfl (gv_401 _ _) dX4_tick_46 ?_
      have t_76 : At S_42 q_13 5 := tAt_sI eS_42 h_15
      have t_77 : At S_59 q_13 5 := hk_60.fr.at t_76
      obtain ⟨v_78, ev_78⟩ : ∃ v, pI S_59 500 q_13 = v := ⟨_, rfl⟩
      have t_81 : At S_42 q_13 5 := tAt_sI eS_42 h_15
      have t_80 : pR S_59 501 q_13 = some q_17 := hk_60.fr.R' (by decide +kernel) t_81 t_53
      have t_83 : At S_42 q_17 16 := tAt_sI eS_42 h_20
      have t_82 : pN S_59 q_17 = n_18 := hk_60.fr.N t_83 t_54
      clear t_54
      have rg_79 := gRow_500 hO_63.1 t_77 t_80 t_82; rw [ev_78] at rg_79
      refine r_getI (g := 500) (x := v_78) X hw t_77 rfl 0 ev_78 (by decide) rfl inn_X4_tick_5 (by decide) (X.2.2.2.1 (.fieldLink RX4 73 "SilkMill$Row" "size" "I") (by decide +kernel)) rfl (gv_500 _ _) dX4_tick_49 ?_
      refine lv_if_ne (tgt := 57) X.1 X.2.1 dX4_tick_52 (by decide) (fun c_84 => ?_) (fun c_84 => ?_)
      · have z_b_85 := trivial
        have k_86 : v_78.toInt ≠ 0 := z_ne rfl ti_0 c_84
        refine lv_aload_n X.1 X.2.1 dX4_tick_57 rfl (lv_at hl 0 rfl) ?_
        refine lv_aload_n X.1 X.2.1 dX4_tick_58 rfl (lv_at hl 1 rfl) ?_
        have t_87 : At S_42 s1 8 := tAt_sI eS_42 ha_s1
        have t_88 : At S_59 s1 8 := hk_60.fr.at t_87
        have tc_89 : Tch A S S_59 := Tch_tr tc_48 hT_64
        have t_90 : pR S_59 400 x = some q_1 := hk_60.fr.R' (by decide +kernel) t_47 t_49
        have t_92 : At S_42 q_1 5 := tAt_sI eS_42 h_3
        have t_91 : pR S_59 501 q_1 = some q_5 := hk_60.fr.R' (by decide +kernel) t_92 t_50
        have t_94 : At S_42 q_5 16 := tAt_sI eS_42 h_8
        have t_93 : pN S_59 q_5 = n_6 := hk_60.fr.N t_94 t_51
        clear t_51
        have t_95 : pR S_59 402 x = some q_25 := hk_60.fr.R' (by decide +kernel) t_47 t_55
        have t_97 : At S_42 q_25 5 := tAt_sI eS_42 h_27
        have t_96 : pR S_59 501 q_25 = some q_29 := hk_60.fr.R' (by decide +kernel) t_97 t_56
        have t_99 : At S_42 q_29 16 := tAt_sI eS_42 h_32
        have t_98 : pN S_59 q_29 = n_30 := hk_60.fr.N t_99 t_57
        clear t_57
        refine k_gv (kc := 0) (ks := 0) (rm := { frames := 6, cells := Phc S_59 + 8, slots := Phs S_59 + 15019, locals := 288 }) (av := [.ref x, .ref s1]) X hw (va_runV (As := [.ref s1]) (rest := []) (cfix X) (k_X4_drawMetre3 l G cy κ S_59 _ _ x s1 A hO_63.1 t_65 t_88 (AO_ext tc_89.1 hp_0) (fun R q h1 h2 => by rcases h1 with h1 | h1 | h1; rw [t_90] at h1; cases h1; rw [t_91] at h2; cases h2; exact hA_12; rw [t_75] at h1; cases h1; rw [t_80] at h2; cases h2; exact hA_24; rw [t_95] at h1; cases h1; rw [t_96] at h2; cases h2; exact hA_36)) (cwV 1 X.2.2.2.1 gX4_tick_X4_drawMetre rfl rfl rfl (by decide +kernel) ⟨Nat.le_of_ble_eq_true rfl, Nat.le_of_ble_eq_true rfl⟩) (pre_gV X hw _ t_65 rfl (by decide) rfl) rfl rfl hl.1 rfl (lv_room (Nat.le_of_ble_eq_true rfl)) dX4_tick_59 ⟨(by show 0 + (Phc S_59 + 8) ≤ Phc S + 8; omega), (by show 0 + (Phs S_59 + 15019) ≤ Phs S + 15019; omega)⟩) (fun S_101 H locs c_102 n_103 hc_102 hn_103 hp hw => ?_)
        obtain ⟨hk_104, hp⟩ := hp
        have ph_105 : c_102 + Phc S_101 ≤ Phc S + 0 := by omega
        have ph_106 : n_103 + Phs S_101 ≤ Phs S + 0 := by omega
        clear ph_61
        clear ph_62
        clear hc_102
        clear hn_103
        have hO_107 : Og eTI S S_101 := hO_63.call hk_104 (by decide +kernel)
        have hT_108 := hp
        refine lv_iconst (v := 1) X.1 X.2.1 dX4_tick_62 (by decide) ?_
        have tc_109 : Tch A S S_101 := Tch_tr tc_89 hT_108
        exact ret_gz X hw hr hlocks (by show c_102 ≤ Phc S + 8; omega) (by show n_103 ≤ Phs S + 15019; omega) (by omega) (by omega) (by decide) ⟨hO_107, Or.inl ⟨tc_109, rfl⟩⟩ dX4_tick_63
      · have z_b_110 := trivial
        have k_111 : v_78.toInt = 0 := z_eq rfl ti_0 c_84
        refine lv_iconst (v := 0) X.1 X.2.1 dX4_tick_55 (by decide) ?_
        have tc_112 : Tch A S S_59 := Tch_tr tc_48 hT_64
        exact ret_gz X hw hr hlocks (by show 0 ≤ Phc S + 8; omega) (by show 0 ≤ Phs S + 15019; omega) (by omega) (by omega) (by decide) ⟨hO_63, Or.inr ⟨tc_112, rfl⟩⟩ dX4_tick_56
    · have z_b_113 := trivial
      have k_114 : v_66.toInt > 0 := z_nle rfl ti_0 c_72
      refine lv_aload_n X.1 X.2.1 dX4_tick_33 rfl (lv_at hl 0 rfl) ?_
      refine lv_dup X.1 X.2.1 dX4_tick_34 rfl ?_
      refine r_getI (g := 405) (x := v_66) X hw t_65 rfl 5 ev_66 (by decide) rfl inn_X4_tick_4 (by decide) (X.2.2.2.1 (.fieldLink RX4 66 "SilkMill$Pot" "stop" "I") (by decide +kernel)) rfl (gv_405 _ _) dX4_tick_35 ?_
      refine lv_iconst (v := 1) X.1 X.2.1 dX4_tick_38 (by decide) ?_
      refine lv_isub X.1 X.2.1 dX4_tick_39 ?_
      refine lv_topi (fun v_115 ev_115 => ?_)
      have z_116 : v_115.toInt = v_66.toInt - 1 := z_sub ev_115 rfl ti_1 (by omega) (by omega)
      refine r_putI (v := v_115) X hw t_65 rfl 5 405 tyX4 (by decide) rfl inn_X4_tick_4 tyX4_ok nmX4 (by decide) (X.2.2.2.1 (.fieldLink RX4 66 "SilkMill$Pot" "stop" "I") (by decide +kernel)) rfl (Or.inl rfl) rfl rfl (Nat.le_of_ble_eq_true rfl) (st_405 _ _) dX4_tick_40 (fun H locs hw => ?_)
      obtain ⟨S_117, eS_117⟩ : ∃ T, T = sI S_59 405 x (v_115) := ⟨_, rfl⟩
      rw [← eS_117] at hw
      have ph_118 : 0 + Phc S_117 ≤ Phc S + 0 := by rw [show Phc S_117 = Phc S_59 from Ph_sI eS_117 rfl rfl]; exact ph_61
      have ph_119 : 0 + Phs S_117 ≤ Phs S + 0 := by rw [show Phs S_117 = Phs S_59 from Ph_sI eS_117 rfl rfl]; exact ph_62
      clear ph_61
      clear ph_62
      have hO_120 : Og eTI S S_117 := hO_63.sI eS_117 (by decide +kernel) (uI_4_405 hO_63.1 t_65)
      have h_121 : pI S_117 405 x = v_115 := tI_sIs eS_117
      refine lv_iconst (v := 0) X.1 X.2.1 dX4_tick_43 (by decide) ?_
      have tc_122 : Tch A S S_59 := Tch_tr tc_48 hT_64
      have tc_123 : Tch A S S_117 := Tch_sI tc_122 eS_117 (by decide)
      exact ret_gz X hw hr hlocks (by show 0 ≤ Phc S + 8; omega) (by show 0 ≤ Phs S + 15019; omega) (by omega) (by omega) (by decide) ⟨hO_120, Or.inr ⟨tc_123, rfl⟩⟩ dX4_tick_44
  · have z_b_124 := trivial
    have k_125 : v_66.toInt = 0 := z_eq rfl ti_0 c_69
    refine lv_aload_n X.1 X.2.1 dX4_tick_21 rfl (lv_at hl 0 rfl) ?_
    refine lv_aload_n X.1 X.2.1 dX4_tick_22 rfl (lv_at hl 1 rfl) ?_
    have t_126 : At S_42 s1 8 := tAt_sI eS_42 ha_s1
    have t_127 : At S_59 s1 8 := hk_60.fr.at t_126
    have tc_128 : Tch A S S_59 := Tch_tr tc_48 hT_64
    have t_129 : pR S_59 400 x = some q_1 := hk_60.fr.R' (by decide +kernel) t_47 t_49
    have t_131 : At S_42 q_1 5 := tAt_sI eS_42 h_3
    have t_130 : pR S_59 501 q_1 = some q_5 := hk_60.fr.R' (by decide +kernel) t_131 t_50
    have t_133 : At S_42 q_5 16 := tAt_sI eS_42 h_8
    have t_132 : pN S_59 q_5 = n_6 := hk_60.fr.N t_133 t_51
    clear t_51
    have t_134 : pR S_59 401 x = some q_13 := hk_60.fr.R' (by decide +kernel) t_47 t_52
    have t_136 : At S_42 q_13 5 := tAt_sI eS_42 h_15
    have t_135 : pR S_59 501 q_13 = some q_17 := hk_60.fr.R' (by decide +kernel) t_136 t_53
    have t_138 : At S_42 q_17 16 := tAt_sI eS_42 h_20
    have t_137 : pN S_59 q_17 = n_18 := hk_60.fr.N t_138 t_54
    clear t_54
    have t_139 : pR S_59 402 x = some q_25 := hk_60.fr.R' (by decide +kernel) t_47 t_55
    have t_141 : At S_42 q_25 5 := tAt_sI eS_42 h_27
    have t_140 : pR S_59 501 q_25 = some q_29 := hk_60.fr.R' (by decide +kernel) t_141 t_56
    have t_143 : At S_42 q_29 16 := tAt_sI eS_42 h_32
    have t_142 : pN S_59 q_29 = n_30 := hk_60.fr.N t_143 t_57
    clear t_57
    refine k_gv (kc := 0) (ks := 0) (rm := { frames := 7, cells := Phc S_59 + 8, slots := Phs S_59 + 15019, locals := 336 }) (av := [.ref x, .ref s1]) X hw (va_runV (As := [.ref s1]) (rest := []) (cfix X) (k_X4_applyRules3 l G cy κ S_59 _ _ x s1 A hO_63.1 t_65 t_127 (AO_ext tc_128.1 hp_0) (fun R q h1 h2 => by rcases h1 with h1 | h1 | h1; rw [t_129] at h1; cases h1; rw [t_130] at h2; cases h2; exact hA_12; rw [t_134] at h1; cases h1; rw [t_135] at h2; cases h2; exact hA_24; rw [t_139] at h1; cases h1; rw [t_140] at h2; cases h2; exact hA_36)) (cwV 1 X.2.2.2.1 gX4_tick_X4_applyRules rfl rfl rfl (by decide +kernel) ⟨Nat.le_of_ble_eq_true rfl, Nat.le_of_ble_eq_true rfl⟩) (pre_gV X hw _ t_65 rfl (by decide) rfl) rfl rfl hl.1 rfl (lv_room (Nat.le_of_ble_eq_true rfl)) dX4_tick_23 ⟨(by show 0 + (Phc S_59 + 8) ≤ Phc S + 8; omega), (by show 0 + (Phs S_59 + 15019) ≤ Phs S + 15019; omega)⟩) (fun S_145 H locs c_146 n_147 hc_146 hn_147 hp hw => ?_)
    obtain ⟨hk_148, hp⟩ := hp
    have ph_149 : c_146 + Phc S_145 ≤ Phc S + 0 := by omega
    have ph_150 : n_147 + Phs S_145 ≤ Phs S + 0 := by omega
    clear ph_61
    clear ph_62
    clear hc_146
    clear hn_147
    have hO_151 : Og eTI S S_145 := hO_63.call hk_148 (by decide +kernel)
    have hT_152 := hp
    refine lv_aload_n X.1 X.2.1 dX4_tick_26 rfl (lv_at hl 0 rfl) ?_
    have t_153 : At S_145 x 4 := hk_148.fr.at t_65
    obtain ⟨v_155, ev_155⟩ : ∃ v, pI S_145 405 x = v := ⟨_, rfl⟩
    have rg_157 := And.intro (z_lo v_155) (z_hi v_155)
    refine r_getI (g := 405) (x := v_155) X hw t_153 rfl 5 ev_155 (by decide) rfl inn_X4_tick_4 (by decide) (X.2.2.2.1 (.fieldLink RX4 66 "SilkMill$Pot" "stop" "I") (by decide +kernel)) rfl (gv_405 _ _) dX4_tick_27 ?_
    refine lv_if_le (tgt := 45) X.1 X.2.1 dX4_tick_30 (by decide) (fun c_158 => ?_) (fun c_158 => ?_)
    · have z_b_159 := trivial
      have k_160 : v_155.toInt ≤ 0 := z_le rfl ti_0 c_158
      refine lv_aload_n X.1 X.2.1 dX4_tick_45 rfl (lv_at hl 0 rfl) ?_
      have t_161 : pR S_145 401 x = some q_13 := hk_148.fr.R' (by decide +kernel) t_65 t_134
      refine r_getR (g := 401) X hw t_153 rfl 1 t_161 (by decide) rfl inn_X4_tick_4 (by decide) (X.2.2.2.1 (.fieldLink RX4 20 "SilkMill$Pot" "ends" "LSilkMill$Row;") (by decide +kernel)) rfl (gv_401 _ _) dX4_tick_46 ?_
      have t_162 : At S_59 q_13 5 := hk_60.fr.at t_136
      have t_163 : At S_145 q_13 5 := hk_148.fr.at t_162
      obtain ⟨v_164, ev_164⟩ : ∃ v, pI S_145 500 q_13 = v := ⟨_, rfl⟩
      have t_167 : At S_59 q_13 5 := hk_60.fr.at t_136
      have t_166 : pR S_145 501 q_13 = some q_17 := hk_148.fr.R' (by decide +kernel) t_167 t_135
      have t_169 : At S_59 q_17 16 := hk_60.fr.at t_138
      have t_168 : pN S_145 q_17 = n_18 := hk_148.fr.N t_169 t_137
      clear t_137
      have rg_165 := gRow_500 hO_151.1 t_163 t_166 t_168; rw [ev_164] at rg_165
      refine r_getI (g := 500) (x := v_164) X hw t_163 rfl 0 ev_164 (by decide) rfl inn_X4_tick_5 (by decide) (X.2.2.2.1 (.fieldLink RX4 73 "SilkMill$Row" "size" "I") (by decide +kernel)) rfl (gv_500 _ _) dX4_tick_49 ?_
      refine lv_if_ne (tgt := 57) X.1 X.2.1 dX4_tick_52 (by decide) (fun c_170 => ?_) (fun c_170 => ?_)
      · have z_b_171 := trivial
        have k_172 : v_164.toInt ≠ 0 := z_ne rfl ti_0 c_170
        refine lv_aload_n X.1 X.2.1 dX4_tick_57 rfl (lv_at hl 0 rfl) ?_
        refine lv_aload_n X.1 X.2.1 dX4_tick_58 rfl (lv_at hl 1 rfl) ?_
        have t_173 : At S_145 s1 8 := hk_148.fr.at t_127
        have tc_174 : Tch A S S_145 := Tch_tr tc_128 hT_152
        have t_175 : pR S_145 400 x = some q_1 := hk_148.fr.R' (by decide +kernel) t_65 t_129
        have t_177 : At S_59 q_1 5 := hk_60.fr.at t_131
        have t_176 : pR S_145 501 q_1 = some q_5 := hk_148.fr.R' (by decide +kernel) t_177 t_130
        have t_179 : At S_59 q_5 16 := hk_60.fr.at t_133
        have t_178 : pN S_145 q_5 = n_6 := hk_148.fr.N t_179 t_132
        clear t_132
        have t_180 : pR S_145 402 x = some q_25 := hk_148.fr.R' (by decide +kernel) t_65 t_139
        have t_182 : At S_59 q_25 5 := hk_60.fr.at t_141
        have t_181 : pR S_145 501 q_25 = some q_29 := hk_148.fr.R' (by decide +kernel) t_182 t_140
        have t_184 : At S_59 q_29 16 := hk_60.fr.at t_143
        have t_183 : pN S_145 q_29 = n_30 := hk_148.fr.N t_184 t_142
        clear t_142
        refine k_gv (kc := 0) (ks := 0) (rm := { frames := 6, cells := Phc S_145 + 8, slots := Phs S_145 + 15019, locals := 288 }) (av := [.ref x, .ref s1]) X hw (va_runV (As := [.ref s1]) (rest := []) (cfix X) (k_X4_drawMetre3 l G cy κ S_145 _ _ x s1 A hO_151.1 t_153 t_173 (AO_ext tc_174.1 hp_0) (fun R q h1 h2 => by rcases h1 with h1 | h1 | h1; rw [t_175] at h1; cases h1; rw [t_176] at h2; cases h2; exact hA_12; rw [t_161] at h1; cases h1; rw [t_166] at h2; cases h2; exact hA_24; rw [t_180] at h1; cases h1; rw [t_181] at h2; cases h2; exact hA_36)) (cwV 1 X.2.2.2.1 gX4_tick_X4_drawMetre rfl rfl rfl (by decide +kernel) ⟨Nat.le_of_ble_eq_true rfl, Nat.le_of_ble_eq_true rfl⟩) (pre_gV X hw _ t_153 rfl (by decide) rfl) rfl rfl hl.1 rfl (lv_room (Nat.le_of_ble_eq_true rfl)) dX4_tick_59 ⟨(by show c_146 + (Phc S_145 + 8) ≤ Phc S + 8; omega), (by show n_147 + (Phs S_145 + 15019) ≤ Phs S + 15019; omega)⟩) (fun S_186 H locs c_187 n_188 hc_187 hn_188 hp hw => ?_)
        obtain ⟨hk_189, hp⟩ := hp
        have ph_190 : c_187 + Phc S_186 ≤ Phc S + 0 := by omega
        have ph_191 : n_188 + Phs S_186 ≤ Phs S + 0 := by omega
        clear ph_149
        clear ph_150
        clear hc_187
        clear hn_188
        have hO_192 : Og eTI S S_186 := hO_151.call hk_189 (by decide +kernel)
        have hT_193 := hp
        refine lv_iconst (v := 1) X.1 X.2.1 dX4_tick_62 (by decide) ?_
        have tc_194 : Tch A S S_186 := Tch_tr tc_174 hT_193
        exact ret_gz X hw hr hlocks (by show c_187 ≤ Phc S + 8; omega) (by show n_188 ≤ Phs S + 15019; omega) (by omega) (by omega) (by decide) ⟨hO_192, Or.inl ⟨tc_194, rfl⟩⟩ dX4_tick_63
      · have z_b_195 := trivial
        have k_196 : v_164.toInt = 0 := z_eq rfl ti_0 c_170
        refine lv_iconst (v := 0) X.1 X.2.1 dX4_tick_55 (by decide) ?_
        have tc_197 : Tch A S S_145 := Tch_tr tc_128 hT_152
        exact ret_gz X hw hr hlocks (by show c_146 ≤ Phc S + 8; omega) (by show n_147 ≤ Phs S + 15019; omega) (by omega) (by omega) (by decide) ⟨hO_151, Or.inr ⟨tc_197, rfl⟩⟩ dX4_tick_56
    · have z_b_198 := trivial
      have k_199 : v_155.toInt > 0 := z_nle rfl ti_0 c_158
      refine lv_aload_n X.1 X.2.1 dX4_tick_33 rfl (lv_at hl 0 rfl) ?_
      refine lv_dup X.1 X.2.1 dX4_tick_34 rfl ?_
      refine r_getI (g := 405) (x := v_155) X hw t_153 rfl 5 ev_155 (by decide) rfl inn_X4_tick_4 (by decide) (X.2.2.2.1 (.fieldLink RX4 66 "SilkMill$Pot" "stop" "I") (by decide +kernel)) rfl (gv_405 _ _) dX4_tick_35 ?_
      refine lv_iconst (v := 1) X.1 X.2.1 dX4_tick_38 (by decide) ?_
      refine lv_isub X.1 X.2.1 dX4_tick_39 ?_
      refine lv_topi (fun v_200 ev_200 => ?_)
      have z_201 : v_200.toInt = v_155.toInt - 1 := z_sub ev_200 rfl ti_1 (by omega) (by omega)
      refine r_putI (v := v_200) X hw t_153 rfl 5 405 tyX4 (by decide) rfl inn_X4_tick_4 tyX4_ok nmX4 (by decide) (X.2.2.2.1 (.fieldLink RX4 66 "SilkMill$Pot" "stop" "I") (by decide +kernel)) rfl (Or.inl rfl) rfl rfl (Nat.le_of_ble_eq_true rfl) (st_405 _ _) dX4_tick_40 (fun H locs hw => ?_)
      obtain ⟨S_202, eS_202⟩ : ∃ T, T = sI S_145 405 x (v_200) := ⟨_, rfl⟩
      rw [← eS_202] at hw
      have ph_203 : c_146 + Phc S_202 ≤ Phc S + 0 := by rw [show Phc S_202 = Phc S_145 from Ph_sI eS_202 rfl rfl]; exact ph_149
      have ph_204 : n_147 + Phs S_202 ≤ Phs S + 0 := by rw [show Phs S_202 = Phs S_145 from Ph_sI eS_202 rfl rfl]; exact ph_150
      clear ph_149
      clear ph_150
      have hO_205 : Og eTI S S_202 := hO_151.sI eS_202 (by decide +kernel) (uI_4_405 hO_151.1 t_153)
      have h_206 : pI S_202 405 x = v_200 := tI_sIs eS_202
      refine lv_iconst (v := 0) X.1 X.2.1 dX4_tick_43 (by decide) ?_
      have tc_207 : Tch A S S_145 := Tch_tr tc_128 hT_152
      have tc_208 : Tch A S S_202 := Tch_sI tc_207 eS_202 (by decide)
      exact ret_gz X hw hr hlocks (by show c_146 ≤ Phc S + 8; omega) (by show n_147 ≤ Phs S + 15019; omega) (by omega) (by omega) (by decide) ⟨hO_205, Or.inr ⟨tc_208, rfl⟩⟩ dX4_tick_44
