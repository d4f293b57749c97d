
set_option maxHeartbeats 4000000 in
set_option maxRecDepth 100000 in
theorem k_X4_tick5 (l : Launch) (G : va_G) (cy : Nat → ClassId) (κ : Nat → Nat) (S : PS) (sz hz : Nat) (x : Nat) (s1 : Nat) (D : Nat → Prop) (R0 : Nat) (R1 : Nat) (R2 : Nat) (Gs : Nat) (A : Pt) (Ev : En) (Rl : List Ru) (hG : GX S) (ha_x : At S x 4) (ha_s1 : At S s1 8) (hp_0 : (∀ c, D c → At S c 0)) (hp_1 : PotR S x R0 R1 R2 Gs) (hp_2 : PotV S D x R0 R1 R2 Gs s1 A) (hp_3 : EnC S D x s1 Ev) (hp_4 : RuS S x Rl) : Gi l yX4_tick wsX4_tick ({ frames := 8, cells := Phc S + 8, slots := Phs S + 15019, locals := 384 }) G cy κ S sz hz 0 0 [.ref x, .ref s1] (fun (r : Int32) (S9 : PS) => Og eTI S S9 ∧ (((PotV S9 D x R0 R1 R2 Gs s1 (ticF Ev Rl A).1 ∧ PotX S S9 x R0 R1 R2 Gs ∧ (ticF Ev Rl A).2) ∧ r = 1) ∨ ((PotV S9 D x R0 R1 R2 Gs s1 (ticF Ev Rl A).1 ∧ PotX S S9 x R0 R1 R2 Gs ∧ ¬ (ticF Ev Rl A).2) ∧ r = 0))) := by
  refine ent_g (cc := cX4_tick) (maxL := 2) (ret := (some .boolean)) (by decide) rfl (Nat.le_of_ble_eq_true rfl) ?_
  intro p e s m below meth c ls X hr hlocks hin hw hl hsz hhz
  subst hsz hhz
  have X : Cx p c cX4_tick 2 s [.ref x, .ref s1].toArray wsX4_tick RX4 m G cy κ (AS S s.heap.size) := X
  have hl : lv_has ls 2 [(0, .ref x), (1, .ref s1)] := hl
  have hpc0 : 0 + Phc S ≤ Phc S + 0 := by omega
  have hps0 : 0 + Phs S ≤ Phs S + 0 := by omega
  have hO : Og eTI S S := Og.rf hG
  have hpr := hp_1
  obtain ⟨hr0, hr1, hr2, hr3, hne, hcn⟩ := hpr
  have haR0 := row_at hG ha_x (Or.inl hr0)
  have haR1 := row_at hG ha_x (Or.inr (Or.inl hr1))
  have haR2 := row_at hG ha_x (Or.inr (Or.inr hr2))
  have haGs : At S Gs 29 := by obtain ⟨c, k1, k2⟩ := gQ_4_403 hG ha_x; have h3 := hr3; rw [k1] at h3; cases h3; exact k2
  have hpv := hp_2
  obtain ⟨pv_1, pv_2, pv_3, pv_4, pv_5, pv_6, pv_7, pv_8, pv_9, pv_10, pv_11⟩ := hpv
  obtain ⟨v_12, ev_12⟩ : ∃ v, pI S 902 Gs = v := ⟨_, rfl⟩
  have rg_13 := gI_29_902 hO.1 haGs; rw [ev_12] at rg_13
  have pz_14 : (pI S 902 Gs).toInt = v_12.toInt := by rw [ev_12]
  have pz_15 : (pI S 902 Gs).toInt = v_12.toInt := (congrArg Int32.toInt ev_12).trans rfl
  obtain ⟨v_16, ev_16⟩ : ∃ v, pI S 800 s1 = v := ⟨_, rfl⟩
  have rg_17 := gI_8_800 hO.1 ha_s1; rw [ev_16] at rg_17
  have pz_18 : (pI S 800 s1).toInt = v_16.toInt := by rw [ev_16]
  have pz_19 : (pI S 800 s1).toInt = v_16.toInt := (congrArg Int32.toInt ev_16).trans rfl
  refine lv_aload_n X.1 X.2.1 dX4_tick_0 rfl (lv_at hl 0 rfl) ?_
  refine lv_dup X.1 X.2.1 dX4_tick_1 rfl ?_
  refine r_getI (g := 408) (x := (qtk A)) X hw ha_x rfl 8 pv_8 (by decide) rfl inn_X4_tick_4 (by decide) (X.2.2.2.1 (.fieldLink RX4 60 "SilkMill$Pot" "ticksEver" "I") (by decide +kernel)) rfl (gv_408 _ _) dX4_tick_2 ?_
  refine lv_iconst (v := 1) X.1 X.2.1 dX4_tick_5 (by decide) ?_
  refine lv_iadd X.1 X.2.1 dX4_tick_6 ?_
  refine lv_topi (fun v_20 ev_20 => ?_)
  have rg_21 := And.intro (z_lo v_20) (z_hi v_20)
  refine r_putI (v := v_20) X hw ha_x rfl 8 408 tyX4 (by decide) rfl inn_X4_tick_4 tyX4_ok nmX4 (by decide) (X.2.2.2.1 (.fieldLink RX4 60 "SilkMill$Pot" "ticksEver" "I") (by decide +kernel)) rfl (Or.inl rfl) rfl rfl (Nat.le_of_ble_eq_true rfl) (st_408 _ _) dX4_tick_7 (fun H locs hw => ?_)
  obtain ⟨S_22, eS_22⟩ : ∃ T, T = sI S 408 x (v_20) := ⟨_, rfl⟩
  rw [← eS_22] at hw
  have ph_23 : 0 + Phc S_22 ≤ Phc S + 0 := by rw [show Phc S_22 = Phc S from Ph_sI eS_22 rfl rfl]; exact hpc0
  have ph_24 : 0 + Phs S_22 ≤ Phs S + 0 := by rw [show Phs S_22 = Phs S from Ph_sI eS_22 rfl rfl]; exact hps0
  clear hpc0
  clear hps0
  have hO_25 : Og eTI S S_22 := hO.sI eS_22 (by decide +kernel) (uI_4_408 hO.1 ha_x)
  have h_26 : pI S_22 408 x = v_20 := tI_sIs eS_22
  refine lv_aload_n X.1 X.2.1 dX4_tick_10 rfl (lv_at hl 0 rfl) ?_
  have t_27 : At S_22 x 4 := tAt_sI eS_22 ha_x
  have dt_28 : ∀ c, D c → At S_22 c 0 := fun c h => tAt_sI eS_22 (hp_0 c h)
  have pr_29 : PotR S_22 x R0 R1 R2 Gs := PotR_sI hp_1 eS_22
  have rw_30 : RowIs S_22 R0 (qb A) 600 := RowIs_sI pv_1 eS_22 (by decide) (by decide)
  have rw_31 : RowIs S_22 R1 (qe A) 12 := RowIs_sI pv_2 eS_22 (by decide) (by decide)
  have rw_32 : RowIs S_22 R2 (ql A) 600 := RowIs_sI pv_3 eS_22 (by decide) (by decide)
  have co_33 : CoP S_22 D (qpl A) (qsd A) := CoP_sI pv_10 eS_22 (by decide) (by decide)
  have t_34 : pI S_22 405 x = (qst A) := tI_sI eS_22 rfl pv_4
  have t_35 : pI S_22 406 x = (qse A) := tI_sI eS_22 rfl pv_5
  have t_36 : pI S_22 902 Gs = v_12 := tI_sI eS_22 rfl ev_12
  have pz_37 : (pI S_22 902 Gs).toInt = v_12.toInt := (congrArg Int32.toInt t_36).trans rfl
  have t_38 : pI S_22 407 x = (qdr A) := tI_sI eS_22 rfl pv_7
  have t_39 : pI S_22 800 s1 = v_16 := tI_sI eS_22 rfl ev_16
  have pz_40 : (pI S_22 800 s1).toInt = v_16.toInt := (congrArg Int32.toInt t_39).trans rfl
  have en_41 : EnC S_22 D x s1 Ev := EnC_sI hp_3 eS_22 (by decide)
  have t_42 : At S_22 s1 8 := tAt_sI eS_22 ha_s1
  refine k_v (rm := { frames := 4, cells := 0, slots := 0, locals := 192 }) (av := [.ref x]) X hw (va_runV (As := []) (rest := []) (cfix X) (k_X4_searchLost5 l G cy κ S_22 _ x D R0 R1 R2 Gs s1 (wtk A (qtk A + 1)) Ev hO_25.1 t_27 dt_28 pr_29 (PotV_of (rfl : (wtk A (qtk A + 1)) = (wtk A (qtk A + 1))) rw_30 rw_31 rw_32 t_34 t_35 (show (pI S_22 902 Gs).toInt = (((qg A)).length : Int) by omega) t_38 (h_26.trans ev_20) (show (pI S_22 800 s1).toInt = (((qsk A)).length : Int) by omega) co_33 pv_11) en_41 t_42) (cwV 0 X.2.2.2.1 gX4_tick_X4_searchLost rfl rfl rfl (by decide +kernel) ⟨Nat.le_of_ble_eq_true rfl, Nat.le_of_ble_eq_true rfl⟩) (pre_V X hw _ t_27 rfl (by decide) rfl) rfl rfl hl.1 rfl (lv_room (Nat.le_of_ble_eq_true rfl)) dX4_tick_11 ⟨(by show 0 + 0 ≤ Phc S + 8; omega), (by show 0 + 0 ≤ Phs S + 15019; omega)⟩) 0 0 (by show 0 + 0 ≤ 0; omega) (by show 0 + 0 ≤ 0; omega) (fun S_44 H locs hp hw hfr hnw => ?_)
  obtain ⟨hk_45, hp⟩ := hp
  have ph_46 : 0 + Phc S_44 ≤ Phc S + 0 := by rw [show Phc S_44 = Phc S_22 from Ph_ok hO_25.1 hk_45 (by decide +kernel) (by decide +kernel) (by decide +kernel)]; exact ph_23
  have ph_47 : 0 + Phs S_44 ≤ Phs S + 0 := by rw [show Phs S_44 = Phs S_22 from Ph_ok hO_25.1 hk_45 (by decide +kernel) (by decide +kernel) (by decide +kernel)]; exact ph_24
  clear ph_23
  clear ph_24
  have hO_48 : Og eTI S S_44 := hO_25.call hk_45.og (by decide +kernel)
  obtain ⟨pv_49, hx_50⟩ := hp
  obtain ⟨pv_51, pv_52, pv_53, pv_54, pv_55, pv_56, pv_57, pv_58, pv_59, pv_60, pv_61⟩ := pv_49
  have t_63 : At S_22 Gs 29 := tAt_sI eS_22 haGs
  have t_62 : pI S_44 902 Gs = v_12 := hk_45.fr.I' (by decide +kernel) t_63 t_36
  have pz_64 : (pI S_44 902 Gs).toInt = v_12.toInt := (congrArg Int32.toInt t_62).trans rfl
  have t_65 : pI S_44 800 s1 = v_16 := hk_45.fr.I' (by decide +kernel) t_42 t_39
  have pz_66 : (pI S_44 800 s1).toInt = v_16.toInt := (congrArg Int32.toInt t_65).trans rfl
  refine lv_aload_n X.1 X.2.1 dX4_tick_14 rfl (lv_at hl 0 rfl) ?_
  have t_67 : At S_44 x 4 := hk_45.fr.at t_27
  refine r_getI (g := 405) (x := (qst (seaF Ev (wtk A (qtk A + 1))))) X hw t_67 rfl 5 pv_54 (by decide) rfl inn_X4_tick_4 (by decide) (X.2.2.2.1 (.fieldLink RX4 66 "SilkMill$Pot" "stop" "I") (by decide +kernel)) rfl (gv_405 _ _) dX4_tick_15 ?_
  refine lv_if_ne (tgt := 26) X.1 X.2.1 dX4_tick_18 (by decide) (fun c_68 => ?_) (fun c_68 => ?_)
  · have z_b_69 := trivial
    have k_70 : (qst (seaF Ev (wtk A (qtk A + 1)))).toInt ≠ 0 := z_ne rfl ti_0 c_68
    refine lv_aload_n X.1 X.2.1 dX4_tick_26 rfl (lv_at hl 0 rfl) ?_
    refine r_getI (g := 405) (x := (qst (seaF Ev (wtk A (qtk A + 1))))) X hw t_67 rfl 5 pv_54 (by decide) rfl inn_X4_tick_4 (by decide) (X.2.2.2.1 (.fieldLink RX4 66 "SilkMill$Pot" "stop" "I") (by decide +kernel)) rfl (gv_405 _ _) dX4_tick_27 ?_
    refine lv_if_le (tgt := 45) X.1 X.2.1 dX4_tick_30 (by decide) (fun c_71 => ?_) (fun c_71 => ?_)
    · have z_b_72 := trivial
      have k_73 : (qst (seaF Ev (wtk A (qtk A + 1)))).toInt ≤ 0 := z_le rfl ti_0 c_71
      refine lv_aload_n X.1 X.2.1 dX4_tick_45 rfl (lv_at hl 0 rfl) ?_
      have t_74 : pR S_22 401 x = some R1 := tR_sI eS_22 hr1
      have t_75 : pR S_44 401 x = some R1 := hk_45.fr.R' (by decide +kernel) t_27 t_74
      refine r_getR (g := 401) X hw t_67 rfl 1 t_75 (by decide) rfl inn_X4_tick_4 (by decide) (X.2.2.2.1 (.fieldLink RX4 20 "SilkMill$Pot" "ends" "LSilkMill$Row;") (by decide +kernel)) rfl (gv_401 _ _) dX4_tick_46 ?_
      have t_76 : At S_22 R1 5 := tAt_sI eS_22 haR1
      have t_77 : At S_44 R1 5 := hk_45.fr.at t_76
      obtain ⟨v_78, ev_78⟩ : ∃ v, pI S_44 500 R1 = v := ⟨_, rfl⟩
      obtain ⟨q_80, n_81, h_82, h_83, h_84, h_85, h_86⟩ := gRowQ hO_48.1 t_77
      have rg_79 := gRow_500 hO_48.1 t_77 h_82 h_84; rw [ev_78] at rg_79
      have pz_87 : (pI S_44 500 R1).toInt = v_78.toInt := by rw [ev_78]
      refine r_getI (g := 500) (x := v_78) X hw t_77 rfl 0 ev_78 (by decide) rfl inn_X4_tick_5 (by decide) (X.2.2.2.1 (.fieldLink RX4 73 "SilkMill$Row" "size" "I") (by decide +kernel)) rfl (gv_500 _ _) dX4_tick_49 ?_
      have sz_88 := RowIs_sz pv_52
      have pz_89 : (pI S_44 500 R1).toInt = v_78.toInt := (congrArg Int32.toInt ev_78).trans rfl
      refine lv_if_ne (tgt := 57) X.1 X.2.1 dX4_tick_52 (by decide) (fun c_90 => ?_) (fun c_90 => ?_)
      · have z_b_91 := trivial
        have k_92 : v_78.toInt ≠ 0 := z_ne rfl ti_0 c_90
        refine lv_aload_n X.1 X.2.1 dX4_tick_57 rfl (lv_at hl 0 rfl) ?_
        refine lv_aload_n X.1 X.2.1 dX4_tick_58 rfl (lv_at hl 1 rfl) ?_
        have t_93 : At S_44 s1 8 := hk_45.fr.at t_42
        have dt_94 : ∀ c, D c → At S_44 c 0 := fun c h => hk_45.fr.at (dt_28 c h)
        have pr_95 : PotR S_44 x R0 R1 R2 Gs := PotR_fr hO_25.1 t_27 hk_45.fr (by decide +kernel) pr_29
        have pz_96 : (pI S_44 902 Gs).toInt = v_12.toInt := (congrArg Int32.toInt t_62).trans rfl
        have pz_97 : (pI S_44 800 s1).toInt = v_16.toInt := (congrArg Int32.toInt t_65).trans rfl
        have en_98 : EnC S_44 D x s1 Ev := EnC_fr hk_45.fr dt_28 t_27 t_42 (by decide +kernel) en_41
        refine k_gv (kc := 0) (ks := 0) (rm := { frames := 6, cells := Phc S_44 + 8, slots := Phs S_44 + 15019, locals := 288 }) (av := [.ref x, .ref s1]) X hw (va_runV (As := [.ref s1]) (rest := []) (cfix X) (k_X4_drawMetre5 l G cy κ S_44 _ _ x s1 D R0 R1 R2 Gs (seaF Ev (wtk A (qtk A + 1))) Ev hO_48.1 t_67 t_93 dt_94 pr_95 (PotV_of (rfl : (seaF Ev (wtk A (qtk A + 1))) = (seaF Ev (wtk A (qtk A + 1)))) pv_51 pv_52 pv_53 pv_54 pv_55 (show (pI S_44 902 Gs).toInt = (((qg (seaF Ev (wtk A (qtk A + 1))))).length : Int) by omega) pv_57 pv_58 (show (pI S_44 800 s1).toInt = (((qsk (seaF Ev (wtk A (qtk A + 1))))).length : Int) by omega) pv_60 pv_61) en_98) (cwV 1 X.2.2.2.1 gX4_tick_X4_drawMetre rfl rfl rfl (by decide +kernel) ⟨Nat.le_of_ble_eq_true rfl, Nat.le_of_ble_eq_true rfl⟩) (pre_gV X hw _ t_67 rfl (by decide) rfl) rfl rfl hl.1 rfl (lv_room (Nat.le_of_ble_eq_true rfl)) dX4_tick_59 ⟨(by show 0 + (Phc S_44 + 8) ≤ Phc S + 8; omega), (by show 0 + (Phs S_44 + 15019) ≤ Phs S + 15019; omega)⟩) (fun S_100 H locs c_101 n_102 hc_101 hn_102 hp hw => ?_)
        obtain ⟨hk_103, hp⟩ := hp
        have ph_104 : c_101 + Phc S_100 ≤ Phc S + 0 := by omega
        have ph_105 : n_102 + Phs S_100 ≤ Phs S + 0 := by omega
        clear ph_46
        clear ph_47
        clear hc_101
        clear hn_102
        have hO_106 : Og eTI S S_100 := hO_48.call hk_103 (by decide +kernel)
        obtain ⟨pv_107, hx_108⟩ := hp
        obtain ⟨pv_109, pv_110, pv_111, pv_112, pv_113, pv_114, pv_115, pv_116, pv_117, pv_118, pv_119⟩ := pv_107
        obtain ⟨v_121, ev_121⟩ : ∃ v, pI S_100 902 Gs = v := ⟨_, rfl⟩
        have t_123 : At S_44 Gs 29 := hk_45.fr.at t_63
        have t_124 : At S_100 Gs 29 := hk_103.fr.at t_123
        have rg_122 := gI_29_902 hO_106.1 t_124; rw [ev_121] at rg_122
        have pz_125 : (pI S_100 902 Gs).toInt = v_121.toInt := by rw [ev_121]
        have pz_126 : (pI S_100 902 Gs).toInt = v_121.toInt := (congrArg Int32.toInt ev_121).trans rfl
        obtain ⟨v_128, ev_128⟩ : ∃ v, pI S_100 800 s1 = v := ⟨_, rfl⟩
        have t_130 : At S_100 s1 8 := hk_103.fr.at t_93
        have rg_129 := gI_8_800 hO_106.1 t_130; rw [ev_128] at rg_129
        have pz_131 : (pI S_100 800 s1).toInt = v_128.toInt := by rw [ev_128]
        have pz_132 : (pI S_100 800 s1).toInt = v_128.toInt := (congrArg Int32.toInt ev_128).trans rfl
        refine lv_iconst (v := 1) X.1 X.2.1 dX4_tick_62 (by decide) ?_
        have tb_133 : ticB Ev Rl A = (seaF Ev (wtk A (qtk A + 1))) := if_neg (i32_ne rfl t0 (by omega))
        have px_134 : PotX S S_22 x R0 R1 R2 Gs := PotX_sx (PotX_rf S x R0 R1 R2 Gs) eS_22 (by decide)
        have ax_136 : ∀ a k, At S a k → At S_22 a k := fun a k h => tAt_sI eS_22 ((fun _ _ h => h) a k h)
        have px_135 : PotX S S_44 x R0 R1 R2 Gs := PotX_tr px_134 ax_136 haR0 haR1 haR2 hx_50
        have ax_138 : ∀ a k, At S a k → At S_44 a k := fun a k h => hk_45.fr.at (ax_136 a k h)
        have px_137 : PotX S S_100 x R0 R1 R2 Gs := PotX_tr px_135 ax_138 haR0 haR1 haR2 hx_108
        have pz_139 : (pI S_100 902 Gs).toInt = v_121.toInt := (congrArg Int32.toInt ev_121).trans rfl
        have pz_140 : (pI S_100 800 s1).toInt = v_128.toInt := (congrArg Int32.toInt ev_128).trans rfl
        exact ret_gz X hw hr hlocks (by show c_101 ≤ Phc S + 8; omega) (by show n_102 ≤ Phs S + 15019; omega) (by omega) (by omega) (by decide) ⟨hO_106, Or.inl ⟨⟨PotV_of (show (ticF Ev Rl A).1 = (drwF Ev (seaF Ev (wtk A (qtk A + 1)))) by rw [ticF_d (by rw [tb_133]; omega) (by rw [tb_133]; exact (fun z => by have e0 := congrArg List.length z; have e1 : ([] : List Nat).length = 0 := rfl; omega)), tb_133]) pv_109 pv_110 pv_111 pv_112 pv_113 (show (pI S_100 902 Gs).toInt = (((qg (drwF Ev (seaF Ev (wtk A (qtk A + 1)))))).length : Int) by omega) pv_115 pv_116 (show (pI S_100 800 s1).toInt = (((qsk (drwF Ev (seaF Ev (wtk A (qtk A + 1)))))).length : Int) by omega) pv_118 (inD_tic pv_11), px_137, by rw [ticF_d (by rw [tb_133]; omega) (by rw [tb_133]; exact (fun z => by have e0 := congrArg List.length z; have e1 : ([] : List Nat).length = 0 := rfl; omega))]; exact trivial⟩, rfl⟩⟩ dX4_tick_63
      · have z_b_141 := trivial
        have k_142 : v_78.toInt = 0 := z_eq rfl ti_0 c_90
        refine lv_iconst (v := 0) X.1 X.2.1 dX4_tick_55 (by decide) ?_
        have tb_143 : ticB Ev Rl A = (seaF Ev (wtk A (qtk A + 1))) := if_neg (i32_ne rfl t0 (by omega))
        have px_144 : PotX S S_22 x R0 R1 R2 Gs := PotX_sx (PotX_rf S x R0 R1 R2 Gs) eS_22 (by decide)
        have ax_146 : ∀ a k, At S a k → At S_22 a k := fun a k h => tAt_sI eS_22 ((fun _ _ h => h) a k h)
        have px_145 : PotX S S_44 x R0 R1 R2 Gs := PotX_tr px_144 ax_146 haR0 haR1 haR2 hx_50
        have pz_147 : (pI S_44 902 Gs).toInt = v_12.toInt := (congrArg Int32.toInt t_62).trans rfl
        have pz_148 : (pI S_44 800 s1).toInt = v_16.toInt := (congrArg Int32.toInt t_65).trans rfl
        exact ret_gz X hw hr hlocks (by show 0 ≤ Phc S + 8; omega) (by show 0 ≤ Phs S + 15019; omega) (by omega) (by omega) (by decide) ⟨hO_48, Or.inr ⟨⟨PotV_of (show (ticF Ev Rl A).1 = (seaF Ev (wtk A (qtk A + 1))) by rw [ticF_0 (by rw [tb_143]; omega) (by rw [tb_143]; exact (List.eq_nil_of_length_eq_zero (by omega))), tb_143]) pv_51 pv_52 pv_53 pv_54 pv_55 (show (pI S_44 902 Gs).toInt = (((qg (seaF Ev (wtk A (qtk A + 1))))).length : Int) by omega) pv_57 pv_58 (show (pI S_44 800 s1).toInt = (((qsk (seaF Ev (wtk A (qtk A + 1))))).length : Int) by omega) pv_60 (inD_tic pv_11), px_145, fun h => (by rw [ticF_0 (by rw [tb_143]; omega) (by rw [tb_143]; exact (List.eq_nil_of_length_eq_zero (by omega)))] at h; exact h)⟩, rfl⟩⟩ dX4_tick_56
    · have z_b_149 := trivial
      have k_150 : (qst (seaF Ev (wtk A (qtk A + 1)))).toInt > 0 := z_nle rfl ti_0 c_71
      refine lv_aload_n X.1 X.2.1 dX4_tick_33 rfl (lv_at hl 0 rfl) ?_
      refine lv_dup X.1 X.2.1 dX4_tick_34 rfl ?_
      refine r_getI (g := 405) (x := (qst (seaF Ev (wtk A (qtk A + 1))))) X hw t_67 rfl 5 pv_54 (by decide) rfl inn_X4_tick_4 (by decide) (X.2.2.2.1 (.fieldLink RX4 66 "SilkMill$Pot" "stop" "I") (by decide +kernel)) rfl (gv_405 _ _) dX4_tick_35 ?_
      refine lv_iconst (v := 1) X.1 X.2.1 dX4_tick_38 (by decide) ?_
      have zh_151 := z_hi (qst (seaF Ev (wtk A (qtk A + 1))))
      have zh_152 := z_lo (qst (seaF Ev (wtk A (qtk A + 1))))
      refine lv_isub X.1 X.2.1 dX4_tick_39 ?_
      refine lv_topi (fun v_153 ev_153 => ?_)
      have z_154 : v_153.toInt = (qst (seaF Ev (wtk A (qtk A + 1)))).toInt - 1 := z_sub ev_153 rfl ti_1 (by omega) (by omega)
      refine r_putI (v := v_153) X hw t_67 rfl 5 405 tyX4 (by decide) rfl inn_X4_tick_4 tyX4_ok nmX4 (by decide) (X.2.2.2.1 (.fieldLink RX4 66 "SilkMill$Pot" "stop" "I") (by decide +kernel)) rfl (Or.inl rfl) rfl rfl (Nat.le_of_ble_eq_true rfl) (st_405 _ _) dX4_tick_40 (fun H locs hw => ?_)
      obtain ⟨S_155, eS_155⟩ : ∃ T, T = sI S_44 405 x (v_153) := ⟨_, rfl⟩
      rw [← eS_155] at hw
      have ph_156 : 0 + Phc S_155 ≤ Phc S + 0 := by rw [show Phc S_155 = Phc S_44 from Ph_sI eS_155 rfl rfl]; exact ph_46
      have ph_157 : 0 + Phs S_155 ≤ Phs S + 0 := by rw [show Phs S_155 = Phs S_44 from Ph_sI eS_155 rfl rfl]; exact ph_47
      clear ph_46
      clear ph_47
      have hO_158 : Og eTI S S_155 := hO_48.sI eS_155 (by decide +kernel) (uI_4_405 hO_48.1 t_67)
      have h_159 : pI S_155 405 x = v_153 := tI_sIs eS_155
      refine lv_iconst (v := 0) X.1 X.2.1 dX4_tick_43 (by decide) ?_
      have tb_160 : ticB Ev Rl A = (seaF Ev (wtk A (qtk A + 1))) := if_neg (i32_ne rfl t0 (by omega))
      have px_161 : PotX S S_22 x R0 R1 R2 Gs := PotX_sx (PotX_rf S x R0 R1 R2 Gs) eS_22 (by decide)
      have ax_163 : ∀ a k, At S a k → At S_22 a k := fun a k h => tAt_sI eS_22 ((fun _ _ h => h) a k h)
      have px_162 : PotX S S_44 x R0 R1 R2 Gs := PotX_tr px_161 ax_163 haR0 haR1 haR2 hx_50
      have px_164 : PotX S S_155 x R0 R1 R2 Gs := PotX_sx px_162 eS_155 (by decide)
      have rw_165 : RowIs S_155 R0 (qb (seaF Ev (wtk A (qtk A + 1)))) 600 := RowIs_sI pv_51 eS_155 (by decide) (by decide)
      have rw_166 : RowIs S_155 R1 (qe (seaF Ev (wtk A (qtk A + 1)))) 12 := RowIs_sI pv_52 eS_155 (by decide) (by decide)
      have rw_167 : RowIs S_155 R2 (ql (seaF Ev (wtk A (qtk A + 1)))) 600 := RowIs_sI pv_53 eS_155 (by decide) (by decide)
      have co_168 : CoP S_155 D (qpl (seaF Ev (wtk A (qtk A + 1)))) (qsd (seaF Ev (wtk A (qtk A + 1)))) := CoP_sI pv_60 eS_155 (by decide) (by decide)
      have t_169 : pI S_155 406 x = (qse (seaF Ev (wtk A (qtk A + 1)))) := tI_sI eS_155 rfl pv_55
      have t_170 : pI S_155 902 Gs = v_12 := tI_sI eS_155 rfl t_62
      have pz_171 : (pI S_155 902 Gs).toInt = v_12.toInt := (congrArg Int32.toInt t_170).trans rfl
      have t_172 : pI S_155 407 x = (qdr (seaF Ev (wtk A (qtk A + 1)))) := tI_sI eS_155 rfl pv_57
      have t_173 : pI S_155 408 x = (qtk (seaF Ev (wtk A (qtk A + 1)))) := tI_sI eS_155 rfl pv_58
      have t_174 : pI S_155 800 s1 = v_16 := tI_sI eS_155 rfl t_65
      have pz_175 : (pI S_155 800 s1).toInt = v_16.toInt := (congrArg Int32.toInt t_174).trans rfl
      exact ret_gz X hw hr hlocks (by show 0 ≤ Phc S + 8; omega) (by show 0 ≤ Phs S + 15019; omega) (by omega) (by omega) (by decide) ⟨hO_158, Or.inr ⟨⟨PotV_of (show (ticF Ev Rl A).1 = (wst (seaF Ev (wtk A (qtk A + 1))) (qst (seaF Ev (wtk A (qtk A + 1))) - 1)) by rw [ticF_s (by rw [tb_160]; omega), tb_160]) rw_165 rw_166 rw_167 (h_159.trans ev_153) t_169 (show (pI S_155 902 Gs).toInt = (((qg (seaF Ev (wtk A (qtk A + 1))))).length : Int) by omega) t_172 t_173 (show (pI S_155 800 s1).toInt = (((qsk (seaF Ev (wtk A (qtk A + 1))))).length : Int) by omega) co_168 (inD_tic pv_11), px_164, fun h => (by rw [ticF_s (by rw [tb_160]; omega)] at h; exact h)⟩, rfl⟩⟩ dX4_tick_44
  · have z_b_176 := trivial
    have k_177 : (qst (seaF Ev (wtk A (qtk A + 1)))).toInt = 0 := z_eq rfl ti_0 c_68
    refine lv_aload_n X.1 X.2.1 dX4_tick_21 rfl (lv_at hl 0 rfl) ?_
    refine lv_aload_n X.1 X.2.1 dX4_tick_22 rfl (lv_at hl 1 rfl) ?_
    have t_178 : At S_44 s1 8 := hk_45.fr.at t_42
    have dt_179 : ∀ c, D c → At S_44 c 0 := fun c h => hk_45.fr.at (dt_28 c h)
    have pr_180 : PotR S_44 x R0 R1 R2 Gs := PotR_fr hO_25.1 t_27 hk_45.fr (by decide +kernel) pr_29
    have pz_181 : (pI S_44 902 Gs).toInt = v_12.toInt := (congrArg Int32.toInt t_62).trans rfl
    have pz_182 : (pI S_44 800 s1).toInt = v_16.toInt := (congrArg Int32.toInt t_65).trans rfl
    have en_183 : EnC S_44 D x s1 Ev := EnC_fr hk_45.fr dt_28 t_27 t_42 (by decide +kernel) en_41
    have rs_184 : RuS S_22 x Rl := RuS_sI hp_4 eS_22 (by decide)
    have rs_185 : RuS S_44 x Rl := RuS_fr hO_25.1 t_27 hk_45.fr (by decide +kernel) rs_184
    refine k_gv (kc := 0) (ks := 0) (rm := { frames := 7, cells := Phc S_44 + 8, slots := Phs S_44 + 15019, locals := 336 }) (av := [.ref x, .ref s1]) X hw (va_runV (As := [.ref s1]) (rest := []) (cfix X) (k_X4_applyRules5 l G cy κ S_44 _ _ x s1 D R0 R1 R2 Gs (seaF Ev (wtk A (qtk A + 1))) Ev Rl hO_48.1 t_67 t_178 dt_179 pr_180 (PotV_of (rfl : (seaF Ev (wtk A (qtk A + 1))) = (seaF Ev (wtk A (qtk A + 1)))) pv_51 pv_52 pv_53 pv_54 pv_55 (show (pI S_44 902 Gs).toInt = (((qg (seaF Ev (wtk A (qtk A + 1))))).length : Int) by omega) pv_57 pv_58 (show (pI S_44 800 s1).toInt = (((qsk (seaF Ev (wtk A (qtk A + 1))))).length : Int) by omega) pv_60 pv_61) en_183 rs_185) (cwV 1 X.2.2.2.1 gX4_tick_X4_applyRules rfl rfl rfl (by decide +kernel) ⟨Nat.le_of_ble_eq_true rfl, Nat.le_of_ble_eq_true rfl⟩) (pre_gV X hw _ t_67 rfl (by decide) rfl) rfl rfl hl.1 rfl (lv_room (Nat.le_of_ble_eq_true rfl)) dX4_tick_23 ⟨(by show 0 + (Phc S_44 + 8) ≤ Phc S + 8; omega), (by show 0 + (Phs S_44 + 15019) ≤ Phs S + 15019; omega)⟩) (fun S_187 H locs c_188 n_189 hc_188 hn_189 hp hw => ?_)
    obtain ⟨hk_190, hp⟩ := hp
    have ph_191 : c_188 + Phc S_187 ≤ Phc S + 0 := by omega
    have ph_192 : n_189 + Phs S_187 ≤ Phs S + 0 := by omega
    clear ph_46
    clear ph_47
    clear hc_188
    clear hn_189
    have hO_193 : Og eTI S S_187 := hO_48.call hk_190 (by decide +kernel)
    obtain ⟨pv_194, hx_195⟩ := hp
    obtain ⟨pv_196, pv_197, pv_198, pv_199, pv_200, pv_201, pv_202, pv_203, pv_204, pv_205, pv_206⟩ := pv_194
    obtain ⟨v_208, ev_208⟩ : ∃ v, pI S_187 902 Gs = v := ⟨_, rfl⟩
    have t_210 : At S_44 Gs 29 := hk_45.fr.at t_63
    have t_211 : At S_187 Gs 29 := hk_190.fr.at t_210
    have rg_209 := gI_29_902 hO_193.1 t_211; rw [ev_208] at rg_209
    have pz_212 : (pI S_187 902 Gs).toInt = v_208.toInt := by rw [ev_208]
    have pz_213 : (pI S_187 902 Gs).toInt = v_208.toInt := (congrArg Int32.toInt ev_208).trans rfl
    obtain ⟨v_215, ev_215⟩ : ∃ v, pI S_187 800 s1 = v := ⟨_, rfl⟩
    have t_217 : At S_187 s1 8 := hk_190.fr.at t_178
    have rg_216 := gI_8_800 hO_193.1 t_217; rw [ev_215] at rg_216
    have pz_218 : (pI S_187 800 s1).toInt = v_215.toInt := by rw [ev_215]
    have pz_219 : (pI S_187 800 s1).toInt = v_215.toInt := (congrArg Int32.toInt ev_215).trans rfl
    refine lv_aload_n X.1 X.2.1 dX4_tick_26 rfl (lv_at hl 0 rfl) ?_
    have t_220 : At S_187 x 4 := hk_190.fr.at t_67
    refine r_getI (g := 405) (x := (qst (rusF Ev (seaF Ev (wtk A (qtk A + 1))) Rl))) X hw t_220 rfl 5 pv_199 (by decide) rfl inn_X4_tick_4 (by decide) (X.2.2.2.1 (.fieldLink RX4 66 "SilkMill$Pot" "stop" "I") (by decide +kernel)) rfl (gv_405 _ _) dX4_tick_27 ?_
    refine lv_if_le (tgt := 45) X.1 X.2.1 dX4_tick_30 (by decide) (fun c_221 => ?_) (fun c_221 => ?_)
    · have z_b_222 := trivial
      have k_223 : (qst (rusF Ev (seaF Ev (wtk A (qtk A + 1))) Rl)).toInt ≤ 0 := z_le rfl ti_0 c_221
      refine lv_aload_n X.1 X.2.1 dX4_tick_45 rfl (lv_at hl 0 rfl) ?_
      have t_224 : pR S_22 401 x = some R1 := tR_sI eS_22 hr1
      have t_225 : pR S_44 401 x = some R1 := hk_45.fr.R' (by decide +kernel) t_27 t_224
      have t_226 : pR S_187 401 x = some R1 := hk_190.fr.R' (by decide +kernel) t_67 t_225
      refine r_getR (g := 401) X hw t_220 rfl 1 t_226 (by decide) rfl inn_X4_tick_4 (by decide) (X.2.2.2.1 (.fieldLink RX4 20 "SilkMill$Pot" "ends" "LSilkMill$Row;") (by decide +kernel)) rfl (gv_401 _ _) dX4_tick_46 ?_
      have t_227 : At S_22 R1 5 := tAt_sI eS_22 haR1
      have t_228 : At S_44 R1 5 := hk_45.fr.at t_227
      have t_229 : At S_187 R1 5 := hk_190.fr.at t_228
      obtain ⟨v_230, ev_230⟩ : ∃ v, pI S_187 500 R1 = v := ⟨_, rfl⟩
      obtain ⟨q_232, n_233, h_234, h_235, h_236, h_237, h_238⟩ := gRowQ hO_193.1 t_229
      have rg_231 := gRow_500 hO_193.1 t_229 h_234 h_236; rw [ev_230] at rg_231
      have pz_239 : (pI S_187 500 R1).toInt = v_230.toInt := by rw [ev_230]
      refine r_getI (g := 500) (x := v_230) X hw t_229 rfl 0 ev_230 (by decide) rfl inn_X4_tick_5 (by decide) (X.2.2.2.1 (.fieldLink RX4 73 "SilkMill$Row" "size" "I") (by decide +kernel)) rfl (gv_500 _ _) dX4_tick_49 ?_
      have sz_240 := RowIs_sz pv_197
      have pz_241 : (pI S_187 500 R1).toInt = v_230.toInt := (congrArg Int32.toInt ev_230).trans rfl
      refine lv_if_ne (tgt := 57) X.1 X.2.1 dX4_tick_52 (by decide) (fun c_242 => ?_) (fun c_242 => ?_)
      · have z_b_243 := trivial
        have k_244 : v_230.toInt ≠ 0 := z_ne rfl ti_0 c_242
        refine lv_aload_n X.1 X.2.1 dX4_tick_57 rfl (lv_at hl 0 rfl) ?_
        refine lv_aload_n X.1 X.2.1 dX4_tick_58 rfl (lv_at hl 1 rfl) ?_
        have dt_245 : ∀ c, D c → At S_187 c 0 := fun c h => hk_190.fr.at (dt_179 c h)
        have pr_246 : PotR S_187 x R0 R1 R2 Gs := PotR_fr hO_48.1 t_67 hk_190.fr (by decide +kernel) pr_180
        have pz_247 : (pI S_187 902 Gs).toInt = v_208.toInt := (congrArg Int32.toInt ev_208).trans rfl
        have pz_248 : (pI S_187 800 s1).toInt = v_215.toInt := (congrArg Int32.toInt ev_215).trans rfl
        have en_249 : EnC S_187 D x s1 Ev := EnC_fr hk_190.fr dt_179 t_67 t_178 (by decide +kernel) en_183
        refine k_gv (kc := 0) (ks := 0) (rm := { frames := 6, cells := Phc S_187 + 8, slots := Phs S_187 + 15019, locals := 288 }) (av := [.ref x, .ref s1]) X hw (va_runV (As := [.ref s1]) (rest := []) (cfix X) (k_X4_drawMetre5 l G cy κ S_187 _ _ x s1 D R0 R1 R2 Gs (rusF Ev (seaF Ev (wtk A (qtk A + 1))) Rl) Ev hO_193.1 t_220 t_217 dt_245 pr_246 (PotV_of (rfl : (rusF Ev (seaF Ev (wtk A (qtk A + 1))) Rl) = (rusF Ev (seaF Ev (wtk A (qtk A + 1))) Rl)) pv_196 pv_197 pv_198 pv_199 pv_200 (show (pI S_187 902 Gs).toInt = (((qg (rusF Ev (seaF Ev (wtk A (qtk A + 1))) Rl))).length : Int) by omega) pv_202 pv_203 (show (pI S_187 800 s1).toInt = (((qsk (rusF Ev (seaF Ev (wtk A (qtk A + 1))) Rl))).length : Int) by omega) pv_205 pv_206) en_249) (cwV 1 X.2.2.2.1 gX4_tick_X4_drawMetre rfl rfl rfl (by decide +kernel) ⟨Nat.le_of_ble_eq_true rfl, Nat.le_of_ble_eq_true rfl⟩) (pre_gV X hw _ t_220 rfl (by decide) rfl) rfl rfl hl.1 rfl (lv_room (Nat.le_of_ble_eq_true rfl)) dX4_tick_59 ⟨(by show c_188 + (Phc S_187 + 8) ≤ Phc S + 8; omega), (by show n_189 + (Phs S_187 + 15019) ≤ Phs S + 15019; omega)⟩) (fun S_251 H locs c_252 n_253 hc_252 hn_253 hp hw => ?_)
        obtain ⟨hk_254, hp⟩ := hp
        have ph_255 : c_252 + Phc S_251 ≤ Phc S + 0 := by omega
        have ph_256 : n_253 + Phs S_251 ≤ Phs S + 0 := by omega
        clear ph_191
        clear ph_192
        clear hc_252
        clear hn_253
        have hO_257 : Og eTI S S_251 := hO_193.call hk_254 (by decide +kernel)
        obtain ⟨pv_258, hx_259⟩ := hp
        obtain ⟨pv_260, pv_261, pv_262, pv_263, pv_264, pv_265, pv_266, pv_267, pv_268, pv_269, pv_270⟩ := pv_258
        obtain ⟨v_272, ev_272⟩ : ∃ v, pI S_251 902 Gs = v := ⟨_, rfl⟩
        have t_274 : At S_251 Gs 29 := hk_254.fr.at t_211
        have rg_273 := gI_29_902 hO_257.1 t_274; rw [ev_272] at rg_273
        have pz_275 : (pI S_251 902 Gs).toInt = v_272.toInt := by rw [ev_272]
        have pz_276 : (pI S_251 902 Gs).toInt = v_272.toInt := (congrArg Int32.toInt ev_272).trans rfl
        obtain ⟨v_278, ev_278⟩ : ∃ v, pI S_251 800 s1 = v := ⟨_, rfl⟩
        have t_280 : At S_251 s1 8 := hk_254.fr.at t_217
        have rg_279 := gI_8_800 hO_257.1 t_280; rw [ev_278] at rg_279
        have pz_281 : (pI S_251 800 s1).toInt = v_278.toInt := by rw [ev_278]
        have pz_282 : (pI S_251 800 s1).toInt = v_278.toInt := (congrArg Int32.toInt ev_278).trans rfl
        refine lv_iconst (v := 1) X.1 X.2.1 dX4_tick_62 (by decide) ?_
        have tb_283 : ticB Ev Rl A = (rusF Ev (seaF Ev (wtk A (qtk A + 1))) Rl) := if_pos (i32_eq rfl t0 (by omega))
        have px_284 : PotX S S_22 x R0 R1 R2 Gs := PotX_sx (PotX_rf S x R0 R1 R2 Gs) eS_22 (by decide)
        have ax_286 : ∀ a k, At S a k → At S_22 a k := fun a k h => tAt_sI eS_22 ((fun _ _ h => h) a k h)
        have px_285 : PotX S S_44 x R0 R1 R2 Gs := PotX_tr px_284 ax_286 haR0 haR1 haR2 hx_50
        have ax_288 : ∀ a k, At S a k → At S_44 a k := fun a k h => hk_45.fr.at (ax_286 a k h)
        have px_287 : PotX S S_187 x R0 R1 R2 Gs := PotX_tr px_285 ax_288 haR0 haR1 haR2 hx_195
        have ax_290 : ∀ a k, At S a k → At S_187 a k := fun a k h => hk_190.fr.at (ax_288 a k h)
        have px_289 : PotX S S_251 x R0 R1 R2 Gs := PotX_tr px_287 ax_290 haR0 haR1 haR2 hx_259
        have pz_291 : (pI S_251 902 Gs).toInt = v_272.toInt := (congrArg Int32.toInt ev_272).trans rfl
        have pz_292 : (pI S_251 800 s1).toInt = v_278.toInt := (congrArg Int32.toInt ev_278).trans rfl
        exact ret_gz X hw hr hlocks (by show c_252 ≤ Phc S + 8; omega) (by show n_253 ≤ Phs S + 15019; omega) (by omega) (by omega) (by decide) ⟨hO_257, Or.inl ⟨⟨PotV_of (show (ticF Ev Rl A).1 = (drwF Ev (rusF Ev (seaF Ev (wtk A (qtk A + 1))) Rl)) by rw [ticF_d (by rw [tb_283]; omega) (by rw [tb_283]; exact (fun z => by have e0 := congrArg List.length z; have e1 : ([] : List Nat).length = 0 := rfl; omega)), tb_283]) pv_260 pv_261 pv_262 pv_263 pv_264 (show (pI S_251 902 Gs).toInt = (((qg (drwF Ev (rusF Ev (seaF Ev (wtk A (qtk A + 1))) Rl)))).length : Int) by omega) pv_266 pv_267 (show (pI S_251 800 s1).toInt = (((qsk (drwF Ev (rusF Ev (seaF Ev (wtk A (qtk A + 1))) Rl)))).length : Int) by omega) pv_269 (inD_tic pv_11), px_289, by rw [ticF_d (by rw [tb_283]; omega) (by rw [tb_283]; exact (fun z => by have e0 := congrArg List.length z; have e1 : ([] : List Nat).length = 0 := rfl; omega))]; exact trivial⟩, rfl⟩⟩ dX4_tick_63
      · have z_b_293 := trivial
        have k_294 : v_230.toInt = 0 := z_eq rfl ti_0 c_242
        refine lv_iconst (v := 0) X.1 X.2.1 dX4_tick_55 (by decide) ?_
        have tb_295 : ticB Ev Rl A = (rusF Ev (seaF Ev (wtk A (qtk A + 1))) Rl) := if_pos (i32_eq rfl t0 (by omega))
        have px_296 : PotX S S_22 x R0 R1 R2 Gs := PotX_sx (PotX_rf S x R0 R1 R2 Gs) eS_22 (by decide)
        have ax_298 : ∀ a k, At S a k → At S_22 a k := fun a k h => tAt_sI eS_22 ((fun _ _ h => h) a k h)
        have px_297 : PotX S S_44 x R0 R1 R2 Gs := PotX_tr px_296 ax_298 haR0 haR1 haR2 hx_50
        have ax_300 : ∀ a k, At S a k → At S_44 a k := fun a k h => hk_45.fr.at (ax_298 a k h)
        have px_299 : PotX S S_187 x R0 R1 R2 Gs := PotX_tr px_297 ax_300 haR0 haR1 haR2 hx_195
        have pz_301 : (pI S_187 902 Gs).toInt = v_208.toInt := (congrArg Int32.toInt ev_208).trans rfl
        have pz_302 : (pI S_187 800 s1).toInt = v_215.toInt := (congrArg Int32.toInt ev_215).trans rfl
        exact ret_gz X hw hr hlocks (by show c_188 ≤ Phc S + 8; omega) (by show n_189 ≤ Phs S + 15019; omega) (by omega) (by omega) (by decide) ⟨hO_193, Or.inr ⟨⟨PotV_of (show (ticF Ev Rl A).1 = (rusF Ev (seaF Ev (wtk A (qtk A + 1))) Rl) by rw [ticF_0 (by rw [tb_295]; omega) (by rw [tb_295]; exact (List.eq_nil_of_length_eq_zero (by omega))), tb_295]) pv_196 pv_197 pv_198 pv_199 pv_200 (show (pI S_187 902 Gs).toInt = (((qg (rusF Ev (seaF Ev (wtk A (qtk A + 1))) Rl))).length : Int) by omega) pv_202 pv_203 (show (pI S_187 800 s1).toInt = (((qsk (rusF Ev (seaF Ev (wtk A (qtk A + 1))) Rl))).length : Int) by omega) pv_205 (inD_tic pv_11), px_299, fun h => (by rw [ticF_0 (by rw [tb_295]; omega) (by rw [tb_295]; exact (List.eq_nil_of_length_eq_zero (by omega)))] at h; exact h)⟩, rfl⟩⟩ dX4_tick_56
    · have z_b_303 := trivial
      have k_304 : (qst (rusF Ev (seaF Ev (wtk A (qtk A + 1))) Rl)).toInt > 0 := z_nle rfl ti_0 c_221
      refine lv_aload_n X.1 X.2.1 dX4_tick_33 rfl (lv_at hl 0 rfl) ?_
      refine lv_dup X.1 X.2.1 dX4_tick_34 rfl ?_
      refine r_getI (g := 405) (x := (qst (rusF Ev (seaF Ev (wtk A (qtk A + 1))) Rl))) X hw t_220 rfl 5 pv_199 (by decide) rfl inn_X4_tick_4 (by decide) (X.2.2.2.1 (.fieldLink RX4 66 "SilkMill$Pot" "stop" "I") (by decide +kernel)) rfl (gv_405 _ _) dX4_tick_35 ?_
      refine lv_iconst (v := 1) X.1 X.2.1 dX4_tick_38 (by decide) ?_
      have zh_305 := z_hi (qst (rusF Ev (seaF Ev (wtk A (qtk A + 1))) Rl))
      have zh_306 := z_lo (qst (rusF Ev (seaF Ev (wtk A (qtk A + 1))) Rl))
      refine lv_isub X.1 X.2.1 dX4_tick_39 ?_
      refine lv_topi (fun v_307 ev_307 => ?_)
      have z_308 : v_307.toInt = (qst (rusF Ev (seaF Ev (wtk A (qtk A + 1))) Rl)).toInt - 1 := z_sub ev_307 rfl ti_1 (by omega) (by omega)
      refine r_putI (v := v_307) X hw t_220 rfl 5 405 tyX4 (by decide) rfl inn_X4_tick_4 tyX4_ok nmX4 (by decide) (X.2.2.2.1 (.fieldLink RX4 66 "SilkMill$Pot" "stop" "I") (by decide +kernel)) rfl (Or.inl rfl) rfl rfl (Nat.le_of_ble_eq_true rfl) (st_405 _ _) dX4_tick_40 (fun H locs hw => ?_)
      obtain ⟨S_309, eS_309⟩ : ∃ T, T = sI S_187 405 x (v_307) := ⟨_, rfl⟩
      rw [← eS_309] at hw
      have ph_310 : c_188 + Phc S_309 ≤ Phc S + 0 := by rw [show Phc S_309 = Phc S_187 from Ph_sI eS_309 rfl rfl]; exact ph_191
      have ph_311 : n_189 + Phs S_309 ≤ Phs S + 0 := by rw [show Phs S_309 = Phs S_187 from Ph_sI eS_309 rfl rfl]; exact ph_192
      clear ph_191
      clear ph_192
      have hO_312 : Og eTI S S_309 := hO_193.sI eS_309 (by decide +kernel) (uI_4_405 hO_193.1 t_220)
      have h_313 : pI S_309 405 x = v_307 := tI_sIs eS_309
      refine lv_iconst (v := 0) X.1 X.2.1 dX4_tick_43 (by decide) ?_
      have tb_314 : ticB Ev Rl A = (rusF Ev (seaF Ev (wtk A (qtk A + 1))) Rl) := if_pos (i32_eq rfl t0 (by omega))
      have px_315 : PotX S S_22 x R0 R1 R2 Gs := PotX_sx (PotX_rf S x R0 R1 R2 Gs) eS_22 (by decide)
      have ax_317 : ∀ a k, At S a k → At S_22 a k := fun a k h => tAt_sI eS_22 ((fun _ _ h => h) a k h)
      have px_316 : PotX S S_44 x R0 R1 R2 Gs := PotX_tr px_315 ax_317 haR0 haR1 haR2 hx_50
      have ax_319 : ∀ a k, At S a k → At S_44 a k := fun a k h => hk_45.fr.at (ax_317 a k h)
      have px_318 : PotX S S_187 x R0 R1 R2 Gs := PotX_tr px_316 ax_319 haR0 haR1 haR2 hx_195
      have px_320 : PotX S S_309 x R0 R1 R2 Gs := PotX_sx px_318 eS_309 (by decide)
      have rw_321 : RowIs S_309 R0 (qb (rusF Ev (seaF Ev (wtk A (qtk A + 1))) Rl)) 600 := RowIs_sI pv_196 eS_309 (by decide) (by decide)
      have rw_322 : RowIs S_309 R1 (qe (rusF Ev (seaF Ev (wtk A (qtk A + 1))) Rl)) 12 := RowIs_sI pv_197 eS_309 (by decide) (by decide)
      have rw_323 : RowIs S_309 R2 (ql (rusF Ev (seaF Ev (wtk A (qtk A + 1))) Rl)) 600 := RowIs_sI pv_198 eS_309 (by decide) (by decide)
      have co_324 : CoP S_309 D (qpl (rusF Ev (seaF Ev (wtk A (qtk A + 1))) Rl)) (qsd (rusF Ev (seaF Ev (wtk A (qtk A + 1))) Rl)) := CoP_sI pv_205 eS_309 (by decide) (by decide)
      have t_325 : pI S_309 406 x = (qse (rusF Ev (seaF Ev (wtk A (qtk A + 1))) Rl)) := tI_sI eS_309 rfl pv_200
      have t_326 : pI S_309 902 Gs = v_208 := tI_sI eS_309 rfl ev_208
      have pz_327 : (pI S_309 902 Gs).toInt = v_208.toInt := (congrArg Int32.toInt t_326).trans rfl
      have t_328 : pI S_309 407 x = (qdr (rusF Ev (seaF Ev (wtk A (qtk A + 1))) Rl)) := tI_sI eS_309 rfl pv_202
      have t_329 : pI S_309 408 x = (qtk (rusF Ev (seaF Ev (wtk A (qtk A + 1))) Rl)) := tI_sI eS_309 rfl pv_203
      have t_330 : pI S_309 800 s1 = v_215 := tI_sI eS_309 rfl ev_215
      have pz_331 : (pI S_309 800 s1).toInt = v_215.toInt := (congrArg Int32.toInt t_330).trans rfl
      exact ret_gz X hw hr hlocks (by show c_188 ≤ Phc S + 8; omega) (by show n_189 ≤ Phs S + 15019; omega) (by omega) (by omega) (by decide) ⟨hO_312, Or.inr ⟨⟨PotV_of (show (ticF Ev Rl A).1 = (wst (rusF Ev (seaF Ev (wtk A (qtk A + 1))) Rl) (qst (rusF Ev (seaF Ev (wtk A (qtk A + 1))) Rl) - 1)) by rw [ticF_s (by rw [tb_314]; omega), tb_314]) rw_321 rw_322 rw_323 (h_313.trans ev_307) t_325 (show (pI S_309 902 Gs).toInt = (((qg (rusF Ev (seaF Ev (wtk A (qtk A + 1))) Rl))).length : Int) by omega) t_328 t_329 (show (pI S_309 800 s1).toInt = (((qsk (rusF Ev (seaF Ev (wtk A (qtk A + 1))) Rl))).length : Int) by omega) co_324 (inD_tic pv_11), px_320, fun h => (by rw [ticF_s (by rw [tb_314]; omega)] at h; exact h)⟩, rfl⟩⟩ dX4_tick_44
