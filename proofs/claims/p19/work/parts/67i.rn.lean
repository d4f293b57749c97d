
set_option maxHeartbeats 4000000 in
set_option maxRecDepth 100000 in
theorem k_X4_tick5 (l : Launch) (G : va_G) (cy : Nat → ClassId) (κ : Nat → Nat) (S : PS) (sz hz : Nat) (x : Nat) (s1 : Nat) (D : Nat → Prop) (R0 : Nat) (R1 : Nat) (R2 : Nat) (Gs : Nat) (A : Pt) (Ev : En) (Rl : List Ru) (hG : GX S) (ha_x : At S x 4) (ha_s1 : At S s1 8) (hp_0 : (∀ c, D c → At S c 0)) (hp_1 : PotR S x R0 R1 R2 Gs) (hp_2 : PotV S D x R0 R1 R2 Gs s1 A) (hp_3 : EnC S D x s1 Ev) (hp_4 : RuS S x Rl) : Gi l yX4_tick wsX4_tick ({ frames := 8, cells := Phc S + 8, slots := Phs S + 15019, locals := 384 }) G cy κ S sz hz 0 0 [.ref x, .ref s1] (fun (r : Int32) (S9 : PS) => Og eTI S S9 ∧ (((PotV S9 D x R0 R1 R2 Gs s1 (ticF Ev Rl A).1 ∧ PotX S S9 x R0 R1 R2 Gs ∧ PzT S S9 D Gs s1 A (ticF Ev Rl A).1 ∧ (ticF Ev Rl A).2) ∧ r = 1) ∨ ((PotV S9 D x R0 R1 R2 Gs s1 (ticF Ev Rl A).1 ∧ PotX S S9 x R0 R1 R2 Gs ∧ PzT S S9 D Gs s1 A (ticF Ev Rl A).1 ∧ ¬ (ticF Ev Rl A).2) ∧ r = 0))) := by
  refine ent_g (cc := cX4_tick) (maxL := 2) (ret := (some .boolean)) (by decide) rfl (Nat.le_of_ble_eq_true rfl) ?_
  intro p e s m below meth c ls X hr hlocks hin hw hl hsz hhz
  subst hsz hhz
  have X : Cx p c cX4_tick 2 s [.ref x, .ref s1].toArray wsX4_tick RX4 m G cy κ (AS S s.heap.size) := X
  have hl : lv_has ls 2 [(0, .ref x), (1, .ref s1)] := hl
  have hpc0 : 0 + Phc S ≤ Phc S + 0 := by omega
  have hps0 : 0 + Phs S ≤ Phs S + 0 := by omega
  have hO : Og eTI S S := Og.rf hG
  have hpr := hp_1
  obtain ⟨hr0, hr1, hr2, hr3, hne, hcn⟩ := hpr
  have haR0 := row_at hG ha_x (Or.inl hr0)
  have haR1 := row_at hG ha_x (Or.inr (Or.inl hr1))
  have haR2 := row_at hG ha_x (Or.inr (Or.inr hr2))
  have haGs : At S Gs 29 := by obtain ⟨c, k1, k2⟩ := gQ_4_403 hG ha_x; have h3 := hr3; rw [k1] at h3; cases h3; exact k2
  have hpv := hp_2
  obtain ⟨pv_1, pv_2, pv_3, pv_4, pv_5, pv_6, pv_7, pv_8, pv_9, pv_10, pv_11⟩ := hpv
  obtain ⟨v_12, ev_12⟩ : ∃ v, pI S 902 Gs = v := ⟨_, rfl⟩
  have rg_13 := gI_29_902 hO.1 haGs; rw [ev_12] at rg_13
  have pz_14 : (pI S 902 Gs).toInt = v_12.toInt := by rw [ev_12]
  have pz_15 : (pI S 902 Gs).toInt = v_12.toInt := (congrArg Int32.toInt ev_12).trans rfl
  obtain ⟨v_16, ev_16⟩ : ∃ v, pI S 800 s1 = v := ⟨_, rfl⟩
  have rg_17 := gI_8_800 hO.1 ha_s1; rw [ev_16] at rg_17
  have pz_18 : (pI S 800 s1).toInt = v_16.toInt := by rw [ev_16]
  have pz_19 : (pI S 800 s1).toInt = v_16.toInt := (congrArg Int32.toInt ev_16).trans rfl
  have sl_20 := pv_6.1
  have sl_21 := pv_9.1
  refine lv_aload_n X.1 X.2.1 dX4_tick_0 rfl (lv_at hl 0 rfl) ?_
  refine lv_dup X.1 X.2.1 dX4_tick_1 rfl ?_
  refine r_getI (g := 408) (x := (qtk A)) X hw ha_x rfl 8 pv_8 (by decide) rfl inn_X4_tick_4 (by decide) (X.2.2.2.1 (.fieldLink RX4 60 "SilkMill$Pot" "ticksEver" "I") (by decide +kernel)) rfl (gv_408 _ _) dX4_tick_2 ?_
  refine lv_iconst (v := 1) X.1 X.2.1 dX4_tick_5 (by decide) ?_
  refine lv_iadd X.1 X.2.1 dX4_tick_6 ?_
  refine lv_topi (fun v_22 ev_22 => ?_)
  have rg_23 := And.intro (z_lo v_22) (z_hi v_22)
  refine r_putI (v := v_22) X hw ha_x rfl 8 408 tyX4 (by decide) rfl inn_X4_tick_4 tyX4_ok nmX4 (by decide) (X.2.2.2.1 (.fieldLink RX4 60 "SilkMill$Pot" "ticksEver" "I") (by decide +kernel)) rfl (Or.inl rfl) rfl rfl (Nat.le_of_ble_eq_true rfl) (st_408 _ _) dX4_tick_7 (fun H locs hw => ?_)
  obtain ⟨S_24, eS_24⟩ : ∃ T, T = sI S 408 x (v_22) := ⟨_, rfl⟩
  rw [← eS_24] at hw
  have ph_25 : 0 + Phc S_24 ≤ Phc S + 0 := by rw [show Phc S_24 = Phc S from Ph_sI eS_24 rfl rfl]; exact hpc0
  have ph_26 : 0 + Phs S_24 ≤ Phs S + 0 := by rw [show Phs S_24 = Phs S from Ph_sI eS_24 rfl rfl]; exact hps0
  clear hpc0
  clear hps0
  have hO_27 : Og eTI S S_24 := hO.sI eS_24 (by decide +kernel) (uI_4_408 hO.1 ha_x)
  have h_28 : pI S_24 408 x = v_22 := tI_sIs eS_24
  refine lv_aload_n X.1 X.2.1 dX4_tick_10 rfl (lv_at hl 0 rfl) ?_
  have t_29 : At S_24 x 4 := tAt_sI eS_24 ha_x
  have dt_30 : ∀ c, D c → At S_24 c 0 := fun c h => tAt_sI eS_24 (hp_0 c h)
  have pr_31 : PotR S_24 x R0 R1 R2 Gs := PotR_sI hp_1 eS_24
  have rw_32 : RowIs S_24 R0 (qb A) 600 := RowIs_sI pv_1 eS_24 (by decide) (by decide)
  have rw_33 : RowIs S_24 R1 (qe A) 12 := RowIs_sI pv_2 eS_24 (by decide) (by decide)
  have rw_34 : RowIs S_24 R2 (ql A) 600 := RowIs_sI pv_3 eS_24 (by decide) (by decide)
  have co_35 : CoP S_24 D (qpl A) (qsd A) := CoP_sI pv_10 eS_24 (by decide) (by decide)
  have t_36 : pI S_24 405 x = (qst A) := tI_sI eS_24 rfl pv_4
  have t_37 : pI S_24 406 x = (qse A) := tI_sI eS_24 rfl pv_5
  have sg_38 : StV S_24 D Gs (qg A) := StV_sI pv_6 eS_24 (by decide)
  have t_39 : pI S_24 407 x = (qdr A) := tI_sI eS_24 rfl pv_7
  have sk_40 : SkV S_24 D s1 (qsk A) := SkV_sI hO.1 ha_s1 pv_9 eS_24 (by decide)
  have en_41 : EnC S_24 D x s1 Ev := EnC_sI hp_3 eS_24 (by decide)
  have t_42 : At S_24 s1 8 := tAt_sI eS_24 ha_s1
  refine k_v (rm := { frames := 4, cells := 0, slots := 0, locals := 192 }) (av := [.ref x]) X hw (va_runV (As := []) (rest := []) (cfix X) (k_X4_searchLost5 l G cy κ S_24 _ x D R0 R1 R2 Gs s1 (wtk A (qtk A + 1)) Ev hO_27.1 t_29 dt_30 pr_31 (PotV_of (rfl : (wtk A (qtk A + 1)) = (wtk A (qtk A + 1))) rw_32 rw_33 rw_34 t_36 t_37 sg_38 t_39 (h_28.trans ev_22) sk_40 co_35 pv_11) en_41 t_42) (cwV 0 X.2.2.2.1 gX4_tick_X4_searchLost rfl rfl rfl (by decide +kernel) ⟨Nat.le_of_ble_eq_true rfl, Nat.le_of_ble_eq_true rfl⟩) (pre_V X hw _ t_29 rfl (by decide) rfl) rfl rfl hl.1 rfl (lv_room (Nat.le_of_ble_eq_true rfl)) dX4_tick_11 ⟨(by show 0 + 0 ≤ Phc S + 8; omega), (by show 0 + 0 ≤ Phs S + 15019; omega)⟩) 0 0 (by show 0 + 0 ≤ 0; omega) (by show 0 + 0 ≤ 0; omega) (fun S_44 H locs hp hw hfr hnw => ?_)
  obtain ⟨hk_45, hp⟩ := hp
  have ph_46 : 0 + Phc S_44 ≤ Phc S + 0 := by rw [show Phc S_44 = Phc S_24 from Ph_ok hO_27.1 hk_45 (by decide +kernel) (by decide +kernel) (by decide +kernel)]; exact ph_25
  have ph_47 : 0 + Phs S_44 ≤ Phs S + 0 := by rw [show Phs S_44 = Phs S_24 from Ph_ok hO_27.1 hk_45 (by decide +kernel) (by decide +kernel) (by decide +kernel)]; exact ph_26
  clear ph_25
  clear ph_26
  have hO_48 : Og eTI S S_44 := hO_27.call hk_45.og (by decide +kernel)
  obtain ⟨pv_49, hx_50⟩ := hp
  obtain ⟨pv_51, pv_52, pv_53, pv_54, pv_55, pv_56, pv_57, pv_58, pv_59, pv_60, pv_61⟩ := pv_49
  have t_62 : pI S_24 902 Gs = v_12 := tI_sI eS_24 rfl ev_12
  have t_64 : At S_24 Gs 29 := tAt_sI eS_24 haGs
  have t_63 : pI S_44 902 Gs = v_12 := hk_45.fr.I' (by decide +kernel) t_64 t_62
  have pz_65 : (pI S_44 902 Gs).toInt = v_12.toInt := (congrArg Int32.toInt t_63).trans rfl
  have t_66 : pI S_24 800 s1 = v_16 := tI_sI eS_24 rfl ev_16
  have t_67 : pI S_44 800 s1 = v_16 := hk_45.fr.I' (by decide +kernel) t_42 t_66
  have pz_68 : (pI S_44 800 s1).toInt = v_16.toInt := (congrArg Int32.toInt t_67).trans rfl
  have sl_69 := pv_56.1
  have sl_70 := pv_59.1
  refine lv_aload_n X.1 X.2.1 dX4_tick_14 rfl (lv_at hl 0 rfl) ?_
  have t_71 : At S_44 x 4 := hk_45.fr.at t_29
  refine r_getI (g := 405) (x := (qst (seaF Ev (wtk A (qtk A + 1))))) X hw t_71 rfl 5 pv_54 (by decide) rfl inn_X4_tick_4 (by decide) (X.2.2.2.1 (.fieldLink RX4 66 "SilkMill$Pot" "stop" "I") (by decide +kernel)) rfl (gv_405 _ _) dX4_tick_15 ?_
  refine lv_if_ne (tgt := 26) X.1 X.2.1 dX4_tick_18 (by decide) (fun c_72 => ?_) (fun c_72 => ?_)
  · have z_b_73 := trivial
    have k_74 : (qst (seaF Ev (wtk A (qtk A + 1)))).toInt ≠ 0 := z_ne rfl ti_0 c_72
    refine lv_aload_n X.1 X.2.1 dX4_tick_26 rfl (lv_at hl 0 rfl) ?_
    refine r_getI (g := 405) (x := (qst (seaF Ev (wtk A (qtk A + 1))))) X hw t_71 rfl 5 pv_54 (by decide) rfl inn_X4_tick_4 (by decide) (X.2.2.2.1 (.fieldLink RX4 66 "SilkMill$Pot" "stop" "I") (by decide +kernel)) rfl (gv_405 _ _) dX4_tick_27 ?_
    refine lv_if_le (tgt := 45) X.1 X.2.1 dX4_tick_30 (by decide) (fun c_75 => ?_) (fun c_75 => ?_)
    · have z_b_76 := trivial
      have k_77 : (qst (seaF Ev (wtk A (qtk A + 1)))).toInt ≤ 0 := z_le rfl ti_0 c_75
      refine lv_aload_n X.1 X.2.1 dX4_tick_45 rfl (lv_at hl 0 rfl) ?_
      have t_78 : pR S_24 401 x = some R1 := tR_sI eS_24 hr1
      have t_79 : pR S_44 401 x = some R1 := hk_45.fr.R' (by decide +kernel) t_29 t_78
      refine r_getR (g := 401) X hw t_71 rfl 1 t_79 (by decide) rfl inn_X4_tick_4 (by decide) (X.2.2.2.1 (.fieldLink RX4 20 "SilkMill$Pot" "ends" "LSilkMill$Row;") (by decide +kernel)) rfl (gv_401 _ _) dX4_tick_46 ?_
      have t_80 : At S_24 R1 5 := tAt_sI eS_24 haR1
      have t_81 : At S_44 R1 5 := hk_45.fr.at t_80
      obtain ⟨v_82, ev_82⟩ : ∃ v, pI S_44 500 R1 = v := ⟨_, rfl⟩
      obtain ⟨q_84, n_85, h_86, h_87, h_88, h_89, h_90⟩ := gRowQ hO_48.1 t_81
      have rg_83 := gRow_500 hO_48.1 t_81 h_86 h_88; rw [ev_82] at rg_83
      have pz_91 : (pI S_44 500 R1).toInt = v_82.toInt := by rw [ev_82]
      refine r_getI (g := 500) (x := v_82) X hw t_81 rfl 0 ev_82 (by decide) rfl inn_X4_tick_5 (by decide) (X.2.2.2.1 (.fieldLink RX4 73 "SilkMill$Row" "size" "I") (by decide +kernel)) rfl (gv_500 _ _) dX4_tick_49 ?_
      have sz_92 := RowIs_sz pv_52
      have pz_93 : (pI S_44 500 R1).toInt = v_82.toInt := (congrArg Int32.toInt ev_82).trans rfl
      refine lv_if_ne (tgt := 57) X.1 X.2.1 dX4_tick_52 (by decide) (fun c_94 => ?_) (fun c_94 => ?_)
      · have z_b_95 := trivial
        have k_96 : v_82.toInt ≠ 0 := z_ne rfl ti_0 c_94
        refine lv_aload_n X.1 X.2.1 dX4_tick_57 rfl (lv_at hl 0 rfl) ?_
        refine lv_aload_n X.1 X.2.1 dX4_tick_58 rfl (lv_at hl 1 rfl) ?_
        have t_97 : At S_44 s1 8 := hk_45.fr.at t_42
        have dt_98 : ∀ c, D c → At S_44 c 0 := fun c h => hk_45.fr.at (dt_30 c h)
        have pr_99 : PotR S_44 x R0 R1 R2 Gs := PotR_fr hO_27.1 t_29 hk_45.fr (by decide +kernel) pr_31
        have en_100 : EnC S_44 D x s1 Ev := EnC_fr hk_45.fr dt_30 t_29 t_42 (by decide +kernel) en_41
        refine k_gv (kc := 0) (ks := 0) (rm := { frames := 6, cells := Phc S_44 + 8, slots := Phs S_44 + 15019, locals := 288 }) (av := [.ref x, .ref s1]) X hw (va_runV (As := [.ref s1]) (rest := []) (cfix X) (k_X4_drawMetre5 l G cy κ S_44 _ _ x s1 D R0 R1 R2 Gs (seaF Ev (wtk A (qtk A + 1))) Ev hO_48.1 t_71 t_97 dt_98 pr_99 (PotV_of (rfl : (seaF Ev (wtk A (qtk A + 1))) = (seaF Ev (wtk A (qtk A + 1)))) pv_51 pv_52 pv_53 pv_54 pv_55 pv_56 pv_57 pv_58 pv_59 pv_60 pv_61) en_100) (cwV 1 X.2.2.2.1 gX4_tick_X4_drawMetre rfl rfl rfl (by decide +kernel) ⟨Nat.le_of_ble_eq_true rfl, Nat.le_of_ble_eq_true rfl⟩) (pre_gV X hw _ t_71 rfl (by decide) rfl) rfl rfl hl.1 rfl (lv_room (Nat.le_of_ble_eq_true rfl)) dX4_tick_59 ⟨(by show 0 + (Phc S_44 + 8) ≤ Phc S + 8; omega), (by show 0 + (Phs S_44 + 15019) ≤ Phs S + 15019; omega)⟩) (fun S_102 H locs c_103 n_104 hc_103 hn_104 hp hw => ?_)
        obtain ⟨hk_105, hp⟩ := hp
        have ph_106 : c_103 + Phc S_102 ≤ Phc S + 0 := by omega
        have ph_107 : n_104 + Phs S_102 ≤ Phs S + 0 := by omega
        clear ph_46
        clear ph_47
        clear hc_103
        clear hn_104
        have hO_108 : Og eTI S S_102 := hO_48.call hk_105 (by decide +kernel)
        obtain ⟨pv_109, hx_110, pz_111⟩ := hp
        obtain ⟨pv_112, pv_113, pv_114, pv_115, pv_116, pv_117, pv_118, pv_119, pv_120, pv_121, pv_122⟩ := pv_109
        obtain ⟨v_124, ev_124⟩ : ∃ v, pI S_102 902 Gs = v := ⟨_, rfl⟩
        have t_126 : At S_44 Gs 29 := hk_45.fr.at t_64
        have t_127 : At S_102 Gs 29 := hk_105.fr.at t_126
        have rg_125 := gI_29_902 hO_108.1 t_127; rw [ev_124] at rg_125
        have pz_128 : (pI S_102 902 Gs).toInt = v_124.toInt := by rw [ev_124]
        have pz_129 : (pI S_102 902 Gs).toInt = v_124.toInt := (congrArg Int32.toInt ev_124).trans rfl
        obtain ⟨v_131, ev_131⟩ : ∃ v, pI S_102 800 s1 = v := ⟨_, rfl⟩
        have t_133 : At S_102 s1 8 := hk_105.fr.at t_97
        have rg_132 := gI_8_800 hO_108.1 t_133; rw [ev_131] at rg_132
        have pz_134 : (pI S_102 800 s1).toInt = v_131.toInt := by rw [ev_131]
        have pz_135 : (pI S_102 800 s1).toInt = v_131.toInt := (congrArg Int32.toInt ev_131).trans rfl
        have sl_136 := pv_117.1
        have sl_137 := pv_120.1
        refine lv_iconst (v := 1) X.1 X.2.1 dX4_tick_62 (by decide) ?_
        have tb_138 : ticB Ev Rl A = (seaF Ev (wtk A (qtk A + 1))) := if_neg (i32_ne rfl t0 (by omega))
        have px_139 : PotX S S_24 x R0 R1 R2 Gs := PotX_sx (PotX_rf S x R0 R1 R2 Gs) eS_24 (by decide)
        have ax_141 : ∀ a k, At S a k → At S_24 a k := fun a k h => tAt_sI eS_24 ((fun _ _ h => h) a k h)
        have px_140 : PotX S S_44 x R0 R1 R2 Gs := PotX_tr px_139 ax_141 haR0 haR1 haR2 hx_50
        have ax_143 : ∀ a k, At S a k → At S_44 a k := fun a k h => hk_45.fr.at (ax_141 a k h)
        have px_142 : PotX S S_102 x R0 R1 R2 Gs := PotX_tr px_140 ax_143 haR0 haR1 haR2 hx_110
        have pt_144 : PzT S S_24 D Gs s1 A A := PzT_tr (PzT_rf S D Gs s1 A) (PzT_mv hO.1 haGs ha_s1 (PzF_sI hO.1 ha_s1 eS_24 (by decide)) rfl rfl (fun _ => Nat.le_refl _))
        have pt_145 : PzT S S_44 D Gs s1 A (seaF Ev (wtk A (qtk A + 1))) := PzT_tr pt_144 (PzT_mv hO_27.1 t_64 t_42 (PzF_fr hO_27.1 t_42 hk_45.fr (by decide +kernel)) gs_sea.1 gs_sea.2 (fun c => cn_sea c))
        have t_147 : At S_44 Gs 29 := hk_45.fr.at t_64
        have pt_146 : PzT S S_102 D Gs s1 A (drwF Ev (seaF Ev (wtk A (qtk A + 1)))) := PzT_tr pt_145 pz_111
        exact ret_gz X hw hr hlocks (by show c_103 ≤ Phc S + 8; omega) (by show n_104 ≤ Phs S + 15019; omega) (by omega) (by omega) (by decide) ⟨hO_108, Or.inl ⟨⟨PotV_of (show (ticF Ev Rl A).1 = (drwF Ev (seaF Ev (wtk A (qtk A + 1)))) by rw [ticF_d (by rw [tb_138]; omega) (by rw [tb_138]; exact (fun z => by have e0 := congrArg List.length z; have e1 : ([] : List Nat).length = 0 := rfl; omega)), tb_138]) pv_112 pv_113 pv_114 pv_115 pv_116 pv_117 pv_118 pv_119 pv_120 pv_121 (inD_tic pv_11), px_142, (PzT_e (show (ticF Ev Rl A).1 = (drwF Ev (seaF Ev (wtk A (qtk A + 1)))) by rw [ticF_d (by rw [tb_138]; omega) (by rw [tb_138]; exact (fun z => by have e0 := congrArg List.length z; have e1 : ([] : List Nat).length = 0 := rfl; omega)), tb_138]) pt_146), by rw [ticF_d (by rw [tb_138]; omega) (by rw [tb_138]; exact (fun z => by have e0 := congrArg List.length z; have e1 : ([] : List Nat).length = 0 := rfl; omega))]; exact trivial⟩, rfl⟩⟩ dX4_tick_63
      · have z_b_148 := trivial
        have k_149 : v_82.toInt = 0 := z_eq rfl ti_0 c_94
        refine lv_iconst (v := 0) X.1 X.2.1 dX4_tick_55 (by decide) ?_
        have tb_150 : ticB Ev Rl A = (seaF Ev (wtk A (qtk A + 1))) := if_neg (i32_ne rfl t0 (by omega))
        have px_151 : PotX S S_24 x R0 R1 R2 Gs := PotX_sx (PotX_rf S x R0 R1 R2 Gs) eS_24 (by decide)
        have ax_153 : ∀ a k, At S a k → At S_24 a k := fun a k h => tAt_sI eS_24 ((fun _ _ h => h) a k h)
        have px_152 : PotX S S_44 x R0 R1 R2 Gs := PotX_tr px_151 ax_153 haR0 haR1 haR2 hx_50
        have pt_154 : PzT S S_24 D Gs s1 A A := PzT_tr (PzT_rf S D Gs s1 A) (PzT_mv hO.1 haGs ha_s1 (PzF_sI hO.1 ha_s1 eS_24 (by decide)) rfl rfl (fun _ => Nat.le_refl _))
        have pt_155 : PzT S S_44 D Gs s1 A (seaF Ev (wtk A (qtk A + 1))) := PzT_tr pt_154 (PzT_mv hO_27.1 t_64 t_42 (PzF_fr hO_27.1 t_42 hk_45.fr (by decide +kernel)) gs_sea.1 gs_sea.2 (fun c => cn_sea c))
        exact ret_gz X hw hr hlocks (by show 0 ≤ Phc S + 8; omega) (by show 0 ≤ Phs S + 15019; omega) (by omega) (by omega) (by decide) ⟨hO_48, Or.inr ⟨⟨PotV_of (show (ticF Ev Rl A).1 = (seaF Ev (wtk A (qtk A + 1))) by rw [ticF_0 (by rw [tb_150]; omega) (by rw [tb_150]; exact (List.eq_nil_of_length_eq_zero (by omega))), tb_150]) pv_51 pv_52 pv_53 pv_54 pv_55 pv_56 pv_57 pv_58 pv_59 pv_60 (inD_tic pv_11), px_152, (PzT_e (show (ticF Ev Rl A).1 = (seaF Ev (wtk A (qtk A + 1))) by rw [ticF_0 (by rw [tb_150]; omega) (by rw [tb_150]; exact (List.eq_nil_of_length_eq_zero (by omega))), tb_150]) pt_155), fun h => (by rw [ticF_0 (by rw [tb_150]; omega) (by rw [tb_150]; exact (List.eq_nil_of_length_eq_zero (by omega)))] at h; exact h)⟩, rfl⟩⟩ dX4_tick_56
    · have z_b_156 := trivial
      have k_157 : (qst (seaF Ev (wtk A (qtk A + 1)))).toInt > 0 := z_nle rfl ti_0 c_75
      refine lv_aload_n X.1 X.2.1 dX4_tick_33 rfl (lv_at hl 0 rfl) ?_
      refine lv_dup X.1 X.2.1 dX4_tick_34 rfl ?_
      refine r_getI (g := 405) (x := (qst (seaF Ev (wtk A (qtk A + 1))))) X hw t_71 rfl 5 pv_54 (by decide) rfl inn_X4_tick_4 (by decide) (X.2.2.2.1 (.fieldLink RX4 66 "SilkMill$Pot" "stop" "I") (by decide +kernel)) rfl (gv_405 _ _) dX4_tick_35 ?_
      refine lv_iconst (v := 1) X.1 X.2.1 dX4_tick_38 (by decide) ?_
      have zh_158 := z_hi (qst (seaF Ev (wtk A (qtk A + 1))))
      have zh_159 := z_lo (qst (seaF Ev (wtk A (qtk A + 1))))
      refine lv_isub X.1 X.2.1 dX4_tick_39 ?_
      refine lv_topi (fun v_160 ev_160 => ?_)
      have z_161 : v_160.toInt = (qst (seaF Ev (wtk A (qtk A + 1)))).toInt - 1 := z_sub ev_160 rfl ti_1 (by omega) (by omega)
      refine r_putI (v := v_160) X hw t_71 rfl 5 405 tyX4 (by decide) rfl inn_X4_tick_4 tyX4_ok nmX4 (by decide) (X.2.2.2.1 (.fieldLink RX4 66 "SilkMill$Pot" "stop" "I") (by decide +kernel)) rfl (Or.inl rfl) rfl rfl (Nat.le_of_ble_eq_true rfl) (st_405 _ _) dX4_tick_40 (fun H locs hw => ?_)
      obtain ⟨S_162, eS_162⟩ : ∃ T, T = sI S_44 405 x (v_160) := ⟨_, rfl⟩
      rw [← eS_162] at hw
      have ph_163 : 0 + Phc S_162 ≤ Phc S + 0 := by rw [show Phc S_162 = Phc S_44 from Ph_sI eS_162 rfl rfl]; exact ph_46
      have ph_164 : 0 + Phs S_162 ≤ Phs S + 0 := by rw [show Phs S_162 = Phs S_44 from Ph_sI eS_162 rfl rfl]; exact ph_47
      clear ph_46
      clear ph_47
      have hO_165 : Og eTI S S_162 := hO_48.sI eS_162 (by decide +kernel) (uI_4_405 hO_48.1 t_71)
      have h_166 : pI S_162 405 x = v_160 := tI_sIs eS_162
      refine lv_iconst (v := 0) X.1 X.2.1 dX4_tick_43 (by decide) ?_
      have tb_167 : ticB Ev Rl A = (seaF Ev (wtk A (qtk A + 1))) := if_neg (i32_ne rfl t0 (by omega))
      have px_168 : PotX S S_24 x R0 R1 R2 Gs := PotX_sx (PotX_rf S x R0 R1 R2 Gs) eS_24 (by decide)
      have ax_170 : ∀ a k, At S a k → At S_24 a k := fun a k h => tAt_sI eS_24 ((fun _ _ h => h) a k h)
      have px_169 : PotX S S_44 x R0 R1 R2 Gs := PotX_tr px_168 ax_170 haR0 haR1 haR2 hx_50
      have px_171 : PotX S S_162 x R0 R1 R2 Gs := PotX_sx px_169 eS_162 (by decide)
      have rw_172 : RowIs S_162 R0 (qb (seaF Ev (wtk A (qtk A + 1)))) 600 := RowIs_sI pv_51 eS_162 (by decide) (by decide)
      have rw_173 : RowIs S_162 R1 (qe (seaF Ev (wtk A (qtk A + 1)))) 12 := RowIs_sI pv_52 eS_162 (by decide) (by decide)
      have rw_174 : RowIs S_162 R2 (ql (seaF Ev (wtk A (qtk A + 1)))) 600 := RowIs_sI pv_53 eS_162 (by decide) (by decide)
      have co_175 : CoP S_162 D (qpl (seaF Ev (wtk A (qtk A + 1)))) (qsd (seaF Ev (wtk A (qtk A + 1)))) := CoP_sI pv_60 eS_162 (by decide) (by decide)
      have t_176 : pI S_162 406 x = (qse (seaF Ev (wtk A (qtk A + 1)))) := tI_sI eS_162 rfl pv_55
      have sg_177 : StV S_162 D Gs (qg (seaF Ev (wtk A (qtk A + 1)))) := StV_sI pv_56 eS_162 (by decide)
      have t_178 : pI S_162 407 x = (qdr (seaF Ev (wtk A (qtk A + 1)))) := tI_sI eS_162 rfl pv_57
      have t_179 : pI S_162 408 x = (qtk (seaF Ev (wtk A (qtk A + 1)))) := tI_sI eS_162 rfl pv_58
      have t_181 : At S_44 s1 8 := hk_45.fr.at t_42
      have sk_180 : SkV S_162 D s1 (qsk (seaF Ev (wtk A (qtk A + 1)))) := SkV_sI hO_48.1 t_181 pv_59 eS_162 (by decide)
      have pt_182 : PzT S S_24 D Gs s1 A A := PzT_tr (PzT_rf S D Gs s1 A) (PzT_mv hO.1 haGs ha_s1 (PzF_sI hO.1 ha_s1 eS_24 (by decide)) rfl rfl (fun _ => Nat.le_refl _))
      have pt_183 : PzT S S_44 D Gs s1 A (seaF Ev (wtk A (qtk A + 1))) := PzT_tr pt_182 (PzT_mv hO_27.1 t_64 t_42 (PzF_fr hO_27.1 t_42 hk_45.fr (by decide +kernel)) gs_sea.1 gs_sea.2 (fun c => cn_sea c))
      have t_185 : At S_44 Gs 29 := hk_45.fr.at t_64
      have pt_184 : PzT S S_162 D Gs s1 A (seaF Ev (wtk A (qtk A + 1))) := PzT_tr pt_183 (PzT_mv hO_48.1 t_185 t_181 (PzF_sI hO_48.1 t_181 eS_162 (by decide)) rfl rfl (fun _ => Nat.le_refl _))
      have t_186 : At S_162 Gs 29 := tAt_sI eS_162 t_185
      have t_187 : At S_162 s1 8 := tAt_sI eS_162 t_181
      have pt_188 : PzT S S_162 D Gs s1 A (wst (seaF Ev (wtk A (qtk A + 1))) (qst (seaF Ev (wtk A (qtk A + 1))) - 1)) := PzT_tr pt_184 (PzT_mv hO_165.1 t_186 t_187 (PzF_rf _ _) rfl rfl (fun _ => Nat.le_refl _))
      exact ret_gz X hw hr hlocks (by show 0 ≤ Phc S + 8; omega) (by show 0 ≤ Phs S + 15019; omega) (by omega) (by omega) (by decide) ⟨hO_165, Or.inr ⟨⟨PotV_of (show (ticF Ev Rl A).1 = (wst (seaF Ev (wtk A (qtk A + 1))) (qst (seaF Ev (wtk A (qtk A + 1))) - 1)) by rw [ticF_s (by rw [tb_167]; omega), tb_167]) rw_172 rw_173 rw_174 (h_166.trans ev_160) t_176 sg_177 t_178 t_179 sk_180 co_175 (inD_tic pv_11), px_171, (PzT_e (show (ticF Ev Rl A).1 = (wst (seaF Ev (wtk A (qtk A + 1))) (qst (seaF Ev (wtk A (qtk A + 1))) - 1)) by rw [ticF_s (by rw [tb_167]; omega), tb_167]) pt_188), fun h => (by rw [ticF_s (by rw [tb_167]; omega)] at h; exact h)⟩, rfl⟩⟩ dX4_tick_44
  · have z_b_189 := trivial
    have k_190 : (qst (seaF Ev (wtk A (qtk A + 1)))).toInt = 0 := z_eq rfl ti_0 c_72
    refine lv_aload_n X.1 X.2.1 dX4_tick_21 rfl (lv_at hl 0 rfl) ?_
    refine lv_aload_n X.1 X.2.1 dX4_tick_22 rfl (lv_at hl 1 rfl) ?_
    have t_191 : At S_44 s1 8 := hk_45.fr.at t_42
    have dt_192 : ∀ c, D c → At S_44 c 0 := fun c h => hk_45.fr.at (dt_30 c h)
    have pr_193 : PotR S_44 x R0 R1 R2 Gs := PotR_fr hO_27.1 t_29 hk_45.fr (by decide +kernel) pr_31
    have en_194 : EnC S_44 D x s1 Ev := EnC_fr hk_45.fr dt_30 t_29 t_42 (by decide +kernel) en_41
    have rs_195 : RuS S_24 x Rl := RuS_sI hp_4 eS_24 (by decide)
    have rs_196 : RuS S_44 x Rl := RuS_fr hO_27.1 t_29 hk_45.fr (by decide +kernel) rs_195
    refine k_gv (kc := 0) (ks := 0) (rm := { frames := 7, cells := Phc S_44 + 8, slots := Phs S_44 + 15019, locals := 336 }) (av := [.ref x, .ref s1]) X hw (va_runV (As := [.ref s1]) (rest := []) (cfix X) (k_X4_applyRules5 l G cy κ S_44 _ _ x s1 D R0 R1 R2 Gs (seaF Ev (wtk A (qtk A + 1))) Ev Rl hO_48.1 t_71 t_191 dt_192 pr_193 (PotV_of (rfl : (seaF Ev (wtk A (qtk A + 1))) = (seaF Ev (wtk A (qtk A + 1)))) pv_51 pv_52 pv_53 pv_54 pv_55 pv_56 pv_57 pv_58 pv_59 pv_60 pv_61) en_194 rs_196) (cwV 1 X.2.2.2.1 gX4_tick_X4_applyRules rfl rfl rfl (by decide +kernel) ⟨Nat.le_of_ble_eq_true rfl, Nat.le_of_ble_eq_true rfl⟩) (pre_gV X hw _ t_71 rfl (by decide) rfl) rfl rfl hl.1 rfl (lv_room (Nat.le_of_ble_eq_true rfl)) dX4_tick_23 ⟨(by show 0 + (Phc S_44 + 8) ≤ Phc S + 8; omega), (by show 0 + (Phs S_44 + 15019) ≤ Phs S + 15019; omega)⟩) (fun S_198 H locs c_199 n_200 hc_199 hn_200 hp hw => ?_)
    obtain ⟨hk_201, hp⟩ := hp
    have ph_202 : c_199 + Phc S_198 ≤ Phc S + 0 := by omega
    have ph_203 : n_200 + Phs S_198 ≤ Phs S + 0 := by omega
    clear ph_46
    clear ph_47
    clear hc_199
    clear hn_200
    have hO_204 : Og eTI S S_198 := hO_48.call hk_201 (by decide +kernel)
    obtain ⟨pv_205, hx_206, pz_207⟩ := hp
    obtain ⟨pv_208, pv_209, pv_210, pv_211, pv_212, pv_213, pv_214, pv_215, pv_216, pv_217, pv_218⟩ := pv_205
    obtain ⟨v_220, ev_220⟩ : ∃ v, pI S_198 902 Gs = v := ⟨_, rfl⟩
    have t_222 : At S_44 Gs 29 := hk_45.fr.at t_64
    have t_223 : At S_198 Gs 29 := hk_201.fr.at t_222
    have rg_221 := gI_29_902 hO_204.1 t_223; rw [ev_220] at rg_221
    have pz_224 : (pI S_198 902 Gs).toInt = v_220.toInt := by rw [ev_220]
    have pz_225 : (pI S_198 902 Gs).toInt = v_220.toInt := (congrArg Int32.toInt ev_220).trans rfl
    obtain ⟨v_227, ev_227⟩ : ∃ v, pI S_198 800 s1 = v := ⟨_, rfl⟩
    have t_229 : At S_198 s1 8 := hk_201.fr.at t_191
    have rg_228 := gI_8_800 hO_204.1 t_229; rw [ev_227] at rg_228
    have pz_230 : (pI S_198 800 s1).toInt = v_227.toInt := by rw [ev_227]
    have pz_231 : (pI S_198 800 s1).toInt = v_227.toInt := (congrArg Int32.toInt ev_227).trans rfl
    have sl_232 := pv_213.1
    have sl_233 := pv_216.1
    refine lv_aload_n X.1 X.2.1 dX4_tick_26 rfl (lv_at hl 0 rfl) ?_
    have t_234 : At S_198 x 4 := hk_201.fr.at t_71
    refine r_getI (g := 405) (x := (qst (rusF Ev (seaF Ev (wtk A (qtk A + 1))) Rl))) X hw t_234 rfl 5 pv_211 (by decide) rfl inn_X4_tick_4 (by decide) (X.2.2.2.1 (.fieldLink RX4 66 "SilkMill$Pot" "stop" "I") (by decide +kernel)) rfl (gv_405 _ _) dX4_tick_27 ?_
    refine lv_if_le (tgt := 45) X.1 X.2.1 dX4_tick_30 (by decide) (fun c_235 => ?_) (fun c_235 => ?_)
    · have z_b_236 := trivial
      have k_237 : (qst (rusF Ev (seaF Ev (wtk A (qtk A + 1))) Rl)).toInt ≤ 0 := z_le rfl ti_0 c_235
      refine lv_aload_n X.1 X.2.1 dX4_tick_45 rfl (lv_at hl 0 rfl) ?_
      have t_238 : pR S_24 401 x = some R1 := tR_sI eS_24 hr1
      have t_239 : pR S_44 401 x = some R1 := hk_45.fr.R' (by decide +kernel) t_29 t_238
      have t_240 : pR S_198 401 x = some R1 := hk_201.fr.R' (by decide +kernel) t_71 t_239
      refine r_getR (g := 401) X hw t_234 rfl 1 t_240 (by decide) rfl inn_X4_tick_4 (by decide) (X.2.2.2.1 (.fieldLink RX4 20 "SilkMill$Pot" "ends" "LSilkMill$Row;") (by decide +kernel)) rfl (gv_401 _ _) dX4_tick_46 ?_
      have t_241 : At S_24 R1 5 := tAt_sI eS_24 haR1
      have t_242 : At S_44 R1 5 := hk_45.fr.at t_241
      have t_243 : At S_198 R1 5 := hk_201.fr.at t_242
      obtain ⟨v_244, ev_244⟩ : ∃ v, pI S_198 500 R1 = v := ⟨_, rfl⟩
      obtain ⟨q_246, n_247, h_248, h_249, h_250, h_251, h_252⟩ := gRowQ hO_204.1 t_243
      have rg_245 := gRow_500 hO_204.1 t_243 h_248 h_250; rw [ev_244] at rg_245
      have pz_253 : (pI S_198 500 R1).toInt = v_244.toInt := by rw [ev_244]
      refine r_getI (g := 500) (x := v_244) X hw t_243 rfl 0 ev_244 (by decide) rfl inn_X4_tick_5 (by decide) (X.2.2.2.1 (.fieldLink RX4 73 "SilkMill$Row" "size" "I") (by decide +kernel)) rfl (gv_500 _ _) dX4_tick_49 ?_
      have sz_254 := RowIs_sz pv_209
      have pz_255 : (pI S_198 500 R1).toInt = v_244.toInt := (congrArg Int32.toInt ev_244).trans rfl
      refine lv_if_ne (tgt := 57) X.1 X.2.1 dX4_tick_52 (by decide) (fun c_256 => ?_) (fun c_256 => ?_)
      · have z_b_257 := trivial
        have k_258 : v_244.toInt ≠ 0 := z_ne rfl ti_0 c_256
        refine lv_aload_n X.1 X.2.1 dX4_tick_57 rfl (lv_at hl 0 rfl) ?_
        refine lv_aload_n X.1 X.2.1 dX4_tick_58 rfl (lv_at hl 1 rfl) ?_
        have dt_259 : ∀ c, D c → At S_198 c 0 := fun c h => hk_201.fr.at (dt_192 c h)
        have pr_260 : PotR S_198 x R0 R1 R2 Gs := PotR_fr hO_48.1 t_71 hk_201.fr (by decide +kernel) pr_193
        have en_261 : EnC S_198 D x s1 Ev := EnC_fr hk_201.fr dt_192 t_71 t_191 (by decide +kernel) en_194
        refine k_gv (kc := 0) (ks := 0) (rm := { frames := 6, cells := Phc S_198 + 8, slots := Phs S_198 + 15019, locals := 288 }) (av := [.ref x, .ref s1]) X hw (va_runV (As := [.ref s1]) (rest := []) (cfix X) (k_X4_drawMetre5 l G cy κ S_198 _ _ x s1 D R0 R1 R2 Gs (rusF Ev (seaF Ev (wtk A (qtk A + 1))) Rl) Ev hO_204.1 t_234 t_229 dt_259 pr_260 (PotV_of (rfl : (rusF Ev (seaF Ev (wtk A (qtk A + 1))) Rl) = (rusF Ev (seaF Ev (wtk A (qtk A + 1))) Rl)) pv_208 pv_209 pv_210 pv_211 pv_212 pv_213 pv_214 pv_215 pv_216 pv_217 pv_218) en_261) (cwV 1 X.2.2.2.1 gX4_tick_X4_drawMetre rfl rfl rfl (by decide +kernel) ⟨Nat.le_of_ble_eq_true rfl, Nat.le_of_ble_eq_true rfl⟩) (pre_gV X hw _ t_234 rfl (by decide) rfl) rfl rfl hl.1 rfl (lv_room (Nat.le_of_ble_eq_true rfl)) dX4_tick_59 ⟨(by show c_199 + (Phc S_198 + 8) ≤ Phc S + 8; omega), (by show n_200 + (Phs S_198 + 15019) ≤ Phs S + 15019; omega)⟩) (fun S_263 H locs c_264 n_265 hc_264 hn_265 hp hw => ?_)
        obtain ⟨hk_266, hp⟩ := hp
        have ph_267 : c_264 + Phc S_263 ≤ Phc S + 0 := by omega
        have ph_268 : n_265 + Phs S_263 ≤ Phs S + 0 := by omega
        clear ph_202
        clear ph_203
        clear hc_264
        clear hn_265
        have hO_269 : Og eTI S S_263 := hO_204.call hk_266 (by decide +kernel)
        obtain ⟨pv_270, hx_271, pz_272⟩ := hp
        obtain ⟨pv_273, pv_274, pv_275, pv_276, pv_277, pv_278, pv_279, pv_280, pv_281, pv_282, pv_283⟩ := pv_270
        obtain ⟨v_285, ev_285⟩ : ∃ v, pI S_263 902 Gs = v := ⟨_, rfl⟩
        have t_287 : At S_263 Gs 29 := hk_266.fr.at t_223
        have rg_286 := gI_29_902 hO_269.1 t_287; rw [ev_285] at rg_286
        have pz_288 : (pI S_263 902 Gs).toInt = v_285.toInt := by rw [ev_285]
        have pz_289 : (pI S_263 902 Gs).toInt = v_285.toInt := (congrArg Int32.toInt ev_285).trans rfl
        obtain ⟨v_291, ev_291⟩ : ∃ v, pI S_263 800 s1 = v := ⟨_, rfl⟩
        have t_293 : At S_263 s1 8 := hk_266.fr.at t_229
        have rg_292 := gI_8_800 hO_269.1 t_293; rw [ev_291] at rg_292
        have pz_294 : (pI S_263 800 s1).toInt = v_291.toInt := by rw [ev_291]
        have pz_295 : (pI S_263 800 s1).toInt = v_291.toInt := (congrArg Int32.toInt ev_291).trans rfl
        have sl_296 := pv_278.1
        have sl_297 := pv_281.1
        refine lv_iconst (v := 1) X.1 X.2.1 dX4_tick_62 (by decide) ?_
        have tb_298 : ticB Ev Rl A = (rusF Ev (seaF Ev (wtk A (qtk A + 1))) Rl) := if_pos (i32_eq rfl t0 (by omega))
        have px_299 : PotX S S_24 x R0 R1 R2 Gs := PotX_sx (PotX_rf S x R0 R1 R2 Gs) eS_24 (by decide)
        have ax_301 : ∀ a k, At S a k → At S_24 a k := fun a k h => tAt_sI eS_24 ((fun _ _ h => h) a k h)
        have px_300 : PotX S S_44 x R0 R1 R2 Gs := PotX_tr px_299 ax_301 haR0 haR1 haR2 hx_50
        have ax_303 : ∀ a k, At S a k → At S_44 a k := fun a k h => hk_45.fr.at (ax_301 a k h)
        have px_302 : PotX S S_198 x R0 R1 R2 Gs := PotX_tr px_300 ax_303 haR0 haR1 haR2 hx_206
        have ax_305 : ∀ a k, At S a k → At S_198 a k := fun a k h => hk_201.fr.at (ax_303 a k h)
        have px_304 : PotX S S_263 x R0 R1 R2 Gs := PotX_tr px_302 ax_305 haR0 haR1 haR2 hx_271
        have pt_306 : PzT S S_24 D Gs s1 A A := PzT_tr (PzT_rf S D Gs s1 A) (PzT_mv hO.1 haGs ha_s1 (PzF_sI hO.1 ha_s1 eS_24 (by decide)) rfl rfl (fun _ => Nat.le_refl _))
        have pt_307 : PzT S S_44 D Gs s1 A (seaF Ev (wtk A (qtk A + 1))) := PzT_tr pt_306 (PzT_mv hO_27.1 t_64 t_42 (PzF_fr hO_27.1 t_42 hk_45.fr (by decide +kernel)) gs_sea.1 gs_sea.2 (fun c => cn_sea c))
        have t_309 : At S_44 Gs 29 := hk_45.fr.at t_64
        have pt_308 : PzT S S_198 D Gs s1 A (rusF Ev (seaF Ev (wtk A (qtk A + 1))) Rl) := PzT_tr pt_307 pz_207
        have pt_310 : PzT S S_263 D Gs s1 A (drwF Ev (rusF Ev (seaF Ev (wtk A (qtk A + 1))) Rl)) := PzT_tr pt_308 pz_272
        exact ret_gz X hw hr hlocks (by show c_264 ≤ Phc S + 8; omega) (by show n_265 ≤ Phs S + 15019; omega) (by omega) (by omega) (by decide) ⟨hO_269, Or.inl ⟨⟨PotV_of (show (ticF Ev Rl A).1 = (drwF Ev (rusF Ev (seaF Ev (wtk A (qtk A + 1))) Rl)) by rw [ticF_d (by rw [tb_298]; omega) (by rw [tb_298]; exact (fun z => by have e0 := congrArg List.length z; have e1 : ([] : List Nat).length = 0 := rfl; omega)), tb_298]) pv_273 pv_274 pv_275 pv_276 pv_277 pv_278 pv_279 pv_280 pv_281 pv_282 (inD_tic pv_11), px_304, (PzT_e (show (ticF Ev Rl A).1 = (drwF Ev (rusF Ev (seaF Ev (wtk A (qtk A + 1))) Rl)) by rw [ticF_d (by rw [tb_298]; omega) (by rw [tb_298]; exact (fun z => by have e0 := congrArg List.length z; have e1 : ([] : List Nat).length = 0 := rfl; omega)), tb_298]) pt_310), by rw [ticF_d (by rw [tb_298]; omega) (by rw [tb_298]; exact (fun z => by have e0 := congrArg List.length z; have e1 : ([] : List Nat).length = 0 := rfl; omega))]; exact trivial⟩, rfl⟩⟩ dX4_tick_63
      · have z_b_311 := trivial
        have k_312 : v_244.toInt = 0 := z_eq rfl ti_0 c_256
        refine lv_iconst (v := 0) X.1 X.2.1 dX4_tick_55 (by decide) ?_
        have tb_313 : ticB Ev Rl A = (rusF Ev (seaF Ev (wtk A (qtk A + 1))) Rl) := if_pos (i32_eq rfl t0 (by omega))
        have px_314 : PotX S S_24 x R0 R1 R2 Gs := PotX_sx (PotX_rf S x R0 R1 R2 Gs) eS_24 (by decide)
        have ax_316 : ∀ a k, At S a k → At S_24 a k := fun a k h => tAt_sI eS_24 ((fun _ _ h => h) a k h)
        have px_315 : PotX S S_44 x R0 R1 R2 Gs := PotX_tr px_314 ax_316 haR0 haR1 haR2 hx_50
        have ax_318 : ∀ a k, At S a k → At S_44 a k := fun a k h => hk_45.fr.at (ax_316 a k h)
        have px_317 : PotX S S_198 x R0 R1 R2 Gs := PotX_tr px_315 ax_318 haR0 haR1 haR2 hx_206
        have pt_319 : PzT S S_24 D Gs s1 A A := PzT_tr (PzT_rf S D Gs s1 A) (PzT_mv hO.1 haGs ha_s1 (PzF_sI hO.1 ha_s1 eS_24 (by decide)) rfl rfl (fun _ => Nat.le_refl _))
        have pt_320 : PzT S S_44 D Gs s1 A (seaF Ev (wtk A (qtk A + 1))) := PzT_tr pt_319 (PzT_mv hO_27.1 t_64 t_42 (PzF_fr hO_27.1 t_42 hk_45.fr (by decide +kernel)) gs_sea.1 gs_sea.2 (fun c => cn_sea c))
        have t_322 : At S_44 Gs 29 := hk_45.fr.at t_64
        have pt_321 : PzT S S_198 D Gs s1 A (rusF Ev (seaF Ev (wtk A (qtk A + 1))) Rl) := PzT_tr pt_320 pz_207
        exact ret_gz X hw hr hlocks (by show c_199 ≤ Phc S + 8; omega) (by show n_200 ≤ Phs S + 15019; omega) (by omega) (by omega) (by decide) ⟨hO_204, Or.inr ⟨⟨PotV_of (show (ticF Ev Rl A).1 = (rusF Ev (seaF Ev (wtk A (qtk A + 1))) Rl) by rw [ticF_0 (by rw [tb_313]; omega) (by rw [tb_313]; exact (List.eq_nil_of_length_eq_zero (by omega))), tb_313]) pv_208 pv_209 pv_210 pv_211 pv_212 pv_213 pv_214 pv_215 pv_216 pv_217 (inD_tic pv_11), px_317, (PzT_e (show (ticF Ev Rl A).1 = (rusF Ev (seaF Ev (wtk A (qtk A + 1))) Rl) by rw [ticF_0 (by rw [tb_313]; omega) (by rw [tb_313]; exact (List.eq_nil_of_length_eq_zero (by omega))), tb_313]) pt_321), fun h => (by rw [ticF_0 (by rw [tb_313]; omega) (by rw [tb_313]; exact (List.eq_nil_of_length_eq_zero (by omega)))] at h; exact h)⟩, rfl⟩⟩ dX4_tick_56
    · have z_b_323 := trivial
      have k_324 : (qst (rusF Ev (seaF Ev (wtk A (qtk A + 1))) Rl)).toInt > 0 := z_nle rfl ti_0 c_235
      refine lv_aload_n X.1 X.2.1 dX4_tick_33 rfl (lv_at hl 0 rfl) ?_
      refine lv_dup X.1 X.2.1 dX4_tick_34 rfl ?_
      refine r_getI (g := 405) (x := (qst (rusF Ev (seaF Ev (wtk A (qtk A + 1))) Rl))) X hw t_234 rfl 5 pv_211 (by decide) rfl inn_X4_tick_4 (by decide) (X.2.2.2.1 (.fieldLink RX4 66 "SilkMill$Pot" "stop" "I") (by decide +kernel)) rfl (gv_405 _ _) dX4_tick_35 ?_
      refine lv_iconst (v := 1) X.1 X.2.1 dX4_tick_38 (by decide) ?_
      have zh_325 := z_hi (qst (rusF Ev (seaF Ev (wtk A (qtk A + 1))) Rl))
      have zh_326 := z_lo (qst (rusF Ev (seaF Ev (wtk A (qtk A + 1))) Rl))
      refine lv_isub X.1 X.2.1 dX4_tick_39 ?_
      refine lv_topi (fun v_327 ev_327 => ?_)
      have z_328 : v_327.toInt = (qst (rusF Ev (seaF Ev (wtk A (qtk A + 1))) Rl)).toInt - 1 := z_sub ev_327 rfl ti_1 (by omega) (by omega)
      refine r_putI (v := v_327) X hw t_234 rfl 5 405 tyX4 (by decide) rfl inn_X4_tick_4 tyX4_ok nmX4 (by decide) (X.2.2.2.1 (.fieldLink RX4 66 "SilkMill$Pot" "stop" "I") (by decide +kernel)) rfl (Or.inl rfl) rfl rfl (Nat.le_of_ble_eq_true rfl) (st_405 _ _) dX4_tick_40 (fun H locs hw => ?_)
      obtain ⟨S_329, eS_329⟩ : ∃ T, T = sI S_198 405 x (v_327) := ⟨_, rfl⟩
      rw [← eS_329] at hw
      have ph_330 : c_199 + Phc S_329 ≤ Phc S + 0 := by rw [show Phc S_329 = Phc S_198 from Ph_sI eS_329 rfl rfl]; exact ph_202
      have ph_331 : n_200 + Phs S_329 ≤ Phs S + 0 := by rw [show Phs S_329 = Phs S_198 from Ph_sI eS_329 rfl rfl]; exact ph_203
      clear ph_202
      clear ph_203
      have hO_332 : Og eTI S S_329 := hO_204.sI eS_329 (by decide +kernel) (uI_4_405 hO_204.1 t_234)
      have h_333 : pI S_329 405 x = v_327 := tI_sIs eS_329
      refine lv_iconst (v := 0) X.1 X.2.1 dX4_tick_43 (by decide) ?_
      have tb_334 : ticB Ev Rl A = (rusF Ev (seaF Ev (wtk A (qtk A + 1))) Rl) := if_pos (i32_eq rfl t0 (by omega))
      have px_335 : PotX S S_24 x R0 R1 R2 Gs := PotX_sx (PotX_rf S x R0 R1 R2 Gs) eS_24 (by decide)
      have ax_337 : ∀ a k, At S a k → At S_24 a k := fun a k h => tAt_sI eS_24 ((fun _ _ h => h) a k h)
      have px_336 : PotX S S_44 x R0 R1 R2 Gs := PotX_tr px_335 ax_337 haR0 haR1 haR2 hx_50
      have ax_339 : ∀ a k, At S a k → At S_44 a k := fun a k h => hk_45.fr.at (ax_337 a k h)
      have px_338 : PotX S S_198 x R0 R1 R2 Gs := PotX_tr px_336 ax_339 haR0 haR1 haR2 hx_206
      have px_340 : PotX S S_329 x R0 R1 R2 Gs := PotX_sx px_338 eS_329 (by decide)
      have rw_341 : RowIs S_329 R0 (qb (rusF Ev (seaF Ev (wtk A (qtk A + 1))) Rl)) 600 := RowIs_sI pv_208 eS_329 (by decide) (by decide)
      have rw_342 : RowIs S_329 R1 (qe (rusF Ev (seaF Ev (wtk A (qtk A + 1))) Rl)) 12 := RowIs_sI pv_209 eS_329 (by decide) (by decide)
      have rw_343 : RowIs S_329 R2 (ql (rusF Ev (seaF Ev (wtk A (qtk A + 1))) Rl)) 600 := RowIs_sI pv_210 eS_329 (by decide) (by decide)
      have co_344 : CoP S_329 D (qpl (rusF Ev (seaF Ev (wtk A (qtk A + 1))) Rl)) (qsd (rusF Ev (seaF Ev (wtk A (qtk A + 1))) Rl)) := CoP_sI pv_217 eS_329 (by decide) (by decide)
      have t_345 : pI S_329 406 x = (qse (rusF Ev (seaF Ev (wtk A (qtk A + 1))) Rl)) := tI_sI eS_329 rfl pv_212
      have sg_346 : StV S_329 D Gs (qg (rusF Ev (seaF Ev (wtk A (qtk A + 1))) Rl)) := StV_sI pv_213 eS_329 (by decide)
      have t_347 : pI S_329 407 x = (qdr (rusF Ev (seaF Ev (wtk A (qtk A + 1))) Rl)) := tI_sI eS_329 rfl pv_214
      have t_348 : pI S_329 408 x = (qtk (rusF Ev (seaF Ev (wtk A (qtk A + 1))) Rl)) := tI_sI eS_329 rfl pv_215
      have sk_349 : SkV S_329 D s1 (qsk (rusF Ev (seaF Ev (wtk A (qtk A + 1))) Rl)) := SkV_sI hO_204.1 t_229 pv_216 eS_329 (by decide)
      have pt_350 : PzT S S_24 D Gs s1 A A := PzT_tr (PzT_rf S D Gs s1 A) (PzT_mv hO.1 haGs ha_s1 (PzF_sI hO.1 ha_s1 eS_24 (by decide)) rfl rfl (fun _ => Nat.le_refl _))
      have pt_351 : PzT S S_44 D Gs s1 A (seaF Ev (wtk A (qtk A + 1))) := PzT_tr pt_350 (PzT_mv hO_27.1 t_64 t_42 (PzF_fr hO_27.1 t_42 hk_45.fr (by decide +kernel)) gs_sea.1 gs_sea.2 (fun c => cn_sea c))
      have t_353 : At S_44 Gs 29 := hk_45.fr.at t_64
      have pt_352 : PzT S S_198 D Gs s1 A (rusF Ev (seaF Ev (wtk A (qtk A + 1))) Rl) := PzT_tr pt_351 pz_207
      have pt_354 : PzT S S_329 D Gs s1 A (rusF Ev (seaF Ev (wtk A (qtk A + 1))) Rl) := PzT_tr pt_352 (PzT_mv hO_204.1 t_223 t_229 (PzF_sI hO_204.1 t_229 eS_329 (by decide)) rfl rfl (fun _ => Nat.le_refl _))
      have t_355 : At S_329 Gs 29 := tAt_sI eS_329 t_223
      have t_356 : At S_329 s1 8 := tAt_sI eS_329 t_229
      have pt_357 : PzT S S_329 D Gs s1 A (wst (rusF Ev (seaF Ev (wtk A (qtk A + 1))) Rl) (qst (rusF Ev (seaF Ev (wtk A (qtk A + 1))) Rl) - 1)) := PzT_tr pt_354 (PzT_mv hO_332.1 t_355 t_356 (PzF_rf _ _) rfl rfl (fun _ => Nat.le_refl _))
      exact ret_gz X hw hr hlocks (by show c_199 ≤ Phc S + 8; omega) (by show n_200 ≤ Phs S + 15019; omega) (by omega) (by omega) (by decide) ⟨hO_332, Or.inr ⟨⟨PotV_of (show (ticF Ev Rl A).1 = (wst (rusF Ev (seaF Ev (wtk A (qtk A + 1))) Rl) (qst (rusF Ev (seaF Ev (wtk A (qtk A + 1))) Rl) - 1)) by rw [ticF_s (by rw [tb_334]; omega), tb_334]) rw_341 rw_342 rw_343 (h_333.trans ev_327) t_345 sg_346 t_347 t_348 sk_349 co_344 (inD_tic pv_11), px_340, (PzT_e (show (ticF Ev Rl A).1 = (wst (rusF Ev (seaF Ev (wtk A (qtk A + 1))) Rl) (qst (rusF Ev (seaF Ev (wtk A (qtk A + 1))) Rl) - 1)) by rw [ticF_s (by rw [tb_334]; omega), tb_334]) pt_357), fun h => (by rw [ticF_s (by rw [tb_334]; omega)] at h; exact h)⟩, rfl⟩⟩ dX4_tick_44
