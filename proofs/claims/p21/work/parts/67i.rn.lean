
set_option maxHeartbeats 4000000 in
set_option maxRecDepth 100000 in
theorem k_X4_tick5 (l : Launch) (G : va_G) (cy : Nat → ClassId) (κ : Nat → Nat) (S : PS) (sz hz : Nat) (x : Nat) (s1 : Nat) (D : Nat → Prop) (R0 : Nat) (R1 : Nat) (R2 : Nat) (Gs : Nat) (A : Pt) (Ev : En) (Rl : List Ru) (hG : GX S) (ha_x : At S x 4) (ha_s1 : At S s1 8) (hp_0 : (∀ c, D c → At S c 0)) (hp_1 : PotR S x R0 R1 R2 Gs) (hp_2 : PotV S D x R0 R1 R2 Gs s1 A) (hp_3 : EnC S D x s1 Ev) (hp_4 : RuS S x Rl) : Gi l yX4_tick wsX4_tick ({ frames := 8, cells := Phc S + 8, slots := Phs S + 15019, locals := 384 }) G cy κ S sz hz 0 0 [.ref x, .ref s1] (fun (r : Int32) (S9 : PS) => Og eTI S S9 ∧ (((PotV S9 D x R0 R1 R2 Gs s1 (ticF Ev Rl A).1 ∧ PotX S S9 x R0 R1 R2 Gs ∧ (ticF Ev Rl A).2) ∧ r = 1) ∨ ((PotV S9 D x R0 R1 R2 Gs s1 (ticF Ev Rl A).1 ∧ PotX S S9 x R0 R1 R2 Gs ∧ ¬ (ticF Ev Rl A).2) ∧ r = 0))) := by
  refine ent_g (cc := cX4_tick) (maxL := 2) (ret := (some .boolean)) (by decide) rfl (Nat.le_of_ble_eq_true rfl) ?_
  intro p e s m below meth c ls X hr hlocks hin hw hl hsz hhz
  subst hsz hhz
  have X : Cx p c cX4_tick 2 s [.ref x, .ref s1].toArray wsX4_tick RX4 m G cy κ (AS S s.heap.size) := X
  have hl : lv_has ls 2 [(0, .ref x), (1, .ref s1)] := hl
  have hpc0 : 0 + Phc S ≤ Phc S + 0 := by omega
  have hps0 : 0 + Phs S ≤ Phs S + 0 := by omega
  have hO : Og eTI S S := Og.rf hG
  have hpr := hp_1
  obtain ⟨hr0, hr1, hr2, hr3, hne, hcn⟩ := hpr
  have haR0 := row_at hG ha_x (Or.inl hr0)
  have haR1 := row_at hG ha_x (Or.inr (Or.inl hr1))
  have haR2 := row_at hG ha_x (Or.inr (Or.inr hr2))
  have haGs : At S Gs 29 := by obtain ⟨c, k1, k2⟩ := gQ_4_403 hG ha_x; have h3 := hr3; rw [k1] at h3; cases h3; exact k2
  have hpv := hp_2
  obtain ⟨pv_1, pv_2, pv_3, pv_4, pv_5, pv_6, pv_7, pv_8, pv_9, pv_10, pv_11⟩ := hpv
  obtain ⟨v_12, ev_12⟩ : ∃ v, pI S 902 Gs = v := ⟨_, rfl⟩
  have rg_13 := gI_29_902 hO.1 haGs; rw [ev_12] at rg_13
  have pz_14 : (pI S 902 Gs).toInt = v_12.toInt := by rw [ev_12]
  have pz_15 : (pI S 902 Gs).toInt = v_12.toInt := (congrArg Int32.toInt ev_12).trans rfl
  obtain ⟨v_16, ev_16⟩ : ∃ v, pI S 800 s1 = v := ⟨_, rfl⟩
  have rg_17 := gI_8_800 hO.1 ha_s1; rw [ev_16] at rg_17
  have pz_18 : (pI S 800 s1).toInt = v_16.toInt := by rw [ev_16]
  have pz_19 : (pI S 800 s1).toInt = v_16.toInt := (congrArg Int32.toInt ev_16).trans rfl
  have sl_20 := pv_6.1
  have sl_21 := pv_9.1
  refine lv_aload_n X.1 X.2.1 dX4_tick_0 rfl (lv_at hl 0 rfl) ?_
  refine lv_dup X.1 X.2.1 dX4_tick_1 rfl ?_
  refine r_getI (g := 408) (x := (qtk A)) X hw ha_x rfl 8 pv_8 (by decide) rfl inn_X4_tick_4 (by decide) (X.2.2.2.1 (.fieldLink RX4 60 "SilkMill$Pot" "ticksEver" "I") (by decide +kernel)) rfl (gv_408 _ _) dX4_tick_2 ?_
  refine lv_iconst (v := 1) X.1 X.2.1 dX4_tick_5 (by decide) ?_
  refine lv_iadd X.1 X.2.1 dX4_tick_6 ?_
  refine lv_topi (fun v_22 ev_22 => ?_)
  have rg_23 := And.intro (z_lo v_22) (z_hi v_22)
  refine r_putI (v := v_22) X hw ha_x rfl 8 408 tyX4 (by decide) rfl inn_X4_tick_4 tyX4_ok nmX4 (by decide) (X.2.2.2.1 (.fieldLink RX4 60 "SilkMill$Pot" "ticksEver" "I") (by decide +kernel)) rfl (Or.inl rfl) rfl rfl (Nat.le_of_ble_eq_true rfl) (st_408 _ _) dX4_tick_7 (fun H locs hw => ?_)
  obtain ⟨S_24, eS_24⟩ : ∃ T, T = sI S 408 x (v_22) := ⟨_, rfl⟩
  rw [← eS_24] at hw
  have ph_25 : 0 + Phc S_24 ≤ Phc S + 0 := by rw [show Phc S_24 = Phc S from Ph_sI eS_24 rfl rfl]; exact hpc0
  have ph_26 : 0 + Phs S_24 ≤ Phs S + 0 := by rw [show Phs S_24 = Phs S from Ph_sI eS_24 rfl rfl]; exact hps0
  clear hpc0
  clear hps0
  have hO_27 : Og eTI S S_24 := hO.sI eS_24 (by decide +kernel) (uI_4_408 hO.1 ha_x)
  have h_28 : pI S_24 408 x = v_22 := tI_sIs eS_24
  refine lv_aload_n X.1 X.2.1 dX4_tick_10 rfl (lv_at hl 0 rfl) ?_
  have t_29 : At S_24 x 4 := tAt_sI eS_24 ha_x
  have dt_30 : ∀ c, D c → At S_24 c 0 := fun c h => tAt_sI eS_24 (hp_0 c h)
  have pr_31 : PotR S_24 x R0 R1 R2 Gs := PotR_sI hp_1 eS_24
  have rw_32 : RowIs S_24 R0 (qb A) 600 := RowIs_sI pv_1 eS_24 (by decide) (by decide)
  have rw_33 : RowIs S_24 R1 (qe A) 12 := RowIs_sI pv_2 eS_24 (by decide) (by decide)
  have rw_34 : RowIs S_24 R2 (ql A) 600 := RowIs_sI pv_3 eS_24 (by decide) (by decide)
  have co_35 : CoP S_24 D (qpl A) (qsd A) := CoP_sI pv_10 eS_24 (by decide) (by decide)
  have t_36 : pI S_24 405 x = (qst A) := tI_sI eS_24 rfl pv_4
  have t_37 : pI S_24 406 x = (qse A) := tI_sI eS_24 rfl pv_5
  have sg_38 : StV S_24 D Gs (qg A) := StV_sI pv_6 eS_24 (by decide)
  have t_39 : pI S_24 407 x = (qdr A) := tI_sI eS_24 rfl pv_7
  have sk_40 : SkV S_24 D s1 (qsk A) := SkV_sI hO.1 ha_s1 pv_9 eS_24 (by decide)
  have en_41 : EnC S_24 D x s1 Ev := EnC_sI hp_3 eS_24 (by decide)
  have t_42 : At S_24 s1 8 := tAt_sI eS_24 ha_s1
  refine k_v (rm := { frames := 4, cells := 0, slots := 0, locals := 192 }) (av := [.ref x]) X hw (va_runV (As := []) (rest := []) (cfix X) (k_X4_searchLost5 l G cy κ S_24 _ x D R0 R1 R2 Gs s1 (wtk A (qtk A + 1)) Ev hO_27.1 t_29 dt_30 pr_31 (PotV_of (rfl : (wtk A (qtk A + 1)) = (wtk A (qtk A + 1))) rw_32 rw_33 rw_34 t_36 t_37 sg_38 t_39 (h_28.trans ev_22) sk_40 co_35 pv_11) en_41 t_42) (cwV 0 X.2.2.2.1 gX4_tick_X4_searchLost rfl rfl rfl (by decide +kernel) ⟨Nat.le_of_ble_eq_true rfl, Nat.le_of_ble_eq_true rfl⟩) (pre_V X hw _ t_29 rfl (by decide) rfl) rfl rfl hl.1 rfl (lv_room (Nat.le_of_ble_eq_true rfl)) dX4_tick_11 ⟨(by show 0 + 0 ≤ Phc S + 8; omega), (by show 0 + 0 ≤ Phs S + 15019; omega)⟩) 0 0 (by show 0 + 0 ≤ 0; omega) (by show 0 + 0 ≤ 0; omega) (fun S_44 H locs hp hw hfr hnw => ?_)
  obtain ⟨hk_45, hp⟩ := hp
  have ph_46 : 0 + Phc S_44 ≤ Phc S + 0 := by rw [show Phc S_44 = Phc S_24 from Ph_ok hO_27.1 hk_45 (by decide +kernel) (by decide +kernel) (by decide +kernel)]; exact ph_25
  have ph_47 : 0 + Phs S_44 ≤ Phs S + 0 := by rw [show Phs S_44 = Phs S_24 from Ph_ok hO_27.1 hk_45 (by decide +kernel) (by decide +kernel) (by decide +kernel)]; exact ph_26
  clear ph_25
  clear ph_26
  have hO_48 : Og eTI S S_44 := hO_27.call hk_45.og (by decide +kernel)
  obtain ⟨pv_49, hx_50⟩ := hp
  obtain ⟨pv_51, pv_52, pv_53, pv_54, pv_55, pv_56, pv_57, pv_58, pv_59, pv_60, pv_61⟩ := pv_49
  have t_62 : pI S_24 902 Gs = v_12 := tI_sI eS_24 rfl ev_12
  have t_64 : At S_24 Gs 29 := tAt_sI eS_24 haGs
  have t_63 : pI S_44 902 Gs = v_12 := hk_45.fr.I' (by decide +kernel) t_64 t_62
  have pz_65 : (pI S_44 902 Gs).toInt = v_12.toInt := (congrArg Int32.toInt t_63).trans rfl
  have t_66 : pI S_24 800 s1 = v_16 := tI_sI eS_24 rfl ev_16
  have t_67 : pI S_44 800 s1 = v_16 := hk_45.fr.I' (by decide +kernel) t_42 t_66
  have pz_68 : (pI S_44 800 s1).toInt = v_16.toInt := (congrArg Int32.toInt t_67).trans rfl
  have sl_69 := pv_56.1
  have sl_70 := pv_59.1
  refine lv_aload_n X.1 X.2.1 dX4_tick_14 rfl (lv_at hl 0 rfl) ?_
  have t_71 : At S_44 x 4 := hk_45.fr.at t_29
  refine r_getI (g := 405) (x := (qst (seaF Ev (wtk A (qtk A + 1))))) X hw t_71 rfl 5 pv_54 (by decide) rfl inn_X4_tick_4 (by decide) (X.2.2.2.1 (.fieldLink RX4 66 "SilkMill$Pot" "stop" "I") (by decide +kernel)) rfl (gv_405 _ _) dX4_tick_15 ?_
  refine lv_if_ne (tgt := 26) X.1 X.2.1 dX4_tick_18 (by decide) (fun c_72 => ?_) (fun c_72 => ?_)
  · have z_b_73 := trivial
    have k_74 : (qst (seaF Ev (wtk A (qtk A + 1)))).toInt ≠ 0 := z_ne rfl ti_0 c_72
    refine lv_aload_n X.1 X.2.1 dX4_tick_26 rfl (lv_at hl 0 rfl) ?_
    refine r_getI (g := 405) (x := (qst (seaF Ev (wtk A (qtk A + 1))))) X hw t_71 rfl 5 pv_54 (by decide) rfl inn_X4_tick_4 (by decide) (X.2.2.2.1 (.fieldLink RX4 66 "SilkMill$Pot" "stop" "I") (by decide +kernel)) rfl (gv_405 _ _) dX4_tick_27 ?_
    refine lv_if_le (tgt := 45) X.1 X.2.1 dX4_tick_30 (by decide) (fun c_75 => ?_) (fun c_75 => ?_)
    · have z_b_76 := trivial
      have k_77 : (qst (seaF Ev (wtk A (qtk A + 1)))).toInt ≤ 0 := z_le rfl ti_0 c_75
      refine lv_aload_n X.1 X.2.1 dX4_tick_45 rfl (lv_at hl 0 rfl) ?_
      have t_78 : pR S_24 401 x = some R1 := tR_sI eS_24 hr1
      have t_79 : pR S_44 401 x = some R1 := hk_45.fr.R' (by decide +kernel) t_29 t_78
      refine r_getR (g := 401) X hw t_71 rfl 1 t_79 (by decide) rfl inn_X4_tick_4 (by decide) (X.2.2.2.1 (.fieldLink RX4 20 "SilkMill$Pot" "ends" "LSilkMill$Row;") (by decide +kernel)) rfl (gv_401 _ _) dX4_tick_46 ?_
      have t_80 : At S_24 R1 5 := tAt_sI eS_24 haR1
      have t_81 : At S_44 R1 5 := hk_45.fr.at t_80
      obtain ⟨v_82, ev_82⟩ : ∃ v, pI S_44 500 R1 = v := ⟨_, rfl⟩
      obtain ⟨q_84, n_85, h_86, h_87, h_88, h_89, h_90⟩ := gRowQ hO_48.1 t_81
      have rg_83 := gRow_500 hO_48.1 t_81 h_86 h_88; rw [ev_82] at rg_83
      have pz_91 : (pI S_44 500 R1).toInt = v_82.toInt := by rw [ev_82]
      refine r_getI (g := 500) (x := v_82) X hw t_81 rfl 0 ev_82 (by decide) rfl inn_X4_tick_5 (by decide) (X.2.2.2.1 (.fieldLink RX4 73 "SilkMill$Row" "size" "I") (by decide +kernel)) rfl (gv_500 _ _) dX4_tick_49 ?_
      have sz_92 := RowIs_sz pv_52
      have pz_93 : (pI S_44 500 R1).toInt = v_82.toInt := (congrArg Int32.toInt ev_82).trans rfl
      refine lv_if_ne (tgt := 57) X.1 X.2.1 dX4_tick_52 (by decide) (fun c_94 => ?_) (fun c_94 => ?_)
      · have z_b_95 := trivial
        have k_96 : v_82.toInt ≠ 0 := z_ne rfl ti_0 c_94
        refine lv_aload_n X.1 X.2.1 dX4_tick_57 rfl (lv_at hl 0 rfl) ?_
        refine lv_aload_n X.1 X.2.1 dX4_tick_58 rfl (lv_at hl 1 rfl) ?_
        have t_97 : At S_44 s1 8 := hk_45.fr.at t_42
        have dt_98 : ∀ c, D c → At S_44 c 0 := fun c h => hk_45.fr.at (dt_30 c h)
        have pr_99 : PotR S_44 x R0 R1 R2 Gs := PotR_fr hO_27.1 t_29 hk_45.fr (by decide +kernel) pr_31
        have en_100 : EnC S_44 D x s1 Ev := EnC_fr hk_45.fr dt_30 t_29 t_42 (by decide +kernel) en_41
        refine k_gv (kc := 0) (ks := 0) (rm := { frames := 6, cells := Phc S_44 + 8, slots := Phs S_44 + 15019, locals := 288 }) (av := [.ref x, .ref s1]) X hw (va_runV (As := [.ref s1]) (rest := []) (cfix X) (k_X4_drawMetre5 l G cy κ S_44 _ _ x s1 D R0 R1 R2 Gs (seaF Ev (wtk A (qtk A + 1))) Ev hO_48.1 t_71 t_97 dt_98 pr_99 (PotV_of (rfl : (seaF Ev (wtk A (qtk A + 1))) = (seaF Ev (wtk A (qtk A + 1)))) pv_51 pv_52 pv_53 pv_54 pv_55 pv_56 pv_57 pv_58 pv_59 pv_60 pv_61) en_100) (cwV 1 X.2.2.2.1 gX4_tick_X4_drawMetre rfl rfl rfl (by decide +kernel) ⟨Nat.le_of_ble_eq_true rfl, Nat.le_of_ble_eq_true rfl⟩) (pre_gV X hw _ t_71 rfl (by decide) rfl) rfl rfl hl.1 rfl (lv_room (Nat.le_of_ble_eq_true rfl)) dX4_tick_59 ⟨(by show 0 + (Phc S_44 + 8) ≤ Phc S + 8; omega), (by show 0 + (Phs S_44 + 15019) ≤ Phs S + 15019; omega)⟩) (fun S_102 H locs c_103 n_104 hc_103 hn_104 hp hw => ?_)
        obtain ⟨hk_105, hp⟩ := hp
        have ph_106 : c_103 + Phc S_102 ≤ Phc S + 0 := by omega
        have ph_107 : n_104 + Phs S_102 ≤ Phs S + 0 := by omega
        clear ph_46
        clear ph_47
        clear hc_103
        clear hn_104
        have hO_108 : Og eTI S S_102 := hO_48.call hk_105 (by decide +kernel)
        obtain ⟨pv_109, hx_110⟩ := hp
        obtain ⟨pv_111, pv_112, pv_113, pv_114, pv_115, pv_116, pv_117, pv_118, pv_119, pv_120, pv_121⟩ := pv_109
        obtain ⟨v_123, ev_123⟩ : ∃ v, pI S_102 902 Gs = v := ⟨_, rfl⟩
        have t_125 : At S_44 Gs 29 := hk_45.fr.at t_64
        have t_126 : At S_102 Gs 29 := hk_105.fr.at t_125
        have rg_124 := gI_29_902 hO_108.1 t_126; rw [ev_123] at rg_124
        have pz_127 : (pI S_102 902 Gs).toInt = v_123.toInt := by rw [ev_123]
        have pz_128 : (pI S_102 902 Gs).toInt = v_123.toInt := (congrArg Int32.toInt ev_123).trans rfl
        obtain ⟨v_130, ev_130⟩ : ∃ v, pI S_102 800 s1 = v := ⟨_, rfl⟩
        have t_132 : At S_102 s1 8 := hk_105.fr.at t_97
        have rg_131 := gI_8_800 hO_108.1 t_132; rw [ev_130] at rg_131
        have pz_133 : (pI S_102 800 s1).toInt = v_130.toInt := by rw [ev_130]
        have pz_134 : (pI S_102 800 s1).toInt = v_130.toInt := (congrArg Int32.toInt ev_130).trans rfl
        have sl_135 := pv_116.1
        have sl_136 := pv_119.1
        refine lv_iconst (v := 1) X.1 X.2.1 dX4_tick_62 (by decide) ?_
        have tb_137 : ticB Ev Rl A = (seaF Ev (wtk A (qtk A + 1))) := if_neg (i32_ne rfl t0 (by omega))
        have px_138 : PotX S S_24 x R0 R1 R2 Gs := PotX_sx (PotX_rf S x R0 R1 R2 Gs) eS_24 (by decide)
        have ax_140 : ∀ a k, At S a k → At S_24 a k := fun a k h => tAt_sI eS_24 ((fun _ _ h => h) a k h)
        have px_139 : PotX S S_44 x R0 R1 R2 Gs := PotX_tr px_138 ax_140 haR0 haR1 haR2 hx_50
        have ax_142 : ∀ a k, At S a k → At S_44 a k := fun a k h => hk_45.fr.at (ax_140 a k h)
        have px_141 : PotX S S_102 x R0 R1 R2 Gs := PotX_tr px_139 ax_142 haR0 haR1 haR2 hx_110
        exact ret_gz X hw hr hlocks (by show c_103 ≤ Phc S + 8; omega) (by show n_104 ≤ Phs S + 15019; omega) (by omega) (by omega) (by decide) ⟨hO_108, Or.inl ⟨⟨PotV_of (show (ticF Ev Rl A).1 = (drwF Ev (seaF Ev (wtk A (qtk A + 1)))) by rw [ticF_d (by rw [tb_137]; omega) (by rw [tb_137]; exact (fun z => by have e0 := congrArg List.length z; have e1 : ([] : List Nat).length = 0 := rfl; omega)), tb_137]) pv_111 pv_112 pv_113 pv_114 pv_115 pv_116 pv_117 pv_118 pv_119 pv_120 (inD_tic pv_11), px_141, by rw [ticF_d (by rw [tb_137]; omega) (by rw [tb_137]; exact (fun z => by have e0 := congrArg List.length z; have e1 : ([] : List Nat).length = 0 := rfl; omega))]; exact trivial⟩, rfl⟩⟩ dX4_tick_63
      · have z_b_143 := trivial
        have k_144 : v_82.toInt = 0 := z_eq rfl ti_0 c_94
        refine lv_iconst (v := 0) X.1 X.2.1 dX4_tick_55 (by decide) ?_
        have tb_145 : ticB Ev Rl A = (seaF Ev (wtk A (qtk A + 1))) := if_neg (i32_ne rfl t0 (by omega))
        have px_146 : PotX S S_24 x R0 R1 R2 Gs := PotX_sx (PotX_rf S x R0 R1 R2 Gs) eS_24 (by decide)
        have ax_148 : ∀ a k, At S a k → At S_24 a k := fun a k h => tAt_sI eS_24 ((fun _ _ h => h) a k h)
        have px_147 : PotX S S_44 x R0 R1 R2 Gs := PotX_tr px_146 ax_148 haR0 haR1 haR2 hx_50
        exact ret_gz X hw hr hlocks (by show 0 ≤ Phc S + 8; omega) (by show 0 ≤ Phs S + 15019; omega) (by omega) (by omega) (by decide) ⟨hO_48, Or.inr ⟨⟨PotV_of (show (ticF Ev Rl A).1 = (seaF Ev (wtk A (qtk A + 1))) by rw [ticF_0 (by rw [tb_145]; omega) (by rw [tb_145]; exact (List.eq_nil_of_length_eq_zero (by omega))), tb_145]) pv_51 pv_52 pv_53 pv_54 pv_55 pv_56 pv_57 pv_58 pv_59 pv_60 (inD_tic pv_11), px_147, fun h => (by rw [ticF_0 (by rw [tb_145]; omega) (by rw [tb_145]; exact (List.eq_nil_of_length_eq_zero (by omega)))] at h; exact h)⟩, rfl⟩⟩ dX4_tick_56
    · have z_b_149 := trivial
      have k_150 : (qst (seaF Ev (wtk A (qtk A + 1)))).toInt > 0 := z_nle rfl ti_0 c_75
      refine lv_aload_n X.1 X.2.1 dX4_tick_33 rfl (lv_at hl 0 rfl) ?_
      refine lv_dup X.1 X.2.1 dX4_tick_34 rfl ?_
      refine r_getI (g := 405) (x := (qst (seaF Ev (wtk A (qtk A + 1))))) X hw t_71 rfl 5 pv_54 (by decide) rfl inn_X4_tick_4 (by decide) (X.2.2.2.1 (.fieldLink RX4 66 "SilkMill$Pot" "stop" "I") (by decide +kernel)) rfl (gv_405 _ _) dX4_tick_35 ?_
      refine lv_iconst (v := 1) X.1 X.2.1 dX4_tick_38 (by decide) ?_
      have zh_151 := z_hi (qst (seaF Ev (wtk A (qtk A + 1))))
      have zh_152 := z_lo (qst (seaF Ev (wtk A (qtk A + 1))))
      refine lv_isub X.1 X.2.1 dX4_tick_39 ?_
      refine lv_topi (fun v_153 ev_153 => ?_)
      have z_154 : v_153.toInt = (qst (seaF Ev (wtk A (qtk A + 1)))).toInt - 1 := z_sub ev_153 rfl ti_1 (by omega) (by omega)
      refine r_putI (v := v_153) X hw t_71 rfl 5 405 tyX4 (by decide) rfl inn_X4_tick_4 tyX4_ok nmX4 (by decide) (X.2.2.2.1 (.fieldLink RX4 66 "SilkMill$Pot" "stop" "I") (by decide +kernel)) rfl (Or.inl rfl) rfl rfl (Nat.le_of_ble_eq_true rfl) (st_405 _ _) dX4_tick_40 (fun H locs hw => ?_)
      obtain ⟨S_155, eS_155⟩ : ∃ T, T = sI S_44 405 x (v_153) := ⟨_, rfl⟩
      rw [← eS_155] at hw
      have ph_156 : 0 + Phc S_155 ≤ Phc S + 0 := by rw [show Phc S_155 = Phc S_44 from Ph_sI eS_155 rfl rfl]; exact ph_46
      have ph_157 : 0 + Phs S_155 ≤ Phs S + 0 := by rw [show Phs S_155 = Phs S_44 from Ph_sI eS_155 rfl rfl]; exact ph_47
      clear ph_46
      clear ph_47
      have hO_158 : Og eTI S S_155 := hO_48.sI eS_155 (by decide +kernel) (uI_4_405 hO_48.1 t_71)
      have h_159 : pI S_155 405 x = v_153 := tI_sIs eS_155
      refine lv_iconst (v := 0) X.1 X.2.1 dX4_tick_43 (by decide) ?_
      have tb_160 : ticB Ev Rl A = (seaF Ev (wtk A (qtk A + 1))) := if_neg (i32_ne rfl t0 (by omega))
      have px_161 : PotX S S_24 x R0 R1 R2 Gs := PotX_sx (PotX_rf S x R0 R1 R2 Gs) eS_24 (by decide)
      have ax_163 : ∀ a k, At S a k → At S_24 a k := fun a k h => tAt_sI eS_24 ((fun _ _ h => h) a k h)
      have px_162 : PotX S S_44 x R0 R1 R2 Gs := PotX_tr px_161 ax_163 haR0 haR1 haR2 hx_50
      have px_164 : PotX S S_155 x R0 R1 R2 Gs := PotX_sx px_162 eS_155 (by decide)
      have rw_165 : RowIs S_155 R0 (qb (seaF Ev (wtk A (qtk A + 1)))) 600 := RowIs_sI pv_51 eS_155 (by decide) (by decide)
      have rw_166 : RowIs S_155 R1 (qe (seaF Ev (wtk A (qtk A + 1)))) 12 := RowIs_sI pv_52 eS_155 (by decide) (by decide)
      have rw_167 : RowIs S_155 R2 (ql (seaF Ev (wtk A (qtk A + 1)))) 600 := RowIs_sI pv_53 eS_155 (by decide) (by decide)
      have co_168 : CoP S_155 D (qpl (seaF Ev (wtk A (qtk A + 1)))) (qsd (seaF Ev (wtk A (qtk A + 1)))) := CoP_sI pv_60 eS_155 (by decide) (by decide)
      have t_169 : pI S_155 406 x = (qse (seaF Ev (wtk A (qtk A + 1)))) := tI_sI eS_155 rfl pv_55
      have sg_170 : StV S_155 D Gs (qg (seaF Ev (wtk A (qtk A + 1)))) := StV_sI pv_56 eS_155 (by decide)
      have t_171 : pI S_155 407 x = (qdr (seaF Ev (wtk A (qtk A + 1)))) := tI_sI eS_155 rfl pv_57
      have t_172 : pI S_155 408 x = (qtk (seaF Ev (wtk A (qtk A + 1)))) := tI_sI eS_155 rfl pv_58
      have t_174 : At S_44 s1 8 := hk_45.fr.at t_42
      have sk_173 : SkV S_155 D s1 (qsk (seaF Ev (wtk A (qtk A + 1)))) := SkV_sI hO_48.1 t_174 pv_59 eS_155 (by decide)
      exact ret_gz X hw hr hlocks (by show 0 ≤ Phc S + 8; omega) (by show 0 ≤ Phs S + 15019; omega) (by omega) (by omega) (by decide) ⟨hO_158, Or.inr ⟨⟨PotV_of (show (ticF Ev Rl A).1 = (wst (seaF Ev (wtk A (qtk A + 1))) (qst (seaF Ev (wtk A (qtk A + 1))) - 1)) by rw [ticF_s (by rw [tb_160]; omega), tb_160]) rw_165 rw_166 rw_167 (h_159.trans ev_153) t_169 sg_170 t_171 t_172 sk_173 co_168 (inD_tic pv_11), px_164, fun h => (by rw [ticF_s (by rw [tb_160]; omega)] at h; exact h)⟩, rfl⟩⟩ dX4_tick_44
  · have z_b_175 := trivial
    have k_176 : (qst (seaF Ev (wtk A (qtk A + 1)))).toInt = 0 := z_eq rfl ti_0 c_72
    refine lv_aload_n X.1 X.2.1 dX4_tick_21 rfl (lv_at hl 0 rfl) ?_
    refine lv_aload_n X.1 X.2.1 dX4_tick_22 rfl (lv_at hl 1 rfl) ?_
    have t_177 : At S_44 s1 8 := hk_45.fr.at t_42
    have dt_178 : ∀ c, D c → At S_44 c 0 := fun c h => hk_45.fr.at (dt_30 c h)
    have pr_179 : PotR S_44 x R0 R1 R2 Gs := PotR_fr hO_27.1 t_29 hk_45.fr (by decide +kernel) pr_31
    have en_180 : EnC S_44 D x s1 Ev := EnC_fr hk_45.fr dt_30 t_29 t_42 (by decide +kernel) en_41
    have rs_181 : RuS S_24 x Rl := RuS_sI hp_4 eS_24 (by decide)
    have rs_182 : RuS S_44 x Rl := RuS_fr hO_27.1 t_29 hk_45.fr (by decide +kernel) rs_181
    refine k_gv (kc := 0) (ks := 0) (rm := { frames := 7, cells := Phc S_44 + 8, slots := Phs S_44 + 15019, locals := 336 }) (av := [.ref x, .ref s1]) X hw (va_runV (As := [.ref s1]) (rest := []) (cfix X) (k_X4_applyRules5 l G cy κ S_44 _ _ x s1 D R0 R1 R2 Gs (seaF Ev (wtk A (qtk A + 1))) Ev Rl hO_48.1 t_71 t_177 dt_178 pr_179 (PotV_of (rfl : (seaF Ev (wtk A (qtk A + 1))) = (seaF Ev (wtk A (qtk A + 1)))) pv_51 pv_52 pv_53 pv_54 pv_55 pv_56 pv_57 pv_58 pv_59 pv_60 pv_61) en_180 rs_182) (cwV 1 X.2.2.2.1 gX4_tick_X4_applyRules rfl rfl rfl (by decide +kernel) ⟨Nat.le_of_ble_eq_true rfl, Nat.le_of_ble_eq_true rfl⟩) (pre_gV X hw _ t_71 rfl (by decide) rfl) rfl rfl hl.1 rfl (lv_room (Nat.le_of_ble_eq_true rfl)) dX4_tick_23 ⟨(by show 0 + (Phc S_44 + 8) ≤ Phc S + 8; omega), (by show 0 + (Phs S_44 + 15019) ≤ Phs S + 15019; omega)⟩) (fun S_184 H locs c_185 n_186 hc_185 hn_186 hp hw => ?_)
    obtain ⟨hk_187, hp⟩ := hp
    have ph_188 : c_185 + Phc S_184 ≤ Phc S + 0 := by omega
    have ph_189 : n_186 + Phs S_184 ≤ Phs S + 0 := by omega
    clear ph_46
    clear ph_47
    clear hc_185
    clear hn_186
    have hO_190 : Og eTI S S_184 := hO_48.call hk_187 (by decide +kernel)
    obtain ⟨pv_191, hx_192⟩ := hp
    obtain ⟨pv_193, pv_194, pv_195, pv_196, pv_197, pv_198, pv_199, pv_200, pv_201, pv_202, pv_203⟩ := pv_191
    obtain ⟨v_205, ev_205⟩ : ∃ v, pI S_184 902 Gs = v := ⟨_, rfl⟩
    have t_207 : At S_44 Gs 29 := hk_45.fr.at t_64
    have t_208 : At S_184 Gs 29 := hk_187.fr.at t_207
    have rg_206 := gI_29_902 hO_190.1 t_208; rw [ev_205] at rg_206
    have pz_209 : (pI S_184 902 Gs).toInt = v_205.toInt := by rw [ev_205]
    have pz_210 : (pI S_184 902 Gs).toInt = v_205.toInt := (congrArg Int32.toInt ev_205).trans rfl
    obtain ⟨v_212, ev_212⟩ : ∃ v, pI S_184 800 s1 = v := ⟨_, rfl⟩
    have t_214 : At S_184 s1 8 := hk_187.fr.at t_177
    have rg_213 := gI_8_800 hO_190.1 t_214; rw [ev_212] at rg_213
    have pz_215 : (pI S_184 800 s1).toInt = v_212.toInt := by rw [ev_212]
    have pz_216 : (pI S_184 800 s1).toInt = v_212.toInt := (congrArg Int32.toInt ev_212).trans rfl
    have sl_217 := pv_198.1
    have sl_218 := pv_201.1
    refine lv_aload_n X.1 X.2.1 dX4_tick_26 rfl (lv_at hl 0 rfl) ?_
    have t_219 : At S_184 x 4 := hk_187.fr.at t_71
    refine r_getI (g := 405) (x := (qst (rusF Ev (seaF Ev (wtk A (qtk A + 1))) Rl))) X hw t_219 rfl 5 pv_196 (by decide) rfl inn_X4_tick_4 (by decide) (X.2.2.2.1 (.fieldLink RX4 66 "SilkMill$Pot" "stop" "I") (by decide +kernel)) rfl (gv_405 _ _) dX4_tick_27 ?_
    refine lv_if_le (tgt := 45) X.1 X.2.1 dX4_tick_30 (by decide) (fun c_220 => ?_) (fun c_220 => ?_)
    · have z_b_221 := trivial
      have k_222 : (qst (rusF Ev (seaF Ev (wtk A (qtk A + 1))) Rl)).toInt ≤ 0 := z_le rfl ti_0 c_220
      refine lv_aload_n X.1 X.2.1 dX4_tick_45 rfl (lv_at hl 0 rfl) ?_
      have t_223 : pR S_24 401 x = some R1 := tR_sI eS_24 hr1
      have t_224 : pR S_44 401 x = some R1 := hk_45.fr.R' (by decide +kernel) t_29 t_223
      have t_225 : pR S_184 401 x = some R1 := hk_187.fr.R' (by decide +kernel) t_71 t_224
      refine r_getR (g := 401) X hw t_219 rfl 1 t_225 (by decide) rfl inn_X4_tick_4 (by decide) (X.2.2.2.1 (.fieldLink RX4 20 "SilkMill$Pot" "ends" "LSilkMill$Row;") (by decide +kernel)) rfl (gv_401 _ _) dX4_tick_46 ?_
      have t_226 : At S_24 R1 5 := tAt_sI eS_24 haR1
      have t_227 : At S_44 R1 5 := hk_45.fr.at t_226
      have t_228 : At S_184 R1 5 := hk_187.fr.at t_227
      obtain ⟨v_229, ev_229⟩ : ∃ v, pI S_184 500 R1 = v := ⟨_, rfl⟩
      obtain ⟨q_231, n_232, h_233, h_234, h_235, h_236, h_237⟩ := gRowQ hO_190.1 t_228
      have rg_230 := gRow_500 hO_190.1 t_228 h_233 h_235; rw [ev_229] at rg_230
      have pz_238 : (pI S_184 500 R1).toInt = v_229.toInt := by rw [ev_229]
      refine r_getI (g := 500) (x := v_229) X hw t_228 rfl 0 ev_229 (by decide) rfl inn_X4_tick_5 (by decide) (X.2.2.2.1 (.fieldLink RX4 73 "SilkMill$Row" "size" "I") (by decide +kernel)) rfl (gv_500 _ _) dX4_tick_49 ?_
      have sz_239 := RowIs_sz pv_194
      have pz_240 : (pI S_184 500 R1).toInt = v_229.toInt := (congrArg Int32.toInt ev_229).trans rfl
      refine lv_if_ne (tgt := 57) X.1 X.2.1 dX4_tick_52 (by decide) (fun c_241 => ?_) (fun c_241 => ?_)
      · have z_b_242 := trivial
        have k_243 : v_229.toInt ≠ 0 := z_ne rfl ti_0 c_241
        refine lv_aload_n X.1 X.2.1 dX4_tick_57 rfl (lv_at hl 0 rfl) ?_
        refine lv_aload_n X.1 X.2.1 dX4_tick_58 rfl (lv_at hl 1 rfl) ?_
        have dt_244 : ∀ c, D c → At S_184 c 0 := fun c h => hk_187.fr.at (dt_178 c h)
        have pr_245 : PotR S_184 x R0 R1 R2 Gs := PotR_fr hO_48.1 t_71 hk_187.fr (by decide +kernel) pr_179
        have en_246 : EnC S_184 D x s1 Ev := EnC_fr hk_187.fr dt_178 t_71 t_177 (by decide +kernel) en_180
        refine k_gv (kc := 0) (ks := 0) (rm := { frames := 6, cells := Phc S_184 + 8, slots := Phs S_184 + 15019, locals := 288 }) (av := [.ref x, .ref s1]) X hw (va_runV (As := [.ref s1]) (rest := []) (cfix X) (k_X4_drawMetre5 l G cy κ S_184 _ _ x s1 D R0 R1 R2 Gs (rusF Ev (seaF Ev (wtk A (qtk A + 1))) Rl) Ev hO_190.1 t_219 t_214 dt_244 pr_245 (PotV_of (rfl : (rusF Ev (seaF Ev (wtk A (qtk A + 1))) Rl) = (rusF Ev (seaF Ev (wtk A (qtk A + 1))) Rl)) pv_193 pv_194 pv_195 pv_196 pv_197 pv_198 pv_199 pv_200 pv_201 pv_202 pv_203) en_246) (cwV 1 X.2.2.2.1 gX4_tick_X4_drawMetre rfl rfl rfl (by decide +kernel) ⟨Nat.le_of_ble_eq_true rfl, Nat.le_of_ble_eq_true rfl⟩) (pre_gV X hw _ t_219 rfl (by decide) rfl) rfl rfl hl.1 rfl (lv_room (Nat.le_of_ble_eq_true rfl)) dX4_tick_59 ⟨(by show c_185 + (Phc S_184 + 8) ≤ Phc S + 8; omega), (by show n_186 + (Phs S_184 + 15019) ≤ Phs S + 15019; omega)⟩) (fun S_248 H locs c_249 n_250 hc_249 hn_250 hp hw => ?_)
        obtain ⟨hk_251, hp⟩ := hp
        have ph_252 : c_249 + Phc S_248 ≤ Phc S + 0 := by omega
        have ph_253 : n_250 + Phs S_248 ≤ Phs S + 0 := by omega
        clear ph_188
        clear ph_189
        clear hc_249
        clear hn_250
        have hO_254 : Og eTI S S_248 := hO_190.call hk_251 (by decide +kernel)
        obtain ⟨pv_255, hx_256⟩ := hp
        obtain ⟨pv_257, pv_258, pv_259, pv_260, pv_261, pv_262, pv_263, pv_264, pv_265, pv_266, pv_267⟩ := pv_255
        obtain ⟨v_269, ev_269⟩ : ∃ v, pI S_248 902 Gs = v := ⟨_, rfl⟩
        have t_271 : At S_248 Gs 29 := hk_251.fr.at t_208
        have rg_270 := gI_29_902 hO_254.1 t_271; rw [ev_269] at rg_270
        have pz_272 : (pI S_248 902 Gs).toInt = v_269.toInt := by rw [ev_269]
        have pz_273 : (pI S_248 902 Gs).toInt = v_269.toInt := (congrArg Int32.toInt ev_269).trans rfl
        obtain ⟨v_275, ev_275⟩ : ∃ v, pI S_248 800 s1 = v := ⟨_, rfl⟩
        have t_277 : At S_248 s1 8 := hk_251.fr.at t_214
        have rg_276 := gI_8_800 hO_254.1 t_277; rw [ev_275] at rg_276
        have pz_278 : (pI S_248 800 s1).toInt = v_275.toInt := by rw [ev_275]
        have pz_279 : (pI S_248 800 s1).toInt = v_275.toInt := (congrArg Int32.toInt ev_275).trans rfl
        have sl_280 := pv_262.1
        have sl_281 := pv_265.1
        refine lv_iconst (v := 1) X.1 X.2.1 dX4_tick_62 (by decide) ?_
        have tb_282 : ticB Ev Rl A = (rusF Ev (seaF Ev (wtk A (qtk A + 1))) Rl) := if_pos (i32_eq rfl t0 (by omega))
        have px_283 : PotX S S_24 x R0 R1 R2 Gs := PotX_sx (PotX_rf S x R0 R1 R2 Gs) eS_24 (by decide)
        have ax_285 : ∀ a k, At S a k → At S_24 a k := fun a k h => tAt_sI eS_24 ((fun _ _ h => h) a k h)
        have px_284 : PotX S S_44 x R0 R1 R2 Gs := PotX_tr px_283 ax_285 haR0 haR1 haR2 hx_50
        have ax_287 : ∀ a k, At S a k → At S_44 a k := fun a k h => hk_45.fr.at (ax_285 a k h)
        have px_286 : PotX S S_184 x R0 R1 R2 Gs := PotX_tr px_284 ax_287 haR0 haR1 haR2 hx_192
        have ax_289 : ∀ a k, At S a k → At S_184 a k := fun a k h => hk_187.fr.at (ax_287 a k h)
        have px_288 : PotX S S_248 x R0 R1 R2 Gs := PotX_tr px_286 ax_289 haR0 haR1 haR2 hx_256
        exact ret_gz X hw hr hlocks (by show c_249 ≤ Phc S + 8; omega) (by show n_250 ≤ Phs S + 15019; omega) (by omega) (by omega) (by decide) ⟨hO_254, Or.inl ⟨⟨PotV_of (show (ticF Ev Rl A).1 = (drwF Ev (rusF Ev (seaF Ev (wtk A (qtk A + 1))) Rl)) by rw [ticF_d (by rw [tb_282]; omega) (by rw [tb_282]; exact (fun z => by have e0 := congrArg List.length z; have e1 : ([] : List Nat).length = 0 := rfl; omega)), tb_282]) pv_257 pv_258 pv_259 pv_260 pv_261 pv_262 pv_263 pv_264 pv_265 pv_266 (inD_tic pv_11), px_288, by rw [ticF_d (by rw [tb_282]; omega) (by rw [tb_282]; exact (fun z => by have e0 := congrArg List.length z; have e1 : ([] : List Nat).length = 0 := rfl; omega))]; exact trivial⟩, rfl⟩⟩ dX4_tick_63
      · have z_b_290 := trivial
        have k_291 : v_229.toInt = 0 := z_eq rfl ti_0 c_241
        refine lv_iconst (v := 0) X.1 X.2.1 dX4_tick_55 (by decide) ?_
        have tb_292 : ticB Ev Rl A = (rusF Ev (seaF Ev (wtk A (qtk A + 1))) Rl) := if_pos (i32_eq rfl t0 (by omega))
        have px_293 : PotX S S_24 x R0 R1 R2 Gs := PotX_sx (PotX_rf S x R0 R1 R2 Gs) eS_24 (by decide)
        have ax_295 : ∀ a k, At S a k → At S_24 a k := fun a k h => tAt_sI eS_24 ((fun _ _ h => h) a k h)
        have px_294 : PotX S S_44 x R0 R1 R2 Gs := PotX_tr px_293 ax_295 haR0 haR1 haR2 hx_50
        have ax_297 : ∀ a k, At S a k → At S_44 a k := fun a k h => hk_45.fr.at (ax_295 a k h)
        have px_296 : PotX S S_184 x R0 R1 R2 Gs := PotX_tr px_294 ax_297 haR0 haR1 haR2 hx_192
        exact ret_gz X hw hr hlocks (by show c_185 ≤ Phc S + 8; omega) (by show n_186 ≤ Phs S + 15019; omega) (by omega) (by omega) (by decide) ⟨hO_190, Or.inr ⟨⟨PotV_of (show (ticF Ev Rl A).1 = (rusF Ev (seaF Ev (wtk A (qtk A + 1))) Rl) by rw [ticF_0 (by rw [tb_292]; omega) (by rw [tb_292]; exact (List.eq_nil_of_length_eq_zero (by omega))), tb_292]) pv_193 pv_194 pv_195 pv_196 pv_197 pv_198 pv_199 pv_200 pv_201 pv_202 (inD_tic pv_11), px_296, fun h => (by rw [ticF_0 (by rw [tb_292]; omega) (by rw [tb_292]; exact (List.eq_nil_of_length_eq_zero (by omega)))] at h; exact h)⟩, rfl⟩⟩ dX4_tick_56
    · have z_b_298 := trivial
      have k_299 : (qst (rusF Ev (seaF Ev (wtk A (qtk A + 1))) Rl)).toInt > 0 := z_nle rfl ti_0 c_220
      refine lv_aload_n X.1 X.2.1 dX4_tick_33 rfl (lv_at hl 0 rfl) ?_
      refine lv_dup X.1 X.2.1 dX4_tick_34 rfl ?_
      refine r_getI (g := 405) (x := (qst (rusF Ev (seaF Ev (wtk A (qtk A + 1))) Rl))) X hw t_219 rfl 5 pv_196 (by decide) rfl inn_X4_tick_4 (by decide) (X.2.2.2.1 (.fieldLink RX4 66 "SilkMill$Pot" "stop" "I") (by decide +kernel)) rfl (gv_405 _ _) dX4_tick_35 ?_
      refine lv_iconst (v := 1) X.1 X.2.1 dX4_tick_38 (by decide) ?_
      have zh_300 := z_hi (qst (rusF Ev (seaF Ev (wtk A (qtk A + 1))) Rl))
      have zh_301 := z_lo (qst (rusF Ev (seaF Ev (wtk A (qtk A + 1))) Rl))
      refine lv_isub X.1 X.2.1 dX4_tick_39 ?_
      refine lv_topi (fun v_302 ev_302 => ?_)
      have z_303 : v_302.toInt = (qst (rusF Ev (seaF Ev (wtk A (qtk A + 1))) Rl)).toInt - 1 := z_sub ev_302 rfl ti_1 (by omega) (by omega)
      refine r_putI (v := v_302) X hw t_219 rfl 5 405 tyX4 (by decide) rfl inn_X4_tick_4 tyX4_ok nmX4 (by decide) (X.2.2.2.1 (.fieldLink RX4 66 "SilkMill$Pot" "stop" "I") (by decide +kernel)) rfl (Or.inl rfl) rfl rfl (Nat.le_of_ble_eq_true rfl) (st_405 _ _) dX4_tick_40 (fun H locs hw => ?_)
      obtain ⟨S_304, eS_304⟩ : ∃ T, T = sI S_184 405 x (v_302) := ⟨_, rfl⟩
      rw [← eS_304] at hw
      have ph_305 : c_185 + Phc S_304 ≤ Phc S + 0 := by rw [show Phc S_304 = Phc S_184 from Ph_sI eS_304 rfl rfl]; exact ph_188
      have ph_306 : n_186 + Phs S_304 ≤ Phs S + 0 := by rw [show Phs S_304 = Phs S_184 from Ph_sI eS_304 rfl rfl]; exact ph_189
      clear ph_188
      clear ph_189
      have hO_307 : Og eTI S S_304 := hO_190.sI eS_304 (by decide +kernel) (uI_4_405 hO_190.1 t_219)
      have h_308 : pI S_304 405 x = v_302 := tI_sIs eS_304
      refine lv_iconst (v := 0) X.1 X.2.1 dX4_tick_43 (by decide) ?_
      have tb_309 : ticB Ev Rl A = (rusF Ev (seaF Ev (wtk A (qtk A + 1))) Rl) := if_pos (i32_eq rfl t0 (by omega))
      have px_310 : PotX S S_24 x R0 R1 R2 Gs := PotX_sx (PotX_rf S x R0 R1 R2 Gs) eS_24 (by decide)
      have ax_312 : ∀ a k, At S a k → At S_24 a k := fun a k h => tAt_sI eS_24 ((fun _ _ h => h) a k h)
      have px_311 : PotX S S_44 x R0 R1 R2 Gs := PotX_tr px_310 ax_312 haR0 haR1 haR2 hx_50
      have ax_314 : ∀ a k, At S a k → At S_44 a k := fun a k h => hk_45.fr.at (ax_312 a k h)
      have px_313 : PotX S S_184 x R0 R1 R2 Gs := PotX_tr px_311 ax_314 haR0 haR1 haR2 hx_192
      have px_315 : PotX S S_304 x R0 R1 R2 Gs := PotX_sx px_313 eS_304 (by decide)
      have rw_316 : RowIs S_304 R0 (qb (rusF Ev (seaF Ev (wtk A (qtk A + 1))) Rl)) 600 := RowIs_sI pv_193 eS_304 (by decide) (by decide)
      have rw_317 : RowIs S_304 R1 (qe (rusF Ev (seaF Ev (wtk A (qtk A + 1))) Rl)) 12 := RowIs_sI pv_194 eS_304 (by decide) (by decide)
      have rw_318 : RowIs S_304 R2 (ql (rusF Ev (seaF Ev (wtk A (qtk A + 1))) Rl)) 600 := RowIs_sI pv_195 eS_304 (by decide) (by decide)
      have co_319 : CoP S_304 D (qpl (rusF Ev (seaF Ev (wtk A (qtk A + 1))) Rl)) (qsd (rusF Ev (seaF Ev (wtk A (qtk A + 1))) Rl)) := CoP_sI pv_202 eS_304 (by decide) (by decide)
      have t_320 : pI S_304 406 x = (qse (rusF Ev (seaF Ev (wtk A (qtk A + 1))) Rl)) := tI_sI eS_304 rfl pv_197
      have sg_321 : StV S_304 D Gs (qg (rusF Ev (seaF Ev (wtk A (qtk A + 1))) Rl)) := StV_sI pv_198 eS_304 (by decide)
      have t_322 : pI S_304 407 x = (qdr (rusF Ev (seaF Ev (wtk A (qtk A + 1))) Rl)) := tI_sI eS_304 rfl pv_199
      have t_323 : pI S_304 408 x = (qtk (rusF Ev (seaF Ev (wtk A (qtk A + 1))) Rl)) := tI_sI eS_304 rfl pv_200
      have sk_324 : SkV S_304 D s1 (qsk (rusF Ev (seaF Ev (wtk A (qtk A + 1))) Rl)) := SkV_sI hO_190.1 t_214 pv_201 eS_304 (by decide)
      exact ret_gz X hw hr hlocks (by show c_185 ≤ Phc S + 8; omega) (by show n_186 ≤ Phs S + 15019; omega) (by omega) (by omega) (by decide) ⟨hO_307, Or.inr ⟨⟨PotV_of (show (ticF Ev Rl A).1 = (wst (rusF Ev (seaF Ev (wtk A (qtk A + 1))) Rl) (qst (rusF Ev (seaF Ev (wtk A (qtk A + 1))) Rl) - 1)) by rw [ticF_s (by rw [tb_309]; omega), tb_309]) rw_316 rw_317 rw_318 (h_308.trans ev_302) t_320 sg_321 t_322 t_323 sk_324 co_319 (inD_tic pv_11), px_315, fun h => (by rw [ticF_s (by rw [tb_309]; omega)] at h; exact h)⟩, rfl⟩⟩ dX4_tick_44
