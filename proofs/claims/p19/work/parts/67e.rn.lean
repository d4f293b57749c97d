
set_option maxHeartbeats 4000000 in
set_option maxRecDepth 100000 in
theorem k_X4_act5 (l : Launch) (G : va_G) (cy : Nat → ClassId) (κ : Nat → Nat) (S : PS) (sz hz : Nat) (x : Nat) (a1 : Int32) (a1_z : Int) (a2 : Int32) (a2_z : Int) (s1 : Nat) (D : Nat → Prop) (R0 : Nat) (R1 : Nat) (R2 : Nat) (Gs : Nat) (A : Pt) (Ev : En) (hG : GX S) (ha_x : At S x 4) (hz_a1 : a1.toInt = a1_z) (hz_a2 : a2.toInt = a2_z) (ha_s1 : At S s1 8) (hp_0 : (∀ c, D c → At S c 0)) (hp_1 : PotR S x R0 R1 R2 Gs) (hp_2 : PotV S D x R0 R1 R2 Gs s1 A) (hp_3 : EnC S D x s1 Ev) : Gv l yX4_act wsX4_act ({ frames := 6, cells := Phc S + 8, slots := Phs S + 15019, locals := 288 }) G cy κ S sz hz 0 0 [.ref x, .int (a1), .int (a2), .ref s1] (fun (S9 : PS) => Og eAC S S9 ∧ (PotV S9 D x R0 R1 R2 Gs s1 (actF Ev a1 a2 A) ∧ PotX S S9 x R0 R1 R2 Gs ∧ PzT S S9 D Gs s1 A (actF Ev a1 a2 A))) := by
  refine ent_g (cc := cX4_act) (maxL := 4) (ret := none) (by decide) rfl (Nat.le_of_ble_eq_true rfl) ?_
  intro p e s m below meth c ls X hr hlocks hin hw hl hsz hhz
  subst hsz hhz
  have X : Cx p c cX4_act 4 s [.ref x, .int (a1), .int (a2), .ref s1].toArray wsX4_act RX4 m G cy κ (AS S s.heap.size) := X
  have hl : lv_has ls 4 [(0, .ref x), (1, .int (a1)), (2, .int (a2)), (3, .ref s1)] := hl
  have rg_a1 : (-2147483648) ≤ a1_z ∧ a1_z ≤ 2147483647 := by rw [← hz_a1]; exact ⟨z_lo _, z_hi _⟩
  have rg_a2 : (-2147483648) ≤ a2_z ∧ a2_z ≤ 2147483647 := by rw [← hz_a2]; exact ⟨z_lo _, z_hi _⟩
  have hpc0 : 0 + Phc S ≤ Phc S + 0 := by omega
  have hps0 : 0 + Phs S ≤ Phs S + 0 := by omega
  have hO : Og eAC S S := Og.rf hG
  have hpr := hp_1
  obtain ⟨hr0, hr1, hr2, hr3, hne, hcn⟩ := hpr
  have haR0 := row_at hG ha_x (Or.inl hr0)
  have haR1 := row_at hG ha_x (Or.inr (Or.inl hr1))
  have haR2 := row_at hG ha_x (Or.inr (Or.inr hr2))
  have haGs : At S Gs 29 := by obtain ⟨c, k1, k2⟩ := gQ_4_403 hG ha_x; have h3 := hr3; rw [k1] at h3; cases h3; exact k2
  have hpv := hp_2
  obtain ⟨pv_1, pv_2, pv_3, pv_4, pv_5, pv_6, pv_7, pv_8, pv_9, pv_10, pv_11⟩ := hpv
  obtain ⟨v_12, ev_12⟩ : ∃ v, pI S 902 Gs = v := ⟨_, rfl⟩
  have rg_13 := gI_29_902 hO.1 haGs; rw [ev_12] at rg_13
  have pz_14 : (pI S 902 Gs).toInt = v_12.toInt := by rw [ev_12]
  have pz_15 : (pI S 902 Gs).toInt = v_12.toInt := (congrArg Int32.toInt ev_12).trans rfl
  obtain ⟨v_16, ev_16⟩ : ∃ v, pI S 800 s1 = v := ⟨_, rfl⟩
  have rg_17 := gI_8_800 hO.1 ha_s1; rw [ev_16] at rg_17
  have pz_18 : (pI S 800 s1).toInt = v_16.toInt := by rw [ev_16]
  have pz_19 : (pI S 800 s1).toInt = v_16.toInt := (congrArg Int32.toInt ev_16).trans rfl
  have sl_20 := pv_6.1
  have sl_21 := pv_9.1
  refine lv_iload_n X.1 X.2.1 dX4_act_0 rfl (lv_at hl 1 rfl) ?_
  by_cases w_22 : (a1).toInt < 0 ∨ 4 < (a1).toInt
  · refine lv_tableOut (tgt := 74) X.1 X.2.1 dX4_act_1 w_22 (by decide) ?_
    refine lv_aload_n X.1 X.2.1 dX4_act_74 rfl (lv_at hl 0 rfl) ?_
    refine lv_dup X.1 X.2.1 dX4_act_75 rfl ?_
    refine r_getI (g := 405) (x := (qst A)) X hw ha_x rfl 5 pv_4 (by decide) rfl inn_X4_act_4 (by decide) (X.2.2.2.1 (.fieldLink RX4 66 "SilkMill$Pot" "stop" "I") (by decide +kernel)) rfl (gv_405 _ _) dX4_act_76 ?_
    refine lv_iload_n X.1 X.2.1 dX4_act_79 rfl (lv_at hl 2 rfl) ?_
    refine lv_iadd X.1 X.2.1 dX4_act_80 ?_
    refine lv_topi (fun v_23 ev_23 => ?_)
    have rg_24 := And.intro (z_lo v_23) (z_hi v_23)
    refine r_putI (v := v_23) X hw ha_x rfl 5 405 tyX4 (by decide) rfl inn_X4_act_4 tyX4_ok nmX4 (by decide) (X.2.2.2.1 (.fieldLink RX4 66 "SilkMill$Pot" "stop" "I") (by decide +kernel)) rfl (Or.inl rfl) rfl rfl (Nat.le_of_ble_eq_true rfl) (st_405 _ _) dX4_act_81 (fun H locs hw => ?_)
    obtain ⟨S_25, eS_25⟩ : ∃ T, T = sI S 405 x (v_23) := ⟨_, rfl⟩
    rw [← eS_25] at hw
    have ph_26 : 0 + Phc S_25 ≤ Phc S + 0 := by rw [show Phc S_25 = Phc S from Ph_sI eS_25 rfl rfl]; exact hpc0
    have ph_27 : 0 + Phs S_25 ≤ Phs S + 0 := by rw [show Phs S_25 = Phs S from Ph_sI eS_25 rfl rfl]; exact hps0
    clear hpc0
    clear hps0
    have hO_28 : Og eAC S S_25 := hO.sI eS_25 (by decide +kernel) (uI_4_405 hO.1 ha_x)
    have h_29 : pI S_25 405 x = v_23 := tI_sIs eS_25
    have rw_30 : RowIs S_25 R0 (qb A) 600 := RowIs_sI pv_1 eS_25 (by decide) (by decide)
    have rw_31 : RowIs S_25 R1 (qe A) 12 := RowIs_sI pv_2 eS_25 (by decide) (by decide)
    have rw_32 : RowIs S_25 R2 (ql A) 600 := RowIs_sI pv_3 eS_25 (by decide) (by decide)
    have co_33 : CoP S_25 D (qpl A) (qsd A) := CoP_sI pv_10 eS_25 (by decide) (by decide)
    have t_34 : pI S_25 406 x = (qse A) := tI_sI eS_25 rfl pv_5
    have sg_35 : StV S_25 D Gs (qg A) := StV_sI pv_6 eS_25 (by decide)
    have t_36 : pI S_25 407 x = (qdr A) := tI_sI eS_25 rfl pv_7
    have t_37 : pI S_25 408 x = (qtk A) := tI_sI eS_25 rfl pv_8
    have sk_38 : SkV S_25 D s1 (qsk A) := SkV_sI hO.1 ha_s1 pv_9 eS_25 (by decide)
    have px_39 : PotX S S_25 x R0 R1 R2 Gs := PotX_sx (PotX_rf S x R0 R1 R2 Gs) eS_25 (by decide)
    have pt_40 : PzT S S_25 D Gs s1 A A := PzT_tr (PzT_rf S D Gs s1 A) (PzT_mv hO.1 haGs ha_s1 (PzF_sI hO.1 ha_s1 eS_25 (by decide)) rfl rfl (fun _ => Nat.le_refl _))
    have t_41 : At S_25 Gs 29 := tAt_sI eS_25 haGs
    have t_42 : At S_25 s1 8 := tAt_sI eS_25 ha_s1
    have pt_43 : PzT S S_25 D Gs s1 A (wst A (qst A + a2)) := PzT_tr pt_40 (PzT_mv hO_28.1 t_41 t_42 (PzF_rf _ _) rfl rfl (fun _ => Nat.le_refl _))
    exact ret_gv X hw hr hlocks (by show 0 ≤ Phc S + 8; omega) (by show 0 ≤ Phs S + 15019; omega) (by omega) (by omega) ⟨hO_28, ⟨PotV_of (actF_d hz_a1 (by omega)) rw_30 rw_31 rw_32 (h_29.trans ev_23) t_34 sg_35 t_36 t_37 sk_38 co_33 (inD_act pv_11), px_39, (PzT_e (actF_d hz_a1 (by omega)) pt_43)⟩⟩ dX4_act_84
  have w_22b : (a1).toInt = 0 ∨ (a1).toInt = 1 ∨ (a1).toInt = 2 ∨ (a1).toInt = 3 ∨ (a1).toInt = 4 := by omega
  rcases w_22b with w_22c | w_22c | w_22c | w_22c | w_22c
  · refine lv_tableIn (tgt := 36) X.1 X.2.1 dX4_act_1 (by omega) (by omega) (by rw [w_22c]; rfl) (by decide) ?_
    refine lv_aload_n X.1 X.2.1 dX4_act_36 rfl (lv_at hl 0 rfl) ?_
    refine k_v (rm := { frames := 3, cells := 0, slots := 0, locals := 144 }) (av := [.ref x]) X hw (va_runV (As := []) (rest := []) (cfix X) (k_X4_castFirst5 l G cy κ S _ x D R0 R1 R2 Gs s1 A Ev hO.1 ha_x hp_0 hp_1 (PotV_of (rfl : A = A) pv_1 pv_2 pv_3 pv_4 pv_5 pv_6 pv_7 pv_8 pv_9 pv_10 pv_11) hp_3 ha_s1) (cwV 0 X.2.2.2.1 gX4_act_X4_castFirst rfl rfl rfl (by decide +kernel) ⟨Nat.le_of_ble_eq_true rfl, Nat.le_of_ble_eq_true rfl⟩) (pre_V X hw _ ha_x rfl (by decide) rfl) rfl rfl hl.1 rfl (lv_room (Nat.le_of_ble_eq_true rfl)) dX4_act_37 ⟨(by show 0 + 0 ≤ Phc S + 8; omega), (by show 0 + 0 ≤ Phs S + 15019; omega)⟩) 0 0 (by show 0 + 0 ≤ 0; omega) (by show 0 + 0 ≤ 0; omega) (fun S_45 H locs hp hw hfr hnw => ?_)
    obtain ⟨hk_46, hp⟩ := hp
    have ph_47 : 0 + Phc S_45 ≤ Phc S + 0 := by rw [show Phc S_45 = Phc S from Ph_ok hO.1 hk_46 (by decide +kernel) (by decide +kernel) (by decide +kernel)]; exact hpc0
    have ph_48 : 0 + Phs S_45 ≤ Phs S + 0 := by rw [show Phs S_45 = Phs S from Ph_ok hO.1 hk_46 (by decide +kernel) (by decide +kernel) (by decide +kernel)]; exact hps0
    clear hpc0
    clear hps0
    have hO_49 : Og eAC S S_45 := hO.call hk_46.og (by decide +kernel)
    obtain ⟨pv_50, hx_51⟩ := hp
    obtain ⟨pv_52, pv_53, pv_54, pv_55, pv_56, pv_57, pv_58, pv_59, pv_60, pv_61, pv_62⟩ := pv_50
    have t_63 : pI S_45 902 Gs = v_12 := hk_46.fr.I' (by decide +kernel) haGs ev_12
    have pz_64 : (pI S_45 902 Gs).toInt = v_12.toInt := (congrArg Int32.toInt t_63).trans rfl
    have t_65 : pI S_45 800 s1 = v_16 := hk_46.fr.I' (by decide +kernel) ha_s1 ev_16
    have pz_66 : (pI S_45 800 s1).toInt = v_16.toInt := (congrArg Int32.toInt t_65).trans rfl
    have sl_67 := pv_57.1
    have sl_68 := pv_60.1
    refine lv_goto (tgt := 84) X.1 X.2.1 dX4_act_40 (by decide) ?_
    have px_69 : PotX S S_45 x R0 R1 R2 Gs := PotX_tr (PotX_rf S x R0 R1 R2 Gs) (fun _ _ h => h) haR0 haR1 haR2 hx_51
    have pt_70 : PzT S S_45 D Gs s1 A (casF A) := PzT_tr (PzT_rf S D Gs s1 A) (PzT_mv hO.1 haGs ha_s1 (PzF_fr hO.1 ha_s1 hk_46.fr (by decide +kernel)) gs_cas.1 gs_cas.2 (fun c => cn_cas c))
    exact ret_gv X hw hr hlocks (by show 0 ≤ Phc S + 8; omega) (by show 0 ≤ Phs S + 15019; omega) (by omega) (by omega) ⟨hO_49, ⟨PotV_of (actF_0 (show a1.toInt = 0 by omega)) pv_52 pv_53 pv_54 pv_55 pv_56 pv_57 pv_58 pv_59 pv_60 pv_61 (inD_act pv_11), px_69, (PzT_e (actF_0 (show a1.toInt = 0 by omega)) pt_70)⟩⟩ dX4_act_84
  · refine lv_tableIn (tgt := 43) X.1 X.2.1 dX4_act_1 (by omega) (by omega) (by rw [w_22c]; rfl) (by decide) ?_
    refine lv_aload_n X.1 X.2.1 dX4_act_43 rfl (lv_at hl 0 rfl) ?_
    refine k_v (rm := { frames := 4, cells := 0, slots := 0, locals := 192 }) (av := [.ref x]) X hw (va_runV (As := []) (rest := []) (cfix X) (k_X4_dropThinnest5 l G cy κ S _ x D R0 R1 R2 Gs s1 A Ev hO.1 ha_x hp_0 hp_1 (PotV_of (rfl : A = A) pv_1 pv_2 pv_3 pv_4 pv_5 pv_6 pv_7 pv_8 pv_9 pv_10 pv_11) hp_3 ha_s1) (cwV 0 X.2.2.2.1 gX4_act_X4_dropThinnest rfl rfl rfl (by decide +kernel) ⟨Nat.le_of_ble_eq_true rfl, Nat.le_of_ble_eq_true rfl⟩) (pre_V X hw _ ha_x rfl (by decide) rfl) rfl rfl hl.1 rfl (lv_room (Nat.le_of_ble_eq_true rfl)) dX4_act_44 ⟨(by show 0 + 0 ≤ Phc S + 8; omega), (by show 0 + 0 ≤ Phs S + 15019; omega)⟩) 0 0 (by show 0 + 0 ≤ 0; omega) (by show 0 + 0 ≤ 0; omega) (fun S_72 H locs hp hw hfr hnw => ?_)
    obtain ⟨hk_73, hp⟩ := hp
    have ph_74 : 0 + Phc S_72 ≤ Phc S + 0 := by rw [show Phc S_72 = Phc S from Ph_ok hO.1 hk_73 (by decide +kernel) (by decide +kernel) (by decide +kernel)]; exact hpc0
    have ph_75 : 0 + Phs S_72 ≤ Phs S + 0 := by rw [show Phs S_72 = Phs S from Ph_ok hO.1 hk_73 (by decide +kernel) (by decide +kernel) (by decide +kernel)]; exact hps0
    clear hpc0
    clear hps0
    have hO_76 : Og eAC S S_72 := hO.call hk_73.og (by decide +kernel)
    obtain ⟨pv_77, hx_78⟩ := hp
    obtain ⟨pv_79, pv_80, pv_81, pv_82, pv_83, pv_84, pv_85, pv_86, pv_87, pv_88, pv_89⟩ := pv_77
    have t_90 : pI S_72 902 Gs = v_12 := hk_73.fr.I' (by decide +kernel) haGs ev_12
    have pz_91 : (pI S_72 902 Gs).toInt = v_12.toInt := (congrArg Int32.toInt t_90).trans rfl
    have t_92 : pI S_72 800 s1 = v_16 := hk_73.fr.I' (by decide +kernel) ha_s1 ev_16
    have pz_93 : (pI S_72 800 s1).toInt = v_16.toInt := (congrArg Int32.toInt t_92).trans rfl
    have sl_94 := pv_84.1
    have sl_95 := pv_87.1
    refine lv_goto (tgt := 84) X.1 X.2.1 dX4_act_47 (by decide) ?_
    have px_96 : PotX S S_72 x R0 R1 R2 Gs := PotX_tr (PotX_rf S x R0 R1 R2 Gs) (fun _ _ h => h) haR0 haR1 haR2 hx_78
    have pt_97 : PzT S S_72 D Gs s1 A (droF Ev A) := PzT_tr (PzT_rf S D Gs s1 A) (PzT_mv hO.1 haGs ha_s1 (PzF_fr hO.1 ha_s1 hk_73.fr (by decide +kernel)) gs_dro.1 gs_dro.2 (fun c => cn_dro c))
    exact ret_gv X hw hr hlocks (by show 0 ≤ Phc S + 8; omega) (by show 0 ≤ Phs S + 15019; omega) (by omega) (by omega) ⟨hO_76, ⟨PotV_of (actF_1 (show a1.toInt = 1 by omega)) pv_79 pv_80 pv_81 pv_82 pv_83 pv_84 pv_85 pv_86 pv_87 pv_88 (inD_act pv_11), px_96, (PzT_e (actF_1 (show a1.toInt = 1 by omega)) pt_97)⟩⟩ dX4_act_84
  · refine lv_tableIn (tgt := 50) X.1 X.2.1 dX4_act_1 (by omega) (by omega) (by rw [w_22c]; rfl) (by decide) ?_
    refine lv_aload_n X.1 X.2.1 dX4_act_50 rfl (lv_at hl 0 rfl) ?_
    refine k_v (rm := { frames := 4, cells := 0, slots := 0, locals := 192 }) (av := [.ref x]) X hw (va_runV (As := []) (rest := []) (cfix X) (k_X4_findFirst5 l G cy κ S _ x D R0 R1 R2 Gs s1 A Ev hO.1 ha_x hp_0 hp_1 (PotV_of (rfl : A = A) pv_1 pv_2 pv_3 pv_4 pv_5 pv_6 pv_7 pv_8 pv_9 pv_10 pv_11) hp_3 ha_s1) (cwV 0 X.2.2.2.1 gX4_act_X4_findFirst rfl rfl rfl (by decide +kernel) ⟨Nat.le_of_ble_eq_true rfl, Nat.le_of_ble_eq_true rfl⟩) (pre_V X hw _ ha_x rfl (by decide) rfl) rfl rfl hl.1 rfl (lv_room (Nat.le_of_ble_eq_true rfl)) dX4_act_51 ⟨(by show 0 + 0 ≤ Phc S + 8; omega), (by show 0 + 0 ≤ Phs S + 15019; omega)⟩) 0 0 (by show 0 + 0 ≤ 0; omega) (by show 0 + 0 ≤ 0; omega) (fun S_99 H locs hp hw hfr hnw => ?_)
    obtain ⟨hk_100, hp⟩ := hp
    have ph_101 : 0 + Phc S_99 ≤ Phc S + 0 := by rw [show Phc S_99 = Phc S from Ph_ok hO.1 hk_100 (by decide +kernel) (by decide +kernel) (by decide +kernel)]; exact hpc0
    have ph_102 : 0 + Phs S_99 ≤ Phs S + 0 := by rw [show Phs S_99 = Phs S from Ph_ok hO.1 hk_100 (by decide +kernel) (by decide +kernel) (by decide +kernel)]; exact hps0
    clear hpc0
    clear hps0
    have hO_103 : Og eAC S S_99 := hO.call hk_100.og (by decide +kernel)
    obtain ⟨pv_104, hx_105⟩ := hp
    obtain ⟨pv_106, pv_107, pv_108, pv_109, pv_110, pv_111, pv_112, pv_113, pv_114, pv_115, pv_116⟩ := pv_104
    have t_117 : pI S_99 902 Gs = v_12 := hk_100.fr.I' (by decide +kernel) haGs ev_12
    have pz_118 : (pI S_99 902 Gs).toInt = v_12.toInt := (congrArg Int32.toInt t_117).trans rfl
    have t_119 : pI S_99 800 s1 = v_16 := hk_100.fr.I' (by decide +kernel) ha_s1 ev_16
    have pz_120 : (pI S_99 800 s1).toInt = v_16.toInt := (congrArg Int32.toInt t_119).trans rfl
    have sl_121 := pv_111.1
    have sl_122 := pv_114.1
    refine lv_goto (tgt := 84) X.1 X.2.1 dX4_act_54 (by decide) ?_
    have px_123 : PotX S S_99 x R0 R1 R2 Gs := PotX_tr (PotX_rf S x R0 R1 R2 Gs) (fun _ _ h => h) haR0 haR1 haR2 hx_105
    have pt_124 : PzT S S_99 D Gs s1 A (fndF A) := PzT_tr (PzT_rf S D Gs s1 A) (PzT_mv hO.1 haGs ha_s1 (PzF_fr hO.1 ha_s1 hk_100.fr (by decide +kernel)) gs_fnd.1 gs_fnd.2 (fun c => cn_fnd c))
    exact ret_gv X hw hr hlocks (by show 0 ≤ Phc S + 8; omega) (by show 0 ≤ Phs S + 15019; omega) (by omega) (by omega) ⟨hO_103, ⟨PotV_of (actF_2 (show a1.toInt = 2 by omega)) pv_106 pv_107 pv_108 pv_109 pv_110 pv_111 pv_112 pv_113 pv_114 pv_115 (inD_act pv_11), px_123, (PzT_e (actF_2 (show a1.toInt = 2 by omega)) pt_124)⟩⟩ dX4_act_84
  · refine lv_tableIn (tgt := 57) X.1 X.2.1 dX4_act_1 (by omega) (by omega) (by rw [w_22c]; rfl) (by decide) ?_
    refine lv_aload_n X.1 X.2.1 dX4_act_57 rfl (lv_at hl 0 rfl) ?_
    refine lv_aload_n X.1 X.2.1 dX4_act_58 rfl (lv_at hl 3 rfl) ?_
    refine k_v (rm := { frames := 4, cells := 0, slots := 0, locals := 192 }) (av := [.ref x, .ref s1]) X hw (va_runV (As := [.ref s1]) (rest := []) (cfix X) (k_X4_throwLast5 l G cy κ S _ x s1 D R0 R1 R2 Gs A Ev hO.1 ha_x ha_s1 hp_0 hp_1 (PotV_of (rfl : A = A) pv_1 pv_2 pv_3 pv_4 pv_5 pv_6 pv_7 pv_8 pv_9 pv_10 pv_11) hp_3) (cwV 1 X.2.2.2.1 gX4_act_X4_throwLast rfl rfl rfl (by decide +kernel) ⟨Nat.le_of_ble_eq_true rfl, Nat.le_of_ble_eq_true rfl⟩) (pre_V X hw _ ha_x rfl (by decide) rfl) rfl rfl hl.1 rfl (lv_room (Nat.le_of_ble_eq_true rfl)) dX4_act_59 ⟨(by show 0 + 0 ≤ Phc S + 8; omega), (by show 0 + 0 ≤ Phs S + 15019; omega)⟩) 0 0 (by show 0 + 0 ≤ 0; omega) (by show 0 + 0 ≤ 0; omega) (fun S_126 H locs hp hw hfr hnw => ?_)
    obtain ⟨hk_127, hp⟩ := hp
    have ph_128 : 0 + Phc S_126 ≤ Phc S + 0 := by rw [show Phc S_126 = Phc S from Ph_ok hO.1 hk_127 (by decide +kernel) (by decide +kernel) (by decide +kernel)]; exact hpc0
    have ph_129 : 0 + Phs S_126 ≤ Phs S + 0 := by rw [show Phs S_126 = Phs S from Ph_ok hO.1 hk_127 (by decide +kernel) (by decide +kernel) (by decide +kernel)]; exact hps0
    clear hpc0
    clear hps0
    have hO_130 : Og eAC S S_126 := hO.call hk_127.og (by decide +kernel)
    obtain ⟨pv_131, hx_132⟩ := hp
    obtain ⟨pv_133, pv_134, pv_135, pv_136, pv_137, pv_138, pv_139, pv_140, pv_141, pv_142, pv_143⟩ := pv_131
    have t_144 : pI S_126 902 Gs = v_12 := hk_127.fr.I' (by decide +kernel) haGs ev_12
    have pz_145 : (pI S_126 902 Gs).toInt = v_12.toInt := (congrArg Int32.toInt t_144).trans rfl
    have t_146 : pI S_126 800 s1 = v_16 := hk_127.fr.I' (by decide +kernel) ha_s1 ev_16
    have pz_147 : (pI S_126 800 s1).toInt = v_16.toInt := (congrArg Int32.toInt t_146).trans rfl
    have sl_148 := pv_138.1
    have sl_149 := pv_141.1
    refine lv_goto (tgt := 84) X.1 X.2.1 dX4_act_62 (by decide) ?_
    have px_150 : PotX S S_126 x R0 R1 R2 Gs := PotX_tr (PotX_rf S x R0 R1 R2 Gs) (fun _ _ h => h) haR0 haR1 haR2 hx_132
    have pt_151 : PzT S S_126 D Gs s1 A (throF A) := PzT_tr (PzT_rf S D Gs s1 A) (PzT_mv hO.1 haGs ha_s1 (PzF_fr hO.1 ha_s1 hk_127.fr (by decide +kernel)) gs_thr.1 gs_thr.2 (fun c => cn_thr c))
    exact ret_gv X hw hr hlocks (by show 0 ≤ Phc S + 8; omega) (by show 0 ≤ Phs S + 15019; omega) (by omega) (by omega) ⟨hO_130, ⟨PotV_of (actF_3 (show a1.toInt = 3 by omega)) pv_133 pv_134 pv_135 pv_136 pv_137 pv_138 pv_139 pv_140 pv_141 pv_142 (inD_act pv_11), px_150, (PzT_e (actF_3 (show a1.toInt = 3 by omega)) pt_151)⟩⟩ dX4_act_84
  · refine lv_tableIn (tgt := 65) X.1 X.2.1 dX4_act_1 (by omega) (by omega) (by rw [w_22c]; rfl) (by decide) ?_
    refine lv_aload_n X.1 X.2.1 dX4_act_65 rfl (lv_at hl 0 rfl) ?_
    refine lv_aload_n X.1 X.2.1 dX4_act_66 rfl (lv_at hl 3 rfl) ?_
    refine k_gi (kc := 0) (ks := 0) (rm := { frames := 5, cells := Phc S + 8, slots := Phs S + 15019, locals := 240 }) (av := [.ref x, .ref s1]) X hw (va_runV (As := [.ref s1]) (rest := []) (cfix X) (k_X4_cutStrand5 l G cy κ S _ _ x s1 D R0 R1 R2 Gs A Ev hO.1 ha_x ha_s1 hp_0 hp_1 (PotV_of (rfl : A = A) pv_1 pv_2 pv_3 pv_4 pv_5 pv_6 pv_7 pv_8 pv_9 pv_10 pv_11) hp_3) (cwV 1 X.2.2.2.1 gX4_act_X4_cutStrand rfl rfl rfl (by decide +kernel) ⟨Nat.le_of_ble_eq_true rfl, Nat.le_of_ble_eq_true rfl⟩) (pre_gV X hw _ ha_x rfl (by decide) rfl) rfl rfl hl.1 rfl (lv_room (Nat.le_of_ble_eq_true rfl)) dX4_act_67 ⟨(by show 0 + (Phc S + 8) ≤ Phc S + 8; omega), (by show 0 + (Phs S + 15019) ≤ Phs S + 15019; omega)⟩) (fun rr_152 S_153 H locs c_154 n_155 hc_154 hn_155 hp hw => ?_)
    obtain ⟨hk_156, hp⟩ := hp
    have ph_157 : c_154 + Phc S_153 ≤ Phc S + 0 := by omega
    have ph_158 : n_155 + Phs S_153 ≤ Phs S + 0 := by omega
    clear hpc0
    clear hps0
    clear hc_154
    clear hn_155
    have hO_159 : Og eAC S S_153 := hO.call hk_156 (by decide +kernel)
    obtain ⟨cu_160, cu_161, cu_162, cu_163, cu_164, cz_165⟩ := hp
    obtain ⟨pv_166, pv_167, pv_168, pv_169, pv_170, pv_171, pv_172, pv_173, pv_174, pv_175, pv_176⟩ := cu_162
    obtain ⟨v_178, ev_178⟩ : ∃ v, pI S_153 902 Gs = v := ⟨_, rfl⟩
    have t_180 : At S_153 Gs 29 := hk_156.fr.at haGs
    have rg_179 := gI_29_902 hO_159.1 t_180; rw [ev_178] at rg_179
    have pz_181 : (pI S_153 902 Gs).toInt = v_178.toInt := by rw [ev_178]
    have pz_182 : (pI S_153 902 Gs).toInt = v_178.toInt := (congrArg Int32.toInt ev_178).trans rfl
    obtain ⟨v_184, ev_184⟩ : ∃ v, pI S_153 800 s1 = v := ⟨_, rfl⟩
    have t_186 : At S_153 s1 8 := hk_156.fr.at ha_s1
    have rg_185 := gI_8_800 hO_159.1 t_186; rw [ev_184] at rg_185
    have pz_187 : (pI S_153 800 s1).toInt = v_184.toInt := by rw [ev_184]
    have pz_188 : (pI S_153 800 s1).toInt = v_184.toInt := (congrArg Int32.toInt ev_184).trans rfl
    have sl_189 := pv_171.1
    have sl_190 := pv_174.1
    refine lv_pop X.1 X.2.1 dX4_act_70 rfl ?_
    refine lv_goto (tgt := 84) X.1 X.2.1 dX4_act_71 (by decide) ?_
    have px_191 : PotX S S_153 x R0 R1 R2 Gs := PotX_tr (PotX_rf S x R0 R1 R2 Gs) (fun _ _ h => h) haR0 haR1 haR2 cu_163
    have pt_192 : PzT S S_153 D Gs s1 A (cutF Ev A) := PzT_tr (PzT_rf S D Gs s1 A) (PzT_c cz_165)
    exact ret_gv X hw hr hlocks (by show c_154 ≤ Phc S + 8; omega) (by show n_155 ≤ Phs S + 15019; omega) (by omega) (by omega) ⟨hO_159, ⟨PotV_of (actF_4 (show a1.toInt = 4 by omega)) pv_166 pv_167 pv_168 pv_169 pv_170 pv_171 pv_172 pv_173 pv_174 pv_175 (inD_act pv_11), px_191, (PzT_e (actF_4 (show a1.toInt = 4 by omega)) pt_192)⟩⟩ dX4_act_84
set_option maxHeartbeats 4000000 in
set_option maxRecDepth 100000 in
theorem k_X4_allHold5 (l : Launch) (G : va_G) (cy : Nat → ClassId) (κ : Nat → Nat) (S : PS) (sz : Nat) (x : Nat) (a1 : Int32) (a1_z : Int) (a2 : Int32) (a2_z : Int) (D : Nat → Prop) (R0 : Nat) (R1 : Nat) (R2 : Nat) (Gs : Nat) (Ks : Nat) (A : Pt) (Ev : En) (Rl : List Ru) (ru : Ru) (hG : GX S) (ha_x : At S x 4) (hz_a1 : a1.toInt = a1_z) (hz_a2 : a2.toInt = a2_z) (hp_0 : (∀ c, D c → At S c 0)) (hp_1 : PotR S x R0 R1 R2 Gs) (hp_2 : PotV S D x R0 R1 R2 Gs Ks A) (hp_3 : EnC S D x Ks Ev) (hp_4 : At S Ks 8) (hp_5 : a2 = eday Ev) (hp_6 : 0 ≤ a1_z) (hp_7 : a1_z ≤ 11) (hp_8 : RuS S x Rl) (hp_9 : Rl[a1_z.toNat]? = some ru) : Ci l yX4_allHold wsX4_allHold ({ frames := 5, cells := 0, slots := 0, locals := 240 }) G cy κ S sz [.ref x, .int (a1), .int (a2)] (fun (r : Int32) (S9 : PS) => S = S9 ∧ (((allP Ev A ru.2.2) ∧ r = 1) ∨ ((¬ allP Ev A ru.2.2) ∧ r = 0))) := by
  refine ent_m (cc := cX4_allHold) (maxL := 6) (ret := (some .boolean)) (by decide) rfl (Nat.le_of_ble_eq_true rfl) ?_
  intro p e s m below meth c ls X hr hlocks hin hw hl hsz
  subst hsz
  have X : Cx p c cX4_allHold 6 s [.ref x, .int (a1), .int (a2)].toArray wsX4_allHold RX4 m G cy κ (AS S s.heap.size) := X
  have hl : lv_has ls 6 [(0, .ref x), (1, .int (a1)), (2, .int (a2))] := hl
  have rg_a1 : (-2147483648) ≤ a1_z ∧ a1_z ≤ 2147483647 := by rw [← hz_a1]; exact ⟨z_lo _, z_hi _⟩
  have rg_a2 : (-2147483648) ≤ a2_z ∧ a2_z ≤ 2147483647 := by rw [← hz_a2]; exact ⟨z_lo _, z_hi _⟩
  generalize hQQ : MQ below _ _ _ _ _ _ = QQ
  replace hQQ := hQQ.symm
  have hpr := hp_1
  obtain ⟨hr0, hr1, hr2, hr3, hne, hcn⟩ := hpr
  have haR0 := row_at hG ha_x (Or.inl hr0)
  have haR1 := row_at hG ha_x (Or.inr (Or.inl hr1))
  have haR2 := row_at hG ha_x (Or.inr (Or.inr hr2))
  have haGs : At S Gs 29 := by obtain ⟨c, k1, k2⟩ := gQ_4_403 hG ha_x; have h3 := hr3; rw [k1] at h3; cases h3; exact k2
  have hpv := hp_2
  obtain ⟨pv_1, pv_2, pv_3, pv_4, pv_5, pv_6, pv_7, pv_8, pv_9, pv_10, pv_11⟩ := hpv
  obtain ⟨v_12, ev_12⟩ : ∃ v, pI S 902 Gs = v := ⟨_, rfl⟩
  have rg_13 := gI_29_902 hG haGs; rw [ev_12] at rg_13
  have pz_14 : (pI S 902 Gs).toInt = v_12.toInt := by rw [ev_12]
  have pz_15 : (pI S 902 Gs).toInt = v_12.toInt := (congrArg Int32.toInt ev_12).trans rfl
  obtain ⟨v_16, ev_16⟩ : ∃ v, pI S 800 Ks = v := ⟨_, rfl⟩
  have rg_17 := gI_8_800 hG hp_4; rw [ev_16] at rg_17
  have pz_18 : (pI S 800 Ks).toInt = v_16.toInt := by rw [ev_16]
  have pz_19 : (pI S 800 Ks).toInt = v_16.toInt := (congrArg Int32.toInt ev_16).trans rfl
  have sl_20 := pv_6.1
  have sl_21 := pv_9.1
  have hrs := hp_8
  obtain ⟨rh, hrh, hru1, hru2⟩ := hrs
  have harh := ru_at hG ha_x hrh
  obtain ⟨hA1, hA2, hA3, hA4⟩ := hru2 _ _ hp_9
  refine lv_iload_n X.1 X.2.1 dX4_allHold_0 rfl (lv_at hl 1 rfl) ?_
  refine lv_iconst (v := 4) X.1 X.2.1 dX4_allHold_1 (by decide) ?_
  refine lv_imul X.1 X.2.1 dX4_allHold_2 ?_
  refine lv_topi (fun v_22 ev_22 => ?_)
  have z_23 : v_22.toInt = a1_z * 4 := z_mul ev_22 hz_a1 ti_4 (by omega) (by omega)
  refine lv_istore_n (lv' := [(3, .int (v_22)), (0, .ref x), (1, .int (a1)), (2, .int (a2))]) X.1 X.2.1 dX4_allHold_3 rfl hl (by decide) rfl (fun ls hl => ?_)
  refine lv_iload_n X.1 X.2.1 dX4_allHold_4 rfl (lv_at hl 0 rfl) ?_
  refine lv_istore (lv' := [(4, .int (v_22)), (3, .int (v_22)), (0, .ref x), (1, .int (a1)), (2, .int (a2))]) X.1 X.2.1 dX4_allHold_5 hl (by decide) rfl (fun ls hl => ?_)
  have L_24 : ∀ (n : Nat) (H : Heap) (locs : List Loc) (ls : Array Slot) (i4_25 : Int32) (i4_25_z : Int), ((48 - i4_25_z).toNat = n) → (Wd G cy (AS S s.heap.size) s.heap S H locs) → (i4_25.toInt = i4_25_z) → (0 ≤ i4_25_z ∧ i4_25_z ≤ 48) → ((∀ (j : Nat) (c : Int32 × Int32 × Int32), 4 * a1_z + (j : Int) < i4_25_z → ru.2.2[j]? = some c → relP c.2.1 (valF Ev A c.1) c.2.2.toInt)) → (4 * a1_z ≤ i4_25_z) → (lv_has ls 6 [(4, .int (i4_25)), (3, .int (v_22)), (0, .ref x), (1, .int (a1)), (2, .int (a2))]) → W p l e ({ frames := 5, cells := 0, slots := 0, locals := 240 }) s m [.ref x, .int (a1), .int (a2)].toArray below meth c H locs 0 0 QQ (F0 m 7 ls []) := by
    intro n
    induction n using Nat.strongRecOn with
    | ind n ih =>
    intro H locs ls i4_25 i4_25_z hn hw hz_i4_25 hr_i4_25 iv_26 iv_27 hl
    have rg_28 : (-2147483648) ≤ i4_25_z ∧ i4_25_z ≤ 2147483647 := by rw [← hz_i4_25]; exact ⟨z_lo _, z_hi _⟩
    refine lv_iload X.1 X.2.1 dX4_allHold_7 (lv_at hl 0 rfl) ?_
    refine lv_iload_n X.1 X.2.1 dX4_allHold_9 rfl (lv_at hl 1 rfl) ?_
    refine lv_aload_n X.1 X.2.1 dX4_allHold_10 rfl (lv_at hl 2 rfl) ?_
    refine r_getR (g := 409) X hw ha_x rfl 9 hrh (by decide) rfl inn_X4_allHold_4 (by decide) (X.2.2.2.1 (.fieldLink RX4 36 "SilkMill$Pot" "rules" "LSilkMill$Rules;") (by decide +kernel)) rfl (gv_409 _ _) dX4_allHold_11 ?_
    obtain ⟨q_29, h_30, h_31, h_32⟩ := gQ_6_603 hG harh
    refine r_getR (g := 603) X hw harh rfl 3 h_30 (by decide) rfl inn_X4_allHold_6 (by decide) (X.2.2.2.1 (.fieldLink RX4 120 "SilkMill$Rules" "conditions" "[I") (by decide +kernel)) rfl (gv_603 _ _) dX4_allHold_14 ?_
    refine lv_iload_n X.1 X.2.1 dX4_allHold_17 rfl (lv_at hl 3 rfl) ?_
    refine r_iald X hw h_31 rfl (by rw [h_32]; exact z_ix hz_a1 (by omega) (by omega)) dX4_allHold_18 ?_
    refine lv_topi (fun v_33 ev_33 => ?_)
    have z_34 := gE_34 hG h_31 (Int32.toNatClampNeg (a1)); rw [← ev_33] at z_34
    have ev_33 := ev_33.symm
    have cn_35 : (v_33).toInt = (ru.2.2.length : Int) := by rw [← hA3, mA_eq h_30, ← z_nc hz_a1 (by omega), ev_33]
    have cn_36 : v_33.toInt = (ru.2.2.length : Int) := cn_35
    refine lv_iadd X.1 X.2.1 dX4_allHold_19 ?_
    refine lv_topi (fun v_37 ev_37 => ?_)
    have z_38 : v_37.toInt = v_22.toInt + v_33.toInt := z_add ev_37 rfl rfl (by omega) (by omega)
    refine lv_icmp_ge (tgt := 76) X.1 X.2.1 dX4_allHold_20 (by decide) (fun c_39 => ?_) (fun c_39 => ?_)
    · have z_b_40 := trivial
      have k_41 : i4_25_z ≥ v_37.toInt := z_le rfl hz_i4_25 c_39
      refine lv_iconst (v := 1) X.1 X.2.1 dX4_allHold_76 (by decide) ?_
      rw [hQQ]
      exact ret_z X hw hr hlocks (Nat.le_of_ble_eq_true rfl) (Nat.le_of_ble_eq_true rfl) (by decide) ⟨rfl, Or.inl ⟨allP_of (fun j c hc => iv_26 j c (by have := (List.getElem?_eq_some_iff.mp hc).1; omega) hc), rfl⟩⟩ dX4_allHold_77
    · have z_b_42 := trivial
      have k_43 : i4_25_z < v_37.toInt := z_nle rfl hz_i4_25 c_39
      obtain ⟨cj_44, cj_45⟩ : ∃ c, ru.2.2[(i4_25_z - 4 * a1_z).toNat]? = some c := ⟨_, List.getElem?_eq_getElem (by omega)⟩
      obtain ⟨cj_46, cj_47, cj_48⟩ := hA4 _ _ cj_45
      refine lv_aload_n X.1 X.2.1 dX4_allHold_23 rfl (lv_at hl 2 rfl) ?_
      refine lv_aload_n X.1 X.2.1 dX4_allHold_24 rfl (lv_at hl 2 rfl) ?_
      refine r_getR (g := 409) X hw ha_x rfl 9 hrh (by decide) rfl inn_X4_allHold_4 (by decide) (X.2.2.2.1 (.fieldLink RX4 36 "SilkMill$Pot" "rules" "LSilkMill$Rules;") (by decide +kernel)) rfl (gv_409 _ _) dX4_allHold_25 ?_
      obtain ⟨q_49, h_50, h_51, h_52⟩ := gQ_6_604 hG harh
      refine r_getR (g := 604) X hw harh rfl 4 h_50 (by decide) rfl inn_X4_allHold_6 (by decide) (X.2.2.2.1 (.fieldLink RX4 123 "SilkMill$Rules" "fields" "[I") (by decide +kernel)) rfl (gv_604 _ _) dX4_allHold_28 ?_
      refine lv_iload X.1 X.2.1 dX4_allHold_31 (lv_at hl 0 rfl) ?_
      refine r_iald X hw h_51 rfl (by rw [h_52]; exact z_ix hz_i4_25 (by omega) (by omega)) dX4_allHold_33 ?_
      refine lv_topi (fun v_53 ev_53 => ?_)
      have rg_54 := And.intro (z_lo v_53) (z_hi v_53)
      have ev_53 := ev_53.symm
      have fj_55 : v_53 = cj_44.1 := by rw [← cj_46, mA_eq h_50, show 4 * a1_z.toNat + (i4_25_z - 4 * a1_z).toNat = Int32.toNatClampNeg (i4_25) from (by have hq := z_nc (x := i4_25) hz_i4_25 (by omega); omega), ev_53]
      refine lv_iload_n X.1 X.2.1 dX4_allHold_34 rfl (lv_at hl 4 rfl) ?_
      refine k_i (rm := { frames := 4, cells := 0, slots := 0, locals := 192 }) (av := [.ref x, .int (v_53), .int (a2)]) X hw (va_runV (As := [.int (v_53), .int (a2)]) (rest := []) (cfix X) (k_X4_valueOf5 l G cy κ S _ x (v_53) (v_53.toInt) (a2) (a2_z) D R0 R1 R2 Gs Ks A Ev hG ha_x rfl hz_a2 hp_0 hp_1 (PotV_of (rfl : A = A) pv_1 pv_2 pv_3 pv_4 pv_5 pv_6 pv_7 pv_8 pv_9 pv_10 pv_11) hp_3 hp_4 hp_5) (cwV 2 X.2.2.2.1 gX4_allHold_X4_valueOf rfl rfl rfl (by decide +kernel) ⟨Nat.le_of_ble_eq_true rfl, Nat.le_of_ble_eq_true rfl⟩) (pre_V X hw _ ha_x rfl (by decide) rfl) rfl rfl hl.1 rfl (lv_room (Nat.le_of_ble_eq_true rfl)) dX4_allHold_35 ⟨Nat.le_of_ble_eq_true rfl, Nat.le_of_ble_eq_true rfl⟩) 0 0 (Nat.le_of_ble_eq_true rfl) (Nat.le_of_ble_eq_true rfl) (fun rr_56 S_57 H locs hp hw hfr hnw => ?_)
      obtain ⟨e2, hp⟩ := hp
      subst e2
      obtain ⟨va_58, va_59, va_60⟩ := hp
      refine lv_istore (lv' := [(5, .int (rr_56)), (4, .int (i4_25)), (3, .int (v_22)), (0, .ref x), (1, .int (a1)), (2, .int (a2))]) X.1 X.2.1 dX4_allHold_38 hl (by decide) rfl (fun ls hl => ?_)
      refine lv_iload X.1 X.2.1 dX4_allHold_40 (lv_at hl 0 rfl) ?_
      refine lv_aload_n X.1 X.2.1 dX4_allHold_42 rfl (lv_at hl 3 rfl) ?_
      refine r_getR (g := 409) X hw ha_x rfl 9 hrh (by decide) rfl inn_X4_allHold_4 (by decide) (X.2.2.2.1 (.fieldLink RX4 36 "SilkMill$Pot" "rules" "LSilkMill$Rules;") (by decide +kernel)) rfl (gv_409 _ _) dX4_allHold_43 ?_
      obtain ⟨q_61, h_62, h_63, h_64⟩ := gQ_6_605 hG harh
      refine r_getR (g := 605) X hw harh rfl 5 h_62 (by decide) rfl inn_X4_allHold_6 (by decide) (X.2.2.2.1 (.fieldLink RX4 130 "SilkMill$Rules" "relations" "[I") (by decide +kernel)) rfl (gv_605 _ _) dX4_allHold_46 ?_
      refine lv_iload X.1 X.2.1 dX4_allHold_49 (lv_at hl 1 rfl) ?_
      refine r_iald X hw h_63 rfl (by rw [h_64]; exact z_ix hz_i4_25 (by omega) (by omega)) dX4_allHold_51 ?_
      refine lv_topi (fun v_65 ev_65 => ?_)
      have rg_66 := And.intro (z_lo v_65) (z_hi v_65)
      have ev_65 := ev_65.symm
      have fj_67 : v_65 = cj_44.2.1 := by rw [← cj_47, mA_eq h_62, show 4 * a1_z.toNat + (i4_25_z - 4 * a1_z).toNat = Int32.toNatClampNeg (i4_25) from (by have hq := z_nc (x := i4_25) hz_i4_25 (by omega); omega), ev_65]
      refine lv_aload_n X.1 X.2.1 dX4_allHold_52 rfl (lv_at hl 3 rfl) ?_
      refine r_getR (g := 409) X hw ha_x rfl 9 hrh (by decide) rfl inn_X4_allHold_4 (by decide) (X.2.2.2.1 (.fieldLink RX4 36 "SilkMill$Pot" "rules" "LSilkMill$Rules;") (by decide +kernel)) rfl (gv_409 _ _) dX4_allHold_53 ?_
      obtain ⟨q_68, h_69, h_70, h_71⟩ := gQ_6_606 hG harh
      refine r_getR (g := 606) X hw harh rfl 6 h_69 (by decide) rfl inn_X4_allHold_6 (by decide) (X.2.2.2.1 (.fieldLink RX4 133 "SilkMill$Rules" "numbers" "[I") (by decide +kernel)) rfl (gv_606 _ _) dX4_allHold_56 ?_
      refine lv_iload X.1 X.2.1 dX4_allHold_59 (lv_at hl 1 rfl) ?_
      refine r_iald X hw h_70 rfl (by rw [h_71]; exact z_ix hz_i4_25 (by omega) (by omega)) dX4_allHold_61 ?_
      refine lv_topi (fun v_72 ev_72 => ?_)
      have rg_73 := And.intro (z_lo v_72) (z_hi v_72)
      have ev_72 := ev_72.symm
      have fj_74 : v_72 = cj_44.2.2 := by rw [← cj_48, mA_eq h_69, show 4 * a1_z.toNat + (i4_25_z - 4 * a1_z).toNat = Int32.toNatClampNeg (i4_25) from (by have hq := z_nc (x := i4_25) hz_i4_25 (by omega); omega), ev_72]
      refine k_i (rm := { frames := 1, cells := 0, slots := 0, locals := 48 }) (av := [.int (rr_56), .int (v_65), .int (v_72)]) X hw (va_runS (As := [.int (rr_56), .int (v_65), .int (v_72)]) (rest := []) (cfix X) (k_X4_isRelated5 l G cy κ S _ (rr_56) (rr_56.toInt) (v_65) (v_65.toInt) (v_72) (v_72.toInt) hG rfl rfl rfl) (cwS 3 X.2.2.2.1 gX4_allHold_X4_isRelated rfl rfl rfl (by decide +kernel) ⟨Nat.le_of_ble_eq_true rfl, Nat.le_of_ble_eq_true rfl⟩) (pre_S X hw _) rfl rfl hl.1 rfl (lv_room (Nat.le_of_ble_eq_true rfl)) dX4_allHold_62 ⟨Nat.le_of_ble_eq_true rfl, Nat.le_of_ble_eq_true rfl⟩) 0 0 (Nat.le_of_ble_eq_true rfl) (Nat.le_of_ble_eq_true rfl) (fun rr_75 S_76 H locs hp hw hfr hnw => ?_)
      obtain ⟨e2, hp⟩ := hp
      subst e2
      rcases hp with ⟨f_77, er_78⟩ | ⟨f_77, er_78⟩ <;> subst er_78
      · have z_b_79 := trivial
        refine lv_if_ne (tgt := 70) X.1 X.2.1 dX4_allHold_65 (by decide) (fun c_80 => ?_) (fun c_80 => absurd c_80 (by decide))
        obtain ⟨x_81, ex_81⟩ : ∃ y : Int32, y = i4_25 + 1 := ⟨_, rfl⟩
        have z_82 : x_81.toInt = i4_25_z + 1 := z_add ex_81 hz_i4_25 ti_1 (by omega) (by omega)
        refine lv_iinc (v := x_81) (lv' := [(4, .int (x_81)), (5, .int (rr_56)), (3, .int (v_22)), (0, .ref x), (1, .int (a1)), (2, .int (a2))]) X.1 X.2.1 dX4_allHold_70 hl (k := 1) rfl (by rw [ex_81]; rfl) (by decide) rfl (fun ls hl => ?_)
        refine lv_goto (tgt := 7) X.1 X.2.1 dX4_allHold_73 (by decide) ?_
        have rl_83 : relP cj_44.2.1 (valF Ev A cj_44.1) cj_44.2.2.toInt := by have h := f_77; rw [fj_67, va_60, fj_55] at h; rw [← fj_74]; exact h
        exact ih _ (by omega) _ _ _ (x_81) (x_81.toInt) rfl hw rfl (by omega) (fun j c hj hc => by rcases (show 4 * a1_z + (j : Int) < i4_25_z ∨ j = (i4_25_z - 4 * a1_z).toNat by omega) with e | e; exact iv_26 j c e hc; rw [e, cj_45] at hc; cases hc; exact rl_83) (by omega) (lv_sub hl [0, 2, 3, 4, 5] rfl)
      · have z_b_84 := trivial
        refine lv_if_ne (tgt := 70) X.1 X.2.1 dX4_allHold_65 (by decide) (fun c_85 => absurd c_85 (by decide)) (fun c_85 => ?_)
        refine lv_iconst (v := 0) X.1 X.2.1 dX4_allHold_68 (by decide) ?_
        have rl_86 : ¬ relP cj_44.2.1 (valF Ev A cj_44.1) cj_44.2.2.toInt := by have h := f_77; rw [fj_67, va_60, fj_55] at h; rw [← fj_74]; exact h
        rw [hQQ]
        exact ret_z X hw hr hlocks (Nat.le_of_ble_eq_true rfl) (Nat.le_of_ble_eq_true rfl) (by decide) ⟨rfl, Or.inr ⟨fun h => rl_86 (h _ (List.mem_of_getElem? cj_45)), rfl⟩⟩ dX4_allHold_69
  exact L_24 _ _ _ _ (v_22) (v_22.toInt) rfl hw rfl (by omega) (fun j c h => absurd h (by omega)) (by omega) (lv_sub hl [0, 1, 2, 3, 4] rfl)
