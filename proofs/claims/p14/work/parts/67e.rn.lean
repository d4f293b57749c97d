
set_option maxHeartbeats 4000000 in
set_option maxRecDepth 100000 in
theorem k_X4_act5 (l : Launch) (G : va_G) (cy : Nat → ClassId) (κ : Nat → Nat) (S : PS) (sz hz : Nat) (x : Nat) (a1 : Int32) (a1_z : Int) (a2 : Int32) (a2_z : Int) (s1 : Nat) (D : Nat → Prop) (R0 : Nat) (R1 : Nat) (R2 : Nat) (Gs : Nat) (A : Pt) (Ev : En) (hG : GX S) (ha_x : At S x 4) (hz_a1 : a1.toInt = a1_z) (hz_a2 : a2.toInt = a2_z) (ha_s1 : At S s1 8) (hp_0 : (∀ c, D c → At S c 0)) (hp_1 : PotR S x R0 R1 R2 Gs) (hp_2 : PotV S D x R0 R1 R2 Gs s1 A) (hp_3 : EnC S D x s1 Ev) : Gv l yX4_act wsX4_act ({ frames := 6, cells := Phc S + 8, slots := Phs S + 15019, locals := 288 }) G cy κ S sz hz 0 0 [.ref x, .int (a1), .int (a2), .ref s1] (fun (S9 : PS) => Og eAC S S9 ∧ (PotV S9 D x R0 R1 R2 Gs s1 (actF Ev a1 a2 A) ∧ PotX S S9 x R0 R1 R2 Gs)) := by
  refine ent_g (cc := cX4_act) (maxL := 4) (ret := none) (by decide) rfl (Nat.le_of_ble_eq_true rfl) ?_
  intro p e s m below meth c ls X hr hlocks hin hw hl hsz hhz
  subst hsz hhz
  have X : Cx p c cX4_act 4 s [.ref x, .int (a1), .int (a2), .ref s1].toArray wsX4_act RX4 m G cy κ (AS S s.heap.size) := X
  have hl : lv_has ls 4 [(0, .ref x), (1, .int (a1)), (2, .int (a2)), (3, .ref s1)] := hl
  have rg_a1 : (-2147483648) ≤ a1_z ∧ a1_z ≤ 2147483647 := by rw [← hz_a1]; exact ⟨z_lo _, z_hi _⟩
  have rg_a2 : (-2147483648) ≤ a2_z ∧ a2_z ≤ 2147483647 := by rw [← hz_a2]; exact ⟨z_lo _, z_hi _⟩
  have hpc0 : 0 + Phc S ≤ Phc S + 0 := by omega
  have hps0 : 0 + Phs S ≤ Phs S + 0 := by omega
  have hO : Og eAC S S := Og.rf hG
  have hpr := hp_1
  obtain ⟨hr0, hr1, hr2, hr3, hne, hcn⟩ := hpr
  have haR0 := row_at hG ha_x (Or.inl hr0)
  have haR1 := row_at hG ha_x (Or.inr (Or.inl hr1))
  have haR2 := row_at hG ha_x (Or.inr (Or.inr hr2))
  have haGs : At S Gs 29 := by obtain ⟨c, k1, k2⟩ := gQ_4_403 hG ha_x; have h3 := hr3; rw [k1] at h3; cases h3; exact k2
  have hpv := hp_2
  obtain ⟨pv_1, pv_2, pv_3, pv_4, pv_5, pv_6, pv_7, pv_8, pv_9, pv_10, pv_11⟩ := hpv
  obtain ⟨v_12, ev_12⟩ : ∃ v, pI S 902 Gs = v := ⟨_, rfl⟩
  have rg_13 := gI_29_902 hO.1 haGs; rw [ev_12] at rg_13
  have pz_14 : (pI S 902 Gs).toInt = v_12.toInt := by rw [ev_12]
  have pz_15 : (pI S 902 Gs).toInt = v_12.toInt := (congrArg Int32.toInt ev_12).trans rfl
  obtain ⟨v_16, ev_16⟩ : ∃ v, pI S 800 s1 = v := ⟨_, rfl⟩
  have rg_17 := gI_8_800 hO.1 ha_s1; rw [ev_16] at rg_17
  have pz_18 : (pI S 800 s1).toInt = v_16.toInt := by rw [ev_16]
  have pz_19 : (pI S 800 s1).toInt = v_16.toInt := (congrArg Int32.toInt ev_16).trans rfl
  refine lv_iload_n X.1 X.2.1 dX4_act_0 rfl (lv_at hl 1 rfl) ?_
  by_cases w_20 : (a1).toInt < 0 ∨ 4 < (a1).toInt
  · refine lv_tableOut (tgt := 74) X.1 X.2.1 dX4_act_1 w_20 (by decide) ?_
    refine lv_aload_n X.1 X.2.1 dX4_act_74 rfl (lv_at hl 0 rfl) ?_
    refine lv_dup X.1 X.2.1 dX4_act_75 rfl ?_
    refine r_getI (g := 405) (x := (qst A)) X hw ha_x rfl 5 pv_4 (by decide) rfl inn_X4_act_4 (by decide) (X.2.2.2.1 (.fieldLink RX4 66 "SilkMill$Pot" "stop" "I") (by decide +kernel)) rfl (gv_405 _ _) dX4_act_76 ?_
    refine lv_iload_n X.1 X.2.1 dX4_act_79 rfl (lv_at hl 2 rfl) ?_
    refine lv_iadd X.1 X.2.1 dX4_act_80 ?_
    refine lv_topi (fun v_21 ev_21 => ?_)
    have rg_22 := And.intro (z_lo v_21) (z_hi v_21)
    refine r_putI (v := v_21) X hw ha_x rfl 5 405 tyX4 (by decide) rfl inn_X4_act_4 tyX4_ok nmX4 (by decide) (X.2.2.2.1 (.fieldLink RX4 66 "SilkMill$Pot" "stop" "I") (by decide +kernel)) rfl (Or.inl rfl) rfl rfl (Nat.le_of_ble_eq_true rfl) (st_405 _ _) dX4_act_81 (fun H locs hw => ?_)
    obtain ⟨S_23, eS_23⟩ : ∃ T, T = sI S 405 x (v_21) := ⟨_, rfl⟩
    rw [← eS_23] at hw
    have ph_24 : 0 + Phc S_23 ≤ Phc S + 0 := by rw [show Phc S_23 = Phc S from Ph_sI eS_23 rfl rfl]; exact hpc0
    have ph_25 : 0 + Phs S_23 ≤ Phs S + 0 := by rw [show Phs S_23 = Phs S from Ph_sI eS_23 rfl rfl]; exact hps0
    clear hpc0
    clear hps0
    have hO_26 : Og eAC S S_23 := hO.sI eS_23 (by decide +kernel) (uI_4_405 hO.1 ha_x)
    have h_27 : pI S_23 405 x = v_21 := tI_sIs eS_23
    have rw_28 : RowIs S_23 R0 (qb A) 600 := RowIs_sI pv_1 eS_23 (by decide) (by decide)
    have rw_29 : RowIs S_23 R1 (qe A) 12 := RowIs_sI pv_2 eS_23 (by decide) (by decide)
    have rw_30 : RowIs S_23 R2 (ql A) 600 := RowIs_sI pv_3 eS_23 (by decide) (by decide)
    have co_31 : CoP S_23 D (qpl A) (qsd A) := CoP_sI pv_10 eS_23 (by decide) (by decide)
    have t_32 : pI S_23 406 x = (qse A) := tI_sI eS_23 rfl pv_5
    have t_33 : pI S_23 902 Gs = v_12 := tI_sI eS_23 rfl ev_12
    have pz_34 : (pI S_23 902 Gs).toInt = v_12.toInt := (congrArg Int32.toInt t_33).trans rfl
    have t_35 : pI S_23 407 x = (qdr A) := tI_sI eS_23 rfl pv_7
    have t_36 : pI S_23 408 x = (qtk A) := tI_sI eS_23 rfl pv_8
    have t_37 : pI S_23 800 s1 = v_16 := tI_sI eS_23 rfl ev_16
    have pz_38 : (pI S_23 800 s1).toInt = v_16.toInt := (congrArg Int32.toInt t_37).trans rfl
    have px_39 : PotX S S_23 x R0 R1 R2 Gs := PotX_sx (PotX_rf S x R0 R1 R2 Gs) eS_23 (by decide)
    exact ret_gv X hw hr hlocks (by show 0 ≤ Phc S + 8; omega) (by show 0 ≤ Phs S + 15019; omega) (by omega) (by omega) ⟨hO_26, ⟨PotV_of (actF_d hz_a1 (by omega)) rw_28 rw_29 rw_30 (h_27.trans ev_21) t_32 (show (pI S_23 902 Gs).toInt = (((qg A)).length : Int) by omega) t_35 t_36 (show (pI S_23 800 s1).toInt = (((qsk A)).length : Int) by omega) co_31 (inD_act pv_11), px_39⟩⟩ dX4_act_84
  have w_20b : (a1).toInt = 0 ∨ (a1).toInt = 1 ∨ (a1).toInt = 2 ∨ (a1).toInt = 3 ∨ (a1).toInt = 4 := by omega
  rcases w_20b with w_20c | w_20c | w_20c | w_20c | w_20c
  · refine lv_tableIn (tgt := 36) X.1 X.2.1 dX4_act_1 (by omega) (by omega) (by rw [w_20c]; rfl) (by decide) ?_
    refine lv_aload_n X.1 X.2.1 dX4_act_36 rfl (lv_at hl 0 rfl) ?_
    have pz_40 : (pI S 902 Gs).toInt = v_12.toInt := (congrArg Int32.toInt ev_12).trans rfl
    have pz_41 : (pI S 800 s1).toInt = v_16.toInt := (congrArg Int32.toInt ev_16).trans rfl
    refine k_v (rm := { frames := 3, cells := 0, slots := 0, locals := 144 }) (av := [.ref x]) X hw (va_runV (As := []) (rest := []) (cfix X) (k_X4_castFirst5 l G cy κ S _ x D R0 R1 R2 Gs s1 A Ev hO.1 ha_x hp_0 hp_1 (PotV_of (rfl : A = A) pv_1 pv_2 pv_3 pv_4 pv_5 (show (pI S 902 Gs).toInt = (((qg A)).length : Int) by omega) pv_7 pv_8 (show (pI S 800 s1).toInt = (((qsk A)).length : Int) by omega) pv_10 pv_11) hp_3 ha_s1) (cwV 0 X.2.2.2.1 gX4_act_X4_castFirst rfl rfl rfl (by decide +kernel) ⟨Nat.le_of_ble_eq_true rfl, Nat.le_of_ble_eq_true rfl⟩) (pre_V X hw _ ha_x rfl (by decide) rfl) rfl rfl hl.1 rfl (lv_room (Nat.le_of_ble_eq_true rfl)) dX4_act_37 ⟨(by show 0 + 0 ≤ Phc S + 8; omega), (by show 0 + 0 ≤ Phs S + 15019; omega)⟩) 0 0 (by show 0 + 0 ≤ 0; omega) (by show 0 + 0 ≤ 0; omega) (fun S_43 H locs hp hw hfr hnw => ?_)
    obtain ⟨hk_44, hp⟩ := hp
    have ph_45 : 0 + Phc S_43 ≤ Phc S + 0 := by rw [show Phc S_43 = Phc S from Ph_ok hO.1 hk_44 (by decide +kernel) (by decide +kernel) (by decide +kernel)]; exact hpc0
    have ph_46 : 0 + Phs S_43 ≤ Phs S + 0 := by rw [show Phs S_43 = Phs S from Ph_ok hO.1 hk_44 (by decide +kernel) (by decide +kernel) (by decide +kernel)]; exact hps0
    clear hpc0
    clear hps0
    have hO_47 : Og eAC S S_43 := hO.call hk_44.og (by decide +kernel)
    obtain ⟨pv_48, hx_49⟩ := hp
    obtain ⟨pv_50, pv_51, pv_52, pv_53, pv_54, pv_55, pv_56, pv_57, pv_58, pv_59, pv_60⟩ := pv_48
    have t_61 : pI S_43 902 Gs = v_12 := hk_44.fr.I' (by decide +kernel) haGs ev_12
    have pz_62 : (pI S_43 902 Gs).toInt = v_12.toInt := (congrArg Int32.toInt t_61).trans rfl
    have t_63 : pI S_43 800 s1 = v_16 := hk_44.fr.I' (by decide +kernel) ha_s1 ev_16
    have pz_64 : (pI S_43 800 s1).toInt = v_16.toInt := (congrArg Int32.toInt t_63).trans rfl
    refine lv_goto (tgt := 84) X.1 X.2.1 dX4_act_40 (by decide) ?_
    have pz_65 : (pI S_43 902 Gs).toInt = v_12.toInt := (congrArg Int32.toInt t_61).trans rfl
    have pz_66 : (pI S_43 800 s1).toInt = v_16.toInt := (congrArg Int32.toInt t_63).trans rfl
    have px_67 : PotX S S_43 x R0 R1 R2 Gs := PotX_tr (PotX_rf S x R0 R1 R2 Gs) (fun _ _ h => h) haR0 haR1 haR2 hx_49
    exact ret_gv X hw hr hlocks (by show 0 ≤ Phc S + 8; omega) (by show 0 ≤ Phs S + 15019; omega) (by omega) (by omega) ⟨hO_47, ⟨PotV_of (actF_0 (show a1.toInt = 0 by omega)) pv_50 pv_51 pv_52 pv_53 pv_54 (show (pI S_43 902 Gs).toInt = (((qg (casF A))).length : Int) by omega) pv_56 pv_57 (show (pI S_43 800 s1).toInt = (((qsk (casF A))).length : Int) by omega) pv_59 (inD_act pv_11), px_67⟩⟩ dX4_act_84
  · refine lv_tableIn (tgt := 43) X.1 X.2.1 dX4_act_1 (by omega) (by omega) (by rw [w_20c]; rfl) (by decide) ?_
    refine lv_aload_n X.1 X.2.1 dX4_act_43 rfl (lv_at hl 0 rfl) ?_
    have pz_68 : (pI S 902 Gs).toInt = v_12.toInt := (congrArg Int32.toInt ev_12).trans rfl
    have pz_69 : (pI S 800 s1).toInt = v_16.toInt := (congrArg Int32.toInt ev_16).trans rfl
    refine k_v (rm := { frames := 4, cells := 0, slots := 0, locals := 192 }) (av := [.ref x]) X hw (va_runV (As := []) (rest := []) (cfix X) (k_X4_dropThinnest5 l G cy κ S _ x D R0 R1 R2 Gs s1 A Ev hO.1 ha_x hp_0 hp_1 (PotV_of (rfl : A = A) pv_1 pv_2 pv_3 pv_4 pv_5 (show (pI S 902 Gs).toInt = (((qg A)).length : Int) by omega) pv_7 pv_8 (show (pI S 800 s1).toInt = (((qsk A)).length : Int) by omega) pv_10 pv_11) hp_3 ha_s1) (cwV 0 X.2.2.2.1 gX4_act_X4_dropThinnest rfl rfl rfl (by decide +kernel) ⟨Nat.le_of_ble_eq_true rfl, Nat.le_of_ble_eq_true rfl⟩) (pre_V X hw _ ha_x rfl (by decide) rfl) rfl rfl hl.1 rfl (lv_room (Nat.le_of_ble_eq_true rfl)) dX4_act_44 ⟨(by show 0 + 0 ≤ Phc S + 8; omega), (by show 0 + 0 ≤ Phs S + 15019; omega)⟩) 0 0 (by show 0 + 0 ≤ 0; omega) (by show 0 + 0 ≤ 0; omega) (fun S_71 H locs hp hw hfr hnw => ?_)
    obtain ⟨hk_72, hp⟩ := hp
    have ph_73 : 0 + Phc S_71 ≤ Phc S + 0 := by rw [show Phc S_71 = Phc S from Ph_ok hO.1 hk_72 (by decide +kernel) (by decide +kernel) (by decide +kernel)]; exact hpc0
    have ph_74 : 0 + Phs S_71 ≤ Phs S + 0 := by rw [show Phs S_71 = Phs S from Ph_ok hO.1 hk_72 (by decide +kernel) (by decide +kernel) (by decide +kernel)]; exact hps0
    clear hpc0
    clear hps0
    have hO_75 : Og eAC S S_71 := hO.call hk_72.og (by decide +kernel)
    obtain ⟨pv_76, hx_77⟩ := hp
    obtain ⟨pv_78, pv_79, pv_80, pv_81, pv_82, pv_83, pv_84, pv_85, pv_86, pv_87, pv_88⟩ := pv_76
    have t_89 : pI S_71 902 Gs = v_12 := hk_72.fr.I' (by decide +kernel) haGs ev_12
    have pz_90 : (pI S_71 902 Gs).toInt = v_12.toInt := (congrArg Int32.toInt t_89).trans rfl
    have t_91 : pI S_71 800 s1 = v_16 := hk_72.fr.I' (by decide +kernel) ha_s1 ev_16
    have pz_92 : (pI S_71 800 s1).toInt = v_16.toInt := (congrArg Int32.toInt t_91).trans rfl
    refine lv_goto (tgt := 84) X.1 X.2.1 dX4_act_47 (by decide) ?_
    have pz_93 : (pI S_71 902 Gs).toInt = v_12.toInt := (congrArg Int32.toInt t_89).trans rfl
    have pz_94 : (pI S_71 800 s1).toInt = v_16.toInt := (congrArg Int32.toInt t_91).trans rfl
    have px_95 : PotX S S_71 x R0 R1 R2 Gs := PotX_tr (PotX_rf S x R0 R1 R2 Gs) (fun _ _ h => h) haR0 haR1 haR2 hx_77
    exact ret_gv X hw hr hlocks (by show 0 ≤ Phc S + 8; omega) (by show 0 ≤ Phs S + 15019; omega) (by omega) (by omega) ⟨hO_75, ⟨PotV_of (actF_1 (show a1.toInt = 1 by omega)) pv_78 pv_79 pv_80 pv_81 pv_82 (show (pI S_71 902 Gs).toInt = (((qg (droF Ev A))).length : Int) by omega) pv_84 pv_85 (show (pI S_71 800 s1).toInt = (((qsk (droF Ev A))).length : Int) by omega) pv_87 (inD_act pv_11), px_95⟩⟩ dX4_act_84
  · refine lv_tableIn (tgt := 50) X.1 X.2.1 dX4_act_1 (by omega) (by omega) (by rw [w_20c]; rfl) (by decide) ?_
    refine lv_aload_n X.1 X.2.1 dX4_act_50 rfl (lv_at hl 0 rfl) ?_
    have pz_96 : (pI S 902 Gs).toInt = v_12.toInt := (congrArg Int32.toInt ev_12).trans rfl
    have pz_97 : (pI S 800 s1).toInt = v_16.toInt := (congrArg Int32.toInt ev_16).trans rfl
    refine k_v (rm := { frames := 4, cells := 0, slots := 0, locals := 192 }) (av := [.ref x]) X hw (va_runV (As := []) (rest := []) (cfix X) (k_X4_findFirst5 l G cy κ S _ x D R0 R1 R2 Gs s1 A Ev hO.1 ha_x hp_0 hp_1 (PotV_of (rfl : A = A) pv_1 pv_2 pv_3 pv_4 pv_5 (show (pI S 902 Gs).toInt = (((qg A)).length : Int) by omega) pv_7 pv_8 (show (pI S 800 s1).toInt = (((qsk A)).length : Int) by omega) pv_10 pv_11) hp_3 ha_s1) (cwV 0 X.2.2.2.1 gX4_act_X4_findFirst rfl rfl rfl (by decide +kernel) ⟨Nat.le_of_ble_eq_true rfl, Nat.le_of_ble_eq_true rfl⟩) (pre_V X hw _ ha_x rfl (by decide) rfl) rfl rfl hl.1 rfl (lv_room (Nat.le_of_ble_eq_true rfl)) dX4_act_51 ⟨(by show 0 + 0 ≤ Phc S + 8; omega), (by show 0 + 0 ≤ Phs S + 15019; omega)⟩) 0 0 (by show 0 + 0 ≤ 0; omega) (by show 0 + 0 ≤ 0; omega) (fun S_99 H locs hp hw hfr hnw => ?_)
    obtain ⟨hk_100, hp⟩ := hp
    have ph_101 : 0 + Phc S_99 ≤ Phc S + 0 := by rw [show Phc S_99 = Phc S from Ph_ok hO.1 hk_100 (by decide +kernel) (by decide +kernel) (by decide +kernel)]; exact hpc0
    have ph_102 : 0 + Phs S_99 ≤ Phs S + 0 := by rw [show Phs S_99 = Phs S from Ph_ok hO.1 hk_100 (by decide +kernel) (by decide +kernel) (by decide +kernel)]; exact hps0
    clear hpc0
    clear hps0
    have hO_103 : Og eAC S S_99 := hO.call hk_100.og (by decide +kernel)
    obtain ⟨pv_104, hx_105⟩ := hp
    obtain ⟨pv_106, pv_107, pv_108, pv_109, pv_110, pv_111, pv_112, pv_113, pv_114, pv_115, pv_116⟩ := pv_104
    have t_117 : pI S_99 902 Gs = v_12 := hk_100.fr.I' (by decide +kernel) haGs ev_12
    have pz_118 : (pI S_99 902 Gs).toInt = v_12.toInt := (congrArg Int32.toInt t_117).trans rfl
    have t_119 : pI S_99 800 s1 = v_16 := hk_100.fr.I' (by decide +kernel) ha_s1 ev_16
    have pz_120 : (pI S_99 800 s1).toInt = v_16.toInt := (congrArg Int32.toInt t_119).trans rfl
    refine lv_goto (tgt := 84) X.1 X.2.1 dX4_act_54 (by decide) ?_
    have pz_121 : (pI S_99 902 Gs).toInt = v_12.toInt := (congrArg Int32.toInt t_117).trans rfl
    have pz_122 : (pI S_99 800 s1).toInt = v_16.toInt := (congrArg Int32.toInt t_119).trans rfl
    have px_123 : PotX S S_99 x R0 R1 R2 Gs := PotX_tr (PotX_rf S x R0 R1 R2 Gs) (fun _ _ h => h) haR0 haR1 haR2 hx_105
    exact ret_gv X hw hr hlocks (by show 0 ≤ Phc S + 8; omega) (by show 0 ≤ Phs S + 15019; omega) (by omega) (by omega) ⟨hO_103, ⟨PotV_of (actF_2 (show a1.toInt = 2 by omega)) pv_106 pv_107 pv_108 pv_109 pv_110 (show (pI S_99 902 Gs).toInt = (((qg (fndF A))).length : Int) by omega) pv_112 pv_113 (show (pI S_99 800 s1).toInt = (((qsk (fndF A))).length : Int) by omega) pv_115 (inD_act pv_11), px_123⟩⟩ dX4_act_84
  · refine lv_tableIn (tgt := 57) X.1 X.2.1 dX4_act_1 (by omega) (by omega) (by rw [w_20c]; rfl) (by decide) ?_
    refine lv_aload_n X.1 X.2.1 dX4_act_57 rfl (lv_at hl 0 rfl) ?_
    refine lv_aload_n X.1 X.2.1 dX4_act_58 rfl (lv_at hl 3 rfl) ?_
    have pz_124 : (pI S 902 Gs).toInt = v_12.toInt := (congrArg Int32.toInt ev_12).trans rfl
    have pz_125 : (pI S 800 s1).toInt = v_16.toInt := (congrArg Int32.toInt ev_16).trans rfl
    refine k_v (rm := { frames := 4, cells := 0, slots := 0, locals := 192 }) (av := [.ref x, .ref s1]) X hw (va_runV (As := [.ref s1]) (rest := []) (cfix X) (k_X4_throwLast5 l G cy κ S _ x s1 D R0 R1 R2 Gs A Ev hO.1 ha_x ha_s1 hp_0 hp_1 (PotV_of (rfl : A = A) pv_1 pv_2 pv_3 pv_4 pv_5 (show (pI S 902 Gs).toInt = (((qg A)).length : Int) by omega) pv_7 pv_8 (show (pI S 800 s1).toInt = (((qsk A)).length : Int) by omega) pv_10 pv_11) hp_3) (cwV 1 X.2.2.2.1 gX4_act_X4_throwLast rfl rfl rfl (by decide +kernel) ⟨Nat.le_of_ble_eq_true rfl, Nat.le_of_ble_eq_true rfl⟩) (pre_V X hw _ ha_x rfl (by decide) rfl) rfl rfl hl.1 rfl (lv_room (Nat.le_of_ble_eq_true rfl)) dX4_act_59 ⟨(by show 0 + 0 ≤ Phc S + 8; omega), (by show 0 + 0 ≤ Phs S + 15019; omega)⟩) 0 0 (by show 0 + 0 ≤ 0; omega) (by show 0 + 0 ≤ 0; omega) (fun S_127 H locs hp hw hfr hnw => ?_)
    obtain ⟨hk_128, hp⟩ := hp
    have ph_129 : 0 + Phc S_127 ≤ Phc S + 0 := by rw [show Phc S_127 = Phc S from Ph_ok hO.1 hk_128 (by decide +kernel) (by decide +kernel) (by decide +kernel)]; exact hpc0
    have ph_130 : 0 + Phs S_127 ≤ Phs S + 0 := by rw [show Phs S_127 = Phs S from Ph_ok hO.1 hk_128 (by decide +kernel) (by decide +kernel) (by decide +kernel)]; exact hps0
    clear hpc0
    clear hps0
    have hO_131 : Og eAC S S_127 := hO.call hk_128.og (by decide +kernel)
    obtain ⟨pv_132, hx_133⟩ := hp
    obtain ⟨pv_134, pv_135, pv_136, pv_137, pv_138, pv_139, pv_140, pv_141, pv_142, pv_143, pv_144⟩ := pv_132
    have t_145 : pI S_127 902 Gs = v_12 := hk_128.fr.I' (by decide +kernel) haGs ev_12
    have pz_146 : (pI S_127 902 Gs).toInt = v_12.toInt := (congrArg Int32.toInt t_145).trans rfl
    have t_147 : pI S_127 800 s1 = v_16 := hk_128.fr.I' (by decide +kernel) ha_s1 ev_16
    have pz_148 : (pI S_127 800 s1).toInt = v_16.toInt := (congrArg Int32.toInt t_147).trans rfl
    refine lv_goto (tgt := 84) X.1 X.2.1 dX4_act_62 (by decide) ?_
    have pz_149 : (pI S_127 902 Gs).toInt = v_12.toInt := (congrArg Int32.toInt t_145).trans rfl
    have pz_150 : (pI S_127 800 s1).toInt = v_16.toInt := (congrArg Int32.toInt t_147).trans rfl
    have px_151 : PotX S S_127 x R0 R1 R2 Gs := PotX_tr (PotX_rf S x R0 R1 R2 Gs) (fun _ _ h => h) haR0 haR1 haR2 hx_133
    exact ret_gv X hw hr hlocks (by show 0 ≤ Phc S + 8; omega) (by show 0 ≤ Phs S + 15019; omega) (by omega) (by omega) ⟨hO_131, ⟨PotV_of (actF_3 (show a1.toInt = 3 by omega)) pv_134 pv_135 pv_136 pv_137 pv_138 (show (pI S_127 902 Gs).toInt = (((qg (throF A))).length : Int) by omega) pv_140 pv_141 (show (pI S_127 800 s1).toInt = (((qsk (throF A))).length : Int) by omega) pv_143 (inD_act pv_11), px_151⟩⟩ dX4_act_84
  · refine lv_tableIn (tgt := 65) X.1 X.2.1 dX4_act_1 (by omega) (by omega) (by rw [w_20c]; rfl) (by decide) ?_
    refine lv_aload_n X.1 X.2.1 dX4_act_65 rfl (lv_at hl 0 rfl) ?_
    refine lv_aload_n X.1 X.2.1 dX4_act_66 rfl (lv_at hl 3 rfl) ?_
    have pz_152 : (pI S 902 Gs).toInt = v_12.toInt := (congrArg Int32.toInt ev_12).trans rfl
    have pz_153 : (pI S 800 s1).toInt = v_16.toInt := (congrArg Int32.toInt ev_16).trans rfl
    refine k_gi (kc := 0) (ks := 0) (rm := { frames := 5, cells := Phc S + 8, slots := Phs S + 15019, locals := 240 }) (av := [.ref x, .ref s1]) X hw (va_runV (As := [.ref s1]) (rest := []) (cfix X) (k_X4_cutStrand5 l G cy κ S _ _ x s1 D R0 R1 R2 Gs A Ev hO.1 ha_x ha_s1 hp_0 hp_1 (PotV_of (rfl : A = A) pv_1 pv_2 pv_3 pv_4 pv_5 (show (pI S 902 Gs).toInt = (((qg A)).length : Int) by omega) pv_7 pv_8 (show (pI S 800 s1).toInt = (((qsk A)).length : Int) by omega) pv_10 pv_11) hp_3) (cwV 1 X.2.2.2.1 gX4_act_X4_cutStrand rfl rfl rfl (by decide +kernel) ⟨Nat.le_of_ble_eq_true rfl, Nat.le_of_ble_eq_true rfl⟩) (pre_gV X hw _ ha_x rfl (by decide) rfl) rfl rfl hl.1 rfl (lv_room (Nat.le_of_ble_eq_true rfl)) dX4_act_67 ⟨(by show 0 + (Phc S + 8) ≤ Phc S + 8; omega), (by show 0 + (Phs S + 15019) ≤ Phs S + 15019; omega)⟩) (fun rr_154 S_155 H locs c_156 n_157 hc_156 hn_157 hp hw => ?_)
    obtain ⟨hk_158, hp⟩ := hp
    have ph_159 : c_156 + Phc S_155 ≤ Phc S + 0 := by omega
    have ph_160 : n_157 + Phs S_155 ≤ Phs S + 0 := by omega
    clear hpc0
    clear hps0
    clear hc_156
    clear hn_157
    have hO_161 : Og eAC S S_155 := hO.call hk_158 (by decide +kernel)
    obtain ⟨cu_162, cu_163, cu_164, cu_165, cu_166⟩ := hp
    obtain ⟨pv_167, pv_168, pv_169, pv_170, pv_171, pv_172, pv_173, pv_174, pv_175, pv_176, pv_177⟩ := cu_164
    obtain ⟨v_179, ev_179⟩ : ∃ v, pI S_155 902 Gs = v := ⟨_, rfl⟩
    have t_181 : At S_155 Gs 29 := hk_158.fr.at haGs
    have rg_180 := gI_29_902 hO_161.1 t_181; rw [ev_179] at rg_180
    have pz_182 : (pI S_155 902 Gs).toInt = v_179.toInt := by rw [ev_179]
    have pz_183 : (pI S_155 902 Gs).toInt = v_179.toInt := (congrArg Int32.toInt ev_179).trans rfl
    obtain ⟨v_185, ev_185⟩ : ∃ v, pI S_155 800 s1 = v := ⟨_, rfl⟩
    have t_187 : At S_155 s1 8 := hk_158.fr.at ha_s1
    have rg_186 := gI_8_800 hO_161.1 t_187; rw [ev_185] at rg_186
    have pz_188 : (pI S_155 800 s1).toInt = v_185.toInt := by rw [ev_185]
    have pz_189 : (pI S_155 800 s1).toInt = v_185.toInt := (congrArg Int32.toInt ev_185).trans rfl
    refine lv_pop X.1 X.2.1 dX4_act_70 rfl ?_
    refine lv_goto (tgt := 84) X.1 X.2.1 dX4_act_71 (by decide) ?_
    have pz_190 : (pI S_155 902 Gs).toInt = v_179.toInt := (congrArg Int32.toInt ev_179).trans rfl
    have pz_191 : (pI S_155 800 s1).toInt = v_185.toInt := (congrArg Int32.toInt ev_185).trans rfl
    have px_192 : PotX S S_155 x R0 R1 R2 Gs := PotX_tr (PotX_rf S x R0 R1 R2 Gs) (fun _ _ h => h) haR0 haR1 haR2 cu_165
    exact ret_gv X hw hr hlocks (by show c_156 ≤ Phc S + 8; omega) (by show n_157 ≤ Phs S + 15019; omega) (by omega) (by omega) ⟨hO_161, ⟨PotV_of (actF_4 (show a1.toInt = 4 by omega)) pv_167 pv_168 pv_169 pv_170 pv_171 (show (pI S_155 902 Gs).toInt = (((qg (cutF Ev A))).length : Int) by omega) pv_173 pv_174 (show (pI S_155 800 s1).toInt = (((qsk (cutF Ev A))).length : Int) by omega) pv_176 (inD_act pv_11), px_192⟩⟩ dX4_act_84
set_option maxHeartbeats 4000000 in
set_option maxRecDepth 100000 in
theorem k_X4_allHold5 (l : Launch) (G : va_G) (cy : Nat → ClassId) (κ : Nat → Nat) (S : PS) (sz : Nat) (x : Nat) (a1 : Int32) (a1_z : Int) (a2 : Int32) (a2_z : Int) (D : Nat → Prop) (R0 : Nat) (R1 : Nat) (R2 : Nat) (Gs : Nat) (Ks : Nat) (A : Pt) (Ev : En) (Rl : List Ru) (ru : Ru) (hG : GX S) (ha_x : At S x 4) (hz_a1 : a1.toInt = a1_z) (hz_a2 : a2.toInt = a2_z) (hp_0 : (∀ c, D c → At S c 0)) (hp_1 : PotR S x R0 R1 R2 Gs) (hp_2 : PotV S D x R0 R1 R2 Gs Ks A) (hp_3 : EnC S D x Ks Ev) (hp_4 : At S Ks 8) (hp_5 : a2 = eday Ev) (hp_6 : 0 ≤ a1_z) (hp_7 : a1_z ≤ 11) (hp_8 : RuS S x Rl) (hp_9 : Rl[a1_z.toNat]? = some ru) : Ci l yX4_allHold wsX4_allHold ({ frames := 5, cells := 0, slots := 0, locals := 240 }) G cy κ S sz [.ref x, .int (a1), .int (a2)] (fun (r : Int32) (S9 : PS) => S = S9 ∧ (((allP Ev A ru.2.2) ∧ r = 1) ∨ ((¬ allP Ev A ru.2.2) ∧ r = 0))) := by
  refine ent_m (cc := cX4_allHold) (maxL := 6) (ret := (some .boolean)) (by decide) rfl (Nat.le_of_ble_eq_true rfl) ?_
  intro p e s m below meth c ls X hr hlocks hin hw hl hsz
  subst hsz
  have X : Cx p c cX4_allHold 6 s [.ref x, .int (a1), .int (a2)].toArray wsX4_allHold RX4 m G cy κ (AS S s.heap.size) := X
  have hl : lv_has ls 6 [(0, .ref x), (1, .int (a1)), (2, .int (a2))] := hl
  have rg_a1 : (-2147483648) ≤ a1_z ∧ a1_z ≤ 2147483647 := by rw [← hz_a1]; exact ⟨z_lo _, z_hi _⟩
  have rg_a2 : (-2147483648) ≤ a2_z ∧ a2_z ≤ 2147483647 := by rw [← hz_a2]; exact ⟨z_lo _, z_hi _⟩
  generalize hQQ : MQ below _ _ _ _ _ _ = QQ
  replace hQQ := hQQ.symm
  have hpr := hp_1
  obtain ⟨hr0, hr1, hr2, hr3, hne, hcn⟩ := hpr
  have haR0 := row_at hG ha_x (Or.inl hr0)
  have haR1 := row_at hG ha_x (Or.inr (Or.inl hr1))
  have haR2 := row_at hG ha_x (Or.inr (Or.inr hr2))
  have haGs : At S Gs 29 := by obtain ⟨c, k1, k2⟩ := gQ_4_403 hG ha_x; have h3 := hr3; rw [k1] at h3; cases h3; exact k2
  have hpv := hp_2
  obtain ⟨pv_1, pv_2, pv_3, pv_4, pv_5, pv_6, pv_7, pv_8, pv_9, pv_10, pv_11⟩ := hpv
  obtain ⟨v_12, ev_12⟩ : ∃ v, pI S 902 Gs = v := ⟨_, rfl⟩
  have rg_13 := gI_29_902 hG haGs; rw [ev_12] at rg_13
  have pz_14 : (pI S 902 Gs).toInt = v_12.toInt := by rw [ev_12]
  have pz_15 : (pI S 902 Gs).toInt = v_12.toInt := (congrArg Int32.toInt ev_12).trans rfl
  obtain ⟨v_16, ev_16⟩ : ∃ v, pI S 800 Ks = v := ⟨_, rfl⟩
  have rg_17 := gI_8_800 hG hp_4; rw [ev_16] at rg_17
  have pz_18 : (pI S 800 Ks).toInt = v_16.toInt := by rw [ev_16]
  have pz_19 : (pI S 800 Ks).toInt = v_16.toInt := (congrArg Int32.toInt ev_16).trans rfl
  have hrs := hp_8
  obtain ⟨rh, hrh, hru1, hru2⟩ := hrs
  have harh := ru_at hG ha_x hrh
  obtain ⟨hA1, hA2, hA3, hA4⟩ := hru2 _ _ hp_9
  refine lv_iload_n X.1 X.2.1 dX4_allHold_0 rfl (lv_at hl 1 rfl) ?_
  refine lv_iconst (v := 4) X.1 X.2.1 dX4_allHold_1 (by decide) ?_
  refine lv_imul X.1 X.2.1 dX4_allHold_2 ?_
  refine lv_topi (fun v_20 ev_20 => ?_)
  have z_21 : v_20.toInt = a1_z * 4 := z_mul ev_20 hz_a1 ti_4 (by omega) (by omega)
  refine lv_istore_n (lv' := [(3, .int (v_20)), (0, .ref x), (1, .int (a1)), (2, .int (a2))]) X.1 X.2.1 dX4_allHold_3 rfl hl (by decide) rfl (fun ls hl => ?_)
  refine lv_iload_n X.1 X.2.1 dX4_allHold_4 rfl (lv_at hl 0 rfl) ?_
  refine lv_istore (lv' := [(4, .int (v_20)), (3, .int (v_20)), (0, .ref x), (1, .int (a1)), (2, .int (a2))]) X.1 X.2.1 dX4_allHold_5 hl (by decide) rfl (fun ls hl => ?_)
  have L_22 : ∀ (n : Nat) (H : Heap) (locs : List Loc) (ls : Array Slot) (i4_23 : Int32) (i4_23_z : Int), ((48 - i4_23_z).toNat = n) → (Wd G cy (AS S s.heap.size) s.heap S H locs) → (i4_23.toInt = i4_23_z) → (0 ≤ i4_23_z ∧ i4_23_z ≤ 48) → ((∀ (j : Nat) (c : Int32 × Int32 × Int32), 4 * a1_z + (j : Int) < i4_23_z → ru.2.2[j]? = some c → relP c.2.1 (valF Ev A c.1) c.2.2.toInt)) → (4 * a1_z ≤ i4_23_z) → (lv_has ls 6 [(4, .int (i4_23)), (3, .int (v_20)), (0, .ref x), (1, .int (a1)), (2, .int (a2))]) → W p l e ({ frames := 5, cells := 0, slots := 0, locals := 240 }) s m [.ref x, .int (a1), .int (a2)].toArray below meth c H locs 0 0 QQ (F0 m 7 ls []) := by
    intro n
    induction n using Nat.strongRecOn with
    | ind n ih =>
    intro H locs ls i4_23 i4_23_z hn hw hz_i4_23 hr_i4_23 iv_24 iv_25 hl
    have rg_26 : (-2147483648) ≤ i4_23_z ∧ i4_23_z ≤ 2147483647 := by rw [← hz_i4_23]; exact ⟨z_lo _, z_hi _⟩
    refine lv_iload X.1 X.2.1 dX4_allHold_7 (lv_at hl 0 rfl) ?_
    refine lv_iload_n X.1 X.2.1 dX4_allHold_9 rfl (lv_at hl 1 rfl) ?_
    refine lv_aload_n X.1 X.2.1 dX4_allHold_10 rfl (lv_at hl 2 rfl) ?_
    refine r_getR (g := 409) X hw ha_x rfl 9 hrh (by decide) rfl inn_X4_allHold_4 (by decide) (X.2.2.2.1 (.fieldLink RX4 36 "SilkMill$Pot" "rules" "LSilkMill$Rules;") (by decide +kernel)) rfl (gv_409 _ _) dX4_allHold_11 ?_
    obtain ⟨q_27, h_28, h_29, h_30⟩ := gQ_6_603 hG harh
    refine r_getR (g := 603) X hw harh rfl 3 h_28 (by decide) rfl inn_X4_allHold_6 (by decide) (X.2.2.2.1 (.fieldLink RX4 120 "SilkMill$Rules" "conditions" "[I") (by decide +kernel)) rfl (gv_603 _ _) dX4_allHold_14 ?_
    refine lv_iload_n X.1 X.2.1 dX4_allHold_17 rfl (lv_at hl 3 rfl) ?_
    refine r_iald X hw h_29 rfl (by rw [h_30]; exact z_ix hz_a1 (by omega) (by omega)) dX4_allHold_18 ?_
    refine lv_topi (fun v_31 ev_31 => ?_)
    have z_32 := gE_34 hG h_29 (Int32.toNatClampNeg (a1)); rw [← ev_31] at z_32
    have ev_31 := ev_31.symm
    have cn_33 : (v_31).toInt = (ru.2.2.length : Int) := by rw [← hA3, mA_eq h_28, ← z_nc hz_a1 (by omega), ev_31]
    have cn_34 : v_31.toInt = (ru.2.2.length : Int) := cn_33
    refine lv_iadd X.1 X.2.1 dX4_allHold_19 ?_
    refine lv_topi (fun v_35 ev_35 => ?_)
    have z_36 : v_35.toInt = v_20.toInt + v_31.toInt := z_add ev_35 rfl rfl (by omega) (by omega)
    refine lv_icmp_ge (tgt := 76) X.1 X.2.1 dX4_allHold_20 (by decide) (fun c_37 => ?_) (fun c_37 => ?_)
    · have z_b_38 := trivial
      have k_39 : i4_23_z ≥ v_35.toInt := z_le rfl hz_i4_23 c_37
      refine lv_iconst (v := 1) X.1 X.2.1 dX4_allHold_76 (by decide) ?_
      rw [hQQ]
      exact ret_z X hw hr hlocks (Nat.le_of_ble_eq_true rfl) (Nat.le_of_ble_eq_true rfl) (by decide) ⟨rfl, Or.inl ⟨allP_of (fun j c hc => iv_24 j c (by have := (List.getElem?_eq_some_iff.mp hc).1; omega) hc), rfl⟩⟩ dX4_allHold_77
    · have z_b_40 := trivial
      have k_41 : i4_23_z < v_35.toInt := z_nle rfl hz_i4_23 c_37
      obtain ⟨cj_42, cj_43⟩ : ∃ c, ru.2.2[(i4_23_z - 4 * a1_z).toNat]? = some c := ⟨_, List.getElem?_eq_getElem (by omega)⟩
      obtain ⟨cj_44, cj_45, cj_46⟩ := hA4 _ _ cj_43
      refine lv_aload_n X.1 X.2.1 dX4_allHold_23 rfl (lv_at hl 2 rfl) ?_
      refine lv_aload_n X.1 X.2.1 dX4_allHold_24 rfl (lv_at hl 2 rfl) ?_
      refine r_getR (g := 409) X hw ha_x rfl 9 hrh (by decide) rfl inn_X4_allHold_4 (by decide) (X.2.2.2.1 (.fieldLink RX4 36 "SilkMill$Pot" "rules" "LSilkMill$Rules;") (by decide +kernel)) rfl (gv_409 _ _) dX4_allHold_25 ?_
      obtain ⟨q_47, h_48, h_49, h_50⟩ := gQ_6_604 hG harh
      refine r_getR (g := 604) X hw harh rfl 4 h_48 (by decide) rfl inn_X4_allHold_6 (by decide) (X.2.2.2.1 (.fieldLink RX4 123 "SilkMill$Rules" "fields" "[I") (by decide +kernel)) rfl (gv_604 _ _) dX4_allHold_28 ?_
      refine lv_iload X.1 X.2.1 dX4_allHold_31 (lv_at hl 0 rfl) ?_
      refine r_iald X hw h_49 rfl (by rw [h_50]; exact z_ix hz_i4_23 (by omega) (by omega)) dX4_allHold_33 ?_
      refine lv_topi (fun v_51 ev_51 => ?_)
      have rg_52 := And.intro (z_lo v_51) (z_hi v_51)
      have ev_51 := ev_51.symm
      have fj_53 : v_51 = cj_42.1 := by rw [← cj_44, mA_eq h_48, show 4 * a1_z.toNat + (i4_23_z - 4 * a1_z).toNat = Int32.toNatClampNeg (i4_23) from (by have hq := z_nc (x := i4_23) hz_i4_23 (by omega); omega), ev_51]
      refine lv_iload_n X.1 X.2.1 dX4_allHold_34 rfl (lv_at hl 4 rfl) ?_
      have pz_54 : (pI S 902 Gs).toInt = v_12.toInt := (congrArg Int32.toInt ev_12).trans rfl
      have pz_55 : (pI S 800 Ks).toInt = v_16.toInt := (congrArg Int32.toInt ev_16).trans rfl
      refine k_i (rm := { frames := 4, cells := 0, slots := 0, locals := 192 }) (av := [.ref x, .int (v_51), .int (a2)]) X hw (va_runV (As := [.int (v_51), .int (a2)]) (rest := []) (cfix X) (k_X4_valueOf5 l G cy κ S _ x (v_51) (v_51.toInt) (a2) (a2_z) D R0 R1 R2 Gs Ks A Ev hG ha_x rfl hz_a2 hp_0 hp_1 (PotV_of (rfl : A = A) pv_1 pv_2 pv_3 pv_4 pv_5 (show (pI S 902 Gs).toInt = (((qg A)).length : Int) by omega) pv_7 pv_8 (show (pI S 800 Ks).toInt = (((qsk A)).length : Int) by omega) pv_10 pv_11) hp_3 hp_4 hp_5) (cwV 2 X.2.2.2.1 gX4_allHold_X4_valueOf rfl rfl rfl (by decide +kernel) ⟨Nat.le_of_ble_eq_true rfl, Nat.le_of_ble_eq_true rfl⟩) (pre_V X hw _ ha_x rfl (by decide) rfl) rfl rfl hl.1 rfl (lv_room (Nat.le_of_ble_eq_true rfl)) dX4_allHold_35 ⟨Nat.le_of_ble_eq_true rfl, Nat.le_of_ble_eq_true rfl⟩) 0 0 (Nat.le_of_ble_eq_true rfl) (Nat.le_of_ble_eq_true rfl) (fun rr_56 S_57 H locs hp hw hfr hnw => ?_)
      obtain ⟨e2, hp⟩ := hp
      subst e2
      obtain ⟨va_58, va_59, va_60⟩ := hp
      refine lv_istore (lv' := [(5, .int (rr_56)), (4, .int (i4_23)), (3, .int (v_20)), (0, .ref x), (1, .int (a1)), (2, .int (a2))]) X.1 X.2.1 dX4_allHold_38 hl (by decide) rfl (fun ls hl => ?_)
      refine lv_iload X.1 X.2.1 dX4_allHold_40 (lv_at hl 0 rfl) ?_
      refine lv_aload_n X.1 X.2.1 dX4_allHold_42 rfl (lv_at hl 3 rfl) ?_
      refine r_getR (g := 409) X hw ha_x rfl 9 hrh (by decide) rfl inn_X4_allHold_4 (by decide) (X.2.2.2.1 (.fieldLink RX4 36 "SilkMill$Pot" "rules" "LSilkMill$Rules;") (by decide +kernel)) rfl (gv_409 _ _) dX4_allHold_43 ?_
      obtain ⟨q_61, h_62, h_63, h_64⟩ := gQ_6_605 hG harh
      refine r_getR (g := 605) X hw harh rfl 5 h_62 (by decide) rfl inn_X4_allHold_6 (by decide) (X.2.2.2.1 (.fieldLink RX4 130 "SilkMill$Rules" "relations" "[I") (by decide +kernel)) rfl (gv_605 _ _) dX4_allHold_46 ?_
      refine lv_iload X.1 X.2.1 dX4_allHold_49 (lv_at hl 1 rfl) ?_
      refine r_iald X hw h_63 rfl (by rw [h_64]; exact z_ix hz_i4_23 (by omega) (by omega)) dX4_allHold_51 ?_
      refine lv_topi (fun v_65 ev_65 => ?_)
      have rg_66 := And.intro (z_lo v_65) (z_hi v_65)
      have ev_65 := ev_65.symm
      have fj_67 : v_65 = cj_42.2.1 := by rw [← cj_45, mA_eq h_62, show 4 * a1_z.toNat + (i4_23_z - 4 * a1_z).toNat = Int32.toNatClampNeg (i4_23) from (by have hq := z_nc (x := i4_23) hz_i4_23 (by omega); omega), ev_65]
      refine lv_aload_n X.1 X.2.1 dX4_allHold_52 rfl (lv_at hl 3 rfl) ?_
      refine r_getR (g := 409) X hw ha_x rfl 9 hrh (by decide) rfl inn_X4_allHold_4 (by decide) (X.2.2.2.1 (.fieldLink RX4 36 "SilkMill$Pot" "rules" "LSilkMill$Rules;") (by decide +kernel)) rfl (gv_409 _ _) dX4_allHold_53 ?_
      obtain ⟨q_68, h_69, h_70, h_71⟩ := gQ_6_606 hG harh
      refine r_getR (g := 606) X hw harh rfl 6 h_69 (by decide) rfl inn_X4_allHold_6 (by decide) (X.2.2.2.1 (.fieldLink RX4 133 "SilkMill$Rules" "numbers" "[I") (by decide +kernel)) rfl (gv_606 _ _) dX4_allHold_56 ?_
      refine lv_iload X.1 X.2.1 dX4_allHold_59 (lv_at hl 1 rfl) ?_
      refine r_iald X hw h_70 rfl (by rw [h_71]; exact z_ix hz_i4_23 (by omega) (by omega)) dX4_allHold_61 ?_
      refine lv_topi (fun v_72 ev_72 => ?_)
      have rg_73 := And.intro (z_lo v_72) (z_hi v_72)
      have ev_72 := ev_72.symm
      have fj_74 : v_72 = cj_42.2.2 := by rw [← cj_46, mA_eq h_69, show 4 * a1_z.toNat + (i4_23_z - 4 * a1_z).toNat = Int32.toNatClampNeg (i4_23) from (by have hq := z_nc (x := i4_23) hz_i4_23 (by omega); omega), ev_72]
      refine k_i (rm := { frames := 1, cells := 0, slots := 0, locals := 48 }) (av := [.int (rr_56), .int (v_65), .int (v_72)]) X hw (va_runS (As := [.int (rr_56), .int (v_65), .int (v_72)]) (rest := []) (cfix X) (k_X4_isRelated5 l G cy κ S _ (rr_56) (rr_56.toInt) (v_65) (v_65.toInt) (v_72) (v_72.toInt) hG rfl rfl rfl) (cwS 3 X.2.2.2.1 gX4_allHold_X4_isRelated rfl rfl rfl (by decide +kernel) ⟨Nat.le_of_ble_eq_true rfl, Nat.le_of_ble_eq_true rfl⟩) (pre_S X hw _) rfl rfl hl.1 rfl (lv_room (Nat.le_of_ble_eq_true rfl)) dX4_allHold_62 ⟨Nat.le_of_ble_eq_true rfl, Nat.le_of_ble_eq_true rfl⟩) 0 0 (Nat.le_of_ble_eq_true rfl) (Nat.le_of_ble_eq_true rfl) (fun rr_75 S_76 H locs hp hw hfr hnw => ?_)
      obtain ⟨e2, hp⟩ := hp
      subst e2
      rcases hp with ⟨f_77, er_78⟩ | ⟨f_77, er_78⟩ <;> subst er_78
      · have z_b_79 := trivial
        refine lv_if_ne (tgt := 70) X.1 X.2.1 dX4_allHold_65 (by decide) (fun c_80 => ?_) (fun c_80 => absurd c_80 (by decide))
        obtain ⟨x_81, ex_81⟩ : ∃ y : Int32, y = i4_23 + 1 := ⟨_, rfl⟩
        have z_82 : x_81.toInt = i4_23_z + 1 := z_add ex_81 hz_i4_23 ti_1 (by omega) (by omega)
        refine lv_iinc (v := x_81) (lv' := [(4, .int (x_81)), (5, .int (rr_56)), (3, .int (v_20)), (0, .ref x), (1, .int (a1)), (2, .int (a2))]) X.1 X.2.1 dX4_allHold_70 hl (k := 1) rfl (by rw [ex_81]; rfl) (by decide) rfl (fun ls hl => ?_)
        refine lv_goto (tgt := 7) X.1 X.2.1 dX4_allHold_73 (by decide) ?_
        have rl_83 : relP cj_42.2.1 (valF Ev A cj_42.1) cj_42.2.2.toInt := by have h := f_77; rw [fj_67, va_60, fj_53] at h; rw [← fj_74]; exact h
        exact ih _ (by omega) _ _ _ (x_81) (x_81.toInt) rfl hw rfl (by omega) (fun j c hj hc => by rcases (show 4 * a1_z + (j : Int) < i4_23_z ∨ j = (i4_23_z - 4 * a1_z).toNat by omega) with e | e; exact iv_24 j c e hc; rw [e, cj_43] at hc; cases hc; exact rl_83) (by omega) (lv_sub hl [0, 2, 3, 4, 5] rfl)
      · have z_b_84 := trivial
        refine lv_if_ne (tgt := 70) X.1 X.2.1 dX4_allHold_65 (by decide) (fun c_85 => absurd c_85 (by decide)) (fun c_85 => ?_)
        refine lv_iconst (v := 0) X.1 X.2.1 dX4_allHold_68 (by decide) ?_
        have rl_86 : ¬ relP cj_42.2.1 (valF Ev A cj_42.1) cj_42.2.2.toInt := by have h := f_77; rw [fj_67, va_60, fj_53] at h; rw [← fj_74]; exact h
        rw [hQQ]
        exact ret_z X hw hr hlocks (Nat.le_of_ble_eq_true rfl) (Nat.le_of_ble_eq_true rfl) (by decide) ⟨rfl, Or.inr ⟨fun h => rl_86 (h _ (List.mem_of_getElem? cj_43)), rfl⟩⟩ dX4_allHold_69
  exact L_22 _ _ _ _ (v_20) (v_20.toInt) rfl hw rfl (by omega) (fun j c h => absurd h (by omega)) (by omega) (lv_sub hl [0, 1, 2, 3, 4] rfl)
