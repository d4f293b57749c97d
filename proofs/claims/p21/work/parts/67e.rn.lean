
set_option maxHeartbeats 4000000 in
set_option maxRecDepth 100000 in
theorem k_X4_act5 (l : Launch) (G : va_G) (cy : Nat → ClassId) (κ : Nat → Nat) (S : PS) (sz hz : Nat) (x : Nat) (a1 : Int32) (a1_z : Int) (a2 : Int32) (a2_z : Int) (s1 : Nat) (D : Nat → Prop) (R0 : Nat) (R1 : Nat) (R2 : Nat) (Gs : Nat) (A : Pt) (Ev : En) (hG : GX S) (ha_x : At S x 4) (hz_a1 : a1.toInt = a1_z) (hz_a2 : a2.toInt = a2_z) (ha_s1 : At S s1 8) (hp_0 : (∀ c, D c → At S c 0)) (hp_1 : PotR S x R0 R1 R2 Gs) (hp_2 : PotV S D x R0 R1 R2 Gs s1 A) (hp_3 : EnC S D x s1 Ev) : Gv l yX4_act wsX4_act ({ frames := 6, cells := Phc S + 8, slots := Phs S + 15019, locals := 288 }) G cy κ S sz hz 0 0 [.ref x, .int (a1), .int (a2), .ref s1] (fun (S9 : PS) => Og eAC S S9 ∧ (PotV S9 D x R0 R1 R2 Gs s1 (actF Ev a1 a2 A) ∧ PotX S S9 x R0 R1 R2 Gs)) := by
  refine ent_g (cc := cX4_act) (maxL := 4) (ret := none) (by decide) rfl (Nat.le_of_ble_eq_true rfl) ?_
  intro p e s m below meth c ls X hr hlocks hin hw hl hsz hhz
  subst hsz hhz
  have X : Cx p c cX4_act 4 s [.ref x, .int (a1), .int (a2), .ref s1].toArray wsX4_act RX4 m G cy κ (AS S s.heap.size) := X
  have hl : lv_has ls 4 [(0, .ref x), (1, .int (a1)), (2, .int (a2)), (3, .ref s1)] := hl
  have rg_a1 : (-2147483648) ≤ a1_z ∧ a1_z ≤ 2147483647 := by rw [← hz_a1]; exact ⟨z_lo _, z_hi _⟩
  have rg_a2 : (-2147483648) ≤ a2_z ∧ a2_z ≤ 2147483647 := by rw [← hz_a2]; exact ⟨z_lo _, z_hi _⟩
  have hpc0 : 0 + Phc S ≤ Phc S + 0 := by omega
  have hps0 : 0 + Phs S ≤ Phs S + 0 := by omega
  have hO : Og eAC S S := Og.rf hG
  have hpr := hp_1
  obtain ⟨hr0, hr1, hr2, hr3, hne, hcn⟩ := hpr
  have haR0 := row_at hG ha_x (Or.inl hr0)
  have haR1 := row_at hG ha_x (Or.inr (Or.inl hr1))
  have haR2 := row_at hG ha_x (Or.inr (Or.inr hr2))
  have haGs : At S Gs 29 := by obtain ⟨c, k1, k2⟩ := gQ_4_403 hG ha_x; have h3 := hr3; rw [k1] at h3; cases h3; exact k2
  have hpv := hp_2
  obtain ⟨pv_1, pv_2, pv_3, pv_4, pv_5, pv_6, pv_7, pv_8, pv_9, pv_10, pv_11⟩ := hpv
  obtain ⟨v_12, ev_12⟩ : ∃ v, pI S 902 Gs = v := ⟨_, rfl⟩
  have rg_13 := gI_29_902 hO.1 haGs; rw [ev_12] at rg_13
  have pz_14 : (pI S 902 Gs).toInt = v_12.toInt := by rw [ev_12]
  have pz_15 : (pI S 902 Gs).toInt = v_12.toInt := (congrArg Int32.toInt ev_12).trans rfl
  obtain ⟨v_16, ev_16⟩ : ∃ v, pI S 800 s1 = v := ⟨_, rfl⟩
  have rg_17 := gI_8_800 hO.1 ha_s1; rw [ev_16] at rg_17
  have pz_18 : (pI S 800 s1).toInt = v_16.toInt := by rw [ev_16]
  have pz_19 : (pI S 800 s1).toInt = v_16.toInt := (congrArg Int32.toInt ev_16).trans rfl
  have sl_20 := pv_6.1
  have sl_21 := pv_9.1
  refine lv_iload_n X.1 X.2.1 dX4_act_0 rfl (lv_at hl 1 rfl) ?_
  by_cases w_22 : (a1).toInt < 0 ∨ 4 < (a1).toInt
  · refine lv_tableOut (tgt := 74) X.1 X.2.1 dX4_act_1 w_22 (by decide) ?_
    refine lv_aload_n X.1 X.2.1 dX4_act_74 rfl (lv_at hl 0 rfl) ?_
    refine lv_dup X.1 X.2.1 dX4_act_75 rfl ?_
    refine r_getI (g := 405) (x := (qst A)) X hw ha_x rfl 5 pv_4 (by decide) rfl inn_X4_act_4 (by decide) (X.2.2.2.1 (.fieldLink RX4 66 "SilkMill$Pot" "stop" "I") (by decide +kernel)) rfl (gv_405 _ _) dX4_act_76 ?_
    refine lv_iload_n X.1 X.2.1 dX4_act_79 rfl (lv_at hl 2 rfl) ?_
    refine lv_iadd X.1 X.2.1 dX4_act_80 ?_
    refine lv_topi (fun v_23 ev_23 => ?_)
    have rg_24 := And.intro (z_lo v_23) (z_hi v_23)
    refine r_putI (v := v_23) X hw ha_x rfl 5 405 tyX4 (by decide) rfl inn_X4_act_4 tyX4_ok nmX4 (by decide) (X.2.2.2.1 (.fieldLink RX4 66 "SilkMill$Pot" "stop" "I") (by decide +kernel)) rfl (Or.inl rfl) rfl rfl (Nat.le_of_ble_eq_true rfl) (st_405 _ _) dX4_act_81 (fun H locs hw => ?_)
    obtain ⟨S_25, eS_25⟩ : ∃ T, T = sI S 405 x (v_23) := ⟨_, rfl⟩
    rw [← eS_25] at hw
    have ph_26 : 0 + Phc S_25 ≤ Phc S + 0 := by rw [show Phc S_25 = Phc S from Ph_sI eS_25 rfl rfl]; exact hpc0
    have ph_27 : 0 + Phs S_25 ≤ Phs S + 0 := by rw [show Phs S_25 = Phs S from Ph_sI eS_25 rfl rfl]; exact hps0
    clear hpc0
    clear hps0
    have hO_28 : Og eAC S S_25 := hO.sI eS_25 (by decide +kernel) (uI_4_405 hO.1 ha_x)
    have h_29 : pI S_25 405 x = v_23 := tI_sIs eS_25
    have rw_30 : RowIs S_25 R0 (qb A) 600 := RowIs_sI pv_1 eS_25 (by decide) (by decide)
    have rw_31 : RowIs S_25 R1 (qe A) 12 := RowIs_sI pv_2 eS_25 (by decide) (by decide)
    have rw_32 : RowIs S_25 R2 (ql A) 600 := RowIs_sI pv_3 eS_25 (by decide) (by decide)
    have co_33 : CoP S_25 D (qpl A) (qsd A) := CoP_sI pv_10 eS_25 (by decide) (by decide)
    have t_34 : pI S_25 406 x = (qse A) := tI_sI eS_25 rfl pv_5
    have sg_35 : StV S_25 D Gs (qg A) := StV_sI pv_6 eS_25 (by decide)
    have t_36 : pI S_25 407 x = (qdr A) := tI_sI eS_25 rfl pv_7
    have t_37 : pI S_25 408 x = (qtk A) := tI_sI eS_25 rfl pv_8
    have sk_38 : SkV S_25 D s1 (qsk A) := SkV_sI hO.1 ha_s1 pv_9 eS_25 (by decide)
    have px_39 : PotX S S_25 x R0 R1 R2 Gs := PotX_sx (PotX_rf S x R0 R1 R2 Gs) eS_25 (by decide)
    exact ret_gv X hw hr hlocks (by show 0 ≤ Phc S + 8; omega) (by show 0 ≤ Phs S + 15019; omega) (by omega) (by omega) ⟨hO_28, ⟨PotV_of (actF_d hz_a1 (by omega)) rw_30 rw_31 rw_32 (h_29.trans ev_23) t_34 sg_35 t_36 t_37 sk_38 co_33 (inD_act pv_11), px_39⟩⟩ dX4_act_84
  have w_22b : (a1).toInt = 0 ∨ (a1).toInt = 1 ∨ (a1).toInt = 2 ∨ (a1).toInt = 3 ∨ (a1).toInt = 4 := by omega
  rcases w_22b with w_22c | w_22c | w_22c | w_22c | w_22c
  · refine lv_tableIn (tgt := 36) X.1 X.2.1 dX4_act_1 (by omega) (by omega) (by rw [w_22c]; rfl) (by decide) ?_
    refine lv_aload_n X.1 X.2.1 dX4_act_36 rfl (lv_at hl 0 rfl) ?_
    refine k_v (rm := { frames := 3, cells := 0, slots := 0, locals := 144 }) (av := [.ref x]) X hw (va_runV (As := []) (rest := []) (cfix X) (k_X4_castFirst5 l G cy κ S _ x D R0 R1 R2 Gs s1 A Ev hO.1 ha_x hp_0 hp_1 (PotV_of (rfl : A = A) pv_1 pv_2 pv_3 pv_4 pv_5 pv_6 pv_7 pv_8 pv_9 pv_10 pv_11) hp_3 ha_s1) (cwV 0 X.2.2.2.1 gX4_act_X4_castFirst rfl rfl rfl (by decide +kernel) ⟨Nat.le_of_ble_eq_true rfl, Nat.le_of_ble_eq_true rfl⟩) (pre_V X hw _ ha_x rfl (by decide) rfl) rfl rfl hl.1 rfl (lv_room (Nat.le_of_ble_eq_true rfl)) dX4_act_37 ⟨(by show 0 + 0 ≤ Phc S + 8; omega), (by show 0 + 0 ≤ Phs S + 15019; omega)⟩) 0 0 (by show 0 + 0 ≤ 0; omega) (by show 0 + 0 ≤ 0; omega) (fun S_41 H locs hp hw hfr hnw => ?_)
    obtain ⟨hk_42, hp⟩ := hp
    have ph_43 : 0 + Phc S_41 ≤ Phc S + 0 := by rw [show Phc S_41 = Phc S from Ph_ok hO.1 hk_42 (by decide +kernel) (by decide +kernel) (by decide +kernel)]; exact hpc0
    have ph_44 : 0 + Phs S_41 ≤ Phs S + 0 := by rw [show Phs S_41 = Phs S from Ph_ok hO.1 hk_42 (by decide +kernel) (by decide +kernel) (by decide +kernel)]; exact hps0
    clear hpc0
    clear hps0
    have hO_45 : Og eAC S S_41 := hO.call hk_42.og (by decide +kernel)
    obtain ⟨pv_46, hx_47⟩ := hp
    obtain ⟨pv_48, pv_49, pv_50, pv_51, pv_52, pv_53, pv_54, pv_55, pv_56, pv_57, pv_58⟩ := pv_46
    have t_59 : pI S_41 902 Gs = v_12 := hk_42.fr.I' (by decide +kernel) haGs ev_12
    have pz_60 : (pI S_41 902 Gs).toInt = v_12.toInt := (congrArg Int32.toInt t_59).trans rfl
    have t_61 : pI S_41 800 s1 = v_16 := hk_42.fr.I' (by decide +kernel) ha_s1 ev_16
    have pz_62 : (pI S_41 800 s1).toInt = v_16.toInt := (congrArg Int32.toInt t_61).trans rfl
    have sl_63 := pv_53.1
    have sl_64 := pv_56.1
    refine lv_goto (tgt := 84) X.1 X.2.1 dX4_act_40 (by decide) ?_
    have px_65 : PotX S S_41 x R0 R1 R2 Gs := PotX_tr (PotX_rf S x R0 R1 R2 Gs) (fun _ _ h => h) haR0 haR1 haR2 hx_47
    exact ret_gv X hw hr hlocks (by show 0 ≤ Phc S + 8; omega) (by show 0 ≤ Phs S + 15019; omega) (by omega) (by omega) ⟨hO_45, ⟨PotV_of (actF_0 (show a1.toInt = 0 by omega)) pv_48 pv_49 pv_50 pv_51 pv_52 pv_53 pv_54 pv_55 pv_56 pv_57 (inD_act pv_11), px_65⟩⟩ dX4_act_84
  · refine lv_tableIn (tgt := 43) X.1 X.2.1 dX4_act_1 (by omega) (by omega) (by rw [w_22c]; rfl) (by decide) ?_
    refine lv_aload_n X.1 X.2.1 dX4_act_43 rfl (lv_at hl 0 rfl) ?_
    refine k_v (rm := { frames := 4, cells := 0, slots := 0, locals := 192 }) (av := [.ref x]) X hw (va_runV (As := []) (rest := []) (cfix X) (k_X4_dropThinnest5 l G cy κ S _ x D R0 R1 R2 Gs s1 A Ev hO.1 ha_x hp_0 hp_1 (PotV_of (rfl : A = A) pv_1 pv_2 pv_3 pv_4 pv_5 pv_6 pv_7 pv_8 pv_9 pv_10 pv_11) hp_3 ha_s1) (cwV 0 X.2.2.2.1 gX4_act_X4_dropThinnest rfl rfl rfl (by decide +kernel) ⟨Nat.le_of_ble_eq_true rfl, Nat.le_of_ble_eq_true rfl⟩) (pre_V X hw _ ha_x rfl (by decide) rfl) rfl rfl hl.1 rfl (lv_room (Nat.le_of_ble_eq_true rfl)) dX4_act_44 ⟨(by show 0 + 0 ≤ Phc S + 8; omega), (by show 0 + 0 ≤ Phs S + 15019; omega)⟩) 0 0 (by show 0 + 0 ≤ 0; omega) (by show 0 + 0 ≤ 0; omega) (fun S_67 H locs hp hw hfr hnw => ?_)
    obtain ⟨hk_68, hp⟩ := hp
    have ph_69 : 0 + Phc S_67 ≤ Phc S + 0 := by rw [show Phc S_67 = Phc S from Ph_ok hO.1 hk_68 (by decide +kernel) (by decide +kernel) (by decide +kernel)]; exact hpc0
    have ph_70 : 0 + Phs S_67 ≤ Phs S + 0 := by rw [show Phs S_67 = Phs S from Ph_ok hO.1 hk_68 (by decide +kernel) (by decide +kernel) (by decide +kernel)]; exact hps0
    clear hpc0
    clear hps0
    have hO_71 : Og eAC S S_67 := hO.call hk_68.og (by decide +kernel)
    obtain ⟨pv_72, hx_73⟩ := hp
    obtain ⟨pv_74, pv_75, pv_76, pv_77, pv_78, pv_79, pv_80, pv_81, pv_82, pv_83, pv_84⟩ := pv_72
    have t_85 : pI S_67 902 Gs = v_12 := hk_68.fr.I' (by decide +kernel) haGs ev_12
    have pz_86 : (pI S_67 902 Gs).toInt = v_12.toInt := (congrArg Int32.toInt t_85).trans rfl
    have t_87 : pI S_67 800 s1 = v_16 := hk_68.fr.I' (by decide +kernel) ha_s1 ev_16
    have pz_88 : (pI S_67 800 s1).toInt = v_16.toInt := (congrArg Int32.toInt t_87).trans rfl
    have sl_89 := pv_79.1
    have sl_90 := pv_82.1
    refine lv_goto (tgt := 84) X.1 X.2.1 dX4_act_47 (by decide) ?_
    have px_91 : PotX S S_67 x R0 R1 R2 Gs := PotX_tr (PotX_rf S x R0 R1 R2 Gs) (fun _ _ h => h) haR0 haR1 haR2 hx_73
    exact ret_gv X hw hr hlocks (by show 0 ≤ Phc S + 8; omega) (by show 0 ≤ Phs S + 15019; omega) (by omega) (by omega) ⟨hO_71, ⟨PotV_of (actF_1 (show a1.toInt = 1 by omega)) pv_74 pv_75 pv_76 pv_77 pv_78 pv_79 pv_80 pv_81 pv_82 pv_83 (inD_act pv_11), px_91⟩⟩ dX4_act_84
  · refine lv_tableIn (tgt := 50) X.1 X.2.1 dX4_act_1 (by omega) (by omega) (by rw [w_22c]; rfl) (by decide) ?_
    refine lv_aload_n X.1 X.2.1 dX4_act_50 rfl (lv_at hl 0 rfl) ?_
    refine k_v (rm := { frames := 4, cells := 0, slots := 0, locals := 192 }) (av := [.ref x]) X hw (va_runV (As := []) (rest := []) (cfix X) (k_X4_findFirst5 l G cy κ S _ x D R0 R1 R2 Gs s1 A Ev hO.1 ha_x hp_0 hp_1 (PotV_of (rfl : A = A) pv_1 pv_2 pv_3 pv_4 pv_5 pv_6 pv_7 pv_8 pv_9 pv_10 pv_11) hp_3 ha_s1) (cwV 0 X.2.2.2.1 gX4_act_X4_findFirst rfl rfl rfl (by decide +kernel) ⟨Nat.le_of_ble_eq_true rfl, Nat.le_of_ble_eq_true rfl⟩) (pre_V X hw _ ha_x rfl (by decide) rfl) rfl rfl hl.1 rfl (lv_room (Nat.le_of_ble_eq_true rfl)) dX4_act_51 ⟨(by show 0 + 0 ≤ Phc S + 8; omega), (by show 0 + 0 ≤ Phs S + 15019; omega)⟩) 0 0 (by show 0 + 0 ≤ 0; omega) (by show 0 + 0 ≤ 0; omega) (fun S_93 H locs hp hw hfr hnw => ?_)
    obtain ⟨hk_94, hp⟩ := hp
    have ph_95 : 0 + Phc S_93 ≤ Phc S + 0 := by rw [show Phc S_93 = Phc S from Ph_ok hO.1 hk_94 (by decide +kernel) (by decide +kernel) (by decide +kernel)]; exact hpc0
    have ph_96 : 0 + Phs S_93 ≤ Phs S + 0 := by rw [show Phs S_93 = Phs S from Ph_ok hO.1 hk_94 (by decide +kernel) (by decide +kernel) (by decide +kernel)]; exact hps0
    clear hpc0
    clear hps0
    have hO_97 : Og eAC S S_93 := hO.call hk_94.og (by decide +kernel)
    obtain ⟨pv_98, hx_99⟩ := hp
    obtain ⟨pv_100, pv_101, pv_102, pv_103, pv_104, pv_105, pv_106, pv_107, pv_108, pv_109, pv_110⟩ := pv_98
    have t_111 : pI S_93 902 Gs = v_12 := hk_94.fr.I' (by decide +kernel) haGs ev_12
    have pz_112 : (pI S_93 902 Gs).toInt = v_12.toInt := (congrArg Int32.toInt t_111).trans rfl
    have t_113 : pI S_93 800 s1 = v_16 := hk_94.fr.I' (by decide +kernel) ha_s1 ev_16
    have pz_114 : (pI S_93 800 s1).toInt = v_16.toInt := (congrArg Int32.toInt t_113).trans rfl
    have sl_115 := pv_105.1
    have sl_116 := pv_108.1
    refine lv_goto (tgt := 84) X.1 X.2.1 dX4_act_54 (by decide) ?_
    have px_117 : PotX S S_93 x R0 R1 R2 Gs := PotX_tr (PotX_rf S x R0 R1 R2 Gs) (fun _ _ h => h) haR0 haR1 haR2 hx_99
    exact ret_gv X hw hr hlocks (by show 0 ≤ Phc S + 8; omega) (by show 0 ≤ Phs S + 15019; omega) (by omega) (by omega) ⟨hO_97, ⟨PotV_of (actF_2 (show a1.toInt = 2 by omega)) pv_100 pv_101 pv_102 pv_103 pv_104 pv_105 pv_106 pv_107 pv_108 pv_109 (inD_act pv_11), px_117⟩⟩ dX4_act_84
  · refine lv_tableIn (tgt := 57) X.1 X.2.1 dX4_act_1 (by omega) (by omega) (by rw [w_22c]; rfl) (by decide) ?_
    refine lv_aload_n X.1 X.2.1 dX4_act_57 rfl (lv_at hl 0 rfl) ?_
    refine lv_aload_n X.1 X.2.1 dX4_act_58 rfl (lv_at hl 3 rfl) ?_
    refine k_v (rm := { frames := 4, cells := 0, slots := 0, locals := 192 }) (av := [.ref x, .ref s1]) X hw (va_runV (As := [.ref s1]) (rest := []) (cfix X) (k_X4_throwLast5 l G cy κ S _ x s1 D R0 R1 R2 Gs A Ev hO.1 ha_x ha_s1 hp_0 hp_1 (PotV_of (rfl : A = A) pv_1 pv_2 pv_3 pv_4 pv_5 pv_6 pv_7 pv_8 pv_9 pv_10 pv_11) hp_3) (cwV 1 X.2.2.2.1 gX4_act_X4_throwLast rfl rfl rfl (by decide +kernel) ⟨Nat.le_of_ble_eq_true rfl, Nat.le_of_ble_eq_true rfl⟩) (pre_V X hw _ ha_x rfl (by decide) rfl) rfl rfl hl.1 rfl (lv_room (Nat.le_of_ble_eq_true rfl)) dX4_act_59 ⟨(by show 0 + 0 ≤ Phc S + 8; omega), (by show 0 + 0 ≤ Phs S + 15019; omega)⟩) 0 0 (by show 0 + 0 ≤ 0; omega) (by show 0 + 0 ≤ 0; omega) (fun S_119 H locs hp hw hfr hnw => ?_)
    obtain ⟨hk_120, hp⟩ := hp
    have ph_121 : 0 + Phc S_119 ≤ Phc S + 0 := by rw [show Phc S_119 = Phc S from Ph_ok hO.1 hk_120 (by decide +kernel) (by decide +kernel) (by decide +kernel)]; exact hpc0
    have ph_122 : 0 + Phs S_119 ≤ Phs S + 0 := by rw [show Phs S_119 = Phs S from Ph_ok hO.1 hk_120 (by decide +kernel) (by decide +kernel) (by decide +kernel)]; exact hps0
    clear hpc0
    clear hps0
    have hO_123 : Og eAC S S_119 := hO.call hk_120.og (by decide +kernel)
    obtain ⟨pv_124, hx_125⟩ := hp
    obtain ⟨pv_126, pv_127, pv_128, pv_129, pv_130, pv_131, pv_132, pv_133, pv_134, pv_135, pv_136⟩ := pv_124
    have t_137 : pI S_119 902 Gs = v_12 := hk_120.fr.I' (by decide +kernel) haGs ev_12
    have pz_138 : (pI S_119 902 Gs).toInt = v_12.toInt := (congrArg Int32.toInt t_137).trans rfl
    have t_139 : pI S_119 800 s1 = v_16 := hk_120.fr.I' (by decide +kernel) ha_s1 ev_16
    have pz_140 : (pI S_119 800 s1).toInt = v_16.toInt := (congrArg Int32.toInt t_139).trans rfl
    have sl_141 := pv_131.1
    have sl_142 := pv_134.1
    refine lv_goto (tgt := 84) X.1 X.2.1 dX4_act_62 (by decide) ?_
    have px_143 : PotX S S_119 x R0 R1 R2 Gs := PotX_tr (PotX_rf S x R0 R1 R2 Gs) (fun _ _ h => h) haR0 haR1 haR2 hx_125
    exact ret_gv X hw hr hlocks (by show 0 ≤ Phc S + 8; omega) (by show 0 ≤ Phs S + 15019; omega) (by omega) (by omega) ⟨hO_123, ⟨PotV_of (actF_3 (show a1.toInt = 3 by omega)) pv_126 pv_127 pv_128 pv_129 pv_130 pv_131 pv_132 pv_133 pv_134 pv_135 (inD_act pv_11), px_143⟩⟩ dX4_act_84
  · refine lv_tableIn (tgt := 65) X.1 X.2.1 dX4_act_1 (by omega) (by omega) (by rw [w_22c]; rfl) (by decide) ?_
    refine lv_aload_n X.1 X.2.1 dX4_act_65 rfl (lv_at hl 0 rfl) ?_
    refine lv_aload_n X.1 X.2.1 dX4_act_66 rfl (lv_at hl 3 rfl) ?_
    refine k_gi (kc := 0) (ks := 0) (rm := { frames := 5, cells := Phc S + 8, slots := Phs S + 15019, locals := 240 }) (av := [.ref x, .ref s1]) X hw (va_runV (As := [.ref s1]) (rest := []) (cfix X) (k_X4_cutStrand5 l G cy κ S _ _ x s1 D R0 R1 R2 Gs A Ev hO.1 ha_x ha_s1 hp_0 hp_1 (PotV_of (rfl : A = A) pv_1 pv_2 pv_3 pv_4 pv_5 pv_6 pv_7 pv_8 pv_9 pv_10 pv_11) hp_3) (cwV 1 X.2.2.2.1 gX4_act_X4_cutStrand rfl rfl rfl (by decide +kernel) ⟨Nat.le_of_ble_eq_true rfl, Nat.le_of_ble_eq_true rfl⟩) (pre_gV X hw _ ha_x rfl (by decide) rfl) rfl rfl hl.1 rfl (lv_room (Nat.le_of_ble_eq_true rfl)) dX4_act_67 ⟨(by show 0 + (Phc S + 8) ≤ Phc S + 8; omega), (by show 0 + (Phs S + 15019) ≤ Phs S + 15019; omega)⟩) (fun rr_144 S_145 H locs c_146 n_147 hc_146 hn_147 hp hw => ?_)
    obtain ⟨hk_148, hp⟩ := hp
    have ph_149 : c_146 + Phc S_145 ≤ Phc S + 0 := by omega
    have ph_150 : n_147 + Phs S_145 ≤ Phs S + 0 := by omega
    clear hpc0
    clear hps0
    clear hc_146
    clear hn_147
    have hO_151 : Og eAC S S_145 := hO.call hk_148 (by decide +kernel)
    obtain ⟨cu_152, cu_153, cu_154, cu_155, cu_156⟩ := hp
    obtain ⟨pv_157, pv_158, pv_159, pv_160, pv_161, pv_162, pv_163, pv_164, pv_165, pv_166, pv_167⟩ := cu_154
    obtain ⟨v_169, ev_169⟩ : ∃ v, pI S_145 902 Gs = v := ⟨_, rfl⟩
    have t_171 : At S_145 Gs 29 := hk_148.fr.at haGs
    have rg_170 := gI_29_902 hO_151.1 t_171; rw [ev_169] at rg_170
    have pz_172 : (pI S_145 902 Gs).toInt = v_169.toInt := by rw [ev_169]
    have pz_173 : (pI S_145 902 Gs).toInt = v_169.toInt := (congrArg Int32.toInt ev_169).trans rfl
    obtain ⟨v_175, ev_175⟩ : ∃ v, pI S_145 800 s1 = v := ⟨_, rfl⟩
    have t_177 : At S_145 s1 8 := hk_148.fr.at ha_s1
    have rg_176 := gI_8_800 hO_151.1 t_177; rw [ev_175] at rg_176
    have pz_178 : (pI S_145 800 s1).toInt = v_175.toInt := by rw [ev_175]
    have pz_179 : (pI S_145 800 s1).toInt = v_175.toInt := (congrArg Int32.toInt ev_175).trans rfl
    have sl_180 := pv_162.1
    have sl_181 := pv_165.1
    refine lv_pop X.1 X.2.1 dX4_act_70 rfl ?_
    refine lv_goto (tgt := 84) X.1 X.2.1 dX4_act_71 (by decide) ?_
    have px_182 : PotX S S_145 x R0 R1 R2 Gs := PotX_tr (PotX_rf S x R0 R1 R2 Gs) (fun _ _ h => h) haR0 haR1 haR2 cu_155
    exact ret_gv X hw hr hlocks (by show c_146 ≤ Phc S + 8; omega) (by show n_147 ≤ Phs S + 15019; omega) (by omega) (by omega) ⟨hO_151, ⟨PotV_of (actF_4 (show a1.toInt = 4 by omega)) pv_157 pv_158 pv_159 pv_160 pv_161 pv_162 pv_163 pv_164 pv_165 pv_166 (inD_act pv_11), px_182⟩⟩ dX4_act_84
set_option maxHeartbeats 4000000 in
set_option maxRecDepth 100000 in
theorem k_X4_allHold5 (l : Launch) (G : va_G) (cy : Nat → ClassId) (κ : Nat → Nat) (S : PS) (sz : Nat) (x : Nat) (a1 : Int32) (a1_z : Int) (a2 : Int32) (a2_z : Int) (D : Nat → Prop) (R0 : Nat) (R1 : Nat) (R2 : Nat) (Gs : Nat) (Ks : Nat) (A : Pt) (Ev : En) (Rl : List Ru) (ru : Ru) (hG : GX S) (ha_x : At S x 4) (hz_a1 : a1.toInt = a1_z) (hz_a2 : a2.toInt = a2_z) (hp_0 : (∀ c, D c → At S c 0)) (hp_1 : PotR S x R0 R1 R2 Gs) (hp_2 : PotV S D x R0 R1 R2 Gs Ks A) (hp_3 : EnC S D x Ks Ev) (hp_4 : At S Ks 8) (hp_5 : a2 = eday Ev) (hp_6 : 0 ≤ a1_z) (hp_7 : a1_z ≤ 11) (hp_8 : RuS S x Rl) (hp_9 : Rl[a1_z.toNat]? = some ru) : Ci l yX4_allHold wsX4_allHold ({ frames := 5, cells := 0, slots := 0, locals := 240 }) G cy κ S sz [.ref x, .int (a1), .int (a2)] (fun (r : Int32) (S9 : PS) => S = S9 ∧ (((allP Ev A ru.2.2) ∧ r = 1) ∨ ((¬ allP Ev A ru.2.2) ∧ r = 0))) := by
  refine ent_m (cc := cX4_allHold) (maxL := 6) (ret := (some .boolean)) (by decide) rfl (Nat.le_of_ble_eq_true rfl) ?_
  intro p e s m below meth c ls X hr hlocks hin hw hl hsz
  subst hsz
  have X : Cx p c cX4_allHold 6 s [.ref x, .int (a1), .int (a2)].toArray wsX4_allHold RX4 m G cy κ (AS S s.heap.size) := X
  have hl : lv_has ls 6 [(0, .ref x), (1, .int (a1)), (2, .int (a2))] := hl
  have rg_a1 : (-2147483648) ≤ a1_z ∧ a1_z ≤ 2147483647 := by rw [← hz_a1]; exact ⟨z_lo _, z_hi _⟩
  have rg_a2 : (-2147483648) ≤ a2_z ∧ a2_z ≤ 2147483647 := by rw [← hz_a2]; exact ⟨z_lo _, z_hi _⟩
  generalize hQQ : MQ below _ _ _ _ _ _ = QQ
  replace hQQ := hQQ.symm
  have hpr := hp_1
  obtain ⟨hr0, hr1, hr2, hr3, hne, hcn⟩ := hpr
  have haR0 := row_at hG ha_x (Or.inl hr0)
  have haR1 := row_at hG ha_x (Or.inr (Or.inl hr1))
  have haR2 := row_at hG ha_x (Or.inr (Or.inr hr2))
  have haGs : At S Gs 29 := by obtain ⟨c, k1, k2⟩ := gQ_4_403 hG ha_x; have h3 := hr3; rw [k1] at h3; cases h3; exact k2
  have hpv := hp_2
  obtain ⟨pv_1, pv_2, pv_3, pv_4, pv_5, pv_6, pv_7, pv_8, pv_9, pv_10, pv_11⟩ := hpv
  obtain ⟨v_12, ev_12⟩ : ∃ v, pI S 902 Gs = v := ⟨_, rfl⟩
  have rg_13 := gI_29_902 hG haGs; rw [ev_12] at rg_13
  have pz_14 : (pI S 902 Gs).toInt = v_12.toInt := by rw [ev_12]
  have pz_15 : (pI S 902 Gs).toInt = v_12.toInt := (congrArg Int32.toInt ev_12).trans rfl
  obtain ⟨v_16, ev_16⟩ : ∃ v, pI S 800 Ks = v := ⟨_, rfl⟩
  have rg_17 := gI_8_800 hG hp_4; rw [ev_16] at rg_17
  have pz_18 : (pI S 800 Ks).toInt = v_16.toInt := by rw [ev_16]
  have pz_19 : (pI S 800 Ks).toInt = v_16.toInt := (congrArg Int32.toInt ev_16).trans rfl
  have sl_20 := pv_6.1
  have sl_21 := pv_9.1
  have hrs := hp_8
  obtain ⟨rh, hrh, hru1, hru2⟩ := hrs
  have harh := ru_at hG ha_x hrh
  obtain ⟨hA1, hA2, hA3, hA4⟩ := hru2 _ _ hp_9
  refine lv_iload_n X.1 X.2.1 dX4_allHold_0 rfl (lv_at hl 1 rfl) ?_
  refine lv_iconst (v := 4) X.1 X.2.1 dX4_allHold_1 (by decide) ?_
  refine lv_imul X.1 X.2.1 dX4_allHold_2 ?_
  refine lv_topi (fun v_22 ev_22 => ?_)
  have z_23 : v_22.toInt = a1_z * 4 := z_mul ev_22 hz_a1 ti_4 (by omega) (by omega)
  refine lv_istore_n (lv' := [(3, .int (v_22)), (0, .ref x), (1, .int (a1)), (2, .int (a2))]) X.1 X.2.1 dX4_allHold_3 rfl hl (by decide) rfl (fun ls hl => ?_)
  refine lv_iload_n X.1 X.2.1 dX4_allHold_4 rfl (lv_at hl 0 rfl) ?_
  refine lv_istore (lv' := [(4, .int (v_22)), (3, .int (v_22)), (0, .ref x), (1, .int (a1)), (2, .int (a2))]) X.1 X.2.1 dX4_allHold_5 hl (by decide) rfl (fun ls hl => ?_)
  have L_24 : ∀ (n : Nat) (H : Heap) (locs : List Loc) (ls : Array Slot) (i4_25 : Int32) (i4_25_z : Int), ((48 - i4_25_z).toNat = n) → (Wd G cy (AS S s.heap.size) s.heap S H locs) → (i4_25.toInt = i4_25_z) → (0 ≤ i4_25_z ∧ i4_25_z ≤ 48) → ((∀ (j : Nat) (c : Int32 × Int32 × Int32), 4 * a1_z + (j : Int) < i4_25_z → ru.2.2[j]? = some c → relP c.2.1 (valF Ev A c.1) c.2.2.toInt)) → (4 * a1_z ≤ i4_25_z) → (lv_has ls 6 [(4, .int (i4_25)), (3, .int (v_22)), (0, .ref x), (1, .int (a1)), (2, .int (a2))]) → W p l e ({ frames := 5, cells := 0, slots := 0, locals := 240 }) s m [.ref x, .int (a1), .int (a2)].toArray below meth c H locs 0 0 QQ (F0 m 7 ls []) := by
    intro n
    induction n using Nat.strongRecOn with
    | ind n ih =>
    intro H locs ls i4_25 i4_25_z hn hw hz_i4_25 hr_i4_25 iv_26 iv_27 hl
    have rg_28 : (-2147483648) ≤ i4_25_z ∧ i4_25_z ≤ 2147483647 := by rw [← hz_i4_25]; exact ⟨z_lo _, z_hi _⟩
    refine lv_iload X.1 X.2.1 dX4_allHold_7 (lv_at hl 0 rfl) ?_
    refine lv_iload_n X.1 X.2.1 dX4_allHold_9 rfl (lv_at hl 1 rfl) ?_
    refine lv_aload_n X.1 X.2.1 dX4_allHold_10 rfl (lv_at hl 2 rfl) ?_
    refine r_getR (g := 409) X hw ha_x rfl 9 hrh (by decide) rfl inn_X4_allHold_4 (by decide) (X.2.2.2.1 (.fieldLink RX4 36 "SilkMill$Pot" "rules" "LSilkMill$Rules;") (by decide +kernel)) rfl (gv_409 _ _) dX4_allHold_11 ?_
    obtain ⟨q_29, h_30, h_31, h_32⟩ := gQ_6_603 hG harh
    refine r_getR (g := 603) X hw harh rfl 3 h_30 (by decide) rfl inn_X4_allHold_6 (by decide) (X.2.2.2.1 (.fieldLink RX4 120 "SilkMill$Rules" "conditions" "[I") (by decide +kernel)) rfl (gv_603 _ _) dX4_allHold_14 ?_
    refine lv_iload_n X.1 X.2.1 dX4_allHold_17 rfl (lv_at hl 3 rfl) ?_
    refine r_iald X hw h_31 rfl (by rw [h_32]; exact z_ix hz_a1 (by omega) (by omega)) dX4_allHold_18 ?_
    refine lv_topi (fun v_33 ev_33 => ?_)
    have z_34 := gE_34 hG h_31 (Int32.toNatClampNeg (a1)); rw [← ev_33] at z_34
    have ev_33 := ev_33.symm
    have cn_35 : (v_33).toInt = (ru.2.2.length : Int) := by rw [← hA3, mA_eq h_30, ← z_nc hz_a1 (by omega), ev_33]
    have cn_36 : v_33.toInt = (ru.2.2.length : Int) := cn_35
    refine lv_iadd X.1 X.2.1 dX4_allHold_19 ?_
    refine lv_topi (fun v_37 ev_37 => ?_)
    have z_38 : v_37.toInt = v_22.toInt + v_33.toInt := z_add ev_37 rfl rfl (by omega) (by omega)
    refine lv_icmp_ge (tgt := 76) X.1 X.2.1 dX4_allHold_20 (by decide) (fun c_39 => ?_) (fun c_39 => ?_)
    · have z_b_40 := trivial
      have k_41 : i4_25_z ≥ v_37.toInt := z_le rfl hz_i4_25 c_39
      refine lv_iconst (v := 1) X.1 X.2.1 dX4_allHold_76 (by decide) ?_
      rw [hQQ]
      exact ret_z X hw hr hlocks (Nat.le_of_ble_eq_true rfl) (Nat.le_of_ble_eq_true rfl) (by decide) ⟨rfl, Or.inl ⟨allP_of (fun j c hc => iv_26 j c (by have := (List.getElem?_eq_some_iff.mp hc).1; omega) hc), rfl⟩⟩ dX4_allHold_77
    · have z_b_42 := trivial
      have k_43 : i4_25_z < v_37.toInt := z_nle rfl hz_i4_25 c_39
      obtain ⟨cj_44, cj_45⟩ : ∃ c, ru.2.2[(i4_25_z - 4 * a1_z).toNat]? = some c := ⟨_, List.getElem?_eq_getElem (by omega)⟩
      obtain ⟨cj_46, cj_47, cj_48⟩ := hA4 _ _ cj_45
      refine lv_aload_n X.1 X.2.1 dX4_allHold_23 rfl (lv_at hl 2 rfl) ?_
      refine lv_aload_n X.1 X.2.1 dX4_allHold_24 rfl (lv_at hl 2 rfl) ?_
      refine r_getR (g := 409) X hw ha_x rfl 9 hrh (by decide) rfl inn_X4_allHold_4 (by decide) (X.2.2.2.1 (.fieldLink RX4 36 "SilkMill$Pot" "rules" "LSilkMill$Rules;") (by decide +kernel)) rfl (gv_409 _ _) dX4_allHold_25 ?_
      obtain ⟨q_49, h_50, h_51, h_52⟩ := gQ_6_604 hG harh
      refine r_getR (g := 604) X hw harh rfl 4 h_50 (by decide) rfl inn_X4_allHold_6 (by decide) (X.2.2.2.1 (.fieldLink RX4 123 "SilkMill$Rules" "fields" "[I") (by decide +kernel)) rfl (gv_604 _ _) dX4_allHold_28 ?_
      refine lv_iload X.1 X.2.1 dX4_allHold_31 (lv_at hl 0 rfl) ?_
      refine r_iald X hw h_51 rfl (by rw [h_52]; exact z_ix hz_i4_25 (by omega) (by omega)) dX4_allHold_33 ?_
      refine lv_topi (fun v_53 ev_53 => ?_)
      have rg_54 := And.intro (z_lo v_53) (z_hi v_53)
      have ev_53 := ev_53.symm
      have fj_55 : v_53 = cj_44.1 := by rw [← cj_46, mA_eq h_50, show 4 * a1_z.toNat + (i4_25_z - 4 * a1_z).toNat = Int32.toNatClampNeg (i4_25) from (by have hq := z_nc (x := i4_25) hz_i4_25 (by omega); omega), ev_53]
      refine lv_iload_n X.1 X.2.1 dX4_allHold_34 rfl (lv_at hl 4 rfl) ?_
      refine k_i (rm := { frames := 4, cells := 0, slots := 0, locals := 192 }) (av := [.ref x, .int (v_53), .int (a2)]) X hw (va_runV (As := [.int (v_53), .int (a2)]) (rest := []) (cfix X) (k_X4_valueOf5 l G cy κ S _ x (v_53) (v_53.toInt) (a2) (a2_z) D R0 R1 R2 Gs Ks A Ev hG ha_x rfl hz_a2 hp_0 hp_1 (PotV_of (rfl : A = A) pv_1 pv_2 pv_3 pv_4 pv_5 pv_6 pv_7 pv_8 pv_9 pv_10 pv_11) hp_3 hp_4 hp_5) (cwV 2 X.2.2.2.1 gX4_allHold_X4_valueOf rfl rfl rfl (by decide +kernel) ⟨Nat.le_of_ble_eq_true rfl, Nat.le_of_ble_eq_true rfl⟩) (pre_V X hw _ ha_x rfl (by decide) rfl) rfl rfl hl.1 rfl (lv_room (Nat.le_of_ble_eq_true rfl)) dX4_allHold_35 ⟨Nat.le_of_ble_eq_true rfl, Nat.le_of_ble_eq_true rfl⟩) 0 0 (Nat.le_of_ble_eq_true rfl) (Nat.le_of_ble_eq_true rfl) (fun rr_56 S_57 H locs hp hw hfr hnw => ?_)
      obtain ⟨e2, hp⟩ := hp
      subst e2
      obtain ⟨va_58, va_59, va_60⟩ := hp
      refine lv_istore (lv' := [(5, .int (rr_56)), (4, .int (i4_25)), (3, .int (v_22)), (0, .ref x), (1, .int (a1)), (2, .int (a2))]) X.1 X.2.1 dX4_allHold_38 hl (by decide) rfl (fun ls hl => ?_)
      refine lv_iload X.1 X.2.1 dX4_allHold_40 (lv_at hl 0 rfl) ?_
      refine lv_aload_n X.1 X.2.1 dX4_allHold_42 rfl (lv_at hl 3 rfl) ?_
      refine r_getR (g := 409) X hw ha_x rfl 9 hrh (by decide) rfl inn_X4_allHold_4 (by decide) (X.2.2.2.1 (.fieldLink RX4 36 "SilkMill$Pot" "rules" "LSilkMill$Rules;") (by decide +kernel)) rfl (gv_409 _ _) dX4_allHold_43 ?_
      obtain ⟨q_61, h_62, h_63, h_64⟩ := gQ_6_605 hG harh
      refine r_getR (g := 605) X hw harh rfl 5 h_62 (by decide) rfl inn_X4_allHold_6 (by decide) (X.2.2.2.1 (.fieldLink RX4 130 "SilkMill$Rules" "relations" "[I") (by decide +kernel)) rfl (gv_605 _ _) dX4_allHold_46 ?_
      refine lv_iload X.1 X.2.1 dX4_allHold_49 (lv_at hl 1 rfl) ?_
      refine r_iald X hw h_63 rfl (by rw [h_64]; exact z_ix hz_i4_25 (by omega) (by omega)) dX4_allHold_51 ?_
      refine lv_topi (fun v_65 ev_65 => ?_)
      have rg_66 := And.intro (z_lo v_65) (z_hi v_65)
      have ev_65 := ev_65.symm
      have fj_67 : v_65 = cj_44.2.1 := by rw [← cj_47, mA_eq h_62, show 4 * a1_z.toNat + (i4_25_z - 4 * a1_z).toNat = Int32.toNatClampNeg (i4_25) from (by have hq := z_nc (x := i4_25) hz_i4_25 (by omega); omega), ev_65]
      refine lv_aload_n X.1 X.2.1 dX4_allHold_52 rfl (lv_at hl 3 rfl) ?_
      refine r_getR (g := 409) X hw ha_x rfl 9 hrh (by decide) rfl inn_X4_allHold_4 (by decide) (X.2.2.2.1 (.fieldLink RX4 36 "SilkMill$Pot" "rules" "LSilkMill$Rules;") (by decide +kernel)) rfl (gv_409 _ _) dX4_allHold_53 ?_
      obtain ⟨q_68, h_69, h_70, h_71⟩ := gQ_6_606 hG harh
      refine r_getR (g := 606) X hw harh rfl 6 h_69 (by decide) rfl inn_X4_allHold_6 (by decide) (X.2.2.2.1 (.fieldLink RX4 133 "SilkMill$Rules" "numbers" "[I") (by decide +kernel)) rfl (gv_606 _ _) dX4_allHold_56 ?_
      refine lv_iload X.1 X.2.1 dX4_allHold_59 (lv_at hl 1 rfl) ?_
      refine r_iald X hw h_70 rfl (by rw [h_71]; exact z_ix hz_i4_25 (by omega) (by omega)) dX4_allHold_61 ?_
      refine lv_topi (fun v_72 ev_72 => ?_)
      have rg_73 := And.intro (z_lo v_72) (z_hi v_72)
      have ev_72 := ev_72.symm
      have fj_74 : v_72 = cj_44.2.2 := by rw [← cj_48, mA_eq h_69, show 4 * a1_z.toNat + (i4_25_z - 4 * a1_z).toNat = Int32.toNatClampNeg (i4_25) from (by have hq := z_nc (x := i4_25) hz_i4_25 (by omega); omega), ev_72]
      refine k_i (rm := { frames := 1, cells := 0, slots := 0, locals := 48 }) (av := [.int (rr_56), .int (v_65), .int (v_72)]) X hw (va_runS (As := [.int (rr_56), .int (v_65), .int (v_72)]) (rest := []) (cfix X) (k_X4_isRelated5 l G cy κ S _ (rr_56) (rr_56.toInt) (v_65) (v_65.toInt) (v_72) (v_72.toInt) hG rfl rfl rfl) (cwS 3 X.2.2.2.1 gX4_allHold_X4_isRelated rfl rfl rfl (by decide +kernel) ⟨Nat.le_of_ble_eq_true rfl, Nat.le_of_ble_eq_true rfl⟩) (pre_S X hw _) rfl rfl hl.1 rfl (lv_room (Nat.le_of_ble_eq_true rfl)) dX4_allHold_62 ⟨Nat.le_of_ble_eq_true rfl, Nat.le_of_ble_eq_true rfl⟩) 0 0 (Nat.le_of_ble_eq_true rfl) (Nat.le_of_ble_eq_true rfl) (fun rr_75 S_76 H locs hp hw hfr hnw => ?_)
      obtain ⟨e2, hp⟩ := hp
      subst e2
      rcases hp with ⟨f_77, er_78⟩ | ⟨f_77, er_78⟩ <;> subst er_78
      · have z_b_79 := trivial
        refine lv_if_ne (tgt := 70) X.1 X.2.1 dX4_allHold_65 (by decide) (fun c_80 => ?_) (fun c_80 => absurd c_80 (by decide))
        obtain ⟨x_81, ex_81⟩ : ∃ y : Int32, y = i4_25 + 1 := ⟨_, rfl⟩
        have z_82 : x_81.toInt = i4_25_z + 1 := z_add ex_81 hz_i4_25 ti_1 (by omega) (by omega)
        refine lv_iinc (v := x_81) (lv' := [(4, .int (x_81)), (5, .int (rr_56)), (3, .int (v_22)), (0, .ref x), (1, .int (a1)), (2, .int (a2))]) X.1 X.2.1 dX4_allHold_70 hl (k := 1) rfl (by rw [ex_81]; rfl) (by decide) rfl (fun ls hl => ?_)
        refine lv_goto (tgt := 7) X.1 X.2.1 dX4_allHold_73 (by decide) ?_
        have rl_83 : relP cj_44.2.1 (valF Ev A cj_44.1) cj_44.2.2.toInt := by have h := f_77; rw [fj_67, va_60, fj_55] at h; rw [← fj_74]; exact h
        exact ih _ (by omega) _ _ _ (x_81) (x_81.toInt) rfl hw rfl (by omega) (fun j c hj hc => by rcases (show 4 * a1_z + (j : Int) < i4_25_z ∨ j = (i4_25_z - 4 * a1_z).toNat by omega) with e | e; exact iv_26 j c e hc; rw [e, cj_45] at hc; cases hc; exact rl_83) (by omega) (lv_sub hl [0, 2, 3, 4, 5] rfl)
      · have z_b_84 := trivial
        refine lv_if_ne (tgt := 70) X.1 X.2.1 dX4_allHold_65 (by decide) (fun c_85 => absurd c_85 (by decide)) (fun c_85 => ?_)
        refine lv_iconst (v := 0) X.1 X.2.1 dX4_allHold_68 (by decide) ?_
        have rl_86 : ¬ relP cj_44.2.1 (valF Ev A cj_44.1) cj_44.2.2.toInt := by have h := f_77; rw [fj_67, va_60, fj_55] at h; rw [← fj_74]; exact h
        rw [hQQ]
        exact ret_z X hw hr hlocks (Nat.le_of_ble_eq_true rfl) (Nat.le_of_ble_eq_true rfl) (by decide) ⟨rfl, Or.inr ⟨fun h => rl_86 (h _ (List.mem_of_getElem? cj_45)), rfl⟩⟩ dX4_allHold_69
  exact L_24 _ _ _ _ (v_22) (v_22.toInt) rfl hw rfl (by omega) (fun j c h => absurd h (by omega)) (by omega) (lv_sub hl [0, 1, 2, 3, 4] rfl)
