
set_option maxHeartbeats 4000000 in
set_option maxRecDepth 100000 in
theorem k_X4_cutStrand5 (l : Launch) (G : va_G) (cy : Nat → ClassId) (κ : Nat → Nat) (S : PS) (sz hz : Nat) (x : Nat) (s1 : Nat) (D : Nat → Prop) (R0 : Nat) (R1 : Nat) (R2 : Nat) (Gs : Nat) (A : Pt) (Ev : En) (hG : GX S) (ha_x : At S x 4) (ha_s1 : At S s1 8) (hp_0 : (∀ c, D c → At S c 0)) (hp_1 : PotR S x R0 R1 R2 Gs) (hp_2 : PotV S D x R0 R1 R2 Gs s1 A) (hp_3 : EnC S D x s1 Ev) : Gi l yX4_cutStrand wsX4_cutStrand ({ frames := 5, cells := Phc S + 8, slots := Phs S + 15019, locals := 240 }) G cy κ S sz hz 0 0 [.ref x, .ref s1] (fun (r : Int32) (S9 : PS) => Og eCU S S9 ∧ (-2147483648 ≤ r.toInt ∧ r.toInt ≤ 2147483647 ∧ PotV S9 D x R0 R1 R2 Gs s1 (cutF Ev A) ∧ PotX S S9 x R0 R1 R2 Gs ∧ r.toInt = cutR A ∧ CwT S S9 s1 Ev A (cutF Ev A))) := by
  refine ent_g (cc := cX4_cutStrand) (maxL := 3) (ret := (some .int)) (by decide) rfl (Nat.le_of_ble_eq_true rfl) ?_
  intro p e s m below meth c ls X hr hlocks hin hw hl hsz hhz
  subst hsz hhz
  have X : Cx p c cX4_cutStrand 3 s [.ref x, .ref s1].toArray wsX4_cutStrand RX4 m G cy κ (AS S s.heap.size) := X
  have hl : lv_has ls 3 [(0, .ref x), (1, .ref s1)] := hl
  have hpc0 : 0 + Phc S ≤ Phc S + 0 := by omega
  have hps0 : 0 + Phs S ≤ Phs S + 0 := by omega
  have hO : Og eCU S S := Og.rf hG
  have hpr := hp_1
  obtain ⟨hr0, hr1, hr2, hr3, hne, hcn⟩ := hpr
  have haR0 := row_at hG ha_x (Or.inl hr0)
  have haR1 := row_at hG ha_x (Or.inr (Or.inl hr1))
  have haR2 := row_at hG ha_x (Or.inr (Or.inr hr2))
  have haGs : At S Gs 29 := by obtain ⟨c, k1, k2⟩ := gQ_4_403 hG ha_x; have h3 := hr3; rw [k1] at h3; cases h3; exact k2
  have hpv := hp_2
  obtain ⟨pv_1, pv_2, pv_3, pv_4, pv_5, pv_6, pv_7, pv_8, pv_9, pv_10, pv_11⟩ := hpv
  obtain ⟨v_12, ev_12⟩ : ∃ v, pI S 902 Gs = v := ⟨_, rfl⟩
  have rg_13 := gI_29_902 hO.1 haGs; rw [ev_12] at rg_13
  have pz_14 : (pI S 902 Gs).toInt = v_12.toInt := by rw [ev_12]
  have pz_15 : (pI S 902 Gs).toInt = v_12.toInt := (congrArg Int32.toInt ev_12).trans rfl
  obtain ⟨v_16, ev_16⟩ : ∃ v, pI S 800 s1 = v := ⟨_, rfl⟩
  have rg_17 := gI_8_800 hO.1 ha_s1; rw [ev_16] at rg_17
  have pz_18 : (pI S 800 s1).toInt = v_16.toInt := by rw [ev_16]
  have pz_19 : (pI S 800 s1).toInt = v_16.toInt := (congrArg Int32.toInt ev_16).trans rfl
  have sl_20 := pv_6.1
  have sl_21 := pv_9.1
  refine lv_aload_n X.1 X.2.1 dX4_cutStrand_0 rfl (lv_at hl 0 rfl) ?_
  refine r_getR (g := 403) X hw ha_x rfl 3 hr3 (by decide) rfl inn_X4_cutStrand_4 (by decide) (X.2.2.2.1 (.fieldLink RX4 29 "SilkMill$Pot" "strand" "LSilkMill$Strand;") (by decide +kernel)) rfl (gv_403 _ _) dX4_cutStrand_1 ?_
  refine r_getI (g := 902) (x := v_12) X hw haGs rfl 2 ev_12 (by decide) rfl inn_X4_cutStrand_9 (by decide) (X.2.2.2.1 (.fieldLink RX4 79 "SilkMill$Strand" "metres" "I") (by decide +kernel)) rfl (gv_902 _ _) dX4_cutStrand_4 ?_
  refine lv_if_ne (tgt := 12) X.1 X.2.1 dX4_cutStrand_7 (by decide) (fun c_22 => ?_) (fun c_22 => ?_)
  · have z_b_23 := trivial
    have k_24 : v_12.toInt ≠ 0 := z_ne rfl ti_0 c_22
    refine lv_aload_n X.1 X.2.1 dX4_cutStrand_12 rfl (lv_at hl 1 rfl) ?_
    refine lv_aload_n X.1 X.2.1 dX4_cutStrand_13 rfl (lv_at hl 0 rfl) ?_
    refine r_getR (g := 403) X hw ha_x rfl 3 hr3 (by decide) rfl inn_X4_cutStrand_4 (by decide) (X.2.2.2.1 (.fieldLink RX4 29 "SilkMill$Pot" "strand" "LSilkMill$Strand;") (by decide +kernel)) rfl (gv_403 _ _) dX4_cutStrand_14 ?_
    refine lv_aload_n X.1 X.2.1 dX4_cutStrand_17 rfl (lv_at hl 0 rfl) ?_
    obtain ⟨v_25, ev_25⟩ : ∃ v, pI S 410 x = v := ⟨_, rfl⟩
    have rg_27 := And.intro (z_lo v_25) (z_hi v_25)
    have pz_28 : (pI S 410 x).toInt = v_25.toInt := by rw [ev_25]
    refine r_getI (g := 410) (x := v_25) X hw ha_x rfl 10 ev_25 (by decide) rfl inn_X4_cutStrand_4 (by decide) (X.2.2.2.1 (.fieldLink RX4 40 "SilkMill$Pot" "potNumber" "I") (by decide +kernel)) rfl (gv_410 _ _) dX4_cutStrand_18 ?_
    refine lv_aload_n X.1 X.2.1 dX4_cutStrand_21 rfl (lv_at hl 0 rfl) ?_
    obtain ⟨v_29, ev_29⟩ : ∃ v, pI S 404 x = v := ⟨_, rfl⟩
    have rg_31 := And.intro (z_lo v_29) (z_hi v_29)
    have pz_32 : (pI S 404 x).toInt = v_29.toInt := by rw [ev_29]
    refine r_getI (g := 404) (x := v_29) X hw ha_x rfl 4 ev_29 (by decide) rfl inn_X4_cutStrand_4 (by decide) (X.2.2.2.1 (.fieldLink RX4 44 "SilkMill$Pot" "aim" "I") (by decide +kernel)) rfl (gv_404 _ _) dX4_cutStrand_22 ?_
    refine k_gi (kc := 0) (ks := 0) (rm := { frames := 4, cells := Phc S + 8, slots := Phs S + 15019, locals := 192 }) (av := [.ref s1, .ref Gs, .int (v_25), .int (v_29)]) X hw (va_runV (As := [.ref Gs, .int (v_25), .int (v_29)]) (rest := []) (cfix X) (k_X8_keep7 l G cy κ S _ _ s1 Gs (v_25) (v_25.toInt) (v_29) (v_29.toInt) hO.1 ha_s1 haGs rfl rfl) (cwV 3 X.2.2.2.1 gX4_cutStrand_X8_keep rfl rfl rfl (by decide +kernel) ⟨Nat.le_of_ble_eq_true rfl, Nat.le_of_ble_eq_true rfl⟩) (pre_gV X hw _ ha_s1 rfl (by decide) rfl) rfl rfl hl.1 rfl (lv_room (Nat.le_of_ble_eq_true rfl)) dX4_cutStrand_25 ⟨(by show 0 + (Phc S + 8) ≤ Phc S + 8; omega), (by show 0 + (Phs S + 15019) ≤ Phs S + 15019; omega)⟩) (fun rr_33 S_34 H locs c_35 n_36 hc_35 hn_36 hp hw => ?_)
    obtain ⟨hk_37, hp⟩ := hp
    have ph_38 : c_35 + Phc S_34 ≤ Phc S + 0 := by omega
    have ph_39 : n_36 + Phs S_34 ≤ Phs S + 0 := by omega
    clear hpc0
    clear hps0
    clear hc_35
    clear hn_36
    have hO_40 : Og eCU S S_34 := hO.call hk_37 (by decide +kernel)
    obtain ⟨kp_41, kp_42, kp_43, kp_44⟩ := hp
    by_cases kp_45 : ((qsk A)).length < 40
    · obtain ⟨kp_46, kp_47, kp_49, kq_50, kq_51⟩ := kp_43 (by omega)
      have en_53 : EnC S_34 D x s1 Ev := EnC_fr hk_37.fr hp_0 ha_x ha_s1 (by decide +kernel) hp_3
      have t_54 : pI S_34 410 x = v_25 := hk_37.fr.I' (by decide +kernel) ha_x ev_25
      have t_55 : pI S_34 404 x = v_29 := hk_37.fr.I' (by decide +kernel) ha_x ev_29
      have sk_52 : SkV S_34 D s1 ((qsk A) ++ [(epot Ev, eday Ev, eaim Ev, (qg A))]) := by rw [en_53.2.1, en_53.2.2.1, en_53.2.2.2.1, t_54, t_55, show pI S_34 801 s1 = pI S 801 s1 from hk_37.fr.I' (by decide +kernel) ha_s1 rfl]; exact SkV_ke hO.1 ha_s1 haGs hk_37.fr kp_47 kp_49 pv_6 pv_9
      have kp_48 : (((qsk A) ++ [(epot Ev, eday Ev, eaim Ev, (qg A))]).length : Int) = (((qsk A)).length : Int) + 1 := by rw [List.length_append]; rfl
      obtain ⟨v_57, ev_57⟩ : ∃ v, pI S_34 800 s1 = v := ⟨_, rfl⟩
      have t_59 : At S_34 s1 8 := hk_37.fr.at ha_s1
      have rg_58 := gI_8_800 hO_40.1 t_59; rw [ev_57] at rg_58
      have pz_60 : (pI S_34 800 s1).toInt = v_57.toInt := by rw [ev_57]
      have pz_61 : (pI S_34 800 s1).toInt = v_57.toInt := (congrArg Int32.toInt ev_57).trans rfl
      refine lv_istore_n (lv' := [(2, .int (rr_33)), (0, .ref x), (1, .ref s1)]) X.1 X.2.1 dX4_cutStrand_28 rfl hl (by decide) rfl (fun ls hl => ?_)
      refine lv_aload_n X.1 X.2.1 dX4_cutStrand_29 rfl (lv_at hl 1 rfl) ?_
      have t_62 : At S_34 x 4 := hk_37.fr.at ha_x
      have t_63 : pR S_34 403 x = some Gs := hk_37.fr.R' (by decide +kernel) ha_x hr3
      refine r_getR (g := 403) X hw t_62 rfl 3 t_63 (by decide) rfl inn_X4_cutStrand_4 (by decide) (X.2.2.2.1 (.fieldLink RX4 29 "SilkMill$Pot" "strand" "LSilkMill$Strand;") (by decide +kernel)) rfl (gv_403 _ _) dX4_cutStrand_30 ?_
      have t_64 : At S_34 Gs 29 := hk_37.fr.at haGs
      refine k_v (rm := { frames := 1, cells := 0, slots := 0, locals := 48 }) (av := [.ref Gs]) X hw (va_runV (As := []) (rest := []) (cfix X) (k_X9_beginAnew7 l G cy κ S_34 _ Gs hO_40.1 t_64) (cwV 0 X.2.2.2.1 gX4_cutStrand_X9_beginAnew rfl rfl rfl (by decide +kernel) ⟨Nat.le_of_ble_eq_true rfl, Nat.le_of_ble_eq_true rfl⟩) (pre_V X hw _ t_64 rfl (by decide) rfl) rfl rfl hl.1 rfl (lv_room (Nat.le_of_ble_eq_true rfl)) dX4_cutStrand_33 ⟨(by show c_35 + 0 ≤ Phc S + 8; omega), (by show n_36 + 0 ≤ Phs S + 15019; omega)⟩) c_35 n_36 (by show c_35 + 0 ≤ c_35; omega) (by show n_36 + 0 ≤ n_36; omega) (fun S_66 H locs hp hw hfr hnw => ?_)
      obtain ⟨hk_67, hp⟩ := hp
      have ph_68 : c_35 + Phc S_66 ≤ Phc S + 0 := by rw [show Phc S_66 = Phc S_34 from Ph_ok hO_40.1 hk_67 (by decide +kernel) (by decide +kernel) (by decide +kernel)]; exact ph_38
      have ph_69 : n_36 + Phs S_66 ≤ Phs S + 0 := by rw [show Phs S_66 = Phs S_34 from Ph_ok hO_40.1 hk_67 (by decide +kernel) (by decide +kernel) (by decide +kernel)]; exact ph_39
      clear ph_38
      clear ph_39
      have hO_70 : Og eCU S S_66 := hO_40.call hk_67.og (by decide +kernel)
      have ba_71 := hp
      refine lv_iload_n X.1 X.2.1 dX4_cutStrand_36 rfl (lv_at hl 0 rfl) ?_
      have rw_72 : RowIs S_34 R0 (qb A) 600 := RowIs_fr hO.1 haR0 hk_37.fr (by decide +kernel) pv_1
      have t_74 : At S_34 R0 5 := hk_37.fr.at haR0
      have rw_73 : RowIs S_66 R0 (qb A) 600 := RowIs_fr hO_40.1 t_74 hk_67.fr (by decide +kernel) rw_72
      have rw_75 : RowIs S_34 R1 (qe A) 12 := RowIs_fr hO.1 haR1 hk_37.fr (by decide +kernel) pv_2
      have t_77 : At S_34 R1 5 := hk_37.fr.at haR1
      have rw_76 : RowIs S_66 R1 (qe A) 12 := RowIs_fr hO_40.1 t_77 hk_67.fr (by decide +kernel) rw_75
      have rw_78 : RowIs S_34 R2 (ql A) 600 := RowIs_fr hO.1 haR2 hk_37.fr (by decide +kernel) pv_3
      have t_80 : At S_34 R2 5 := hk_37.fr.at haR2
      have rw_79 : RowIs S_66 R2 (ql A) 600 := RowIs_fr hO_40.1 t_80 hk_67.fr (by decide +kernel) rw_78
      have co_81 : CoP S_34 D (qpl A) (qsd A) := CoP_fr hk_37.fr hp_0 (by decide +kernel) pv_10
      have dt_83 : ∀ c, D c → At S_34 c 0 := fun c h => hk_37.fr.at (hp_0 c h)
      have co_82 : CoP S_66 D (qpl A) (qsd A) := CoP_fr hk_67.fr dt_83 (by decide +kernel) co_81
      have t_84 : pI S_34 405 x = (qst A) := hk_37.fr.I' (by decide +kernel) ha_x pv_4
      have t_85 : pI S_66 405 x = (qst A) := hk_67.fr.I' (by decide +kernel) t_62 t_84
      have t_86 : pI S_34 406 x = (qse A) := hk_37.fr.I' (by decide +kernel) ha_x pv_5
      have t_87 : pI S_66 406 x = (qse A) := hk_67.fr.I' (by decide +kernel) t_62 t_86
      have sg_88 : StV S_34 D Gs (qg A) := StV_fr hO.1 haGs hk_37.fr (by decide +kernel) pv_6
      have sg_89 : StV S_66 D Gs ([] : List Mt) := (StV_ba ba_71 sg_88)
      have t_90 : pI S_34 407 x = (qdr A) := hk_37.fr.I' (by decide +kernel) ha_x pv_7
      have t_91 : pI S_66 407 x = (qdr A) := hk_67.fr.I' (by decide +kernel) t_62 t_90
      have t_92 : pI S_34 408 x = (qtk A) := hk_37.fr.I' (by decide +kernel) ha_x pv_8
      have t_93 : pI S_66 408 x = (qtk A) := hk_67.fr.I' (by decide +kernel) t_62 t_92
      have sk_94 : SkV S_34 D s1 ((qsk A) ++ [(epot Ev, eday Ev, eaim Ev, (qg A))]) := sk_52
      have sk_95 : SkV S_66 D s1 ((qsk A) ++ [(epot Ev, eday Ev, eaim Ev, (qg A))]) := (SkV_ba hO_40.1 t_59 t_64 hk_67.fr ba_71 sk_94)
      have px_96 : PotX S S_34 x R0 R1 R2 Gs := PotX_fr (PotX_rf S x R0 R1 R2 Gs) (fun _ _ h => h) hO.1 hk_37.fr (by decide +kernel)
      have ax_98 : ∀ a k, At S a k → At S_34 a k := fun a k h => hk_37.fr.at ((fun _ _ h => h) a k h)
      have px_97 : PotX S S_66 x R0 R1 R2 Gs := PotX_st px_96 ax_98 hO_40.1 hk_67.fr (by decide +kernel) (StX_ba ba_71)
      exact ret_gi X hw hr hlocks (by show c_35 ≤ Phc S + 8; omega) (by show n_36 ≤ Phs S + 15019; omega) (by omega) (by omega) ⟨hO_70, ⟨z_lo _, z_hi _, PotV_of (cutF_k (fun z => by have e0 := congrArg List.length z; have e1 : ([] : List Mt).length = 0 := rfl; omega) kp_45) rw_73 rw_76 rw_79 t_85 t_87 sg_89 t_91 t_93 sk_95 co_82 (inD_cut pv_11), px_97, by rw [cutR_k (fun z => by have e0 := congrArg List.length z; have e1 : ([] : List Mt).length = 0 := rfl; omega) kp_45]; omega, CwT_k hp_3 pv_6 (fun z => by have e0 := congrArg List.length z; have e1 : ([] : List Mt).length = 0 := rfl; omega) kp_45 kq_50 (hk_37.fr.I' (g := 802) (by decide +kernel) ha_s1 rfl) (hk_37.fr.I' (g := 804) (by decide +kernel) ha_s1 rfl) kq_51 (CtF_fr t_59 hk_67.fr (by decide +kernel))⟩⟩ dX4_cutStrand_37
    · obtain ⟨kp_46, kp_47, kp_49, kq_99, kq_100⟩ := kp_44 (by omega)
      obtain ⟨v_103, ev_103⟩ : ∃ v, pI S_34 800 s1 = v := ⟨_, rfl⟩
      have t_105 : At S_34 s1 8 := hk_37.fr.at ha_s1
      have rg_104 := gI_8_800 hO_40.1 t_105; rw [ev_103] at rg_104
      have pz_106 : (pI S_34 800 s1).toInt = v_103.toInt := by rw [ev_103]
      have pz_107 : (pI S_34 800 s1).toInt = v_103.toInt := (congrArg Int32.toInt ev_103).trans rfl
      refine lv_istore_n (lv' := [(2, .int (rr_33)), (0, .ref x), (1, .ref s1)]) X.1 X.2.1 dX4_cutStrand_28 rfl hl (by decide) rfl (fun ls hl => ?_)
      refine lv_aload_n X.1 X.2.1 dX4_cutStrand_29 rfl (lv_at hl 1 rfl) ?_
      have t_108 : At S_34 x 4 := hk_37.fr.at ha_x
      have t_109 : pR S_34 403 x = some Gs := hk_37.fr.R' (by decide +kernel) ha_x hr3
      refine r_getR (g := 403) X hw t_108 rfl 3 t_109 (by decide) rfl inn_X4_cutStrand_4 (by decide) (X.2.2.2.1 (.fieldLink RX4 29 "SilkMill$Pot" "strand" "LSilkMill$Strand;") (by decide +kernel)) rfl (gv_403 _ _) dX4_cutStrand_30 ?_
      have t_110 : At S_34 Gs 29 := hk_37.fr.at haGs
      refine k_v (rm := { frames := 1, cells := 0, slots := 0, locals := 48 }) (av := [.ref Gs]) X hw (va_runV (As := []) (rest := []) (cfix X) (k_X9_beginAnew7 l G cy κ S_34 _ Gs hO_40.1 t_110) (cwV 0 X.2.2.2.1 gX4_cutStrand_X9_beginAnew rfl rfl rfl (by decide +kernel) ⟨Nat.le_of_ble_eq_true rfl, Nat.le_of_ble_eq_true rfl⟩) (pre_V X hw _ t_110 rfl (by decide) rfl) rfl rfl hl.1 rfl (lv_room (Nat.le_of_ble_eq_true rfl)) dX4_cutStrand_33 ⟨(by show c_35 + 0 ≤ Phc S + 8; omega), (by show n_36 + 0 ≤ Phs S + 15019; omega)⟩) c_35 n_36 (by show c_35 + 0 ≤ c_35; omega) (by show n_36 + 0 ≤ n_36; omega) (fun S_112 H locs hp hw hfr hnw => ?_)
      obtain ⟨hk_113, hp⟩ := hp
      have ph_114 : c_35 + Phc S_112 ≤ Phc S + 0 := by rw [show Phc S_112 = Phc S_34 from Ph_ok hO_40.1 hk_113 (by decide +kernel) (by decide +kernel) (by decide +kernel)]; exact ph_38
      have ph_115 : n_36 + Phs S_112 ≤ Phs S + 0 := by rw [show Phs S_112 = Phs S_34 from Ph_ok hO_40.1 hk_113 (by decide +kernel) (by decide +kernel) (by decide +kernel)]; exact ph_39
      clear ph_38
      clear ph_39
      have hO_116 : Og eCU S S_112 := hO_40.call hk_113.og (by decide +kernel)
      have ba_117 := hp
      refine lv_iload_n X.1 X.2.1 dX4_cutStrand_36 rfl (lv_at hl 0 rfl) ?_
      have rw_118 : RowIs S_34 R0 (qb A) 600 := RowIs_fr hO.1 haR0 hk_37.fr (by decide +kernel) pv_1
      have t_120 : At S_34 R0 5 := hk_37.fr.at haR0
      have rw_119 : RowIs S_112 R0 (qb A) 600 := RowIs_fr hO_40.1 t_120 hk_113.fr (by decide +kernel) rw_118
      have rw_121 : RowIs S_34 R1 (qe A) 12 := RowIs_fr hO.1 haR1 hk_37.fr (by decide +kernel) pv_2
      have t_123 : At S_34 R1 5 := hk_37.fr.at haR1
      have rw_122 : RowIs S_112 R1 (qe A) 12 := RowIs_fr hO_40.1 t_123 hk_113.fr (by decide +kernel) rw_121
      have rw_124 : RowIs S_34 R2 (ql A) 600 := RowIs_fr hO.1 haR2 hk_37.fr (by decide +kernel) pv_3
      have t_126 : At S_34 R2 5 := hk_37.fr.at haR2
      have rw_125 : RowIs S_112 R2 (ql A) 600 := RowIs_fr hO_40.1 t_126 hk_113.fr (by decide +kernel) rw_124
      have co_127 : CoP S_34 D (qpl A) (qsd A) := CoP_fr hk_37.fr hp_0 (by decide +kernel) pv_10
      have dt_129 : ∀ c, D c → At S_34 c 0 := fun c h => hk_37.fr.at (hp_0 c h)
      have co_128 : CoP S_112 D (qpl A) (qsd A) := CoP_fr hk_113.fr dt_129 (by decide +kernel) co_127
      have t_130 : pI S_34 405 x = (qst A) := hk_37.fr.I' (by decide +kernel) ha_x pv_4
      have t_131 : pI S_112 405 x = (qst A) := hk_113.fr.I' (by decide +kernel) t_108 t_130
      have t_132 : pI S_34 406 x = (qse A) := hk_37.fr.I' (by decide +kernel) ha_x pv_5
      have t_133 : pI S_112 406 x = (qse A) := hk_113.fr.I' (by decide +kernel) t_108 t_132
      have sg_134 : StV S_34 D Gs (qg A) := StV_fr hO.1 haGs hk_37.fr (by decide +kernel) pv_6
      have sg_135 : StV S_112 D Gs ([] : List Mt) := (StV_ba ba_117 sg_134)
      have t_136 : pI S_34 407 x = (qdr A) := hk_37.fr.I' (by decide +kernel) ha_x pv_7
      have t_137 : pI S_112 407 x = (qdr A) := hk_113.fr.I' (by decide +kernel) t_108 t_136
      have t_138 : pI S_34 408 x = (qtk A) := hk_37.fr.I' (by decide +kernel) ha_x pv_8
      have t_139 : pI S_112 408 x = (qtk A) := hk_113.fr.I' (by decide +kernel) t_108 t_138
      have sk_140 : SkV S_34 D s1 (qsk A) := (SkV_kw hO.1 ha_s1 kp_49 pv_9)
      have sk_141 : SkV S_112 D s1 (qsk A) := (SkV_ba hO_40.1 t_105 t_110 hk_113.fr ba_117 sk_140)
      have px_142 : PotX S S_34 x R0 R1 R2 Gs := PotX_fr (PotX_rf S x R0 R1 R2 Gs) (fun _ _ h => h) hO.1 hk_37.fr (by decide +kernel)
      have ax_144 : ∀ a k, At S a k → At S_34 a k := fun a k h => hk_37.fr.at ((fun _ _ h => h) a k h)
      have px_143 : PotX S S_112 x R0 R1 R2 Gs := PotX_st px_142 ax_144 hO_40.1 hk_113.fr (by decide +kernel) (StX_ba ba_117)
      exact ret_gi X hw hr hlocks (by show c_35 ≤ Phc S + 8; omega) (by show n_36 ≤ Phs S + 15019; omega) (by omega) (by omega) ⟨hO_116, ⟨z_lo _, z_hi _, PotV_of (cutF_w (fun z => by have e0 := congrArg List.length z; have e1 : ([] : List Mt).length = 0 := rfl; omega) kp_45) rw_119 rw_122 rw_125 t_131 t_133 sg_135 t_137 t_139 sk_141 co_128 (inD_cut pv_11), px_143, by rw [cutR_w (fun z => by have e0 := congrArg List.length z; have e1 : ([] : List Mt).length = 0 := rfl; omega) kp_45]; omega, CwT_w hp_3 pv_6 (fun z => by have e0 := congrArg List.length z; have e1 : ([] : List Mt).length = 0 := rfl; omega) kp_45 kq_99 (hk_37.fr.I' (g := 802) (by decide +kernel) ha_s1 rfl) (hk_37.fr.I' (g := 804) (by decide +kernel) ha_s1 rfl) kq_100 (CtF_fr t_105 hk_113.fr (by decide +kernel))⟩⟩ dX4_cutStrand_37
  · have z_b_145 := trivial
    have k_146 : v_12.toInt = 0 := z_eq rfl ti_0 c_22
    refine lv_iconst (v := (-1)) X.1 X.2.1 dX4_cutStrand_10 (by decide) ?_
    exact ret_gi X hw hr hlocks (by show 0 ≤ Phc S + 8; omega) (by show 0 ≤ Phs S + 15019; omega) (by omega) (by omega) ⟨hO, ⟨z_lo _, z_hi _, PotV_of (cutF_n (List.eq_nil_of_length_eq_zero (by omega))) pv_1 pv_2 pv_3 pv_4 pv_5 pv_6 pv_7 pv_8 pv_9 pv_10 (inD_cut pv_11), (PotX_rf S x R0 R1 R2 Gs), by rw [cutR_n (List.eq_nil_of_length_eq_zero (by omega))]; decide, CwT_n (List.eq_nil_of_length_eq_zero (by omega))⟩⟩ dX4_cutStrand_11
