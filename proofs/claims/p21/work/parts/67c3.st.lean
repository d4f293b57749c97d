
set_option maxHeartbeats 4000000 in
set_option maxRecDepth 100000 in
theorem k_X7_init7 (l : Launch) (G : va_G) (cy : Nat → ClassId) (κ : Nat → Nat) (S : PS) (sz : Nat) (x : Nat) (s1 : Nat) (a1 : Int32) (a1_z : Int) (a2 : Int32) (a2_z : Int) (a3 : Int32) (a3_z : Int) (hG : GX S) (ha_x : At S x 187) (ha_s1 : At S s1 9) (hz_a1 : a1.toInt = a1_z) (hz_a2 : a2.toInt = a2_z) (hz_a3 : a3.toInt = a3_z) (hzI : ∀ g, pI S g x = 0) (hzR : ∀ g, pR S g x = none) : Cv l yX7_init wsX7_init ({ frames := 2, cells := 0, slots := 0, locals := 96 }) G cy κ S sz [.ref x, .ref s1, .int (a1), .int (a2), .int (a3)] (fun (S9 : PS) => Kq S S9 x ∧ GX S9 ∧ At S9 x 7 ∧ Phc S9 = Phc S + 0 ∧ Phs S9 = Phs S + 0 ∧ SkI S9 x s1 a1 a2 a3) := by
  refine ent_m (cc := cX7_init) (maxL := 10) (ret := none) (by decide) rfl (Nat.le_of_ble_eq_true rfl) ?_
  intro p e s m below meth c ls X hr hlocks hin hw hl hsz
  subst hsz
  have X : Cx p c cX7_init 10 s [.ref x, .ref s1, .int (a1), .int (a2), .int (a3)].toArray wsX7_init RX7 m G cy κ (AS S s.heap.size) := X
  have hl : lv_has ls 10 [(0, .ref x), (1, .ref s1), (2, .int (a1)), (3, .int (a2)), (4, .int (a3))] := hl
  have rg_a1 : (-2147483648) ≤ a1_z ∧ a1_z ≤ 2147483647 := by rw [← hz_a1]; exact ⟨z_lo _, z_hi _⟩
  have rg_a2 : (-2147483648) ≤ a2_z ∧ a2_z ≤ 2147483647 := by rw [← hz_a2]; exact ⟨z_lo _, z_hi _⟩
  have rg_a3 : (-2147483648) ≤ a3_z ∧ a3_z ≤ 2147483647 := by rw [← hz_a3]; exact ⟨z_lo _, z_hi _⟩
  have hpc0 : Phc S = Phc S + 0 := rfl
  have hps0 : Phs S = Phs S + 0 := rfl
  have hK : Kq S S x := Kq.rf S _
  generalize hQQ : MQ below _ _ _ _ _ _ = QQ
  replace hQQ := hQQ.symm
  obtain ⟨v_1, ev_1⟩ : ∃ v, pI S 902 s1 = v := ⟨_, rfl⟩
  have rg_2 := gI_9_902 hG ha_s1; rw [ev_1] at rg_2
  have pz_3 : (pI S 902 s1).toInt = v_1.toInt := by rw [ev_1]
  obtain ⟨q_4, h_5, h_6, h_7, h_10⟩ := gC_9_900 hG ha_s1
  obtain ⟨n_8, h_9⟩ : ∃ n, pN S q_4 = n := ⟨_, rfl⟩
  rw [ev_1, h_9] at h_7
  rw [h_9] at h_10
  refine lv_aload_n X.1 X.2.1 dX7_init_0 rfl (lv_at hl 0 rfl) ?_
  refine W.objInit X.1 X.2.1 X.2.2.2.2.1 (X.2.2.2.1 (.methodLink RX7 3 objectInit) (by decide +kernel)) (X.2.2.2.1 (.instanceMethod objectInit) (by decide +kernel)) (X.2.2.2.1 (.code objectInit ⟨#[0xb1]⟩ 1 none) (by decide +kernel)) rfl (hl.1.trans X.2.2.1.symm) rfl dX7_init_1 (Nat.le_of_ble_eq_true rfl) (Nat.le_of_ble_eq_true rfl) ?_
  refine W.eq (g2 := F0 m 4 ls ([])) rfl ?_
  refine lv_aload_n X.1 X.2.1 dX7_init_4 rfl (lv_at hl 0 rfl) ?_
  refine lv_iconst (v := 3) X.1 X.2.1 dX7_init_5 (by decide) ?_
  refine r_putI (v := 3) X hw ha_x rfl 7 707 tyX7 (by decide) rfl inn_X7_init_7 tyX7_ok nmX7 (by decide) (X.2.2.2.1 (.fieldLink RX7 9 "SilkMill$Skein" "latestGrade" "I") (by decide +kernel)) rfl (Or.inl rfl) rfl rfl (Nat.le_of_ble_eq_true rfl) (st_707 _ _) dX7_init_6 (fun H locs hw => ?_)
  obtain ⟨S_11, eS_11⟩ : ∃ T, T = sI S 707 x (3) := ⟨_, rfl⟩
  rw [← eS_11] at hw
  have ph_12 : Phc S_11 = Phc S + 0 := (show Phc S_11 = Phc S from Ph_rawI ha_x (by decide) eS_11).trans hpc0
  have ph_13 : Phs S_11 = Phs S + 0 := (show Phs S_11 = Phs S from Ph_rawI ha_x (by decide) eS_11).trans hps0
  clear hpc0
  clear hps0
  have hK_14 : Kq S S_11 x := hK.sI eS_11
  have hg_15 : GX S_11 := by rw [eS_11]; exact GX_rawI hG ha_x (by decide +kernel)
  have h_16 : pI S_11 707 x = 3 := tI_sIs eS_11
  refine lv_aload_n X.1 X.2.1 dX7_init_9 rfl (lv_at hl 0 rfl) ?_
  refine lv_aload_n X.1 X.2.1 dX7_init_10 rfl (lv_at hl 1 rfl) ?_
  have t_17 : At S_11 x 187 := tAt_sI eS_11 ha_x
  have t_18 : At S_11 s1 9 := tAt_sI eS_11 ha_s1
  refine r_putR X hw t_17 rfl 3 703 (some s1) rfl tyX7 (by decide) rfl inn_X7_init_7 tyX7_ok nmX7 (by decide) (X.2.2.2.1 (.fieldLink RX7 15 "SilkMill$Skein" "strand" "LSilkMill$Strand;") (by decide +kernel)) rfl (Or.inr ⟨rfl, hin, rfl⟩) (fun _ => rfl) rfl (fun _ => rfl) rfl (Nat.le_of_ble_eq_true rfl) (st_703 _ _) dX7_init_11 (fun H locs hw => ?_)
  obtain ⟨S_19, eS_19⟩ : ∃ T, T = sR S_11 703 x (some s1) := ⟨_, rfl⟩
  rw [← eS_19] at hw
  have ph_20 : Phc S_19 = Phc S + 0 := (show Phc S_19 = Phc S_11 from Ph_rawR t_17 (by decide) eS_19).trans ph_12
  have ph_21 : Phs S_19 = Phs S + 0 := (show Phs S_19 = Phs S_11 from Ph_rawR t_17 (by decide) eS_19).trans ph_13
  clear ph_12
  clear ph_13
  have hK_22 : Kq S S_19 x := hK_14.sR eS_19
  have hg_23 : GX S_19 := by rw [eS_19]; exact GX_rawR hg_15 t_17 (by decide +kernel)
  have h_24 : pR S_19 703 x = some s1 := tR_sRs eS_19
  refine lv_aload_n X.1 X.2.1 dX7_init_14 rfl (lv_at hl 0 rfl) ?_
  refine lv_iload_n X.1 X.2.1 dX7_init_15 rfl (lv_at hl 2 rfl) ?_
  have t_25 : At S_19 x 187 := tAt_sR eS_19 t_17
  refine r_putI (v := a1) X hw t_25 rfl 0 700 tyX7 (by decide) rfl inn_X7_init_7 tyX7_ok nmX7 (by decide) (X.2.2.2.1 (.fieldLink RX7 19 "SilkMill$Skein" "potNumber" "I") (by decide +kernel)) rfl (Or.inr ⟨rfl, hin, rfl⟩) rfl rfl (Nat.le_of_ble_eq_true rfl) (st_700 _ _) dX7_init_16 (fun H locs hw => ?_)
  obtain ⟨S_26, eS_26⟩ : ∃ T, T = sI S_19 700 x (a1) := ⟨_, rfl⟩
  rw [← eS_26] at hw
  have ph_27 : Phc S_26 = Phc S + 0 := (show Phc S_26 = Phc S_19 from Ph_rawI t_25 (by decide) eS_26).trans ph_20
  have ph_28 : Phs S_26 = Phs S + 0 := (show Phs S_26 = Phs S_19 from Ph_rawI t_25 (by decide) eS_26).trans ph_21
  clear ph_20
  clear ph_21
  have hK_29 : Kq S S_26 x := hK_22.sI eS_26
  have hg_30 : GX S_26 := by rw [eS_26]; exact GX_rawI hg_23 t_25 (by decide +kernel)
  have h_31 : pI S_26 700 x = a1 := tI_sIs eS_26
  refine lv_aload_n X.1 X.2.1 dX7_init_19 rfl (lv_at hl 0 rfl) ?_
  refine lv_iload_n X.1 X.2.1 dX7_init_20 rfl (lv_at hl 3 rfl) ?_
  have t_32 : At S_26 x 187 := tAt_sI eS_26 t_25
  refine r_putI (v := a2) X hw t_32 rfl 1 701 tyX7 (by decide) rfl inn_X7_init_7 tyX7_ok nmX7 (by decide) (X.2.2.2.1 (.fieldLink RX7 22 "SilkMill$Skein" "aim" "I") (by decide +kernel)) rfl (Or.inr ⟨rfl, hin, rfl⟩) rfl rfl (Nat.le_of_ble_eq_true rfl) (st_701 _ _) dX7_init_21 (fun H locs hw => ?_)
  obtain ⟨S_33, eS_33⟩ : ∃ T, T = sI S_26 701 x (a2) := ⟨_, rfl⟩
  rw [← eS_33] at hw
  have ph_34 : Phc S_33 = Phc S + 0 := (show Phc S_33 = Phc S_26 from Ph_rawI t_32 (by decide) eS_33).trans ph_27
  have ph_35 : Phs S_33 = Phs S + 0 := (show Phs S_33 = Phs S_26 from Ph_rawI t_32 (by decide) eS_33).trans ph_28
  clear ph_27
  clear ph_28
  have hK_36 : Kq S S_33 x := hK_29.sI eS_33
  have hg_37 : GX S_33 := by rw [eS_33]; exact GX_rawI hg_30 t_32 (by decide +kernel)
  have h_38 : pI S_33 701 x = a2 := tI_sIs eS_33
  refine lv_aload_n X.1 X.2.1 dX7_init_24 rfl (lv_at hl 0 rfl) ?_
  refine lv_iload X.1 X.2.1 dX7_init_25 (lv_at hl 4 rfl) ?_
  have t_39 : At S_33 x 187 := tAt_sI eS_33 t_32
  refine r_putI (v := a3) X hw t_39 rfl 2 702 tyX7 (by decide) rfl inn_X7_init_7 tyX7_ok nmX7 (by decide) (X.2.2.2.1 (.fieldLink RX7 25 "SilkMill$Skein" "dayCut" "I") (by decide +kernel)) rfl (Or.inr ⟨rfl, hin, rfl⟩) rfl rfl (Nat.le_of_ble_eq_true rfl) (st_702 _ _) dX7_init_27 (fun H locs hw => ?_)
  obtain ⟨S_40, eS_40⟩ : ∃ T, T = sI S_33 702 x (a3) := ⟨_, rfl⟩
  rw [← eS_40] at hw
  have ph_41 : Phc S_40 = Phc S + 0 := (show Phc S_40 = Phc S_33 from Ph_rawI t_39 (by decide) eS_40).trans ph_34
  have ph_42 : Phs S_40 = Phs S + 0 := (show Phs S_40 = Phs S_33 from Ph_rawI t_39 (by decide) eS_40).trans ph_35
  clear ph_34
  clear ph_35
  have hK_43 : Kq S S_40 x := hK_36.sI eS_40
  have hg_44 : GX S_40 := by rw [eS_40]; exact GX_rawI hg_37 t_39 (by decide +kernel)
  have h_45 : pI S_40 702 x = a3 := tI_sIs eS_40
  refine lv_aload_n X.1 X.2.1 dX7_init_30 rfl (lv_at hl 1 rfl) ?_
  have t_46 : At S_19 s1 9 := tAt_sR eS_19 t_18
  have t_47 : At S_26 s1 9 := tAt_sI eS_26 t_46
  have t_48 : At S_33 s1 9 := tAt_sI eS_33 t_47
  have t_49 : At S_40 s1 9 := tAt_sI eS_40 t_48
  have t_50 : pR S_11 900 s1 = some q_4 := tR_sI eS_11 h_5
  have t_51 : pR S_19 900 s1 = some q_4 := tR_sR eS_19 rfl t_50
  have t_52 : pR S_26 900 s1 = some q_4 := tR_sI eS_26 t_51
  have t_53 : pR S_33 900 s1 = some q_4 := tR_sI eS_33 t_52
  have t_54 : pR S_40 900 s1 = some q_4 := tR_sI eS_40 t_53
  refine r_getR (g := 900) X hw t_49 rfl 0 t_54 (by decide) rfl inn_X7_init_9 (by decide) (X.2.2.2.1 (.fieldLink RX7 28 "SilkMill$Strand" "fineness" "[I") (by decide +kernel)) rfl (gv_900 _ _) dX7_init_31 ?_
  refine lv_astore (lv' := [(5, .ref q_4), (0, .ref x), (1, .ref s1), (2, .int (a1)), (3, .int (a2)), (4, .int (a3))]) X.1 X.2.1 dX7_init_34 hl (by decide) rfl (fun ls hl => ?_)
  refine lv_ldc (v := 2147483647) X.1 X.2.1 X.2.2.2.2.1 (X.2.2.2.1 (.constant RX7 36 2147483647) (by decide +kernel)) dX7_init_36 ?_
  refine lv_istore (lv' := [(6, .int 2147483647), (5, .ref q_4), (0, .ref x), (1, .ref s1), (2, .int (a1)), (3, .int (a2)), (4, .int (a3))]) X.1 X.2.1 dX7_init_38 hl (by decide) rfl (fun ls hl => ?_)
  refine lv_iconst (v := 0) X.1 X.2.1 dX7_init_40 (by decide) ?_
  refine lv_istore (lv' := [(7, .int 0), (6, .int 2147483647), (5, .ref q_4), (0, .ref x), (1, .ref s1), (2, .int (a1)), (3, .int (a2)), (4, .int (a3))]) X.1 X.2.1 dX7_init_41 hl (by decide) rfl (fun ls hl => ?_)
  refine lv_iconst (v := 0) X.1 X.2.1 dX7_init_43 (by decide) ?_
  refine lv_istore (lv' := [(8, .int 0), (7, .int 0), (6, .int 2147483647), (5, .ref q_4), (0, .ref x), (1, .ref s1), (2, .int (a1)), (3, .int (a2)), (4, .int (a3))]) X.1 X.2.1 dX7_init_44 hl (by decide) rfl (fun ls hl => ?_)
  refine lv_iconst (v := 0) X.1 X.2.1 dX7_init_46 (by decide) ?_
  refine lv_istore (lv' := [(9, .int 0), (8, .int 0), (7, .int 0), (6, .int 2147483647), (5, .ref q_4), (0, .ref x), (1, .ref s1), (2, .int (a1)), (3, .int (a2)), (4, .int (a3))]) X.1 X.2.1 dX7_init_47 hl (by decide) rfl (fun ls hl => ?_)
  have L_55 : ∀ (n : Nat) (H : Heap) (locs : List Loc) (ls : Array Slot) (i6_56 : Int32) (i6_56_z : Int) (i7_57 : Int32) (i7_57_z : Int) (i8_58 : Int32) (i8_58_z : Int) (i9_59 : Int32) (i9_59_z : Int), ((3600 - i9_59_z).toNat = n) → (Wd G cy (AS S s.heap.size) s.heap S_40 H locs) → (i6_56.toInt = i6_56_z) → (i7_57.toInt = i7_57_z) → (i8_58.toInt = i8_58_z) → (i9_59.toInt = i9_59_z) → (0 ≤ i9_59_z ∧ i9_59_z ≤ 3600) → ((i6_56) = loN (pA S q_4) (i9_59_z).toNat) → ((i7_57) = hiN (pA S q_4) (i9_59_z).toNat) → ((i8_58) = slN (pA S q_4) (i9_59_z).toNat) → (i9_59_z ≤ (n_8 : Int)) → (lv_has ls 10 [(6, .int (i6_56)), (7, .int (i7_57)), (8, .int (i8_58)), (9, .int (i9_59)), (5, .ref q_4), (0, .ref x), (1, .ref s1), (2, .int (a1)), (3, .int (a2)), (4, .int (a3))]) → W p l e ({ frames := 2, cells := 0, slots := 0, locals := 96 }) s m [.ref x, .ref s1, .int (a1), .int (a2), .int (a3)].toArray below meth c H locs 0 0 QQ (F0 m 49 ls []) := by
    intro n
    induction n using Nat.strongRecOn with
    | ind n ih =>
    intro H locs ls i6_56 i6_56_z i7_57 i7_57_z i8_58 i8_58_z i9_59 i9_59_z hn hw hz_i6_56 hz_i7_57 hz_i8_58 hz_i9_59 hr_i9_59 iv_60 iv_61 iv_62 iv_63 hl
    have rg_64 : (-2147483648) ≤ i6_56_z ∧ i6_56_z ≤ 2147483647 := by rw [← hz_i6_56]; exact ⟨z_lo _, z_hi _⟩
    have rg_65 : (-2147483648) ≤ i7_57_z ∧ i7_57_z ≤ 2147483647 := by rw [← hz_i7_57]; exact ⟨z_lo _, z_hi _⟩
    have rg_66 : (-2147483648) ≤ i8_58_z ∧ i8_58_z ≤ 2147483647 := by rw [← hz_i8_58]; exact ⟨z_lo _, z_hi _⟩
    have rg_67 : (-2147483648) ≤ i9_59_z ∧ i9_59_z ≤ 2147483647 := by rw [← hz_i9_59]; exact ⟨z_lo _, z_hi _⟩
    refine lv_iload X.1 X.2.1 dX7_init_49 (lv_at hl 3 rfl) ?_
    refine lv_aload X.1 X.2.1 dX7_init_51 (lv_at hl 4 rfl) ?_
    have t_68 : At S_11 q_4 1654 := tAt_sI eS_11 h_6
    have t_69 : At S_19 q_4 1654 := tAt_sR eS_19 t_68
    have t_70 : At S_26 q_4 1654 := tAt_sI eS_26 t_69
    have t_71 : At S_33 q_4 1654 := tAt_sI eS_33 t_70
    have t_72 : At S_40 q_4 1654 := tAt_sI eS_40 t_71
    have t_73 : pN S_11 q_4 = n_8 := tN_sI eS_11 h_9
    clear h_9
    have t_74 : pN S_19 q_4 = n_8 := tN_sR eS_19 t_73
    clear t_73
    have t_75 : pN S_26 q_4 = n_8 := tN_sI eS_26 t_74
    clear t_74
    have t_76 : pN S_33 q_4 = n_8 := tN_sI eS_33 t_75
    clear t_75
    have t_77 : pN S_40 q_4 = n_8 := tN_sI eS_40 t_76
    clear t_76
    refine r_alen X hw t_72 rfl (by decide) rfl dX7_init_53 ?_
    rw [t_77]
    refine lv_topi (fun v_78 ev_78 => ?_)
    have z_79 : v_78.toInt = (n_8 : Int) := z_len ev_78 (by omega)
    refine lv_icmp_ge (tgt := 115) X.1 X.2.1 dX7_init_54 (by decide) (fun c_80 => ?_) (fun c_80 => ?_)
    · have z_b_81 := trivial
      have k_82 : i9_59_z ≥ v_78.toInt := z_le rfl hz_i9_59 c_80
      refine lv_aload_n X.1 X.2.1 dX7_init_115 rfl (lv_at hl 5 rfl) ?_
      refine lv_iload X.1 X.2.1 dX7_init_116 (lv_at hl 0 rfl) ?_
      have t_83 : At S_40 x 187 := tAt_sI eS_40 t_39
      refine r_putI (v := i6_56) X hw t_83 rfl 4 704 tyX7 (by decide) rfl inn_X7_init_7 tyX7_ok nmX7 (by decide) (X.2.2.2.1 (.fieldLink RX7 50 "SilkMill$Skein" "least" "I") (by decide +kernel)) rfl (Or.inr ⟨rfl, hin, rfl⟩) rfl rfl (Nat.le_of_ble_eq_true rfl) (st_704 _ _) dX7_init_118 (fun H locs hw => ?_)
      obtain ⟨S_84, eS_84⟩ : ∃ T, T = sI S_40 704 x (i6_56) := ⟨_, rfl⟩
      rw [← eS_84] at hw
      have ph_85 : Phc S_84 = Phc S + 0 := (show Phc S_84 = Phc S_40 from Ph_rawI t_83 (by decide) eS_84).trans ph_41
      have ph_86 : Phs S_84 = Phs S + 0 := (show Phs S_84 = Phs S_40 from Ph_rawI t_83 (by decide) eS_84).trans ph_42
      clear ph_41
      clear ph_42
      have hK_87 : Kq S S_84 x := hK_43.sI eS_84
      have hg_88 : GX S_84 := by rw [eS_84]; exact GX_rawI hg_44 t_83 (by decide +kernel)
      have h_89 : pI S_84 704 x = i6_56 := tI_sIs eS_84
      refine lv_aload_n X.1 X.2.1 dX7_init_121 rfl (lv_at hl 5 rfl) ?_
      refine lv_iload X.1 X.2.1 dX7_init_122 (lv_at hl 1 rfl) ?_
      have t_90 : At S_84 x 187 := tAt_sI eS_84 t_83
      refine r_putI (v := i7_57) X hw t_90 rfl 5 705 tyX7 (by decide) rfl inn_X7_init_7 tyX7_ok nmX7 (by decide) (X.2.2.2.1 (.fieldLink RX7 53 "SilkMill$Skein" "greatest" "I") (by decide +kernel)) rfl (Or.inr ⟨rfl, hin, rfl⟩) rfl rfl (Nat.le_of_ble_eq_true rfl) (st_705 _ _) dX7_init_124 (fun H locs hw => ?_)
      obtain ⟨S_91, eS_91⟩ : ∃ T, T = sI S_84 705 x (i7_57) := ⟨_, rfl⟩
      rw [← eS_91] at hw
      have ph_92 : Phc S_91 = Phc S + 0 := (show Phc S_91 = Phc S_84 from Ph_rawI t_90 (by decide) eS_91).trans ph_85
      have ph_93 : Phs S_91 = Phs S + 0 := (show Phs S_91 = Phs S_84 from Ph_rawI t_90 (by decide) eS_91).trans ph_86
      clear ph_85
      clear ph_86
      have hK_94 : Kq S S_91 x := hK_87.sI eS_91
      have hg_95 : GX S_91 := by rw [eS_91]; exact GX_rawI hg_88 t_90 (by decide +kernel)
      have h_96 : pI S_91 705 x = i7_57 := tI_sIs eS_91
      refine lv_aload_n X.1 X.2.1 dX7_init_127 rfl (lv_at hl 5 rfl) ?_
      refine lv_iload X.1 X.2.1 dX7_init_128 (lv_at hl 2 rfl) ?_
      have t_97 : At S_91 x 187 := tAt_sI eS_91 t_90
      refine r_putI (v := i8_58) X hw t_97 rfl 6 706 tyX7 (by decide) rfl inn_X7_init_7 tyX7_ok nmX7 (by decide) (X.2.2.2.1 (.fieldLink RX7 56 "SilkMill$Skein" "slips" "I") (by decide +kernel)) rfl (Or.inr ⟨rfl, hin, rfl⟩) rfl rfl (Nat.le_of_ble_eq_true rfl) (st_706 _ _) dX7_init_130 (fun H locs hw => ?_)
      obtain ⟨S_98, eS_98⟩ : ∃ T, T = sI S_91 706 x (i8_58) := ⟨_, rfl⟩
      rw [← eS_98] at hw
      have ph_99 : Phc S_98 = Phc S + 0 := (show Phc S_98 = Phc S_91 from Ph_rawI t_97 (by decide) eS_98).trans ph_92
      have ph_100 : Phs S_98 = Phs S + 0 := (show Phs S_98 = Phs S_91 from Ph_rawI t_97 (by decide) eS_98).trans ph_93
      clear ph_92
      clear ph_93
      have hK_101 : Kq S S_98 x := hK_94.sI eS_98
      have hg_102 : GX S_98 := by rw [eS_98]; exact GX_rawI hg_95 t_97 (by decide +kernel)
      have h_103 : pI S_98 706 x = i8_58 := tI_sIs eS_98
      have t_104 : At S_98 x 187 := tAt_sI eS_98 t_97
      have nd_105 := nodup_of hw
      have t_106 : pR S_26 703 x = some s1 := tR_sI eS_26 h_24
      have t_107 : pR S_33 703 x = some s1 := tR_sI eS_33 t_106
      have t_108 : pR S_40 703 x = some s1 := tR_sI eS_40 t_107
      have t_109 : pR S_84 703 x = some s1 := tR_sI eS_84 t_108
      have t_110 : pR S_91 703 x = some s1 := tR_sI eS_91 t_109
      have t_111 : pR S_98 703 x = some s1 := tR_sI eS_98 t_110
      have t_112 : At S_84 s1 9 := tAt_sI eS_84 t_49
      have t_113 : At S_91 s1 9 := tAt_sI eS_91 t_112
      have t_114 : At S_98 s1 9 := tAt_sI eS_98 t_113
      obtain ⟨S_115, eS_115⟩ : ∃ T, T = sK S_98 x 7 := ⟨_, rfl⟩
      have hw := Wd_sK (k := 7) hw t_104 rfl; rw [← eS_115] at hw
      have hg9 : GX S_115 := by rw [eS_115]; exact GX_sK hg_102 t_104 (by decide +kernel) (mk_7 ⟨s1, (by rw [pR_sK]; exact t_111), At_sK t_104 t_114 (by decide)⟩)
      have ha9 : At S_115 x 7 := by rw [eS_115]; exact At_nK t_104
      have hk9 : Kq S S_115 x := hK_101.sK eS_115
      have hPhc9 : Phc S_115 = Phc S + 0 := by rw [show Phc S_115 = Ph fC 8 14400 S_115 from rfl, Ph_sK nd_105 t_104 (by decide) eS_115, ph_0 ha9 (by decide)]; show Phc S_98 + _ = _; omega
      have hPhs9 : Phs S_115 = Phs S + 0 := by rw [show Phs S_115 = Ph fS 15100 46000 S_115 from rfl, Ph_sK nd_105 t_104 (by decide) eS_115, ph_0 ha9 (by decide)]; show Phs S_98 + _ = _; omega
      rw [hQQ]
      have t_116 : pR S_84 900 s1 = some q_4 := tR_sI eS_84 t_54
      have t_117 : pR S_91 900 s1 = some q_4 := tR_sI eS_91 t_116
      have t_118 : pR S_98 900 s1 = some q_4 := tR_sI eS_98 t_117
      have t_119 : pN S_84 q_4 = n_8 := tN_sI eS_84 t_77
      clear t_77
      have t_120 : pN S_91 q_4 = n_8 := tN_sI eS_91 t_119
      clear t_119
      have t_121 : pN S_98 q_4 = n_8 := tN_sI eS_98 t_120
      clear t_120
      have bb_122 : pA S_11 q_4 = pA S q_4 := by rw [eS_11]; rfl
      have bb_123 : pA S_19 q_4 = pA S q_4 := (show pA S_19 q_4 = pA S_11 q_4 from by rw [eS_19]; rfl).trans bb_122
      have bb_124 : pA S_26 q_4 = pA S q_4 := (show pA S_26 q_4 = pA S_19 q_4 from by rw [eS_26]; rfl).trans bb_123
      have bb_125 : pA S_33 q_4 = pA S q_4 := (show pA S_33 q_4 = pA S_26 q_4 from by rw [eS_33]; rfl).trans bb_124
      have bb_126 : pA S_40 q_4 = pA S q_4 := (show pA S_40 q_4 = pA S_33 q_4 from by rw [eS_40]; rfl).trans bb_125
      have bb_127 : pA S_84 q_4 = pA S q_4 := (show pA S_84 q_4 = pA S_40 q_4 from by rw [eS_84]; rfl).trans bb_126
      have bb_128 : pA S_91 q_4 = pA S q_4 := (show pA S_91 q_4 = pA S_84 q_4 from by rw [eS_91]; rfl).trans bb_127
      have bb_129 : pA S_98 q_4 = pA S q_4 := (show pA S_98 q_4 = pA S_91 q_4 from by rw [eS_98]; rfl).trans bb_128
      have t_130 : pI S_33 700 x = a1 := tI_sI eS_33 rfl h_31
      have t_131 : pI S_40 700 x = a1 := tI_sI eS_40 rfl t_130
      have t_132 : pI S_84 700 x = a1 := tI_sI eS_84 rfl t_131
      have t_133 : pI S_91 700 x = a1 := tI_sI eS_91 rfl t_132
      have t_134 : pI S_98 700 x = a1 := tI_sI eS_98 rfl t_133
      have t_135 : pI S_40 701 x = a2 := tI_sI eS_40 rfl h_38
      have t_136 : pI S_84 701 x = a2 := tI_sI eS_84 rfl t_135
      have t_137 : pI S_91 701 x = a2 := tI_sI eS_91 rfl t_136
      have t_138 : pI S_98 701 x = a2 := tI_sI eS_98 rfl t_137
      have t_139 : pI S_84 702 x = a3 := tI_sI eS_84 rfl h_45
      have t_140 : pI S_91 702 x = a3 := tI_sI eS_91 rfl t_139
      have t_141 : pI S_98 702 x = a3 := tI_sI eS_98 rfl t_140
      have t_142 : pI S_19 707 x = 3 := tI_sR eS_19 h_16
      have t_143 : pI S_26 707 x = 3 := tI_sI eS_26 rfl t_142
      have t_144 : pI S_33 707 x = 3 := tI_sI eS_33 rfl t_143
      have t_145 : pI S_40 707 x = 3 := tI_sI eS_40 rfl t_144
      have t_146 : pI S_84 707 x = 3 := tI_sI eS_84 rfl t_145
      have t_147 : pI S_91 707 x = 3 := tI_sI eS_91 rfl t_146
      have t_148 : pI S_98 707 x = 3 := tI_sI eS_98 rfl t_147
      have t_149 : pI S_11 708 x = 0 := tI_sI eS_11 rfl (hzI 708)
      have t_150 : pI S_19 708 x = 0 := tI_sR eS_19 t_149
      have t_151 : pI S_26 708 x = 0 := tI_sI eS_26 rfl t_150
      have t_152 : pI S_33 708 x = 0 := tI_sI eS_33 rfl t_151
      have t_153 : pI S_40 708 x = 0 := tI_sI eS_40 rfl t_152
      have t_154 : pI S_84 708 x = 0 := tI_sI eS_84 rfl t_153
      have t_155 : pI S_91 708 x = 0 := tI_sI eS_91 rfl t_154
      have t_156 : pI S_98 708 x = 0 := tI_sI eS_98 rfl t_155
      have t_157 : pI S_11 709 x = 0 := tI_sI eS_11 rfl (hzI 709)
      have t_158 : pI S_19 709 x = 0 := tI_sR eS_19 t_157
      have t_159 : pI S_26 709 x = 0 := tI_sI eS_26 rfl t_158
      have t_160 : pI S_33 709 x = 0 := tI_sI eS_33 rfl t_159
      have t_161 : pI S_40 709 x = 0 := tI_sI eS_40 rfl t_160
      have t_162 : pI S_84 709 x = 0 := tI_sI eS_84 rfl t_161
      have t_163 : pI S_91 709 x = 0 := tI_sI eS_91 rfl t_162
      have t_164 : pI S_98 709 x = 0 := tI_sI eS_98 rfl t_163
      have t_165 : pI S_91 704 x = i6_56 := tI_sI eS_91 rfl h_89
      have t_166 : pI S_98 704 x = i6_56 := tI_sI eS_98 rfl t_165
      have t_167 : pI S_98 705 x = i7_57 := tI_sI eS_98 rfl h_96
      exact ret_v X hw hr hlocks (Nat.le_of_ble_eq_true rfl) (Nat.le_of_ble_eq_true rfl) ⟨hk9, hg9, ha9, hPhc9, hPhs9, ⟨by rw [eS_115, pR_sK]; exact t_111, ⟨by rw [eS_115, pI_sK]; exact t_134, by rw [eS_115, pI_sK]; exact t_138, by rw [eS_115, pI_sK]; exact t_141⟩, ⟨by rw [eS_115, pI_sK]; exact t_148, by rw [eS_115, pI_sK]; exact t_156, by rw [eS_115, pI_sK]; exact t_164⟩, fun f hf => by rw [eS_115, pR_sK, t_118] at hf; cases hf; exact ⟨by rw [eS_115, pI_sK, show pA (sK S_98 x 7) q_4 = pA S_98 q_4 from rfl, bb_129, pN_sK, t_121, t_166, iv_60, show (i9_59_z).toNat = n_8 by omega], by rw [eS_115, pI_sK, show pA (sK S_98 x 7) q_4 = pA S_98 q_4 from rfl, bb_129, pN_sK, t_121, t_167, iv_61, show (i9_59_z).toNat = n_8 by omega], by rw [eS_115, pI_sK, show pA (sK S_98 x 7) q_4 = pA S_98 q_4 from rfl, bb_129, pN_sK, t_121, h_103, iv_62, show (i9_59_z).toNat = n_8 by omega]⟩⟩⟩ dX7_init_133
    · have z_b_168 := trivial
      have k_169 : i9_59_z < v_78.toInt := z_nle rfl hz_i9_59 c_80
      refine lv_iload X.1 X.2.1 dX7_init_57 (lv_at hl 0 rfl) ?_
      refine lv_aload X.1 X.2.1 dX7_init_59 (lv_at hl 4 rfl) ?_
      refine lv_iload X.1 X.2.1 dX7_init_61 (lv_at hl 3 rfl) ?_
      refine r_iald X hw t_72 rfl (by rw [t_77]; exact z_ix hz_i9_59 (by omega) (by omega)) dX7_init_63 ?_
      refine lv_topi (fun v_170 ev_170 => ?_)
      have rg_171 := And.intro (z_lo v_170) (z_hi v_170)
      have ev_170 := ev_170.symm
      have bb_172 : pA S_11 q_4 = pA S q_4 := by rw [eS_11]; rfl
      have bb_173 : pA S_19 q_4 = pA S q_4 := (show pA S_19 q_4 = pA S_11 q_4 from by rw [eS_19]; rfl).trans bb_172
      have bb_174 : pA S_26 q_4 = pA S q_4 := (show pA S_26 q_4 = pA S_19 q_4 from by rw [eS_26]; rfl).trans bb_173
      have bb_175 : pA S_33 q_4 = pA S q_4 := (show pA S_33 q_4 = pA S_26 q_4 from by rw [eS_33]; rfl).trans bb_174
      have bb_176 : pA S_40 q_4 = pA S q_4 := (show pA S_40 q_4 = pA S_33 q_4 from by rw [eS_40]; rfl).trans bb_175
      have ld_177 : v_170 = pA S q_4 (i9_59_z).toNat := by rw [← ev_170, bb_176, z_nc hz_i9_59 (by omega)]
      refine va_mmin X.1 X.2.1 (X.2.2.1.trans hl.1.symm) X.2.2.2.2.1 (X.2.2.2.1 (.methodLink RX7 37 Lib.Math.min.name) (by decide +kernel)) (X.2.2.2.1 (.static Lib.Math.min.name) (by decide +kernel)) (X.2.2.2.1 (.initialized "java/lang/Math") (by decide +kernel)) (X.2.2.2.1 (.code Lib.Math.min.name Lib.Math.min.code 2 (some .int)) (by decide +kernel)) (Nat.le_of_ble_eq_true rfl) (Nat.le_of_ble_eq_true rfl) (Nat.le_of_ble_eq_true rfl) (Nat.le_of_ble_eq_true rfl) dX7_init_64 ?_
      refine lv_topi (fun v_178 ev_178 => ?_)
      have z_179 := z_min ev_178 hz_i6_56 rfl
      refine lv_istore (lv' := [(6, .int (v_178)), (7, .int (i7_57)), (8, .int (i8_58)), (9, .int (i9_59)), (5, .ref q_4), (0, .ref x), (1, .ref s1), (2, .int (a1)), (3, .int (a2)), (4, .int (a3))]) X.1 X.2.1 dX7_init_67 hl (by decide) rfl (fun ls hl => ?_)
      refine lv_iload X.1 X.2.1 dX7_init_69 (lv_at hl 1 rfl) ?_
      refine lv_aload X.1 X.2.1 dX7_init_71 (lv_at hl 4 rfl) ?_
      refine lv_iload X.1 X.2.1 dX7_init_73 (lv_at hl 3 rfl) ?_
      refine r_iald X hw t_72 rfl (by rw [t_77]; exact z_ix hz_i9_59 (by omega) (by omega)) dX7_init_75 ?_
      rw [ev_170]
      refine va_mmax X.1 X.2.1 (X.2.2.1.trans hl.1.symm) X.2.2.2.2.1 (X.2.2.2.1 (.methodLink RX7 43 Lib.Math.max.name) (by decide +kernel)) (X.2.2.2.1 (.static Lib.Math.max.name) (by decide +kernel)) (X.2.2.2.1 (.initialized "java/lang/Math") (by decide +kernel)) (X.2.2.2.1 (.code Lib.Math.max.name Lib.Math.max.code 2 (some .int)) (by decide +kernel)) (Nat.le_of_ble_eq_true rfl) (Nat.le_of_ble_eq_true rfl) (Nat.le_of_ble_eq_true rfl) (Nat.le_of_ble_eq_true rfl) dX7_init_76 ?_
      refine lv_topi (fun v_180 ev_180 => ?_)
      have z_181 := z_max ev_180 hz_i7_57 rfl
      refine lv_istore (lv' := [(7, .int (v_180)), (6, .int (v_178)), (8, .int (i8_58)), (9, .int (i9_59)), (5, .ref q_4), (0, .ref x), (1, .ref s1), (2, .int (a1)), (3, .int (a2)), (4, .int (a3))]) X.1 X.2.1 dX7_init_79 hl (by decide) rfl (fun ls hl => ?_)
      refine lv_iload X.1 X.2.1 dX7_init_81 (lv_at hl 3 rfl) ?_
      refine lv_if_le (tgt := 109) X.1 X.2.1 dX7_init_83 (by decide) (fun c_182 => ?_) (fun c_182 => ?_)
      · have z_b_183 := trivial
        have k_184 : i9_59_z ≤ 0 := z_le hz_i9_59 ti_0 c_182
        obtain ⟨x_185, ex_185⟩ : ∃ y : Int32, y = i9_59 + 1 := ⟨_, rfl⟩
        have z_186 : x_185.toInt = i9_59_z + 1 := z_add ex_185 hz_i9_59 ti_1 (by omega) (by omega)
        refine lv_iinc (v := x_185) (lv' := [(9, .int (x_185)), (7, .int (v_180)), (6, .int (v_178)), (8, .int (i8_58)), (5, .ref q_4), (0, .ref x), (1, .ref s1), (2, .int (a1)), (3, .int (a2)), (4, .int (a3))]) X.1 X.2.1 dX7_init_109 hl (k := 3) rfl (by rw [ex_185]; rfl) (by decide) rfl (fun ls hl => ?_)
        refine lv_goto (tgt := 49) X.1 X.2.1 dX7_init_112 (by decide) ?_
        exact ih _ (by omega) _ _ _ (v_178) (v_178.toInt) (v_180) (v_180.toInt) (i8_58) (i8_58_z) (x_185) (x_185.toInt) rfl hw rfl rfl hz_i8_58 rfl (by omega) (by rw [show (x_185.toInt).toNat = (i9_59_z).toNat + 1 by omega, show loN (pA S q_4) ((i9_59_z).toNat + 1) = if pA S q_4 (i9_59_z).toNat < loN (pA S q_4) (i9_59_z).toNat then pA S q_4 (i9_59_z).toNat else loN (pA S q_4) (i9_59_z).toNat from rfl, ← ld_177, ← iv_60]; exact ev_178) (by rw [show (x_185.toInt).toNat = (i9_59_z).toNat + 1 by omega, show hiN (pA S q_4) ((i9_59_z).toNat + 1) = if hiN (pA S q_4) (i9_59_z).toNat < pA S q_4 (i9_59_z).toNat then pA S q_4 (i9_59_z).toNat else hiN (pA S q_4) (i9_59_z).toNat from rfl, ← ld_177, ← iv_61]; exact ev_180) (by rw [show (x_185.toInt).toNat = (i9_59_z).toNat + 1 by omega, slN_n (by omega)]; exact iv_62) (by omega) (lv_sub hl [2, 1, 3, 0, 4, 5, 6, 7, 8, 9] rfl)
      · have z_b_187 := trivial
        have k_188 : i9_59_z > 0 := z_nle hz_i9_59 ti_0 c_182
        refine lv_aload X.1 X.2.1 dX7_init_86 (lv_at hl 4 rfl) ?_
        refine lv_iload X.1 X.2.1 dX7_init_88 (lv_at hl 3 rfl) ?_
        refine r_iald X hw t_72 rfl (by rw [t_77]; exact z_ix hz_i9_59 (by omega) (by omega)) dX7_init_90 ?_
        rw [ev_170]
        refine lv_aload X.1 X.2.1 dX7_init_91 (lv_at hl 4 rfl) ?_
        refine lv_iload X.1 X.2.1 dX7_init_93 (lv_at hl 3 rfl) ?_
        refine lv_iconst (v := 1) X.1 X.2.1 dX7_init_95 (by decide) ?_
        refine lv_isub X.1 X.2.1 dX7_init_96 ?_
        refine lv_topi (fun v_189 ev_189 => ?_)
        have z_190 : v_189.toInt = i9_59_z - 1 := z_sub ev_189 hz_i9_59 ti_1 (by omega) (by omega)
        refine r_iald X hw t_72 rfl (by rw [t_77]; exact z_ix rfl (by omega) (by omega)) dX7_init_97 ?_
        refine lv_topi (fun v_191 ev_191 => ?_)
        have rg_192 := And.intro (z_lo v_191) (z_hi v_191)
        have ev_191 := ev_191.symm
        have bb_193 : pA S_11 q_4 = pA S q_4 := by rw [eS_11]; rfl
        have bb_194 : pA S_19 q_4 = pA S q_4 := (show pA S_19 q_4 = pA S_11 q_4 from by rw [eS_19]; rfl).trans bb_193
        have bb_195 : pA S_26 q_4 = pA S q_4 := (show pA S_26 q_4 = pA S_19 q_4 from by rw [eS_26]; rfl).trans bb_194
        have bb_196 : pA S_33 q_4 = pA S q_4 := (show pA S_33 q_4 = pA S_26 q_4 from by rw [eS_33]; rfl).trans bb_195
        have bb_197 : pA S_40 q_4 = pA S q_4 := (show pA S_40 q_4 = pA S_33 q_4 from by rw [eS_40]; rfl).trans bb_196
        have ld_198 : v_191 = pA S q_4 (v_189.toInt).toNat := by rw [← ev_191, bb_197, z_nc rfl (by omega)]
        refine lv_isub X.1 X.2.1 dX7_init_98 ?_
        refine lv_topi (fun v_199 ev_199 => ?_)
        have rg_200 := And.intro (z_lo v_199) (z_hi v_199)
        refine va_mabs X.1 X.2.1 (X.2.2.1.trans hl.1.symm) X.2.2.2.2.1 (X.2.2.2.1 (.methodLink RX7 46 Lib.Math.abs.name) (by decide +kernel)) (X.2.2.2.1 (.static Lib.Math.abs.name) (by decide +kernel)) (X.2.2.2.1 (.initialized "java/lang/Math") (by decide +kernel)) (X.2.2.2.1 (.code Lib.Math.abs.name Lib.Math.abs.code 1 (some .int)) (by decide +kernel)) (Nat.le_of_ble_eq_true rfl) (Nat.le_of_ble_eq_true rfl) (Nat.le_of_ble_eq_true rfl) (Nat.le_of_ble_eq_true rfl) dX7_init_99 ?_
        refine lv_topi (fun v_201 ev_201 => ?_)
        have rg_203 := And.intro (z_lo v_201) (z_hi v_201)
        refine lv_iconst (v := 4) X.1 X.2.1 dX7_init_102 (by decide) ?_
        refine lv_icmp_le (tgt := 109) X.1 X.2.1 dX7_init_103 (by decide) (fun c_204 => ?_) (fun c_204 => ?_)
        · have z_b_205 := trivial
          have k_206 : v_201.toInt ≤ 4 := z_le rfl ti_4 c_204
          obtain ⟨x_207, ex_207⟩ : ∃ y : Int32, y = i9_59 + 1 := ⟨_, rfl⟩
          have z_208 : x_207.toInt = i9_59_z + 1 := z_add ex_207 hz_i9_59 ti_1 (by omega) (by omega)
          refine lv_iinc (v := x_207) (lv' := [(9, .int (x_207)), (7, .int (v_180)), (6, .int (v_178)), (8, .int (i8_58)), (5, .ref q_4), (0, .ref x), (1, .ref s1), (2, .int (a1)), (3, .int (a2)), (4, .int (a3))]) X.1 X.2.1 dX7_init_109 hl (k := 3) rfl (by rw [ex_207]; rfl) (by decide) rfl (fun ls hl => ?_)
          refine lv_goto (tgt := 49) X.1 X.2.1 dX7_init_112 (by decide) ?_
          have ja_209 : (abI (pA S q_4 (i9_59_z).toNat - pA S q_4 ((i9_59_z).toNat - 1))).toInt = (v_201).toInt := by rw [ev_201]; unfold abI; rw [ev_199, ld_177, ld_198, show (i9_59_z).toNat - 1 = (v_189.toInt).toNat by omega]
          exact ih _ (by omega) _ _ _ (v_178) (v_178.toInt) (v_180) (v_180.toInt) (i8_58) (i8_58_z) (x_207) (x_207.toInt) rfl hw rfl rfl hz_i8_58 rfl (by omega) (by rw [show (x_207.toInt).toNat = (i9_59_z).toNat + 1 by omega, show loN (pA S q_4) ((i9_59_z).toNat + 1) = if pA S q_4 (i9_59_z).toNat < loN (pA S q_4) (i9_59_z).toNat then pA S q_4 (i9_59_z).toNat else loN (pA S q_4) (i9_59_z).toNat from rfl, ← ld_177, ← iv_60]; exact ev_178) (by rw [show (x_207.toInt).toNat = (i9_59_z).toNat + 1 by omega, show hiN (pA S q_4) ((i9_59_z).toNat + 1) = if hiN (pA S q_4) (i9_59_z).toNat < pA S q_4 (i9_59_z).toNat then pA S q_4 (i9_59_z).toNat else hiN (pA S q_4) (i9_59_z).toNat from rfl, ← ld_177, ← iv_61]; exact ev_180) (by rw [show (x_207.toInt).toNat = (i9_59_z).toNat + 1 by omega, slN_n (by omega)]; exact iv_62) (by omega) (lv_sub hl [2, 1, 3, 0, 4, 5, 6, 7, 8, 9] rfl)
        · have z_b_210 := trivial
          have k_211 : v_201.toInt > 4 := z_nle rfl ti_4 c_204
          obtain ⟨x_212, ex_212⟩ : ∃ y : Int32, y = i8_58 + 1 := ⟨_, rfl⟩
          have rg_213 := And.intro (z_lo x_212) (z_hi x_212)
          refine lv_iinc (v := x_212) (lv' := [(8, .int (x_212)), (7, .int (v_180)), (6, .int (v_178)), (9, .int (i9_59)), (5, .ref q_4), (0, .ref x), (1, .ref s1), (2, .int (a1)), (3, .int (a2)), (4, .int (a3))]) X.1 X.2.1 dX7_init_106 hl (k := 2) rfl (by rw [ex_212]; rfl) (by decide) rfl (fun ls hl => ?_)
          obtain ⟨x_214, ex_214⟩ : ∃ y : Int32, y = i9_59 + 1 := ⟨_, rfl⟩
          have z_215 : x_214.toInt = i9_59_z + 1 := z_add ex_214 hz_i9_59 ti_1 (by omega) (by omega)
          refine lv_iinc (v := x_214) (lv' := [(9, .int (x_214)), (8, .int (x_212)), (7, .int (v_180)), (6, .int (v_178)), (5, .ref q_4), (0, .ref x), (1, .ref s1), (2, .int (a1)), (3, .int (a2)), (4, .int (a3))]) X.1 X.2.1 dX7_init_109 hl (k := 3) rfl (by rw [ex_214]; rfl) (by decide) rfl (fun ls hl => ?_)
          refine lv_goto (tgt := 49) X.1 X.2.1 dX7_init_112 (by decide) ?_
          have ja_216 : (abI (pA S q_4 (i9_59_z).toNat - pA S q_4 ((i9_59_z).toNat - 1))).toInt = (v_201).toInt := by rw [ev_201]; unfold abI; rw [ev_199, ld_177, ld_198, show (i9_59_z).toNat - 1 = (v_189.toInt).toNat by omega]
          exact ih _ (by omega) _ _ _ (v_178) (v_178.toInt) (v_180) (v_180.toInt) (x_212) (x_212.toInt) (x_214) (x_214.toInt) rfl hw rfl rfl rfl rfl (by omega) (by rw [show (x_214.toInt).toNat = (i9_59_z).toNat + 1 by omega, show loN (pA S q_4) ((i9_59_z).toNat + 1) = if pA S q_4 (i9_59_z).toNat < loN (pA S q_4) (i9_59_z).toNat then pA S q_4 (i9_59_z).toNat else loN (pA S q_4) (i9_59_z).toNat from rfl, ← ld_177, ← iv_60]; exact ev_178) (by rw [show (x_214.toInt).toNat = (i9_59_z).toNat + 1 by omega, show hiN (pA S q_4) ((i9_59_z).toNat + 1) = if hiN (pA S q_4) (i9_59_z).toNat < pA S q_4 (i9_59_z).toNat then pA S q_4 (i9_59_z).toNat else hiN (pA S q_4) (i9_59_z).toNat from rfl, ← ld_177, ← iv_61]; exact ev_180) (by rw [show (x_214.toInt).toNat = (i9_59_z).toNat + 1 by omega, slN_y (by omega) (by omega), ← iv_62]; exact ex_212) (by omega) (lv_sub hl [3, 2, 1, 0, 4, 5, 6, 7, 8, 9] rfl)
  exact L_55 _ _ _ _ (2147483647) (2147483647) (0) (0) (0) (0) (0) (0) rfl hw ti_2147483647 ti_0 ti_0 ti_0 (by omega) rfl rfl rfl (by omega) (lv_sub hl [3, 2, 1, 0, 4, 5, 6, 7, 8, 9] rfl)
