def MPr : List Nat := [1200, 1228, 1229, 1230, 1231, 1232, 1233, 1234, 10614, 10634, 10654, 10674, 10694, 10714, 10734]
theorem rB_fr2 {M : List Nat} {S S' : PS} {x : Nat} (hG : GX S) (ha : At S x 12) (hF : Fr M S S') (hM : ([1227, 10753] : List Nat).all (fun g => !M.contains g) = true) (h8 : pI S' 1228 x = pI S 1228 x) : rB S' x = rB S x := by
  funext i
  rw [rB_eq, rB_eq, h8, mA_fr hF ha (ex3 (gQ_12_1227 hG ha)) (allc hM (by decide)) (allc hM (by decide))]

set_option maxHeartbeats 4000000 in
set_option maxRecDepth 100000 in
theorem k_X12_program2 (l : Launch) (G : va_G) (cy : Nat → ClassId) (κ : Nat → Nat) (S : PS) (sz : Nat) (x : Nat) (a1 : Int32) (a1_z : Int) (hG : GX S) (ha_x : At S x 12) (hz_a1 : a1.toInt = a1_z) : Ci l yX12_program wsX12_program ({ frames := 8, cells := 0, slots := 0, locals := 384 }) G cy κ S sz [.ref x, .int (a1)] (fun (r : Int32) (S9 : PS) => Ok MPr S S9 ∧ (-2147483648 ≤ r.toInt ∧ r.toInt ≤ 2147483647 ∧ (((0 ≤ a1_z ∧ a1_z < (pI S 1211 x).toInt) ∧ (pI S9 1228 x).toInt = 0) ∨ (¬ (0 ≤ a1_z ∧ a1_z < (pI S 1211 x).toInt) ∧ (pI S9 1228 x).toInt = (pI S 1228 x).toInt)) ∧ ((0 ≤ a1_z ∧ a1_z < (pI S 1211 x).toInt) → r.toInt = prR (rB S x) (pI S 1228 x).toInt.toNat) ∧ (¬ (0 ≤ a1_z ∧ a1_z < (pI S 1211 x).toInt) → r.toInt = -1))) := by
  refine ent_m (cc := cX12_program) (maxL := 5) (ret := (some .int)) (by decide) rfl (Nat.le_of_ble_eq_true rfl) ?_
  intro p e s m below meth c ls X hr hlocks hin hw hl hsz
  subst hsz
  have X : Cx p c cX12_program 5 s [.ref x, .int (a1)].toArray wsX12_program RX12 m G cy κ (AS S s.heap.size) := X
  have hl : lv_has ls 5 [(0, .ref x), (1, .int (a1))] := hl
  have rg_a1 : (-2147483648) ≤ a1_z ∧ a1_z ≤ 2147483647 := by rw [← hz_a1]; exact ⟨z_lo _, z_hi _⟩
  have hO : Ok MPr S S := Ok.rf hG
  generalize hQQ : MQ below _ _ _ _ _ _ = QQ
  replace hQQ := hQQ.symm
  obtain ⟨v_1, ev_1⟩ : ∃ v, pI S 1228 x = v := ⟨_, rfl⟩
  have rg_2 := gI_12_1228 hO.1 ha_x; rw [ev_1] at rg_2
  have pz_3 : (pI S 1228 x).toInt = v_1.toInt := by rw [ev_1]
  have pz_4 : (pI S 1228 x).toInt = v_1.toInt := (congrArg Int32.toInt ev_1).trans rfl
  obtain ⟨v_5, ev_5⟩ : ∃ v, pI S 1211 x = v := ⟨_, rfl⟩
  have rg_6 := gI_12_1211 hO.1 ha_x; rw [ev_5] at rg_6
  have pz_7 : (pI S 1211 x).toInt = v_5.toInt := by rw [ev_5]
  have pz_8 : (pI S 1211 x).toInt = v_5.toInt := (congrArg Int32.toInt ev_5).trans rfl
  refine lv_aload_n X.1 X.2.1 dX12_program_0 rfl (lv_at hl 0 rfl) ?_
  refine lv_iconst (v := 0) X.1 X.2.1 dX12_program_1 (by decide) ?_
  refine r_putI (v := 0) X hw ha_x rfl 0 1200 tyX12 (by decide) rfl inn_X12_program_12 tyX12_ok nmX12 (by decide) (X.2.2.2.1 (.fieldLink RX12 161 "SilkMillModel" "thrown" "I") (by decide +kernel)) rfl (Or.inl rfl) rfl rfl (Nat.le_of_ble_eq_true rfl) (st_1200 _ _) dX12_program_2 (fun H locs hw => ?_)
  obtain ⟨S_9, eS_9⟩ : ∃ T, T = sI S 1200 x (0) := ⟨_, rfl⟩
  rw [← eS_9] at hw
  have hO_10 : Ok MPr S S_9 := hO.sI eS_9 (by decide +kernel) (uI_12_1200 hO.1 ha_x)
  have h_11 : pI S_9 1200 x = 0 := tI_sIs eS_9
  refine lv_aload_n X.1 X.2.1 dX12_program_5 rfl (lv_at hl 0 rfl) ?_
  refine lv_iload_n X.1 X.2.1 dX12_program_6 rfl (lv_at hl 1 rfl) ?_
  have t_12 : pI S_9 1211 x = v_5 := tI_sI eS_9 rfl ev_5
  have pz_13 : (pI S_9 1211 x).toInt = v_5.toInt := (congrArg Int32.toInt t_12).trans rfl
  have t_14 : At S_9 x 12 := tAt_sI eS_9 ha_x
  refine k_i (rm := { frames := 2, cells := 0, slots := 0, locals := 96 }) (av := [.ref x, .int (a1)]) X hw (va_runV (As := [.int (a1)]) (rest := []) (cfix X) (k_X12_isPot l G cy κ S_9 _ x (a1) (a1_z) hO_10.1 t_14 hz_a1) (cwV 1 X.2.2.2.1 gX12_program_X12_isPot rfl rfl rfl (by decide +kernel) ⟨Nat.le_of_ble_eq_true rfl, Nat.le_of_ble_eq_true rfl⟩) (pre_V X hw _ t_14 rfl (by decide) rfl) rfl rfl hl.1 rfl (lv_room (Nat.le_of_ble_eq_true rfl)) dX12_program_7 ⟨Nat.le_of_ble_eq_true rfl, Nat.le_of_ble_eq_true rfl⟩) 0 0 (Nat.le_of_ble_eq_true rfl) (Nat.le_of_ble_eq_true rfl) (fun rr_15 S_16 H locs hp hw hfr hnw => ?_)
  obtain ⟨e2, hp⟩ := hp
  subst e2
  rcases hp with ⟨f_17, er_18⟩ | ⟨f_17, er_18⟩ <;> subst er_18
  · have z_b_19 := trivial
    refine lv_if_ne (tgt := 15) X.1 X.2.1 dX12_program_10 (by decide) (fun c_20 => ?_) (fun c_20 => absurd c_20 (by decide))
    have L_21 : ∀ (n : Nat) (T_23 : PS) (H : Heap) (locs : List Loc) (ls : Array Slot) (i3_22 : Int32) (i3_22_z : Int), ((12 - i3_22_z).toNat = n) → (Wd G cy (AS S s.heap.size) s.heap T_23 H locs) → (i3_22.toInt = i3_22_z) → (0 ≤ i3_22_z ∧ i3_22_z ≤ 12) → (At T_23 x 12) → (Ok MPr S T_23) → ((pI T_23 1228 x).toInt = 0) → (((prF (rB S x) (pI S 1228 x).toInt.toNat 13 0 (tokF (rB S x) (pI S 1228 x).toInt.toNat 0)).1 = 0 ∧ zA T_23 x 1220 a1_z.toNat = ((prF (rB S x) (pI S 1228 x).toInt.toNat 13 0 (tokF (rB S x) (pI S 1228 x).toInt.toNat 0)).2 : Int))) → (lv_has ls 5 [(3, .int (i3_22)), (0, .ref x), (1, .int (a1))]) → W p l e ({ frames := 8, cells := 0, slots := 0, locals := 384 }) s m [.ref x, .int (a1)].toArray below meth c H locs 0 0 QQ (F0 m 96 ls []) := by
      intro n
      induction n using Nat.strongRecOn with
      | ind n ih_L_21 =>
      intro T_23 H locs ls i3_22 i3_22_z hn hw hz_i3_22 hr_i3_22 ha_x_L_24 hO_T_23 iv_25 iv_26 hl
      have rg_27 : (-2147483648) ≤ i3_22_z ∧ i3_22_z ≤ 2147483647 := by rw [← hz_i3_22]; exact ⟨z_lo _, z_hi _⟩
      obtain ⟨v_28, ev_28⟩ : ∃ v, pI T_23 1228 x = v := ⟨_, rfl⟩
      have rg_29 := gI_12_1228 hO_T_23.1 ha_x_L_24; rw [ev_28] at rg_29
      have pz_30 : (pI T_23 1228 x).toInt = v_28.toInt := by rw [ev_28]
      have pz_31 : (pI T_23 1228 x).toInt = v_28.toInt := (congrArg Int32.toInt ev_28).trans rfl
      refine lv_iload_n X.1 X.2.1 dX12_program_96 rfl (lv_at hl 0 rfl) ?_
      refine lv_bipush (v := 12) X.1 X.2.1 dX12_program_97 (by decide) ?_
      refine lv_icmp_ge (tgt := 273) X.1 X.2.1 dX12_program_99 (by decide) (fun c_32 => ?_) (fun c_32 => ?_)
      · have z_b_33 := trivial
        have k_34 : i3_22_z ≥ 12 := z_le ti_12 hz_i3_22 c_32
        refine lv_aload_n X.1 X.2.1 dX12_program_273 rfl (lv_at hl 1 rfl) ?_
        obtain ⟨q_35, h_36, h_37, h_38⟩ := gQ_12_1220 hO_T_23.1 ha_x_L_24
        refine r_getR (g := 1220) X hw ha_x_L_24 rfl 20 h_36 (by decide) rfl inn_X12_program_12 (by decide) (X.2.2.2.1 (.fieldLink RX12 61 "SilkMillModel" "rules" "[I") (by decide +kernel)) rfl (gv_1220 _ _) dX12_program_274 ?_
        refine lv_iload_n X.1 X.2.1 dX12_program_277 rfl (lv_at hl 2 rfl) ?_
        refine r_iald X hw h_37 rfl (by rw [h_38]; exact z_ix hz_a1 (by omega) (by omega)) dX12_program_278 ?_
        refine lv_topi (fun v_39 ev_39 => ?_)
        have z_40 := gE_614 hO_T_23.1 h_37 (Int32.toNatClampNeg (a1)); rw [← ev_39] at z_40
        have ev_39 := ev_39.symm
        have zf_41 : zA T_23 x 1220 (a1_z).toNat = v_39.toInt := (zA_of h_36 hz_a1 (by omega) ev_39)
        have pz_42 : (pI T_23 1228 x).toInt = v_28.toInt := (congrArg Int32.toInt ev_28).trans rfl
        rw [hQQ]
        exact ret_i X hw hr hlocks (Nat.le_of_ble_eq_true rfl) (Nat.le_of_ble_eq_true rfl) ⟨hO_T_23, ⟨z_lo _, z_hi _, by omega, fun _ => by unfold prR; rw [cit_y iv_26.1]; have h2 := iv_26.2; omega, fun h => by exfalso; omega⟩⟩ dX12_program_279
      · have z_b_43 := trivial
        have k_44 : i3_22_z < 12 := z_nle ti_12 hz_i3_22 c_32
        refine lv_aload_n X.1 X.2.1 dX12_program_102 rfl (lv_at hl 1 rfl) ?_
        obtain ⟨q_45, h_46, h_47, h_48⟩ := gQ_12_1221 hO_T_23.1 ha_x_L_24
        refine r_getR (g := 1221) X hw ha_x_L_24 rfl 21 h_46 (by decide) rfl inn_X12_program_12 (by decide) (X.2.2.2.1 (.fieldLink RX12 64 "SilkMillModel" "act" "[I") (by decide +kernel)) rfl (gv_1221 _ _) dX12_program_103 ?_
        refine lv_bipush (v := 12) X.1 X.2.1 dX12_program_106 (by decide) ?_
        refine lv_iload_n X.1 X.2.1 dX12_program_108 rfl (lv_at hl 2 rfl) ?_
        refine lv_imul X.1 X.2.1 dX12_program_109 ?_
        refine lv_topi (fun v_49 ev_49 => ?_)
        have z_50 : v_49.toInt = 12 * a1_z := z_mul ev_49 ti_12 hz_a1 (by omega) (by omega)
        refine lv_iload_n X.1 X.2.1 dX12_program_110 rfl (lv_at hl 0 rfl) ?_
        refine lv_iadd X.1 X.2.1 dX12_program_111 ?_
        refine lv_topi (fun v_51 ev_51 => ?_)
        have z_52 : v_51.toInt = (12 * a1_z) + i3_22_z := z_add ev_51 z_50 hz_i3_22 (by omega) (by omega)
        refine lv_aload_n X.1 X.2.1 dX12_program_112 rfl (lv_at hl 1 rfl) ?_
        refine r_getR (g := 1221) X hw ha_x_L_24 rfl 21 h_46 (by decide) rfl inn_X12_program_12 (by decide) (X.2.2.2.1 (.fieldLink RX12 64 "SilkMillModel" "act" "[I") (by decide +kernel)) rfl (gv_1221 _ _) dX12_program_113 ?_
        refine lv_bipush (v := 48) X.1 X.2.1 dX12_program_116 (by decide) ?_
        refine lv_iload_n X.1 X.2.1 dX12_program_118 rfl (lv_at hl 0 rfl) ?_
        refine lv_iadd X.1 X.2.1 dX12_program_119 ?_
        refine lv_topi (fun v_53 ev_53 => ?_)
        have z_54 : v_53.toInt = 48 + i3_22_z := z_add ev_53 ti_48 hz_i3_22 (by omega) (by omega)
        refine r_iald X hw h_47 rfl (by rw [h_48]; exact z_ix z_54 (by omega) (by omega)) dX12_program_120 ?_
        refine lv_topi (fun v_55 ev_55 => ?_)
        have rg_56 := And.intro (z_lo v_55) (z_hi v_55)
        have ev_55 := ev_55.symm
        refine r_iast X hw h_47 rfl (by rw [h_48]; exact z_ix z_52 (by omega) (by omega)) dX12_program_121 (fun H locs hw => ?_)
        obtain ⟨S_57, eS_57⟩ : ∃ T, T = sA T_23 q_45 (upd (pA T_23 q_45) (Int32.toNatClampNeg (v_51)) (v_55)) := ⟨_, rfl⟩
        rw [← eS_57] at hw
        have hO_58 : Ok MPr S S_57 := hO_T_23.sA eS_57 h_47 (by decide +kernel) (uA_634 hO_T_23.1 h_47)
        have h_59 : pA S_57 q_45 (Int32.toNatClampNeg (v_51)) = v_55 := tA_sAs eS_57
        clear z_50
        clear z_52
        clear z_54
        refine lv_aload_n X.1 X.2.1 dX12_program_122 rfl (lv_at hl 1 rfl) ?_
        have t_60 : At S_57 x 12 := tAt_sA eS_57 ha_x_L_24
        obtain ⟨q_61, h_62, h_63, h_64⟩ := gQ_12_1222 hO_58.1 t_60
        refine r_getR (g := 1222) X hw t_60 rfl 22 h_62 (by decide) rfl inn_X12_program_12 (by decide) (X.2.2.2.1 (.fieldLink RX12 67 "SilkMillModel" "actNumber" "[I") (by decide +kernel)) rfl (gv_1222 _ _) dX12_program_123 ?_
        refine lv_bipush (v := 12) X.1 X.2.1 dX12_program_126 (by decide) ?_
        refine lv_iload_n X.1 X.2.1 dX12_program_128 rfl (lv_at hl 2 rfl) ?_
        refine lv_imul X.1 X.2.1 dX12_program_129 ?_
        refine lv_topi (fun v_65 ev_65 => ?_)
        have z_66 : v_65.toInt = 12 * a1_z := z_mul ev_65 ti_12 hz_a1 (by omega) (by omega)
        refine lv_iload_n X.1 X.2.1 dX12_program_130 rfl (lv_at hl 0 rfl) ?_
        refine lv_iadd X.1 X.2.1 dX12_program_131 ?_
        refine lv_topi (fun v_67 ev_67 => ?_)
        have z_68 : v_67.toInt = (12 * a1_z) + i3_22_z := z_add ev_67 z_66 hz_i3_22 (by omega) (by omega)
        refine lv_aload_n X.1 X.2.1 dX12_program_132 rfl (lv_at hl 1 rfl) ?_
        refine r_getR (g := 1222) X hw t_60 rfl 22 h_62 (by decide) rfl inn_X12_program_12 (by decide) (X.2.2.2.1 (.fieldLink RX12 67 "SilkMillModel" "actNumber" "[I") (by decide +kernel)) rfl (gv_1222 _ _) dX12_program_133 ?_
        refine lv_bipush (v := 48) X.1 X.2.1 dX12_program_136 (by decide) ?_
        refine lv_iload_n X.1 X.2.1 dX12_program_138 rfl (lv_at hl 0 rfl) ?_
        refine lv_iadd X.1 X.2.1 dX12_program_139 ?_
        refine lv_topi (fun v_69 ev_69 => ?_)
        have z_70 : v_69.toInt = 48 + i3_22_z := z_add ev_69 ti_48 hz_i3_22 (by omega) (by omega)
        refine r_iald X hw h_63 rfl (by rw [h_64]; exact z_ix z_70 (by omega) (by omega)) dX12_program_140 ?_
        refine lv_topi (fun v_71 ev_71 => ?_)
        have rg_72 := And.intro (z_lo v_71) (z_hi v_71)
        have ev_71 := ev_71.symm
        refine r_iast X hw h_63 rfl (by rw [h_64]; exact z_ix z_68 (by omega) (by omega)) dX12_program_141 (fun H locs hw => ?_)
        obtain ⟨S_73, eS_73⟩ : ∃ T, T = sA S_57 q_61 (upd (pA S_57 q_61) (Int32.toNatClampNeg (v_67)) (v_71)) := ⟨_, rfl⟩
        rw [← eS_73] at hw
        have hO_74 : Ok MPr S S_73 := hO_58.sA eS_73 h_63 (by decide +kernel) (uA_654 hO_58.1 h_63)
        have h_75 : pA S_73 q_61 (Int32.toNatClampNeg (v_67)) = v_71 := tA_sAs eS_73
        clear z_66
        clear z_68
        clear z_70
        refine lv_aload_n X.1 X.2.1 dX12_program_142 rfl (lv_at hl 1 rfl) ?_
        have t_76 : At S_73 x 12 := tAt_sA eS_73 t_60
        obtain ⟨q_77, h_78, h_79, h_80⟩ := gQ_12_1223 hO_74.1 t_76
        refine r_getR (g := 1223) X hw t_76 rfl 23 h_78 (by decide) rfl inn_X12_program_12 (by decide) (X.2.2.2.1 (.fieldLink RX12 70 "SilkMillModel" "conditions" "[I") (by decide +kernel)) rfl (gv_1223 _ _) dX12_program_143 ?_
        refine lv_bipush (v := 12) X.1 X.2.1 dX12_program_146 (by decide) ?_
        refine lv_iload_n X.1 X.2.1 dX12_program_148 rfl (lv_at hl 2 rfl) ?_
        refine lv_imul X.1 X.2.1 dX12_program_149 ?_
        refine lv_topi (fun v_81 ev_81 => ?_)
        have z_82 : v_81.toInt = 12 * a1_z := z_mul ev_81 ti_12 hz_a1 (by omega) (by omega)
        refine lv_iload_n X.1 X.2.1 dX12_program_150 rfl (lv_at hl 0 rfl) ?_
        refine lv_iadd X.1 X.2.1 dX12_program_151 ?_
        refine lv_topi (fun v_83 ev_83 => ?_)
        have z_84 : v_83.toInt = (12 * a1_z) + i3_22_z := z_add ev_83 z_82 hz_i3_22 (by omega) (by omega)
        refine lv_aload_n X.1 X.2.1 dX12_program_152 rfl (lv_at hl 1 rfl) ?_
        refine r_getR (g := 1223) X hw t_76 rfl 23 h_78 (by decide) rfl inn_X12_program_12 (by decide) (X.2.2.2.1 (.fieldLink RX12 70 "SilkMillModel" "conditions" "[I") (by decide +kernel)) rfl (gv_1223 _ _) dX12_program_153 ?_
        refine lv_bipush (v := 48) X.1 X.2.1 dX12_program_156 (by decide) ?_
        refine lv_iload_n X.1 X.2.1 dX12_program_158 rfl (lv_at hl 0 rfl) ?_
        refine lv_iadd X.1 X.2.1 dX12_program_159 ?_
        refine lv_topi (fun v_85 ev_85 => ?_)
        have z_86 : v_85.toInt = 48 + i3_22_z := z_add ev_85 ti_48 hz_i3_22 (by omega) (by omega)
        refine r_iald X hw h_79 rfl (by rw [h_80]; exact z_ix z_86 (by omega) (by omega)) dX12_program_160 ?_
        refine lv_topi (fun v_87 ev_87 => ?_)
        have z_88 := gE_674 hO_74.1 h_79 (Int32.toNatClampNeg (v_85)); rw [← ev_87] at z_88
        have ev_87 := ev_87.symm
        refine r_iast X hw h_79 rfl (by rw [h_80]; exact z_ix z_84 (by omega) (by omega)) dX12_program_161 (fun H locs hw => ?_)
        obtain ⟨S_89, eS_89⟩ : ∃ T, T = sA S_73 q_77 (upd (pA S_73 q_77) (Int32.toNatClampNeg (v_83)) (v_87)) := ⟨_, rfl⟩
        rw [← eS_89] at hw
        have hO_90 : Ok MPr S S_89 := hO_74.sA eS_89 h_79 (by decide +kernel) (uA_674 hO_74.1 h_79 (by omega) (by omega))
        have h_91 : pA S_89 q_77 (Int32.toNatClampNeg (v_83)) = v_87 := tA_sAs eS_89
        clear z_82
        clear z_84
        clear z_86
        refine lv_iconst (v := 0) X.1 X.2.1 dX12_program_162 (by decide) ?_
        refine lv_istore (lv' := [(4, .int 0), (3, .int (i3_22)), (0, .ref x), (1, .int (a1))]) X.1 X.2.1 dX12_program_163 hl (by decide) rfl (fun ls hl => ?_)
        have L_92 : ∀ (n : Nat) (T_94 : PS) (H : Heap) (locs : List Loc) (ls : Array Slot) (i4_93 : Int32) (i4_93_z : Int), ((4 - i4_93_z).toNat = n) → (Wd G cy (AS S s.heap.size) s.heap T_94 H locs) → (i4_93.toInt = i4_93_z) → (0 ≤ i4_93_z ∧ i4_93_z ≤ 4) → (At T_94 x 12) → (Ok MPr S T_94) → ((pI T_94 1228 x).toInt = 0) → (((prF (rB S x) (pI S 1228 x).toInt.toNat 13 0 (tokF (rB S x) (pI S 1228 x).toInt.toNat 0)).1 = 0 ∧ zA T_94 x 1220 a1_z.toNat = ((prF (rB S x) (pI S 1228 x).toInt.toNat 13 0 (tokF (rB S x) (pI S 1228 x).toInt.toNat 0)).2 : Int))) → (lv_has ls 5 [(4, .int (i4_93)), (3, .int (i3_22)), (0, .ref x), (1, .int (a1))]) → W p l e ({ frames := 8, cells := 0, slots := 0, locals := 384 }) s m [.ref x, .int (a1)].toArray below meth c H locs 0 0 QQ (F0 m 165 ls []) := by
          intro n
          induction n using Nat.strongRecOn with
          | ind n ih_L_92 =>
          intro T_94 H locs ls i4_93 i4_93_z hn hw hz_i4_93 hr_i4_93 ha_x_L_95 hO_T_94 iv_96 iv_97 hl
          have rg_98 : (-2147483648) ≤ i4_93_z ∧ i4_93_z ≤ 2147483647 := by rw [← hz_i4_93]; exact ⟨z_lo _, z_hi _⟩
          obtain ⟨v_99, ev_99⟩ : ∃ v, pI T_94 1228 x = v := ⟨_, rfl⟩
          have rg_100 := gI_12_1228 hO_T_94.1 ha_x_L_95; rw [ev_99] at rg_100
          have pz_101 : (pI T_94 1228 x).toInt = v_99.toInt := by rw [ev_99]
          have pz_102 : (pI T_94 1228 x).toInt = v_99.toInt := (congrArg Int32.toInt ev_99).trans rfl
          refine lv_iload X.1 X.2.1 dX12_program_165 (lv_at hl 0 rfl) ?_
          refine lv_iconst (v := 4) X.1 X.2.1 dX12_program_167 (by decide) ?_
          refine lv_icmp_ge (tgt := 267) X.1 X.2.1 dX12_program_168 (by decide) (fun c_103 => ?_) (fun c_103 => ?_)
          · have z_b_104 := trivial
            have k_105 : i4_93_z ≥ 4 := z_le ti_4 hz_i4_93 c_103
            obtain ⟨x_106, ex_106⟩ : ∃ y : Int32, y = i3_22 + 1 := ⟨_, rfl⟩
            have z_107 : x_106.toInt = i3_22_z + 1 := z_add ex_106 hz_i3_22 ti_1 (by omega) (by omega)
            refine lv_iinc (v := x_106) (lv' := [(3, .int (x_106)), (4, .int (i4_93)), (0, .ref x), (1, .int (a1))]) X.1 X.2.1 dX12_program_267 hl (k := 1) rfl (by rw [ex_106]; rfl) (by decide) rfl (fun ls hl => ?_)
            refine lv_goto (tgt := 96) X.1 X.2.1 dX12_program_270 (by decide) ?_
            have pz_108 : (pI T_94 1228 x).toInt = v_99.toInt := (congrArg Int32.toInt ev_99).trans rfl
            have pz_109 : (pI T_94 1228 x).toInt = v_99.toInt := (congrArg Int32.toInt ev_99).trans rfl
            exact ih_L_21 _ (by omega) _ _ _ _ (x_106) (x_106.toInt) rfl hw rfl (by omega) ha_x_L_95 hO_T_94 (by omega) iv_97 (lv_sub hl [0, 2, 3] rfl)
          · have z_b_110 := trivial
            have k_111 : i4_93_z < 4 := z_nle ti_4 hz_i4_93 c_103
            refine lv_aload_n X.1 X.2.1 dX12_program_171 rfl (lv_at hl 2 rfl) ?_
            obtain ⟨q_112, h_113, h_114, h_115⟩ := gQ_12_1224 hO_T_94.1 ha_x_L_95
            refine r_getR (g := 1224) X hw ha_x_L_95 rfl 24 h_113 (by decide) rfl inn_X12_program_12 (by decide) (X.2.2.2.1 (.fieldLink RX12 73 "SilkMillModel" "field" "[I") (by decide +kernel)) rfl (gv_1224 _ _) dX12_program_172 ?_
            refine lv_iconst (v := 4) X.1 X.2.1 dX12_program_175 (by decide) ?_
            refine lv_bipush (v := 12) X.1 X.2.1 dX12_program_176 (by decide) ?_
            refine lv_iload_n X.1 X.2.1 dX12_program_178 rfl (lv_at hl 3 rfl) ?_
            refine lv_imul X.1 X.2.1 dX12_program_179 ?_
            refine lv_topi (fun v_116 ev_116 => ?_)
            have z_117 : v_116.toInt = 12 * a1_z := z_mul ev_116 ti_12 hz_a1 (by omega) (by omega)
            refine lv_iload_n X.1 X.2.1 dX12_program_180 rfl (lv_at hl 1 rfl) ?_
            refine lv_iadd X.1 X.2.1 dX12_program_181 ?_
            refine lv_topi (fun v_118 ev_118 => ?_)
            have z_119 : v_118.toInt = (12 * a1_z) + i3_22_z := z_add ev_118 z_117 hz_i3_22 (by omega) (by omega)
            refine lv_imul X.1 X.2.1 dX12_program_182 ?_
            refine lv_topi (fun v_120 ev_120 => ?_)
            have z_121 : v_120.toInt = 4 * ((12 * a1_z) + i3_22_z) := z_mul ev_120 ti_4 z_119 (by omega) (by omega)
            refine lv_iload X.1 X.2.1 dX12_program_183 (lv_at hl 0 rfl) ?_
            refine lv_iadd X.1 X.2.1 dX12_program_185 ?_
            refine lv_topi (fun v_122 ev_122 => ?_)
            have z_123 : v_122.toInt = (4 * ((12 * a1_z) + i3_22_z)) + i4_93_z := z_add ev_122 z_121 hz_i4_93 (by omega) (by omega)
            refine lv_aload_n X.1 X.2.1 dX12_program_186 rfl (lv_at hl 2 rfl) ?_
            refine r_getR (g := 1224) X hw ha_x_L_95 rfl 24 h_113 (by decide) rfl inn_X12_program_12 (by decide) (X.2.2.2.1 (.fieldLink RX12 73 "SilkMillModel" "field" "[I") (by decide +kernel)) rfl (gv_1224 _ _) dX12_program_187 ?_
            refine lv_iconst (v := 4) X.1 X.2.1 dX12_program_190 (by decide) ?_
            refine lv_bipush (v := 48) X.1 X.2.1 dX12_program_191 (by decide) ?_
            refine lv_iload_n X.1 X.2.1 dX12_program_193 rfl (lv_at hl 1 rfl) ?_
            refine lv_iadd X.1 X.2.1 dX12_program_194 ?_
            refine lv_topi (fun v_124 ev_124 => ?_)
            have z_125 : v_124.toInt = 48 + i3_22_z := z_add ev_124 ti_48 hz_i3_22 (by omega) (by omega)
            refine lv_imul X.1 X.2.1 dX12_program_195 ?_
            refine lv_topi (fun v_126 ev_126 => ?_)
            have z_127 : v_126.toInt = 4 * (48 + i3_22_z) := z_mul ev_126 ti_4 z_125 (by omega) (by omega)
            refine lv_iload X.1 X.2.1 dX12_program_196 (lv_at hl 0 rfl) ?_
            refine lv_iadd X.1 X.2.1 dX12_program_198 ?_
            refine lv_topi (fun v_128 ev_128 => ?_)
            have z_129 : v_128.toInt = (4 * (48 + i3_22_z)) + i4_93_z := z_add ev_128 z_127 hz_i4_93 (by omega) (by omega)
            refine r_iald X hw h_114 rfl (by rw [h_115]; exact z_ix z_129 (by omega) (by omega)) dX12_program_199 ?_
            refine lv_topi (fun v_130 ev_130 => ?_)
            have rg_131 := And.intro (z_lo v_130) (z_hi v_130)
            have ev_130 := ev_130.symm
            refine r_iast X hw h_114 rfl (by rw [h_115]; exact z_ix z_123 (by omega) (by omega)) dX12_program_200 (fun H locs hw => ?_)
            obtain ⟨S_132, eS_132⟩ : ∃ T, T = sA T_94 q_112 (upd (pA T_94 q_112) (Int32.toNatClampNeg (v_122)) (v_130)) := ⟨_, rfl⟩
            rw [← eS_132] at hw
            have hO_133 : Ok MPr S S_132 := hO_T_94.sA eS_132 h_114 (by decide +kernel) (uA_694 hO_T_94.1 h_114)
            have h_134 : pA S_132 q_112 (Int32.toNatClampNeg (v_122)) = v_130 := tA_sAs eS_132
            clear z_117
            clear z_119
            clear z_121
            clear z_123
            clear z_125
            clear z_127
            clear z_129
            refine lv_aload_n X.1 X.2.1 dX12_program_201 rfl (lv_at hl 2 rfl) ?_
            have t_135 : At S_132 x 12 := tAt_sA eS_132 ha_x_L_95
            obtain ⟨q_136, h_137, h_138, h_139⟩ := gQ_12_1225 hO_133.1 t_135
            refine r_getR (g := 1225) X hw t_135 rfl 25 h_137 (by decide) rfl inn_X12_program_12 (by decide) (X.2.2.2.1 (.fieldLink RX12 76 "SilkMillModel" "rel" "[I") (by decide +kernel)) rfl (gv_1225 _ _) dX12_program_202 ?_
            refine lv_iconst (v := 4) X.1 X.2.1 dX12_program_205 (by decide) ?_
            refine lv_bipush (v := 12) X.1 X.2.1 dX12_program_206 (by decide) ?_
            refine lv_iload_n X.1 X.2.1 dX12_program_208 rfl (lv_at hl 3 rfl) ?_
            refine lv_imul X.1 X.2.1 dX12_program_209 ?_
            refine lv_topi (fun v_140 ev_140 => ?_)
            have z_141 : v_140.toInt = 12 * a1_z := z_mul ev_140 ti_12 hz_a1 (by omega) (by omega)
            refine lv_iload_n X.1 X.2.1 dX12_program_210 rfl (lv_at hl 1 rfl) ?_
            refine lv_iadd X.1 X.2.1 dX12_program_211 ?_
            refine lv_topi (fun v_142 ev_142 => ?_)
            have z_143 : v_142.toInt = (12 * a1_z) + i3_22_z := z_add ev_142 z_141 hz_i3_22 (by omega) (by omega)
            refine lv_imul X.1 X.2.1 dX12_program_212 ?_
            refine lv_topi (fun v_144 ev_144 => ?_)
            have z_145 : v_144.toInt = 4 * ((12 * a1_z) + i3_22_z) := z_mul ev_144 ti_4 z_143 (by omega) (by omega)
            refine lv_iload X.1 X.2.1 dX12_program_213 (lv_at hl 0 rfl) ?_
            refine lv_iadd X.1 X.2.1 dX12_program_215 ?_
            refine lv_topi (fun v_146 ev_146 => ?_)
            have z_147 : v_146.toInt = (4 * ((12 * a1_z) + i3_22_z)) + i4_93_z := z_add ev_146 z_145 hz_i4_93 (by omega) (by omega)
            refine lv_aload_n X.1 X.2.1 dX12_program_216 rfl (lv_at hl 2 rfl) ?_
            refine r_getR (g := 1225) X hw t_135 rfl 25 h_137 (by decide) rfl inn_X12_program_12 (by decide) (X.2.2.2.1 (.fieldLink RX12 76 "SilkMillModel" "rel" "[I") (by decide +kernel)) rfl (gv_1225 _ _) dX12_program_217 ?_
            refine lv_iconst (v := 4) X.1 X.2.1 dX12_program_220 (by decide) ?_
            refine lv_bipush (v := 48) X.1 X.2.1 dX12_program_221 (by decide) ?_
            refine lv_iload_n X.1 X.2.1 dX12_program_223 rfl (lv_at hl 1 rfl) ?_
            refine lv_iadd X.1 X.2.1 dX12_program_224 ?_
            refine lv_topi (fun v_148 ev_148 => ?_)
            have z_149 : v_148.toInt = 48 + i3_22_z := z_add ev_148 ti_48 hz_i3_22 (by omega) (by omega)
            refine lv_imul X.1 X.2.1 dX12_program_225 ?_
            refine lv_topi (fun v_150 ev_150 => ?_)
            have z_151 : v_150.toInt = 4 * (48 + i3_22_z) := z_mul ev_150 ti_4 z_149 (by omega) (by omega)
            refine lv_iload X.1 X.2.1 dX12_program_226 (lv_at hl 0 rfl) ?_
            refine lv_iadd X.1 X.2.1 dX12_program_228 ?_
            refine lv_topi (fun v_152 ev_152 => ?_)
            have z_153 : v_152.toInt = (4 * (48 + i3_22_z)) + i4_93_z := z_add ev_152 z_151 hz_i4_93 (by omega) (by omega)
            refine r_iald X hw h_138 rfl (by rw [h_139]; exact z_ix z_153 (by omega) (by omega)) dX12_program_229 ?_
            refine lv_topi (fun v_154 ev_154 => ?_)
            have rg_155 := And.intro (z_lo v_154) (z_hi v_154)
            have ev_154 := ev_154.symm
            refine r_iast X hw h_138 rfl (by rw [h_139]; exact z_ix z_147 (by omega) (by omega)) dX12_program_230 (fun H locs hw => ?_)
            obtain ⟨S_156, eS_156⟩ : ∃ T, T = sA S_132 q_136 (upd (pA S_132 q_136) (Int32.toNatClampNeg (v_146)) (v_154)) := ⟨_, rfl⟩
            rw [← eS_156] at hw
            have hO_157 : Ok MPr S S_156 := hO_133.sA eS_156 h_138 (by decide +kernel) (uA_714 hO_133.1 h_138)
            have h_158 : pA S_156 q_136 (Int32.toNatClampNeg (v_146)) = v_154 := tA_sAs eS_156
            clear z_141
            clear z_143
            clear z_145
            clear z_147
            clear z_149
            clear z_151
            clear z_153
            refine lv_aload_n X.1 X.2.1 dX12_program_231 rfl (lv_at hl 2 rfl) ?_
            have t_159 : At S_156 x 12 := tAt_sA eS_156 t_135
            obtain ⟨q_160, h_161, h_162, h_163⟩ := gQ_12_1226 hO_157.1 t_159
            refine r_getR (g := 1226) X hw t_159 rfl 26 h_161 (by decide) rfl inn_X12_program_12 (by decide) (X.2.2.2.1 (.fieldLink RX12 79 "SilkMillModel" "than" "[I") (by decide +kernel)) rfl (gv_1226 _ _) dX12_program_232 ?_
            refine lv_iconst (v := 4) X.1 X.2.1 dX12_program_235 (by decide) ?_
            refine lv_bipush (v := 12) X.1 X.2.1 dX12_program_236 (by decide) ?_
            refine lv_iload_n X.1 X.2.1 dX12_program_238 rfl (lv_at hl 3 rfl) ?_
            refine lv_imul X.1 X.2.1 dX12_program_239 ?_
            refine lv_topi (fun v_164 ev_164 => ?_)
            have z_165 : v_164.toInt = 12 * a1_z := z_mul ev_164 ti_12 hz_a1 (by omega) (by omega)
            refine lv_iload_n X.1 X.2.1 dX12_program_240 rfl (lv_at hl 1 rfl) ?_
            refine lv_iadd X.1 X.2.1 dX12_program_241 ?_
            refine lv_topi (fun v_166 ev_166 => ?_)
            have z_167 : v_166.toInt = (12 * a1_z) + i3_22_z := z_add ev_166 z_165 hz_i3_22 (by omega) (by omega)
            refine lv_imul X.1 X.2.1 dX12_program_242 ?_
            refine lv_topi (fun v_168 ev_168 => ?_)
            have z_169 : v_168.toInt = 4 * ((12 * a1_z) + i3_22_z) := z_mul ev_168 ti_4 z_167 (by omega) (by omega)
            refine lv_iload X.1 X.2.1 dX12_program_243 (lv_at hl 0 rfl) ?_
            refine lv_iadd X.1 X.2.1 dX12_program_245 ?_
            refine lv_topi (fun v_170 ev_170 => ?_)
            have z_171 : v_170.toInt = (4 * ((12 * a1_z) + i3_22_z)) + i4_93_z := z_add ev_170 z_169 hz_i4_93 (by omega) (by omega)
            refine lv_aload_n X.1 X.2.1 dX12_program_246 rfl (lv_at hl 2 rfl) ?_
            refine r_getR (g := 1226) X hw t_159 rfl 26 h_161 (by decide) rfl inn_X12_program_12 (by decide) (X.2.2.2.1 (.fieldLink RX12 79 "SilkMillModel" "than" "[I") (by decide +kernel)) rfl (gv_1226 _ _) dX12_program_247 ?_
            refine lv_iconst (v := 4) X.1 X.2.1 dX12_program_250 (by decide) ?_
            refine lv_bipush (v := 48) X.1 X.2.1 dX12_program_251 (by decide) ?_
            refine lv_iload_n X.1 X.2.1 dX12_program_253 rfl (lv_at hl 1 rfl) ?_
            refine lv_iadd X.1 X.2.1 dX12_program_254 ?_
            refine lv_topi (fun v_172 ev_172 => ?_)
            have z_173 : v_172.toInt = 48 + i3_22_z := z_add ev_172 ti_48 hz_i3_22 (by omega) (by omega)
            refine lv_imul X.1 X.2.1 dX12_program_255 ?_
            refine lv_topi (fun v_174 ev_174 => ?_)
            have z_175 : v_174.toInt = 4 * (48 + i3_22_z) := z_mul ev_174 ti_4 z_173 (by omega) (by omega)
            refine lv_iload X.1 X.2.1 dX12_program_256 (lv_at hl 0 rfl) ?_
            refine lv_iadd X.1 X.2.1 dX12_program_258 ?_
            refine lv_topi (fun v_176 ev_176 => ?_)
            have z_177 : v_176.toInt = (4 * (48 + i3_22_z)) + i4_93_z := z_add ev_176 z_175 hz_i4_93 (by omega) (by omega)
            refine r_iald X hw h_162 rfl (by rw [h_163]; exact z_ix z_177 (by omega) (by omega)) dX12_program_259 ?_
            refine lv_topi (fun v_178 ev_178 => ?_)
            have rg_179 := And.intro (z_lo v_178) (z_hi v_178)
            have ev_178 := ev_178.symm
            refine r_iast X hw h_162 rfl (by rw [h_163]; exact z_ix z_171 (by omega) (by omega)) dX12_program_260 (fun H locs hw => ?_)
            obtain ⟨S_180, eS_180⟩ : ∃ T, T = sA S_156 q_160 (upd (pA S_156 q_160) (Int32.toNatClampNeg (v_170)) (v_178)) := ⟨_, rfl⟩
            rw [← eS_180] at hw
            have hO_181 : Ok MPr S S_180 := hO_157.sA eS_180 h_162 (by decide +kernel) (uA_734 hO_157.1 h_162)
            have h_182 : pA S_180 q_160 (Int32.toNatClampNeg (v_170)) = v_178 := tA_sAs eS_180
            clear z_165
            clear z_167
            clear z_169
            clear z_171
            clear z_173
            clear z_175
            clear z_177
            obtain ⟨x_183, ex_183⟩ : ∃ y : Int32, y = i4_93 + 1 := ⟨_, rfl⟩
            have z_184 : x_183.toInt = i4_93_z + 1 := z_add ex_183 hz_i4_93 ti_1 (by omega) (by omega)
            refine lv_iinc (v := x_183) (lv' := [(4, .int (x_183)), (3, .int (i3_22)), (0, .ref x), (1, .int (a1))]) X.1 X.2.1 dX12_program_261 hl (k := 0) rfl (by rw [ex_183]; rfl) (by decide) rfl (fun ls hl => ?_)
            refine lv_goto (tgt := 165) X.1 X.2.1 dX12_program_264 (by decide) ?_
            have t_185 : pI S_132 1228 x = v_99 := tI_sA eS_132 ev_99
            have t_186 : pI S_156 1228 x = v_99 := tI_sA eS_156 t_185
            have t_187 : pI S_180 1228 x = v_99 := tI_sA eS_180 t_186
            have pz_188 : (pI S_180 1228 x).toInt = v_99.toInt := (congrArg Int32.toInt t_187).trans rfl
            have t_189 : At S_180 x 12 := tAt_sA eS_180 t_159
            have pz_190 : (pI S_180 1228 x).toInt = v_99.toInt := (congrArg Int32.toInt t_187).trans rfl
            have zc_191 : zA S_132 x 1220 = zA T_94 x 1220 := zA_sAn eS_132 (ex3 (gQ_12_1220 hO_T_94.1 ha_x_L_95)) h_114 rfl
            have zc_192 : zA S_156 x 1220 = zA T_94 x 1220 := (zA_sAn eS_156 (ex3 (gQ_12_1220 hO_133.1 t_135)) h_138 rfl).trans zc_191
            have zc_193 : zA S_180 x 1220 = zA T_94 x 1220 := (zA_sAn eS_180 (ex3 (gQ_12_1220 hO_157.1 t_159)) h_162 rfl).trans zc_192
            exact ih_L_92 _ (by omega) _ _ _ _ (x_183) (x_183.toInt) rfl hw rfl (by omega) t_189 hO_181 (by omega) (by rw [zc_193]; exact iv_97) (lv_sub hl [0, 1, 2, 3] rfl)
        have t_194 : pI S_57 1228 x = v_28 := tI_sA eS_57 ev_28
        have t_195 : pI S_73 1228 x = v_28 := tI_sA eS_73 t_194
        have t_196 : pI S_89 1228 x = v_28 := tI_sA eS_89 t_195
        have pz_197 : (pI S_89 1228 x).toInt = v_28.toInt := (congrArg Int32.toInt t_196).trans rfl
        have t_198 : At S_89 x 12 := tAt_sA eS_89 t_76
        have pz_199 : (pI S_89 1228 x).toInt = v_28.toInt := (congrArg Int32.toInt t_196).trans rfl
        have zc_200 : zA S_57 x 1220 = zA T_23 x 1220 := zA_sAn eS_57 (ex3 (gQ_12_1220 hO_T_23.1 ha_x_L_24)) h_47 rfl
        have zc_201 : zA S_73 x 1220 = zA T_23 x 1220 := (zA_sAn eS_73 (ex3 (gQ_12_1220 hO_58.1 t_60)) h_63 rfl).trans zc_200
        have zc_202 : zA S_89 x 1220 = zA T_23 x 1220 := (zA_sAn eS_89 (ex3 (gQ_12_1220 hO_74.1 t_76)) h_79 rfl).trans zc_201
        exact L_92 _ _ _ _ _ (0) (0) rfl hw ti_0 (by omega) t_198 hO_90 (by omega) (by rw [zc_202]; exact iv_26) (lv_sub hl [0, 1, 2, 3] rfl)
    refine lv_aload_n X.1 X.2.1 dX12_program_15 rfl (lv_at hl 0 rfl) ?_
    refine lv_iconst (v := 0) X.1 X.2.1 dX12_program_16 (by decide) ?_
    refine r_putI (v := 0) X hw t_14 rfl 30 1230 tyX12 (by decide) rfl inn_X12_program_12 tyX12_ok nmX12 (by decide) (X.2.2.2.1 (.fieldLink RX12 229 "SilkMillModel" "faultKind" "I") (by decide +kernel)) rfl (Or.inl rfl) rfl rfl (Nat.le_of_ble_eq_true rfl) (st_1230 _ _) dX12_program_17 (fun H locs hw => ?_)
    obtain ⟨S_203, eS_203⟩ : ∃ T, T = sI S_9 1230 x (0) := ⟨_, rfl⟩
    rw [← eS_203] at hw
    have hO_204 : Ok MPr S S_203 := hO_10.sI eS_203 (by decide +kernel) (uI_12_1230 hO_10.1 t_14)
    have h_205 : pI S_203 1230 x = 0 := tI_sIs eS_203
    refine lv_aload_n X.1 X.2.1 dX12_program_20 rfl (lv_at hl 0 rfl) ?_
    refine lv_iconst (v := (-1)) X.1 X.2.1 dX12_program_21 (by decide) ?_
    have t_206 : At S_203 x 12 := tAt_sI eS_203 t_14
    refine r_putI (v := (-1)) X hw t_206 rfl 29 1229 tyX12 (by decide) rfl inn_X12_program_12 tyX12_ok nmX12 (by decide) (X.2.2.2.1 (.fieldLink RX12 86 "SilkMillModel" "faultPlace" "I") (by decide +kernel)) rfl (Or.inl rfl) rfl rfl (Nat.le_of_ble_eq_true rfl) (st_1229 _ _) dX12_program_22 (fun H locs hw => ?_)
    obtain ⟨S_207, eS_207⟩ : ∃ T, T = sI S_203 1229 x ((-1)) := ⟨_, rfl⟩
    rw [← eS_207] at hw
    have hO_208 : Ok MPr S S_207 := hO_204.sI eS_207 (by decide +kernel) (uI_12_1229 hO_204.1 t_206)
    have h_209 : pI S_207 1229 x = (-1) := tI_sIs eS_207
    refine lv_aload_n X.1 X.2.1 dX12_program_25 rfl (lv_at hl 0 rfl) ?_
    have t_210 : At S_207 x 12 := tAt_sI eS_207 t_206
    obtain ⟨q_211, h_212, h_213, h_214⟩ := gQ_12_1220 hO_208.1 t_210
    refine r_getR (g := 1220) X hw t_210 rfl 20 h_212 (by decide) rfl inn_X12_program_12 (by decide) (X.2.2.2.1 (.fieldLink RX12 61 "SilkMillModel" "rules" "[I") (by decide +kernel)) rfl (gv_1220 _ _) dX12_program_26 ?_
    refine lv_iconst (v := 4) X.1 X.2.1 dX12_program_29 (by decide) ?_
    refine lv_iconst (v := 0) X.1 X.2.1 dX12_program_30 (by decide) ?_
    refine r_iast X hw h_213 rfl (by rw [h_214]; exact z_ix ti_4 (by omega) (by omega)) dX12_program_31 (fun H locs hw => ?_)
    obtain ⟨S_215, eS_215⟩ : ∃ T, T = sA S_207 q_211 (upd (pA S_207 q_211) (Int32.toNatClampNeg (4)) (0)) := ⟨_, rfl⟩
    rw [← eS_215] at hw
    have hO_216 : Ok MPr S S_215 := hO_208.sA eS_215 h_213 (by decide +kernel) (uA_614 hO_208.1 h_213 (by rw [ti_0]; omega) (by rw [ti_0]; omega))
    have h_217 : pA S_215 q_211 (Int32.toNatClampNeg (4)) = 0 := tA_sAs eS_215
    have t_218 : pR S_215 1220 x = some q_211 := tR_sA eS_215 h_212
    have t_220 : pR S_207 1220 x = some q_211 := by have h := t_218; rw [eS_215, pR_sA] at h; exact h
    have zs_219 : ∀ j, zA S_215 x 1220 j = if j = (4 : Int).toNat then 0 else zA S_207 x 1220 j := by have h := zA_sAs eS_215 t_220 ti_0; rw [z_nc ti_4 (by omega)] at h; exact h
    have zs_221 : zA S_215 x 1220 4 = 0 := by have h := zs_219 4; rw [if_pos (by decide)] at h; exact h
    refine lv_aload_n X.1 X.2.1 dX12_program_32 rfl (lv_at hl 0 rfl) ?_
    refine lv_iconst (v := 0) X.1 X.2.1 dX12_program_33 (by decide) ?_
    have t_222 : At S_215 x 12 := tAt_sA eS_215 t_210
    refine r_putI (v := 0) X hw t_222 rfl 33 1233 tyX12 (by decide) rfl inn_X12_program_12 tyX12_ok nmX12 (by decide) (X.2.2.2.1 (.fieldLink RX12 214 "SilkMillModel" "to" "I") (by decide +kernel)) rfl (Or.inl rfl) rfl rfl (Nat.le_of_ble_eq_true rfl) (st_1233 _ _) dX12_program_34 (fun H locs hw => ?_)
    obtain ⟨S_223, eS_223⟩ : ∃ T, T = sI S_215 1233 x (0) := ⟨_, rfl⟩
    rw [← eS_223] at hw
    have hO_224 : Ok MPr S S_223 := hO_216.sI eS_223 (by decide +kernel) (uI_12_1233 hO_216.1 t_222 (by rw [ti_0]; omega) (by rw [ti_0]; omega))
    have h_225 : pI S_223 1233 x = 0 := tI_sIs eS_223
    refine lv_aload_n X.1 X.2.1 dX12_program_37 rfl (lv_at hl 0 rfl) ?_
    have t_226 : At S_223 x 12 := tAt_sI eS_223 t_222
    have t_227 : pI S_9 1228 x = v_1 := tI_sI eS_9 rfl ev_1
    have t_228 : pI S_203 1228 x = v_1 := tI_sI eS_203 rfl t_227
    have t_229 : pI S_207 1228 x = v_1 := tI_sI eS_207 rfl t_228
    have t_230 : pI S_215 1228 x = v_1 := tI_sA eS_215 t_229
    have t_231 : pI S_223 1228 x = v_1 := tI_sI eS_223 rfl t_230
    have pz_232 : (pI S_223 1233 x).toInt = 0 := (congrArg Int32.toInt h_225).trans ti_0
    refine k_v (rm := { frames := 2, cells := 0, slots := 0, locals := 96 }) (av := [.ref x]) X hw (va_runV (As := []) (rest := []) (cfix X) (k_X12_token2 l G cy κ S_223 _ x hO_224.1 t_226) (cwV 0 X.2.2.2.1 gX12_program_X12_token rfl rfl rfl (by decide +kernel) ⟨Nat.le_of_ble_eq_true rfl, Nat.le_of_ble_eq_true rfl⟩) (pre_V X hw _ t_226 rfl (by decide) rfl) rfl rfl hl.1 rfl (lv_room (Nat.le_of_ble_eq_true rfl)) dX12_program_38 ⟨Nat.le_of_ble_eq_true rfl, Nat.le_of_ble_eq_true rfl⟩) 0 0 (Nat.le_of_ble_eq_true rfl) (Nat.le_of_ble_eq_true rfl) (fun S_234 H locs hp hw hfr hnw => ?_)
    obtain ⟨hk_235, hp⟩ := hp
    have hO_236 : Ok MPr S S_234 := hO_224.call hk_235 (by decide +kernel)
    have rg_237 : RGB (rB S x) (pI S 1228 x).toInt.toNat S_234 x (tokF (rB S x) (pI S 1228 x).toInt.toNat 0) := RGB_0 (rB_fr2 hG ha_x hO_224.fr (by decide +kernel) (t_231.trans ev_1.symm)) (by rw [(t_231.trans ev_1.symm)]) (by omega) hp
    have ok_238 := hdI (RGB_ok hG ha_x rg_237)
    have ok_239 : ((tokF (rB S x) (pI S 1228 x).toInt.toNat 0)).2.1 ≤ ((tokF (rB S x) (pI S 1228 x).toInt.toNat 0)).2.2 ∧ ((tokF (rB S x) (pI S 1228 x).toInt.toNat 0)).2.2 ≤ 400 := ⟨(hdE ok_238).1, (hdE ok_238).2.1⟩
    refine lv_iconst (v := 1) X.1 X.2.1 dX12_program_41 (by decide) ?_
    refine lv_istore_n (lv' := [(2, .int 1), (0, .ref x), (1, .int (a1))]) X.1 X.2.1 dX12_program_42 rfl hl (by decide) rfl (fun ls hl => ?_)
    have t_247 : pI S_234 1228 x = v_1 := hk_235.fr.I' (by decide +kernel) t_226 t_231
    have L_240 : ∀ (n : Nat) (T_242 : PS) (H : Heap) (locs : List Loc) (ls : Array Slot) (i2_241 : Int32) (i2_241_z : Int), ((26 * i2_241_z + (13 - zA T_242 x 1220 4)).toNat = n) → (Wd G cy (AS S s.heap.size) s.heap T_242 H locs) → (i2_241.toInt = i2_241_z) → (0 ≤ i2_241_z ∧ i2_241_z ≤ 1) → (At T_242 x 12) → (Ok MPr S T_242) → ((zA T_242 x 1220 4 ≤ 12 ∧ 0 ≤ zA T_242 x 1220 4)) → (Hd (i2_241_z = 1 → ∃ t, RGB (rB S x) (pI S 1228 x).toInt.toNat T_242 x t ∧ (pI T_242 1230 x).toInt = 0 ∧ prF (rB S x) (pI S 1228 x).toInt.toNat (13 - zA T_242 x 1220 4).toNat (zA T_242 x 1220 4).toNat t = prF (rB S x) (pI S 1228 x).toInt.toNat 13 0 (tokF (rB S x) (pI S 1228 x).toInt.toNat 0))) → ((i2_241_z = 0 → (prF (rB S x) (pI S 1228 x).toInt.toNat 13 0 (tokF (rB S x) (pI S 1228 x).toInt.toNat 0)).1 ≠ 0 ∧ (pI T_242 1230 x).toInt = (prF (rB S x) (pI S 1228 x).toInt.toNat 13 0 (tokF (rB S x) (pI S 1228 x).toInt.toNat 0)).1)) → (pI T_242 1228 x = v_1) → (lv_has ls 5 [(2, .int (i2_241)), (0, .ref x), (1, .int (a1))]) → W p l e ({ frames := 8, cells := 0, slots := 0, locals := 384 }) s m [.ref x, .int (a1)].toArray below meth c H locs 0 0 QQ (F0 m 43 ls []) := by
      intro n
      induction n using Nat.strongRecOn with
      | ind n ih_L_240 =>
      intro T_242 H locs ls i2_241 i2_241_z hn hw hz_i2_241 hr_i2_241 ha_x_L_243 hO_T_242 iv_244 iv_245 iv_246 ik_248 hl
      have rg_249 : (-2147483648) ≤ i2_241_z ∧ i2_241_z ≤ 2147483647 := by rw [← hz_i2_241]; exact ⟨z_lo _, z_hi _⟩
      obtain ⟨v_250, ev_250⟩ : ∃ v, pI T_242 1230 x = v := ⟨_, rfl⟩
      have rg_252 := And.intro (z_lo v_250) (z_hi v_250)
      have pz_253 : (pI T_242 1230 x).toInt = v_250.toInt := by rw [ev_250]
      have pz_254 : (pI T_242 1230 x).toInt = v_250.toInt := (congrArg Int32.toInt ev_250).trans rfl
      have pz_255 : (pI T_242 1228 x).toInt = v_1.toInt := (congrArg Int32.toInt ik_248).trans rfl
      have pz_256 : (pI T_242 1230 x).toInt = v_250.toInt := (congrArg Int32.toInt ev_250).trans rfl
      have zq_257 := z1220 hO_T_242.1 ha_x_L_243 4
      refine lv_iload_n X.1 X.2.1 dX12_program_43 rfl (lv_at hl 0 rfl) ?_
      refine lv_if_eq (tgt := 62) X.1 X.2.1 dX12_program_44 (by decide) (fun c_258 => ?_) (fun c_258 => ?_)
      · have z_b_259 := trivial
        have k_260 : i2_241_z = 0 := z_eq hz_i2_241 ti_0 c_258
        have po_261 := prF_ok (B := rB S x) (n := (pI S 1228 x).toInt.toNat) 13 0 (tokF (rB S x) (pI S 1228 x).toInt.toNat 0)
        unfold okR at po_261
        have pz_262 : (pI T_242 1230 x).toInt = v_250.toInt := (congrArg Int32.toInt ev_250).trans rfl
        have pf_263 := iv_246 (by omega)
        refine lv_aload_n X.1 X.2.1 dX12_program_62 rfl (lv_at hl 1 rfl) ?_
        refine lv_iconst (v := 0) X.1 X.2.1 dX12_program_63 (by decide) ?_
        refine r_putI (v := 0) X hw ha_x_L_243 rfl 28 1228 tyX12 (by decide) rfl inn_X12_program_12 tyX12_ok nmX12 (by decide) (X.2.2.2.1 (.fieldLink RX12 211 "SilkMillModel" "taped" "I") (by decide +kernel)) rfl (Or.inl rfl) rfl rfl (Nat.le_of_ble_eq_true rfl) (st_1228 _ _) dX12_program_64 (fun H locs hw => ?_)
        obtain ⟨S_264, eS_264⟩ : ∃ T, T = sI T_242 1228 x (0) := ⟨_, rfl⟩
        rw [← eS_264] at hw
        have hO_265 : Ok MPr S S_264 := hO_T_242.sI eS_264 (by decide +kernel) (uI_12_1228 hO_T_242.1 ha_x_L_243 (by rw [ti_0]; omega) (by rw [ti_0]; omega))
        have h_266 : pI S_264 1228 x = 0 := tI_sIs eS_264
        refine lv_aload_n X.1 X.2.1 dX12_program_67 rfl (lv_at hl 1 rfl) ?_
        have t_267 : At S_264 x 12 := tAt_sI eS_264 ha_x_L_243
        have t_268 : pI S_264 1230 x = v_250 := tI_sI eS_264 rfl ev_250
        refine r_getI (g := 1230) (x := v_250) X hw t_267 rfl 30 t_268 (by decide) rfl inn_X12_program_12 (by decide) (X.2.2.2.1 (.fieldLink RX12 229 "SilkMillModel" "faultKind" "I") (by decide +kernel)) rfl (gv_1230 _ _) dX12_program_68 ?_
        refine lv_if_le (tgt := 82) X.1 X.2.1 dX12_program_71 (by decide) (fun c_269 => ?_) (fun c_269 => ?_)
        · have z_b_270 := trivial
          have k_271 : v_250.toInt ≤ 0 := z_le rfl ti_0 c_269
          refine lv_aload_n X.1 X.2.1 dX12_program_82 rfl (lv_at hl 1 rfl) ?_
          obtain ⟨q_272, h_273, h_274, h_275⟩ := gQ_12_1220 hO_265.1 t_267
          refine r_getR (g := 1220) X hw t_267 rfl 20 h_273 (by decide) rfl inn_X12_program_12 (by decide) (X.2.2.2.1 (.fieldLink RX12 61 "SilkMillModel" "rules" "[I") (by decide +kernel)) rfl (gv_1220 _ _) dX12_program_83 ?_
          refine lv_iload_n X.1 X.2.1 dX12_program_86 rfl (lv_at hl 2 rfl) ?_
          refine lv_aload_n X.1 X.2.1 dX12_program_87 rfl (lv_at hl 1 rfl) ?_
          refine r_getR (g := 1220) X hw t_267 rfl 20 h_273 (by decide) rfl inn_X12_program_12 (by decide) (X.2.2.2.1 (.fieldLink RX12 61 "SilkMillModel" "rules" "[I") (by decide +kernel)) rfl (gv_1220 _ _) dX12_program_88 ?_
          refine lv_iconst (v := 4) X.1 X.2.1 dX12_program_91 (by decide) ?_
          refine r_iald X hw h_274 rfl (by rw [h_275]; exact z_ix ti_4 (by omega) (by omega)) dX12_program_92 ?_
          refine lv_topi (fun v_276 ev_276 => ?_)
          have z_277 := gE_614 hO_265.1 h_274 (Int32.toNatClampNeg (4)); rw [← ev_276] at z_277
          have ev_276 := ev_276.symm
          have zf_278 : zA S_264 x 1220 4 = v_276.toInt := (zA_of (z := 4) h_273 ti_4 (by omega) ev_276)
          have zc_279 : zA S_264 x 1220 = zA T_242 x 1220 := zA_sI eS_264
          have zz_280 := congrFun zc_279 4
          refine r_iast X hw h_274 rfl (by rw [h_275]; exact z_ix hz_a1 (by omega) (by omega)) dX12_program_93 (fun H locs hw => ?_)
          obtain ⟨S_281, eS_281⟩ : ∃ T, T = sA S_264 q_272 (upd (pA S_264 q_272) (Int32.toNatClampNeg (a1)) (v_276)) := ⟨_, rfl⟩
          rw [← eS_281] at hw
          have hO_282 : Ok MPr S S_281 := hO_265.sA eS_281 h_274 (by decide +kernel) (uA_614 hO_265.1 h_274 (by omega) (by omega))
          have h_283 : pA S_281 q_272 (Int32.toNatClampNeg (a1)) = v_276 := tA_sAs eS_281
          have t_284 : pR S_281 1220 x = some q_272 := tR_sA eS_281 h_273
          have t_286 : pR S_264 1220 x = some q_272 := by have h := t_284; rw [eS_281, pR_sA] at h; exact h
          have zs_285 : ∀ j, zA S_281 x 1220 j = if j = (a1_z).toNat then v_276.toInt else zA S_264 x 1220 j := by have h := zA_sAs eS_281 t_286 rfl; rw [z_nc hz_a1 (by omega)] at h; exact h
          have zs_287 : zA S_281 x 1220 a1_z.toNat = v_276.toInt := by have h := zs_285 a1_z.toNat; rw [if_pos rfl] at h; exact h
          refine lv_iconst (v := 0) X.1 X.2.1 dX12_program_94 (by decide) ?_
          refine lv_istore_n (lv' := [(3, .int 0), (2, .int (i2_241)), (0, .ref x), (1, .int (a1))]) X.1 X.2.1 dX12_program_95 rfl hl (by decide) rfl (fun ls hl => ?_)
          have t_288 : pI S_281 1228 x = 0 := tI_sA eS_281 h_266
          have pz_289 : (pI S_281 1228 x).toInt = 0 := (congrArg Int32.toInt t_288).trans ti_0
          have t_290 : At S_281 x 12 := tAt_sA eS_281 t_267
          have pz_291 : (pI S_281 1228 x).toInt = 0 := (congrArg Int32.toInt t_288).trans ti_0
          exact L_21 _ _ _ _ _ (0) (0) rfl hw ti_0 (by omega) t_290 hO_282 (by omega) (by exfalso; omega) (lv_sub hl [0, 2, 3] rfl)
        · have z_b_292 := trivial
          have k_293 : v_250.toInt > 0 := z_nle rfl ti_0 c_269
          refine lv_aload_n X.1 X.2.1 dX12_program_74 rfl (lv_at hl 1 rfl) ?_
          refine r_getI (g := 1230) (x := v_250) X hw t_267 rfl 30 t_268 (by decide) rfl inn_X12_program_12 (by decide) (X.2.2.2.1 (.fieldLink RX12 229 "SilkMillModel" "faultKind" "I") (by decide +kernel)) rfl (gv_1230 _ _) dX12_program_75 ?_
          refine lv_bipush (v := 10) X.1 X.2.1 dX12_program_78 (by decide) ?_
          have fr_294 : 0 ≤ v_250.toInt ∧ v_250.toInt ≤ 2 := by omega
          refine lv_isub X.1 X.2.1 dX12_program_80 ?_
          refine lv_topi (fun v_295 ev_295 => ?_)
          have z_296 : v_295.toInt = v_250.toInt - 10 := z_sub ev_295 rfl ti_10 (by omega) (by omega)
          have pz_297 : (pI S_264 1228 x).toInt = 0 := (congrArg Int32.toInt h_266).trans ti_0
          rw [hQQ]
          exact ret_i X hw hr hlocks (Nat.le_of_ble_eq_true rfl) (Nat.le_of_ble_eq_true rfl) ⟨hO_265, ⟨z_lo _, z_hi _, by have hzr := z_296; omega, fun _ => by unfold prR; rw [cit_n pf_263.1]; omega, fun h => by exfalso; omega⟩⟩ dX12_program_81
      · have z_b_298 := trivial
        have k_299 : i2_241_z ≠ 0 := z_ne hz_i2_241 ti_0 c_258
        obtain ⟨t_300, rg_301, f0_302, ep_303⟩ := (hdE iv_245) (by omega)
        have ok_304 := hdI (RGB_ok hG ha_x rg_301)
        have ok_305 : (t_300).2.1 ≤ (t_300).2.2 ∧ (t_300).2.2 ≤ 400 := ⟨(hdE ok_304).1, (hdE ok_304).2.1⟩
        obtain ⟨v_306, ev_306⟩ : ∃ v, pI T_242 1231 x = v := ⟨_, rfl⟩
        have rg_308 := And.intro (z_lo v_306) (z_hi v_306)
        have pz_309 : (pI T_242 1231 x).toInt = v_306.toInt := by rw [ev_306]
        have pz_310 : (pI T_242 1231 x).toInt = v_306.toInt := (congrArg Int32.toInt ev_306).trans rfl
        have tk_311 := rg_301.1.1
        refine lv_aload_n X.1 X.2.1 dX12_program_47 rfl (lv_at hl 1 rfl) ?_
        refine r_getI (g := 1231) (x := v_306) X hw ha_x_L_243 rfl 31 ev_306 (by decide) rfl inn_X12_program_12 (by decide) (X.2.2.2.1 (.fieldLink RX12 223 "SilkMillModel" "kind" "I") (by decide +kernel)) rfl (gv_1231 _ _) dX12_program_48 ?_
        refine lv_if_eq (tgt := 62) X.1 X.2.1 dX12_program_51 (by decide) (fun c_312 => ?_) (fun c_312 => ?_)
        · have z_b_313 := trivial
          have k_314 : v_306.toInt = 0 := z_eq rfl ti_0 c_312
          have po_315 := prF_ok (B := rB S x) (n := (pI S 1228 x).toInt.toNat) 13 0 (tokF (rB S x) (pI S 1228 x).toInt.toNat 0)
          unfold okR at po_315
          have pz_316 : (pI T_242 1230 x).toInt = v_250.toInt := (congrArg Int32.toInt ev_250).trans rfl
          have pe_317 : prF (rB S x) (pI S 1228 x).toInt.toNat 13 0 (tokF (rB S x) (pI S 1228 x).toInt.toNat 0) = (0, (zA T_242 x 1220 4).toNat) := by rw [← ep_303, show (13 - zA T_242 x 1220 4).toNat = (12 - zA T_242 x 1220 4).toNat + 1 by omega]; exact prF_e (by omega)
          have pa_318 : (prF (rB S x) (pI S 1228 x).toInt.toNat 13 0 (tokF (rB S x) (pI S 1228 x).toInt.toNat 0)).1 = 0 := by rw [pe_317]
          have pb_319 : ((prF (rB S x) (pI S 1228 x).toInt.toNat 13 0 (tokF (rB S x) (pI S 1228 x).toInt.toNat 0)).2 : Int) = zA T_242 x 1220 4 := by rw [pe_317]; show (((zA T_242 x 1220 4).toNat : Nat) : Int) = _; omega
          refine lv_aload_n X.1 X.2.1 dX12_program_62 rfl (lv_at hl 1 rfl) ?_
          refine lv_iconst (v := 0) X.1 X.2.1 dX12_program_63 (by decide) ?_
          refine r_putI (v := 0) X hw ha_x_L_243 rfl 28 1228 tyX12 (by decide) rfl inn_X12_program_12 tyX12_ok nmX12 (by decide) (X.2.2.2.1 (.fieldLink RX12 211 "SilkMillModel" "taped" "I") (by decide +kernel)) rfl (Or.inl rfl) rfl rfl (Nat.le_of_ble_eq_true rfl) (st_1228 _ _) dX12_program_64 (fun H locs hw => ?_)
          obtain ⟨S_320, eS_320⟩ : ∃ T, T = sI T_242 1228 x (0) := ⟨_, rfl⟩
          rw [← eS_320] at hw
          have hO_321 : Ok MPr S S_320 := hO_T_242.sI eS_320 (by decide +kernel) (uI_12_1228 hO_T_242.1 ha_x_L_243 (by rw [ti_0]; omega) (by rw [ti_0]; omega))
          have h_322 : pI S_320 1228 x = 0 := tI_sIs eS_320
          refine lv_aload_n X.1 X.2.1 dX12_program_67 rfl (lv_at hl 1 rfl) ?_
          have t_323 : At S_320 x 12 := tAt_sI eS_320 ha_x_L_243
          have t_324 : pI S_320 1230 x = v_250 := tI_sI eS_320 rfl ev_250
          refine r_getI (g := 1230) (x := v_250) X hw t_323 rfl 30 t_324 (by decide) rfl inn_X12_program_12 (by decide) (X.2.2.2.1 (.fieldLink RX12 229 "SilkMillModel" "faultKind" "I") (by decide +kernel)) rfl (gv_1230 _ _) dX12_program_68 ?_
          refine lv_if_le (tgt := 82) X.1 X.2.1 dX12_program_71 (by decide) (fun c_325 => ?_) (fun c_325 => ?_)
          · have z_b_326 := trivial
            have k_327 : v_250.toInt ≤ 0 := z_le rfl ti_0 c_325
            refine lv_aload_n X.1 X.2.1 dX12_program_82 rfl (lv_at hl 1 rfl) ?_
            obtain ⟨q_328, h_329, h_330, h_331⟩ := gQ_12_1220 hO_321.1 t_323
            refine r_getR (g := 1220) X hw t_323 rfl 20 h_329 (by decide) rfl inn_X12_program_12 (by decide) (X.2.2.2.1 (.fieldLink RX12 61 "SilkMillModel" "rules" "[I") (by decide +kernel)) rfl (gv_1220 _ _) dX12_program_83 ?_
            refine lv_iload_n X.1 X.2.1 dX12_program_86 rfl (lv_at hl 2 rfl) ?_
            refine lv_aload_n X.1 X.2.1 dX12_program_87 rfl (lv_at hl 1 rfl) ?_
            refine r_getR (g := 1220) X hw t_323 rfl 20 h_329 (by decide) rfl inn_X12_program_12 (by decide) (X.2.2.2.1 (.fieldLink RX12 61 "SilkMillModel" "rules" "[I") (by decide +kernel)) rfl (gv_1220 _ _) dX12_program_88 ?_
            refine lv_iconst (v := 4) X.1 X.2.1 dX12_program_91 (by decide) ?_
            refine r_iald X hw h_330 rfl (by rw [h_331]; exact z_ix ti_4 (by omega) (by omega)) dX12_program_92 ?_
            refine lv_topi (fun v_332 ev_332 => ?_)
            have z_333 := gE_614 hO_321.1 h_330 (Int32.toNatClampNeg (4)); rw [← ev_332] at z_333
            have ev_332 := ev_332.symm
            have zf_334 : zA S_320 x 1220 4 = v_332.toInt := (zA_of (z := 4) h_329 ti_4 (by omega) ev_332)
            have zc_335 : zA S_320 x 1220 = zA T_242 x 1220 := zA_sI eS_320
            have zz_336 := congrFun zc_335 4
            refine r_iast X hw h_330 rfl (by rw [h_331]; exact z_ix hz_a1 (by omega) (by omega)) dX12_program_93 (fun H locs hw => ?_)
            obtain ⟨S_337, eS_337⟩ : ∃ T, T = sA S_320 q_328 (upd (pA S_320 q_328) (Int32.toNatClampNeg (a1)) (v_332)) := ⟨_, rfl⟩
            rw [← eS_337] at hw
            have hO_338 : Ok MPr S S_337 := hO_321.sA eS_337 h_330 (by decide +kernel) (uA_614 hO_321.1 h_330 (by omega) (by omega))
            have h_339 : pA S_337 q_328 (Int32.toNatClampNeg (a1)) = v_332 := tA_sAs eS_337
            have t_340 : pR S_337 1220 x = some q_328 := tR_sA eS_337 h_329
            have t_342 : pR S_320 1220 x = some q_328 := by have h := t_340; rw [eS_337, pR_sA] at h; exact h
            have zs_341 : ∀ j, zA S_337 x 1220 j = if j = (a1_z).toNat then v_332.toInt else zA S_320 x 1220 j := by have h := zA_sAs eS_337 t_342 rfl; rw [z_nc hz_a1 (by omega)] at h; exact h
            have zs_343 : zA S_337 x 1220 a1_z.toNat = v_332.toInt := by have h := zs_341 a1_z.toNat; rw [if_pos rfl] at h; exact h
            refine lv_iconst (v := 0) X.1 X.2.1 dX12_program_94 (by decide) ?_
            refine lv_istore_n (lv' := [(3, .int 0), (2, .int (i2_241)), (0, .ref x), (1, .int (a1))]) X.1 X.2.1 dX12_program_95 rfl hl (by decide) rfl (fun ls hl => ?_)
            have t_344 : pI S_337 1228 x = 0 := tI_sA eS_337 h_322
            have pz_345 : (pI S_337 1228 x).toInt = 0 := (congrArg Int32.toInt t_344).trans ti_0
            have t_346 : At S_337 x 12 := tAt_sA eS_337 t_323
            have pz_347 : (pI S_337 1228 x).toInt = 0 := (congrArg Int32.toInt t_344).trans ti_0
            exact L_21 _ _ _ _ _ (0) (0) rfl hw ti_0 (by omega) t_346 hO_338 (by omega) ⟨pa_318, by omega⟩ (lv_sub hl [0, 2, 3] rfl)
          · have z_b_348 := trivial
            have k_349 : v_250.toInt > 0 := z_nle rfl ti_0 c_325
            refine lv_aload_n X.1 X.2.1 dX12_program_74 rfl (lv_at hl 1 rfl) ?_
            refine r_getI (g := 1230) (x := v_250) X hw t_323 rfl 30 t_324 (by decide) rfl inn_X12_program_12 (by decide) (X.2.2.2.1 (.fieldLink RX12 229 "SilkMillModel" "faultKind" "I") (by decide +kernel)) rfl (gv_1230 _ _) dX12_program_75 ?_
            refine lv_bipush (v := 10) X.1 X.2.1 dX12_program_78 (by decide) ?_
            have fr_350 : 0 ≤ v_250.toInt ∧ v_250.toInt ≤ 2 := by omega
            refine lv_isub X.1 X.2.1 dX12_program_80 ?_
            refine lv_topi (fun v_351 ev_351 => ?_)
            have z_352 : v_351.toInt = v_250.toInt - 10 := z_sub ev_351 rfl ti_10 (by omega) (by omega)
            have pz_353 : (pI S_320 1228 x).toInt = 0 := (congrArg Int32.toInt h_322).trans ti_0
            rw [hQQ]
            exact ret_i X hw hr hlocks (Nat.le_of_ble_eq_true rfl) (Nat.le_of_ble_eq_true rfl) ⟨hO_321, ⟨z_lo _, z_hi _, by have hzr := z_352; omega, fun _ => by exfalso; omega, fun h => by exfalso; omega⟩⟩ dX12_program_81
        · have z_b_354 := trivial
          have k_355 : v_306.toInt ≠ 0 := z_ne rfl ti_0 c_312
          have hk_356 : t_300.1 ≠ 0 := by omega
          have pz_357 : (pI T_242 1230 x).toInt = v_250.toInt := (congrArg Int32.toInt ev_250).trans rfl
          refine lv_aload_n X.1 X.2.1 dX12_program_54 rfl (lv_at hl 1 rfl) ?_
          have pz_358 : (pI T_242 1230 x).toInt = v_250.toInt := (congrArg Int32.toInt ev_250).trans rfl
          refine k_i (rm := { frames := 7, cells := 0, slots := 0, locals := 336 }) (av := [.ref x]) X hw (va_runV (As := []) (rest := []) (cfix X) (k_X12_rule2 l G cy κ T_242 _ x t_300 hO_T_242.1 ha_x_L_243 (by rw [(rB_fr2 hG ha_x hO_T_242.fr (by decide +kernel) (ik_248.trans ev_1.symm)), (ik_248.trans ev_1.symm)]; exact rg_301) (by first | assumption | decide | omega)) (cwV 0 X.2.2.2.1 gX12_program_X12_rule rfl rfl rfl (by decide +kernel) ⟨Nat.le_of_ble_eq_true rfl, Nat.le_of_ble_eq_true rfl⟩) (pre_V X hw _ ha_x_L_243 rfl (by decide) rfl) rfl rfl hl.1 rfl (lv_room (Nat.le_of_ble_eq_true rfl)) dX12_program_55 ⟨Nat.le_of_ble_eq_true rfl, Nat.le_of_ble_eq_true rfl⟩) 0 0 (Nat.le_of_ble_eq_true rfl) (Nat.le_of_ble_eq_true rfl) (fun rr_359 S_360 H locs hp hw hfr hnw => ?_)
          obtain ⟨hk_361, hp⟩ := hp
          have hO_362 : Ok MPr S S_360 := hO_T_242.call hk_361 (by decide +kernel)
          rcases hp with ⟨f_363, er_364⟩ | ⟨f_363, er_364⟩ <;> subst er_364
          · have z_b_365 := trivial
            have t_367 : At S_360 x 12 := hk_361.fr.at ha_x_L_243
            have zq_366 := z1220 hO_362.1 t_367 4
            rw [(rB_fr2 hG ha_x hO_T_242.fr (by decide +kernel) (ik_248.trans ev_1.symm)), (ik_248.trans ev_1.symm)] at f_363
            refine lv_istore_n (lv' := [(2, .int 1), (0, .ref x), (1, .int (a1))]) X.1 X.2.1 dX12_program_58 rfl hl (by decide) rfl (fun ls hl => ?_)
            refine lv_goto (tgt := 43) X.1 X.2.1 dX12_program_59 (by decide) ?_
            obtain ⟨v_369, ev_369⟩ : ∃ v, pI S_360 1230 x = v := ⟨_, rfl⟩
            have rg_371 := And.intro (z_lo v_369) (z_hi v_369)
            have pz_372 : (pI S_360 1230 x).toInt = v_369.toInt := by rw [ev_369]
            have pz_373 : (pI S_360 1230 x).toInt = v_369.toInt := (congrArg Int32.toInt ev_369).trans rfl
            have t_374 : pI S_360 1228 x = v_1 := hk_361.fr.I' (by decide +kernel) ha_x_L_243 ik_248
            exact ih_L_240 _ (by omega) _ _ _ _ (1) (1) rfl hw ti_1 (by omega) t_367 hO_362 (by omega) (hdI (fun _ => ⟨_, f_363.2.1, f_363.2.2.1, by rw [show (13 - zA S_360 x 1220 4).toNat = (12 - zA T_242 x 1220 4).toNat by omega, show (zA S_360 x 1220 4).toNat = (zA T_242 x 1220 4).toNat + 1 by omega, ← prF_r hk_356 f_363.1, show (12 - zA T_242 x 1220 4).toNat + 1 = (13 - zA T_242 x 1220 4).toNat by omega]; exact ep_303⟩)) (fun h => absurd h (by decide)) t_374 (lv_sub hl [0, 1, 2] rfl)
          · have z_b_375 := trivial
            have t_377 : At S_360 x 12 := hk_361.fr.at ha_x_L_243
            have zq_376 := z1220 hO_362.1 t_377 4
            rw [(rB_fr2 hG ha_x hO_T_242.fr (by decide +kernel) (ik_248.trans ev_1.symm)), (ik_248.trans ev_1.symm)] at f_363
            refine lv_istore_n (lv' := [(2, .int 0), (0, .ref x), (1, .int (a1))]) X.1 X.2.1 dX12_program_58 rfl hl (by decide) rfl (fun ls hl => ?_)
            refine lv_goto (tgt := 43) X.1 X.2.1 dX12_program_59 (by decide) ?_
            obtain ⟨v_379, ev_379⟩ : ∃ v, pI S_360 1230 x = v := ⟨_, rfl⟩
            have rg_381 := And.intro (z_lo v_379) (z_hi v_379)
            have pz_382 : (pI S_360 1230 x).toInt = v_379.toInt := by rw [ev_379]
            have pz_383 : (pI S_360 1230 x).toInt = v_379.toInt := (congrArg Int32.toInt ev_379).trans rfl
            have t_384 : pI S_360 1228 x = v_1 := hk_361.fr.I' (by decide +kernel) ha_x_L_243 ik_248
            exact ih_L_240 _ (by omega) _ _ _ _ (0) (0) rfl hw ti_0 (by omega) t_377 hO_362 (by omega) (hdI (fun h => absurd h (by decide))) (fun _ => by rw [← ep_303, show (13 - zA T_242 x 1220 4).toNat = (12 - zA T_242 x 1220 4).toNat + 1 by omega, prF_f hk_356 f_363.1]; exact f_363) t_384 (lv_sub hl [0, 1, 2] rfl)
    have t_385 : pI S_207 1230 x = 0 := tI_sI eS_207 rfl h_205
    have t_386 : pI S_215 1230 x = 0 := tI_sA eS_215 t_385
    have t_387 : pI S_223 1230 x = 0 := tI_sI eS_223 rfl t_386
    have t_388 : pI S_234 1230 x = 0 := hk_235.fr.I' (by decide +kernel) t_226 t_387
    have pz_389 : (pI S_234 1230 x).toInt = 0 := (congrArg Int32.toInt t_388).trans ti_0
    have t_390 : At S_234 x 12 := hk_235.fr.at t_226
    have zc_391 : zA S_9 x 1220 = zA S x 1220 := zA_sI eS_9
    have zc_392 : zA S_203 x 1220 = zA S x 1220 := (zA_sI eS_203).trans zc_391
    have zc_393 : zA S_207 x 1220 = zA S x 1220 := (zA_sI eS_207).trans zc_392
    have zc_394 : zA S_223 x 1220 = zA S_215 x 1220 := zA_sI eS_223
    have zc_395 : zA S_234 x 1220 = zA S_215 x 1220 := (zA_fr hk_235.fr t_226 (ex3 (gQ_12_1220 hO_224.1 t_226)) (by decide +kernel) (by decide +kernel)).trans zc_394
    have zz_396 := congrFun zc_395 (4)
    exact L_240 _ _ _ _ _ (1) (1) rfl hw ti_1 (by omega) t_390 hO_236 (by omega) (hdI (fun _ => ⟨_, rg_237, by omega, by rw [show (13 - zA S_234 x 1220 4).toNat = 13 by omega, show (zA S_234 x 1220 4).toNat = 0 by omega]⟩)) (fun h => absurd h (by decide)) t_247 (lv_sub hl [0, 1, 2] rfl)
  · have z_b_397 := trivial
    refine lv_if_ne (tgt := 15) X.1 X.2.1 dX12_program_10 (by decide) (fun c_398 => absurd c_398 (by decide)) (fun c_398 => ?_)
    refine lv_iconst (v := (-1)) X.1 X.2.1 dX12_program_13 (by decide) ?_
    have t_399 : pI S_9 1228 x = v_1 := tI_sI eS_9 rfl ev_1
    have pz_400 : (pI S_9 1228 x).toInt = v_1.toInt := (congrArg Int32.toInt t_399).trans rfl
    rw [hQQ]
    exact ret_i X hw hr hlocks (Nat.le_of_ble_eq_true rfl) (Nat.le_of_ble_eq_true rfl) ⟨hO_10, ⟨z_lo _, z_hi _, by have hzr := ti_m1; omega, fun h => by exfalso; omega, fun _ => by decide⟩⟩ dX12_program_14
