
set_option maxHeartbeats 4000000 in
set_option maxRecDepth 100000 in
theorem k_X12_cuts5 (l : Launch) (G : va_G) (cy : Nat → ClassId) (κ : Nat → Nat) (S : PS) (sz : Nat) (x : Nat) (a1 : Int32) (a1_z : Int) (hG : GX S) (ha_x : At S x 12) (hz_a1 : a1.toInt = a1_z) (hp_0 : 0 ≤ a1_z) (hp_1 : a1_z ≤ 3) (hp_2 : MI S x) : Ci l yX12_cuts wsX12_cuts ({ frames := 6, cells := 0, slots := 0, locals := 288 }) G cy κ S sz [.ref x, .int (a1)] (fun (r : Int32) (S9 : PS) => Ok MCU S S9 ∧ (MI S9 x ∧ (∀ j, zA S9 x 1237 j = if j = (a1_z).toNat then 0 else zA S x 1237 j) ∧ (zA S x 1237 a1_z.toNat = 0 → r.toInt = -1 ∧ (pI S9 1238 x).toInt = (pI S 1238 x).toInt) ∧ (zA S x 1237 a1_z.toNat ≠ 0 → (pI S 1238 x).toInt < 40 → r.toInt = (pI S 1238 x).toInt ∧ (pI S9 1238 x).toInt = (pI S 1238 x).toInt + 1) ∧ (zA S x 1237 a1_z.toNat ≠ 0 → ¬ (pI S 1238 x).toInt < 40 → r.toInt = -2 ∧ (pI S9 1238 x).toInt = (pI S 1238 x).toInt))) := by
  refine ent_m (cc := cX12_cuts) (maxL := 6) (ret := (some .int)) (by decide) rfl (Nat.le_of_ble_eq_true rfl) ?_
  intro p e s m below meth c ls X hr hlocks hin hw hl hsz
  subst hsz
  have X : Cx p c cX12_cuts 6 s [.ref x, .int (a1)].toArray wsX12_cuts RX12 m G cy κ (AS S s.heap.size) := X
  have hl : lv_has ls 6 [(0, .ref x), (1, .int (a1))] := hl
  have rg_a1 : (-2147483648) ≤ a1_z ∧ a1_z ≤ 2147483647 := by rw [← hz_a1]; exact ⟨z_lo _, z_hi _⟩
  have hO : Ok MCU S S := Ok.rf hG
  generalize hQQ : MQ below _ _ _ _ _ _ = QQ
  replace hQQ := hQQ.symm
  obtain ⟨v_1, ev_1⟩ : ∃ v, pI S 1238 x = v := ⟨_, rfl⟩
  have rg_2 := gI_12_1238 hO.1 ha_x; rw [ev_1] at rg_2
  have pz_3 : (pI S 1238 x).toInt = v_1.toInt := by rw [ev_1]
  have pz_4 : (pI S 1238 x).toInt = v_1.toInt := (congrArg Int32.toInt ev_1).trans rfl
  refine lv_aload_n X.1 X.2.1 dX12_cuts_0 rfl (lv_at hl 0 rfl) ?_
  obtain ⟨q_5, h_6, h_7, h_8⟩ := gQ_12_1237 hO.1 ha_x
  refine r_getR (g := 1237) X hw ha_x rfl 37 h_6 (by decide) rfl inn_X12_cuts_12 (by decide) (X.2.2.2.1 (.fieldLink RX12 97 "SilkMillModel" "grown" "[I") (by decide +kernel)) rfl (gv_1237 _ _) dX12_cuts_1 ?_
  refine lv_iload_n X.1 X.2.1 dX12_cuts_4 rfl (lv_at hl 1 rfl) ?_
  refine r_iald X hw h_7 rfl (by rw [h_8]; exact z_ix hz_a1 (by omega) (by omega)) dX12_cuts_5 ?_
  refine lv_topi (fun v_9 ev_9 => ?_)
  have z_10 := gE_954 hO.1 h_7 (Int32.toNatClampNeg (a1)); rw [← ev_9] at z_10
  have ev_9 := ev_9.symm
  have zf_11 : zA S x 1237 (a1_z).toNat = v_9.toInt := (zA_of h_6 hz_a1 (by omega) ev_9)
  refine lv_istore_n (lv' := [(2, .int (v_9)), (0, .ref x), (1, .int (a1))]) X.1 X.2.1 dX12_cuts_6 rfl hl (by decide) rfl (fun ls hl => ?_)
  refine lv_iload_n X.1 X.2.1 dX12_cuts_7 rfl (lv_at hl 0 rfl) ?_
  refine lv_if_ne (tgt := 13) X.1 X.2.1 dX12_cuts_8 (by decide) (fun c_12 => ?_) (fun c_12 => ?_)
  · have z_b_13 := trivial
    have k_14 : v_9.toInt ≠ 0 := z_ne rfl ti_0 c_12
    refine lv_aload_n X.1 X.2.1 dX12_cuts_13 rfl (lv_at hl 1 rfl) ?_
    refine r_getR (g := 1237) X hw ha_x rfl 37 h_6 (by decide) rfl inn_X12_cuts_12 (by decide) (X.2.2.2.1 (.fieldLink RX12 97 "SilkMillModel" "grown" "[I") (by decide +kernel)) rfl (gv_1237 _ _) dX12_cuts_14 ?_
    refine lv_iload_n X.1 X.2.1 dX12_cuts_17 rfl (lv_at hl 2 rfl) ?_
    refine lv_iconst (v := 0) X.1 X.2.1 dX12_cuts_18 (by decide) ?_
    refine r_iast X hw h_7 rfl (by rw [h_8]; exact z_ix hz_a1 (by omega) (by omega)) dX12_cuts_19 (fun H locs hw => ?_)
    obtain ⟨S_15, eS_15⟩ : ∃ T, T = sA S q_5 (upd (pA S q_5) (Int32.toNatClampNeg (a1)) (0)) := ⟨_, rfl⟩
    rw [← eS_15] at hw
    have hO_16 : Ok MCU S S_15 := hO.sA eS_15 h_7 (by decide +kernel) (uA_954 hO.1 h_7 (by rw [ti_0]; omega) (by rw [ti_0]; omega))
    have h_17 : pA S_15 q_5 (Int32.toNatClampNeg (a1)) = 0 := tA_sAs eS_15
    have t_18 : pR S_15 1237 x = some q_5 := tR_sA eS_15 h_6
    have t_20 : pR S 1237 x = some q_5 := by have h := t_18; rw [eS_15, pR_sA] at h; exact h
    have zs_19 : ∀ j, zA S_15 x 1237 j = if j = (a1_z).toNat then 0 else zA S x 1237 j := by have h := zA_sAs eS_15 t_20 ti_0; rw [z_nc hz_a1 (by omega)] at h; exact h
    refine lv_aload_n X.1 X.2.1 dX12_cuts_20 rfl (lv_at hl 1 rfl) ?_
    have t_21 : At S_15 x 12 := tAt_sA eS_15 ha_x
    have t_22 : pI S_15 1238 x = v_1 := tI_sA eS_15 ev_1
    refine r_getI (g := 1238) (x := v_1) X hw t_21 rfl 38 t_22 (by decide) rfl inn_X12_cuts_12 (by decide) (X.2.2.2.1 (.fieldLink RX12 290 "SilkMillModel" "skeins" "I") (by decide +kernel)) rfl (gv_1238 _ _) dX12_cuts_21 ?_
    refine lv_bipush (v := 40) X.1 X.2.1 dX12_cuts_24 (by decide) ?_
    refine lv_icmp_ne (tgt := 51) X.1 X.2.1 dX12_cuts_26 (by decide) (fun c_23 => ?_) (fun c_23 => ?_)
    · have z_b_24 := trivial
      have k_25 : v_1.toInt ≠ 40 := z_ne rfl ti_40 c_23
      refine lv_aload_n X.1 X.2.1 dX12_cuts_51 rfl (lv_at hl 1 rfl) ?_
      obtain ⟨q_26, h_27, h_28, h_29⟩ := gQ_12_1239 hO_16.1 t_21
      refine r_getR (g := 1239) X hw t_21 rfl 39 h_27 (by decide) rfl inn_X12_cuts_12 (by decide) (X.2.2.2.1 (.fieldLink RX12 100 "SilkMillModel" "firstMetre" "[I") (by decide +kernel)) rfl (gv_1239 _ _) dX12_cuts_52 ?_
      refine lv_aload_n X.1 X.2.1 dX12_cuts_55 rfl (lv_at hl 1 rfl) ?_
      refine r_getI (g := 1238) (x := v_1) X hw t_21 rfl 38 t_22 (by decide) rfl inn_X12_cuts_12 (by decide) (X.2.2.2.1 (.fieldLink RX12 290 "SilkMillModel" "skeins" "I") (by decide +kernel)) rfl (gv_1238 _ _) dX12_cuts_56 ?_
      refine r_iald X hw h_28 rfl (by rw [h_29]; exact z_ix rfl (by omega) (by omega)) dX12_cuts_59 ?_
      refine lv_topi (fun v_30 ev_30 => ?_)
      have z_31 := gE_994 hO_16.1 h_28 (Int32.toNatClampNeg (v_1)); rw [← ev_30] at z_31
      have ev_30 := ev_30.symm
      have zf_32 : zA S_15 x 1239 (v_1.toInt).toNat = v_30.toInt := (zA_of h_27 rfl (by omega) ev_30)
      have pz_34 : (pI S_15 1238 x).toInt = v_1.toInt := (congrArg Int32.toInt t_22).trans rfl
      have mi_35 : MIe S_15 x (-1) := MIe_37 hp_2 hO.1 ha_x h_7 eS_15
      have m7_33 := MI_7' mi_35 (k := v_1.toInt) (by omega) (by omega); rw [zf_32] at m7_33
      have zc_36 : zA S_15 x 1239 = zA S x 1239 := zA_sAn eS_15 (ex3 (gQ_12_1239 hO.1 ha_x)) h_7 rfl
      refine lv_istore_n (lv' := [(3, .int (v_30)), (2, .int (v_9)), (0, .ref x), (1, .int (a1))]) X.1 X.2.1 dX12_cuts_60 rfl hl (by decide) rfl (fun ls hl => ?_)
      refine lv_iconst (v := 0) X.1 X.2.1 dX12_cuts_61 (by decide) ?_
      refine lv_istore (lv' := [(4, .int 0), (3, .int (v_30)), (2, .int (v_9)), (0, .ref x), (1, .int (a1))]) X.1 X.2.1 dX12_cuts_62 hl (by decide) rfl (fun ls hl => ?_)
      have L_37 : ∀ (n : Nat) (T_39 : PS) (H : Heap) (locs : List Loc) (ls : Array Slot) (i4_38 : Int32) (i4_38_z : Int), ((300 - i4_38_z).toNat = n) → (Wd G cy (AS S s.heap.size) s.heap T_39 H locs) → (i4_38.toInt = i4_38_z) → (0 ≤ i4_38_z ∧ i4_38_z ≤ 300) → (At T_39 x 12) → (Ok MCU S T_39) → (zA T_39 x 1237 = zA S_15 x 1237) → (zA T_39 x 1239 = zA S x 1239) → (MIe T_39 x (-1)) → (pI T_39 1238 x = v_1) → (lv_has ls 6 [(4, .int (i4_38)), (3, .int (v_30)), (2, .int (v_9)), (0, .ref x), (1, .int (a1))]) → W p l e ({ frames := 6, cells := 0, slots := 0, locals := 288 }) s m [.ref x, .int (a1)].toArray below meth c H locs 0 0 QQ (F0 m 64 ls []) := by
        intro n
        induction n using Nat.strongRecOn with
        | ind n ih_L_37 =>
        intro T_39 H locs ls i4_38 i4_38_z hn hw hz_i4_38 hr_i4_38 ha_x_L_40 hO_T_39 zk_41 zk_42 mk_43 ik_44 hl
        have rg_45 : (-2147483648) ≤ i4_38_z ∧ i4_38_z ≤ 2147483647 := by rw [← hz_i4_38]; exact ⟨z_lo _, z_hi _⟩
        have pz_46 : (pI T_39 1238 x).toInt = v_1.toInt := (congrArg Int32.toInt ik_44).trans rfl
        refine lv_iload X.1 X.2.1 dX12_cuts_64 (lv_at hl 0 rfl) ?_
        refine lv_iload_n X.1 X.2.1 dX12_cuts_66 rfl (lv_at hl 2 rfl) ?_
        refine lv_icmp_ge (tgt := 148) X.1 X.2.1 dX12_cuts_67 (by decide) (fun c_47 => ?_) (fun c_47 => ?_)
        · have z_b_48 := trivial
          have k_49 : i4_38_z ≥ v_9.toInt := z_le rfl hz_i4_38 c_47
          refine lv_aload_n X.1 X.2.1 dX12_cuts_148 rfl (lv_at hl 3 rfl) ?_
          obtain ⟨q_50, h_51, h_52, h_53⟩ := gQ_12_1240 hO_T_39.1 ha_x_L_40
          refine r_getR (g := 1240) X hw ha_x_L_40 rfl 40 h_51 (by decide) rfl inn_X12_cuts_12 (by decide) (X.2.2.2.1 (.fieldLink RX12 103 "SilkMillModel" "skeinPot" "[I") (by decide +kernel)) rfl (gv_1240 _ _) dX12_cuts_149 ?_
          refine lv_aload_n X.1 X.2.1 dX12_cuts_152 rfl (lv_at hl 3 rfl) ?_
          refine r_getI (g := 1238) (x := v_1) X hw ha_x_L_40 rfl 38 ik_44 (by decide) rfl inn_X12_cuts_12 (by decide) (X.2.2.2.1 (.fieldLink RX12 290 "SilkMillModel" "skeins" "I") (by decide +kernel)) rfl (gv_1238 _ _) dX12_cuts_153 ?_
          refine lv_iload_n X.1 X.2.1 dX12_cuts_156 rfl (lv_at hl 4 rfl) ?_
          refine r_iast X hw h_52 rfl (by rw [h_53]; exact z_ix rfl (by omega) (by omega)) dX12_cuts_157 (fun H locs hw => ?_)
          obtain ⟨S_54, eS_54⟩ : ∃ T, T = sA T_39 q_50 (upd (pA T_39 q_50) (Int32.toNatClampNeg (v_1)) (a1)) := ⟨_, rfl⟩
          rw [← eS_54] at hw
          have hO_55 : Ok MCU S S_54 := hO_T_39.sA eS_54 h_52 (by decide +kernel) (uA_1014 hO_T_39.1 h_52)
          have h_56 : pA S_54 q_50 (Int32.toNatClampNeg (v_1)) = a1 := tA_sAs eS_54
          refine lv_aload_n X.1 X.2.1 dX12_cuts_158 rfl (lv_at hl 3 rfl) ?_
          have t_57 : At S_54 x 12 := tAt_sA eS_54 ha_x_L_40
          obtain ⟨q_58, h_59, h_60, h_61⟩ := gQ_12_1241 hO_55.1 t_57
          refine r_getR (g := 1241) X hw t_57 rfl 41 h_59 (by decide) rfl inn_X12_cuts_12 (by decide) (X.2.2.2.1 (.fieldLink RX12 106 "SilkMillModel" "skeinDay" "[I") (by decide +kernel)) rfl (gv_1241 _ _) dX12_cuts_159 ?_
          refine lv_aload_n X.1 X.2.1 dX12_cuts_162 rfl (lv_at hl 3 rfl) ?_
          have t_62 : pI S_54 1238 x = v_1 := tI_sA eS_54 ik_44
          refine r_getI (g := 1238) (x := v_1) X hw t_57 rfl 38 t_62 (by decide) rfl inn_X12_cuts_12 (by decide) (X.2.2.2.1 (.fieldLink RX12 290 "SilkMillModel" "skeins" "I") (by decide +kernel)) rfl (gv_1238 _ _) dX12_cuts_163 ?_
          refine lv_aload_n X.1 X.2.1 dX12_cuts_166 rfl (lv_at hl 3 rfl) ?_
          obtain ⟨v_63, ev_63⟩ : ∃ v, pI S_54 1245 x = v := ⟨_, rfl⟩
          have rg_65 := And.intro (z_lo v_63) (z_hi v_63)
          have pz_66 : (pI S_54 1245 x).toInt = v_63.toInt := by rw [ev_63]
          refine r_getI (g := 1245) (x := v_63) X hw t_57 rfl 45 ev_63 (by decide) rfl inn_X12_cuts_12 (by decide) (X.2.2.2.1 (.fieldLink RX12 302 "SilkMillModel" "today" "I") (by decide +kernel)) rfl (gv_1245 _ _) dX12_cuts_167 ?_
          refine r_iast X hw h_60 rfl (by rw [h_61]; exact z_ix rfl (by omega) (by omega)) dX12_cuts_170 (fun H locs hw => ?_)
          obtain ⟨S_67, eS_67⟩ : ∃ T, T = sA S_54 q_58 (upd (pA S_54 q_58) (Int32.toNatClampNeg (v_1)) (v_63)) := ⟨_, rfl⟩
          rw [← eS_67] at hw
          have hO_68 : Ok MCU S S_67 := hO_55.sA eS_67 h_60 (by decide +kernel) (uA_1034 hO_55.1 h_60)
          have h_69 : pA S_67 q_58 (Int32.toNatClampNeg (v_1)) = v_63 := tA_sAs eS_67
          refine lv_aload_n X.1 X.2.1 dX12_cuts_171 rfl (lv_at hl 3 rfl) ?_
          have t_70 : At S_67 x 12 := tAt_sA eS_67 t_57
          obtain ⟨q_71, h_72, h_73, h_74⟩ := gQ_12_1242 hO_68.1 t_70
          refine r_getR (g := 1242) X hw t_70 rfl 42 h_72 (by decide) rfl inn_X12_cuts_12 (by decide) (X.2.2.2.1 (.fieldLink RX12 109 "SilkMillModel" "skeinAim" "[I") (by decide +kernel)) rfl (gv_1242 _ _) dX12_cuts_172 ?_
          refine lv_aload_n X.1 X.2.1 dX12_cuts_175 rfl (lv_at hl 3 rfl) ?_
          have t_75 : pI S_67 1238 x = v_1 := tI_sA eS_67 t_62
          refine r_getI (g := 1238) (x := v_1) X hw t_70 rfl 38 t_75 (by decide) rfl inn_X12_cuts_12 (by decide) (X.2.2.2.1 (.fieldLink RX12 290 "SilkMillModel" "skeins" "I") (by decide +kernel)) rfl (gv_1238 _ _) dX12_cuts_176 ?_
          refine lv_aload_n X.1 X.2.1 dX12_cuts_179 rfl (lv_at hl 3 rfl) ?_
          obtain ⟨q_76, h_77, h_78, h_79⟩ := gQ_12_1212 hO_68.1 t_70
          refine r_getR (g := 1212) X hw t_70 rfl 12 h_77 (by decide) rfl inn_X12_cuts_12 (by decide) (X.2.2.2.1 (.fieldLink RX12 37 "SilkMillModel" "aim" "[I") (by decide +kernel)) rfl (gv_1212 _ _) dX12_cuts_180 ?_
          refine lv_iload_n X.1 X.2.1 dX12_cuts_183 rfl (lv_at hl 4 rfl) ?_
          refine r_iald X hw h_78 rfl (by rw [h_79]; exact z_ix hz_a1 (by omega) (by omega)) dX12_cuts_184 ?_
          refine lv_topi (fun v_80 ev_80 => ?_)
          have rg_81 := And.intro (z_lo v_80) (z_hi v_80)
          have ev_80 := ev_80.symm
          refine r_iast X hw h_73 rfl (by rw [h_74]; exact z_ix rfl (by omega) (by omega)) dX12_cuts_185 (fun H locs hw => ?_)
          obtain ⟨S_82, eS_82⟩ : ∃ T, T = sA S_67 q_71 (upd (pA S_67 q_71) (Int32.toNatClampNeg (v_1)) (v_80)) := ⟨_, rfl⟩
          rw [← eS_82] at hw
          have hO_83 : Ok MCU S S_82 := hO_68.sA eS_82 h_73 (by decide +kernel) (uA_1054 hO_68.1 h_73)
          have h_84 : pA S_82 q_71 (Int32.toNatClampNeg (v_1)) = v_80 := tA_sAs eS_82
          refine lv_aload_n X.1 X.2.1 dX12_cuts_186 rfl (lv_at hl 3 rfl) ?_
          have t_85 : At S_82 x 12 := tAt_sA eS_82 t_70
          obtain ⟨q_86, h_87, h_88, h_89⟩ := gQ_12_1243 hO_83.1 t_85
          refine r_getR (g := 1243) X hw t_85 rfl 43 h_87 (by decide) rfl inn_X12_cuts_12 (by decide) (X.2.2.2.1 (.fieldLink RX12 112 "SilkMillModel" "skeinGrade" "[I") (by decide +kernel)) rfl (gv_1243 _ _) dX12_cuts_187 ?_
          refine lv_aload_n X.1 X.2.1 dX12_cuts_190 rfl (lv_at hl 3 rfl) ?_
          have t_90 : pI S_82 1238 x = v_1 := tI_sA eS_82 t_75
          refine r_getI (g := 1238) (x := v_1) X hw t_85 rfl 38 t_90 (by decide) rfl inn_X12_cuts_12 (by decide) (X.2.2.2.1 (.fieldLink RX12 290 "SilkMillModel" "skeins" "I") (by decide +kernel)) rfl (gv_1238 _ _) dX12_cuts_191 ?_
          refine lv_iconst (v := (-1)) X.1 X.2.1 dX12_cuts_194 (by decide) ?_
          refine r_iast X hw h_88 rfl (by rw [h_89]; exact z_ix rfl (by omega) (by omega)) dX12_cuts_195 (fun H locs hw => ?_)
          obtain ⟨S_91, eS_91⟩ : ∃ T, T = sA S_82 q_86 (upd (pA S_82 q_86) (Int32.toNatClampNeg (v_1)) ((-1))) := ⟨_, rfl⟩
          rw [← eS_91] at hw
          have hO_92 : Ok MCU S S_91 := hO_83.sA eS_91 h_88 (by decide +kernel) (uA_1074 hO_83.1 h_88 (by rw [ti_m1]; omega) (by rw [ti_m1]; omega))
          have h_93 : pA S_91 q_86 (Int32.toNatClampNeg (v_1)) = (-1) := tA_sAs eS_91
          refine lv_aload_n X.1 X.2.1 dX12_cuts_196 rfl (lv_at hl 3 rfl) ?_
          have t_94 : At S_91 x 12 := tAt_sA eS_91 t_85
          obtain ⟨q_95, h_96, h_97, h_98⟩ := gQ_12_1244 hO_92.1 t_94
          refine r_getR (g := 1244) X hw t_94 rfl 44 h_96 (by decide) rfl inn_X12_cuts_12 (by decide) (X.2.2.2.1 (.fieldLink RX12 115 "SilkMillModel" "isSold" "[Z") (by decide +kernel)) rfl (gv_1244 _ _) dX12_cuts_197 ?_
          refine lv_aload_n X.1 X.2.1 dX12_cuts_200 rfl (lv_at hl 3 rfl) ?_
          have t_99 : pI S_91 1238 x = v_1 := tI_sA eS_91 t_90
          refine r_getI (g := 1238) (x := v_1) X hw t_94 rfl 38 t_99 (by decide) rfl inn_X12_cuts_12 (by decide) (X.2.2.2.1 (.fieldLink RX12 290 "SilkMillModel" "skeins" "I") (by decide +kernel)) rfl (gv_1238 _ _) dX12_cuts_201 ?_
          refine lv_iconst (v := 0) X.1 X.2.1 dX12_cuts_204 (by decide) ?_
          refine r_zast X hw h_97 rfl (by rw [h_98]; exact z_ix rfl (by omega) (by omega)) dX12_cuts_205 (fun H locs hw => ?_)
          obtain ⟨S_100, eS_100⟩ : ∃ T, T = sA S_91 q_95 (upd (pA S_91 q_95) (Int32.toNatClampNeg (v_1)) (vp_nar .boolean (0))) := ⟨_, rfl⟩
          rw [← eS_100] at hw
          have hO_101 : Ok MCU S S_100 := hO_92.sA eS_100 h_97 (by decide +kernel) (uA_1095 hO_92.1 h_97)
          refine lv_aload_n X.1 X.2.1 dX12_cuts_206 rfl (lv_at hl 3 rfl) ?_
          refine lv_dup X.1 X.2.1 dX12_cuts_207 rfl ?_
          have t_102 : At S_100 x 12 := tAt_sA eS_100 t_94
          have t_103 : pI S_100 1238 x = v_1 := tI_sA eS_100 t_99
          refine r_getI (g := 1238) (x := v_1) X hw t_102 rfl 38 t_103 (by decide) rfl inn_X12_cuts_12 (by decide) (X.2.2.2.1 (.fieldLink RX12 290 "SilkMillModel" "skeins" "I") (by decide +kernel)) rfl (gv_1238 _ _) dX12_cuts_208 ?_
          refine lv_iconst (v := 1) X.1 X.2.1 dX12_cuts_211 (by decide) ?_
          refine lv_iadd X.1 X.2.1 dX12_cuts_212 ?_
          refine lv_topi (fun v_104 ev_104 => ?_)
          have z_105 : v_104.toInt = v_1.toInt + 1 := z_add ev_104 rfl ti_1 (by omega) (by omega)
          have mi_106 : MIe S_54 x (-1) := MIe_sA mk_43 hO_T_39.1 ha_x_L_40 h_52 eS_54 (by decide +kernel)
          have mi_107 : MIe S_67 x (-1) := MIe_sA mi_106 hO_55.1 t_57 h_60 eS_67 (by decide +kernel)
          have mi_108 : MIe S_82 x (-1) := MIe_sA mi_107 hO_68.1 t_70 h_73 eS_82 (by decide +kernel)
          have mi_109 : MIe S_91 x (-1) := MIe_sA mi_108 hO_83.1 t_85 h_88 eS_91 (by decide +kernel)
          have mi_110 : MIe S_100 x (-1) := MIe_sA mi_109 hO_92.1 t_94 h_97 eS_100 (by decide +kernel)
          have pz_111 : (pI S_100 1238 x).toInt = v_1.toInt := (congrArg Int32.toInt t_103).trans rfl
          have zc_112 : zA S_54 x 1239 = zA S x 1239 := (zA_sAn eS_54 (ex3 (gQ_12_1239 hO_T_39.1 ha_x_L_40)) h_52 rfl).trans zk_42
          have zc_113 : zA S_67 x 1239 = zA S x 1239 := (zA_sAn eS_67 (ex3 (gQ_12_1239 hO_55.1 t_57)) h_60 rfl).trans zc_112
          have zc_114 : zA S_82 x 1239 = zA S x 1239 := (zA_sAn eS_82 (ex3 (gQ_12_1239 hO_68.1 t_70)) h_73 rfl).trans zc_113
          have zc_115 : zA S_91 x 1239 = zA S x 1239 := (zA_sAn eS_91 (ex3 (gQ_12_1239 hO_83.1 t_85)) h_88 rfl).trans zc_114
          have zc_116 : zA S_100 x 1239 = zA S x 1239 := (zA_sAn eS_100 (ex3 (gQ_12_1239 hO_92.1 t_94)) h_97 rfl).trans zc_115
          refine r_putI (v := v_104) X hw t_102 rfl 38 1238 tyX12 (by decide) rfl inn_X12_cuts_12 tyX12_ok nmX12 (by decide) (X.2.2.2.1 (.fieldLink RX12 290 "SilkMillModel" "skeins" "I") (by decide +kernel)) rfl (Or.inl rfl) rfl rfl (Nat.le_of_ble_eq_true rfl) (st_1238 _ _) dX12_cuts_213 (fun H locs hw => ?_)
          obtain ⟨S_117, eS_117⟩ : ∃ T, T = sI S_100 1238 x (v_104) := ⟨_, rfl⟩
          rw [← eS_117] at hw
          have hO_118 : Ok MCU S S_117 := hO_101.sI eS_117 (by decide +kernel) (uI_12_1238 hO_101.1 t_102 (by omega) (by omega))
          have h_119 : pI S_117 1238 x = v_104 := tI_sIs eS_117
          refine lv_aload_n X.1 X.2.1 dX12_cuts_216 rfl (lv_at hl 3 rfl) ?_
          have t_120 : At S_117 x 12 := tAt_sI eS_117 t_102
          obtain ⟨q_121, h_122, h_123, h_124⟩ := gQ_12_1239 hO_118.1 t_120
          refine r_getR (g := 1239) X hw t_120 rfl 39 h_122 (by decide) rfl inn_X12_cuts_12 (by decide) (X.2.2.2.1 (.fieldLink RX12 100 "SilkMillModel" "firstMetre" "[I") (by decide +kernel)) rfl (gv_1239 _ _) dX12_cuts_217 ?_
          refine lv_aload_n X.1 X.2.1 dX12_cuts_220 rfl (lv_at hl 3 rfl) ?_
          refine r_getI (g := 1238) (x := v_104) X hw t_120 rfl 38 h_119 (by decide) rfl inn_X12_cuts_12 (by decide) (X.2.2.2.1 (.fieldLink RX12 290 "SilkMillModel" "skeins" "I") (by decide +kernel)) rfl (gv_1238 _ _) dX12_cuts_221 ?_
          refine lv_iload_n X.1 X.2.1 dX12_cuts_224 rfl (lv_at hl 1 rfl) ?_
          refine lv_iload_n X.1 X.2.1 dX12_cuts_225 rfl (lv_at hl 2 rfl) ?_
          refine lv_iadd X.1 X.2.1 dX12_cuts_226 ?_
          refine lv_topi (fun v_125 ev_125 => ?_)
          have z_126 : v_125.toInt = v_30.toInt + v_9.toInt := z_add ev_125 rfl rfl (by omega) (by omega)
          refine r_iast X hw h_123 rfl (by rw [h_124]; exact z_ix z_105 (by omega) (by omega)) dX12_cuts_227 (fun H locs hw => ?_)
          obtain ⟨S_127, eS_127⟩ : ∃ T, T = sA S_117 q_121 (upd (pA S_117 q_121) (Int32.toNatClampNeg (v_104)) (v_125)) := ⟨_, rfl⟩
          rw [← eS_127] at hw
          have hO_128 : Ok MCU S S_127 := hO_118.sA eS_127 h_123 (by decide +kernel) (uA_994 hO_118.1 h_123 (by omega) (by omega))
          have h_129 : pA S_127 q_121 (Int32.toNatClampNeg (v_104)) = v_125 := tA_sAs eS_127
          have t_130 : pR S_127 1239 x = some q_121 := tR_sA eS_127 h_122
          have t_132 : pR S_117 1239 x = some q_121 := by have h := t_130; rw [eS_127, pR_sA] at h; exact h
          have zs_131 : ∀ j, zA S_127 x 1239 j = if j = ((v_1.toInt + 1)).toNat then (v_30.toInt + v_9.toInt) else zA S_117 x 1239 j := by have h := zA_sAs eS_127 t_132 z_126; rw [z_nc z_105 (by omega)] at h; exact h
          have hA13 : (pI S_100 1238 x).toInt = v_1.toInt := by omega
          have hB13 : zA S_100 x 1239 (v_1.toInt).toNat = v_30.toInt := (congrFun zc_116 _).trans ((congrFun zc_36 _).symm.trans zf_32)
          have t_134 : pI S_127 1238 x = v_104 := tI_sA eS_127 h_119
          have mi_133 : MIe S_127 x (-1) := cut_MI (n := v_9.toInt) hO_101.1 t_102 ((show Fr [1238, 10994] S_100 S_117 by rw [eS_117]; exact Fr_sI (by decide)).trans (show Fr [1238, 10994] S_117 S_127 by rw [eS_127]; exact Fr_sA h_123 (by decide))) mi_110 (by omega) (by omega) (by omega) (by rw [t_134]; omega) (fun j => by rw [zs_131 j, zA_sI eS_117, hA13, hB13, show ((v_1.toInt + 1)).toNat = (v_1.toInt + 1).toNat by omega])
          refine lv_aload_n X.1 X.2.1 dX12_cuts_228 rfl (lv_at hl 3 rfl) ?_
          have t_135 : At S_127 x 12 := tAt_sA eS_127 t_120
          refine r_getI (g := 1238) (x := v_104) X hw t_135 rfl 38 t_134 (by decide) rfl inn_X12_cuts_12 (by decide) (X.2.2.2.1 (.fieldLink RX12 290 "SilkMillModel" "skeins" "I") (by decide +kernel)) rfl (gv_1238 _ _) dX12_cuts_229 ?_
          refine lv_iconst (v := 1) X.1 X.2.1 dX12_cuts_232 (by decide) ?_
          refine lv_isub X.1 X.2.1 dX12_cuts_233 ?_
          refine lv_topi (fun v_136 ev_136 => ?_)
          have z_137 : v_136.toInt = (v_1.toInt + 1) - 1 := z_sub ev_136 z_105 ti_1 (by omega) (by omega)
          have zc_138 : zA S_54 x 1237 = zA S_15 x 1237 := (zA_sAn eS_54 (ex3 (gQ_12_1237 hO_T_39.1 ha_x_L_40)) h_52 rfl).trans zk_41
          have zc_139 : zA S_67 x 1237 = zA S_15 x 1237 := (zA_sAn eS_67 (ex3 (gQ_12_1237 hO_55.1 t_57)) h_60 rfl).trans zc_138
          have zc_140 : zA S_82 x 1237 = zA S_15 x 1237 := (zA_sAn eS_82 (ex3 (gQ_12_1237 hO_68.1 t_70)) h_73 rfl).trans zc_139
          have zc_141 : zA S_91 x 1237 = zA S_15 x 1237 := (zA_sAn eS_91 (ex3 (gQ_12_1237 hO_83.1 t_85)) h_88 rfl).trans zc_140
          have zc_142 : zA S_100 x 1237 = zA S_15 x 1237 := (zA_sAn eS_100 (ex3 (gQ_12_1237 hO_92.1 t_94)) h_97 rfl).trans zc_141
          have zc_143 : zA S_117 x 1237 = zA S_15 x 1237 := (zA_sI eS_117).trans zc_142
          have zc_144 : zA S_127 x 1237 = zA S_15 x 1237 := (zA_sAn eS_127 (ex3 (gQ_12_1237 hO_118.1 t_120)) h_123 rfl).trans zc_143
          have zs_145 : ∀ j, zA S_127 x 1237 j = if j = (a1_z).toNat then 0 else zA S x 1237 j := fun j => by rw [zc_144]; exact zs_19 j
          have pz_146 : (pI S_127 1238 x).toInt = (v_1.toInt + 1) := (congrArg Int32.toInt t_134).trans z_105
          rw [hQQ]
          exact ret_i X hw hr hlocks (Nat.le_of_ble_eq_true rfl) (Nat.le_of_ble_eq_true rfl) ⟨hO_128, ⟨mi_133, zs_145, fun h => (by first | exact ⟨by have e1 : (v_136 : Int32).toInt = ((v_1.toInt + 1) - 1) := z_137; omega, by omega⟩ | (exfalso; omega)), fun h h2 => (by first | exact ⟨by have e1 : (v_136 : Int32).toInt = ((v_1.toInt + 1) - 1) := z_137; omega, by omega⟩ | (exfalso; omega)), fun h h2 => (by first | exact ⟨by have e1 : (v_136 : Int32).toInt = ((v_1.toInt + 1) - 1) := z_137; omega, by omega⟩ | (exfalso; omega))⟩⟩ dX12_cuts_234
        · have z_b_147 := trivial
          have k_148 : i4_38_z < v_9.toInt := z_nle rfl hz_i4_38 c_47
          refine lv_aload_n X.1 X.2.1 dX12_cuts_70 rfl (lv_at hl 3 rfl) ?_
          obtain ⟨q_149, h_150, h_151, h_152⟩ := gQ_12_1235 hO_T_39.1 ha_x_L_40
          refine r_getR (g := 1235) X hw ha_x_L_40 rfl 35 h_150 (by decide) rfl inn_X12_cuts_12 (by decide) (X.2.2.2.1 (.fieldLink RX12 90 "SilkMillModel" "metreEnds" "[I") (by decide +kernel)) rfl (gv_1235 _ _) dX12_cuts_71 ?_
          refine lv_iload_n X.1 X.2.1 dX12_cuts_74 rfl (lv_at hl 1 rfl) ?_
          refine lv_iload X.1 X.2.1 dX12_cuts_75 (lv_at hl 0 rfl) ?_
          refine lv_iadd X.1 X.2.1 dX12_cuts_77 ?_
          refine lv_topi (fun v_153 ev_153 => ?_)
          have z_154 : v_153.toInt = v_30.toInt + i4_38_z := z_add ev_153 rfl hz_i4_38 (by omega) (by omega)
          refine lv_aload_n X.1 X.2.1 dX12_cuts_78 rfl (lv_at hl 3 rfl) ?_
          refine r_getR (g := 1235) X hw ha_x_L_40 rfl 35 h_150 (by decide) rfl inn_X12_cuts_12 (by decide) (X.2.2.2.1 (.fieldLink RX12 90 "SilkMillModel" "metreEnds" "[I") (by decide +kernel)) rfl (gv_1235 _ _) dX12_cuts_79 ?_
          refine lv_aload_n X.1 X.2.1 dX12_cuts_82 rfl (lv_at hl 3 rfl) ?_
          refine lv_iload_n X.1 X.2.1 dX12_cuts_83 rfl (lv_at hl 4 rfl) ?_
          refine k_i (rm := { frames := 1, cells := 0, slots := 0, locals := 48 }) (av := [.ref x, .int (a1)]) X hw (va_runV (As := [.int (a1)]) (rest := [.ref q_149, .int (v_153), .ref q_149]) (cfix X) (k_X12_growing l G cy κ T_39 _ x (a1) (a1_z) hO_T_39.1 ha_x_L_40 hz_a1 (by first | assumption | omega) (by first | assumption | omega)) (cwV 1 X.2.2.2.1 gX12_cuts_X12_growing rfl rfl rfl (by decide +kernel) ⟨Nat.le_of_ble_eq_true rfl, Nat.le_of_ble_eq_true rfl⟩) (pre_V X hw _ ha_x_L_40 rfl (by decide) rfl) rfl rfl hl.1 rfl (lv_room (Nat.le_of_ble_eq_true rfl)) dX12_cuts_84 ⟨Nat.le_of_ble_eq_true rfl, Nat.le_of_ble_eq_true rfl⟩) 0 0 (Nat.le_of_ble_eq_true rfl) (Nat.le_of_ble_eq_true rfl) (fun rr_155 S_156 H locs hp hw hfr hnw => ?_)
          obtain ⟨e2, hp⟩ := hp
          subst e2
          have f_157 := hp
          refine lv_iload X.1 X.2.1 dX12_cuts_87 (lv_at hl 0 rfl) ?_
          refine lv_iadd X.1 X.2.1 dX12_cuts_89 ?_
          refine lv_topi (fun v_158 ev_158 => ?_)
          have z_159 : v_158.toInt = rr_155.toInt + i4_38_z := z_add ev_158 rfl hz_i4_38 (by omega) (by omega)
          refine r_iald X hw h_151 rfl (by rw [h_152]; exact z_ix z_159 (by omega) (by omega)) dX12_cuts_90 ?_
          refine lv_topi (fun v_160 ev_160 => ?_)
          have z_161 := gE_914 hO_T_39.1 h_151 (Int32.toNatClampNeg (v_158)); rw [← ev_160] at z_161
          have ev_160 := ev_160.symm
          refine r_iast X hw h_151 rfl (by rw [h_152]; exact z_ix z_154 (by omega) (by omega)) dX12_cuts_91 (fun H locs hw => ?_)
          obtain ⟨S_162, eS_162⟩ : ∃ T, T = sA T_39 q_149 (upd (pA T_39 q_149) (Int32.toNatClampNeg (v_153)) (v_160)) := ⟨_, rfl⟩
          rw [← eS_162] at hw
          have hO_163 : Ok MCU S S_162 := hO_T_39.sA eS_162 h_151 (by decide +kernel) (uA_914 hO_T_39.1 h_151 (by omega) (by omega))
          have h_164 : pA S_162 q_149 (Int32.toNatClampNeg (v_153)) = v_160 := tA_sAs eS_162
          refine lv_iconst (v := 0) X.1 X.2.1 dX12_cuts_92 (by decide) ?_
          refine lv_istore (lv' := [(5, .int 0), (4, .int (i4_38)), (3, .int (v_30)), (2, .int (v_9)), (0, .ref x), (1, .int (a1))]) X.1 X.2.1 dX12_cuts_93 hl (by decide) rfl (fun ls hl => ?_)
          have zc_169 : zA S_162 x 1237 = zA S_15 x 1237 := (zA_sAn eS_162 (ex3 (gQ_12_1237 hO_T_39.1 ha_x_L_40)) h_151 rfl).trans zk_41
          have zc_171 : zA S_162 x 1239 = zA S x 1239 := (zA_sAn eS_162 (ex3 (gQ_12_1239 hO_T_39.1 ha_x_L_40)) h_151 rfl).trans zk_42
          have t_174 : pI S_162 1238 x = v_1 := tI_sA eS_162 ik_44
          have L_165 : ∀ (n : Nat) (T_167 : PS) (H : Heap) (locs : List Loc) (ls : Array Slot) (i5_166 : Int32) (i5_166_z : Int), ((12 - i5_166_z).toNat = n) → (Wd G cy (AS S s.heap.size) s.heap T_167 H locs) → (i5_166.toInt = i5_166_z) → (0 ≤ i5_166_z ∧ i5_166_z ≤ 12) → (At T_167 x 12) → (Ok MCU S T_167) → (zA T_167 x 1237 = zA S_15 x 1237) → (zA T_167 x 1239 = zA S x 1239) → (MIe T_167 x (-1)) → (pI T_167 1238 x = v_1) → (lv_has ls 6 [(5, .int (i5_166)), (4, .int (i4_38)), (3, .int (v_30)), (2, .int (v_9)), (0, .ref x), (1, .int (a1))]) → W p l e ({ frames := 6, cells := 0, slots := 0, locals := 288 }) s m [.ref x, .int (a1)].toArray below meth c H locs 0 0 QQ (F0 m 95 ls []) := by
            intro n
            induction n using Nat.strongRecOn with
            | ind n ih_L_165 =>
            intro T_167 H locs ls i5_166 i5_166_z hn hw hz_i5_166 hr_i5_166 ha_x_L_168 hO_T_167 zk_170 zk_172 mk_173 ik_175 hl
            have rg_176 : (-2147483648) ≤ i5_166_z ∧ i5_166_z ≤ 2147483647 := by rw [← hz_i5_166]; exact ⟨z_lo _, z_hi _⟩
            have pz_177 : (pI T_167 1238 x).toInt = v_1.toInt := (congrArg Int32.toInt ik_175).trans rfl
            refine lv_iload X.1 X.2.1 dX12_cuts_95 (lv_at hl 0 rfl) ?_
            refine lv_bipush (v := 12) X.1 X.2.1 dX12_cuts_97 (by decide) ?_
            refine lv_icmp_ge (tgt := 142) X.1 X.2.1 dX12_cuts_99 (by decide) (fun c_178 => ?_) (fun c_178 => ?_)
            · have z_b_179 := trivial
              have k_180 : i5_166_z ≥ 12 := z_le ti_12 hz_i5_166 c_178
              obtain ⟨x_181, ex_181⟩ : ∃ y : Int32, y = i4_38 + 1 := ⟨_, rfl⟩
              have z_182 : x_181.toInt = i4_38_z + 1 := z_add ex_181 hz_i4_38 ti_1 (by omega) (by omega)
              refine lv_iinc (v := x_181) (lv' := [(4, .int (x_181)), (5, .int (i5_166)), (3, .int (v_30)), (2, .int (v_9)), (0, .ref x), (1, .int (a1))]) X.1 X.2.1 dX12_cuts_142 hl (k := 1) rfl (by rw [ex_181]; rfl) (by decide) rfl (fun ls hl => ?_)
              refine lv_goto (tgt := 64) X.1 X.2.1 dX12_cuts_145 (by decide) ?_
              exact ih_L_37 _ (by omega) _ _ _ _ (x_181) (x_181.toInt) rfl hw rfl (by omega) ha_x_L_168 hO_T_167 zk_170 zk_172 mk_173 ik_175 (lv_sub hl [0, 2, 3, 4, 5] rfl)
            · have z_b_183 := trivial
              have k_184 : i5_166_z < 12 := z_nle ti_12 hz_i5_166 c_178
              refine lv_aload_n X.1 X.2.1 dX12_cuts_102 rfl (lv_at hl 4 rfl) ?_
              obtain ⟨q_185, h_186, h_187, h_188⟩ := gQ_12_1236 hO_T_167.1 ha_x_L_168
              refine r_getR (g := 1236) X hw ha_x_L_168 rfl 36 h_186 (by decide) rfl inn_X12_cuts_12 (by decide) (X.2.2.2.1 (.fieldLink RX12 94 "SilkMillModel" "drawn" "[I") (by decide +kernel)) rfl (gv_1236 _ _) dX12_cuts_103 ?_
              refine lv_bipush (v := 12) X.1 X.2.1 dX12_cuts_106 (by decide) ?_
              refine lv_iload_n X.1 X.2.1 dX12_cuts_108 rfl (lv_at hl 2 rfl) ?_
              refine lv_iload X.1 X.2.1 dX12_cuts_109 (lv_at hl 1 rfl) ?_
              refine lv_iadd X.1 X.2.1 dX12_cuts_111 ?_
              refine lv_topi (fun v_189 ev_189 => ?_)
              have z_190 : v_189.toInt = v_30.toInt + i4_38_z := z_add ev_189 rfl hz_i4_38 (by omega) (by omega)
              refine lv_imul X.1 X.2.1 dX12_cuts_112 ?_
              refine lv_topi (fun v_191 ev_191 => ?_)
              have z_192 : v_191.toInt = 12 * (v_30.toInt + i4_38_z) := z_mul ev_191 ti_12 z_190 (by omega) (by omega)
              refine lv_iload X.1 X.2.1 dX12_cuts_113 (lv_at hl 0 rfl) ?_
              refine lv_iadd X.1 X.2.1 dX12_cuts_115 ?_
              refine lv_topi (fun v_193 ev_193 => ?_)
              have z_194 : v_193.toInt = (12 * (v_30.toInt + i4_38_z)) + i5_166_z := z_add ev_193 z_192 hz_i5_166 (by omega) (by omega)
              refine lv_aload_n X.1 X.2.1 dX12_cuts_116 rfl (lv_at hl 4 rfl) ?_
              refine r_getR (g := 1236) X hw ha_x_L_168 rfl 36 h_186 (by decide) rfl inn_X12_cuts_12 (by decide) (X.2.2.2.1 (.fieldLink RX12 94 "SilkMillModel" "drawn" "[I") (by decide +kernel)) rfl (gv_1236 _ _) dX12_cuts_117 ?_
              refine lv_bipush (v := 12) X.1 X.2.1 dX12_cuts_120 (by decide) ?_
              refine lv_aload_n X.1 X.2.1 dX12_cuts_122 rfl (lv_at hl 4 rfl) ?_
              refine lv_iload_n X.1 X.2.1 dX12_cuts_123 rfl (lv_at hl 5 rfl) ?_
              refine k_i (rm := { frames := 1, cells := 0, slots := 0, locals := 48 }) (av := [.ref x, .int (a1)]) X hw (va_runV (As := [.int (a1)]) (rest := [.int 12, .ref q_185, .int (v_193), .ref q_185]) (cfix X) (k_X12_growing l G cy κ T_167 _ x (a1) (a1_z) hO_T_167.1 ha_x_L_168 hz_a1 (by first | assumption | omega) (by first | assumption | omega)) (cwV 1 X.2.2.2.1 gX12_cuts_X12_growing rfl rfl rfl (by decide +kernel) ⟨Nat.le_of_ble_eq_true rfl, Nat.le_of_ble_eq_true rfl⟩) (pre_V X hw _ ha_x_L_168 rfl (by decide) rfl) rfl rfl hl.1 rfl (lv_room (Nat.le_of_ble_eq_true rfl)) dX12_cuts_124 ⟨Nat.le_of_ble_eq_true rfl, Nat.le_of_ble_eq_true rfl⟩) 0 0 (Nat.le_of_ble_eq_true rfl) (Nat.le_of_ble_eq_true rfl) (fun rr_195 S_196 H locs hp hw hfr hnw => ?_)
              obtain ⟨e2, hp⟩ := hp
              subst e2
              have f_197 := hp
              refine lv_iload X.1 X.2.1 dX12_cuts_127 (lv_at hl 1 rfl) ?_
              refine lv_iadd X.1 X.2.1 dX12_cuts_129 ?_
              refine lv_topi (fun v_198 ev_198 => ?_)
              have z_199 : v_198.toInt = rr_195.toInt + i4_38_z := z_add ev_198 rfl hz_i4_38 (by omega) (by omega)
              refine lv_imul X.1 X.2.1 dX12_cuts_130 ?_
              refine lv_topi (fun v_200 ev_200 => ?_)
              have z_201 : v_200.toInt = 12 * (rr_195.toInt + i4_38_z) := z_mul ev_200 ti_12 z_199 (by omega) (by omega)
              refine lv_iload X.1 X.2.1 dX12_cuts_131 (lv_at hl 0 rfl) ?_
              refine lv_iadd X.1 X.2.1 dX12_cuts_133 ?_
              refine lv_topi (fun v_202 ev_202 => ?_)
              have z_203 : v_202.toInt = (12 * (rr_195.toInt + i4_38_z)) + i5_166_z := z_add ev_202 z_201 hz_i5_166 (by omega) (by omega)
              refine r_iald X hw h_187 rfl (by rw [h_188]; exact z_ix z_203 (by omega) (by omega)) dX12_cuts_134 ?_
              refine lv_topi (fun v_204 ev_204 => ?_)
              have z_205 := gE_934 hO_T_167.1 h_187 (Int32.toNatClampNeg (v_202)); rw [← ev_204] at z_205
              have ev_204 := ev_204.symm
              have zf_206 : zA T_167 x 1236 (((12 * (rr_195.toInt + i4_38_z)) + i5_166_z)).toNat = v_204.toInt := (zA_of h_186 z_203 (by omega) ev_204)
              have dk_207 : dOK T_167 x v_204.toInt := dOK_6 mk_173 (j := ((12 * (rr_195.toInt + i4_38_z)) + i5_166_z)) (by omega) (by omega) zf_206
              refine r_iast X hw h_187 rfl (by rw [h_188]; exact z_ix z_194 (by omega) (by omega)) dX12_cuts_135 (fun H locs hw => ?_)
              obtain ⟨S_208, eS_208⟩ : ∃ T, T = sA T_167 q_185 (upd (pA T_167 q_185) (Int32.toNatClampNeg (v_193)) (v_204)) := ⟨_, rfl⟩
              rw [← eS_208] at hw
              have hO_209 : Ok MCU S S_208 := hO_T_167.sA eS_208 h_187 (by decide +kernel) (uA_934 hO_T_167.1 h_187 (by omega) (by omega))
              have h_210 : pA S_208 q_185 (Int32.toNatClampNeg (v_193)) = v_204 := tA_sAs eS_208
              have t_211 : pR S_208 1236 x = some q_185 := tR_sA eS_208 h_186
              have t_213 : pR T_167 1236 x = some q_185 := by have h := t_211; rw [eS_208, pR_sA] at h; exact h
              have zs_212 : ∀ j, zA S_208 x 1236 j = if j = (((12 * (v_30.toInt + i4_38_z)) + i5_166_z)).toNat then v_204.toInt else zA T_167 x 1236 j := by have h := zA_sAs eS_208 t_213 rfl; rw [z_nc z_194 (by omega)] at h; exact h
              have mi_214 : MIe S_208 x (-1) := drawn_MI hO_T_167.1 ha_x_L_168 (show Fr [10934] T_167 S_208 by rw [eS_208]; exact Fr_sA h_187 List.mem_cons_self) mk_173 zs_212 dk_207
              clear zs_212
              obtain ⟨x_215, ex_215⟩ : ∃ y : Int32, y = i5_166 + 1 := ⟨_, rfl⟩
              have z_216 : x_215.toInt = i5_166_z + 1 := z_add ex_215 hz_i5_166 ti_1 (by omega) (by omega)
              refine lv_iinc (v := x_215) (lv' := [(5, .int (x_215)), (4, .int (i4_38)), (3, .int (v_30)), (2, .int (v_9)), (0, .ref x), (1, .int (a1))]) X.1 X.2.1 dX12_cuts_136 hl (k := 0) rfl (by rw [ex_215]; rfl) (by decide) rfl (fun ls hl => ?_)
              refine lv_goto (tgt := 95) X.1 X.2.1 dX12_cuts_139 (by decide) ?_
              have t_217 : At S_208 x 12 := tAt_sA eS_208 ha_x_L_168
              have zc_218 : zA S_208 x 1237 = zA S_15 x 1237 := (zA_sAn eS_208 (ex3 (gQ_12_1237 hO_T_167.1 ha_x_L_168)) h_187 rfl).trans zk_170
              have zc_219 : zA S_208 x 1239 = zA S x 1239 := (zA_sAn eS_208 (ex3 (gQ_12_1239 hO_T_167.1 ha_x_L_168)) h_187 rfl).trans zk_172
              have t_220 : pI S_208 1238 x = v_1 := tI_sA eS_208 ik_175
              exact ih_L_165 _ (by omega) _ _ _ _ (x_215) (x_215.toInt) rfl hw rfl (by omega) t_217 hO_209 zc_218 zc_219 mi_214 t_220 (lv_sub hl [0, 1, 2, 3, 4, 5] rfl)
          have t_221 : At S_162 x 12 := tAt_sA eS_162 ha_x_L_40
          have mi_222 : MIe S_162 x (-1) := MIe_sA mk_43 hO_T_39.1 ha_x_L_40 h_151 eS_162 (by decide +kernel)
          exact L_165 _ _ _ _ _ (0) (0) rfl hw ti_0 (by omega) t_221 hO_163 zc_169 zc_171 mi_222 t_174 (lv_sub hl [0, 1, 2, 3, 4, 5] rfl)
      exact L_37 _ _ _ _ _ (0) (0) rfl hw ti_0 (by omega) t_21 hO_16 (Eq.refl _) zc_36 mi_35 t_22 (lv_sub hl [0, 1, 2, 3, 4] rfl)
    · have z_b_223 := trivial
      have k_224 : v_1.toInt = 40 := z_eq rfl ti_40 c_23
      refine lv_aload_n X.1 X.2.1 dX12_cuts_29 rfl (lv_at hl 1 rfl) ?_
      refine lv_dup X.1 X.2.1 dX12_cuts_30 rfl ?_
      obtain ⟨v_225, ev_225⟩ : ∃ v, pI S_15 1246 x = v := ⟨_, rfl⟩
      have rg_227 := And.intro (z_lo v_225) (z_hi v_225)
      have pz_228 : (pI S_15 1246 x).toInt = v_225.toInt := by rw [ev_225]
      refine r_getI (g := 1246) (x := v_225) X hw t_21 rfl 46 ev_225 (by decide) rfl inn_X12_cuts_12 (by decide) (X.2.2.2.1 (.fieldLink RX12 293 "SilkMillModel" "waste" "I") (by decide +kernel)) rfl (gv_1246 _ _) dX12_cuts_31 ?_
      refine lv_aload_n X.1 X.2.1 dX12_cuts_34 rfl (lv_at hl 1 rfl) ?_
      refine lv_aload_n X.1 X.2.1 dX12_cuts_35 rfl (lv_at hl 1 rfl) ?_
      refine lv_iload_n X.1 X.2.1 dX12_cuts_36 rfl (lv_at hl 2 rfl) ?_
      refine k_i (rm := { frames := 1, cells := 0, slots := 0, locals := 48 }) (av := [.ref x, .int (a1)]) X hw (va_runV (As := [.int (a1)]) (rest := [.ref x, .int (v_225), .ref x]) (cfix X) (k_X12_growing l G cy κ S_15 _ x (a1) (a1_z) hO_16.1 t_21 hz_a1 (by first | assumption | omega) (by first | assumption | omega)) (cwV 1 X.2.2.2.1 gX12_cuts_X12_growing rfl rfl rfl (by decide +kernel) ⟨Nat.le_of_ble_eq_true rfl, Nat.le_of_ble_eq_true rfl⟩) (pre_V X hw _ t_21 rfl (by decide) rfl) rfl rfl hl.1 rfl (lv_room (Nat.le_of_ble_eq_true rfl)) dX12_cuts_37 ⟨Nat.le_of_ble_eq_true rfl, Nat.le_of_ble_eq_true rfl⟩) 0 0 (Nat.le_of_ble_eq_true rfl) (Nat.le_of_ble_eq_true rfl) (fun rr_229 S_230 H locs hp hw hfr hnw => ?_)
      obtain ⟨e2, hp⟩ := hp
      subst e2
      have f_231 := hp
      refine lv_iload_n X.1 X.2.1 dX12_cuts_40 rfl (lv_at hl 0 rfl) ?_
      have mi_232 : MIe S_15 x (-1) := MIe_37 hp_2 hO.1 ha_x h_7 eS_15
      refine k_i (rm := { frames := 5, cells := 0, slots := 0, locals := 240 }) (av := [.ref x, .int (rr_229), .int (v_9)]) X hw (va_runV (As := [.int (rr_229), .int (v_9)]) (rest := [.int (v_225), .ref x]) (cfix X) (k_X12_weight l G cy κ S_15 _ x (rr_229) (rr_229.toInt) (v_9) (v_9.toInt) hO_16.1 t_21 rfl rfl (by first | assumption | omega) (by first | assumption | omega) (by first | assumption | omega) mi_232) (cwV 2 X.2.2.2.1 gX12_cuts_X12_weight rfl rfl rfl (by decide +kernel) ⟨Nat.le_of_ble_eq_true rfl, Nat.le_of_ble_eq_true rfl⟩) (pre_V X hw _ t_21 rfl (by decide) rfl) rfl rfl hl.1 rfl (lv_room (Nat.le_of_ble_eq_true rfl)) dX12_cuts_41 ⟨Nat.le_of_ble_eq_true rfl, Nat.le_of_ble_eq_true rfl⟩) 0 0 (Nat.le_of_ble_eq_true rfl) (Nat.le_of_ble_eq_true rfl) (fun rr_233 S_234 H locs hp hw hfr hnw => ?_)
      obtain ⟨e2, hp⟩ := hp
      subst e2
      have rg_235 := And.intro (z_lo rr_233) (z_hi rr_233)
      refine lv_iadd X.1 X.2.1 dX12_cuts_44 ?_
      refine lv_topi (fun v_236 ev_236 => ?_)
      have rg_237 := And.intro (z_lo v_236) (z_hi v_236)
      refine r_putI (v := v_236) X hw t_21 rfl 46 1246 tyX12 (by decide) rfl inn_X12_cuts_12 tyX12_ok nmX12 (by decide) (X.2.2.2.1 (.fieldLink RX12 293 "SilkMillModel" "waste" "I") (by decide +kernel)) rfl (Or.inl rfl) rfl rfl (Nat.le_of_ble_eq_true rfl) (st_1246 _ _) dX12_cuts_45 (fun H locs hw => ?_)
      obtain ⟨S_238, eS_238⟩ : ∃ T, T = sI S_15 1246 x (v_236) := ⟨_, rfl⟩
      rw [← eS_238] at hw
      have hO_239 : Ok MCU S S_238 := hO_16.sI eS_238 (by decide +kernel) (uI_12_1246 hO_16.1 t_21)
      have h_240 : pI S_238 1246 x = v_236 := tI_sIs eS_238
      refine lv_bipush (v := (-2)) X.1 X.2.1 dX12_cuts_48 (by decide) ?_
      have mi_241 : MIe S_238 x (-1) := MIe_sI mi_232 hO_16.1 t_21 eS_238 (by decide +kernel)
      have zc_242 : zA S_238 x 1237 = zA S_15 x 1237 := zA_sI eS_238
      have zs_243 : ∀ j, zA S_238 x 1237 j = if j = (a1_z).toNat then 0 else zA S x 1237 j := fun j => by rw [zc_242]; exact zs_19 j
      have t_244 : pI S_238 1238 x = v_1 := tI_sI eS_238 rfl t_22
      have pz_245 : (pI S_238 1238 x).toInt = v_1.toInt := (congrArg Int32.toInt t_244).trans rfl
      rw [hQQ]
      exact ret_i X hw hr hlocks (Nat.le_of_ble_eq_true rfl) (Nat.le_of_ble_eq_true rfl) ⟨hO_239, ⟨mi_241, zs_243, fun h => (by first | exact ⟨by have e1 : ((-2) : Int32).toInt = (-2) := ti_m2; omega, by omega⟩ | (exfalso; omega)), fun h h2 => (by first | exact ⟨by have e1 : ((-2) : Int32).toInt = (-2) := ti_m2; omega, by omega⟩ | (exfalso; omega)), fun h h2 => (by first | exact ⟨by have e1 : ((-2) : Int32).toInt = (-2) := ti_m2; omega, by omega⟩ | (exfalso; omega))⟩⟩ dX12_cuts_50
  · have z_b_246 := trivial
    have k_247 : v_9.toInt = 0 := z_eq rfl ti_0 c_12
    refine lv_iconst (v := (-1)) X.1 X.2.1 dX12_cuts_11 (by decide) ?_
    have pz_248 : (pI S 1238 x).toInt = v_1.toInt := (congrArg Int32.toInt ev_1).trans rfl
    rw [hQQ]
    exact ret_i X hw hr hlocks (Nat.le_of_ble_eq_true rfl) (Nat.le_of_ble_eq_true rfl) ⟨hO, ⟨hp_2, cut0 (by omega), fun h => (by first | exact ⟨by have e1 : ((-1) : Int32).toInt = (-1) := ti_m1; omega, by omega⟩ | (exfalso; omega)), fun h h2 => (by first | exact ⟨by have e1 : ((-1) : Int32).toInt = (-1) := ti_m1; omega, by omega⟩ | (exfalso; omega)), fun h h2 => (by first | exact ⟨by have e1 : ((-1) : Int32).toInt = (-1) := ti_m1; omega, by omega⟩ | (exfalso; omega))⟩⟩ dX12_cuts_12
set_option maxHeartbeats 4000000 in
set_option maxRecDepth 100000 in
theorem k_X12_acts5 (l : Launch) (G : va_G) (cy : Nat → ClassId) (κ : Nat → Nat) (S : PS) (sz : Nat) (x : Nat) (a1 : Int32) (a1_z : Int) (a2 : Int32) (a2_z : Int) (A : Pt) (Ev : En) (ru : Ru) (hG : GX S) (ha_x : At S x 12) (hz_a1 : a1.toInt = a1_z) (hz_a2 : a2.toInt = a2_z) (hp_0 : 0 ≤ a1_z) (hp_1 : a1_z ≤ 3) (hp_2 : 0 ≤ a2_z) (hp_3 : a2_z ≤ 59) (hp_4 : MI S x) (hp_5 : PotW S x a1_z A) (hp_6 : EnR S x a1_z Ev) (hp_7 : RuX S x a2_z ru) : Cv l yX12_acts wsX12_acts ({ frames := 7, cells := 0, slots := 0, locals := 336 }) G cy κ S sz [.ref x, .int (a1), .int (a2)] (fun (S9 : PS) => Ok MAC S S9 ∧ (MI S9 x ∧ (GR S x → GR S9 x) ∧ ZM S S9 x ∧ PotW S9 x a1_z (actF Ev ru.1 ru.2.1 A) ∧ PwX S S9 x a1_z)) := by
  refine ent_m (cc := cX12_acts) (maxL := 4) (ret := none) (by decide) rfl (Nat.le_of_ble_eq_true rfl) ?_
  intro p e s m below meth c ls X hr hlocks hin hw hl hsz
  subst hsz
  have X : Cx p c cX12_acts 4 s [.ref x, .int (a1), .int (a2)].toArray wsX12_acts RX12 m G cy κ (AS S s.heap.size) := X
  have hl : lv_has ls 4 [(0, .ref x), (1, .int (a1)), (2, .int (a2))] := hl
  have rg_a1 : (-2147483648) ≤ a1_z ∧ a1_z ≤ 2147483647 := by rw [← hz_a1]; exact ⟨z_lo _, z_hi _⟩
  have rg_a2 : (-2147483648) ≤ a2_z ∧ a2_z ≤ 2147483647 := by rw [← hz_a2]; exact ⟨z_lo _, z_hi _⟩
  have hO : Ok MAC S S := Ok.rf hG
  obtain ⟨v_1, ev_1⟩ : ∃ v, pI S 1201 x = v := ⟨_, rfl⟩
  have rg_2 := gI_12_1201 hO.1 ha_x; rw [ev_1] at rg_2
  have pz_3 : (pI S 1201 x).toInt = v_1.toInt := by rw [ev_1]
  have pz_4 : (pI S 1201 x).toInt = v_1.toInt := (congrArg Int32.toInt ev_1).trans rfl
  have hzm0 : ZM S S x := ZM_rf S x
  have hpw := hp_5
  obtain ⟨pw_5, pw_6, pw_7, pw_8, pw_9, pw_10, pw_11, pw_12, pw_13, pw_14⟩ := hpw
  obtain ⟨v_15, ev_15⟩ : ∃ v, pI S 1238 x = v := ⟨_, rfl⟩
  have rg_16 := gI_12_1238 hO.1 ha_x; rw [ev_15] at rg_16
  have pz_17 : (pI S 1238 x).toInt = v_15.toInt := by rw [ev_15]
  have pz_18 : (pI S 1238 x).toInt = v_15.toInt := (congrArg Int32.toInt ev_15).trans rfl
  have hrx := hp_7
  obtain ⟨hA1, hA2, hA3, hA4⟩ := hrx
  refine lv_aload_n X.1 X.2.1 dX12_acts_0 rfl (lv_at hl 0 rfl) ?_
  obtain ⟨q_19, h_20, h_21, h_22⟩ := gQ_12_1221 hO.1 ha_x
  refine r_getR (g := 1221) X hw ha_x rfl 21 h_20 (by decide) rfl inn_X12_acts_12 (by decide) (X.2.2.2.1 (.fieldLink RX12 64 "SilkMillModel" "act" "[I") (by decide +kernel)) rfl (gv_1221 _ _) dX12_acts_1 ?_
  refine lv_iload_n X.1 X.2.1 dX12_acts_4 rfl (lv_at hl 2 rfl) ?_
  refine r_iald X hw h_21 rfl (by rw [h_22]; exact z_ix hz_a2 (by omega) (by omega)) dX12_acts_5 ?_
  refine lv_topi (fun v_23 ev_23 => ?_)
  have rg_24 := And.intro (z_lo v_23) (z_hi v_23)
  have ev_23 := ev_23.symm
  have fa_25 : ru.1 = v_23 := by rw [← hA1, mA_eq h_20, ← z_nc hz_a2 (by omega), ev_23]
  by_cases w_26 : (v_23).toInt < 0 ∨ 4 < (v_23).toInt
  · refine lv_tableOut (tgt := 202) X.1 X.2.1 dX12_acts_6 w_26 (by decide) ?_
    refine lv_aload_n X.1 X.2.1 dX12_acts_202 rfl (lv_at hl 0 rfl) ?_
    obtain ⟨q_27, h_28, h_29, h_30⟩ := gQ_12_1215 hO.1 ha_x
    refine r_getR (g := 1215) X hw ha_x rfl 15 h_28 (by decide) rfl inn_X12_acts_12 (by decide) (X.2.2.2.1 (.fieldLink RX12 46 "SilkMillModel" "stop" "[I") (by decide +kernel)) rfl (gv_1215 _ _) dX12_acts_203 ?_
    refine lv_iload_n X.1 X.2.1 dX12_acts_206 rfl (lv_at hl 1 rfl) ?_
    refine lv_dup2_11 X.1 X.2.1 dX12_acts_207 rfl rfl ?_
    refine r_iald X hw h_29 rfl (by rw [h_30]; exact z_ix hz_a1 (by omega) (by omega)) dX12_acts_208 ?_
    refine lv_topi (fun v_31 ev_31 => ?_)
    have rg_32 := And.intro (z_lo v_31) (z_hi v_31)
    have ev_31 := ev_31.symm
    have zf_33 : zA S x 1215 (a1_z).toNat = v_31.toInt := (zA_of h_28 hz_a1 (by omega) ev_31)
    have us_34 : v_31 = (qst A) := Int32.toInt_inj.mp (rfl.trans (zf_33.symm.trans pw_8))
    refine lv_aload_n X.1 X.2.1 dX12_acts_209 rfl (lv_at hl 0 rfl) ?_
    obtain ⟨q_35, h_36, h_37, h_38⟩ := gQ_12_1222 hO.1 ha_x
    refine r_getR (g := 1222) X hw ha_x rfl 22 h_36 (by decide) rfl inn_X12_acts_12 (by decide) (X.2.2.2.1 (.fieldLink RX12 67 "SilkMillModel" "actNumber" "[I") (by decide +kernel)) rfl (gv_1222 _ _) dX12_acts_210 ?_
    refine lv_iload_n X.1 X.2.1 dX12_acts_213 rfl (lv_at hl 2 rfl) ?_
    refine r_iald X hw h_37 rfl (by rw [h_38]; exact z_ix hz_a2 (by omega) (by omega)) dX12_acts_214 ?_
    refine lv_topi (fun v_39 ev_39 => ?_)
    have rg_40 := And.intro (z_lo v_39) (z_hi v_39)
    have ev_39 := ev_39.symm
    have zf_41 : zA S x 1222 (a2_z).toNat = v_39.toInt := (zA_of h_36 hz_a2 (by omega) ev_39)
    have fa_42 : ru.2.1 = v_39 := Int32.toInt_inj.mp (by rw [← hA2, ← zA_eq, show a2_z.toNat = (a2_z).toNat by omega, zf_41])
    refine lv_iadd X.1 X.2.1 dX12_acts_215 ?_
    refine lv_topi (fun v_43 ev_43 => ?_)
    have rg_44 := And.intro (z_lo v_43) (z_hi v_43)
    refine r_iast X hw h_29 rfl (by rw [h_30]; exact z_ix hz_a1 (by omega) (by omega)) dX12_acts_216 (fun H locs hw => ?_)
    obtain ⟨S_45, eS_45⟩ : ∃ T, T = sA S q_27 (upd (pA S q_27) (Int32.toNatClampNeg (a1)) (v_43)) := ⟨_, rfl⟩
    rw [← eS_45] at hw
    have hO_46 : Ok MAC S S_45 := hO.sA eS_45 h_29 (by decide +kernel) (uA_514 hO.1 h_29)
    have h_47 : pA S_45 q_27 (Int32.toNatClampNeg (a1)) = v_43 := tA_sAs eS_45
    have t_48 : pR S_45 1215 x = some q_27 := tR_sA eS_45 h_28
    have t_50 : pR S 1215 x = some q_27 := by have h := t_48; rw [eS_45, pR_sA] at h; exact h
    have zs_49 : ∀ j, zA S_45 x 1215 j = if j = (a1_z).toNat then v_43.toInt else zA S x 1215 j := by have h := zA_sAs eS_45 t_50 rfl; rw [z_nc hz_a1 (by omega)] at h; exact h
    have mi_51 : MIe S_45 x (-1) := MIe_sA hp_4 hO.1 ha_x h_29 eS_45 (by decide +kernel)
    have zc_52 : zA S_45 x 1237 = zA S x 1237 := zA_sAn eS_45 (ex3 (gQ_12_1237 hO.1 ha_x)) h_29 rfl
    have zm_53 : ZM S S_45 x := ZM_eq hzm0 (zA_sAn eS_45 (ex3 (gQ_12_1207 hO.1 ha_x)) h_29 rfl)
    have rR_54 : RowR S_45 x (3 * a1_z + 0).toNat (qb A) := RowR_eq pw_5 (zA_sAn eS_45 (ex3 (gQ_12_1218 hO.1 ha_x)) h_29 rfl) (zA_sAn eS_45 (ex3 (gQ_12_1219 hO.1 ha_x)) h_29 rfl)
    have rR_55 : RowR S_45 x (3 * a1_z + 1).toNat (qe A) := RowR_eq pw_6 (zA_sAn eS_45 (ex3 (gQ_12_1218 hO.1 ha_x)) h_29 rfl) (zA_sAn eS_45 (ex3 (gQ_12_1219 hO.1 ha_x)) h_29 rfl)
    have rR_56 : RowR S_45 x (3 * a1_z + 2).toNat (ql A) := RowR_eq pw_7 (zA_sAn eS_45 (ex3 (gQ_12_1218 hO.1 ha_x)) h_29 rfl) (zA_sAn eS_45 (ex3 (gQ_12_1219 hO.1 ha_x)) h_29 rfl)
    have zR_57 : zA S_45 x 1215 a1_z.toNat = (((qst A) + ru.2.1)).toInt := (by rw [zs_49, if_pos (by omega)]; exact (congrArg Int32.toInt (ev_43.trans (by rw [us_34, ← fa_42]))))
    have zR_58 : zA S_45 x 1214 a1_z.toNat = ((qse A)).toInt := (congrFun (zA_sAn eS_45 (ex3 (gQ_12_1214 hO.1 ha_x)) h_29 rfl) _).trans pw_9
    have zR_59 : zA S_45 x 1216 a1_z.toNat = ((qdr A)).toInt := (congrFun (zA_sAn eS_45 (ex3 (gQ_12_1216 hO.1 ha_x)) h_29 rfl) _).trans pw_11
    have zR_60 : zA S_45 x 1217 a1_z.toNat = ((qtk A)).toInt := (congrFun (zA_sAn eS_45 (ex3 (gQ_12_1217 hO.1 ha_x)) h_29 rfl) _).trans pw_12
    have gR_61 : zA S_45 x 1237 a1_z.toNat = (((qg A)).length : Int) := (congrFun (zA_sAn eS_45 (ex3 (gQ_12_1237 hO.1 ha_x)) h_29 rfl) _).trans pw_10
    have pz_62 : PlZ S_45 x (qpl A) (qsd A) := PlZ_eq pw_14 (zA_sAn eS_45 (ex3 (gQ_12_1208 hO.1 ha_x)) h_29 rfl) (zA_sAn eS_45 (ex3 (gQ_12_1207 hO.1 ha_x)) h_29 rfl)
    have t_63 : pI S_45 1238 x = v_15 := tI_sA eS_45 ev_15
    have pz_64 : (pI S_45 1238 x).toInt = v_15.toInt := (congrArg Int32.toInt t_63).trans rfl
    have px_65 : PwX S S_45 x a1_z := PwX_z (PwX_rf S x a1_z) (zA_sAn eS_45 (ex3 (gQ_12_1218 hO.1 ha_x)) h_29 rfl) (zA_sAn eS_45 (ex3 (gQ_12_1219 hO.1 ha_x)) h_29 rfl) zs_49 (by omega) (pw4 (fun _ => zA_sAn eS_45 (ex3 (gQ_12_1214 hO.1 ha_x)) h_29 rfl) (fun h => absurd rfl h) (fun _ => zA_sAn eS_45 (ex3 (gQ_12_1216 hO.1 ha_x)) h_29 rfl) (fun _ => zA_sAn eS_45 (ex3 (gQ_12_1217 hO.1 ha_x)) h_29 rfl) (fun _ => zA_sAn eS_45 (ex3 (gQ_12_1237 hO.1 ha_x)) h_29 rfl))
    exact ret_v X hw hr hlocks (Nat.le_of_ble_eq_true rfl) (Nat.le_of_ble_eq_true rfl) ⟨hO_46, ⟨mi_51, fun hgr => (GR_eq zc_52 hgr), zm_53, PotW_of (actF_d (show ru.1.toInt = v_23.toInt from (congrArg Int32.toInt fa_25).trans rfl) (by omega)) rR_54 rR_55 rR_56 zR_57 zR_58 gR_61 zR_59 zR_60 (show (pI S_45 1238 x).toInt = (((qsk A)).length : Int) by omega) pz_62, px_65⟩⟩ dX12_acts_217
  have w_26b : (v_23).toInt = 0 ∨ (v_23).toInt = 1 ∨ (v_23).toInt = 2 ∨ (v_23).toInt = 3 ∨ (v_23).toInt = 4 := by omega
  rcases w_26b with w_26c | w_26c | w_26c | w_26c | w_26c
  · refine lv_tableIn (tgt := 40) X.1 X.2.1 dX12_acts_6 (by omega) (by omega) (by rw [w_26c]; rfl) (by decide) ?_
    refine lv_aload_n X.1 X.2.1 dX12_acts_40 rfl (lv_at hl 0 rfl) ?_
    refine lv_iload_n X.1 X.2.1 dX12_acts_41 rfl (lv_at hl 1 rfl) ?_
    refine lv_iconst (v := 0) X.1 X.2.1 dX12_acts_42 (by decide) ?_
    refine k_i (rm := { frames := 1, cells := 0, slots := 0, locals := 48 }) (av := [.ref x, .int (a1), .int 0]) X hw (va_runV (As := [.int (a1), .int 0]) (rest := []) (cfix X) (k_X12_many2 l G cy κ S _ x (a1) (a1_z) (0) (0) hO.1 ha_x hz_a1 ti_0 (by first | assumption | omega) (by first | assumption | omega) (by first | assumption | omega) (by first | assumption | omega)) (cwV 2 X.2.2.2.1 gX12_acts_X12_many rfl rfl rfl (by decide +kernel) ⟨Nat.le_of_ble_eq_true rfl, Nat.le_of_ble_eq_true rfl⟩) (pre_V X hw _ ha_x rfl (by decide) rfl) rfl rfl hl.1 rfl (lv_room (Nat.le_of_ble_eq_true rfl)) dX12_acts_43 ⟨Nat.le_of_ble_eq_true rfl, Nat.le_of_ble_eq_true rfl⟩) 0 0 (Nat.le_of_ble_eq_true rfl) (Nat.le_of_ble_eq_true rfl) (fun rr_66 S_67 H locs hp hw hfr hnw => ?_)
    obtain ⟨e2, hp⟩ := hp
    subst e2
    obtain ⟨f_68, f_69, f_70⟩ := hp
    refine lv_if_le (tgt := 79) X.1 X.2.1 dX12_acts_46 (by decide) (fun c_71 => ?_) (fun c_71 => ?_)
    · have z_b_72 := trivial
      have k_73 : rr_66.toInt ≤ 0 := z_le rfl ti_0 c_71
      have pz_74 : (pI S 1238 x).toInt = v_15.toInt := (congrArg Int32.toInt ev_15).trans rfl
      exact ret_v X hw hr hlocks (Nat.le_of_ble_eq_true rfl) (Nat.le_of_ble_eq_true rfl) ⟨hO, ⟨hp_4, fun hgr => hgr, hzm0, PotW_of ((actF_0 (show ru.1.toInt = 0 by rw [fa_25]; have e1 : (v_23 : Int32).toInt = v_23.toInt := rfl; omega)).trans (casF_n (by first | exact Or.inl (List.eq_nil_of_length_eq_zero (by have := pw_5.1; omega)) | exact Or.inr (by have := pw_6.1; omega)))) pw_5 pw_6 pw_7 pw_8 pw_9 pw_10 pw_11 pw_12 (show (pI S 1238 x).toInt = (((qsk A)).length : Int) by omega) pw_14, (PwX_rf S x a1_z)⟩⟩ dX12_acts_79
    · have z_b_75 := trivial
      have k_76 : rr_66.toInt > 0 := z_nle rfl ti_0 c_71
      refine lv_aload_n X.1 X.2.1 dX12_acts_49 rfl (lv_at hl 0 rfl) ?_
      refine lv_iload_n X.1 X.2.1 dX12_acts_50 rfl (lv_at hl 1 rfl) ?_
      refine lv_iconst (v := 1) X.1 X.2.1 dX12_acts_51 (by decide) ?_
      refine k_i (rm := { frames := 1, cells := 0, slots := 0, locals := 48 }) (av := [.ref x, .int (a1), .int 1]) X hw (va_runV (As := [.int (a1), .int 1]) (rest := []) (cfix X) (k_X12_many2 l G cy κ S _ x (a1) (a1_z) (1) (1) hO.1 ha_x hz_a1 ti_1 (by first | assumption | omega) (by first | assumption | omega) (by first | assumption | omega) (by first | assumption | omega)) (cwV 2 X.2.2.2.1 gX12_acts_X12_many rfl rfl rfl (by decide +kernel) ⟨Nat.le_of_ble_eq_true rfl, Nat.le_of_ble_eq_true rfl⟩) (pre_V X hw _ ha_x rfl (by decide) rfl) rfl rfl hl.1 rfl (lv_room (Nat.le_of_ble_eq_true rfl)) dX12_acts_52 ⟨Nat.le_of_ble_eq_true rfl, Nat.le_of_ble_eq_true rfl⟩) 0 0 (Nat.le_of_ble_eq_true rfl) (Nat.le_of_ble_eq_true rfl) (fun rr_77 S_78 H locs hp hw hfr hnw => ?_)
      obtain ⟨e2, hp⟩ := hp
      subst e2
      obtain ⟨f_79, f_80, f_81⟩ := hp
      refine lv_bipush (v := 12) X.1 X.2.1 dX12_acts_55 (by decide) ?_
      refine lv_icmp_ge (tgt := 79) X.1 X.2.1 dX12_acts_57 (by decide) (fun c_82 => ?_) (fun c_82 => ?_)
      · have z_b_83 := trivial
        have k_84 : rr_77.toInt ≥ 12 := z_le ti_12 rfl c_82
        have pz_85 : (pI S 1238 x).toInt = v_15.toInt := (congrArg Int32.toInt ev_15).trans rfl
        exact ret_v X hw hr hlocks (Nat.le_of_ble_eq_true rfl) (Nat.le_of_ble_eq_true rfl) ⟨hO, ⟨hp_4, fun hgr => hgr, hzm0, PotW_of ((actF_0 (show ru.1.toInt = 0 by rw [fa_25]; have e1 : (v_23 : Int32).toInt = v_23.toInt := rfl; omega)).trans (casF_n (by first | exact Or.inl (List.eq_nil_of_length_eq_zero (by have := pw_5.1; omega)) | exact Or.inr (by have := pw_6.1; omega)))) pw_5 pw_6 pw_7 pw_8 pw_9 pw_10 pw_11 pw_12 (show (pI S 1238 x).toInt = (((qsk A)).length : Int) by omega) pw_14, (PwX_rf S x a1_z)⟩⟩ dX12_acts_79
      · have z_b_86 := trivial
        have k_87 : rr_77.toInt < 12 := z_nle ti_12 rfl c_82
        refine lv_aload_n X.1 X.2.1 dX12_acts_60 rfl (lv_at hl 0 rfl) ?_
        refine lv_iload_n X.1 X.2.1 dX12_acts_61 rfl (lv_at hl 1 rfl) ?_
        refine lv_iconst (v := 1) X.1 X.2.1 dX12_acts_62 (by decide) ?_
        refine lv_aload_n X.1 X.2.1 dX12_acts_63 rfl (lv_at hl 0 rfl) ?_
        refine lv_iload_n X.1 X.2.1 dX12_acts_64 rfl (lv_at hl 1 rfl) ?_
        refine lv_iconst (v := 0) X.1 X.2.1 dX12_acts_65 (by decide) ?_
        refine lv_iconst (v := 0) X.1 X.2.1 dX12_acts_66 (by decide) ?_
        refine k_i (rm := { frames := 1, cells := 0, slots := 0, locals := 48 }) (av := [.ref x, .int (a1), .int 0, .int 0]) X hw (va_runV (As := [.int (a1), .int 0, .int 0]) (rest := [.int 1, .int (a1), .ref x]) (cfix X) (k_X12_goes5 l G cy κ S _ x (a1) (a1_z) (0) (0) (0) (0) (-1) hO.1 ha_x hz_a1 ti_0 ti_0 (by first | assumption | omega) (by first | assumption | omega) (by first | assumption | omega) (by first | assumption | omega) (by first | assumption | omega) (by first | assumption | omega) hp_4) (cwV 3 X.2.2.2.1 gX12_acts_X12_goes rfl rfl rfl (by decide +kernel) ⟨Nat.le_of_ble_eq_true rfl, Nat.le_of_ble_eq_true rfl⟩) (pre_V X hw _ ha_x rfl (by decide) rfl) rfl rfl hl.1 rfl (lv_room (Nat.le_of_ble_eq_true rfl)) dX12_acts_67 ⟨Nat.le_of_ble_eq_true rfl, Nat.le_of_ble_eq_true rfl⟩) 0 0 (Nat.le_of_ble_eq_true rfl) (Nat.le_of_ble_eq_true rfl) (fun rr_88 S_89 H locs hp hw hfr hnw => ?_)
        obtain ⟨hk_90, hp⟩ := hp
        have hO_91 : Ok MAC S S_89 := hO.call hk_90 (by decide +kernel)
        obtain ⟨g_92, g_93, g_94, g_95, g_96, g_97, g_98, g_99, g_100⟩ := hp
        obtain ⟨dn_101, dn_102⟩ : ∃ d, ((qb A))[((0 : Int)).toNat]? = some d := ⟨_, List.getElem?_eq_getElem (by have := pw_5.1; omega)⟩
        have dn_103 : rr_88.toInt = (dn_101 : Int) := by have h8 := pw_5.2 _ _ dn_102; have hi : (600 * (3 * a1_z + 0) + 0).toNat = 600 * (3 * a1_z + 0).toNat + ((0 : Int)).toNat := (by omega); rw [← hi] at h8; omega
        have t_104 : pI S_89 1201 x = v_1 := hk_90.fr.I' (by decide +kernel) ha_x ev_1
        have pz_105 : (pI S_89 1201 x).toInt = v_1.toInt := (congrArg Int32.toInt t_104).trans rfl
        have zl_106 : zA S_89 x 1207 = zA S x 1207 := zA_fr hk_90.fr ha_x (ex3 (gQ_12_1207 hO.1 ha_x)) (by decide +kernel) (by decide +kernel)
        have zz_107 := congrFun zl_106 (rr_88.toInt).toNat
        have al_108 := ((MI_1 g_97 (c := rr_88.toInt) (by omega) (by omega)).2 (by omega)).2 (by omega) (by omega)
        have gi_109 := g_99 (3 * a1_z + 1).toNat; rw [if_neg (by omega)] at gi_109
        have m4_110 := g_97.2.2.2.1.2 (3 * a1_z + 1).toNat (by omega)
        refine lv_aload_n X.1 X.2.1 dX12_acts_70 rfl (lv_at hl 0 rfl) ?_
        refine lv_iload_n X.1 X.2.1 dX12_acts_71 rfl (lv_at hl 1 rfl) ?_
        refine lv_iconst (v := 1) X.1 X.2.1 dX12_acts_72 (by decide) ?_
        have t_111 : At S_89 x 12 := hk_90.fr.at ha_x
        refine k_i (rm := { frames := 1, cells := 0, slots := 0, locals := 48 }) (av := [.ref x, .int (a1), .int 1]) X hw (va_runV (As := [.int (a1), .int 1]) (rest := [.int (rr_88), .int 1, .int (a1), .ref x]) (cfix X) (k_X12_many2 l G cy κ S_89 _ x (a1) (a1_z) (1) (1) hO_91.1 t_111 hz_a1 ti_1 (by first | assumption | omega) (by first | assumption | omega) (by first | assumption | omega) (by first | assumption | omega)) (cwV 2 X.2.2.2.1 gX12_acts_X12_many rfl rfl rfl (by decide +kernel) ⟨Nat.le_of_ble_eq_true rfl, Nat.le_of_ble_eq_true rfl⟩) (pre_V X hw _ t_111 rfl (by decide) rfl) rfl rfl hl.1 rfl (lv_room (Nat.le_of_ble_eq_true rfl)) dX12_acts_73 ⟨Nat.le_of_ble_eq_true rfl, Nat.le_of_ble_eq_true rfl⟩) 0 0 (Nat.le_of_ble_eq_true rfl) (Nat.le_of_ble_eq_true rfl) (fun rr_112 S_113 H locs hp hw hfr hnw => ?_)
        obtain ⟨e2, hp⟩ := hp
        subst e2
        obtain ⟨f_114, f_115, f_116⟩ := hp
        refine k_v (rm := { frames := 1, cells := 0, slots := 0, locals := 48 }) (av := [.ref x, .int (a1), .int 1, .int (rr_88), .int (rr_112)]) X hw (va_runV (As := [.int (a1), .int 1, .int (rr_88), .int (rr_112)]) (rest := []) (cfix X) (k_X12_comes5 l G cy κ S_89 _ x (a1) (a1_z) (1) (1) (rr_88) (rr_88.toInt) (rr_112) (rr_112.toInt) hO_91.1 t_111 hz_a1 ti_1 rfl rfl (by first | assumption | omega) (by first | assumption | omega) (by first | assumption | omega) (by first | assumption | omega) (by first | assumption | omega) (by first | assumption | omega) (by first | assumption | omega) (by first | assumption | omega) (by first | assumption | omega) (by first | assumption | omega) g_97 (by first | assumption | omega) (by first | assumption | omega)) (cwV 4 X.2.2.2.1 gX12_acts_X12_comes rfl rfl rfl (by decide +kernel) ⟨Nat.le_of_ble_eq_true rfl, Nat.le_of_ble_eq_true rfl⟩) (pre_V X hw _ t_111 rfl (by decide) rfl) rfl rfl hl.1 rfl (lv_room (Nat.le_of_ble_eq_true rfl)) dX12_acts_76 ⟨Nat.le_of_ble_eq_true rfl, Nat.le_of_ble_eq_true rfl⟩) 0 0 (Nat.le_of_ble_eq_true rfl) (Nat.le_of_ble_eq_true rfl) (fun S_118 H locs hp hw hfr hnw => ?_)
        obtain ⟨hk_119, hp⟩ := hp
        have hO_120 : Ok MAC S S_118 := hO_91.call hk_119 (by decide +kernel)
        obtain ⟨mi_121, cm_122, cs_123, cx_124⟩ := hp
        have zc_125 : zA S_89 x 1237 = zA S x 1237 := zA_fr hk_90.fr ha_x (ex3 (gQ_12_1237 hO.1 ha_x)) (by decide +kernel) (by decide +kernel)
        have zc_126 : zA S_118 x 1237 = zA S x 1237 := (zA_fr hk_119.fr t_111 (ex3 (gQ_12_1237 hO_91.1 t_111)) (by decide +kernel) (by decide +kernel)).trans zc_125
        have zm_127 : ZM S S_89 x := ZM_eq hzm0 (zA_fr hk_90.fr ha_x (ex3 (gQ_12_1207 hO.1 ha_x)) (by decide +kernel) (by decide +kernel))
        have zm_128 : ZM S S_118 x := ZM_set zm_127 cs_123 ⟨by omega, by omega⟩ ⟨by omega, by omega⟩
        have rR_129 : RowR S_89 x (3 * a1_z + 0).toNat ((qb A).tail) := RowR_goes0 pw_5 g_100 (by have := pw_5.1; omega)
        have rR_130 : RowR S_118 x (3 * a1_z + 0).toNat ((qb A).tail) := RowR_cmx hO_91.1 t_111 (by omega) rR_129 cx_124
        have rR_131 : RowR S_89 x (3 * a1_z + 1).toNat (qe A) := RowR_gox hO.1 ha_x (by omega) pw_6 g_100
        have cap_133 : ((qe A)).length < 600 := by have h1 := rR_131.1; have h2 := cx_124.2.2.2.1; omega
        have rR_132 : RowR S_118 x (3 * a1_z + 1).toNat ((qe A) ++ [dn_101]) := RowR_last rR_131 (show CmO S_89 S_118 x (3 * a1_z + 1).toNat ((qe A)).length (rr_88.toInt) by rw [show ((qe A)).length = (rr_112.toInt).toNat by have := rR_131.1; omega]; exact cx_124) dn_103
        have rR_134 : RowR S_89 x (3 * a1_z + 2).toNat (ql A) := RowR_gox hO.1 ha_x (by omega) pw_7 g_100
        have rR_135 : RowR S_118 x (3 * a1_z + 2).toNat (ql A) := RowR_cmx hO_91.1 t_111 (by omega) rR_134 cx_124
        have zR_136 : zA S_89 x 1215 a1_z.toNat = ((qst A)).toInt := (congrFun (zA_fr hk_90.fr ha_x (ex3 (gQ_12_1215 hO.1 ha_x)) (by decide +kernel) (by decide +kernel)) _).trans pw_8
        have zR_137 : zA S_118 x 1215 a1_z.toNat = ((qst A)).toInt := (congrFun (zA_fr hk_119.fr t_111 (ex3 (gQ_12_1215 hO_91.1 t_111)) (by decide +kernel) (by decide +kernel)) _).trans zR_136
        have zR_138 : zA S_89 x 1214 a1_z.toNat = ((qse A)).toInt := (congrFun (zA_fr hk_90.fr ha_x (ex3 (gQ_12_1214 hO.1 ha_x)) (by decide +kernel) (by decide +kernel)) _).trans pw_9
        have zR_139 : zA S_118 x 1214 a1_z.toNat = ((qse A)).toInt := (congrFun (zA_fr hk_119.fr t_111 (ex3 (gQ_12_1214 hO_91.1 t_111)) (by decide +kernel) (by decide +kernel)) _).trans zR_138
        have zR_140 : zA S_89 x 1216 a1_z.toNat = ((qdr A)).toInt := (congrFun (zA_fr hk_90.fr ha_x (ex3 (gQ_12_1216 hO.1 ha_x)) (by decide +kernel) (by decide +kernel)) _).trans pw_11
        have zR_141 : zA S_118 x 1216 a1_z.toNat = ((qdr A)).toInt := (congrFun (zA_fr hk_119.fr t_111 (ex3 (gQ_12_1216 hO_91.1 t_111)) (by decide +kernel) (by decide +kernel)) _).trans zR_140
        have zR_142 : zA S_89 x 1217 a1_z.toNat = ((qtk A)).toInt := (congrFun (zA_fr hk_90.fr ha_x (ex3 (gQ_12_1217 hO.1 ha_x)) (by decide +kernel) (by decide +kernel)) _).trans pw_12
        have zR_143 : zA S_118 x 1217 a1_z.toNat = ((qtk A)).toInt := (congrFun (zA_fr hk_119.fr t_111 (ex3 (gQ_12_1217 hO_91.1 t_111)) (by decide +kernel) (by decide +kernel)) _).trans zR_142
        have gR_144 : zA S_89 x 1237 a1_z.toNat = (((qg A)).length : Int) := (congrFun (zA_fr hk_90.fr ha_x (ex3 (gQ_12_1237 hO.1 ha_x)) (by decide +kernel) (by decide +kernel)) _).trans pw_10
        have gR_145 : zA S_118 x 1237 a1_z.toNat = (((qg A)).length : Int) := (congrFun (zA_fr hk_119.fr t_111 (ex3 (gQ_12_1237 hO_91.1 t_111)) (by decide +kernel) (by decide +kernel)) _).trans gR_144
        have pz_146 : PlZ S_89 x (qpl A) (qsd A) := PlZ_eq pw_14 (zA_fr hk_90.fr ha_x (ex3 (gQ_12_1208 hO.1 ha_x)) (by decide +kernel) (by decide +kernel)) (zA_fr hk_90.fr ha_x (ex3 (gQ_12_1207 hO.1 ha_x)) (by decide +kernel) (by decide +kernel))
        have pz_147 : PlZ S_118 x (qpl A) (fuI (qsd A) dn_101 2) := PlZ_7 pz_146 (zA_fr hk_119.fr t_111 (ex3 (gQ_12_1208 hO_91.1 t_111)) (by decide +kernel) (by decide +kernel)) cs_123 (by omega) (by decide)
        have t_148 : pI S_89 1238 x = v_15 := hk_90.fr.I' (by decide +kernel) ha_x ev_15
        have t_149 : pI S_118 1238 x = v_15 := hk_119.fr.I' (by decide +kernel) t_111 t_148
        have pz_150 : (pI S_118 1238 x).toInt = v_15.toInt := (congrArg Int32.toInt t_149).trans rfl
        have px_151 : PwX S S_89 x a1_z := PwX_go (PwX_rf S x a1_z) hO.1 ha_x (by omega) g_100 (pw5 (zA_fr hk_90.fr ha_x (ex3 (gQ_12_1214 hO.1 ha_x)) (by decide +kernel) (by decide +kernel)) (zA_fr hk_90.fr ha_x (ex3 (gQ_12_1215 hO.1 ha_x)) (by decide +kernel) (by decide +kernel)) (zA_fr hk_90.fr ha_x (ex3 (gQ_12_1216 hO.1 ha_x)) (by decide +kernel) (by decide +kernel)) (zA_fr hk_90.fr ha_x (ex3 (gQ_12_1217 hO.1 ha_x)) (by decide +kernel) (by decide +kernel)) (zA_fr hk_90.fr ha_x (ex3 (gQ_12_1237 hO.1 ha_x)) (by decide +kernel) (by decide +kernel)))
        have px_152 : PwX S S_118 x a1_z := PwX_cm px_151 hO_91.1 t_111 (by omega) cx_124 (pw5 (zA_fr hk_119.fr t_111 (ex3 (gQ_12_1214 hO_91.1 t_111)) (by decide +kernel) (by decide +kernel)) (zA_fr hk_119.fr t_111 (ex3 (gQ_12_1215 hO_91.1 t_111)) (by decide +kernel) (by decide +kernel)) (zA_fr hk_119.fr t_111 (ex3 (gQ_12_1216 hO_91.1 t_111)) (by decide +kernel) (by decide +kernel)) (zA_fr hk_119.fr t_111 (ex3 (gQ_12_1217 hO_91.1 t_111)) (by decide +kernel) (by decide +kernel)) (zA_fr hk_119.fr t_111 (ex3 (gQ_12_1237 hO_91.1 t_111)) (by decide +kernel) (by decide +kernel)))
        exact ret_v X hw hr hlocks (Nat.le_of_ble_eq_true rfl) (Nat.le_of_ble_eq_true rfl) ⟨hO_120, ⟨mi_121, fun hgr => (GR_eq zc_126 hgr), zm_128, PotW_of (B := pmk ((qb A).tail) ((qe A) ++ [dn_101]) (ql A) (qst A) (qse A) (qg A) (qpl A) (fuI (qsd A) dn_101 2) (qsk A) (qws A) (qdr A) (qtk A)) ((actF_0 (show ru.1.toInt = 0 by rw [fa_25]; have e1 : (v_23 : Int32).toInt = v_23.toInt := rfl; omega)).trans ((casF_c (hd_cons dn_102) (by have := pw_6.1; omega)).trans (by rw [capL_y (by have := pw_6.1; omega)]; rfl))) rR_130 rR_132 rR_135 zR_137 zR_139 gR_145 zR_141 zR_143 (show (pI S_118 1238 x).toInt = (((qsk A)).length : Int) by omega) pz_147, px_152⟩⟩ dX12_acts_79
  · refine lv_tableIn (tgt := 80) X.1 X.2.1 dX12_acts_6 (by omega) (by omega) (by rw [w_26c]; rfl) (by decide) ?_
    refine lv_aload_n X.1 X.2.1 dX12_acts_80 rfl (lv_at hl 0 rfl) ?_
    refine lv_iload_n X.1 X.2.1 dX12_acts_81 rfl (lv_at hl 1 rfl) ?_
    refine lv_iconst (v := 1) X.1 X.2.1 dX12_acts_82 (by decide) ?_
    refine k_i (rm := { frames := 1, cells := 0, slots := 0, locals := 48 }) (av := [.ref x, .int (a1), .int 1]) X hw (va_runV (As := [.int (a1), .int 1]) (rest := []) (cfix X) (k_X12_many2 l G cy κ S _ x (a1) (a1_z) (1) (1) hO.1 ha_x hz_a1 ti_1 (by first | assumption | omega) (by first | assumption | omega) (by first | assumption | omega) (by first | assumption | omega)) (cwV 2 X.2.2.2.1 gX12_acts_X12_many rfl rfl rfl (by decide +kernel) ⟨Nat.le_of_ble_eq_true rfl, Nat.le_of_ble_eq_true rfl⟩) (pre_V X hw _ ha_x rfl (by decide) rfl) rfl rfl hl.1 rfl (lv_room (Nat.le_of_ble_eq_true rfl)) dX12_acts_83 ⟨Nat.le_of_ble_eq_true rfl, Nat.le_of_ble_eq_true rfl⟩) 0 0 (Nat.le_of_ble_eq_true rfl) (Nat.le_of_ble_eq_true rfl) (fun rr_153 S_154 H locs hp hw hfr hnw => ?_)
    obtain ⟨e2, hp⟩ := hp
    subst e2
    obtain ⟨f_155, f_156, f_157⟩ := hp
    refine lv_if_le (tgt := 107) X.1 X.2.1 dX12_acts_86 (by decide) (fun c_158 => ?_) (fun c_158 => ?_)
    · have z_b_159 := trivial
      have k_160 : rr_153.toInt ≤ 0 := z_le rfl ti_0 c_158
      have pz_161 : (pI S 1238 x).toInt = v_15.toInt := (congrArg Int32.toInt ev_15).trans rfl
      exact ret_v X hw hr hlocks (Nat.le_of_ble_eq_true rfl) (Nat.le_of_ble_eq_true rfl) ⟨hO, ⟨hp_4, fun hgr => hgr, hzm0, PotW_of ((actF_1 (show ru.1.toInt = 1 by rw [fa_25]; have e1 : (v_23 : Int32).toInt = v_23.toInt := rfl; omega)).trans (droF_n (fun z => by have := pw_6.1; omega))) pw_5 pw_6 pw_7 pw_8 pw_9 pw_10 pw_11 pw_12 (show (pI S 1238 x).toInt = (((qsk A)).length : Int) by omega) pw_14, (PwX_rf S x a1_z)⟩⟩ dX12_acts_107
    · have z_b_162 := trivial
      have k_163 : rr_153.toInt > 0 := z_nle rfl ti_0 c_158
      refine lv_aload_n X.1 X.2.1 dX12_acts_89 rfl (lv_at hl 0 rfl) ?_
      refine lv_iload_n X.1 X.2.1 dX12_acts_90 rfl (lv_at hl 1 rfl) ?_
      refine lv_iconst (v := 0) X.1 X.2.1 dX12_acts_91 (by decide) ?_
      refine lv_aload_n X.1 X.2.1 dX12_acts_92 rfl (lv_at hl 0 rfl) ?_
      refine lv_iload_n X.1 X.2.1 dX12_acts_93 rfl (lv_at hl 1 rfl) ?_
      refine lv_iconst (v := 1) X.1 X.2.1 dX12_acts_94 (by decide) ?_
      refine lv_aload_n X.1 X.2.1 dX12_acts_95 rfl (lv_at hl 0 rfl) ?_
      refine lv_iload_n X.1 X.2.1 dX12_acts_96 rfl (lv_at hl 1 rfl) ?_
      refine k_i (rm := { frames := 4, cells := 0, slots := 0, locals := 192 }) (av := [.ref x, .int (a1)]) X hw (va_runV (As := [.int (a1)]) (rest := [.int 1, .int (a1), .ref x, .int 0, .int (a1), .ref x]) (cfix X) (k_X12_thinnest l G cy κ S _ x (a1) (a1_z) hO.1 ha_x hz_a1 (by first | assumption | omega) (by first | assumption | omega) hp_4) (cwV 1 X.2.2.2.1 gX12_acts_X12_thinnest rfl rfl rfl (by decide +kernel) ⟨Nat.le_of_ble_eq_true rfl, Nat.le_of_ble_eq_true rfl⟩) (pre_V X hw _ ha_x rfl (by decide) rfl) rfl rfl hl.1 rfl (lv_room (Nat.le_of_ble_eq_true rfl)) dX12_acts_97 ⟨Nat.le_of_ble_eq_true rfl, Nat.le_of_ble_eq_true rfl⟩) 0 0 (Nat.le_of_ble_eq_true rfl) (Nat.le_of_ble_eq_true rfl) (fun rr_164 S_165 H locs hp hw hfr hnw => ?_)
      obtain ⟨e2, hp⟩ := hp
      subst e2
      obtain ⟨tz_166, tz_167, tz_168, tz_169, tz_170⟩ := hp
      have tz_171 : rr_164.toInt = thiF Ev A := tz_170.trans (thZ_is hG ha_x hp_4 (by omega) (by omega) pw_6 hp_6 pw_14)
      refine k_i (rm := { frames := 1, cells := 0, slots := 0, locals := 48 }) (av := [.ref x, .int (a1), .int 1, .int (rr_164)]) X hw (va_runV (As := [.int (a1), .int 1, .int (rr_164)]) (rest := [.int 0, .int (a1), .ref x]) (cfix X) (k_X12_goes5 l G cy κ S _ x (a1) (a1_z) (1) (1) (rr_164) (rr_164.toInt) (-1) hO.1 ha_x hz_a1 ti_1 rfl (by first | assumption | omega) (by first | assumption | omega) (by first | assumption | omega) (by first | assumption | omega) (by first | assumption | omega) (by first | assumption | omega) hp_4) (cwV 3 X.2.2.2.1 gX12_acts_X12_goes rfl rfl rfl (by decide +kernel) ⟨Nat.le_of_ble_eq_true rfl, Nat.le_of_ble_eq_true rfl⟩) (pre_V X hw _ ha_x rfl (by decide) rfl) rfl rfl hl.1 rfl (lv_room (Nat.le_of_ble_eq_true rfl)) dX12_acts_100 ⟨Nat.le_of_ble_eq_true rfl, Nat.le_of_ble_eq_true rfl⟩) 0 0 (Nat.le_of_ble_eq_true rfl) (Nat.le_of_ble_eq_true rfl) (fun rr_172 S_173 H locs hp hw hfr hnw => ?_)
      obtain ⟨hk_174, hp⟩ := hp
      have hO_175 : Ok MAC S S_173 := hO.call hk_174 (by decide +kernel)
      obtain ⟨g_176, g_177, g_178, g_179, g_180, g_181, g_182, g_183, g_184⟩ := hp
      obtain ⟨dn_185, dn_186⟩ : ∃ d, ((qe A))[((rr_164.toInt : Int)).toNat]? = some d := ⟨_, List.getElem?_eq_getElem (by have := pw_6.1; omega)⟩
      have dn_187 : rr_172.toInt = (dn_185 : Int) := by have h8 := pw_6.2 _ _ dn_186; have hi : (600 * (3 * a1_z + 1) + rr_164.toInt).toNat = 600 * (3 * a1_z + 1).toNat + ((rr_164.toInt : Int)).toNat := (by omega); rw [← hi] at h8; omega
      have t_188 : pI S_173 1201 x = v_1 := hk_174.fr.I' (by decide +kernel) ha_x ev_1
      have pz_189 : (pI S_173 1201 x).toInt = v_1.toInt := (congrArg Int32.toInt t_188).trans rfl
      have zl_190 : zA S_173 x 1207 = zA S x 1207 := zA_fr hk_174.fr ha_x (ex3 (gQ_12_1207 hO.1 ha_x)) (by decide +kernel) (by decide +kernel)
      have zz_191 := congrFun zl_190 (rr_172.toInt).toNat
      have al_192 := ((MI_1 g_181 (c := rr_172.toInt) (by omega) (by omega)).2 (by omega)).2 (by omega) (by omega)
      have gi_193 := g_183 (3 * a1_z + 0).toNat; rw [if_neg (by omega)] at gi_193
      have m4_194 := g_181.2.2.2.1.2 (3 * a1_z + 0).toNat (by omega)
      refine lv_iconst (v := 0) X.1 X.2.1 dX12_acts_103 (by decide) ?_
      have t_195 : At S_173 x 12 := hk_174.fr.at ha_x
      refine k_v (rm := { frames := 1, cells := 0, slots := 0, locals := 48 }) (av := [.ref x, .int (a1), .int 0, .int (rr_172), .int 0]) X hw (va_runV (As := [.int (a1), .int 0, .int (rr_172), .int 0]) (rest := []) (cfix X) (k_X12_comes5 l G cy κ S_173 _ x (a1) (a1_z) (0) (0) (rr_172) (rr_172.toInt) (0) (0) hO_175.1 t_195 hz_a1 ti_0 rfl ti_0 (by first | assumption | omega) (by first | assumption | omega) (by first | assumption | omega) (by first | assumption | omega) (by first | assumption | omega) (by first | assumption | omega) (by first | assumption | omega) (by first | assumption | omega) (by first | assumption | omega) (by first | assumption | omega) g_181 (by first | assumption | omega) (by first | assumption | omega)) (cwV 4 X.2.2.2.1 gX12_acts_X12_comes rfl rfl rfl (by decide +kernel) ⟨Nat.le_of_ble_eq_true rfl, Nat.le_of_ble_eq_true rfl⟩) (pre_V X hw _ t_195 rfl (by decide) rfl) rfl rfl hl.1 rfl (lv_room (Nat.le_of_ble_eq_true rfl)) dX12_acts_104 ⟨Nat.le_of_ble_eq_true rfl, Nat.le_of_ble_eq_true rfl⟩) 0 0 (Nat.le_of_ble_eq_true rfl) (Nat.le_of_ble_eq_true rfl) (fun S_197 H locs hp hw hfr hnw => ?_)
      obtain ⟨hk_198, hp⟩ := hp
      have hO_199 : Ok MAC S S_197 := hO_175.call hk_198 (by decide +kernel)
      obtain ⟨mi_200, cm_201, cs_202, cx_203⟩ := hp
      have zc_204 : zA S_173 x 1237 = zA S x 1237 := zA_fr hk_174.fr ha_x (ex3 (gQ_12_1237 hO.1 ha_x)) (by decide +kernel) (by decide +kernel)
      have zc_205 : zA S_197 x 1237 = zA S x 1237 := (zA_fr hk_198.fr t_195 (ex3 (gQ_12_1237 hO_175.1 t_195)) (by decide +kernel) (by decide +kernel)).trans zc_204
      have zm_206 : ZM S S_173 x := ZM_eq hzm0 (zA_fr hk_174.fr ha_x (ex3 (gQ_12_1207 hO.1 ha_x)) (by decide +kernel) (by decide +kernel))
      have zm_207 : ZM S S_197 x := ZM_set zm_206 cs_202 ⟨by omega, by omega⟩ ⟨by omega, by omega⟩
      have rR_208 : RowR S_173 x (3 * a1_z + 0).toNat (qb A) := RowR_gox hO.1 ha_x (by omega) pw_5 g_184
      have cap_210 : ((qb A)).length < 600 := by have h1 := rR_208.1; have h2 := cx_203.2.2.2.1; omega
      have rR_209 : RowR S_197 x (3 * a1_z + 0).toNat (dn_185 :: (qb A)) := RowR_first rR_208 cx_203 dn_187
      have rR_211 : RowR S_173 x (3 * a1_z + 1).toNat ((qe A).eraseIdx (rr_164.toInt).toNat) := RowR_goes pw_6 g_184 (by have := pw_6.1; omega)
      have rR_212 : RowR S_197 x (3 * a1_z + 1).toNat ((qe A).eraseIdx (rr_164.toInt).toNat) := RowR_cmx hO_175.1 t_195 (by omega) rR_211 cx_203
      have rR_213 : RowR S_173 x (3 * a1_z + 2).toNat (ql A) := RowR_gox hO.1 ha_x (by omega) pw_7 g_184
      have rR_214 : RowR S_197 x (3 * a1_z + 2).toNat (ql A) := RowR_cmx hO_175.1 t_195 (by omega) rR_213 cx_203
      have zR_215 : zA S_173 x 1215 a1_z.toNat = ((qst A)).toInt := (congrFun (zA_fr hk_174.fr ha_x (ex3 (gQ_12_1215 hO.1 ha_x)) (by decide +kernel) (by decide +kernel)) _).trans pw_8
      have zR_216 : zA S_197 x 1215 a1_z.toNat = ((qst A)).toInt := (congrFun (zA_fr hk_198.fr t_195 (ex3 (gQ_12_1215 hO_175.1 t_195)) (by decide +kernel) (by decide +kernel)) _).trans zR_215
      have zR_217 : zA S_173 x 1214 a1_z.toNat = ((qse A)).toInt := (congrFun (zA_fr hk_174.fr ha_x (ex3 (gQ_12_1214 hO.1 ha_x)) (by decide +kernel) (by decide +kernel)) _).trans pw_9
      have zR_218 : zA S_197 x 1214 a1_z.toNat = ((qse A)).toInt := (congrFun (zA_fr hk_198.fr t_195 (ex3 (gQ_12_1214 hO_175.1 t_195)) (by decide +kernel) (by decide +kernel)) _).trans zR_217
      have zR_219 : zA S_173 x 1216 a1_z.toNat = ((qdr A)).toInt := (congrFun (zA_fr hk_174.fr ha_x (ex3 (gQ_12_1216 hO.1 ha_x)) (by decide +kernel) (by decide +kernel)) _).trans pw_11
      have zR_220 : zA S_197 x 1216 a1_z.toNat = ((qdr A)).toInt := (congrFun (zA_fr hk_198.fr t_195 (ex3 (gQ_12_1216 hO_175.1 t_195)) (by decide +kernel) (by decide +kernel)) _).trans zR_219
      have zR_221 : zA S_173 x 1217 a1_z.toNat = ((qtk A)).toInt := (congrFun (zA_fr hk_174.fr ha_x (ex3 (gQ_12_1217 hO.1 ha_x)) (by decide +kernel) (by decide +kernel)) _).trans pw_12
      have zR_222 : zA S_197 x 1217 a1_z.toNat = ((qtk A)).toInt := (congrFun (zA_fr hk_198.fr t_195 (ex3 (gQ_12_1217 hO_175.1 t_195)) (by decide +kernel) (by decide +kernel)) _).trans zR_221
      have gR_223 : zA S_173 x 1237 a1_z.toNat = (((qg A)).length : Int) := (congrFun (zA_fr hk_174.fr ha_x (ex3 (gQ_12_1237 hO.1 ha_x)) (by decide +kernel) (by decide +kernel)) _).trans pw_10
      have gR_224 : zA S_197 x 1237 a1_z.toNat = (((qg A)).length : Int) := (congrFun (zA_fr hk_198.fr t_195 (ex3 (gQ_12_1237 hO_175.1 t_195)) (by decide +kernel) (by decide +kernel)) _).trans gR_223
      have pz_225 : PlZ S_173 x (qpl A) (qsd A) := PlZ_eq pw_14 (zA_fr hk_174.fr ha_x (ex3 (gQ_12_1208 hO.1 ha_x)) (by decide +kernel) (by decide +kernel)) (zA_fr hk_174.fr ha_x (ex3 (gQ_12_1207 hO.1 ha_x)) (by decide +kernel) (by decide +kernel))
      have pz_226 : PlZ S_197 x (qpl A) (fuI (qsd A) dn_185 1) := PlZ_7 pz_225 (zA_fr hk_198.fr t_195 (ex3 (gQ_12_1208 hO_175.1 t_195)) (by decide +kernel) (by decide +kernel)) cs_202 (by omega) (by decide)
      have t_227 : pI S_173 1238 x = v_15 := hk_174.fr.I' (by decide +kernel) ha_x ev_15
      have t_228 : pI S_197 1238 x = v_15 := hk_198.fr.I' (by decide +kernel) t_195 t_227
      have pz_229 : (pI S_197 1238 x).toInt = v_15.toInt := (congrArg Int32.toInt t_228).trans rfl
      have px_230 : PwX S S_173 x a1_z := PwX_go (PwX_rf S x a1_z) hO.1 ha_x (by omega) g_184 (pw5 (zA_fr hk_174.fr ha_x (ex3 (gQ_12_1214 hO.1 ha_x)) (by decide +kernel) (by decide +kernel)) (zA_fr hk_174.fr ha_x (ex3 (gQ_12_1215 hO.1 ha_x)) (by decide +kernel) (by decide +kernel)) (zA_fr hk_174.fr ha_x (ex3 (gQ_12_1216 hO.1 ha_x)) (by decide +kernel) (by decide +kernel)) (zA_fr hk_174.fr ha_x (ex3 (gQ_12_1217 hO.1 ha_x)) (by decide +kernel) (by decide +kernel)) (zA_fr hk_174.fr ha_x (ex3 (gQ_12_1237 hO.1 ha_x)) (by decide +kernel) (by decide +kernel)))
      have px_231 : PwX S S_197 x a1_z := PwX_cm px_230 hO_175.1 t_195 (by omega) cx_203 (pw5 (zA_fr hk_198.fr t_195 (ex3 (gQ_12_1214 hO_175.1 t_195)) (by decide +kernel) (by decide +kernel)) (zA_fr hk_198.fr t_195 (ex3 (gQ_12_1215 hO_175.1 t_195)) (by decide +kernel) (by decide +kernel)) (zA_fr hk_198.fr t_195 (ex3 (gQ_12_1216 hO_175.1 t_195)) (by decide +kernel) (by decide +kernel)) (zA_fr hk_198.fr t_195 (ex3 (gQ_12_1217 hO_175.1 t_195)) (by decide +kernel) (by decide +kernel)) (zA_fr hk_198.fr t_195 (ex3 (gQ_12_1237 hO_175.1 t_195)) (by decide +kernel) (by decide +kernel)))
      exact ret_v X hw hr hlocks (Nat.le_of_ble_eq_true rfl) (Nat.le_of_ble_eq_true rfl) ⟨hO_199, ⟨mi_200, fun hgr => (GR_eq zc_205 hgr), zm_207, PotW_of (B := pmk (dn_185 :: (qb A)) ((qe A).eraseIdx (rr_164.toInt).toNat) (ql A) (qst A) (qse A) (qg A) (qpl A) (fuI (qsd A) dn_185 1) (qsk A) (qws A) (qdr A) (qtk A)) ((actF_1 (show ru.1.toInt = 1 by rw [fa_25]; have e1 : (v_23 : Int32).toInt = v_23.toInt := rfl; omega)).trans ((droF_c (E := Ev) (by omega) (by rw [← tz_171]; exact dn_186)).trans (by rw [← tz_171, capF_y cap_210]; rfl))) rR_209 rR_212 rR_214 zR_216 zR_218 gR_224 zR_220 zR_222 (show (pI S_197 1238 x).toInt = (((qsk A)).length : Int) by omega) pz_226, px_231⟩⟩ dX12_acts_107
  · refine lv_tableIn (tgt := 108) X.1 X.2.1 dX12_acts_6 (by omega) (by omega) (by rw [w_26c]; rfl) (by decide) ?_
    refine lv_aload_n X.1 X.2.1 dX12_acts_108 rfl (lv_at hl 0 rfl) ?_
    refine lv_iload_n X.1 X.2.1 dX12_acts_109 rfl (lv_at hl 1 rfl) ?_
    refine lv_iconst (v := 2) X.1 X.2.1 dX12_acts_110 (by decide) ?_
    refine k_i (rm := { frames := 1, cells := 0, slots := 0, locals := 48 }) (av := [.ref x, .int (a1), .int 2]) X hw (va_runV (As := [.int (a1), .int 2]) (rest := []) (cfix X) (k_X12_many2 l G cy κ S _ x (a1) (a1_z) (2) (2) hO.1 ha_x hz_a1 ti_2 (by first | assumption | omega) (by first | assumption | omega) (by first | assumption | omega) (by first | assumption | omega)) (cwV 2 X.2.2.2.1 gX12_acts_X12_many rfl rfl rfl (by decide +kernel) ⟨Nat.le_of_ble_eq_true rfl, Nat.le_of_ble_eq_true rfl⟩) (pre_V X hw _ ha_x rfl (by decide) rfl) rfl rfl hl.1 rfl (lv_room (Nat.le_of_ble_eq_true rfl)) dX12_acts_111 ⟨Nat.le_of_ble_eq_true rfl, Nat.le_of_ble_eq_true rfl⟩) 0 0 (Nat.le_of_ble_eq_true rfl) (Nat.le_of_ble_eq_true rfl) (fun rr_232 S_233 H locs hp hw hfr hnw => ?_)
    obtain ⟨e2, hp⟩ := hp
    subst e2
    obtain ⟨f_234, f_235, f_236⟩ := hp
    refine lv_if_ne (tgt := 118) X.1 X.2.1 dX12_acts_114 (by decide) (fun c_237 => ?_) (fun c_237 => ?_)
    · have z_b_238 := trivial
      have k_239 : rr_232.toInt ≠ 0 := z_ne rfl ti_0 c_237
      refine lv_aload_n X.1 X.2.1 dX12_acts_118 rfl (lv_at hl 0 rfl) ?_
      refine lv_iload_n X.1 X.2.1 dX12_acts_119 rfl (lv_at hl 1 rfl) ?_
      refine lv_iconst (v := 0) X.1 X.2.1 dX12_acts_120 (by decide) ?_
      refine lv_aload_n X.1 X.2.1 dX12_acts_121 rfl (lv_at hl 0 rfl) ?_
      refine lv_iload_n X.1 X.2.1 dX12_acts_122 rfl (lv_at hl 1 rfl) ?_
      refine lv_iconst (v := 2) X.1 X.2.1 dX12_acts_123 (by decide) ?_
      refine lv_iconst (v := 0) X.1 X.2.1 dX12_acts_124 (by decide) ?_
      refine k_i (rm := { frames := 1, cells := 0, slots := 0, locals := 48 }) (av := [.ref x, .int (a1), .int 2, .int 0]) X hw (va_runV (As := [.int (a1), .int 2, .int 0]) (rest := [.int 0, .int (a1), .ref x]) (cfix X) (k_X12_goes5 l G cy κ S _ x (a1) (a1_z) (2) (2) (0) (0) (-1) hO.1 ha_x hz_a1 ti_2 ti_0 (by first | assumption | omega) (by first | assumption | omega) (by first | assumption | omega) (by first | assumption | omega) (by first | assumption | omega) (by first | assumption | omega) hp_4) (cwV 3 X.2.2.2.1 gX12_acts_X12_goes rfl rfl rfl (by decide +kernel) ⟨Nat.le_of_ble_eq_true rfl, Nat.le_of_ble_eq_true rfl⟩) (pre_V X hw _ ha_x rfl (by decide) rfl) rfl rfl hl.1 rfl (lv_room (Nat.le_of_ble_eq_true rfl)) dX12_acts_125 ⟨Nat.le_of_ble_eq_true rfl, Nat.le_of_ble_eq_true rfl⟩) 0 0 (Nat.le_of_ble_eq_true rfl) (Nat.le_of_ble_eq_true rfl) (fun rr_240 S_241 H locs hp hw hfr hnw => ?_)
      obtain ⟨hk_242, hp⟩ := hp
      have hO_243 : Ok MAC S S_241 := hO.call hk_242 (by decide +kernel)
      obtain ⟨g_244, g_245, g_246, g_247, g_248, g_249, g_250, g_251, g_252⟩ := hp
      obtain ⟨dn_253, dn_254⟩ : ∃ d, ((ql A))[((0 : Int)).toNat]? = some d := ⟨_, List.getElem?_eq_getElem (by have := pw_7.1; omega)⟩
      have dn_255 : rr_240.toInt = (dn_253 : Int) := by have h8 := pw_7.2 _ _ dn_254; have hi : (600 * (3 * a1_z + 2) + 0).toNat = 600 * (3 * a1_z + 2).toNat + ((0 : Int)).toNat := (by omega); rw [← hi] at h8; omega
      have t_256 : pI S_241 1201 x = v_1 := hk_242.fr.I' (by decide +kernel) ha_x ev_1
      have pz_257 : (pI S_241 1201 x).toInt = v_1.toInt := (congrArg Int32.toInt t_256).trans rfl
      have zl_258 : zA S_241 x 1207 = zA S x 1207 := zA_fr hk_242.fr ha_x (ex3 (gQ_12_1207 hO.1 ha_x)) (by decide +kernel) (by decide +kernel)
      have zz_259 := congrFun zl_258 (rr_240.toInt).toNat
      have al_260 := ((MI_1 g_249 (c := rr_240.toInt) (by omega) (by omega)).2 (by omega)).2 (by omega) (by omega)
      have gi_261 := g_251 (3 * a1_z + 0).toNat; rw [if_neg (by omega)] at gi_261
      have m4_262 := g_249.2.2.2.1.2 (3 * a1_z + 0).toNat (by omega)
      refine lv_aload_n X.1 X.2.1 dX12_acts_128 rfl (lv_at hl 0 rfl) ?_
      refine lv_iload_n X.1 X.2.1 dX12_acts_129 rfl (lv_at hl 1 rfl) ?_
      refine lv_iconst (v := 0) X.1 X.2.1 dX12_acts_130 (by decide) ?_
      have t_263 : At S_241 x 12 := hk_242.fr.at ha_x
      refine k_i (rm := { frames := 1, cells := 0, slots := 0, locals := 48 }) (av := [.ref x, .int (a1), .int 0]) X hw (va_runV (As := [.int (a1), .int 0]) (rest := [.int (rr_240), .int 0, .int (a1), .ref x]) (cfix X) (k_X12_many2 l G cy κ S_241 _ x (a1) (a1_z) (0) (0) hO_243.1 t_263 hz_a1 ti_0 (by first | assumption | omega) (by first | assumption | omega) (by first | assumption | omega) (by first | assumption | omega)) (cwV 2 X.2.2.2.1 gX12_acts_X12_many rfl rfl rfl (by decide +kernel) ⟨Nat.le_of_ble_eq_true rfl, Nat.le_of_ble_eq_true rfl⟩) (pre_V X hw _ t_263 rfl (by decide) rfl) rfl rfl hl.1 rfl (lv_room (Nat.le_of_ble_eq_true rfl)) dX12_acts_131 ⟨Nat.le_of_ble_eq_true rfl, Nat.le_of_ble_eq_true rfl⟩) 0 0 (Nat.le_of_ble_eq_true rfl) (Nat.le_of_ble_eq_true rfl) (fun rr_264 S_265 H locs hp hw hfr hnw => ?_)
      obtain ⟨e2, hp⟩ := hp
      subst e2
      obtain ⟨f_266, f_267, f_268⟩ := hp
      refine k_v (rm := { frames := 1, cells := 0, slots := 0, locals := 48 }) (av := [.ref x, .int (a1), .int 0, .int (rr_240), .int (rr_264)]) X hw (va_runV (As := [.int (a1), .int 0, .int (rr_240), .int (rr_264)]) (rest := []) (cfix X) (k_X12_comes5 l G cy κ S_241 _ x (a1) (a1_z) (0) (0) (rr_240) (rr_240.toInt) (rr_264) (rr_264.toInt) hO_243.1 t_263 hz_a1 ti_0 rfl rfl (by first | assumption | omega) (by first | assumption | omega) (by first | assumption | omega) (by first | assumption | omega) (by first | assumption | omega) (by first | assumption | omega) (by first | assumption | omega) (by first | assumption | omega) (by first | assumption | omega) (by first | assumption | omega) g_249 (by first | assumption | omega) (by first | assumption | omega)) (cwV 4 X.2.2.2.1 gX12_acts_X12_comes rfl rfl rfl (by decide +kernel) ⟨Nat.le_of_ble_eq_true rfl, Nat.le_of_ble_eq_true rfl⟩) (pre_V X hw _ t_263 rfl (by decide) rfl) rfl rfl hl.1 rfl (lv_room (Nat.le_of_ble_eq_true rfl)) dX12_acts_134 ⟨Nat.le_of_ble_eq_true rfl, Nat.le_of_ble_eq_true rfl⟩) 0 0 (Nat.le_of_ble_eq_true rfl) (Nat.le_of_ble_eq_true rfl) (fun S_270 H locs hp hw hfr hnw => ?_)
      obtain ⟨hk_271, hp⟩ := hp
      have hO_272 : Ok MAC S S_270 := hO_243.call hk_271 (by decide +kernel)
      obtain ⟨mi_273, cm_274, cs_275, cx_276⟩ := hp
      refine lv_aload_n X.1 X.2.1 dX12_acts_137 rfl (lv_at hl 0 rfl) ?_
      refine lv_iload_n X.1 X.2.1 dX12_acts_138 rfl (lv_at hl 1 rfl) ?_
      refine lv_iconst (v := 2) X.1 X.2.1 dX12_acts_139 (by decide) ?_
      have t_277 : At S_270 x 12 := hk_271.fr.at t_263
      refine k_i (rm := { frames := 1, cells := 0, slots := 0, locals := 48 }) (av := [.ref x, .int (a1), .int 2]) X hw (va_runV (As := [.int (a1), .int 2]) (rest := []) (cfix X) (k_X12_many2 l G cy κ S_270 _ x (a1) (a1_z) (2) (2) hO_272.1 t_277 hz_a1 ti_2 (by first | assumption | omega) (by first | assumption | omega) (by first | assumption | omega) (by first | assumption | omega)) (cwV 2 X.2.2.2.1 gX12_acts_X12_many rfl rfl rfl (by decide +kernel) ⟨Nat.le_of_ble_eq_true rfl, Nat.le_of_ble_eq_true rfl⟩) (pre_V X hw _ t_277 rfl (by decide) rfl) rfl rfl hl.1 rfl (lv_room (Nat.le_of_ble_eq_true rfl)) dX12_acts_140 ⟨Nat.le_of_ble_eq_true rfl, Nat.le_of_ble_eq_true rfl⟩) 0 0 (Nat.le_of_ble_eq_true rfl) (Nat.le_of_ble_eq_true rfl) (fun rr_278 S_279 H locs hp hw hfr hnw => ?_)
      obtain ⟨e2, hp⟩ := hp
      subst e2
      obtain ⟨f_280, f_281, f_282⟩ := hp
      have rR_283 : RowR S_241 x (3 * a1_z + 2).toNat ((ql A).tail) := RowR_goes0 pw_7 g_252 (by have := pw_7.1; omega)
      have rR_284 : RowR S_270 x (3 * a1_z + 2).toNat ((ql A).tail) := RowR_cmx hO_243.1 t_263 (by omega) rR_283 cx_276
      refine lv_if_ne (tgt := 153) X.1 X.2.1 dX12_acts_143 (by decide) (fun c_285 => ?_) (fun c_285 => ?_)
      · have z_b_286 := trivial
        have k_287 : rr_278.toInt ≠ 0 := z_ne rfl ti_0 c_285
        refine lv_aload_n X.1 X.2.1 dX12_acts_153 rfl (lv_at hl 0 rfl) ?_
        obtain ⟨q_288, h_289, h_290, h_291⟩ := gQ_12_1215 hO_272.1 t_277
        refine r_getR (g := 1215) X hw t_277 rfl 15 h_289 (by decide) rfl inn_X12_acts_12 (by decide) (X.2.2.2.1 (.fieldLink RX12 46 "SilkMillModel" "stop" "[I") (by decide +kernel)) rfl (gv_1215 _ _) dX12_acts_154 ?_
        refine lv_iload_n X.1 X.2.1 dX12_acts_157 rfl (lv_at hl 1 rfl) ?_
        refine lv_dup2_11 X.1 X.2.1 dX12_acts_158 rfl rfl ?_
        refine r_iald X hw h_290 rfl (by rw [h_291]; exact z_ix hz_a1 (by omega) (by omega)) dX12_acts_159 ?_
        refine lv_topi (fun v_292 ev_292 => ?_)
        have rg_293 := And.intro (z_lo v_292) (z_hi v_292)
        have ev_292 := ev_292.symm
        have zR_294 : zA S_241 x 1215 a1_z.toNat = ((qst A)).toInt := (congrFun (zA_fr hk_242.fr ha_x (ex3 (gQ_12_1215 hO.1 ha_x)) (by decide +kernel) (by decide +kernel)) _).trans pw_8
        have zR_295 : zA S_270 x 1215 a1_z.toNat = ((qst A)).toInt := (congrFun (zA_fr hk_271.fr t_263 (ex3 (gQ_12_1215 hO_243.1 t_263)) (by decide +kernel) (by decide +kernel)) _).trans zR_294
        have zf_296 : zA S_270 x 1215 (a1_z).toNat = v_292.toInt := (zA_of h_289 hz_a1 (by omega) ev_292)
        have us_297 : v_292 = (qst A) := Int32.toInt_inj.mp (rfl.trans (zf_296.symm.trans zR_295))
        refine lv_iconst (v := 2) X.1 X.2.1 dX12_acts_160 (by decide) ?_
        refine lv_iadd X.1 X.2.1 dX12_acts_161 ?_
        refine lv_topi (fun v_298 ev_298 => ?_)
        have rg_299 := And.intro (z_lo v_298) (z_hi v_298)
        refine r_iast X hw h_290 rfl (by rw [h_291]; exact z_ix hz_a1 (by omega) (by omega)) dX12_acts_162 (fun H locs hw => ?_)
        obtain ⟨S_300, eS_300⟩ : ∃ T, T = sA S_270 q_288 (upd (pA S_270 q_288) (Int32.toNatClampNeg (a1)) (v_298)) := ⟨_, rfl⟩
        rw [← eS_300] at hw
        have hO_301 : Ok MAC S S_300 := hO_272.sA eS_300 h_290 (by decide +kernel) (uA_514 hO_272.1 h_290)
        have h_302 : pA S_300 q_288 (Int32.toNatClampNeg (a1)) = v_298 := tA_sAs eS_300
        have t_303 : pR S_300 1215 x = some q_288 := tR_sA eS_300 h_289
        have t_305 : pR S_270 1215 x = some q_288 := by have h := t_303; rw [eS_300, pR_sA] at h; exact h
        have zs_304 : ∀ j, zA S_300 x 1215 j = if j = (a1_z).toNat then v_298.toInt else zA S_270 x 1215 j := by have h := zA_sAs eS_300 t_305 rfl; rw [z_nc hz_a1 (by omega)] at h; exact h
        have mi_306 : MIe S_300 x (-1) := MIe_sA mi_273 hO_272.1 t_277 h_290 eS_300 (by decide +kernel)
        have zc_307 : zA S_241 x 1237 = zA S x 1237 := zA_fr hk_242.fr ha_x (ex3 (gQ_12_1237 hO.1 ha_x)) (by decide +kernel) (by decide +kernel)
        have zc_308 : zA S_270 x 1237 = zA S x 1237 := (zA_fr hk_271.fr t_263 (ex3 (gQ_12_1237 hO_243.1 t_263)) (by decide +kernel) (by decide +kernel)).trans zc_307
        have zc_309 : zA S_300 x 1237 = zA S x 1237 := (zA_sAn eS_300 (ex3 (gQ_12_1237 hO_272.1 t_277)) h_290 rfl).trans zc_308
        have zm_310 : ZM S S_241 x := ZM_eq hzm0 (zA_fr hk_242.fr ha_x (ex3 (gQ_12_1207 hO.1 ha_x)) (by decide +kernel) (by decide +kernel))
        have zm_311 : ZM S S_270 x := ZM_set zm_310 cs_275 ⟨by omega, by omega⟩ ⟨by omega, by omega⟩
        have zm_312 : ZM S S_300 x := ZM_eq zm_311 (zA_sAn eS_300 (ex3 (gQ_12_1207 hO_272.1 t_277)) h_290 rfl)
        have rR_313 : RowR S_241 x (3 * a1_z + 0).toNat (qb A) := RowR_gox hO.1 ha_x (by omega) pw_5 g_252
        have cap_315 : ((qb A)).length < 600 := by have h1 := rR_313.1; have h2 := cx_276.2.2.2.1; omega
        have rR_314 : RowR S_270 x (3 * a1_z + 0).toNat ((qb A) ++ [dn_253]) := RowR_last rR_313 (show CmO S_241 S_270 x (3 * a1_z + 0).toNat ((qb A)).length (rr_240.toInt) by rw [show ((qb A)).length = (rr_264.toInt).toNat by have := rR_313.1; omega]; exact cx_276) dn_255
        have rR_316 : RowR S_300 x (3 * a1_z + 0).toNat ((qb A) ++ [dn_253]) := RowR_eq rR_314 (zA_sAn eS_300 (ex3 (gQ_12_1218 hO_272.1 t_277)) h_290 rfl) (zA_sAn eS_300 (ex3 (gQ_12_1219 hO_272.1 t_277)) h_290 rfl)
        have rR_317 : RowR S_241 x (3 * a1_z + 1).toNat (qe A) := RowR_gox hO.1 ha_x (by omega) pw_6 g_252
        have rR_318 : RowR S_270 x (3 * a1_z + 1).toNat (qe A) := RowR_cmx hO_243.1 t_263 (by omega) rR_317 cx_276
        have rR_319 : RowR S_300 x (3 * a1_z + 1).toNat (qe A) := RowR_eq rR_318 (zA_sAn eS_300 (ex3 (gQ_12_1218 hO_272.1 t_277)) h_290 rfl) (zA_sAn eS_300 (ex3 (gQ_12_1219 hO_272.1 t_277)) h_290 rfl)
        have rR_320 : RowR S_300 x (3 * a1_z + 2).toNat ((ql A).tail) := RowR_eq rR_284 (zA_sAn eS_300 (ex3 (gQ_12_1218 hO_272.1 t_277)) h_290 rfl) (zA_sAn eS_300 (ex3 (gQ_12_1219 hO_272.1 t_277)) h_290 rfl)
        have zR_321 : zA S_300 x 1215 a1_z.toNat = (((qst A) + 2)).toInt := (by rw [zs_304, if_pos (by omega)]; exact (congrArg Int32.toInt (ev_298.trans (by rw [us_297]))))
        have zR_322 : zA S_241 x 1214 a1_z.toNat = ((qse A)).toInt := (congrFun (zA_fr hk_242.fr ha_x (ex3 (gQ_12_1214 hO.1 ha_x)) (by decide +kernel) (by decide +kernel)) _).trans pw_9
        have zR_323 : zA S_270 x 1214 a1_z.toNat = ((qse A)).toInt := (congrFun (zA_fr hk_271.fr t_263 (ex3 (gQ_12_1214 hO_243.1 t_263)) (by decide +kernel) (by decide +kernel)) _).trans zR_322
        have zR_324 : zA S_300 x 1214 a1_z.toNat = ((qse A)).toInt := (congrFun (zA_sAn eS_300 (ex3 (gQ_12_1214 hO_272.1 t_277)) h_290 rfl) _).trans zR_323
        have zR_325 : zA S_241 x 1216 a1_z.toNat = ((qdr A)).toInt := (congrFun (zA_fr hk_242.fr ha_x (ex3 (gQ_12_1216 hO.1 ha_x)) (by decide +kernel) (by decide +kernel)) _).trans pw_11
        have zR_326 : zA S_270 x 1216 a1_z.toNat = ((qdr A)).toInt := (congrFun (zA_fr hk_271.fr t_263 (ex3 (gQ_12_1216 hO_243.1 t_263)) (by decide +kernel) (by decide +kernel)) _).trans zR_325
        have zR_327 : zA S_300 x 1216 a1_z.toNat = ((qdr A)).toInt := (congrFun (zA_sAn eS_300 (ex3 (gQ_12_1216 hO_272.1 t_277)) h_290 rfl) _).trans zR_326
        have zR_328 : zA S_241 x 1217 a1_z.toNat = ((qtk A)).toInt := (congrFun (zA_fr hk_242.fr ha_x (ex3 (gQ_12_1217 hO.1 ha_x)) (by decide +kernel) (by decide +kernel)) _).trans pw_12
        have zR_329 : zA S_270 x 1217 a1_z.toNat = ((qtk A)).toInt := (congrFun (zA_fr hk_271.fr t_263 (ex3 (gQ_12_1217 hO_243.1 t_263)) (by decide +kernel) (by decide +kernel)) _).trans zR_328
        have zR_330 : zA S_300 x 1217 a1_z.toNat = ((qtk A)).toInt := (congrFun (zA_sAn eS_300 (ex3 (gQ_12_1217 hO_272.1 t_277)) h_290 rfl) _).trans zR_329
        have gR_331 : zA S_241 x 1237 a1_z.toNat = (((qg A)).length : Int) := (congrFun (zA_fr hk_242.fr ha_x (ex3 (gQ_12_1237 hO.1 ha_x)) (by decide +kernel) (by decide +kernel)) _).trans pw_10
        have gR_332 : zA S_270 x 1237 a1_z.toNat = (((qg A)).length : Int) := (congrFun (zA_fr hk_271.fr t_263 (ex3 (gQ_12_1237 hO_243.1 t_263)) (by decide +kernel) (by decide +kernel)) _).trans gR_331
        have gR_333 : zA S_300 x 1237 a1_z.toNat = (((qg A)).length : Int) := (congrFun (zA_sAn eS_300 (ex3 (gQ_12_1237 hO_272.1 t_277)) h_290 rfl) _).trans gR_332
        have pz_334 : PlZ S_241 x (qpl A) (qsd A) := PlZ_eq pw_14 (zA_fr hk_242.fr ha_x (ex3 (gQ_12_1208 hO.1 ha_x)) (by decide +kernel) (by decide +kernel)) (zA_fr hk_242.fr ha_x (ex3 (gQ_12_1207 hO.1 ha_x)) (by decide +kernel) (by decide +kernel))
        have pz_335 : PlZ S_270 x (qpl A) (fuI (qsd A) dn_253 1) := PlZ_7 pz_334 (zA_fr hk_271.fr t_263 (ex3 (gQ_12_1208 hO_243.1 t_263)) (by decide +kernel) (by decide +kernel)) cs_275 (by omega) (by decide)
        have pz_336 : PlZ S_300 x (qpl A) (fuI (qsd A) dn_253 1) := PlZ_eq pz_335 (zA_sAn eS_300 (ex3 (gQ_12_1208 hO_272.1 t_277)) h_290 rfl) (zA_sAn eS_300 (ex3 (gQ_12_1207 hO_272.1 t_277)) h_290 rfl)
        have t_337 : pI S_241 1238 x = v_15 := hk_242.fr.I' (by decide +kernel) ha_x ev_15
        have t_338 : pI S_270 1238 x = v_15 := hk_271.fr.I' (by decide +kernel) t_263 t_337
        have t_339 : pI S_300 1238 x = v_15 := tI_sA eS_300 t_338
        have pz_340 : (pI S_300 1238 x).toInt = v_15.toInt := (congrArg Int32.toInt t_339).trans rfl
        have px_341 : PwX S S_241 x a1_z := PwX_go (PwX_rf S x a1_z) hO.1 ha_x (by omega) g_252 (pw5 (zA_fr hk_242.fr ha_x (ex3 (gQ_12_1214 hO.1 ha_x)) (by decide +kernel) (by decide +kernel)) (zA_fr hk_242.fr ha_x (ex3 (gQ_12_1215 hO.1 ha_x)) (by decide +kernel) (by decide +kernel)) (zA_fr hk_242.fr ha_x (ex3 (gQ_12_1216 hO.1 ha_x)) (by decide +kernel) (by decide +kernel)) (zA_fr hk_242.fr ha_x (ex3 (gQ_12_1217 hO.1 ha_x)) (by decide +kernel) (by decide +kernel)) (zA_fr hk_242.fr ha_x (ex3 (gQ_12_1237 hO.1 ha_x)) (by decide +kernel) (by decide +kernel)))
        have px_342 : PwX S S_270 x a1_z := PwX_cm px_341 hO_243.1 t_263 (by omega) cx_276 (pw5 (zA_fr hk_271.fr t_263 (ex3 (gQ_12_1214 hO_243.1 t_263)) (by decide +kernel) (by decide +kernel)) (zA_fr hk_271.fr t_263 (ex3 (gQ_12_1215 hO_243.1 t_263)) (by decide +kernel) (by decide +kernel)) (zA_fr hk_271.fr t_263 (ex3 (gQ_12_1216 hO_243.1 t_263)) (by decide +kernel) (by decide +kernel)) (zA_fr hk_271.fr t_263 (ex3 (gQ_12_1217 hO_243.1 t_263)) (by decide +kernel) (by decide +kernel)) (zA_fr hk_271.fr t_263 (ex3 (gQ_12_1237 hO_243.1 t_263)) (by decide +kernel) (by decide +kernel)))
        have px_343 : PwX S S_300 x a1_z := PwX_z px_342 (zA_sAn eS_300 (ex3 (gQ_12_1218 hO_272.1 t_277)) h_290 rfl) (zA_sAn eS_300 (ex3 (gQ_12_1219 hO_272.1 t_277)) h_290 rfl) zs_304 (by omega) (pw4 (fun _ => zA_sAn eS_300 (ex3 (gQ_12_1214 hO_272.1 t_277)) h_290 rfl) (fun h => absurd rfl h) (fun _ => zA_sAn eS_300 (ex3 (gQ_12_1216 hO_272.1 t_277)) h_290 rfl) (fun _ => zA_sAn eS_300 (ex3 (gQ_12_1217 hO_272.1 t_277)) h_290 rfl) (fun _ => zA_sAn eS_300 (ex3 (gQ_12_1237 hO_272.1 t_277)) h_290 rfl))
        exact ret_v X hw hr hlocks (Nat.le_of_ble_eq_true rfl) (Nat.le_of_ble_eq_true rfl) ⟨hO_301, ⟨mi_306, fun hgr => (GR_eq zc_309 hgr), zm_312, PotW_of (B := pmk ((qb A) ++ [dn_253]) (qe A) ((ql A).tail) ((qst A) + 2) (qse A) (qg A) (qpl A) (fuI (qsd A) dn_253 1) (qsk A) (qws A) (qdr A) (qtk A)) ((actF_2 (show ru.1.toInt = 2 by rw [fa_25]; have e1 : (v_23 : Int32).toInt = v_23.toInt := rfl; omega)).trans ((fndF_c (fun z => by have e0 := congrArg List.length z; have e1 : ([] : List Nat).length = 0 := rfl; have := pw_7.1; omega)).trans (by rw [fetF_c (hd_cons dn_254), capL_y cap_315, if_neg (fun z => by have e0 := congrArg List.length z; have e1 : ([] : List Nat).length = 0 := rfl; have := rR_284.1; omega)]; rfl))) rR_316 rR_319 rR_320 zR_321 zR_324 gR_333 zR_327 zR_330 (show (pI S_300 1238 x).toInt = (((qsk A)).length : Int) by omega) pz_336, px_343⟩⟩ dX12_acts_163
      · have z_b_344 := trivial
        have k_345 : rr_278.toInt = 0 := z_eq rfl ti_0 c_285
        refine lv_aload_n X.1 X.2.1 dX12_acts_146 rfl (lv_at hl 0 rfl) ?_
        obtain ⟨q_346, h_347, h_348, h_349⟩ := gQ_12_1214 hO_272.1 t_277
        refine r_getR (g := 1214) X hw t_277 rfl 14 h_347 (by decide) rfl inn_X12_acts_12 (by decide) (X.2.2.2.1 (.fieldLink RX12 43 "SilkMillModel" "search" "[I") (by decide +kernel)) rfl (gv_1214 _ _) dX12_acts_147 ?_
        refine lv_iload_n X.1 X.2.1 dX12_acts_150 rfl (lv_at hl 1 rfl) ?_
        refine lv_iconst (v := 0) X.1 X.2.1 dX12_acts_151 (by decide) ?_
        refine r_iast X hw h_348 rfl (by rw [h_349]; exact z_ix hz_a1 (by omega) (by omega)) dX12_acts_152 (fun H locs hw => ?_)
        obtain ⟨S_350, eS_350⟩ : ∃ T, T = sA S_270 q_346 (upd (pA S_270 q_346) (Int32.toNatClampNeg (a1)) (0)) := ⟨_, rfl⟩
        rw [← eS_350] at hw
        have hO_351 : Ok MAC S S_350 := hO_272.sA eS_350 h_348 (by decide +kernel) (uA_494 hO_272.1 h_348)
        have h_352 : pA S_350 q_346 (Int32.toNatClampNeg (a1)) = 0 := tA_sAs eS_350
        have t_353 : pR S_350 1214 x = some q_346 := tR_sA eS_350 h_347
        have t_355 : pR S_270 1214 x = some q_346 := by have h := t_353; rw [eS_350, pR_sA] at h; exact h
        have zs_354 : ∀ j, zA S_350 x 1214 j = if j = (a1_z).toNat then 0 else zA S_270 x 1214 j := by have h := zA_sAs eS_350 t_355 ti_0; rw [z_nc hz_a1 (by omega)] at h; exact h
        refine lv_aload_n X.1 X.2.1 dX12_acts_153 rfl (lv_at hl 0 rfl) ?_
        have t_356 : At S_350 x 12 := tAt_sA eS_350 t_277
        obtain ⟨q_357, h_358, h_359, h_360⟩ := gQ_12_1215 hO_351.1 t_356
        refine r_getR (g := 1215) X hw t_356 rfl 15 h_358 (by decide) rfl inn_X12_acts_12 (by decide) (X.2.2.2.1 (.fieldLink RX12 46 "SilkMillModel" "stop" "[I") (by decide +kernel)) rfl (gv_1215 _ _) dX12_acts_154 ?_
        refine lv_iload_n X.1 X.2.1 dX12_acts_157 rfl (lv_at hl 1 rfl) ?_
        refine lv_dup2_11 X.1 X.2.1 dX12_acts_158 rfl rfl ?_
        refine r_iald X hw h_359 rfl (by rw [h_360]; exact z_ix hz_a1 (by omega) (by omega)) dX12_acts_159 ?_
        refine lv_topi (fun v_361 ev_361 => ?_)
        have rg_362 := And.intro (z_lo v_361) (z_hi v_361)
        have ev_361 := ev_361.symm
        have zR_363 : zA S_241 x 1215 a1_z.toNat = ((qst A)).toInt := (congrFun (zA_fr hk_242.fr ha_x (ex3 (gQ_12_1215 hO.1 ha_x)) (by decide +kernel) (by decide +kernel)) _).trans pw_8
        have zR_364 : zA S_270 x 1215 a1_z.toNat = ((qst A)).toInt := (congrFun (zA_fr hk_271.fr t_263 (ex3 (gQ_12_1215 hO_243.1 t_263)) (by decide +kernel) (by decide +kernel)) _).trans zR_363
        have zR_365 : zA S_350 x 1215 a1_z.toNat = ((qst A)).toInt := (congrFun (zA_sAn eS_350 (ex3 (gQ_12_1215 hO_272.1 t_277)) h_348 rfl) _).trans zR_364
        have zf_366 : zA S_350 x 1215 (a1_z).toNat = v_361.toInt := (zA_of h_358 hz_a1 (by omega) ev_361)
        have us_367 : v_361 = (qst A) := Int32.toInt_inj.mp (rfl.trans (zf_366.symm.trans zR_365))
        refine lv_iconst (v := 2) X.1 X.2.1 dX12_acts_160 (by decide) ?_
        refine lv_iadd X.1 X.2.1 dX12_acts_161 ?_
        refine lv_topi (fun v_368 ev_368 => ?_)
        have rg_369 := And.intro (z_lo v_368) (z_hi v_368)
        refine r_iast X hw h_359 rfl (by rw [h_360]; exact z_ix hz_a1 (by omega) (by omega)) dX12_acts_162 (fun H locs hw => ?_)
        obtain ⟨S_370, eS_370⟩ : ∃ T, T = sA S_350 q_357 (upd (pA S_350 q_357) (Int32.toNatClampNeg (a1)) (v_368)) := ⟨_, rfl⟩
        rw [← eS_370] at hw
        have hO_371 : Ok MAC S S_370 := hO_351.sA eS_370 h_359 (by decide +kernel) (uA_514 hO_351.1 h_359)
        have h_372 : pA S_370 q_357 (Int32.toNatClampNeg (a1)) = v_368 := tA_sAs eS_370
        have t_373 : pR S_370 1215 x = some q_357 := tR_sA eS_370 h_358
        have t_375 : pR S_350 1215 x = some q_357 := by have h := t_373; rw [eS_370, pR_sA] at h; exact h
        have zs_374 : ∀ j, zA S_370 x 1215 j = if j = (a1_z).toNat then v_368.toInt else zA S_350 x 1215 j := by have h := zA_sAs eS_370 t_375 rfl; rw [z_nc hz_a1 (by omega)] at h; exact h
        have mi_376 : MIe S_350 x (-1) := MIe_sA mi_273 hO_272.1 t_277 h_348 eS_350 (by decide +kernel)
        have mi_377 : MIe S_370 x (-1) := MIe_sA mi_376 hO_351.1 t_356 h_359 eS_370 (by decide +kernel)
        have zc_378 : zA S_241 x 1237 = zA S x 1237 := zA_fr hk_242.fr ha_x (ex3 (gQ_12_1237 hO.1 ha_x)) (by decide +kernel) (by decide +kernel)
        have zc_379 : zA S_270 x 1237 = zA S x 1237 := (zA_fr hk_271.fr t_263 (ex3 (gQ_12_1237 hO_243.1 t_263)) (by decide +kernel) (by decide +kernel)).trans zc_378
        have zc_380 : zA S_350 x 1237 = zA S x 1237 := (zA_sAn eS_350 (ex3 (gQ_12_1237 hO_272.1 t_277)) h_348 rfl).trans zc_379
        have zc_381 : zA S_370 x 1237 = zA S x 1237 := (zA_sAn eS_370 (ex3 (gQ_12_1237 hO_351.1 t_356)) h_359 rfl).trans zc_380
        have zm_382 : ZM S S_241 x := ZM_eq hzm0 (zA_fr hk_242.fr ha_x (ex3 (gQ_12_1207 hO.1 ha_x)) (by decide +kernel) (by decide +kernel))
        have zm_383 : ZM S S_270 x := ZM_set zm_382 cs_275 ⟨by omega, by omega⟩ ⟨by omega, by omega⟩
        have zm_384 : ZM S S_350 x := ZM_eq zm_383 (zA_sAn eS_350 (ex3 (gQ_12_1207 hO_272.1 t_277)) h_348 rfl)
        have zm_385 : ZM S S_370 x := ZM_eq zm_384 (zA_sAn eS_370 (ex3 (gQ_12_1207 hO_351.1 t_356)) h_359 rfl)
        have rR_386 : RowR S_241 x (3 * a1_z + 0).toNat (qb A) := RowR_gox hO.1 ha_x (by omega) pw_5 g_252
        have cap_388 : ((qb A)).length < 600 := by have h1 := rR_386.1; have h2 := cx_276.2.2.2.1; omega
        have rR_387 : RowR S_270 x (3 * a1_z + 0).toNat ((qb A) ++ [dn_253]) := RowR_last rR_386 (show CmO S_241 S_270 x (3 * a1_z + 0).toNat ((qb A)).length (rr_240.toInt) by rw [show ((qb A)).length = (rr_264.toInt).toNat by have := rR_386.1; omega]; exact cx_276) dn_255
        have rR_389 : RowR S_350 x (3 * a1_z + 0).toNat ((qb A) ++ [dn_253]) := RowR_eq rR_387 (zA_sAn eS_350 (ex3 (gQ_12_1218 hO_272.1 t_277)) h_348 rfl) (zA_sAn eS_350 (ex3 (gQ_12_1219 hO_272.1 t_277)) h_348 rfl)
        have rR_390 : RowR S_370 x (3 * a1_z + 0).toNat ((qb A) ++ [dn_253]) := RowR_eq rR_389 (zA_sAn eS_370 (ex3 (gQ_12_1218 hO_351.1 t_356)) h_359 rfl) (zA_sAn eS_370 (ex3 (gQ_12_1219 hO_351.1 t_356)) h_359 rfl)
        have rR_391 : RowR S_241 x (3 * a1_z + 1).toNat (qe A) := RowR_gox hO.1 ha_x (by omega) pw_6 g_252
        have rR_392 : RowR S_270 x (3 * a1_z + 1).toNat (qe A) := RowR_cmx hO_243.1 t_263 (by omega) rR_391 cx_276
        have rR_393 : RowR S_350 x (3 * a1_z + 1).toNat (qe A) := RowR_eq rR_392 (zA_sAn eS_350 (ex3 (gQ_12_1218 hO_272.1 t_277)) h_348 rfl) (zA_sAn eS_350 (ex3 (gQ_12_1219 hO_272.1 t_277)) h_348 rfl)
        have rR_394 : RowR S_370 x (3 * a1_z + 1).toNat (qe A) := RowR_eq rR_393 (zA_sAn eS_370 (ex3 (gQ_12_1218 hO_351.1 t_356)) h_359 rfl) (zA_sAn eS_370 (ex3 (gQ_12_1219 hO_351.1 t_356)) h_359 rfl)
        have rR_395 : RowR S_350 x (3 * a1_z + 2).toNat ((ql A).tail) := RowR_eq rR_284 (zA_sAn eS_350 (ex3 (gQ_12_1218 hO_272.1 t_277)) h_348 rfl) (zA_sAn eS_350 (ex3 (gQ_12_1219 hO_272.1 t_277)) h_348 rfl)
        have rR_396 : RowR S_370 x (3 * a1_z + 2).toNat ((ql A).tail) := RowR_eq rR_395 (zA_sAn eS_370 (ex3 (gQ_12_1218 hO_351.1 t_356)) h_359 rfl) (zA_sAn eS_370 (ex3 (gQ_12_1219 hO_351.1 t_356)) h_359 rfl)
        have zR_397 : zA S_370 x 1215 a1_z.toNat = (((qst A) + 2)).toInt := (by rw [zs_374, if_pos (by omega)]; exact (congrArg Int32.toInt (ev_368.trans (by rw [us_367]))))
        have zR_398 : zA S_241 x 1214 a1_z.toNat = ((qse A)).toInt := (congrFun (zA_fr hk_242.fr ha_x (ex3 (gQ_12_1214 hO.1 ha_x)) (by decide +kernel) (by decide +kernel)) _).trans pw_9
        have zR_399 : zA S_270 x 1214 a1_z.toNat = ((qse A)).toInt := (congrFun (zA_fr hk_271.fr t_263 (ex3 (gQ_12_1214 hO_243.1 t_263)) (by decide +kernel) (by decide +kernel)) _).trans zR_398
        have zR_400 : zA S_350 x 1214 a1_z.toNat = ((0 : Int32)).toInt := (by rw [zs_354, if_pos (by omega)]; decide)
        have zR_401 : zA S_370 x 1214 a1_z.toNat = ((0 : Int32)).toInt := (congrFun (zA_sAn eS_370 (ex3 (gQ_12_1214 hO_351.1 t_356)) h_359 rfl) _).trans zR_400
        have zR_402 : zA S_241 x 1216 a1_z.toNat = ((qdr A)).toInt := (congrFun (zA_fr hk_242.fr ha_x (ex3 (gQ_12_1216 hO.1 ha_x)) (by decide +kernel) (by decide +kernel)) _).trans pw_11
        have zR_403 : zA S_270 x 1216 a1_z.toNat = ((qdr A)).toInt := (congrFun (zA_fr hk_271.fr t_263 (ex3 (gQ_12_1216 hO_243.1 t_263)) (by decide +kernel) (by decide +kernel)) _).trans zR_402
        have zR_404 : zA S_350 x 1216 a1_z.toNat = ((qdr A)).toInt := (congrFun (zA_sAn eS_350 (ex3 (gQ_12_1216 hO_272.1 t_277)) h_348 rfl) _).trans zR_403
        have zR_405 : zA S_370 x 1216 a1_z.toNat = ((qdr A)).toInt := (congrFun (zA_sAn eS_370 (ex3 (gQ_12_1216 hO_351.1 t_356)) h_359 rfl) _).trans zR_404
        have zR_406 : zA S_241 x 1217 a1_z.toNat = ((qtk A)).toInt := (congrFun (zA_fr hk_242.fr ha_x (ex3 (gQ_12_1217 hO.1 ha_x)) (by decide +kernel) (by decide +kernel)) _).trans pw_12
        have zR_407 : zA S_270 x 1217 a1_z.toNat = ((qtk A)).toInt := (congrFun (zA_fr hk_271.fr t_263 (ex3 (gQ_12_1217 hO_243.1 t_263)) (by decide +kernel) (by decide +kernel)) _).trans zR_406
        have zR_408 : zA S_350 x 1217 a1_z.toNat = ((qtk A)).toInt := (congrFun (zA_sAn eS_350 (ex3 (gQ_12_1217 hO_272.1 t_277)) h_348 rfl) _).trans zR_407
        have zR_409 : zA S_370 x 1217 a1_z.toNat = ((qtk A)).toInt := (congrFun (zA_sAn eS_370 (ex3 (gQ_12_1217 hO_351.1 t_356)) h_359 rfl) _).trans zR_408
        have gR_410 : zA S_241 x 1237 a1_z.toNat = (((qg A)).length : Int) := (congrFun (zA_fr hk_242.fr ha_x (ex3 (gQ_12_1237 hO.1 ha_x)) (by decide +kernel) (by decide +kernel)) _).trans pw_10
        have gR_411 : zA S_270 x 1237 a1_z.toNat = (((qg A)).length : Int) := (congrFun (zA_fr hk_271.fr t_263 (ex3 (gQ_12_1237 hO_243.1 t_263)) (by decide +kernel) (by decide +kernel)) _).trans gR_410
        have gR_412 : zA S_350 x 1237 a1_z.toNat = (((qg A)).length : Int) := (congrFun (zA_sAn eS_350 (ex3 (gQ_12_1237 hO_272.1 t_277)) h_348 rfl) _).trans gR_411
        have gR_413 : zA S_370 x 1237 a1_z.toNat = (((qg A)).length : Int) := (congrFun (zA_sAn eS_370 (ex3 (gQ_12_1237 hO_351.1 t_356)) h_359 rfl) _).trans gR_412
        have pz_414 : PlZ S_241 x (qpl A) (qsd A) := PlZ_eq pw_14 (zA_fr hk_242.fr ha_x (ex3 (gQ_12_1208 hO.1 ha_x)) (by decide +kernel) (by decide +kernel)) (zA_fr hk_242.fr ha_x (ex3 (gQ_12_1207 hO.1 ha_x)) (by decide +kernel) (by decide +kernel))
        have pz_415 : PlZ S_270 x (qpl A) (fuI (qsd A) dn_253 1) := PlZ_7 pz_414 (zA_fr hk_271.fr t_263 (ex3 (gQ_12_1208 hO_243.1 t_263)) (by decide +kernel) (by decide +kernel)) cs_275 (by omega) (by decide)
        have pz_416 : PlZ S_350 x (qpl A) (fuI (qsd A) dn_253 1) := PlZ_eq pz_415 (zA_sAn eS_350 (ex3 (gQ_12_1208 hO_272.1 t_277)) h_348 rfl) (zA_sAn eS_350 (ex3 (gQ_12_1207 hO_272.1 t_277)) h_348 rfl)
        have pz_417 : PlZ S_370 x (qpl A) (fuI (qsd A) dn_253 1) := PlZ_eq pz_416 (zA_sAn eS_370 (ex3 (gQ_12_1208 hO_351.1 t_356)) h_359 rfl) (zA_sAn eS_370 (ex3 (gQ_12_1207 hO_351.1 t_356)) h_359 rfl)
        have t_418 : pI S_241 1238 x = v_15 := hk_242.fr.I' (by decide +kernel) ha_x ev_15
        have t_419 : pI S_270 1238 x = v_15 := hk_271.fr.I' (by decide +kernel) t_263 t_418
        have t_420 : pI S_350 1238 x = v_15 := tI_sA eS_350 t_419
        have t_421 : pI S_370 1238 x = v_15 := tI_sA eS_370 t_420
        have pz_422 : (pI S_370 1238 x).toInt = v_15.toInt := (congrArg Int32.toInt t_421).trans rfl
        have px_423 : PwX S S_241 x a1_z := PwX_go (PwX_rf S x a1_z) hO.1 ha_x (by omega) g_252 (pw5 (zA_fr hk_242.fr ha_x (ex3 (gQ_12_1214 hO.1 ha_x)) (by decide +kernel) (by decide +kernel)) (zA_fr hk_242.fr ha_x (ex3 (gQ_12_1215 hO.1 ha_x)) (by decide +kernel) (by decide +kernel)) (zA_fr hk_242.fr ha_x (ex3 (gQ_12_1216 hO.1 ha_x)) (by decide +kernel) (by decide +kernel)) (zA_fr hk_242.fr ha_x (ex3 (gQ_12_1217 hO.1 ha_x)) (by decide +kernel) (by decide +kernel)) (zA_fr hk_242.fr ha_x (ex3 (gQ_12_1237 hO.1 ha_x)) (by decide +kernel) (by decide +kernel)))
        have px_424 : PwX S S_270 x a1_z := PwX_cm px_423 hO_243.1 t_263 (by omega) cx_276 (pw5 (zA_fr hk_271.fr t_263 (ex3 (gQ_12_1214 hO_243.1 t_263)) (by decide +kernel) (by decide +kernel)) (zA_fr hk_271.fr t_263 (ex3 (gQ_12_1215 hO_243.1 t_263)) (by decide +kernel) (by decide +kernel)) (zA_fr hk_271.fr t_263 (ex3 (gQ_12_1216 hO_243.1 t_263)) (by decide +kernel) (by decide +kernel)) (zA_fr hk_271.fr t_263 (ex3 (gQ_12_1217 hO_243.1 t_263)) (by decide +kernel) (by decide +kernel)) (zA_fr hk_271.fr t_263 (ex3 (gQ_12_1237 hO_243.1 t_263)) (by decide +kernel) (by decide +kernel)))
        have px_425 : PwX S S_350 x a1_z := PwX_z px_424 (zA_sAn eS_350 (ex3 (gQ_12_1218 hO_272.1 t_277)) h_348 rfl) (zA_sAn eS_350 (ex3 (gQ_12_1219 hO_272.1 t_277)) h_348 rfl) zs_354 (by omega) (pw4 (fun h => absurd rfl h) (fun _ => zA_sAn eS_350 (ex3 (gQ_12_1215 hO_272.1 t_277)) h_348 rfl) (fun _ => zA_sAn eS_350 (ex3 (gQ_12_1216 hO_272.1 t_277)) h_348 rfl) (fun _ => zA_sAn eS_350 (ex3 (gQ_12_1217 hO_272.1 t_277)) h_348 rfl) (fun _ => zA_sAn eS_350 (ex3 (gQ_12_1237 hO_272.1 t_277)) h_348 rfl))
        have px_426 : PwX S S_370 x a1_z := PwX_z px_425 (zA_sAn eS_370 (ex3 (gQ_12_1218 hO_351.1 t_356)) h_359 rfl) (zA_sAn eS_370 (ex3 (gQ_12_1219 hO_351.1 t_356)) h_359 rfl) zs_374 (by omega) (pw4 (fun _ => zA_sAn eS_370 (ex3 (gQ_12_1214 hO_351.1 t_356)) h_359 rfl) (fun h => absurd rfl h) (fun _ => zA_sAn eS_370 (ex3 (gQ_12_1216 hO_351.1 t_356)) h_359 rfl) (fun _ => zA_sAn eS_370 (ex3 (gQ_12_1217 hO_351.1 t_356)) h_359 rfl) (fun _ => zA_sAn eS_370 (ex3 (gQ_12_1237 hO_351.1 t_356)) h_359 rfl))
        exact ret_v X hw hr hlocks (Nat.le_of_ble_eq_true rfl) (Nat.le_of_ble_eq_true rfl) ⟨hO_371, ⟨mi_377, fun hgr => (GR_eq zc_381 hgr), zm_385, PotW_of (B := pmk ((qb A) ++ [dn_253]) (qe A) ((ql A).tail) ((qst A) + 2) (0 : Int32) (qg A) (qpl A) (fuI (qsd A) dn_253 1) (qsk A) (qws A) (qdr A) (qtk A)) ((actF_2 (show ru.1.toInt = 2 by rw [fa_25]; have e1 : (v_23 : Int32).toInt = v_23.toInt := rfl; omega)).trans ((fndF_c (fun z => by have e0 := congrArg List.length z; have e1 : ([] : List Nat).length = 0 := rfl; have := pw_7.1; omega)).trans (by rw [fetF_c (hd_cons dn_254), capL_y cap_388, if_pos (List.eq_nil_of_length_eq_zero (by have := rR_284.1; omega))]; rfl))) rR_390 rR_394 rR_396 zR_397 zR_401 gR_413 zR_405 zR_409 (show (pI S_370 1238 x).toInt = (((qsk A)).length : Int) by omega) pz_417, px_426⟩⟩ dX12_acts_163
    · have z_b_427 := trivial
      have k_428 : rr_232.toInt = 0 := z_eq rfl ti_0 c_237
      have pz_429 : (pI S 1238 x).toInt = v_15.toInt := (congrArg Int32.toInt ev_15).trans rfl
      exact ret_v X hw hr hlocks (Nat.le_of_ble_eq_true rfl) (Nat.le_of_ble_eq_true rfl) ⟨hO, ⟨hp_4, fun hgr => hgr, hzm0, PotW_of ((actF_2 (show ru.1.toInt = 2 by rw [fa_25]; have e1 : (v_23 : Int32).toInt = v_23.toInt := rfl; omega)).trans (fndF_n (List.eq_nil_of_length_eq_zero (by have := pw_7.1; omega)))) pw_5 pw_6 pw_7 pw_8 pw_9 pw_10 pw_11 pw_12 (show (pI S 1238 x).toInt = (((qsk A)).length : Int) by omega) pw_14, (PwX_rf S x a1_z)⟩⟩ dX12_acts_117
  · refine lv_tableIn (tgt := 164) X.1 X.2.1 dX12_acts_6 (by omega) (by omega) (by rw [w_26c]; rfl) (by decide) ?_
    refine lv_aload_n X.1 X.2.1 dX12_acts_164 rfl (lv_at hl 0 rfl) ?_
    refine lv_iload_n X.1 X.2.1 dX12_acts_165 rfl (lv_at hl 1 rfl) ?_
    refine lv_iconst (v := 0) X.1 X.2.1 dX12_acts_166 (by decide) ?_
    refine k_i (rm := { frames := 1, cells := 0, slots := 0, locals := 48 }) (av := [.ref x, .int (a1), .int 0]) X hw (va_runV (As := [.int (a1), .int 0]) (rest := []) (cfix X) (k_X12_many2 l G cy κ S _ x (a1) (a1_z) (0) (0) hO.1 ha_x hz_a1 ti_0 (by first | assumption | omega) (by first | assumption | omega) (by first | assumption | omega) (by first | assumption | omega)) (cwV 2 X.2.2.2.1 gX12_acts_X12_many rfl rfl rfl (by decide +kernel) ⟨Nat.le_of_ble_eq_true rfl, Nat.le_of_ble_eq_true rfl⟩) (pre_V X hw _ ha_x rfl (by decide) rfl) rfl rfl hl.1 rfl (lv_room (Nat.le_of_ble_eq_true rfl)) dX12_acts_167 ⟨Nat.le_of_ble_eq_true rfl, Nat.le_of_ble_eq_true rfl⟩) 0 0 (Nat.le_of_ble_eq_true rfl) (Nat.le_of_ble_eq_true rfl) (fun rr_430 S_431 H locs hp hw hfr hnw => ?_)
    obtain ⟨e2, hp⟩ := hp
    subst e2
    obtain ⟨f_432, f_433, f_434⟩ := hp
    refine lv_if_le (tgt := 194) X.1 X.2.1 dX12_acts_170 (by decide) (fun c_435 => ?_) (fun c_435 => ?_)
    · have z_b_436 := trivial
      have k_437 : rr_430.toInt ≤ 0 := z_le rfl ti_0 c_435
      have pz_438 : (pI S 1238 x).toInt = v_15.toInt := (congrArg Int32.toInt ev_15).trans rfl
      exact ret_v X hw hr hlocks (Nat.le_of_ble_eq_true rfl) (Nat.le_of_ble_eq_true rfl) ⟨hO, ⟨hp_4, fun hgr => hgr, hzm0, PotW_of ((actF_3 (show ru.1.toInt = 3 by rw [fa_25]; have e1 : (v_23 : Int32).toInt = v_23.toInt := rfl; omega)).trans (throF_n (List.eq_nil_of_length_eq_zero (by have := pw_5.1; omega)))) pw_5 pw_6 pw_7 pw_8 pw_9 pw_10 pw_11 pw_12 (show (pI S 1238 x).toInt = (((qsk A)).length : Int) by omega) pw_14, (PwX_rf S x a1_z)⟩⟩ dX12_acts_194
    · have z_b_439 := trivial
      have k_440 : rr_430.toInt > 0 := z_nle rfl ti_0 c_435
      refine lv_aload_n X.1 X.2.1 dX12_acts_173 rfl (lv_at hl 0 rfl) ?_
      obtain ⟨q_441, h_442, h_443, h_444⟩ := gQ_12_1207 hO.1 ha_x
      refine r_getR (g := 1207) X hw ha_x rfl 7 h_442 (by decide) rfl inn_X12_acts_12 (by decide) (X.2.2.2.1 (.fieldLink RX12 25 "SilkMillModel" "stand" "[I") (by decide +kernel)) rfl (gv_1207 _ _) dX12_acts_174 ?_
      refine lv_aload_n X.1 X.2.1 dX12_acts_177 rfl (lv_at hl 0 rfl) ?_
      refine lv_iload_n X.1 X.2.1 dX12_acts_178 rfl (lv_at hl 1 rfl) ?_
      refine lv_iconst (v := 0) X.1 X.2.1 dX12_acts_179 (by decide) ?_
      refine lv_aload_n X.1 X.2.1 dX12_acts_180 rfl (lv_at hl 0 rfl) ?_
      refine lv_iload_n X.1 X.2.1 dX12_acts_181 rfl (lv_at hl 1 rfl) ?_
      refine lv_iconst (v := 0) X.1 X.2.1 dX12_acts_182 (by decide) ?_
      refine k_i (rm := { frames := 1, cells := 0, slots := 0, locals := 48 }) (av := [.ref x, .int (a1), .int 0]) X hw (va_runV (As := [.int (a1), .int 0]) (rest := [.int 0, .int (a1), .ref x, .ref q_441]) (cfix X) (k_X12_many2 l G cy κ S _ x (a1) (a1_z) (0) (0) hO.1 ha_x hz_a1 ti_0 (by first | assumption | omega) (by first | assumption | omega) (by first | assumption | omega) (by first | assumption | omega)) (cwV 2 X.2.2.2.1 gX12_acts_X12_many rfl rfl rfl (by decide +kernel) ⟨Nat.le_of_ble_eq_true rfl, Nat.le_of_ble_eq_true rfl⟩) (pre_V X hw _ ha_x rfl (by decide) rfl) rfl rfl hl.1 rfl (lv_room (Nat.le_of_ble_eq_true rfl)) dX12_acts_183 ⟨Nat.le_of_ble_eq_true rfl, Nat.le_of_ble_eq_true rfl⟩) 0 0 (Nat.le_of_ble_eq_true rfl) (Nat.le_of_ble_eq_true rfl) (fun rr_445 S_446 H locs hp hw hfr hnw => ?_)
      obtain ⟨e2, hp⟩ := hp
      subst e2
      obtain ⟨f_447, f_448, f_449⟩ := hp
      refine lv_iconst (v := 1) X.1 X.2.1 dX12_acts_186 (by decide) ?_
      refine lv_isub X.1 X.2.1 dX12_acts_187 ?_
      refine lv_topi (fun v_450 ev_450 => ?_)
      have z_451 : v_450.toInt = rr_445.toInt - 1 := z_sub ev_450 rfl ti_1 (by omega) (by omega)
      refine k_i (rm := { frames := 1, cells := 0, slots := 0, locals := 48 }) (av := [.ref x, .int (a1), .int 0, .int (v_450)]) X hw (va_runV (As := [.int (a1), .int 0, .int (v_450)]) (rest := [.ref q_441]) (cfix X) (k_X12_goes5 l G cy κ S _ x (a1) (a1_z) (0) (0) (v_450) ((rr_445.toInt - 1)) (-1) hO.1 ha_x hz_a1 ti_0 z_451 (by first | assumption | omega) (by first | assumption | omega) (by first | assumption | omega) (by first | assumption | omega) (by first | assumption | omega) (by first | assumption | omega) hp_4) (cwV 3 X.2.2.2.1 gX12_acts_X12_goes rfl rfl rfl (by decide +kernel) ⟨Nat.le_of_ble_eq_true rfl, Nat.le_of_ble_eq_true rfl⟩) (pre_V X hw _ ha_x rfl (by decide) rfl) rfl rfl hl.1 rfl (lv_room (Nat.le_of_ble_eq_true rfl)) dX12_acts_188 ⟨Nat.le_of_ble_eq_true rfl, Nat.le_of_ble_eq_true rfl⟩) 0 0 (Nat.le_of_ble_eq_true rfl) (Nat.le_of_ble_eq_true rfl) (fun rr_452 S_453 H locs hp hw hfr hnw => ?_)
      obtain ⟨hk_454, hp⟩ := hp
      have hO_455 : Ok MAC S S_453 := hO.call hk_454 (by decide +kernel)
      obtain ⟨g_456, g_457, g_458, g_459, g_460, g_461, g_462, g_463, g_464⟩ := hp
      obtain ⟨dn_465, dn_466⟩ : ∃ d, ((qb A))[(((rr_445.toInt - 1) : Int)).toNat]? = some d := ⟨_, List.getElem?_eq_getElem (by have := pw_5.1; omega)⟩
      have dn_467 : rr_452.toInt = (dn_465 : Int) := by have h8 := pw_5.2 _ _ dn_466; have hi : (600 * (3 * a1_z + 0) + (rr_445.toInt - 1)).toNat = 600 * (3 * a1_z + 0).toNat + (((rr_445.toInt - 1) : Int)).toNat := (by omega); rw [← hi] at h8; omega
      have t_468 : pI S_453 1201 x = v_1 := hk_454.fr.I' (by decide +kernel) ha_x ev_1
      have pz_469 : (pI S_453 1201 x).toInt = v_1.toInt := (congrArg Int32.toInt t_468).trans rfl
      have zl_470 : zA S_453 x 1207 = zA S x 1207 := zA_fr hk_454.fr ha_x (ex3 (gQ_12_1207 hO.1 ha_x)) (by decide +kernel) (by decide +kernel)
      have zz_471 := congrFun zl_470 (rr_452.toInt).toNat
      have al_472 := ((MI_1 g_461 (c := rr_452.toInt) (by omega) (by omega)).2 (by omega)).2 (by omega) (by omega)
      refine lv_bipush (v := 6) X.1 X.2.1 dX12_acts_191 (by decide) ?_
      have t_473 : At S_453 q_441 354 := hk_454.fr.at h_443
      have t_474 : pN S_453 q_441 = 600 := hk_454.fr.N h_443 h_444
      clear h_444
      refine r_iast X hw t_473 rfl (by rw [t_474]; exact z_ix rfl (by omega) (by omega)) dX12_acts_193 (fun H locs hw => ?_)
      obtain ⟨S_475, eS_475⟩ : ∃ T, T = sA S_453 q_441 (upd (pA S_453 q_441) (Int32.toNatClampNeg (rr_452)) (6)) := ⟨_, rfl⟩
      rw [← eS_475] at hw
      have hO_476 : Ok MAC S S_475 := hO_455.sA eS_475 t_473 (by decide +kernel) (uA_354 hO_455.1 t_473)
      have h_477 : pA S_475 q_441 (Int32.toNatClampNeg (rr_452)) = 6 := tA_sAs eS_475
      have t_478 : pR S_453 1207 x = some q_441 := hk_454.fr.R' (by decide +kernel) ha_x h_442
      have t_479 : pR S_475 1207 x = some q_441 := tR_sA eS_475 t_478
      have t_481 : pR S_453 1207 x = some q_441 := by have h := t_479; rw [eS_475, pR_sA] at h; exact h
      have zs_480 : ∀ j, zA S_475 x 1207 j = if j = (rr_452.toInt).toNat then 6 else zA S_453 x 1207 j := by have h := zA_sAs eS_475 t_481 ti_6; rw [z_nc rfl (by omega)] at h; exact h
      have t_483 : At S_453 x 12 := hk_454.fr.at ha_x
      have mi_482 : MIe S_475 x (-1) := stand_MI (c := rr_452.toInt) hO_455.1 t_483 (show Fr [10354] S_453 S_475 by rw [eS_475]; exact Fr_sA t_473 List.mem_cons_self) g_461 (by omega) (by omega) g_462 zs_480 (Or.inr (Or.inr (by assumption)))
      have t_485 : pR S_453 1207 x = some q_441 := by have h := t_479; rw [eS_475, pR_sA] at h; exact h
      have zs_484 : ∀ j, zA S_475 x 1207 j = if j = (rr_452.toInt).toNat then 6 else zA S_453 x 1207 j := by have h := zA_sAs eS_475 t_485 ti_6; rw [z_nc rfl (by omega)] at h; exact h
      have zm_486 : ZM S S_453 x := ZM_eq hzm0 (zA_fr hk_454.fr ha_x (ex3 (gQ_12_1207 hO.1 ha_x)) (by decide +kernel) (by decide +kernel))
      have zm_487 : ZM S S_475 x := ZM_set zm_486 zs_484 ⟨by omega, by omega⟩ ⟨by omega, by omega⟩
      have zc_488 : zA S_453 x 1237 = zA S x 1237 := zA_fr hk_454.fr ha_x (ex3 (gQ_12_1237 hO.1 ha_x)) (by decide +kernel) (by decide +kernel)
      have zc_489 : zA S_475 x 1237 = zA S x 1237 := (zA_sAn eS_475 (ex3 (gQ_12_1237 hO_455.1 t_483)) t_473 rfl).trans zc_488
      have rR_490 : RowR S_453 x (3 * a1_z + 0).toNat ((qb A).eraseIdx ((rr_445.toInt - 1)).toNat) := RowR_goes pw_5 g_464 (by have := pw_5.1; omega)
      have rR_491 : RowR S_475 x (3 * a1_z + 0).toNat ((qb A).eraseIdx ((rr_445.toInt - 1)).toNat) := RowR_eq rR_490 (zA_sAn eS_475 (ex3 (gQ_12_1218 hO_455.1 t_483)) t_473 rfl) (zA_sAn eS_475 (ex3 (gQ_12_1219 hO_455.1 t_483)) t_473 rfl)
      have rR_492 : RowR S_453 x (3 * a1_z + 1).toNat (qe A) := RowR_gox hO.1 ha_x (by omega) pw_6 g_464
      have rR_493 : RowR S_475 x (3 * a1_z + 1).toNat (qe A) := RowR_eq rR_492 (zA_sAn eS_475 (ex3 (gQ_12_1218 hO_455.1 t_483)) t_473 rfl) (zA_sAn eS_475 (ex3 (gQ_12_1219 hO_455.1 t_483)) t_473 rfl)
      have rR_494 : RowR S_453 x (3 * a1_z + 2).toNat (ql A) := RowR_gox hO.1 ha_x (by omega) pw_7 g_464
      have rR_495 : RowR S_475 x (3 * a1_z + 2).toNat (ql A) := RowR_eq rR_494 (zA_sAn eS_475 (ex3 (gQ_12_1218 hO_455.1 t_483)) t_473 rfl) (zA_sAn eS_475 (ex3 (gQ_12_1219 hO_455.1 t_483)) t_473 rfl)
      have zR_496 : zA S_453 x 1215 a1_z.toNat = ((qst A)).toInt := (congrFun (zA_fr hk_454.fr ha_x (ex3 (gQ_12_1215 hO.1 ha_x)) (by decide +kernel) (by decide +kernel)) _).trans pw_8
      have zR_497 : zA S_475 x 1215 a1_z.toNat = ((qst A)).toInt := (congrFun (zA_sAn eS_475 (ex3 (gQ_12_1215 hO_455.1 t_483)) t_473 rfl) _).trans zR_496
      have zR_498 : zA S_453 x 1214 a1_z.toNat = ((qse A)).toInt := (congrFun (zA_fr hk_454.fr ha_x (ex3 (gQ_12_1214 hO.1 ha_x)) (by decide +kernel) (by decide +kernel)) _).trans pw_9
      have zR_499 : zA S_475 x 1214 a1_z.toNat = ((qse A)).toInt := (congrFun (zA_sAn eS_475 (ex3 (gQ_12_1214 hO_455.1 t_483)) t_473 rfl) _).trans zR_498
      have zR_500 : zA S_453 x 1216 a1_z.toNat = ((qdr A)).toInt := (congrFun (zA_fr hk_454.fr ha_x (ex3 (gQ_12_1216 hO.1 ha_x)) (by decide +kernel) (by decide +kernel)) _).trans pw_11
      have zR_501 : zA S_475 x 1216 a1_z.toNat = ((qdr A)).toInt := (congrFun (zA_sAn eS_475 (ex3 (gQ_12_1216 hO_455.1 t_483)) t_473 rfl) _).trans zR_500
      have zR_502 : zA S_453 x 1217 a1_z.toNat = ((qtk A)).toInt := (congrFun (zA_fr hk_454.fr ha_x (ex3 (gQ_12_1217 hO.1 ha_x)) (by decide +kernel) (by decide +kernel)) _).trans pw_12
      have zR_503 : zA S_475 x 1217 a1_z.toNat = ((qtk A)).toInt := (congrFun (zA_sAn eS_475 (ex3 (gQ_12_1217 hO_455.1 t_483)) t_473 rfl) _).trans zR_502
      have gR_504 : zA S_453 x 1237 a1_z.toNat = (((qg A)).length : Int) := (congrFun (zA_fr hk_454.fr ha_x (ex3 (gQ_12_1237 hO.1 ha_x)) (by decide +kernel) (by decide +kernel)) _).trans pw_10
      have gR_505 : zA S_475 x 1237 a1_z.toNat = (((qg A)).length : Int) := (congrFun (zA_sAn eS_475 (ex3 (gQ_12_1237 hO_455.1 t_483)) t_473 rfl) _).trans gR_504
      have pz_506 : PlZ S_453 x (qpl A) (qsd A) := PlZ_eq pw_14 (zA_fr hk_454.fr ha_x (ex3 (gQ_12_1208 hO.1 ha_x)) (by decide +kernel) (by decide +kernel)) (zA_fr hk_454.fr ha_x (ex3 (gQ_12_1207 hO.1 ha_x)) (by decide +kernel) (by decide +kernel))
      have pz_507 : PlZ S_475 x (qpl A) (fuI (qsd A) dn_465 6) := PlZ_7 pz_506 (zA_sAn eS_475 (ex3 (gQ_12_1208 hO_455.1 t_483)) t_473 rfl) zs_484 (by omega) (by decide)
      have t_508 : pI S_453 1238 x = v_15 := hk_454.fr.I' (by decide +kernel) ha_x ev_15
      have t_509 : pI S_475 1238 x = v_15 := tI_sA eS_475 t_508
      have pz_510 : (pI S_475 1238 x).toInt = v_15.toInt := (congrArg Int32.toInt t_509).trans rfl
      have px_511 : PwX S S_453 x a1_z := PwX_go (PwX_rf S x a1_z) hO.1 ha_x (by omega) g_464 (pw5 (zA_fr hk_454.fr ha_x (ex3 (gQ_12_1214 hO.1 ha_x)) (by decide +kernel) (by decide +kernel)) (zA_fr hk_454.fr ha_x (ex3 (gQ_12_1215 hO.1 ha_x)) (by decide +kernel) (by decide +kernel)) (zA_fr hk_454.fr ha_x (ex3 (gQ_12_1216 hO.1 ha_x)) (by decide +kernel) (by decide +kernel)) (zA_fr hk_454.fr ha_x (ex3 (gQ_12_1217 hO.1 ha_x)) (by decide +kernel) (by decide +kernel)) (zA_fr hk_454.fr ha_x (ex3 (gQ_12_1237 hO.1 ha_x)) (by decide +kernel) (by decide +kernel)))
      have px_512 : PwX S S_475 x a1_z := PwX_to px_511 (zA_sAn eS_475 (ex3 (gQ_12_1218 hO_455.1 t_483)) t_473 rfl) (zA_sAn eS_475 (ex3 (gQ_12_1219 hO_455.1 t_483)) t_473 rfl) (pw5 (zA_sAn eS_475 (ex3 (gQ_12_1214 hO_455.1 t_483)) t_473 rfl) (zA_sAn eS_475 (ex3 (gQ_12_1215 hO_455.1 t_483)) t_473 rfl) (zA_sAn eS_475 (ex3 (gQ_12_1216 hO_455.1 t_483)) t_473 rfl) (zA_sAn eS_475 (ex3 (gQ_12_1217 hO_455.1 t_483)) t_473 rfl) (zA_sAn eS_475 (ex3 (gQ_12_1237 hO_455.1 t_483)) t_473 rfl))
      exact ret_v X hw hr hlocks (Nat.le_of_ble_eq_true rfl) (Nat.le_of_ble_eq_true rfl) ⟨hO_476, ⟨mi_482, fun hgr => (GR_eq zc_489 hgr), zm_487, PotW_of (B := pmk ((qb A).eraseIdx ((rr_445.toInt - 1)).toNat) (qe A) (ql A) (qst A) (qse A) (qg A) (qpl A) (fuI (qsd A) dn_465 6) (qsk A) (qws A) (qdr A) (qtk A)) ((actF_3 (show ru.1.toInt = 3 by rw [fa_25]; have e1 : (v_23 : Int32).toInt = v_23.toInt := rfl; omega)).trans ((throF_c (by rw [show (qb A).length - 1 = (((rr_445.toInt - 1) : Int)).toNat by have := pw_5.1; omega]; exact dn_466)).trans (by rw [show (qb A).length - 1 = (((rr_445.toInt - 1) : Int)).toNat by have := pw_5.1; omega]; rfl))) rR_491 rR_493 rR_495 zR_497 zR_499 gR_505 zR_501 zR_503 (show (pI S_475 1238 x).toInt = (((qsk A)).length : Int) by omega) pz_507, px_512⟩⟩ dX12_acts_194
  · refine lv_tableIn (tgt := 195) X.1 X.2.1 dX12_acts_6 (by omega) (by omega) (by rw [w_26c]; rfl) (by decide) ?_
    refine lv_aload_n X.1 X.2.1 dX12_acts_195 rfl (lv_at hl 0 rfl) ?_
    refine lv_iload_n X.1 X.2.1 dX12_acts_196 rfl (lv_at hl 1 rfl) ?_
    refine k_i (rm := { frames := 6, cells := 0, slots := 0, locals := 288 }) (av := [.ref x, .int (a1)]) X hw (va_runV (As := [.int (a1)]) (rest := []) (cfix X) (k_X12_cuts5 l G cy κ S _ x (a1) (a1_z) hO.1 ha_x hz_a1 (by first | assumption | omega) (by first | assumption | omega) hp_4) (cwV 1 X.2.2.2.1 gX12_acts_X12_cuts rfl rfl rfl (by decide +kernel) ⟨Nat.le_of_ble_eq_true rfl, Nat.le_of_ble_eq_true rfl⟩) (pre_V X hw _ ha_x rfl (by decide) rfl) rfl rfl hl.1 rfl (lv_room (Nat.le_of_ble_eq_true rfl)) dX12_acts_197 ⟨Nat.le_of_ble_eq_true rfl, Nat.le_of_ble_eq_true rfl⟩) 0 0 (Nat.le_of_ble_eq_true rfl) (Nat.le_of_ble_eq_true rfl) (fun rr_513 S_514 H locs hp hw hfr hnw => ?_)
    obtain ⟨hk_515, hp⟩ := hp
    have hO_516 : Ok MAC S S_514 := hO.call hk_515 (by decide +kernel)
    obtain ⟨mi_517, cu_518, cc_519, cc_520, cc_521⟩ := hp
    have rg_522 := And.intro (z_lo rr_513) (z_hi rr_513)
    refine lv_istore_n (lv' := [(3, .int (rr_513)), (0, .ref x), (1, .int (a1)), (2, .int (a2))]) X.1 X.2.1 dX12_acts_200 rfl hl (by decide) rfl (fun ls hl => ?_)
    have zm_523 : ZM S S_514 x := ZM_eq hzm0 (zA_fr hk_515.fr ha_x (ex3 (gQ_12_1207 hO.1 ha_x)) (by decide +kernel) (by decide +kernel))
    have rR_524 : RowR S_514 x (3 * a1_z + 0).toNat (qb A) := RowR_eq pw_5 (zA_fr hk_515.fr ha_x (ex3 (gQ_12_1218 hO.1 ha_x)) (by decide +kernel) (by decide +kernel)) (zA_fr hk_515.fr ha_x (ex3 (gQ_12_1219 hO.1 ha_x)) (by decide +kernel) (by decide +kernel))
    have rR_525 : RowR S_514 x (3 * a1_z + 1).toNat (qe A) := RowR_eq pw_6 (zA_fr hk_515.fr ha_x (ex3 (gQ_12_1218 hO.1 ha_x)) (by decide +kernel) (by decide +kernel)) (zA_fr hk_515.fr ha_x (ex3 (gQ_12_1219 hO.1 ha_x)) (by decide +kernel) (by decide +kernel))
    have rR_526 : RowR S_514 x (3 * a1_z + 2).toNat (ql A) := RowR_eq pw_7 (zA_fr hk_515.fr ha_x (ex3 (gQ_12_1218 hO.1 ha_x)) (by decide +kernel) (by decide +kernel)) (zA_fr hk_515.fr ha_x (ex3 (gQ_12_1219 hO.1 ha_x)) (by decide +kernel) (by decide +kernel))
    have zR_527 : zA S_514 x 1215 a1_z.toNat = ((qst A)).toInt := (congrFun (zA_fr hk_515.fr ha_x (ex3 (gQ_12_1215 hO.1 ha_x)) (by decide +kernel) (by decide +kernel)) _).trans pw_8
    have zR_528 : zA S_514 x 1214 a1_z.toNat = ((qse A)).toInt := (congrFun (zA_fr hk_515.fr ha_x (ex3 (gQ_12_1214 hO.1 ha_x)) (by decide +kernel) (by decide +kernel)) _).trans pw_9
    have zR_529 : zA S_514 x 1216 a1_z.toNat = ((qdr A)).toInt := (congrFun (zA_fr hk_515.fr ha_x (ex3 (gQ_12_1216 hO.1 ha_x)) (by decide +kernel) (by decide +kernel)) _).trans pw_11
    have zR_530 : zA S_514 x 1217 a1_z.toNat = ((qtk A)).toInt := (congrFun (zA_fr hk_515.fr ha_x (ex3 (gQ_12_1217 hO.1 ha_x)) (by decide +kernel) (by decide +kernel)) _).trans pw_12
    have pz_531 : PlZ S_514 x (qpl A) (qsd A) := PlZ_eq pw_14 (zA_fr hk_515.fr ha_x (ex3 (gQ_12_1208 hO.1 ha_x)) (by decide +kernel) (by decide +kernel)) (zA_fr hk_515.fr ha_x (ex3 (gQ_12_1207 hO.1 ha_x)) (by decide +kernel) (by decide +kernel))
    have px_532 : PwX S S_514 x a1_z := PwX_z (PwX_rf S x a1_z) (zA_fr hk_515.fr ha_x (ex3 (gQ_12_1218 hO.1 ha_x)) (by decide +kernel) (by decide +kernel)) (zA_fr hk_515.fr ha_x (ex3 (gQ_12_1219 hO.1 ha_x)) (by decide +kernel) (by decide +kernel)) cu_518 (by omega) (pw4 (fun _ => zA_fr hk_515.fr ha_x (ex3 (gQ_12_1214 hO.1 ha_x)) (by decide +kernel) (by decide +kernel)) (fun _ => zA_fr hk_515.fr ha_x (ex3 (gQ_12_1215 hO.1 ha_x)) (by decide +kernel) (by decide +kernel)) (fun _ => zA_fr hk_515.fr ha_x (ex3 (gQ_12_1216 hO.1 ha_x)) (by decide +kernel) (by decide +kernel)) (fun _ => zA_fr hk_515.fr ha_x (ex3 (gQ_12_1217 hO.1 ha_x)) (by decide +kernel) (by decide +kernel)) (fun h => absurd rfl h))
    exact ret_v X hw hr hlocks (Nat.le_of_ble_eq_true rfl) (Nat.le_of_ble_eq_true rfl) ⟨hO_516, ⟨mi_517, fun hgr => (GR_set cu_518 (by omega) hgr), zm_523, (by rw [actF_4 (show ru.1.toInt = 4 by rw [fa_25]; have e1 : (v_23 : Int32).toInt = v_23.toInt := rfl; omega)]; exact (PotW_cut pw_10 pw_13 cc_519 cc_520 cc_521 (by rw [cu_518, if_pos rfl]) rR_524 rR_525 rR_526 zR_527 zR_528 zR_529 zR_530 pz_531).1), px_532⟩⟩ dX12_acts_201
