
set_option maxHeartbeats 4000000 in
set_option maxRecDepth 100000 in
theorem k_X12_cuts5 (l : Launch) (G : va_G) (cy : Nat → ClassId) (κ : Nat → Nat) (S : PS) (sz : Nat) (x : Nat) (a1 : Int32) (a1_z : Int) (hG : GX S) (ha_x : At S x 12) (hz_a1 : a1.toInt = a1_z) (hp_0 : 0 ≤ a1_z) (hp_1 : a1_z ≤ 3) (hp_2 : MI S x) : Ci l yX12_cuts wsX12_cuts ({ frames := 6, cells := 0, slots := 0, locals := 288 }) G cy κ S sz [.ref x, .int (a1)] (fun (r : Int32) (S9 : PS) => Ok MCU S S9 ∧ (MI S9 x ∧ (∀ j, zA S9 x 1237 j = if j = (a1_z).toNat then 0 else zA S x 1237 j) ∧ (zA S x 1237 a1_z.toNat = 0 → r.toInt = -1 ∧ (pI S9 1238 x).toInt = (pI S 1238 x).toInt ∧ CuN S S9 x) ∧ (zA S x 1237 a1_z.toNat ≠ 0 → (pI S 1238 x).toInt < 40 → r.toInt = (pI S 1238 x).toInt ∧ (pI S9 1238 x).toInt = (pI S 1238 x).toInt + 1 ∧ CuO S S9 x a1_z) ∧ (zA S x 1237 a1_z.toNat ≠ 0 → ¬ (pI S 1238 x).toInt < 40 → r.toInt = -2 ∧ (pI S9 1238 x).toInt = (pI S 1238 x).toInt ∧ CuN S S9 x))) := by
  refine ent_m (cc := cX12_cuts) (maxL := 6) (ret := (some .int)) (by decide) rfl (Nat.le_of_ble_eq_true rfl) ?_
  intro p e s m below meth c ls X hr hlocks hin hw hl hsz
  subst hsz
  have X : Cx p c cX12_cuts 6 s [.ref x, .int (a1)].toArray wsX12_cuts RX12 m G cy κ (AS S s.heap.size) := X
  have hl : lv_has ls 6 [(0, .ref x), (1, .int (a1))] := hl
  have rg_a1 : (-2147483648) ≤ a1_z ∧ a1_z ≤ 2147483647 := by rw [← hz_a1]; exact ⟨z_lo _, z_hi _⟩
  have hO : Ok MCU S S := Ok.rf hG
  generalize hQQ : MQ below _ _ _ _ _ _ = QQ
  replace hQQ := hQQ.symm
  obtain ⟨v_1, ev_1⟩ : ∃ v, pI S 1238 x = v := ⟨_, rfl⟩
  have rg_2 := gI_12_1238 hO.1 ha_x; rw [ev_1] at rg_2
  have pz_3 : (pI S 1238 x).toInt = v_1.toInt := by rw [ev_1]
  have pz_4 : (pI S 1238 x).toInt = v_1.toInt := (congrArg Int32.toInt ev_1).trans rfl
  obtain ⟨v_5, ev_5⟩ : ∃ v, pI S 1245 x = v := ⟨_, rfl⟩
  have rg_7 := And.intro (z_lo v_5) (z_hi v_5)
  have pz_8 : (pI S 1245 x).toInt = v_5.toInt := by rw [ev_5]
  have pz_9 : (pI S 1245 x).toInt = v_5.toInt := (congrArg Int32.toInt ev_5).trans rfl
  refine lv_aload_n X.1 X.2.1 dX12_cuts_0 rfl (lv_at hl 0 rfl) ?_
  obtain ⟨q_10, h_11, h_12, h_13⟩ := gQ_12_1237 hO.1 ha_x
  refine r_getR (g := 1237) X hw ha_x rfl 37 h_11 (by decide) rfl inn_X12_cuts_12 (by decide) (X.2.2.2.1 (.fieldLink RX12 97 "SilkMillModel" "grown" "[I") (by decide +kernel)) rfl (gv_1237 _ _) dX12_cuts_1 ?_
  refine lv_iload_n X.1 X.2.1 dX12_cuts_4 rfl (lv_at hl 1 rfl) ?_
  refine r_iald X hw h_12 rfl (by rw [h_13]; exact z_ix hz_a1 (by omega) (by omega)) dX12_cuts_5 ?_
  refine lv_topi (fun v_14 ev_14 => ?_)
  have z_15 := gE_954 hO.1 h_12 (Int32.toNatClampNeg (a1)); rw [← ev_14] at z_15
  have ev_14 := ev_14.symm
  have zf_16 : zA S x 1237 (a1_z).toNat = v_14.toInt := (zA_of h_11 hz_a1 (by omega) ev_14)
  refine lv_istore_n (lv' := [(2, .int (v_14)), (0, .ref x), (1, .int (a1))]) X.1 X.2.1 dX12_cuts_6 rfl hl (by decide) rfl (fun ls hl => ?_)
  refine lv_iload_n X.1 X.2.1 dX12_cuts_7 rfl (lv_at hl 0 rfl) ?_
  refine lv_if_ne (tgt := 13) X.1 X.2.1 dX12_cuts_8 (by decide) (fun c_17 => ?_) (fun c_17 => ?_)
  · have z_b_18 := trivial
    have k_19 : v_14.toInt ≠ 0 := z_ne rfl ti_0 c_17
    refine lv_aload_n X.1 X.2.1 dX12_cuts_13 rfl (lv_at hl 1 rfl) ?_
    refine r_getR (g := 1237) X hw ha_x rfl 37 h_11 (by decide) rfl inn_X12_cuts_12 (by decide) (X.2.2.2.1 (.fieldLink RX12 97 "SilkMillModel" "grown" "[I") (by decide +kernel)) rfl (gv_1237 _ _) dX12_cuts_14 ?_
    refine lv_iload_n X.1 X.2.1 dX12_cuts_17 rfl (lv_at hl 2 rfl) ?_
    refine lv_iconst (v := 0) X.1 X.2.1 dX12_cuts_18 (by decide) ?_
    refine r_iast X hw h_12 rfl (by rw [h_13]; exact z_ix hz_a1 (by omega) (by omega)) dX12_cuts_19 (fun H locs hw => ?_)
    obtain ⟨S_20, eS_20⟩ : ∃ T, T = sA S q_10 (upd (pA S q_10) (Int32.toNatClampNeg (a1)) (0)) := ⟨_, rfl⟩
    rw [← eS_20] at hw
    have hO_21 : Ok MCU S S_20 := hO.sA eS_20 h_12 (by decide +kernel) (uA_954 hO.1 h_12 (by rw [ti_0]; omega) (by rw [ti_0]; omega))
    have h_22 : pA S_20 q_10 (Int32.toNatClampNeg (a1)) = 0 := tA_sAs eS_20
    have t_23 : pR S_20 1237 x = some q_10 := tR_sA eS_20 h_11
    have t_25 : pR S 1237 x = some q_10 := by have h := t_23; rw [eS_20, pR_sA] at h; exact h
    have zs_24 : ∀ j, zA S_20 x 1237 j = if j = (a1_z).toNat then 0 else zA S x 1237 j := by have h := zA_sAs eS_20 t_25 ti_0; rw [z_nc hz_a1 (by omega)] at h; exact h
    refine lv_aload_n X.1 X.2.1 dX12_cuts_20 rfl (lv_at hl 1 rfl) ?_
    have t_26 : At S_20 x 12 := tAt_sA eS_20 ha_x
    have t_27 : pI S_20 1238 x = v_1 := tI_sA eS_20 ev_1
    refine r_getI (g := 1238) (x := v_1) X hw t_26 rfl 38 t_27 (by decide) rfl inn_X12_cuts_12 (by decide) (X.2.2.2.1 (.fieldLink RX12 290 "SilkMillModel" "skeins" "I") (by decide +kernel)) rfl (gv_1238 _ _) dX12_cuts_21 ?_
    refine lv_bipush (v := 40) X.1 X.2.1 dX12_cuts_24 (by decide) ?_
    refine lv_icmp_ne (tgt := 51) X.1 X.2.1 dX12_cuts_26 (by decide) (fun c_28 => ?_) (fun c_28 => ?_)
    · have z_b_29 := trivial
      have k_30 : v_1.toInt ≠ 40 := z_ne rfl ti_40 c_28
      refine lv_aload_n X.1 X.2.1 dX12_cuts_51 rfl (lv_at hl 1 rfl) ?_
      obtain ⟨q_31, h_32, h_33, h_34⟩ := gQ_12_1239 hO_21.1 t_26
      refine r_getR (g := 1239) X hw t_26 rfl 39 h_32 (by decide) rfl inn_X12_cuts_12 (by decide) (X.2.2.2.1 (.fieldLink RX12 100 "SilkMillModel" "firstMetre" "[I") (by decide +kernel)) rfl (gv_1239 _ _) dX12_cuts_52 ?_
      refine lv_aload_n X.1 X.2.1 dX12_cuts_55 rfl (lv_at hl 1 rfl) ?_
      refine r_getI (g := 1238) (x := v_1) X hw t_26 rfl 38 t_27 (by decide) rfl inn_X12_cuts_12 (by decide) (X.2.2.2.1 (.fieldLink RX12 290 "SilkMillModel" "skeins" "I") (by decide +kernel)) rfl (gv_1238 _ _) dX12_cuts_56 ?_
      refine r_iald X hw h_33 rfl (by rw [h_34]; exact z_ix rfl (by omega) (by omega)) dX12_cuts_59 ?_
      refine lv_topi (fun v_35 ev_35 => ?_)
      have z_36 := gE_994 hO_21.1 h_33 (Int32.toNatClampNeg (v_1)); rw [← ev_35] at z_36
      have ev_35 := ev_35.symm
      have zf_37 : zA S_20 x 1239 (v_1.toInt).toNat = v_35.toInt := (zA_of h_32 rfl (by omega) ev_35)
      have pz_39 : (pI S_20 1238 x).toInt = v_1.toInt := (congrArg Int32.toInt t_27).trans rfl
      have mi_40 : MIe S_20 x (-1) := MIe_37 hp_2 hO.1 ha_x h_12 eS_20
      have m7_38 := MI_7' mi_40 (k := v_1.toInt) (by omega) (by omega); rw [zf_37] at m7_38
      have zc_41 : zA S_20 x 1239 = zA S x 1239 := zA_sAn eS_20 (ex3 (gQ_12_1239 hO.1 ha_x)) h_12 rfl
      refine lv_istore_n (lv' := [(3, .int (v_35)), (2, .int (v_14)), (0, .ref x), (1, .int (a1))]) X.1 X.2.1 dX12_cuts_60 rfl hl (by decide) rfl (fun ls hl => ?_)
      refine lv_iconst (v := 0) X.1 X.2.1 dX12_cuts_61 (by decide) ?_
      refine lv_istore (lv' := [(4, .int 0), (3, .int (v_35)), (2, .int (v_14)), (0, .ref x), (1, .int (a1))]) X.1 X.2.1 dX12_cuts_62 hl (by decide) rfl (fun ls hl => ?_)
      have zc_48 : zA S_20 x 1240 = zA S x 1240 := zA_sAn eS_20 (ex3 (gQ_12_1240 hO.1 ha_x)) h_12 rfl
      have zc_50 : zA S_20 x 1241 = zA S x 1241 := zA_sAn eS_20 (ex3 (gQ_12_1241 hO.1 ha_x)) h_12 rfl
      have zc_52 : zA S_20 x 1242 = zA S x 1242 := zA_sAn eS_20 (ex3 (gQ_12_1242 hO.1 ha_x)) h_12 rfl
      have L_42 : ∀ (n : Nat) (T_44 : PS) (H : Heap) (locs : List Loc) (ls : Array Slot) (i4_43 : Int32) (i4_43_z : Int), ((300 - i4_43_z).toNat = n) → (Wd G cy (AS S s.heap.size) s.heap T_44 H locs) → (i4_43.toInt = i4_43_z) → (0 ≤ i4_43_z ∧ i4_43_z ≤ 300) → (At T_44 x 12) → (Ok MCU S T_44) → (zA T_44 x 1237 = zA S_20 x 1237) → (zA T_44 x 1239 = zA S x 1239) → (zA T_44 x 1240 = zA S x 1240) → (zA T_44 x 1241 = zA S x 1241) → (zA T_44 x 1242 = zA S x 1242) → (MIe T_44 x (-1)) → (CuP S T_44 x (v_35.toInt) (12000 + 300 * a1_z) i4_43_z (12 * i4_43_z)) → (i4_43_z ≤ v_14.toInt) → (pI T_44 1238 x = v_1) → (lv_has ls 6 [(4, .int (i4_43)), (3, .int (v_35)), (2, .int (v_14)), (0, .ref x), (1, .int (a1))]) → W p l e ({ frames := 6, cells := 0, slots := 0, locals := 288 }) s m [.ref x, .int (a1)].toArray below meth c H locs 0 0 QQ (F0 m 64 ls []) := by
        intro n
        induction n using Nat.strongRecOn with
        | ind n ih_L_42 =>
        intro T_44 H locs ls i4_43 i4_43_z hn hw hz_i4_43 hr_i4_43 ha_x_L_45 hO_T_44 zk_46 zk_47 zk_49 zk_51 zk_53 mk_54 iv_55 iv_56 ik_57 hl
        have rg_58 : (-2147483648) ≤ i4_43_z ∧ i4_43_z ≤ 2147483647 := by rw [← hz_i4_43]; exact ⟨z_lo _, z_hi _⟩
        have pz_59 : (pI T_44 1238 x).toInt = v_1.toInt := (congrArg Int32.toInt ik_57).trans rfl
        refine lv_iload X.1 X.2.1 dX12_cuts_64 (lv_at hl 0 rfl) ?_
        refine lv_iload_n X.1 X.2.1 dX12_cuts_66 rfl (lv_at hl 2 rfl) ?_
        refine lv_icmp_ge (tgt := 148) X.1 X.2.1 dX12_cuts_67 (by decide) (fun c_60 => ?_) (fun c_60 => ?_)
        · have z_b_61 := trivial
          have k_62 : i4_43_z ≥ v_14.toInt := z_le rfl hz_i4_43 c_60
          refine lv_aload_n X.1 X.2.1 dX12_cuts_148 rfl (lv_at hl 3 rfl) ?_
          obtain ⟨q_63, h_64, h_65, h_66⟩ := gQ_12_1240 hO_T_44.1 ha_x_L_45
          refine r_getR (g := 1240) X hw ha_x_L_45 rfl 40 h_64 (by decide) rfl inn_X12_cuts_12 (by decide) (X.2.2.2.1 (.fieldLink RX12 103 "SilkMillModel" "skeinPot" "[I") (by decide +kernel)) rfl (gv_1240 _ _) dX12_cuts_149 ?_
          refine lv_aload_n X.1 X.2.1 dX12_cuts_152 rfl (lv_at hl 3 rfl) ?_
          refine r_getI (g := 1238) (x := v_1) X hw ha_x_L_45 rfl 38 ik_57 (by decide) rfl inn_X12_cuts_12 (by decide) (X.2.2.2.1 (.fieldLink RX12 290 "SilkMillModel" "skeins" "I") (by decide +kernel)) rfl (gv_1238 _ _) dX12_cuts_153 ?_
          refine lv_iload_n X.1 X.2.1 dX12_cuts_156 rfl (lv_at hl 4 rfl) ?_
          refine r_iast X hw h_65 rfl (by rw [h_66]; exact z_ix rfl (by omega) (by omega)) dX12_cuts_157 (fun H locs hw => ?_)
          obtain ⟨S_67, eS_67⟩ : ∃ T, T = sA T_44 q_63 (upd (pA T_44 q_63) (Int32.toNatClampNeg (v_1)) (a1)) := ⟨_, rfl⟩
          rw [← eS_67] at hw
          have hO_68 : Ok MCU S S_67 := hO_T_44.sA eS_67 h_65 (by decide +kernel) (uA_1014 hO_T_44.1 h_65)
          have h_69 : pA S_67 q_63 (Int32.toNatClampNeg (v_1)) = a1 := tA_sAs eS_67
          have t_70 : pR S_67 1240 x = some q_63 := tR_sA eS_67 h_64
          have t_72 : pR T_44 1240 x = some q_63 := by have h := t_70; rw [eS_67, pR_sA] at h; exact h
          have zs_71 : ∀ j, zA S_67 x 1240 j = if j = (v_1.toInt).toNat then a1_z else zA T_44 x 1240 j := by have h := zA_sAs eS_67 t_72 hz_a1; rw [z_nc rfl (by omega)] at h; exact h
          have zs_73 : ∀ j, zA S_67 x 1240 j = if j = (v_1.toInt).toNat then a1_z else zA S x 1240 j := fun j => by rw [zs_71 j, zk_49]
          refine lv_aload_n X.1 X.2.1 dX12_cuts_158 rfl (lv_at hl 3 rfl) ?_
          have t_74 : At S_67 x 12 := tAt_sA eS_67 ha_x_L_45
          obtain ⟨q_75, h_76, h_77, h_78⟩ := gQ_12_1241 hO_68.1 t_74
          refine r_getR (g := 1241) X hw t_74 rfl 41 h_76 (by decide) rfl inn_X12_cuts_12 (by decide) (X.2.2.2.1 (.fieldLink RX12 106 "SilkMillModel" "skeinDay" "[I") (by decide +kernel)) rfl (gv_1241 _ _) dX12_cuts_159 ?_
          refine lv_aload_n X.1 X.2.1 dX12_cuts_162 rfl (lv_at hl 3 rfl) ?_
          have t_79 : pI S_67 1238 x = v_1 := tI_sA eS_67 ik_57
          refine r_getI (g := 1238) (x := v_1) X hw t_74 rfl 38 t_79 (by decide) rfl inn_X12_cuts_12 (by decide) (X.2.2.2.1 (.fieldLink RX12 290 "SilkMillModel" "skeins" "I") (by decide +kernel)) rfl (gv_1238 _ _) dX12_cuts_163 ?_
          refine lv_aload_n X.1 X.2.1 dX12_cuts_166 rfl (lv_at hl 3 rfl) ?_
          obtain ⟨v_80, ev_80⟩ : ∃ v, pI S_67 1245 x = v := ⟨_, rfl⟩
          have rg_82 := And.intro (z_lo v_80) (z_hi v_80)
          have pz_83 : (pI S_67 1245 x).toInt = v_80.toInt := by rw [ev_80]
          refine r_getI (g := 1245) (x := v_80) X hw t_74 rfl 45 ev_80 (by decide) rfl inn_X12_cuts_12 (by decide) (X.2.2.2.1 (.fieldLink RX12 302 "SilkMillModel" "today" "I") (by decide +kernel)) rfl (gv_1245 _ _) dX12_cuts_167 ?_
          refine r_iast X hw h_77 rfl (by rw [h_78]; exact z_ix rfl (by omega) (by omega)) dX12_cuts_170 (fun H locs hw => ?_)
          obtain ⟨S_84, eS_84⟩ : ∃ T, T = sA S_67 q_75 (upd (pA S_67 q_75) (Int32.toNatClampNeg (v_1)) (v_80)) := ⟨_, rfl⟩
          rw [← eS_84] at hw
          have hO_85 : Ok MCU S S_84 := hO_68.sA eS_84 h_77 (by decide +kernel) (uA_1034 hO_68.1 h_77)
          have h_86 : pA S_84 q_75 (Int32.toNatClampNeg (v_1)) = v_80 := tA_sAs eS_84
          have zc_87 : zA S_67 x 1241 = zA S x 1241 := (zA_sAn eS_67 (ex3 (gQ_12_1241 hO_T_44.1 ha_x_L_45)) h_65 rfl).trans zk_51
          have t_88 : pR S_84 1241 x = some q_75 := tR_sA eS_84 h_76
          have t_90 : pR S_67 1241 x = some q_75 := by have h := t_88; rw [eS_84, pR_sA] at h; exact h
          have zs_89 : ∀ j, zA S_84 x 1241 j = if j = (v_1.toInt).toNat then v_80.toInt else zA S_67 x 1241 j := by have h := zA_sAs eS_84 t_90 rfl; rw [z_nc rfl (by omega)] at h; exact h
          have zs_91 : ∀ j, zA S_84 x 1241 j = if j = (v_1.toInt).toNat then v_80.toInt else zA S x 1241 j := fun j => by rw [zs_89 j, zc_87]
          refine lv_aload_n X.1 X.2.1 dX12_cuts_171 rfl (lv_at hl 3 rfl) ?_
          have t_92 : At S_84 x 12 := tAt_sA eS_84 t_74
          obtain ⟨q_93, h_94, h_95, h_96⟩ := gQ_12_1242 hO_85.1 t_92
          refine r_getR (g := 1242) X hw t_92 rfl 42 h_94 (by decide) rfl inn_X12_cuts_12 (by decide) (X.2.2.2.1 (.fieldLink RX12 109 "SilkMillModel" "skeinAim" "[I") (by decide +kernel)) rfl (gv_1242 _ _) dX12_cuts_172 ?_
          refine lv_aload_n X.1 X.2.1 dX12_cuts_175 rfl (lv_at hl 3 rfl) ?_
          have t_97 : pI S_84 1238 x = v_1 := tI_sA eS_84 t_79
          refine r_getI (g := 1238) (x := v_1) X hw t_92 rfl 38 t_97 (by decide) rfl inn_X12_cuts_12 (by decide) (X.2.2.2.1 (.fieldLink RX12 290 "SilkMillModel" "skeins" "I") (by decide +kernel)) rfl (gv_1238 _ _) dX12_cuts_176 ?_
          refine lv_aload_n X.1 X.2.1 dX12_cuts_179 rfl (lv_at hl 3 rfl) ?_
          obtain ⟨q_98, h_99, h_100, h_101⟩ := gQ_12_1212 hO_85.1 t_92
          refine r_getR (g := 1212) X hw t_92 rfl 12 h_99 (by decide) rfl inn_X12_cuts_12 (by decide) (X.2.2.2.1 (.fieldLink RX12 37 "SilkMillModel" "aim" "[I") (by decide +kernel)) rfl (gv_1212 _ _) dX12_cuts_180 ?_
          refine lv_iload_n X.1 X.2.1 dX12_cuts_183 rfl (lv_at hl 4 rfl) ?_
          refine r_iald X hw h_100 rfl (by rw [h_101]; exact z_ix hz_a1 (by omega) (by omega)) dX12_cuts_184 ?_
          refine lv_topi (fun v_102 ev_102 => ?_)
          have rg_103 := And.intro (z_lo v_102) (z_hi v_102)
          have ev_102 := ev_102.symm
          have zf_104 : zA S_84 x 1212 (a1_z).toNat = v_102.toInt := (zA_of h_99 hz_a1 (by omega) ev_102)
          have am_105 : zA S x 1212 a1_z.toNat = v_102.toInt := by rw [show a1_z.toNat = (a1_z).toNat by omega]; exact (congrFun (zA_fr hO_85.fr ha_x (ex3 (gQ_12_1212 hG ha_x)) (by decide +kernel) (by decide +kernel)) _).symm.trans zf_104
          refine r_iast X hw h_95 rfl (by rw [h_96]; exact z_ix rfl (by omega) (by omega)) dX12_cuts_185 (fun H locs hw => ?_)
          obtain ⟨S_106, eS_106⟩ : ∃ T, T = sA S_84 q_93 (upd (pA S_84 q_93) (Int32.toNatClampNeg (v_1)) (v_102)) := ⟨_, rfl⟩
          rw [← eS_106] at hw
          have hO_107 : Ok MCU S S_106 := hO_85.sA eS_106 h_95 (by decide +kernel) (uA_1054 hO_85.1 h_95)
          have h_108 : pA S_106 q_93 (Int32.toNatClampNeg (v_1)) = v_102 := tA_sAs eS_106
          have zc_109 : zA S_67 x 1242 = zA S x 1242 := (zA_sAn eS_67 (ex3 (gQ_12_1242 hO_T_44.1 ha_x_L_45)) h_65 rfl).trans zk_53
          have zc_110 : zA S_84 x 1242 = zA S x 1242 := (zA_sAn eS_84 (ex3 (gQ_12_1242 hO_68.1 t_74)) h_77 rfl).trans zc_109
          have t_111 : pR S_106 1242 x = some q_93 := tR_sA eS_106 h_94
          have t_113 : pR S_84 1242 x = some q_93 := by have h := t_111; rw [eS_106, pR_sA] at h; exact h
          have zs_112 : ∀ j, zA S_106 x 1242 j = if j = (v_1.toInt).toNat then v_102.toInt else zA S_84 x 1242 j := by have h := zA_sAs eS_106 t_113 rfl; rw [z_nc rfl (by omega)] at h; exact h
          have zs_114 : ∀ j, zA S_106 x 1242 j = if j = (v_1.toInt).toNat then v_102.toInt else zA S x 1242 j := fun j => by rw [zs_112 j, zc_110]
          refine lv_aload_n X.1 X.2.1 dX12_cuts_186 rfl (lv_at hl 3 rfl) ?_
          have t_115 : At S_106 x 12 := tAt_sA eS_106 t_92
          obtain ⟨q_116, h_117, h_118, h_119⟩ := gQ_12_1243 hO_107.1 t_115
          refine r_getR (g := 1243) X hw t_115 rfl 43 h_117 (by decide) rfl inn_X12_cuts_12 (by decide) (X.2.2.2.1 (.fieldLink RX12 112 "SilkMillModel" "skeinGrade" "[I") (by decide +kernel)) rfl (gv_1243 _ _) dX12_cuts_187 ?_
          refine lv_aload_n X.1 X.2.1 dX12_cuts_190 rfl (lv_at hl 3 rfl) ?_
          have t_120 : pI S_106 1238 x = v_1 := tI_sA eS_106 t_97
          refine r_getI (g := 1238) (x := v_1) X hw t_115 rfl 38 t_120 (by decide) rfl inn_X12_cuts_12 (by decide) (X.2.2.2.1 (.fieldLink RX12 290 "SilkMillModel" "skeins" "I") (by decide +kernel)) rfl (gv_1238 _ _) dX12_cuts_191 ?_
          refine lv_iconst (v := (-1)) X.1 X.2.1 dX12_cuts_194 (by decide) ?_
          refine r_iast X hw h_118 rfl (by rw [h_119]; exact z_ix rfl (by omega) (by omega)) dX12_cuts_195 (fun H locs hw => ?_)
          obtain ⟨S_121, eS_121⟩ : ∃ T, T = sA S_106 q_116 (upd (pA S_106 q_116) (Int32.toNatClampNeg (v_1)) ((-1))) := ⟨_, rfl⟩
          rw [← eS_121] at hw
          have hO_122 : Ok MCU S S_121 := hO_107.sA eS_121 h_118 (by decide +kernel) (uA_1074 hO_107.1 h_118 (by rw [ti_m1]; omega) (by rw [ti_m1]; omega))
          have h_123 : pA S_121 q_116 (Int32.toNatClampNeg (v_1)) = (-1) := tA_sAs eS_121
          refine lv_aload_n X.1 X.2.1 dX12_cuts_196 rfl (lv_at hl 3 rfl) ?_
          have t_124 : At S_121 x 12 := tAt_sA eS_121 t_115
          obtain ⟨q_125, h_126, h_127, h_128⟩ := gQ_12_1244 hO_122.1 t_124
          refine r_getR (g := 1244) X hw t_124 rfl 44 h_126 (by decide) rfl inn_X12_cuts_12 (by decide) (X.2.2.2.1 (.fieldLink RX12 115 "SilkMillModel" "isSold" "[Z") (by decide +kernel)) rfl (gv_1244 _ _) dX12_cuts_197 ?_
          refine lv_aload_n X.1 X.2.1 dX12_cuts_200 rfl (lv_at hl 3 rfl) ?_
          have t_129 : pI S_121 1238 x = v_1 := tI_sA eS_121 t_120
          refine r_getI (g := 1238) (x := v_1) X hw t_124 rfl 38 t_129 (by decide) rfl inn_X12_cuts_12 (by decide) (X.2.2.2.1 (.fieldLink RX12 290 "SilkMillModel" "skeins" "I") (by decide +kernel)) rfl (gv_1238 _ _) dX12_cuts_201 ?_
          refine lv_iconst (v := 0) X.1 X.2.1 dX12_cuts_204 (by decide) ?_
          refine r_zast X hw h_127 rfl (by rw [h_128]; exact z_ix rfl (by omega) (by omega)) dX12_cuts_205 (fun H locs hw => ?_)
          obtain ⟨S_130, eS_130⟩ : ∃ T, T = sA S_121 q_125 (upd (pA S_121 q_125) (Int32.toNatClampNeg (v_1)) (vp_nar .boolean (0))) := ⟨_, rfl⟩
          rw [← eS_130] at hw
          have hO_131 : Ok MCU S S_130 := hO_122.sA eS_130 h_127 (by decide +kernel) (uA_1095 hO_122.1 h_127)
          refine lv_aload_n X.1 X.2.1 dX12_cuts_206 rfl (lv_at hl 3 rfl) ?_
          refine lv_dup X.1 X.2.1 dX12_cuts_207 rfl ?_
          have t_132 : At S_130 x 12 := tAt_sA eS_130 t_124
          have t_133 : pI S_130 1238 x = v_1 := tI_sA eS_130 t_129
          refine r_getI (g := 1238) (x := v_1) X hw t_132 rfl 38 t_133 (by decide) rfl inn_X12_cuts_12 (by decide) (X.2.2.2.1 (.fieldLink RX12 290 "SilkMillModel" "skeins" "I") (by decide +kernel)) rfl (gv_1238 _ _) dX12_cuts_208 ?_
          refine lv_iconst (v := 1) X.1 X.2.1 dX12_cuts_211 (by decide) ?_
          refine lv_iadd X.1 X.2.1 dX12_cuts_212 ?_
          refine lv_topi (fun v_134 ev_134 => ?_)
          have z_135 : v_134.toInt = v_1.toInt + 1 := z_add ev_134 rfl ti_1 (by omega) (by omega)
          have mi_136 : MIe S_67 x (-1) := MIe_sA mk_54 hO_T_44.1 ha_x_L_45 h_65 eS_67 (by decide +kernel)
          have mi_137 : MIe S_84 x (-1) := MIe_sA mi_136 hO_68.1 t_74 h_77 eS_84 (by decide +kernel)
          have mi_138 : MIe S_106 x (-1) := MIe_sA mi_137 hO_85.1 t_92 h_95 eS_106 (by decide +kernel)
          have mi_139 : MIe S_121 x (-1) := MIe_sA mi_138 hO_107.1 t_115 h_118 eS_121 (by decide +kernel)
          have mi_140 : MIe S_130 x (-1) := MIe_sA mi_139 hO_122.1 t_124 h_127 eS_130 (by decide +kernel)
          have pz_141 : (pI S_130 1238 x).toInt = v_1.toInt := (congrArg Int32.toInt t_133).trans rfl
          have zc_142 : zA S_67 x 1239 = zA S x 1239 := (zA_sAn eS_67 (ex3 (gQ_12_1239 hO_T_44.1 ha_x_L_45)) h_65 rfl).trans zk_47
          have zc_143 : zA S_84 x 1239 = zA S x 1239 := (zA_sAn eS_84 (ex3 (gQ_12_1239 hO_68.1 t_74)) h_77 rfl).trans zc_142
          have zc_144 : zA S_106 x 1239 = zA S x 1239 := (zA_sAn eS_106 (ex3 (gQ_12_1239 hO_85.1 t_92)) h_95 rfl).trans zc_143
          have zc_145 : zA S_121 x 1239 = zA S x 1239 := (zA_sAn eS_121 (ex3 (gQ_12_1239 hO_107.1 t_115)) h_118 rfl).trans zc_144
          have zc_146 : zA S_130 x 1239 = zA S x 1239 := (zA_sAn eS_130 (ex3 (gQ_12_1239 hO_122.1 t_124)) h_127 rfl).trans zc_145
          refine r_putI (v := v_134) X hw t_132 rfl 38 1238 tyX12 (by decide) rfl inn_X12_cuts_12 tyX12_ok nmX12 (by decide) (X.2.2.2.1 (.fieldLink RX12 290 "SilkMillModel" "skeins" "I") (by decide +kernel)) rfl (Or.inl rfl) rfl rfl (Nat.le_of_ble_eq_true rfl) (st_1238 _ _) dX12_cuts_213 (fun H locs hw => ?_)
          obtain ⟨S_147, eS_147⟩ : ∃ T, T = sI S_130 1238 x (v_134) := ⟨_, rfl⟩
          rw [← eS_147] at hw
          have hO_148 : Ok MCU S S_147 := hO_131.sI eS_147 (by decide +kernel) (uI_12_1238 hO_131.1 t_132 (by omega) (by omega))
          have h_149 : pI S_147 1238 x = v_134 := tI_sIs eS_147
          refine lv_aload_n X.1 X.2.1 dX12_cuts_216 rfl (lv_at hl 3 rfl) ?_
          have t_150 : At S_147 x 12 := tAt_sI eS_147 t_132
          obtain ⟨q_151, h_152, h_153, h_154⟩ := gQ_12_1239 hO_148.1 t_150
          refine r_getR (g := 1239) X hw t_150 rfl 39 h_152 (by decide) rfl inn_X12_cuts_12 (by decide) (X.2.2.2.1 (.fieldLink RX12 100 "SilkMillModel" "firstMetre" "[I") (by decide +kernel)) rfl (gv_1239 _ _) dX12_cuts_217 ?_
          refine lv_aload_n X.1 X.2.1 dX12_cuts_220 rfl (lv_at hl 3 rfl) ?_
          refine r_getI (g := 1238) (x := v_134) X hw t_150 rfl 38 h_149 (by decide) rfl inn_X12_cuts_12 (by decide) (X.2.2.2.1 (.fieldLink RX12 290 "SilkMillModel" "skeins" "I") (by decide +kernel)) rfl (gv_1238 _ _) dX12_cuts_221 ?_
          refine lv_iload_n X.1 X.2.1 dX12_cuts_224 rfl (lv_at hl 1 rfl) ?_
          refine lv_iload_n X.1 X.2.1 dX12_cuts_225 rfl (lv_at hl 2 rfl) ?_
          refine lv_iadd X.1 X.2.1 dX12_cuts_226 ?_
          refine lv_topi (fun v_155 ev_155 => ?_)
          have z_156 : v_155.toInt = v_35.toInt + v_14.toInt := z_add ev_155 rfl rfl (by omega) (by omega)
          refine r_iast X hw h_153 rfl (by rw [h_154]; exact z_ix z_135 (by omega) (by omega)) dX12_cuts_227 (fun H locs hw => ?_)
          obtain ⟨S_157, eS_157⟩ : ∃ T, T = sA S_147 q_151 (upd (pA S_147 q_151) (Int32.toNatClampNeg (v_134)) (v_155)) := ⟨_, rfl⟩
          rw [← eS_157] at hw
          have hO_158 : Ok MCU S S_157 := hO_148.sA eS_157 h_153 (by decide +kernel) (uA_994 hO_148.1 h_153 (by omega) (by omega))
          have h_159 : pA S_157 q_151 (Int32.toNatClampNeg (v_134)) = v_155 := tA_sAs eS_157
          have t_160 : pR S_157 1239 x = some q_151 := tR_sA eS_157 h_152
          have t_162 : pR S_147 1239 x = some q_151 := by have h := t_160; rw [eS_157, pR_sA] at h; exact h
          have zs_161 : ∀ j, zA S_157 x 1239 j = if j = ((v_1.toInt + 1)).toNat then (v_35.toInt + v_14.toInt) else zA S_147 x 1239 j := by have h := zA_sAs eS_157 t_162 z_156; rw [z_nc z_135 (by omega)] at h; exact h
          have hA13 : (pI S_130 1238 x).toInt = v_1.toInt := by omega
          have hB13 : zA S_130 x 1239 (v_1.toInt).toNat = v_35.toInt := (congrFun zc_146 _).trans ((congrFun zc_41 _).symm.trans zf_37)
          have t_164 : pI S_157 1238 x = v_134 := tI_sA eS_157 h_149
          have mi_163 : MIe S_157 x (-1) := cut_MI (n := v_14.toInt) hO_131.1 t_132 ((show Fr [1238, 10994] S_130 S_147 by rw [eS_147]; exact Fr_sI (by decide)).trans (show Fr [1238, 10994] S_147 S_157 by rw [eS_157]; exact Fr_sA h_153 (by decide))) mi_140 (by omega) (by omega) (by omega) (by rw [t_164]; omega) (fun j => by rw [zs_161 j, zA_sI eS_147, hA13, hB13, show ((v_1.toInt + 1)).toNat = (v_1.toInt + 1).toNat by omega])
          have zc_165 : zA S_147 x 1239 = zA S x 1239 := (zA_sI eS_147).trans zc_146
          have t_167 : pR S_147 1239 x = some q_151 := by have h := t_160; rw [eS_157, pR_sA] at h; exact h
          have zs_166 : ∀ j, zA S_157 x 1239 j = if j = ((v_1.toInt + 1)).toNat then (v_35.toInt + v_14.toInt) else zA S_147 x 1239 j := by have h := zA_sAs eS_157 t_167 z_156; rw [z_nc z_135 (by omega)] at h; exact h
          have zs_168 : ∀ j, zA S_157 x 1239 j = if j = ((v_1.toInt + 1)).toNat then (v_35.toInt + v_14.toInt) else zA S x 1239 j := fun j => by rw [zs_166 j, zc_165]
          refine lv_aload_n X.1 X.2.1 dX12_cuts_228 rfl (lv_at hl 3 rfl) ?_
          have t_169 : At S_157 x 12 := tAt_sA eS_157 t_150
          refine r_getI (g := 1238) (x := v_134) X hw t_169 rfl 38 t_164 (by decide) rfl inn_X12_cuts_12 (by decide) (X.2.2.2.1 (.fieldLink RX12 290 "SilkMillModel" "skeins" "I") (by decide +kernel)) rfl (gv_1238 _ _) dX12_cuts_229 ?_
          refine lv_iconst (v := 1) X.1 X.2.1 dX12_cuts_232 (by decide) ?_
          refine lv_isub X.1 X.2.1 dX12_cuts_233 ?_
          refine lv_topi (fun v_170 ev_170 => ?_)
          have z_171 : v_170.toInt = (v_1.toInt + 1) - 1 := z_sub ev_170 z_135 ti_1 (by omega) (by omega)
          have zc_172 : zA S_67 x 1237 = zA S_20 x 1237 := (zA_sAn eS_67 (ex3 (gQ_12_1237 hO_T_44.1 ha_x_L_45)) h_65 rfl).trans zk_46
          have zc_173 : zA S_84 x 1237 = zA S_20 x 1237 := (zA_sAn eS_84 (ex3 (gQ_12_1237 hO_68.1 t_74)) h_77 rfl).trans zc_172
          have zc_174 : zA S_106 x 1237 = zA S_20 x 1237 := (zA_sAn eS_106 (ex3 (gQ_12_1237 hO_85.1 t_92)) h_95 rfl).trans zc_173
          have zc_175 : zA S_121 x 1237 = zA S_20 x 1237 := (zA_sAn eS_121 (ex3 (gQ_12_1237 hO_107.1 t_115)) h_118 rfl).trans zc_174
          have zc_176 : zA S_130 x 1237 = zA S_20 x 1237 := (zA_sAn eS_130 (ex3 (gQ_12_1237 hO_122.1 t_124)) h_127 rfl).trans zc_175
          have zc_177 : zA S_147 x 1237 = zA S_20 x 1237 := (zA_sI eS_147).trans zc_176
          have zc_178 : zA S_157 x 1237 = zA S_20 x 1237 := (zA_sAn eS_157 (ex3 (gQ_12_1237 hO_148.1 t_150)) h_153 rfl).trans zc_177
          have zs_179 : ∀ j, zA S_157 x 1237 j = if j = (a1_z).toNat then 0 else zA S x 1237 j := fun j => by rw [zc_178]; exact zs_24 j
          have pz_180 : (pI S_157 1238 x).toInt = (v_1.toInt + 1) := (congrArg Int32.toInt t_164).trans z_135
          have cp_181 : CuP S S_67 x (v_35.toInt) (12000 + 300 * a1_z) (i4_43_z) (12 * i4_43_z) := CuP_to (zA_sAn eS_67 (ex3 (gQ_12_1235 hO_T_44.1 ha_x_L_45)) h_65 rfl) (zA_sAn eS_67 (ex3 (gQ_12_1236 hO_T_44.1 ha_x_L_45)) h_65 rfl) iv_55
          have cp_182 : CuP S S_84 x (v_35.toInt) (12000 + 300 * a1_z) (i4_43_z) (12 * i4_43_z) := CuP_to (zA_sAn eS_84 (ex3 (gQ_12_1235 hO_68.1 t_74)) h_77 rfl) (zA_sAn eS_84 (ex3 (gQ_12_1236 hO_68.1 t_74)) h_77 rfl) cp_181
          have cp_183 : CuP S S_106 x (v_35.toInt) (12000 + 300 * a1_z) (i4_43_z) (12 * i4_43_z) := CuP_to (zA_sAn eS_106 (ex3 (gQ_12_1235 hO_85.1 t_92)) h_95 rfl) (zA_sAn eS_106 (ex3 (gQ_12_1236 hO_85.1 t_92)) h_95 rfl) cp_182
          have cp_184 : CuP S S_121 x (v_35.toInt) (12000 + 300 * a1_z) (i4_43_z) (12 * i4_43_z) := CuP_to (zA_sAn eS_121 (ex3 (gQ_12_1235 hO_107.1 t_115)) h_118 rfl) (zA_sAn eS_121 (ex3 (gQ_12_1236 hO_107.1 t_115)) h_118 rfl) cp_183
          have cp_185 : CuP S S_130 x (v_35.toInt) (12000 + 300 * a1_z) (i4_43_z) (12 * i4_43_z) := CuP_to (zA_sAn eS_130 (ex3 (gQ_12_1235 hO_122.1 t_124)) h_127 rfl) (zA_sAn eS_130 (ex3 (gQ_12_1236 hO_122.1 t_124)) h_127 rfl) cp_184
          have cp_186 : CuP S S_147 x (v_35.toInt) (12000 + 300 * a1_z) (i4_43_z) (12 * i4_43_z) := CuP_to (zA_sI eS_147) (zA_sI eS_147) cp_185
          have cp_187 : CuP S S_157 x (v_35.toInt) (12000 + 300 * a1_z) (i4_43_z) (12 * i4_43_z) := CuP_to (zA_sAn eS_157 (ex3 (gQ_12_1235 hO_148.1 t_150)) h_153 rfl) (zA_sAn eS_157 (ex3 (gQ_12_1236 hO_148.1 t_150)) h_153 rfl) cp_186
          have t_188 : pI S_84 1245 x = v_80 := tI_sA eS_84 ev_80
          have t_189 : pI S_106 1245 x = v_80 := tI_sA eS_106 t_188
          have t_190 : pI S_121 1245 x = v_80 := tI_sA eS_121 t_189
          have t_191 : pI S_130 1245 x = v_80 := tI_sA eS_130 t_190
          have t_192 : pI S_147 1245 x = v_80 := tI_sI eS_147 rfl t_191
          have t_193 : pI S_157 1245 x = v_80 := tI_sA eS_157 t_192
          have pz_194 : (pI S_157 1245 x).toInt = v_80.toInt := (congrArg Int32.toInt t_193).trans rfl
          have d45_195 : (pI S_157 1245 x).toInt = (pI S 1245 x).toInt := congrArg Int32.toInt (hO_158.fr.I' (g := 1245) (by decide +kernel) ha_x rfl)
          have zc_196 : zA S_84 x 1240 = zA S_67 x 1240 := zA_sAn eS_84 (ex3 (gQ_12_1240 hO_68.1 t_74)) h_77 rfl
          have zc_197 : zA S_106 x 1240 = zA S_67 x 1240 := (zA_sAn eS_106 (ex3 (gQ_12_1240 hO_85.1 t_92)) h_95 rfl).trans zc_196
          have zc_198 : zA S_121 x 1240 = zA S_67 x 1240 := (zA_sAn eS_121 (ex3 (gQ_12_1240 hO_107.1 t_115)) h_118 rfl).trans zc_197
          have zc_199 : zA S_130 x 1240 = zA S_67 x 1240 := (zA_sAn eS_130 (ex3 (gQ_12_1240 hO_122.1 t_124)) h_127 rfl).trans zc_198
          have zc_200 : zA S_147 x 1240 = zA S_67 x 1240 := (zA_sI eS_147).trans zc_199
          have zc_201 : zA S_157 x 1240 = zA S_67 x 1240 := (zA_sAn eS_157 (ex3 (gQ_12_1240 hO_148.1 t_150)) h_153 rfl).trans zc_200
          have zs_202 : ∀ j, zA S_157 x 1240 j = if j = (v_1.toInt).toNat then a1_z else zA S x 1240 j := fun j => by rw [zc_201]; exact zs_73 j
          have zc_203 : zA S_67 x 1241 = zA S x 1241 := (zA_sAn eS_67 (ex3 (gQ_12_1241 hO_T_44.1 ha_x_L_45)) h_65 rfl).trans zk_51
          have zc_204 : zA S_106 x 1241 = zA S_84 x 1241 := zA_sAn eS_106 (ex3 (gQ_12_1241 hO_85.1 t_92)) h_95 rfl
          have zc_205 : zA S_121 x 1241 = zA S_84 x 1241 := (zA_sAn eS_121 (ex3 (gQ_12_1241 hO_107.1 t_115)) h_118 rfl).trans zc_204
          have zc_206 : zA S_130 x 1241 = zA S_84 x 1241 := (zA_sAn eS_130 (ex3 (gQ_12_1241 hO_122.1 t_124)) h_127 rfl).trans zc_205
          have zc_207 : zA S_147 x 1241 = zA S_84 x 1241 := (zA_sI eS_147).trans zc_206
          have zc_208 : zA S_157 x 1241 = zA S_84 x 1241 := (zA_sAn eS_157 (ex3 (gQ_12_1241 hO_148.1 t_150)) h_153 rfl).trans zc_207
          have zs_209 : ∀ j, zA S_157 x 1241 j = if j = (v_1.toInt).toNat then v_80.toInt else zA S x 1241 j := fun j => by rw [zc_208]; exact zs_91 j
          have zc_210 : zA S_67 x 1242 = zA S x 1242 := (zA_sAn eS_67 (ex3 (gQ_12_1242 hO_T_44.1 ha_x_L_45)) h_65 rfl).trans zk_53
          have zc_211 : zA S_84 x 1242 = zA S x 1242 := (zA_sAn eS_84 (ex3 (gQ_12_1242 hO_68.1 t_74)) h_77 rfl).trans zc_210
          have zc_212 : zA S_121 x 1242 = zA S_106 x 1242 := zA_sAn eS_121 (ex3 (gQ_12_1242 hO_107.1 t_115)) h_118 rfl
          have zc_213 : zA S_130 x 1242 = zA S_106 x 1242 := (zA_sAn eS_130 (ex3 (gQ_12_1242 hO_122.1 t_124)) h_127 rfl).trans zc_212
          have zc_214 : zA S_147 x 1242 = zA S_106 x 1242 := (zA_sI eS_147).trans zc_213
          have zc_215 : zA S_157 x 1242 = zA S_106 x 1242 := (zA_sAn eS_157 (ex3 (gQ_12_1242 hO_148.1 t_150)) h_153 rfl).trans zc_214
          have zs_216 : ∀ j, zA S_157 x 1242 j = if j = (v_1.toInt).toNat then v_102.toInt else zA S x 1242 j := fun j => by rw [zc_215]; exact zs_114 j
          have zc_217 : zA S_147 x 1239 = zA S x 1239 := (zA_sI eS_147).trans zc_146
          rw [hQQ]
          exact ret_i X hw hr hlocks (Nat.le_of_ble_eq_true rfl) (Nat.le_of_ble_eq_true rfl) ⟨hO_158, ⟨mi_163, zs_179, fun h => absurd h (by omega), fun h h2 => ⟨by have e1 : (v_170 : Int32).toInt = ((v_1.toInt + 1) - 1) := z_171; omega, by omega, ⟨v_35.toInt, (by rw [show (pI S 1238 x).toInt.toNat = (v_1.toInt).toNat by omega]; exact (congrFun zc_41 _).symm.trans zf_37), CuP_c cp_187 (by omega) (by omega), by omega, fun j => (by rw [zs_202 j, show (v_1.toInt).toNat = (pI S 1238 x).toInt.toNat by omega]), fun j => (by rw [zs_209 j, show (v_1.toInt).toNat = (pI S 1238 x).toInt.toNat by omega, show (v_80.toInt : Int) = (pI S 1245 x).toInt by omega]), fun j => (by rw [zs_216 j, show (v_1.toInt).toNat = (pI S 1238 x).toInt.toNat by omega, show (v_102.toInt : Int) = zA S x 1212 a1_z.toNat by omega]), fun j => (by rw [zs_168 j, show ((v_1.toInt + 1)).toNat = (pI S 1238 x).toInt.toNat + 1 by omega, show ((v_35.toInt + v_14.toInt) : Int) = v_35.toInt + zA S x 1237 a1_z.toNat by omega])⟩⟩, fun h h2 => absurd (by omega) h2⟩⟩ dX12_cuts_234
        · have z_b_218 := trivial
          have k_219 : i4_43_z < v_14.toInt := z_nle rfl hz_i4_43 c_60
          refine lv_aload_n X.1 X.2.1 dX12_cuts_70 rfl (lv_at hl 3 rfl) ?_
          obtain ⟨q_220, h_221, h_222, h_223⟩ := gQ_12_1235 hO_T_44.1 ha_x_L_45
          refine r_getR (g := 1235) X hw ha_x_L_45 rfl 35 h_221 (by decide) rfl inn_X12_cuts_12 (by decide) (X.2.2.2.1 (.fieldLink RX12 90 "SilkMillModel" "metreEnds" "[I") (by decide +kernel)) rfl (gv_1235 _ _) dX12_cuts_71 ?_
          refine lv_iload_n X.1 X.2.1 dX12_cuts_74 rfl (lv_at hl 1 rfl) ?_
          refine lv_iload X.1 X.2.1 dX12_cuts_75 (lv_at hl 0 rfl) ?_
          refine lv_iadd X.1 X.2.1 dX12_cuts_77 ?_
          refine lv_topi (fun v_224 ev_224 => ?_)
          have z_225 : v_224.toInt = v_35.toInt + i4_43_z := z_add ev_224 rfl hz_i4_43 (by omega) (by omega)
          refine lv_aload_n X.1 X.2.1 dX12_cuts_78 rfl (lv_at hl 3 rfl) ?_
          refine r_getR (g := 1235) X hw ha_x_L_45 rfl 35 h_221 (by decide) rfl inn_X12_cuts_12 (by decide) (X.2.2.2.1 (.fieldLink RX12 90 "SilkMillModel" "metreEnds" "[I") (by decide +kernel)) rfl (gv_1235 _ _) dX12_cuts_79 ?_
          refine lv_aload_n X.1 X.2.1 dX12_cuts_82 rfl (lv_at hl 3 rfl) ?_
          refine lv_iload_n X.1 X.2.1 dX12_cuts_83 rfl (lv_at hl 4 rfl) ?_
          refine k_i (rm := { frames := 1, cells := 0, slots := 0, locals := 48 }) (av := [.ref x, .int (a1)]) X hw (va_runV (As := [.int (a1)]) (rest := [.ref q_220, .int (v_224), .ref q_220]) (cfix X) (k_X12_growing l G cy κ T_44 _ x (a1) (a1_z) hO_T_44.1 ha_x_L_45 hz_a1 (by first | assumption | omega) (by first | assumption | omega)) (cwV 1 X.2.2.2.1 gX12_cuts_X12_growing rfl rfl rfl (by decide +kernel) ⟨Nat.le_of_ble_eq_true rfl, Nat.le_of_ble_eq_true rfl⟩) (pre_V X hw _ ha_x_L_45 rfl (by decide) rfl) rfl rfl hl.1 rfl (lv_room (Nat.le_of_ble_eq_true rfl)) dX12_cuts_84 ⟨Nat.le_of_ble_eq_true rfl, Nat.le_of_ble_eq_true rfl⟩) 0 0 (Nat.le_of_ble_eq_true rfl) (Nat.le_of_ble_eq_true rfl) (fun rr_226 S_227 H locs hp hw hfr hnw => ?_)
          obtain ⟨e2, hp⟩ := hp
          subst e2
          have f_228 := hp
          refine lv_iload X.1 X.2.1 dX12_cuts_87 (lv_at hl 0 rfl) ?_
          refine lv_iadd X.1 X.2.1 dX12_cuts_89 ?_
          refine lv_topi (fun v_229 ev_229 => ?_)
          have z_230 : v_229.toInt = rr_226.toInt + i4_43_z := z_add ev_229 rfl hz_i4_43 (by omega) (by omega)
          refine r_iald X hw h_222 rfl (by rw [h_223]; exact z_ix z_230 (by omega) (by omega)) dX12_cuts_90 ?_
          refine lv_topi (fun v_231 ev_231 => ?_)
          have z_232 := gE_914 hO_T_44.1 h_222 (Int32.toNatClampNeg (v_229)); rw [← ev_231] at z_232
          have ev_231 := ev_231.symm
          have zf_233 : zA T_44 x 1235 ((rr_226.toInt + i4_43_z)).toNat = v_231.toInt := (zA_of h_221 z_230 (by omega) ev_231)
          refine r_iast X hw h_222 rfl (by rw [h_223]; exact z_ix z_225 (by omega) (by omega)) dX12_cuts_91 (fun H locs hw => ?_)
          obtain ⟨S_234, eS_234⟩ : ∃ T, T = sA T_44 q_220 (upd (pA T_44 q_220) (Int32.toNatClampNeg (v_224)) (v_231)) := ⟨_, rfl⟩
          rw [← eS_234] at hw
          have hO_235 : Ok MCU S S_234 := hO_T_44.sA eS_234 h_222 (by decide +kernel) (uA_914 hO_T_44.1 h_222 (by omega) (by omega))
          have h_236 : pA S_234 q_220 (Int32.toNatClampNeg (v_224)) = v_231 := tA_sAs eS_234
          have t_237 : pR S_234 1235 x = some q_220 := tR_sA eS_234 h_221
          have t_239 : pR T_44 1235 x = some q_220 := by have h := t_237; rw [eS_234, pR_sA] at h; exact h
          have zs_238 : ∀ j, zA S_234 x 1235 j = if j = ((v_35.toInt + i4_43_z)).toNat then v_231.toInt else zA T_44 x 1235 j := by have h := zA_sAs eS_234 t_239 rfl; rw [z_nc z_225 (by omega)] at h; exact h
          have cp_240 : CuP S S_234 x (v_35.toInt) (12000 + 300 * a1_z) (i4_43_z + 1) (12 * i4_43_z) := CuP_e (i := (v_35.toInt + i4_43_z)) iv_55 (by omega) (by omega) (by omega) (by omega) (by rw [show ((12000 + 300 * a1_z) + i4_43_z).toNat = ((rr_226.toInt + i4_43_z)).toNat by omega]; exact zf_233) zs_238 (zA_sAn eS_234 (ex3 (gQ_12_1236 hO_T_44.1 ha_x_L_45)) h_222 rfl)
          refine lv_iconst (v := 0) X.1 X.2.1 dX12_cuts_92 (by decide) ?_
          refine lv_istore (lv' := [(5, .int 0), (4, .int (i4_43)), (3, .int (v_35)), (2, .int (v_14)), (0, .ref x), (1, .int (a1))]) X.1 X.2.1 dX12_cuts_93 hl (by decide) rfl (fun ls hl => ?_)
          have zc_245 : zA S_234 x 1237 = zA S_20 x 1237 := (zA_sAn eS_234 (ex3 (gQ_12_1237 hO_T_44.1 ha_x_L_45)) h_222 rfl).trans zk_46
          have zc_247 : zA S_234 x 1239 = zA S x 1239 := (zA_sAn eS_234 (ex3 (gQ_12_1239 hO_T_44.1 ha_x_L_45)) h_222 rfl).trans zk_47
          have zc_249 : zA S_234 x 1240 = zA S x 1240 := (zA_sAn eS_234 (ex3 (gQ_12_1240 hO_T_44.1 ha_x_L_45)) h_222 rfl).trans zk_49
          have zc_251 : zA S_234 x 1241 = zA S x 1241 := (zA_sAn eS_234 (ex3 (gQ_12_1241 hO_T_44.1 ha_x_L_45)) h_222 rfl).trans zk_51
          have zc_253 : zA S_234 x 1242 = zA S x 1242 := (zA_sAn eS_234 (ex3 (gQ_12_1242 hO_T_44.1 ha_x_L_45)) h_222 rfl).trans zk_53
          have t_257 : pI S_234 1238 x = v_1 := tI_sA eS_234 ik_57
          have L_241 : ∀ (n : Nat) (T_243 : PS) (H : Heap) (locs : List Loc) (ls : Array Slot) (i5_242 : Int32) (i5_242_z : Int), ((12 - i5_242_z).toNat = n) → (Wd G cy (AS S s.heap.size) s.heap T_243 H locs) → (i5_242.toInt = i5_242_z) → (0 ≤ i5_242_z ∧ i5_242_z ≤ 12) → (At T_243 x 12) → (Ok MCU S T_243) → (zA T_243 x 1237 = zA S_20 x 1237) → (zA T_243 x 1239 = zA S x 1239) → (zA T_243 x 1240 = zA S x 1240) → (zA T_243 x 1241 = zA S x 1241) → (zA T_243 x 1242 = zA S x 1242) → (MIe T_243 x (-1)) → (CuP S T_243 x (v_35.toInt) (12000 + 300 * a1_z) (i4_43_z + 1) (12 * i4_43_z + i5_242_z)) → (pI T_243 1238 x = v_1) → (lv_has ls 6 [(5, .int (i5_242)), (4, .int (i4_43)), (3, .int (v_35)), (2, .int (v_14)), (0, .ref x), (1, .int (a1))]) → W p l e ({ frames := 6, cells := 0, slots := 0, locals := 288 }) s m [.ref x, .int (a1)].toArray below meth c H locs 0 0 QQ (F0 m 95 ls []) := by
            intro n
            induction n using Nat.strongRecOn with
            | ind n ih_L_241 =>
            intro T_243 H locs ls i5_242 i5_242_z hn hw hz_i5_242 hr_i5_242 ha_x_L_244 hO_T_243 zk_246 zk_248 zk_250 zk_252 zk_254 mk_255 iv_256 ik_258 hl
            have rg_259 : (-2147483648) ≤ i5_242_z ∧ i5_242_z ≤ 2147483647 := by rw [← hz_i5_242]; exact ⟨z_lo _, z_hi _⟩
            have pz_260 : (pI T_243 1238 x).toInt = v_1.toInt := (congrArg Int32.toInt ik_258).trans rfl
            refine lv_iload X.1 X.2.1 dX12_cuts_95 (lv_at hl 0 rfl) ?_
            refine lv_bipush (v := 12) X.1 X.2.1 dX12_cuts_97 (by decide) ?_
            refine lv_icmp_ge (tgt := 142) X.1 X.2.1 dX12_cuts_99 (by decide) (fun c_261 => ?_) (fun c_261 => ?_)
            · have z_b_262 := trivial
              have k_263 : i5_242_z ≥ 12 := z_le ti_12 hz_i5_242 c_261
              obtain ⟨x_264, ex_264⟩ : ∃ y : Int32, y = i4_43 + 1 := ⟨_, rfl⟩
              have z_265 : x_264.toInt = i4_43_z + 1 := z_add ex_264 hz_i4_43 ti_1 (by omega) (by omega)
              refine lv_iinc (v := x_264) (lv' := [(4, .int (x_264)), (5, .int (i5_242)), (3, .int (v_35)), (2, .int (v_14)), (0, .ref x), (1, .int (a1))]) X.1 X.2.1 dX12_cuts_142 hl (k := 1) rfl (by rw [ex_264]; rfl) (by decide) rfl (fun ls hl => ?_)
              refine lv_goto (tgt := 64) X.1 X.2.1 dX12_cuts_145 (by decide) ?_
              exact ih_L_42 _ (by omega) _ _ _ _ (x_264) (x_264.toInt) rfl hw rfl (by omega) ha_x_L_244 hO_T_243 zk_246 zk_248 zk_250 zk_252 zk_254 mk_255 (CuP_c iv_256 (by omega) (by omega)) (by omega) ik_258 (lv_sub hl [0, 2, 3, 4, 5] rfl)
            · have z_b_266 := trivial
              have k_267 : i5_242_z < 12 := z_nle ti_12 hz_i5_242 c_261
              refine lv_aload_n X.1 X.2.1 dX12_cuts_102 rfl (lv_at hl 4 rfl) ?_
              obtain ⟨q_268, h_269, h_270, h_271⟩ := gQ_12_1236 hO_T_243.1 ha_x_L_244
              refine r_getR (g := 1236) X hw ha_x_L_244 rfl 36 h_269 (by decide) rfl inn_X12_cuts_12 (by decide) (X.2.2.2.1 (.fieldLink RX12 94 "SilkMillModel" "drawn" "[I") (by decide +kernel)) rfl (gv_1236 _ _) dX12_cuts_103 ?_
              refine lv_bipush (v := 12) X.1 X.2.1 dX12_cuts_106 (by decide) ?_
              refine lv_iload_n X.1 X.2.1 dX12_cuts_108 rfl (lv_at hl 2 rfl) ?_
              refine lv_iload X.1 X.2.1 dX12_cuts_109 (lv_at hl 1 rfl) ?_
              refine lv_iadd X.1 X.2.1 dX12_cuts_111 ?_
              refine lv_topi (fun v_272 ev_272 => ?_)
              have z_273 : v_272.toInt = v_35.toInt + i4_43_z := z_add ev_272 rfl hz_i4_43 (by omega) (by omega)
              refine lv_imul X.1 X.2.1 dX12_cuts_112 ?_
              refine lv_topi (fun v_274 ev_274 => ?_)
              have z_275 : v_274.toInt = 12 * (v_35.toInt + i4_43_z) := z_mul ev_274 ti_12 z_273 (by omega) (by omega)
              refine lv_iload X.1 X.2.1 dX12_cuts_113 (lv_at hl 0 rfl) ?_
              refine lv_iadd X.1 X.2.1 dX12_cuts_115 ?_
              refine lv_topi (fun v_276 ev_276 => ?_)
              have z_277 : v_276.toInt = (12 * (v_35.toInt + i4_43_z)) + i5_242_z := z_add ev_276 z_275 hz_i5_242 (by omega) (by omega)
              refine lv_aload_n X.1 X.2.1 dX12_cuts_116 rfl (lv_at hl 4 rfl) ?_
              refine r_getR (g := 1236) X hw ha_x_L_244 rfl 36 h_269 (by decide) rfl inn_X12_cuts_12 (by decide) (X.2.2.2.1 (.fieldLink RX12 94 "SilkMillModel" "drawn" "[I") (by decide +kernel)) rfl (gv_1236 _ _) dX12_cuts_117 ?_
              refine lv_bipush (v := 12) X.1 X.2.1 dX12_cuts_120 (by decide) ?_
              refine lv_aload_n X.1 X.2.1 dX12_cuts_122 rfl (lv_at hl 4 rfl) ?_
              refine lv_iload_n X.1 X.2.1 dX12_cuts_123 rfl (lv_at hl 5 rfl) ?_
              refine k_i (rm := { frames := 1, cells := 0, slots := 0, locals := 48 }) (av := [.ref x, .int (a1)]) X hw (va_runV (As := [.int (a1)]) (rest := [.int 12, .ref q_268, .int (v_276), .ref q_268]) (cfix X) (k_X12_growing l G cy κ T_243 _ x (a1) (a1_z) hO_T_243.1 ha_x_L_244 hz_a1 (by first | assumption | omega) (by first | assumption | omega)) (cwV 1 X.2.2.2.1 gX12_cuts_X12_growing rfl rfl rfl (by decide +kernel) ⟨Nat.le_of_ble_eq_true rfl, Nat.le_of_ble_eq_true rfl⟩) (pre_V X hw _ ha_x_L_244 rfl (by decide) rfl) rfl rfl hl.1 rfl (lv_room (Nat.le_of_ble_eq_true rfl)) dX12_cuts_124 ⟨Nat.le_of_ble_eq_true rfl, Nat.le_of_ble_eq_true rfl⟩) 0 0 (Nat.le_of_ble_eq_true rfl) (Nat.le_of_ble_eq_true rfl) (fun rr_278 S_279 H locs hp hw hfr hnw => ?_)
              obtain ⟨e2, hp⟩ := hp
              subst e2
              have f_280 := hp
              refine lv_iload X.1 X.2.1 dX12_cuts_127 (lv_at hl 1 rfl) ?_
              refine lv_iadd X.1 X.2.1 dX12_cuts_129 ?_
              refine lv_topi (fun v_281 ev_281 => ?_)
              have z_282 : v_281.toInt = rr_278.toInt + i4_43_z := z_add ev_281 rfl hz_i4_43 (by omega) (by omega)
              refine lv_imul X.1 X.2.1 dX12_cuts_130 ?_
              refine lv_topi (fun v_283 ev_283 => ?_)
              have z_284 : v_283.toInt = 12 * (rr_278.toInt + i4_43_z) := z_mul ev_283 ti_12 z_282 (by omega) (by omega)
              refine lv_iload X.1 X.2.1 dX12_cuts_131 (lv_at hl 0 rfl) ?_
              refine lv_iadd X.1 X.2.1 dX12_cuts_133 ?_
              refine lv_topi (fun v_285 ev_285 => ?_)
              have z_286 : v_285.toInt = (12 * (rr_278.toInt + i4_43_z)) + i5_242_z := z_add ev_285 z_284 hz_i5_242 (by omega) (by omega)
              refine r_iald X hw h_270 rfl (by rw [h_271]; exact z_ix z_286 (by omega) (by omega)) dX12_cuts_134 ?_
              refine lv_topi (fun v_287 ev_287 => ?_)
              have z_288 := gE_934 hO_T_243.1 h_270 (Int32.toNatClampNeg (v_285)); rw [← ev_287] at z_288
              have ev_287 := ev_287.symm
              have zf_289 : zA T_243 x 1236 (((12 * (rr_278.toInt + i4_43_z)) + i5_242_z)).toNat = v_287.toInt := (zA_of h_269 z_286 (by omega) ev_287)
              have dk_290 : dOK T_243 x v_287.toInt := dOK_6 mk_255 (j := ((12 * (rr_278.toInt + i4_43_z)) + i5_242_z)) (by omega) (by omega) zf_289
              have zf_291 : zA T_243 x 1236 (((12 * (rr_278.toInt + i4_43_z)) + i5_242_z)).toNat = v_287.toInt := (zA_of h_269 z_286 (by omega) ev_287)
              refine r_iast X hw h_270 rfl (by rw [h_271]; exact z_ix z_277 (by omega) (by omega)) dX12_cuts_135 (fun H locs hw => ?_)
              obtain ⟨S_292, eS_292⟩ : ∃ T, T = sA T_243 q_268 (upd (pA T_243 q_268) (Int32.toNatClampNeg (v_276)) (v_287)) := ⟨_, rfl⟩
              rw [← eS_292] at hw
              have hO_293 : Ok MCU S S_292 := hO_T_243.sA eS_292 h_270 (by decide +kernel) (uA_934 hO_T_243.1 h_270 (by omega) (by omega))
              have h_294 : pA S_292 q_268 (Int32.toNatClampNeg (v_276)) = v_287 := tA_sAs eS_292
              have t_295 : pR S_292 1236 x = some q_268 := tR_sA eS_292 h_269
              have t_297 : pR T_243 1236 x = some q_268 := by have h := t_295; rw [eS_292, pR_sA] at h; exact h
              have zs_296 : ∀ j, zA S_292 x 1236 j = if j = (((12 * (v_35.toInt + i4_43_z)) + i5_242_z)).toNat then v_287.toInt else zA T_243 x 1236 j := by have h := zA_sAs eS_292 t_297 rfl; rw [z_nc z_277 (by omega)] at h; exact h
              have mi_298 : MIe S_292 x (-1) := drawn_MI hO_T_243.1 ha_x_L_244 (show Fr [10934] T_243 S_292 by rw [eS_292]; exact Fr_sA h_270 List.mem_cons_self) mk_255 zs_296 dk_290
              have cp_299 : CuP S S_292 x (v_35.toInt) (12000 + 300 * a1_z) (i4_43_z + 1) (12 * i4_43_z + i5_242_z + 1) := CuP_d (i := ((12 * (v_35.toInt + i4_43_z)) + i5_242_z)) (s := ((12 * (rr_278.toInt + i4_43_z)) + i5_242_z)) iv_256 (by omega) (by omega) (by omega) (by omega) (by omega) zf_291 zs_296 (zA_sAn eS_292 (ex3 (gQ_12_1235 hO_T_243.1 ha_x_L_244)) h_270 rfl)
              clear zs_296
              obtain ⟨x_300, ex_300⟩ : ∃ y : Int32, y = i5_242 + 1 := ⟨_, rfl⟩
              have z_301 : x_300.toInt = i5_242_z + 1 := z_add ex_300 hz_i5_242 ti_1 (by omega) (by omega)
              refine lv_iinc (v := x_300) (lv' := [(5, .int (x_300)), (4, .int (i4_43)), (3, .int (v_35)), (2, .int (v_14)), (0, .ref x), (1, .int (a1))]) X.1 X.2.1 dX12_cuts_136 hl (k := 0) rfl (by rw [ex_300]; rfl) (by decide) rfl (fun ls hl => ?_)
              refine lv_goto (tgt := 95) X.1 X.2.1 dX12_cuts_139 (by decide) ?_
              have t_302 : At S_292 x 12 := tAt_sA eS_292 ha_x_L_244
              have zc_303 : zA S_292 x 1237 = zA S_20 x 1237 := (zA_sAn eS_292 (ex3 (gQ_12_1237 hO_T_243.1 ha_x_L_244)) h_270 rfl).trans zk_246
              have zc_304 : zA S_292 x 1239 = zA S x 1239 := (zA_sAn eS_292 (ex3 (gQ_12_1239 hO_T_243.1 ha_x_L_244)) h_270 rfl).trans zk_248
              have zc_305 : zA S_292 x 1240 = zA S x 1240 := (zA_sAn eS_292 (ex3 (gQ_12_1240 hO_T_243.1 ha_x_L_244)) h_270 rfl).trans zk_250
              have zc_306 : zA S_292 x 1241 = zA S x 1241 := (zA_sAn eS_292 (ex3 (gQ_12_1241 hO_T_243.1 ha_x_L_244)) h_270 rfl).trans zk_252
              have zc_307 : zA S_292 x 1242 = zA S x 1242 := (zA_sAn eS_292 (ex3 (gQ_12_1242 hO_T_243.1 ha_x_L_244)) h_270 rfl).trans zk_254
              have t_308 : pI S_292 1238 x = v_1 := tI_sA eS_292 ik_258
              exact ih_L_241 _ (by omega) _ _ _ _ (x_300) (x_300.toInt) rfl hw rfl (by omega) t_302 hO_293 zc_303 zc_304 zc_305 zc_306 zc_307 mi_298 (CuP_c cp_299 (by omega) (by omega)) t_308 (lv_sub hl [0, 1, 2, 3, 4, 5] rfl)
          have t_309 : At S_234 x 12 := tAt_sA eS_234 ha_x_L_45
          have mi_310 : MIe S_234 x (-1) := MIe_sA mk_54 hO_T_44.1 ha_x_L_45 h_222 eS_234 (by decide +kernel)
          exact L_241 _ _ _ _ _ (0) (0) rfl hw ti_0 (by omega) t_309 hO_235 zc_245 zc_247 zc_249 zc_251 zc_253 mi_310 (CuP_c cp_240 (by omega) (by omega)) t_257 (lv_sub hl [0, 1, 2, 3, 4, 5] rfl)
      have zc_311 : zA S_20 x 1235 = zA S x 1235 := zA_sAn eS_20 (ex3 (gQ_12_1235 hO.1 ha_x)) h_12 rfl
      have zc_312 : zA S_20 x 1236 = zA S x 1236 := zA_sAn eS_20 (ex3 (gQ_12_1236 hO.1 ha_x)) h_12 rfl
      exact L_42 _ _ _ _ _ (0) (0) rfl hw ti_0 (by omega) t_26 hO_21 (Eq.refl _) zc_41 zc_48 zc_50 zc_52 mi_40 (CuP_0 zc_311 zc_312) (by omega) t_27 (lv_sub hl [0, 1, 2, 3, 4] rfl)
    · have z_b_313 := trivial
      have k_314 : v_1.toInt = 40 := z_eq rfl ti_40 c_28
      refine lv_aload_n X.1 X.2.1 dX12_cuts_29 rfl (lv_at hl 1 rfl) ?_
      refine lv_dup X.1 X.2.1 dX12_cuts_30 rfl ?_
      obtain ⟨v_315, ev_315⟩ : ∃ v, pI S_20 1246 x = v := ⟨_, rfl⟩
      have rg_317 := And.intro (z_lo v_315) (z_hi v_315)
      have pz_318 : (pI S_20 1246 x).toInt = v_315.toInt := by rw [ev_315]
      refine r_getI (g := 1246) (x := v_315) X hw t_26 rfl 46 ev_315 (by decide) rfl inn_X12_cuts_12 (by decide) (X.2.2.2.1 (.fieldLink RX12 293 "SilkMillModel" "waste" "I") (by decide +kernel)) rfl (gv_1246 _ _) dX12_cuts_31 ?_
      refine lv_aload_n X.1 X.2.1 dX12_cuts_34 rfl (lv_at hl 1 rfl) ?_
      refine lv_aload_n X.1 X.2.1 dX12_cuts_35 rfl (lv_at hl 1 rfl) ?_
      refine lv_iload_n X.1 X.2.1 dX12_cuts_36 rfl (lv_at hl 2 rfl) ?_
      refine k_i (rm := { frames := 1, cells := 0, slots := 0, locals := 48 }) (av := [.ref x, .int (a1)]) X hw (va_runV (As := [.int (a1)]) (rest := [.ref x, .int (v_315), .ref x]) (cfix X) (k_X12_growing l G cy κ S_20 _ x (a1) (a1_z) hO_21.1 t_26 hz_a1 (by first | assumption | omega) (by first | assumption | omega)) (cwV 1 X.2.2.2.1 gX12_cuts_X12_growing rfl rfl rfl (by decide +kernel) ⟨Nat.le_of_ble_eq_true rfl, Nat.le_of_ble_eq_true rfl⟩) (pre_V X hw _ t_26 rfl (by decide) rfl) rfl rfl hl.1 rfl (lv_room (Nat.le_of_ble_eq_true rfl)) dX12_cuts_37 ⟨Nat.le_of_ble_eq_true rfl, Nat.le_of_ble_eq_true rfl⟩) 0 0 (Nat.le_of_ble_eq_true rfl) (Nat.le_of_ble_eq_true rfl) (fun rr_319 S_320 H locs hp hw hfr hnw => ?_)
      obtain ⟨e2, hp⟩ := hp
      subst e2
      have f_321 := hp
      refine lv_iload_n X.1 X.2.1 dX12_cuts_40 rfl (lv_at hl 0 rfl) ?_
      have mi_322 : MIe S_20 x (-1) := MIe_37 hp_2 hO.1 ha_x h_12 eS_20
      refine k_i (rm := { frames := 5, cells := 0, slots := 0, locals := 240 }) (av := [.ref x, .int (rr_319), .int (v_14)]) X hw (va_runV (As := [.int (rr_319), .int (v_14)]) (rest := [.int (v_315), .ref x]) (cfix X) (k_X12_weight l G cy κ S_20 _ x (rr_319) (rr_319.toInt) (v_14) (v_14.toInt) hO_21.1 t_26 rfl rfl (by first | assumption | omega) (by first | assumption | omega) (by first | assumption | omega) mi_322) (cwV 2 X.2.2.2.1 gX12_cuts_X12_weight rfl rfl rfl (by decide +kernel) ⟨Nat.le_of_ble_eq_true rfl, Nat.le_of_ble_eq_true rfl⟩) (pre_V X hw _ t_26 rfl (by decide) rfl) rfl rfl hl.1 rfl (lv_room (Nat.le_of_ble_eq_true rfl)) dX12_cuts_41 ⟨Nat.le_of_ble_eq_true rfl, Nat.le_of_ble_eq_true rfl⟩) 0 0 (Nat.le_of_ble_eq_true rfl) (Nat.le_of_ble_eq_true rfl) (fun rr_323 S_324 H locs hp hw hfr hnw => ?_)
      obtain ⟨e2, hp⟩ := hp
      subst e2
      have rg_325 := And.intro (z_lo rr_323) (z_hi rr_323)
      refine lv_iadd X.1 X.2.1 dX12_cuts_44 ?_
      refine lv_topi (fun v_326 ev_326 => ?_)
      have rg_327 := And.intro (z_lo v_326) (z_hi v_326)
      refine r_putI (v := v_326) X hw t_26 rfl 46 1246 tyX12 (by decide) rfl inn_X12_cuts_12 tyX12_ok nmX12 (by decide) (X.2.2.2.1 (.fieldLink RX12 293 "SilkMillModel" "waste" "I") (by decide +kernel)) rfl (Or.inl rfl) rfl rfl (Nat.le_of_ble_eq_true rfl) (st_1246 _ _) dX12_cuts_45 (fun H locs hw => ?_)
      obtain ⟨S_328, eS_328⟩ : ∃ T, T = sI S_20 1246 x (v_326) := ⟨_, rfl⟩
      rw [← eS_328] at hw
      have hO_329 : Ok MCU S S_328 := hO_21.sI eS_328 (by decide +kernel) (uI_12_1246 hO_21.1 t_26)
      have h_330 : pI S_328 1246 x = v_326 := tI_sIs eS_328
      refine lv_bipush (v := (-2)) X.1 X.2.1 dX12_cuts_48 (by decide) ?_
      have mi_331 : MIe S_328 x (-1) := MIe_sI mi_322 hO_21.1 t_26 eS_328 (by decide +kernel)
      have zc_332 : zA S_328 x 1237 = zA S_20 x 1237 := zA_sI eS_328
      have zs_333 : ∀ j, zA S_328 x 1237 j = if j = (a1_z).toNat then 0 else zA S x 1237 j := fun j => by rw [zc_332]; exact zs_24 j
      have t_334 : pI S_328 1238 x = v_1 := tI_sI eS_328 rfl t_27
      have pz_335 : (pI S_328 1238 x).toInt = v_1.toInt := (congrArg Int32.toInt t_334).trans rfl
      have zc_336 : zA S_20 x 1235 = zA S x 1235 := zA_sAn eS_20 (ex3 (gQ_12_1235 hO.1 ha_x)) h_12 rfl
      have zc_337 : zA S_328 x 1235 = zA S x 1235 := (zA_sI eS_328).trans zc_336
      have zc_338 : zA S_20 x 1236 = zA S x 1236 := zA_sAn eS_20 (ex3 (gQ_12_1236 hO.1 ha_x)) h_12 rfl
      have zc_339 : zA S_328 x 1236 = zA S x 1236 := (zA_sI eS_328).trans zc_338
      have zc_340 : zA S_20 x 1239 = zA S x 1239 := zA_sAn eS_20 (ex3 (gQ_12_1239 hO.1 ha_x)) h_12 rfl
      have zc_341 : zA S_328 x 1239 = zA S x 1239 := (zA_sI eS_328).trans zc_340
      have zc_342 : zA S_20 x 1240 = zA S x 1240 := zA_sAn eS_20 (ex3 (gQ_12_1240 hO.1 ha_x)) h_12 rfl
      have zc_343 : zA S_328 x 1240 = zA S x 1240 := (zA_sI eS_328).trans zc_342
      have zc_344 : zA S_20 x 1241 = zA S x 1241 := zA_sAn eS_20 (ex3 (gQ_12_1241 hO.1 ha_x)) h_12 rfl
      have zc_345 : zA S_328 x 1241 = zA S x 1241 := (zA_sI eS_328).trans zc_344
      have zc_346 : zA S_20 x 1242 = zA S x 1242 := zA_sAn eS_20 (ex3 (gQ_12_1242 hO.1 ha_x)) h_12 rfl
      have zc_347 : zA S_328 x 1242 = zA S x 1242 := (zA_sI eS_328).trans zc_346
      rw [hQQ]
      exact ret_i X hw hr hlocks (Nat.le_of_ble_eq_true rfl) (Nat.le_of_ble_eq_true rfl) ⟨hO_329, ⟨mi_331, zs_333, fun h => absurd h (by omega), fun h h2 => absurd h2 (by omega), fun h h2 => ⟨by have e1 : ((-2) : Int32).toInt = (-2) := ti_m2; omega, by omega, ⟨zc_337, zc_339, zc_341, zc_343, zc_345, zc_347⟩⟩⟩⟩ dX12_cuts_50
  · have z_b_348 := trivial
    have k_349 : v_14.toInt = 0 := z_eq rfl ti_0 c_17
    refine lv_iconst (v := (-1)) X.1 X.2.1 dX12_cuts_11 (by decide) ?_
    have pz_350 : (pI S 1238 x).toInt = v_1.toInt := (congrArg Int32.toInt ev_1).trans rfl
    rw [hQQ]
    exact ret_i X hw hr hlocks (Nat.le_of_ble_eq_true rfl) (Nat.le_of_ble_eq_true rfl) ⟨hO, ⟨hp_2, cut0 (by omega), fun h => ⟨by have e1 : ((-1) : Int32).toInt = (-1) := ti_m1; omega, by omega, ⟨rfl, rfl, rfl, rfl, rfl, rfl⟩⟩, fun h => absurd h (by omega), fun h => absurd h (by omega)⟩⟩ dX12_cuts_12
set_option maxHeartbeats 4000000 in
set_option maxRecDepth 100000 in
theorem k_X12_acts5 (l : Launch) (G : va_G) (cy : Nat → ClassId) (κ : Nat → Nat) (S : PS) (sz : Nat) (x : Nat) (a1 : Int32) (a1_z : Int) (a2 : Int32) (a2_z : Int) (A : Pt) (Ev : En) (ru : Ru) (hG : GX S) (ha_x : At S x 12) (hz_a1 : a1.toInt = a1_z) (hz_a2 : a2.toInt = a2_z) (hp_0 : 0 ≤ a1_z) (hp_1 : a1_z ≤ 3) (hp_2 : 0 ≤ a2_z) (hp_3 : a2_z ≤ 59) (hp_4 : MI S x) (hp_5 : PotW S x a1_z A) (hp_6 : EnR S x a1_z Ev) (hp_7 : RuX S x a2_z ru) : Cv l yX12_acts wsX12_acts ({ frames := 7, cells := 0, slots := 0, locals := 336 }) G cy κ S sz [.ref x, .int (a1), .int (a2)] (fun (S9 : PS) => Ok MAC S S9 ∧ (MI S9 x ∧ (GR S x → GR S9 x) ∧ ZM S S9 x ∧ PotW S9 x a1_z (actF Ev ru.1 ru.2.1 A) ∧ PwX S S9 x a1_z)) := by
  refine ent_m (cc := cX12_acts) (maxL := 4) (ret := none) (by decide) rfl (Nat.le_of_ble_eq_true rfl) ?_
  intro p e s m below meth c ls X hr hlocks hin hw hl hsz
  subst hsz
  have X : Cx p c cX12_acts 4 s [.ref x, .int (a1), .int (a2)].toArray wsX12_acts RX12 m G cy κ (AS S s.heap.size) := X
  have hl : lv_has ls 4 [(0, .ref x), (1, .int (a1)), (2, .int (a2))] := hl
  have rg_a1 : (-2147483648) ≤ a1_z ∧ a1_z ≤ 2147483647 := by rw [← hz_a1]; exact ⟨z_lo _, z_hi _⟩
  have rg_a2 : (-2147483648) ≤ a2_z ∧ a2_z ≤ 2147483647 := by rw [← hz_a2]; exact ⟨z_lo _, z_hi _⟩
  have hO : Ok MAC S S := Ok.rf hG
  obtain ⟨v_1, ev_1⟩ : ∃ v, pI S 1201 x = v := ⟨_, rfl⟩
  have rg_2 := gI_12_1201 hO.1 ha_x; rw [ev_1] at rg_2
  have pz_3 : (pI S 1201 x).toInt = v_1.toInt := by rw [ev_1]
  have pz_4 : (pI S 1201 x).toInt = v_1.toInt := (congrArg Int32.toInt ev_1).trans rfl
  have hzm0 : ZM S S x := ZM_rf S x
  have hpw := hp_5
  obtain ⟨pw_5, pw_6, pw_7, pw_8, pw_9, pw_10, pw_11, pw_12, pw_13, pw_14⟩ := hpw
  obtain ⟨v_15, ev_15⟩ : ∃ v, pI S 1238 x = v := ⟨_, rfl⟩
  have rg_16 := gI_12_1238 hO.1 ha_x; rw [ev_15] at rg_16
  have pz_17 : (pI S 1238 x).toInt = v_15.toInt := by rw [ev_15]
  have pz_18 : (pI S 1238 x).toInt = v_15.toInt := (congrArg Int32.toInt ev_15).trans rfl
  have sl_19 := pw_10.1
  have sl_20 := pw_13.1
  have hrx := hp_7
  obtain ⟨hA1, hA2, hA3, hA4⟩ := hrx
  refine lv_aload_n X.1 X.2.1 dX12_acts_0 rfl (lv_at hl 0 rfl) ?_
  obtain ⟨q_21, h_22, h_23, h_24⟩ := gQ_12_1221 hO.1 ha_x
  refine r_getR (g := 1221) X hw ha_x rfl 21 h_22 (by decide) rfl inn_X12_acts_12 (by decide) (X.2.2.2.1 (.fieldLink RX12 64 "SilkMillModel" "act" "[I") (by decide +kernel)) rfl (gv_1221 _ _) dX12_acts_1 ?_
  refine lv_iload_n X.1 X.2.1 dX12_acts_4 rfl (lv_at hl 2 rfl) ?_
  refine r_iald X hw h_23 rfl (by rw [h_24]; exact z_ix hz_a2 (by omega) (by omega)) dX12_acts_5 ?_
  refine lv_topi (fun v_25 ev_25 => ?_)
  have rg_26 := And.intro (z_lo v_25) (z_hi v_25)
  have ev_25 := ev_25.symm
  have fa_27 : ru.1 = v_25 := by rw [← hA1, mA_eq h_22, ← z_nc hz_a2 (by omega), ev_25]
  by_cases w_28 : (v_25).toInt < 0 ∨ 4 < (v_25).toInt
  · refine lv_tableOut (tgt := 202) X.1 X.2.1 dX12_acts_6 w_28 (by decide) ?_
    refine lv_aload_n X.1 X.2.1 dX12_acts_202 rfl (lv_at hl 0 rfl) ?_
    obtain ⟨q_29, h_30, h_31, h_32⟩ := gQ_12_1215 hO.1 ha_x
    refine r_getR (g := 1215) X hw ha_x rfl 15 h_30 (by decide) rfl inn_X12_acts_12 (by decide) (X.2.2.2.1 (.fieldLink RX12 46 "SilkMillModel" "stop" "[I") (by decide +kernel)) rfl (gv_1215 _ _) dX12_acts_203 ?_
    refine lv_iload_n X.1 X.2.1 dX12_acts_206 rfl (lv_at hl 1 rfl) ?_
    refine lv_dup2_11 X.1 X.2.1 dX12_acts_207 rfl rfl ?_
    refine r_iald X hw h_31 rfl (by rw [h_32]; exact z_ix hz_a1 (by omega) (by omega)) dX12_acts_208 ?_
    refine lv_topi (fun v_33 ev_33 => ?_)
    have rg_34 := And.intro (z_lo v_33) (z_hi v_33)
    have ev_33 := ev_33.symm
    have zf_35 : zA S x 1215 (a1_z).toNat = v_33.toInt := (zA_of h_30 hz_a1 (by omega) ev_33)
    have us_36 : v_33 = (qst A) := Int32.toInt_inj.mp (rfl.trans (zf_35.symm.trans pw_8))
    refine lv_aload_n X.1 X.2.1 dX12_acts_209 rfl (lv_at hl 0 rfl) ?_
    obtain ⟨q_37, h_38, h_39, h_40⟩ := gQ_12_1222 hO.1 ha_x
    refine r_getR (g := 1222) X hw ha_x rfl 22 h_38 (by decide) rfl inn_X12_acts_12 (by decide) (X.2.2.2.1 (.fieldLink RX12 67 "SilkMillModel" "actNumber" "[I") (by decide +kernel)) rfl (gv_1222 _ _) dX12_acts_210 ?_
    refine lv_iload_n X.1 X.2.1 dX12_acts_213 rfl (lv_at hl 2 rfl) ?_
    refine r_iald X hw h_39 rfl (by rw [h_40]; exact z_ix hz_a2 (by omega) (by omega)) dX12_acts_214 ?_
    refine lv_topi (fun v_41 ev_41 => ?_)
    have rg_42 := And.intro (z_lo v_41) (z_hi v_41)
    have ev_41 := ev_41.symm
    have zf_43 : zA S x 1222 (a2_z).toNat = v_41.toInt := (zA_of h_38 hz_a2 (by omega) ev_41)
    have fa_44 : ru.2.1 = v_41 := Int32.toInt_inj.mp (by rw [← hA2, ← zA_eq, show a2_z.toNat = (a2_z).toNat by omega, zf_43])
    refine lv_iadd X.1 X.2.1 dX12_acts_215 ?_
    refine lv_topi (fun v_45 ev_45 => ?_)
    have rg_46 := And.intro (z_lo v_45) (z_hi v_45)
    refine r_iast X hw h_31 rfl (by rw [h_32]; exact z_ix hz_a1 (by omega) (by omega)) dX12_acts_216 (fun H locs hw => ?_)
    obtain ⟨S_47, eS_47⟩ : ∃ T, T = sA S q_29 (upd (pA S q_29) (Int32.toNatClampNeg (a1)) (v_45)) := ⟨_, rfl⟩
    rw [← eS_47] at hw
    have hO_48 : Ok MAC S S_47 := hO.sA eS_47 h_31 (by decide +kernel) (uA_514 hO.1 h_31)
    have h_49 : pA S_47 q_29 (Int32.toNatClampNeg (a1)) = v_45 := tA_sAs eS_47
    have t_50 : pR S_47 1215 x = some q_29 := tR_sA eS_47 h_30
    have t_52 : pR S 1215 x = some q_29 := by have h := t_50; rw [eS_47, pR_sA] at h; exact h
    have zs_51 : ∀ j, zA S_47 x 1215 j = if j = (a1_z).toNat then v_45.toInt else zA S x 1215 j := by have h := zA_sAs eS_47 t_52 rfl; rw [z_nc hz_a1 (by omega)] at h; exact h
    have mi_53 : MIe S_47 x (-1) := MIe_sA hp_4 hO.1 ha_x h_31 eS_47 (by decide +kernel)
    have zc_54 : zA S_47 x 1237 = zA S x 1237 := zA_sAn eS_47 (ex3 (gQ_12_1237 hO.1 ha_x)) h_31 rfl
    have zm_55 : ZM S S_47 x := ZM_eq hzm0 (zA_sAn eS_47 (ex3 (gQ_12_1207 hO.1 ha_x)) h_31 rfl)
    have rR_56 : RowR S_47 x (3 * a1_z + 0).toNat (qb A) := RowR_eq pw_5 (zA_sAn eS_47 (ex3 (gQ_12_1218 hO.1 ha_x)) h_31 rfl) (zA_sAn eS_47 (ex3 (gQ_12_1219 hO.1 ha_x)) h_31 rfl)
    have rR_57 : RowR S_47 x (3 * a1_z + 1).toNat (qe A) := RowR_eq pw_6 (zA_sAn eS_47 (ex3 (gQ_12_1218 hO.1 ha_x)) h_31 rfl) (zA_sAn eS_47 (ex3 (gQ_12_1219 hO.1 ha_x)) h_31 rfl)
    have rR_58 : RowR S_47 x (3 * a1_z + 2).toNat (ql A) := RowR_eq pw_7 (zA_sAn eS_47 (ex3 (gQ_12_1218 hO.1 ha_x)) h_31 rfl) (zA_sAn eS_47 (ex3 (gQ_12_1219 hO.1 ha_x)) h_31 rfl)
    have zR_59 : zA S_47 x 1215 a1_z.toNat = (((qst A) + ru.2.1)).toInt := (by rw [zs_51, if_pos (by omega)]; exact (congrArg Int32.toInt (ev_45.trans (by rw [us_36, ← fa_44]))))
    have zR_60 : zA S_47 x 1214 a1_z.toNat = ((qse A)).toInt := (congrFun (zA_sAn eS_47 (ex3 (gQ_12_1214 hO.1 ha_x)) h_31 rfl) _).trans pw_9
    have zR_61 : zA S_47 x 1216 a1_z.toNat = ((qdr A)).toInt := (congrFun (zA_sAn eS_47 (ex3 (gQ_12_1216 hO.1 ha_x)) h_31 rfl) _).trans pw_11
    have zR_62 : zA S_47 x 1217 a1_z.toNat = ((qtk A)).toInt := (congrFun (zA_sAn eS_47 (ex3 (gQ_12_1217 hO.1 ha_x)) h_31 rfl) _).trans pw_12
    have gR_63 : GrW S_47 x a1_z.toNat (qg A) := GrW_eq (zA_sAn eS_47 (ex3 (gQ_12_1235 hO.1 ha_x)) h_31 rfl) (zA_sAn eS_47 (ex3 (gQ_12_1236 hO.1 ha_x)) h_31 rfl) (congrFun (zA_sAn eS_47 (ex3 (gQ_12_1237 hO.1 ha_x)) h_31 rfl) _) pw_10
    have pz_64 : PlZ S_47 x (qpl A) (qsd A) := PlZ_eq pw_14 (zA_sAn eS_47 (ex3 (gQ_12_1208 hO.1 ha_x)) h_31 rfl) (zA_sAn eS_47 (ex3 (gQ_12_1207 hO.1 ha_x)) h_31 rfl)
    have t_65 : pI S_47 1238 x = v_15 := tI_sA eS_47 ev_15
    have pz_66 : (pI S_47 1238 x).toInt = v_15.toInt := (congrArg Int32.toInt t_65).trans rfl
    have kR_67 : SkW S_47 x (qsk A) := SkW_n (by rw [eS_47]; rfl) ⟨zA_sAn eS_47 (ex3 (gQ_12_1235 hO.1 ha_x)) h_31 rfl, zA_sAn eS_47 (ex3 (gQ_12_1236 hO.1 ha_x)) h_31 rfl, zA_sAn eS_47 (ex3 (gQ_12_1239 hO.1 ha_x)) h_31 rfl, zA_sAn eS_47 (ex3 (gQ_12_1240 hO.1 ha_x)) h_31 rfl, zA_sAn eS_47 (ex3 (gQ_12_1241 hO.1 ha_x)) h_31 rfl, zA_sAn eS_47 (ex3 (gQ_12_1242 hO.1 ha_x)) h_31 rfl⟩ pw_13
    have px_68 : PwX S S_47 x a1_z := PwX_z (PwX_rf S x a1_z) (zA_sAn eS_47 (ex3 (gQ_12_1218 hO.1 ha_x)) h_31 rfl) (zA_sAn eS_47 (ex3 (gQ_12_1219 hO.1 ha_x)) h_31 rfl) (zA_sAn eS_47 (ex3 (gQ_12_1235 hO.1 ha_x)) h_31 rfl) (zA_sAn eS_47 (ex3 (gQ_12_1236 hO.1 ha_x)) h_31 rfl) zs_51 (by omega) (pw4 (fun _ => zA_sAn eS_47 (ex3 (gQ_12_1214 hO.1 ha_x)) h_31 rfl) (fun h => absurd rfl h) (fun _ => zA_sAn eS_47 (ex3 (gQ_12_1216 hO.1 ha_x)) h_31 rfl) (fun _ => zA_sAn eS_47 (ex3 (gQ_12_1217 hO.1 ha_x)) h_31 rfl) (fun _ => zA_sAn eS_47 (ex3 (gQ_12_1237 hO.1 ha_x)) h_31 rfl))
    exact ret_v X hw hr hlocks (Nat.le_of_ble_eq_true rfl) (Nat.le_of_ble_eq_true rfl) ⟨hO_48, ⟨mi_53, fun hgr => (GR_eq zc_54 hgr), zm_55, PotW_of (actF_d (show ru.1.toInt = v_25.toInt from (congrArg Int32.toInt fa_27).trans rfl) (by omega)) rR_56 rR_57 rR_58 zR_59 zR_60 gR_63 zR_61 zR_62 kR_67 pz_64, px_68⟩⟩ dX12_acts_217
  have w_28b : (v_25).toInt = 0 ∨ (v_25).toInt = 1 ∨ (v_25).toInt = 2 ∨ (v_25).toInt = 3 ∨ (v_25).toInt = 4 := by omega
  rcases w_28b with w_28c | w_28c | w_28c | w_28c | w_28c
  · refine lv_tableIn (tgt := 40) X.1 X.2.1 dX12_acts_6 (by omega) (by omega) (by rw [w_28c]; rfl) (by decide) ?_
    refine lv_aload_n X.1 X.2.1 dX12_acts_40 rfl (lv_at hl 0 rfl) ?_
    refine lv_iload_n X.1 X.2.1 dX12_acts_41 rfl (lv_at hl 1 rfl) ?_
    refine lv_iconst (v := 0) X.1 X.2.1 dX12_acts_42 (by decide) ?_
    refine k_i (rm := { frames := 1, cells := 0, slots := 0, locals := 48 }) (av := [.ref x, .int (a1), .int 0]) X hw (va_runV (As := [.int (a1), .int 0]) (rest := []) (cfix X) (k_X12_many2 l G cy κ S _ x (a1) (a1_z) (0) (0) hO.1 ha_x hz_a1 ti_0 (by first | assumption | omega) (by first | assumption | omega) (by first | assumption | omega) (by first | assumption | omega)) (cwV 2 X.2.2.2.1 gX12_acts_X12_many rfl rfl rfl (by decide +kernel) ⟨Nat.le_of_ble_eq_true rfl, Nat.le_of_ble_eq_true rfl⟩) (pre_V X hw _ ha_x rfl (by decide) rfl) rfl rfl hl.1 rfl (lv_room (Nat.le_of_ble_eq_true rfl)) dX12_acts_43 ⟨Nat.le_of_ble_eq_true rfl, Nat.le_of_ble_eq_true rfl⟩) 0 0 (Nat.le_of_ble_eq_true rfl) (Nat.le_of_ble_eq_true rfl) (fun rr_69 S_70 H locs hp hw hfr hnw => ?_)
    obtain ⟨e2, hp⟩ := hp
    subst e2
    obtain ⟨f_71, f_72, f_73⟩ := hp
    refine lv_if_le (tgt := 79) X.1 X.2.1 dX12_acts_46 (by decide) (fun c_74 => ?_) (fun c_74 => ?_)
    · have z_b_75 := trivial
      have k_76 : rr_69.toInt ≤ 0 := z_le rfl ti_0 c_74
      have pz_77 : (pI S 1238 x).toInt = v_15.toInt := (congrArg Int32.toInt ev_15).trans rfl
      exact ret_v X hw hr hlocks (Nat.le_of_ble_eq_true rfl) (Nat.le_of_ble_eq_true rfl) ⟨hO, ⟨hp_4, fun hgr => hgr, hzm0, PotW_of ((actF_0 (show ru.1.toInt = 0 by rw [fa_27]; have e1 : (v_25 : Int32).toInt = v_25.toInt := rfl; omega)).trans (casF_n (by first | exact Or.inl (List.eq_nil_of_length_eq_zero (by have := pw_5.1; omega)) | exact Or.inr (by have := pw_6.1; omega)))) pw_5 pw_6 pw_7 pw_8 pw_9 pw_10 pw_11 pw_12 pw_13 pw_14, (PwX_rf S x a1_z)⟩⟩ dX12_acts_79
    · have z_b_78 := trivial
      have k_79 : rr_69.toInt > 0 := z_nle rfl ti_0 c_74
      refine lv_aload_n X.1 X.2.1 dX12_acts_49 rfl (lv_at hl 0 rfl) ?_
      refine lv_iload_n X.1 X.2.1 dX12_acts_50 rfl (lv_at hl 1 rfl) ?_
      refine lv_iconst (v := 1) X.1 X.2.1 dX12_acts_51 (by decide) ?_
      refine k_i (rm := { frames := 1, cells := 0, slots := 0, locals := 48 }) (av := [.ref x, .int (a1), .int 1]) X hw (va_runV (As := [.int (a1), .int 1]) (rest := []) (cfix X) (k_X12_many2 l G cy κ S _ x (a1) (a1_z) (1) (1) hO.1 ha_x hz_a1 ti_1 (by first | assumption | omega) (by first | assumption | omega) (by first | assumption | omega) (by first | assumption | omega)) (cwV 2 X.2.2.2.1 gX12_acts_X12_many rfl rfl rfl (by decide +kernel) ⟨Nat.le_of_ble_eq_true rfl, Nat.le_of_ble_eq_true rfl⟩) (pre_V X hw _ ha_x rfl (by decide) rfl) rfl rfl hl.1 rfl (lv_room (Nat.le_of_ble_eq_true rfl)) dX12_acts_52 ⟨Nat.le_of_ble_eq_true rfl, Nat.le_of_ble_eq_true rfl⟩) 0 0 (Nat.le_of_ble_eq_true rfl) (Nat.le_of_ble_eq_true rfl) (fun rr_80 S_81 H locs hp hw hfr hnw => ?_)
      obtain ⟨e2, hp⟩ := hp
      subst e2
      obtain ⟨f_82, f_83, f_84⟩ := hp
      refine lv_bipush (v := 12) X.1 X.2.1 dX12_acts_55 (by decide) ?_
      refine lv_icmp_ge (tgt := 79) X.1 X.2.1 dX12_acts_57 (by decide) (fun c_85 => ?_) (fun c_85 => ?_)
      · have z_b_86 := trivial
        have k_87 : rr_80.toInt ≥ 12 := z_le ti_12 rfl c_85
        have pz_88 : (pI S 1238 x).toInt = v_15.toInt := (congrArg Int32.toInt ev_15).trans rfl
        exact ret_v X hw hr hlocks (Nat.le_of_ble_eq_true rfl) (Nat.le_of_ble_eq_true rfl) ⟨hO, ⟨hp_4, fun hgr => hgr, hzm0, PotW_of ((actF_0 (show ru.1.toInt = 0 by rw [fa_27]; have e1 : (v_25 : Int32).toInt = v_25.toInt := rfl; omega)).trans (casF_n (by first | exact Or.inl (List.eq_nil_of_length_eq_zero (by have := pw_5.1; omega)) | exact Or.inr (by have := pw_6.1; omega)))) pw_5 pw_6 pw_7 pw_8 pw_9 pw_10 pw_11 pw_12 pw_13 pw_14, (PwX_rf S x a1_z)⟩⟩ dX12_acts_79
      · have z_b_89 := trivial
        have k_90 : rr_80.toInt < 12 := z_nle ti_12 rfl c_85
        refine lv_aload_n X.1 X.2.1 dX12_acts_60 rfl (lv_at hl 0 rfl) ?_
        refine lv_iload_n X.1 X.2.1 dX12_acts_61 rfl (lv_at hl 1 rfl) ?_
        refine lv_iconst (v := 1) X.1 X.2.1 dX12_acts_62 (by decide) ?_
        refine lv_aload_n X.1 X.2.1 dX12_acts_63 rfl (lv_at hl 0 rfl) ?_
        refine lv_iload_n X.1 X.2.1 dX12_acts_64 rfl (lv_at hl 1 rfl) ?_
        refine lv_iconst (v := 0) X.1 X.2.1 dX12_acts_65 (by decide) ?_
        refine lv_iconst (v := 0) X.1 X.2.1 dX12_acts_66 (by decide) ?_
        refine k_i (rm := { frames := 1, cells := 0, slots := 0, locals := 48 }) (av := [.ref x, .int (a1), .int 0, .int 0]) X hw (va_runV (As := [.int (a1), .int 0, .int 0]) (rest := [.int 1, .int (a1), .ref x]) (cfix X) (k_X12_goes5 l G cy κ S _ x (a1) (a1_z) (0) (0) (0) (0) (-1) hO.1 ha_x hz_a1 ti_0 ti_0 (by first | assumption | omega) (by first | assumption | omega) (by first | assumption | omega) (by first | assumption | omega) (by first | assumption | omega) (by first | assumption | omega) hp_4) (cwV 3 X.2.2.2.1 gX12_acts_X12_goes rfl rfl rfl (by decide +kernel) ⟨Nat.le_of_ble_eq_true rfl, Nat.le_of_ble_eq_true rfl⟩) (pre_V X hw _ ha_x rfl (by decide) rfl) rfl rfl hl.1 rfl (lv_room (Nat.le_of_ble_eq_true rfl)) dX12_acts_67 ⟨Nat.le_of_ble_eq_true rfl, Nat.le_of_ble_eq_true rfl⟩) 0 0 (Nat.le_of_ble_eq_true rfl) (Nat.le_of_ble_eq_true rfl) (fun rr_91 S_92 H locs hp hw hfr hnw => ?_)
        obtain ⟨hk_93, hp⟩ := hp
        have hO_94 : Ok MAC S S_92 := hO.call hk_93 (by decide +kernel)
        obtain ⟨g_95, g_96, g_97, g_98, g_99, g_100, g_101, g_102, g_103⟩ := hp
        obtain ⟨dn_104, dn_105⟩ : ∃ d, ((qb A))[((0 : Int)).toNat]? = some d := ⟨_, List.getElem?_eq_getElem (by have := pw_5.1; omega)⟩
        have dn_106 : rr_91.toInt = (dn_104 : Int) := by have h8 := pw_5.2 _ _ dn_105; have hi : (600 * (3 * a1_z + 0) + 0).toNat = 600 * (3 * a1_z + 0).toNat + ((0 : Int)).toNat := (by omega); rw [← hi] at h8; omega
        have t_107 : pI S_92 1201 x = v_1 := hk_93.fr.I' (by decide +kernel) ha_x ev_1
        have pz_108 : (pI S_92 1201 x).toInt = v_1.toInt := (congrArg Int32.toInt t_107).trans rfl
        have zl_109 : zA S_92 x 1207 = zA S x 1207 := zA_fr hk_93.fr ha_x (ex3 (gQ_12_1207 hO.1 ha_x)) (by decide +kernel) (by decide +kernel)
        have zz_110 := congrFun zl_109 (rr_91.toInt).toNat
        have al_111 := ((MI_1 g_100 (c := rr_91.toInt) (by omega) (by omega)).2 (by omega)).2 (by omega) (by omega)
        have gi_112 := g_102 (3 * a1_z + 1).toNat; rw [if_neg (by omega)] at gi_112
        have m4_113 := g_100.2.2.2.1.2 (3 * a1_z + 1).toNat (by omega)
        refine lv_aload_n X.1 X.2.1 dX12_acts_70 rfl (lv_at hl 0 rfl) ?_
        refine lv_iload_n X.1 X.2.1 dX12_acts_71 rfl (lv_at hl 1 rfl) ?_
        refine lv_iconst (v := 1) X.1 X.2.1 dX12_acts_72 (by decide) ?_
        have t_114 : At S_92 x 12 := hk_93.fr.at ha_x
        refine k_i (rm := { frames := 1, cells := 0, slots := 0, locals := 48 }) (av := [.ref x, .int (a1), .int 1]) X hw (va_runV (As := [.int (a1), .int 1]) (rest := [.int (rr_91), .int 1, .int (a1), .ref x]) (cfix X) (k_X12_many2 l G cy κ S_92 _ x (a1) (a1_z) (1) (1) hO_94.1 t_114 hz_a1 ti_1 (by first | assumption | omega) (by first | assumption | omega) (by first | assumption | omega) (by first | assumption | omega)) (cwV 2 X.2.2.2.1 gX12_acts_X12_many rfl rfl rfl (by decide +kernel) ⟨Nat.le_of_ble_eq_true rfl, Nat.le_of_ble_eq_true rfl⟩) (pre_V X hw _ t_114 rfl (by decide) rfl) rfl rfl hl.1 rfl (lv_room (Nat.le_of_ble_eq_true rfl)) dX12_acts_73 ⟨Nat.le_of_ble_eq_true rfl, Nat.le_of_ble_eq_true rfl⟩) 0 0 (Nat.le_of_ble_eq_true rfl) (Nat.le_of_ble_eq_true rfl) (fun rr_115 S_116 H locs hp hw hfr hnw => ?_)
        obtain ⟨e2, hp⟩ := hp
        subst e2
        obtain ⟨f_117, f_118, f_119⟩ := hp
        refine k_v (rm := { frames := 1, cells := 0, slots := 0, locals := 48 }) (av := [.ref x, .int (a1), .int 1, .int (rr_91), .int (rr_115)]) X hw (va_runV (As := [.int (a1), .int 1, .int (rr_91), .int (rr_115)]) (rest := []) (cfix X) (k_X12_comes5 l G cy κ S_92 _ x (a1) (a1_z) (1) (1) (rr_91) (rr_91.toInt) (rr_115) (rr_115.toInt) hO_94.1 t_114 hz_a1 ti_1 rfl rfl (by first | assumption | omega) (by first | assumption | omega) (by first | assumption | omega) (by first | assumption | omega) (by first | assumption | omega) (by first | assumption | omega) (by first | assumption | omega) (by first | assumption | omega) (by first | assumption | omega) (by first | assumption | omega) g_100 (by first | assumption | omega) (by first | assumption | omega)) (cwV 4 X.2.2.2.1 gX12_acts_X12_comes rfl rfl rfl (by decide +kernel) ⟨Nat.le_of_ble_eq_true rfl, Nat.le_of_ble_eq_true rfl⟩) (pre_V X hw _ t_114 rfl (by decide) rfl) rfl rfl hl.1 rfl (lv_room (Nat.le_of_ble_eq_true rfl)) dX12_acts_76 ⟨Nat.le_of_ble_eq_true rfl, Nat.le_of_ble_eq_true rfl⟩) 0 0 (Nat.le_of_ble_eq_true rfl) (Nat.le_of_ble_eq_true rfl) (fun S_121 H locs hp hw hfr hnw => ?_)
        obtain ⟨hk_122, hp⟩ := hp
        have hO_123 : Ok MAC S S_121 := hO_94.call hk_122 (by decide +kernel)
        obtain ⟨mi_124, cm_125, cs_126, cx_127⟩ := hp
        have zc_128 : zA S_92 x 1237 = zA S x 1237 := zA_fr hk_93.fr ha_x (ex3 (gQ_12_1237 hO.1 ha_x)) (by decide +kernel) (by decide +kernel)
        have zc_129 : zA S_121 x 1237 = zA S x 1237 := (zA_fr hk_122.fr t_114 (ex3 (gQ_12_1237 hO_94.1 t_114)) (by decide +kernel) (by decide +kernel)).trans zc_128
        have zm_130 : ZM S S_92 x := ZM_eq hzm0 (zA_fr hk_93.fr ha_x (ex3 (gQ_12_1207 hO.1 ha_x)) (by decide +kernel) (by decide +kernel))
        have zm_131 : ZM S S_121 x := ZM_set zm_130 cs_126 ⟨by omega, by omega⟩ ⟨by omega, by omega⟩
        have rR_132 : RowR S_92 x (3 * a1_z + 0).toNat ((qb A).tail) := RowR_goes0 pw_5 g_103 (by have := pw_5.1; omega)
        have rR_133 : RowR S_121 x (3 * a1_z + 0).toNat ((qb A).tail) := RowR_cmx hO_94.1 t_114 (by omega) rR_132 cx_127
        have rR_134 : RowR S_92 x (3 * a1_z + 1).toNat (qe A) := RowR_gox hO.1 ha_x (by omega) pw_6 g_103
        have cap_136 : ((qe A)).length < 600 := by have h1 := rR_134.1; have h2 := cx_127.2.2.2.1; omega
        have rR_135 : RowR S_121 x (3 * a1_z + 1).toNat ((qe A) ++ [dn_104]) := RowR_last rR_134 (show CmO S_92 S_121 x (3 * a1_z + 1).toNat ((qe A)).length (rr_91.toInt) by rw [show ((qe A)).length = (rr_115.toInt).toNat by have := rR_134.1; omega]; exact cx_127) dn_106
        have rR_137 : RowR S_92 x (3 * a1_z + 2).toNat (ql A) := RowR_gox hO.1 ha_x (by omega) pw_7 g_103
        have rR_138 : RowR S_121 x (3 * a1_z + 2).toNat (ql A) := RowR_cmx hO_94.1 t_114 (by omega) rR_137 cx_127
        have zR_139 : zA S_92 x 1215 a1_z.toNat = ((qst A)).toInt := (congrFun (zA_fr hk_93.fr ha_x (ex3 (gQ_12_1215 hO.1 ha_x)) (by decide +kernel) (by decide +kernel)) _).trans pw_8
        have zR_140 : zA S_121 x 1215 a1_z.toNat = ((qst A)).toInt := (congrFun (zA_fr hk_122.fr t_114 (ex3 (gQ_12_1215 hO_94.1 t_114)) (by decide +kernel) (by decide +kernel)) _).trans zR_139
        have zR_141 : zA S_92 x 1214 a1_z.toNat = ((qse A)).toInt := (congrFun (zA_fr hk_93.fr ha_x (ex3 (gQ_12_1214 hO.1 ha_x)) (by decide +kernel) (by decide +kernel)) _).trans pw_9
        have zR_142 : zA S_121 x 1214 a1_z.toNat = ((qse A)).toInt := (congrFun (zA_fr hk_122.fr t_114 (ex3 (gQ_12_1214 hO_94.1 t_114)) (by decide +kernel) (by decide +kernel)) _).trans zR_141
        have zR_143 : zA S_92 x 1216 a1_z.toNat = ((qdr A)).toInt := (congrFun (zA_fr hk_93.fr ha_x (ex3 (gQ_12_1216 hO.1 ha_x)) (by decide +kernel) (by decide +kernel)) _).trans pw_11
        have zR_144 : zA S_121 x 1216 a1_z.toNat = ((qdr A)).toInt := (congrFun (zA_fr hk_122.fr t_114 (ex3 (gQ_12_1216 hO_94.1 t_114)) (by decide +kernel) (by decide +kernel)) _).trans zR_143
        have zR_145 : zA S_92 x 1217 a1_z.toNat = ((qtk A)).toInt := (congrFun (zA_fr hk_93.fr ha_x (ex3 (gQ_12_1217 hO.1 ha_x)) (by decide +kernel) (by decide +kernel)) _).trans pw_12
        have zR_146 : zA S_121 x 1217 a1_z.toNat = ((qtk A)).toInt := (congrFun (zA_fr hk_122.fr t_114 (ex3 (gQ_12_1217 hO_94.1 t_114)) (by decide +kernel) (by decide +kernel)) _).trans zR_145
        have gR_147 : GrW S_92 x a1_z.toNat (qg A) := GrW_eq (zA_fr hk_93.fr ha_x (ex3 (gQ_12_1235 hO.1 ha_x)) (by decide +kernel) (by decide +kernel)) (zA_fr hk_93.fr ha_x (ex3 (gQ_12_1236 hO.1 ha_x)) (by decide +kernel) (by decide +kernel)) (congrFun (zA_fr hk_93.fr ha_x (ex3 (gQ_12_1237 hO.1 ha_x)) (by decide +kernel) (by decide +kernel)) _) pw_10
        have gR_148 : GrW S_121 x a1_z.toNat (qg A) := GrW_eq (zA_fr hk_122.fr t_114 (ex3 (gQ_12_1235 hO_94.1 t_114)) (by decide +kernel) (by decide +kernel)) (zA_fr hk_122.fr t_114 (ex3 (gQ_12_1236 hO_94.1 t_114)) (by decide +kernel) (by decide +kernel)) (congrFun (zA_fr hk_122.fr t_114 (ex3 (gQ_12_1237 hO_94.1 t_114)) (by decide +kernel) (by decide +kernel)) _) gR_147
        have pz_149 : PlZ S_92 x (qpl A) (qsd A) := PlZ_eq pw_14 (zA_fr hk_93.fr ha_x (ex3 (gQ_12_1208 hO.1 ha_x)) (by decide +kernel) (by decide +kernel)) (zA_fr hk_93.fr ha_x (ex3 (gQ_12_1207 hO.1 ha_x)) (by decide +kernel) (by decide +kernel))
        have pz_150 : PlZ S_121 x (qpl A) (fuI (qsd A) dn_104 2) := PlZ_7 pz_149 (zA_fr hk_122.fr t_114 (ex3 (gQ_12_1208 hO_94.1 t_114)) (by decide +kernel) (by decide +kernel)) cs_126 (by omega) (by decide)
        have t_151 : pI S_92 1238 x = v_15 := hk_93.fr.I' (by decide +kernel) ha_x ev_15
        have t_152 : pI S_121 1238 x = v_15 := hk_122.fr.I' (by decide +kernel) t_114 t_151
        have pz_153 : (pI S_121 1238 x).toInt = v_15.toInt := (congrArg Int32.toInt t_152).trans rfl
        have kR_154 : SkW S_92 x (qsk A) := SkW_n (congrArg Int32.toInt (hk_93.fr.I' (by decide +kernel) ha_x rfl)) ⟨zA_fr hk_93.fr ha_x (ex3 (gQ_12_1235 hO.1 ha_x)) (by decide +kernel) (by decide +kernel), zA_fr hk_93.fr ha_x (ex3 (gQ_12_1236 hO.1 ha_x)) (by decide +kernel) (by decide +kernel), zA_fr hk_93.fr ha_x (ex3 (gQ_12_1239 hO.1 ha_x)) (by decide +kernel) (by decide +kernel), zA_fr hk_93.fr ha_x (ex3 (gQ_12_1240 hO.1 ha_x)) (by decide +kernel) (by decide +kernel), zA_fr hk_93.fr ha_x (ex3 (gQ_12_1241 hO.1 ha_x)) (by decide +kernel) (by decide +kernel), zA_fr hk_93.fr ha_x (ex3 (gQ_12_1242 hO.1 ha_x)) (by decide +kernel) (by decide +kernel)⟩ pw_13
        have kR_155 : SkW S_121 x (qsk A) := SkW_n (congrArg Int32.toInt (hk_122.fr.I' (by decide +kernel) t_114 rfl)) ⟨zA_fr hk_122.fr t_114 (ex3 (gQ_12_1235 hO_94.1 t_114)) (by decide +kernel) (by decide +kernel), zA_fr hk_122.fr t_114 (ex3 (gQ_12_1236 hO_94.1 t_114)) (by decide +kernel) (by decide +kernel), zA_fr hk_122.fr t_114 (ex3 (gQ_12_1239 hO_94.1 t_114)) (by decide +kernel) (by decide +kernel), zA_fr hk_122.fr t_114 (ex3 (gQ_12_1240 hO_94.1 t_114)) (by decide +kernel) (by decide +kernel), zA_fr hk_122.fr t_114 (ex3 (gQ_12_1241 hO_94.1 t_114)) (by decide +kernel) (by decide +kernel), zA_fr hk_122.fr t_114 (ex3 (gQ_12_1242 hO_94.1 t_114)) (by decide +kernel) (by decide +kernel)⟩ kR_154
        have px_156 : PwX S S_92 x a1_z := PwX_go (PwX_rf S x a1_z) hO.1 ha_x (by omega) g_103 (zA_fr hk_93.fr ha_x (ex3 (gQ_12_1235 hO.1 ha_x)) (by decide +kernel) (by decide +kernel)) (zA_fr hk_93.fr ha_x (ex3 (gQ_12_1236 hO.1 ha_x)) (by decide +kernel) (by decide +kernel)) (pw5 (zA_fr hk_93.fr ha_x (ex3 (gQ_12_1214 hO.1 ha_x)) (by decide +kernel) (by decide +kernel)) (zA_fr hk_93.fr ha_x (ex3 (gQ_12_1215 hO.1 ha_x)) (by decide +kernel) (by decide +kernel)) (zA_fr hk_93.fr ha_x (ex3 (gQ_12_1216 hO.1 ha_x)) (by decide +kernel) (by decide +kernel)) (zA_fr hk_93.fr ha_x (ex3 (gQ_12_1217 hO.1 ha_x)) (by decide +kernel) (by decide +kernel)) (zA_fr hk_93.fr ha_x (ex3 (gQ_12_1237 hO.1 ha_x)) (by decide +kernel) (by decide +kernel)))
        have px_157 : PwX S S_121 x a1_z := PwX_cm px_156 hO_94.1 t_114 (by omega) cx_127 (zA_fr hk_122.fr t_114 (ex3 (gQ_12_1235 hO_94.1 t_114)) (by decide +kernel) (by decide +kernel)) (zA_fr hk_122.fr t_114 (ex3 (gQ_12_1236 hO_94.1 t_114)) (by decide +kernel) (by decide +kernel)) (pw5 (zA_fr hk_122.fr t_114 (ex3 (gQ_12_1214 hO_94.1 t_114)) (by decide +kernel) (by decide +kernel)) (zA_fr hk_122.fr t_114 (ex3 (gQ_12_1215 hO_94.1 t_114)) (by decide +kernel) (by decide +kernel)) (zA_fr hk_122.fr t_114 (ex3 (gQ_12_1216 hO_94.1 t_114)) (by decide +kernel) (by decide +kernel)) (zA_fr hk_122.fr t_114 (ex3 (gQ_12_1217 hO_94.1 t_114)) (by decide +kernel) (by decide +kernel)) (zA_fr hk_122.fr t_114 (ex3 (gQ_12_1237 hO_94.1 t_114)) (by decide +kernel) (by decide +kernel)))
        exact ret_v X hw hr hlocks (Nat.le_of_ble_eq_true rfl) (Nat.le_of_ble_eq_true rfl) ⟨hO_123, ⟨mi_124, fun hgr => (GR_eq zc_129 hgr), zm_131, PotW_of (B := pmk ((qb A).tail) ((qe A) ++ [dn_104]) (ql A) (qst A) (qse A) (qg A) (qpl A) (fuI (qsd A) dn_104 2) (qsk A) (qws A) (qdr A) (qtk A)) ((actF_0 (show ru.1.toInt = 0 by rw [fa_27]; have e1 : (v_25 : Int32).toInt = v_25.toInt := rfl; omega)).trans ((casF_c (hd_cons dn_105) (by have := pw_6.1; omega)).trans (by rw [capL_y (by have := pw_6.1; omega)]; rfl))) rR_133 rR_135 rR_138 zR_140 zR_142 gR_148 zR_144 zR_146 kR_155 pz_150, px_157⟩⟩ dX12_acts_79
  · refine lv_tableIn (tgt := 80) X.1 X.2.1 dX12_acts_6 (by omega) (by omega) (by rw [w_28c]; rfl) (by decide) ?_
    refine lv_aload_n X.1 X.2.1 dX12_acts_80 rfl (lv_at hl 0 rfl) ?_
    refine lv_iload_n X.1 X.2.1 dX12_acts_81 rfl (lv_at hl 1 rfl) ?_
    refine lv_iconst (v := 1) X.1 X.2.1 dX12_acts_82 (by decide) ?_
    refine k_i (rm := { frames := 1, cells := 0, slots := 0, locals := 48 }) (av := [.ref x, .int (a1), .int 1]) X hw (va_runV (As := [.int (a1), .int 1]) (rest := []) (cfix X) (k_X12_many2 l G cy κ S _ x (a1) (a1_z) (1) (1) hO.1 ha_x hz_a1 ti_1 (by first | assumption | omega) (by first | assumption | omega) (by first | assumption | omega) (by first | assumption | omega)) (cwV 2 X.2.2.2.1 gX12_acts_X12_many rfl rfl rfl (by decide +kernel) ⟨Nat.le_of_ble_eq_true rfl, Nat.le_of_ble_eq_true rfl⟩) (pre_V X hw _ ha_x rfl (by decide) rfl) rfl rfl hl.1 rfl (lv_room (Nat.le_of_ble_eq_true rfl)) dX12_acts_83 ⟨Nat.le_of_ble_eq_true rfl, Nat.le_of_ble_eq_true rfl⟩) 0 0 (Nat.le_of_ble_eq_true rfl) (Nat.le_of_ble_eq_true rfl) (fun rr_158 S_159 H locs hp hw hfr hnw => ?_)
    obtain ⟨e2, hp⟩ := hp
    subst e2
    obtain ⟨f_160, f_161, f_162⟩ := hp
    refine lv_if_le (tgt := 107) X.1 X.2.1 dX12_acts_86 (by decide) (fun c_163 => ?_) (fun c_163 => ?_)
    · have z_b_164 := trivial
      have k_165 : rr_158.toInt ≤ 0 := z_le rfl ti_0 c_163
      have pz_166 : (pI S 1238 x).toInt = v_15.toInt := (congrArg Int32.toInt ev_15).trans rfl
      exact ret_v X hw hr hlocks (Nat.le_of_ble_eq_true rfl) (Nat.le_of_ble_eq_true rfl) ⟨hO, ⟨hp_4, fun hgr => hgr, hzm0, PotW_of ((actF_1 (show ru.1.toInt = 1 by rw [fa_27]; have e1 : (v_25 : Int32).toInt = v_25.toInt := rfl; omega)).trans (droF_n (fun z => by have := pw_6.1; omega))) pw_5 pw_6 pw_7 pw_8 pw_9 pw_10 pw_11 pw_12 pw_13 pw_14, (PwX_rf S x a1_z)⟩⟩ dX12_acts_107
    · have z_b_167 := trivial
      have k_168 : rr_158.toInt > 0 := z_nle rfl ti_0 c_163
      refine lv_aload_n X.1 X.2.1 dX12_acts_89 rfl (lv_at hl 0 rfl) ?_
      refine lv_iload_n X.1 X.2.1 dX12_acts_90 rfl (lv_at hl 1 rfl) ?_
      refine lv_iconst (v := 0) X.1 X.2.1 dX12_acts_91 (by decide) ?_
      refine lv_aload_n X.1 X.2.1 dX12_acts_92 rfl (lv_at hl 0 rfl) ?_
      refine lv_iload_n X.1 X.2.1 dX12_acts_93 rfl (lv_at hl 1 rfl) ?_
      refine lv_iconst (v := 1) X.1 X.2.1 dX12_acts_94 (by decide) ?_
      refine lv_aload_n X.1 X.2.1 dX12_acts_95 rfl (lv_at hl 0 rfl) ?_
      refine lv_iload_n X.1 X.2.1 dX12_acts_96 rfl (lv_at hl 1 rfl) ?_
      refine k_i (rm := { frames := 4, cells := 0, slots := 0, locals := 192 }) (av := [.ref x, .int (a1)]) X hw (va_runV (As := [.int (a1)]) (rest := [.int 1, .int (a1), .ref x, .int 0, .int (a1), .ref x]) (cfix X) (k_X12_thinnest l G cy κ S _ x (a1) (a1_z) hO.1 ha_x hz_a1 (by first | assumption | omega) (by first | assumption | omega) hp_4) (cwV 1 X.2.2.2.1 gX12_acts_X12_thinnest rfl rfl rfl (by decide +kernel) ⟨Nat.le_of_ble_eq_true rfl, Nat.le_of_ble_eq_true rfl⟩) (pre_V X hw _ ha_x rfl (by decide) rfl) rfl rfl hl.1 rfl (lv_room (Nat.le_of_ble_eq_true rfl)) dX12_acts_97 ⟨Nat.le_of_ble_eq_true rfl, Nat.le_of_ble_eq_true rfl⟩) 0 0 (Nat.le_of_ble_eq_true rfl) (Nat.le_of_ble_eq_true rfl) (fun rr_169 S_170 H locs hp hw hfr hnw => ?_)
      obtain ⟨e2, hp⟩ := hp
      subst e2
      obtain ⟨tz_171, tz_172, tz_173, tz_174, tz_175⟩ := hp
      have tz_176 : rr_169.toInt = thiF Ev A := tz_175.trans (thZ_is hG ha_x hp_4 (by omega) (by omega) pw_6 hp_6 pw_14)
      refine k_i (rm := { frames := 1, cells := 0, slots := 0, locals := 48 }) (av := [.ref x, .int (a1), .int 1, .int (rr_169)]) X hw (va_runV (As := [.int (a1), .int 1, .int (rr_169)]) (rest := [.int 0, .int (a1), .ref x]) (cfix X) (k_X12_goes5 l G cy κ S _ x (a1) (a1_z) (1) (1) (rr_169) (rr_169.toInt) (-1) hO.1 ha_x hz_a1 ti_1 rfl (by first | assumption | omega) (by first | assumption | omega) (by first | assumption | omega) (by first | assumption | omega) (by first | assumption | omega) (by first | assumption | omega) hp_4) (cwV 3 X.2.2.2.1 gX12_acts_X12_goes rfl rfl rfl (by decide +kernel) ⟨Nat.le_of_ble_eq_true rfl, Nat.le_of_ble_eq_true rfl⟩) (pre_V X hw _ ha_x rfl (by decide) rfl) rfl rfl hl.1 rfl (lv_room (Nat.le_of_ble_eq_true rfl)) dX12_acts_100 ⟨Nat.le_of_ble_eq_true rfl, Nat.le_of_ble_eq_true rfl⟩) 0 0 (Nat.le_of_ble_eq_true rfl) (Nat.le_of_ble_eq_true rfl) (fun rr_177 S_178 H locs hp hw hfr hnw => ?_)
      obtain ⟨hk_179, hp⟩ := hp
      have hO_180 : Ok MAC S S_178 := hO.call hk_179 (by decide +kernel)
      obtain ⟨g_181, g_182, g_183, g_184, g_185, g_186, g_187, g_188, g_189⟩ := hp
      obtain ⟨dn_190, dn_191⟩ : ∃ d, ((qe A))[((rr_169.toInt : Int)).toNat]? = some d := ⟨_, List.getElem?_eq_getElem (by have := pw_6.1; omega)⟩
      have dn_192 : rr_177.toInt = (dn_190 : Int) := by have h8 := pw_6.2 _ _ dn_191; have hi : (600 * (3 * a1_z + 1) + rr_169.toInt).toNat = 600 * (3 * a1_z + 1).toNat + ((rr_169.toInt : Int)).toNat := (by omega); rw [← hi] at h8; omega
      have t_193 : pI S_178 1201 x = v_1 := hk_179.fr.I' (by decide +kernel) ha_x ev_1
      have pz_194 : (pI S_178 1201 x).toInt = v_1.toInt := (congrArg Int32.toInt t_193).trans rfl
      have zl_195 : zA S_178 x 1207 = zA S x 1207 := zA_fr hk_179.fr ha_x (ex3 (gQ_12_1207 hO.1 ha_x)) (by decide +kernel) (by decide +kernel)
      have zz_196 := congrFun zl_195 (rr_177.toInt).toNat
      have al_197 := ((MI_1 g_186 (c := rr_177.toInt) (by omega) (by omega)).2 (by omega)).2 (by omega) (by omega)
      have gi_198 := g_188 (3 * a1_z + 0).toNat; rw [if_neg (by omega)] at gi_198
      have m4_199 := g_186.2.2.2.1.2 (3 * a1_z + 0).toNat (by omega)
      refine lv_iconst (v := 0) X.1 X.2.1 dX12_acts_103 (by decide) ?_
      have t_200 : At S_178 x 12 := hk_179.fr.at ha_x
      refine k_v (rm := { frames := 1, cells := 0, slots := 0, locals := 48 }) (av := [.ref x, .int (a1), .int 0, .int (rr_177), .int 0]) X hw (va_runV (As := [.int (a1), .int 0, .int (rr_177), .int 0]) (rest := []) (cfix X) (k_X12_comes5 l G cy κ S_178 _ x (a1) (a1_z) (0) (0) (rr_177) (rr_177.toInt) (0) (0) hO_180.1 t_200 hz_a1 ti_0 rfl ti_0 (by first | assumption | omega) (by first | assumption | omega) (by first | assumption | omega) (by first | assumption | omega) (by first | assumption | omega) (by first | assumption | omega) (by first | assumption | omega) (by first | assumption | omega) (by first | assumption | omega) (by first | assumption | omega) g_186 (by first | assumption | omega) (by first | assumption | omega)) (cwV 4 X.2.2.2.1 gX12_acts_X12_comes rfl rfl rfl (by decide +kernel) ⟨Nat.le_of_ble_eq_true rfl, Nat.le_of_ble_eq_true rfl⟩) (pre_V X hw _ t_200 rfl (by decide) rfl) rfl rfl hl.1 rfl (lv_room (Nat.le_of_ble_eq_true rfl)) dX12_acts_104 ⟨Nat.le_of_ble_eq_true rfl, Nat.le_of_ble_eq_true rfl⟩) 0 0 (Nat.le_of_ble_eq_true rfl) (Nat.le_of_ble_eq_true rfl) (fun S_202 H locs hp hw hfr hnw => ?_)
      obtain ⟨hk_203, hp⟩ := hp
      have hO_204 : Ok MAC S S_202 := hO_180.call hk_203 (by decide +kernel)
      obtain ⟨mi_205, cm_206, cs_207, cx_208⟩ := hp
      have zc_209 : zA S_178 x 1237 = zA S x 1237 := zA_fr hk_179.fr ha_x (ex3 (gQ_12_1237 hO.1 ha_x)) (by decide +kernel) (by decide +kernel)
      have zc_210 : zA S_202 x 1237 = zA S x 1237 := (zA_fr hk_203.fr t_200 (ex3 (gQ_12_1237 hO_180.1 t_200)) (by decide +kernel) (by decide +kernel)).trans zc_209
      have zm_211 : ZM S S_178 x := ZM_eq hzm0 (zA_fr hk_179.fr ha_x (ex3 (gQ_12_1207 hO.1 ha_x)) (by decide +kernel) (by decide +kernel))
      have zm_212 : ZM S S_202 x := ZM_set zm_211 cs_207 ⟨by omega, by omega⟩ ⟨by omega, by omega⟩
      have rR_213 : RowR S_178 x (3 * a1_z + 0).toNat (qb A) := RowR_gox hO.1 ha_x (by omega) pw_5 g_189
      have cap_215 : ((qb A)).length < 600 := by have h1 := rR_213.1; have h2 := cx_208.2.2.2.1; omega
      have rR_214 : RowR S_202 x (3 * a1_z + 0).toNat (dn_190 :: (qb A)) := RowR_first rR_213 cx_208 dn_192
      have rR_216 : RowR S_178 x (3 * a1_z + 1).toNat ((qe A).eraseIdx (rr_169.toInt).toNat) := RowR_goes pw_6 g_189 (by have := pw_6.1; omega)
      have rR_217 : RowR S_202 x (3 * a1_z + 1).toNat ((qe A).eraseIdx (rr_169.toInt).toNat) := RowR_cmx hO_180.1 t_200 (by omega) rR_216 cx_208
      have rR_218 : RowR S_178 x (3 * a1_z + 2).toNat (ql A) := RowR_gox hO.1 ha_x (by omega) pw_7 g_189
      have rR_219 : RowR S_202 x (3 * a1_z + 2).toNat (ql A) := RowR_cmx hO_180.1 t_200 (by omega) rR_218 cx_208
      have zR_220 : zA S_178 x 1215 a1_z.toNat = ((qst A)).toInt := (congrFun (zA_fr hk_179.fr ha_x (ex3 (gQ_12_1215 hO.1 ha_x)) (by decide +kernel) (by decide +kernel)) _).trans pw_8
      have zR_221 : zA S_202 x 1215 a1_z.toNat = ((qst A)).toInt := (congrFun (zA_fr hk_203.fr t_200 (ex3 (gQ_12_1215 hO_180.1 t_200)) (by decide +kernel) (by decide +kernel)) _).trans zR_220
      have zR_222 : zA S_178 x 1214 a1_z.toNat = ((qse A)).toInt := (congrFun (zA_fr hk_179.fr ha_x (ex3 (gQ_12_1214 hO.1 ha_x)) (by decide +kernel) (by decide +kernel)) _).trans pw_9
      have zR_223 : zA S_202 x 1214 a1_z.toNat = ((qse A)).toInt := (congrFun (zA_fr hk_203.fr t_200 (ex3 (gQ_12_1214 hO_180.1 t_200)) (by decide +kernel) (by decide +kernel)) _).trans zR_222
      have zR_224 : zA S_178 x 1216 a1_z.toNat = ((qdr A)).toInt := (congrFun (zA_fr hk_179.fr ha_x (ex3 (gQ_12_1216 hO.1 ha_x)) (by decide +kernel) (by decide +kernel)) _).trans pw_11
      have zR_225 : zA S_202 x 1216 a1_z.toNat = ((qdr A)).toInt := (congrFun (zA_fr hk_203.fr t_200 (ex3 (gQ_12_1216 hO_180.1 t_200)) (by decide +kernel) (by decide +kernel)) _).trans zR_224
      have zR_226 : zA S_178 x 1217 a1_z.toNat = ((qtk A)).toInt := (congrFun (zA_fr hk_179.fr ha_x (ex3 (gQ_12_1217 hO.1 ha_x)) (by decide +kernel) (by decide +kernel)) _).trans pw_12
      have zR_227 : zA S_202 x 1217 a1_z.toNat = ((qtk A)).toInt := (congrFun (zA_fr hk_203.fr t_200 (ex3 (gQ_12_1217 hO_180.1 t_200)) (by decide +kernel) (by decide +kernel)) _).trans zR_226
      have gR_228 : GrW S_178 x a1_z.toNat (qg A) := GrW_eq (zA_fr hk_179.fr ha_x (ex3 (gQ_12_1235 hO.1 ha_x)) (by decide +kernel) (by decide +kernel)) (zA_fr hk_179.fr ha_x (ex3 (gQ_12_1236 hO.1 ha_x)) (by decide +kernel) (by decide +kernel)) (congrFun (zA_fr hk_179.fr ha_x (ex3 (gQ_12_1237 hO.1 ha_x)) (by decide +kernel) (by decide +kernel)) _) pw_10
      have gR_229 : GrW S_202 x a1_z.toNat (qg A) := GrW_eq (zA_fr hk_203.fr t_200 (ex3 (gQ_12_1235 hO_180.1 t_200)) (by decide +kernel) (by decide +kernel)) (zA_fr hk_203.fr t_200 (ex3 (gQ_12_1236 hO_180.1 t_200)) (by decide +kernel) (by decide +kernel)) (congrFun (zA_fr hk_203.fr t_200 (ex3 (gQ_12_1237 hO_180.1 t_200)) (by decide +kernel) (by decide +kernel)) _) gR_228
      have pz_230 : PlZ S_178 x (qpl A) (qsd A) := PlZ_eq pw_14 (zA_fr hk_179.fr ha_x (ex3 (gQ_12_1208 hO.1 ha_x)) (by decide +kernel) (by decide +kernel)) (zA_fr hk_179.fr ha_x (ex3 (gQ_12_1207 hO.1 ha_x)) (by decide +kernel) (by decide +kernel))
      have pz_231 : PlZ S_202 x (qpl A) (fuI (qsd A) dn_190 1) := PlZ_7 pz_230 (zA_fr hk_203.fr t_200 (ex3 (gQ_12_1208 hO_180.1 t_200)) (by decide +kernel) (by decide +kernel)) cs_207 (by omega) (by decide)
      have t_232 : pI S_178 1238 x = v_15 := hk_179.fr.I' (by decide +kernel) ha_x ev_15
      have t_233 : pI S_202 1238 x = v_15 := hk_203.fr.I' (by decide +kernel) t_200 t_232
      have pz_234 : (pI S_202 1238 x).toInt = v_15.toInt := (congrArg Int32.toInt t_233).trans rfl
      have kR_235 : SkW S_178 x (qsk A) := SkW_n (congrArg Int32.toInt (hk_179.fr.I' (by decide +kernel) ha_x rfl)) ⟨zA_fr hk_179.fr ha_x (ex3 (gQ_12_1235 hO.1 ha_x)) (by decide +kernel) (by decide +kernel), zA_fr hk_179.fr ha_x (ex3 (gQ_12_1236 hO.1 ha_x)) (by decide +kernel) (by decide +kernel), zA_fr hk_179.fr ha_x (ex3 (gQ_12_1239 hO.1 ha_x)) (by decide +kernel) (by decide +kernel), zA_fr hk_179.fr ha_x (ex3 (gQ_12_1240 hO.1 ha_x)) (by decide +kernel) (by decide +kernel), zA_fr hk_179.fr ha_x (ex3 (gQ_12_1241 hO.1 ha_x)) (by decide +kernel) (by decide +kernel), zA_fr hk_179.fr ha_x (ex3 (gQ_12_1242 hO.1 ha_x)) (by decide +kernel) (by decide +kernel)⟩ pw_13
      have kR_236 : SkW S_202 x (qsk A) := SkW_n (congrArg Int32.toInt (hk_203.fr.I' (by decide +kernel) t_200 rfl)) ⟨zA_fr hk_203.fr t_200 (ex3 (gQ_12_1235 hO_180.1 t_200)) (by decide +kernel) (by decide +kernel), zA_fr hk_203.fr t_200 (ex3 (gQ_12_1236 hO_180.1 t_200)) (by decide +kernel) (by decide +kernel), zA_fr hk_203.fr t_200 (ex3 (gQ_12_1239 hO_180.1 t_200)) (by decide +kernel) (by decide +kernel), zA_fr hk_203.fr t_200 (ex3 (gQ_12_1240 hO_180.1 t_200)) (by decide +kernel) (by decide +kernel), zA_fr hk_203.fr t_200 (ex3 (gQ_12_1241 hO_180.1 t_200)) (by decide +kernel) (by decide +kernel), zA_fr hk_203.fr t_200 (ex3 (gQ_12_1242 hO_180.1 t_200)) (by decide +kernel) (by decide +kernel)⟩ kR_235
      have px_237 : PwX S S_178 x a1_z := PwX_go (PwX_rf S x a1_z) hO.1 ha_x (by omega) g_189 (zA_fr hk_179.fr ha_x (ex3 (gQ_12_1235 hO.1 ha_x)) (by decide +kernel) (by decide +kernel)) (zA_fr hk_179.fr ha_x (ex3 (gQ_12_1236 hO.1 ha_x)) (by decide +kernel) (by decide +kernel)) (pw5 (zA_fr hk_179.fr ha_x (ex3 (gQ_12_1214 hO.1 ha_x)) (by decide +kernel) (by decide +kernel)) (zA_fr hk_179.fr ha_x (ex3 (gQ_12_1215 hO.1 ha_x)) (by decide +kernel) (by decide +kernel)) (zA_fr hk_179.fr ha_x (ex3 (gQ_12_1216 hO.1 ha_x)) (by decide +kernel) (by decide +kernel)) (zA_fr hk_179.fr ha_x (ex3 (gQ_12_1217 hO.1 ha_x)) (by decide +kernel) (by decide +kernel)) (zA_fr hk_179.fr ha_x (ex3 (gQ_12_1237 hO.1 ha_x)) (by decide +kernel) (by decide +kernel)))
      have px_238 : PwX S S_202 x a1_z := PwX_cm px_237 hO_180.1 t_200 (by omega) cx_208 (zA_fr hk_203.fr t_200 (ex3 (gQ_12_1235 hO_180.1 t_200)) (by decide +kernel) (by decide +kernel)) (zA_fr hk_203.fr t_200 (ex3 (gQ_12_1236 hO_180.1 t_200)) (by decide +kernel) (by decide +kernel)) (pw5 (zA_fr hk_203.fr t_200 (ex3 (gQ_12_1214 hO_180.1 t_200)) (by decide +kernel) (by decide +kernel)) (zA_fr hk_203.fr t_200 (ex3 (gQ_12_1215 hO_180.1 t_200)) (by decide +kernel) (by decide +kernel)) (zA_fr hk_203.fr t_200 (ex3 (gQ_12_1216 hO_180.1 t_200)) (by decide +kernel) (by decide +kernel)) (zA_fr hk_203.fr t_200 (ex3 (gQ_12_1217 hO_180.1 t_200)) (by decide +kernel) (by decide +kernel)) (zA_fr hk_203.fr t_200 (ex3 (gQ_12_1237 hO_180.1 t_200)) (by decide +kernel) (by decide +kernel)))
      exact ret_v X hw hr hlocks (Nat.le_of_ble_eq_true rfl) (Nat.le_of_ble_eq_true rfl) ⟨hO_204, ⟨mi_205, fun hgr => (GR_eq zc_210 hgr), zm_212, PotW_of (B := pmk (dn_190 :: (qb A)) ((qe A).eraseIdx (rr_169.toInt).toNat) (ql A) (qst A) (qse A) (qg A) (qpl A) (fuI (qsd A) dn_190 1) (qsk A) (qws A) (qdr A) (qtk A)) ((actF_1 (show ru.1.toInt = 1 by rw [fa_27]; have e1 : (v_25 : Int32).toInt = v_25.toInt := rfl; omega)).trans ((droF_c (E := Ev) (by omega) (by rw [← tz_176]; exact dn_191)).trans (by rw [← tz_176, capF_y cap_215]; rfl))) rR_214 rR_217 rR_219 zR_221 zR_223 gR_229 zR_225 zR_227 kR_236 pz_231, px_238⟩⟩ dX12_acts_107
  · refine lv_tableIn (tgt := 108) X.1 X.2.1 dX12_acts_6 (by omega) (by omega) (by rw [w_28c]; rfl) (by decide) ?_
    refine lv_aload_n X.1 X.2.1 dX12_acts_108 rfl (lv_at hl 0 rfl) ?_
    refine lv_iload_n X.1 X.2.1 dX12_acts_109 rfl (lv_at hl 1 rfl) ?_
    refine lv_iconst (v := 2) X.1 X.2.1 dX12_acts_110 (by decide) ?_
    refine k_i (rm := { frames := 1, cells := 0, slots := 0, locals := 48 }) (av := [.ref x, .int (a1), .int 2]) X hw (va_runV (As := [.int (a1), .int 2]) (rest := []) (cfix X) (k_X12_many2 l G cy κ S _ x (a1) (a1_z) (2) (2) hO.1 ha_x hz_a1 ti_2 (by first | assumption | omega) (by first | assumption | omega) (by first | assumption | omega) (by first | assumption | omega)) (cwV 2 X.2.2.2.1 gX12_acts_X12_many rfl rfl rfl (by decide +kernel) ⟨Nat.le_of_ble_eq_true rfl, Nat.le_of_ble_eq_true rfl⟩) (pre_V X hw _ ha_x rfl (by decide) rfl) rfl rfl hl.1 rfl (lv_room (Nat.le_of_ble_eq_true rfl)) dX12_acts_111 ⟨Nat.le_of_ble_eq_true rfl, Nat.le_of_ble_eq_true rfl⟩) 0 0 (Nat.le_of_ble_eq_true rfl) (Nat.le_of_ble_eq_true rfl) (fun rr_239 S_240 H locs hp hw hfr hnw => ?_)
    obtain ⟨e2, hp⟩ := hp
    subst e2
    obtain ⟨f_241, f_242, f_243⟩ := hp
    refine lv_if_ne (tgt := 118) X.1 X.2.1 dX12_acts_114 (by decide) (fun c_244 => ?_) (fun c_244 => ?_)
    · have z_b_245 := trivial
      have k_246 : rr_239.toInt ≠ 0 := z_ne rfl ti_0 c_244
      refine lv_aload_n X.1 X.2.1 dX12_acts_118 rfl (lv_at hl 0 rfl) ?_
      refine lv_iload_n X.1 X.2.1 dX12_acts_119 rfl (lv_at hl 1 rfl) ?_
      refine lv_iconst (v := 0) X.1 X.2.1 dX12_acts_120 (by decide) ?_
      refine lv_aload_n X.1 X.2.1 dX12_acts_121 rfl (lv_at hl 0 rfl) ?_
      refine lv_iload_n X.1 X.2.1 dX12_acts_122 rfl (lv_at hl 1 rfl) ?_
      refine lv_iconst (v := 2) X.1 X.2.1 dX12_acts_123 (by decide) ?_
      refine lv_iconst (v := 0) X.1 X.2.1 dX12_acts_124 (by decide) ?_
      refine k_i (rm := { frames := 1, cells := 0, slots := 0, locals := 48 }) (av := [.ref x, .int (a1), .int 2, .int 0]) X hw (va_runV (As := [.int (a1), .int 2, .int 0]) (rest := [.int 0, .int (a1), .ref x]) (cfix X) (k_X12_goes5 l G cy κ S _ x (a1) (a1_z) (2) (2) (0) (0) (-1) hO.1 ha_x hz_a1 ti_2 ti_0 (by first | assumption | omega) (by first | assumption | omega) (by first | assumption | omega) (by first | assumption | omega) (by first | assumption | omega) (by first | assumption | omega) hp_4) (cwV 3 X.2.2.2.1 gX12_acts_X12_goes rfl rfl rfl (by decide +kernel) ⟨Nat.le_of_ble_eq_true rfl, Nat.le_of_ble_eq_true rfl⟩) (pre_V X hw _ ha_x rfl (by decide) rfl) rfl rfl hl.1 rfl (lv_room (Nat.le_of_ble_eq_true rfl)) dX12_acts_125 ⟨Nat.le_of_ble_eq_true rfl, Nat.le_of_ble_eq_true rfl⟩) 0 0 (Nat.le_of_ble_eq_true rfl) (Nat.le_of_ble_eq_true rfl) (fun rr_247 S_248 H locs hp hw hfr hnw => ?_)
      obtain ⟨hk_249, hp⟩ := hp
      have hO_250 : Ok MAC S S_248 := hO.call hk_249 (by decide +kernel)
      obtain ⟨g_251, g_252, g_253, g_254, g_255, g_256, g_257, g_258, g_259⟩ := hp
      obtain ⟨dn_260, dn_261⟩ : ∃ d, ((ql A))[((0 : Int)).toNat]? = some d := ⟨_, List.getElem?_eq_getElem (by have := pw_7.1; omega)⟩
      have dn_262 : rr_247.toInt = (dn_260 : Int) := by have h8 := pw_7.2 _ _ dn_261; have hi : (600 * (3 * a1_z + 2) + 0).toNat = 600 * (3 * a1_z + 2).toNat + ((0 : Int)).toNat := (by omega); rw [← hi] at h8; omega
      have t_263 : pI S_248 1201 x = v_1 := hk_249.fr.I' (by decide +kernel) ha_x ev_1
      have pz_264 : (pI S_248 1201 x).toInt = v_1.toInt := (congrArg Int32.toInt t_263).trans rfl
      have zl_265 : zA S_248 x 1207 = zA S x 1207 := zA_fr hk_249.fr ha_x (ex3 (gQ_12_1207 hO.1 ha_x)) (by decide +kernel) (by decide +kernel)
      have zz_266 := congrFun zl_265 (rr_247.toInt).toNat
      have al_267 := ((MI_1 g_256 (c := rr_247.toInt) (by omega) (by omega)).2 (by omega)).2 (by omega) (by omega)
      have gi_268 := g_258 (3 * a1_z + 0).toNat; rw [if_neg (by omega)] at gi_268
      have m4_269 := g_256.2.2.2.1.2 (3 * a1_z + 0).toNat (by omega)
      refine lv_aload_n X.1 X.2.1 dX12_acts_128 rfl (lv_at hl 0 rfl) ?_
      refine lv_iload_n X.1 X.2.1 dX12_acts_129 rfl (lv_at hl 1 rfl) ?_
      refine lv_iconst (v := 0) X.1 X.2.1 dX12_acts_130 (by decide) ?_
      have t_270 : At S_248 x 12 := hk_249.fr.at ha_x
      refine k_i (rm := { frames := 1, cells := 0, slots := 0, locals := 48 }) (av := [.ref x, .int (a1), .int 0]) X hw (va_runV (As := [.int (a1), .int 0]) (rest := [.int (rr_247), .int 0, .int (a1), .ref x]) (cfix X) (k_X12_many2 l G cy κ S_248 _ x (a1) (a1_z) (0) (0) hO_250.1 t_270 hz_a1 ti_0 (by first | assumption | omega) (by first | assumption | omega) (by first | assumption | omega) (by first | assumption | omega)) (cwV 2 X.2.2.2.1 gX12_acts_X12_many rfl rfl rfl (by decide +kernel) ⟨Nat.le_of_ble_eq_true rfl, Nat.le_of_ble_eq_true rfl⟩) (pre_V X hw _ t_270 rfl (by decide) rfl) rfl rfl hl.1 rfl (lv_room (Nat.le_of_ble_eq_true rfl)) dX12_acts_131 ⟨Nat.le_of_ble_eq_true rfl, Nat.le_of_ble_eq_true rfl⟩) 0 0 (Nat.le_of_ble_eq_true rfl) (Nat.le_of_ble_eq_true rfl) (fun rr_271 S_272 H locs hp hw hfr hnw => ?_)
      obtain ⟨e2, hp⟩ := hp
      subst e2
      obtain ⟨f_273, f_274, f_275⟩ := hp
      refine k_v (rm := { frames := 1, cells := 0, slots := 0, locals := 48 }) (av := [.ref x, .int (a1), .int 0, .int (rr_247), .int (rr_271)]) X hw (va_runV (As := [.int (a1), .int 0, .int (rr_247), .int (rr_271)]) (rest := []) (cfix X) (k_X12_comes5 l G cy κ S_248 _ x (a1) (a1_z) (0) (0) (rr_247) (rr_247.toInt) (rr_271) (rr_271.toInt) hO_250.1 t_270 hz_a1 ti_0 rfl rfl (by first | assumption | omega) (by first | assumption | omega) (by first | assumption | omega) (by first | assumption | omega) (by first | assumption | omega) (by first | assumption | omega) (by first | assumption | omega) (by first | assumption | omega) (by first | assumption | omega) (by first | assumption | omega) g_256 (by first | assumption | omega) (by first | assumption | omega)) (cwV 4 X.2.2.2.1 gX12_acts_X12_comes rfl rfl rfl (by decide +kernel) ⟨Nat.le_of_ble_eq_true rfl, Nat.le_of_ble_eq_true rfl⟩) (pre_V X hw _ t_270 rfl (by decide) rfl) rfl rfl hl.1 rfl (lv_room (Nat.le_of_ble_eq_true rfl)) dX12_acts_134 ⟨Nat.le_of_ble_eq_true rfl, Nat.le_of_ble_eq_true rfl⟩) 0 0 (Nat.le_of_ble_eq_true rfl) (Nat.le_of_ble_eq_true rfl) (fun S_277 H locs hp hw hfr hnw => ?_)
      obtain ⟨hk_278, hp⟩ := hp
      have hO_279 : Ok MAC S S_277 := hO_250.call hk_278 (by decide +kernel)
      obtain ⟨mi_280, cm_281, cs_282, cx_283⟩ := hp
      refine lv_aload_n X.1 X.2.1 dX12_acts_137 rfl (lv_at hl 0 rfl) ?_
      refine lv_iload_n X.1 X.2.1 dX12_acts_138 rfl (lv_at hl 1 rfl) ?_
      refine lv_iconst (v := 2) X.1 X.2.1 dX12_acts_139 (by decide) ?_
      have t_284 : At S_277 x 12 := hk_278.fr.at t_270
      refine k_i (rm := { frames := 1, cells := 0, slots := 0, locals := 48 }) (av := [.ref x, .int (a1), .int 2]) X hw (va_runV (As := [.int (a1), .int 2]) (rest := []) (cfix X) (k_X12_many2 l G cy κ S_277 _ x (a1) (a1_z) (2) (2) hO_279.1 t_284 hz_a1 ti_2 (by first | assumption | omega) (by first | assumption | omega) (by first | assumption | omega) (by first | assumption | omega)) (cwV 2 X.2.2.2.1 gX12_acts_X12_many rfl rfl rfl (by decide +kernel) ⟨Nat.le_of_ble_eq_true rfl, Nat.le_of_ble_eq_true rfl⟩) (pre_V X hw _ t_284 rfl (by decide) rfl) rfl rfl hl.1 rfl (lv_room (Nat.le_of_ble_eq_true rfl)) dX12_acts_140 ⟨Nat.le_of_ble_eq_true rfl, Nat.le_of_ble_eq_true rfl⟩) 0 0 (Nat.le_of_ble_eq_true rfl) (Nat.le_of_ble_eq_true rfl) (fun rr_285 S_286 H locs hp hw hfr hnw => ?_)
      obtain ⟨e2, hp⟩ := hp
      subst e2
      obtain ⟨f_287, f_288, f_289⟩ := hp
      have rR_290 : RowR S_248 x (3 * a1_z + 2).toNat ((ql A).tail) := RowR_goes0 pw_7 g_259 (by have := pw_7.1; omega)
      have rR_291 : RowR S_277 x (3 * a1_z + 2).toNat ((ql A).tail) := RowR_cmx hO_250.1 t_270 (by omega) rR_290 cx_283
      refine lv_if_ne (tgt := 153) X.1 X.2.1 dX12_acts_143 (by decide) (fun c_292 => ?_) (fun c_292 => ?_)
      · have z_b_293 := trivial
        have k_294 : rr_285.toInt ≠ 0 := z_ne rfl ti_0 c_292
        refine lv_aload_n X.1 X.2.1 dX12_acts_153 rfl (lv_at hl 0 rfl) ?_
        obtain ⟨q_295, h_296, h_297, h_298⟩ := gQ_12_1215 hO_279.1 t_284
        refine r_getR (g := 1215) X hw t_284 rfl 15 h_296 (by decide) rfl inn_X12_acts_12 (by decide) (X.2.2.2.1 (.fieldLink RX12 46 "SilkMillModel" "stop" "[I") (by decide +kernel)) rfl (gv_1215 _ _) dX12_acts_154 ?_
        refine lv_iload_n X.1 X.2.1 dX12_acts_157 rfl (lv_at hl 1 rfl) ?_
        refine lv_dup2_11 X.1 X.2.1 dX12_acts_158 rfl rfl ?_
        refine r_iald X hw h_297 rfl (by rw [h_298]; exact z_ix hz_a1 (by omega) (by omega)) dX12_acts_159 ?_
        refine lv_topi (fun v_299 ev_299 => ?_)
        have rg_300 := And.intro (z_lo v_299) (z_hi v_299)
        have ev_299 := ev_299.symm
        have zR_301 : zA S_248 x 1215 a1_z.toNat = ((qst A)).toInt := (congrFun (zA_fr hk_249.fr ha_x (ex3 (gQ_12_1215 hO.1 ha_x)) (by decide +kernel) (by decide +kernel)) _).trans pw_8
        have zR_302 : zA S_277 x 1215 a1_z.toNat = ((qst A)).toInt := (congrFun (zA_fr hk_278.fr t_270 (ex3 (gQ_12_1215 hO_250.1 t_270)) (by decide +kernel) (by decide +kernel)) _).trans zR_301
        have zf_303 : zA S_277 x 1215 (a1_z).toNat = v_299.toInt := (zA_of h_296 hz_a1 (by omega) ev_299)
        have us_304 : v_299 = (qst A) := Int32.toInt_inj.mp (rfl.trans (zf_303.symm.trans zR_302))
        refine lv_iconst (v := 2) X.1 X.2.1 dX12_acts_160 (by decide) ?_
        refine lv_iadd X.1 X.2.1 dX12_acts_161 ?_
        refine lv_topi (fun v_305 ev_305 => ?_)
        have rg_306 := And.intro (z_lo v_305) (z_hi v_305)
        refine r_iast X hw h_297 rfl (by rw [h_298]; exact z_ix hz_a1 (by omega) (by omega)) dX12_acts_162 (fun H locs hw => ?_)
        obtain ⟨S_307, eS_307⟩ : ∃ T, T = sA S_277 q_295 (upd (pA S_277 q_295) (Int32.toNatClampNeg (a1)) (v_305)) := ⟨_, rfl⟩
        rw [← eS_307] at hw
        have hO_308 : Ok MAC S S_307 := hO_279.sA eS_307 h_297 (by decide +kernel) (uA_514 hO_279.1 h_297)
        have h_309 : pA S_307 q_295 (Int32.toNatClampNeg (a1)) = v_305 := tA_sAs eS_307
        have t_310 : pR S_307 1215 x = some q_295 := tR_sA eS_307 h_296
        have t_312 : pR S_277 1215 x = some q_295 := by have h := t_310; rw [eS_307, pR_sA] at h; exact h
        have zs_311 : ∀ j, zA S_307 x 1215 j = if j = (a1_z).toNat then v_305.toInt else zA S_277 x 1215 j := by have h := zA_sAs eS_307 t_312 rfl; rw [z_nc hz_a1 (by omega)] at h; exact h
        have mi_313 : MIe S_307 x (-1) := MIe_sA mi_280 hO_279.1 t_284 h_297 eS_307 (by decide +kernel)
        have zc_314 : zA S_248 x 1237 = zA S x 1237 := zA_fr hk_249.fr ha_x (ex3 (gQ_12_1237 hO.1 ha_x)) (by decide +kernel) (by decide +kernel)
        have zc_315 : zA S_277 x 1237 = zA S x 1237 := (zA_fr hk_278.fr t_270 (ex3 (gQ_12_1237 hO_250.1 t_270)) (by decide +kernel) (by decide +kernel)).trans zc_314
        have zc_316 : zA S_307 x 1237 = zA S x 1237 := (zA_sAn eS_307 (ex3 (gQ_12_1237 hO_279.1 t_284)) h_297 rfl).trans zc_315
        have zm_317 : ZM S S_248 x := ZM_eq hzm0 (zA_fr hk_249.fr ha_x (ex3 (gQ_12_1207 hO.1 ha_x)) (by decide +kernel) (by decide +kernel))
        have zm_318 : ZM S S_277 x := ZM_set zm_317 cs_282 ⟨by omega, by omega⟩ ⟨by omega, by omega⟩
        have zm_319 : ZM S S_307 x := ZM_eq zm_318 (zA_sAn eS_307 (ex3 (gQ_12_1207 hO_279.1 t_284)) h_297 rfl)
        have rR_320 : RowR S_248 x (3 * a1_z + 0).toNat (qb A) := RowR_gox hO.1 ha_x (by omega) pw_5 g_259
        have cap_322 : ((qb A)).length < 600 := by have h1 := rR_320.1; have h2 := cx_283.2.2.2.1; omega
        have rR_321 : RowR S_277 x (3 * a1_z + 0).toNat ((qb A) ++ [dn_260]) := RowR_last rR_320 (show CmO S_248 S_277 x (3 * a1_z + 0).toNat ((qb A)).length (rr_247.toInt) by rw [show ((qb A)).length = (rr_271.toInt).toNat by have := rR_320.1; omega]; exact cx_283) dn_262
        have rR_323 : RowR S_307 x (3 * a1_z + 0).toNat ((qb A) ++ [dn_260]) := RowR_eq rR_321 (zA_sAn eS_307 (ex3 (gQ_12_1218 hO_279.1 t_284)) h_297 rfl) (zA_sAn eS_307 (ex3 (gQ_12_1219 hO_279.1 t_284)) h_297 rfl)
        have rR_324 : RowR S_248 x (3 * a1_z + 1).toNat (qe A) := RowR_gox hO.1 ha_x (by omega) pw_6 g_259
        have rR_325 : RowR S_277 x (3 * a1_z + 1).toNat (qe A) := RowR_cmx hO_250.1 t_270 (by omega) rR_324 cx_283
        have rR_326 : RowR S_307 x (3 * a1_z + 1).toNat (qe A) := RowR_eq rR_325 (zA_sAn eS_307 (ex3 (gQ_12_1218 hO_279.1 t_284)) h_297 rfl) (zA_sAn eS_307 (ex3 (gQ_12_1219 hO_279.1 t_284)) h_297 rfl)
        have rR_327 : RowR S_307 x (3 * a1_z + 2).toNat ((ql A).tail) := RowR_eq rR_291 (zA_sAn eS_307 (ex3 (gQ_12_1218 hO_279.1 t_284)) h_297 rfl) (zA_sAn eS_307 (ex3 (gQ_12_1219 hO_279.1 t_284)) h_297 rfl)
        have zR_328 : zA S_307 x 1215 a1_z.toNat = (((qst A) + 2)).toInt := (by rw [zs_311, if_pos (by omega)]; exact (congrArg Int32.toInt (ev_305.trans (by rw [us_304]))))
        have zR_329 : zA S_248 x 1214 a1_z.toNat = ((qse A)).toInt := (congrFun (zA_fr hk_249.fr ha_x (ex3 (gQ_12_1214 hO.1 ha_x)) (by decide +kernel) (by decide +kernel)) _).trans pw_9
        have zR_330 : zA S_277 x 1214 a1_z.toNat = ((qse A)).toInt := (congrFun (zA_fr hk_278.fr t_270 (ex3 (gQ_12_1214 hO_250.1 t_270)) (by decide +kernel) (by decide +kernel)) _).trans zR_329
        have zR_331 : zA S_307 x 1214 a1_z.toNat = ((qse A)).toInt := (congrFun (zA_sAn eS_307 (ex3 (gQ_12_1214 hO_279.1 t_284)) h_297 rfl) _).trans zR_330
        have zR_332 : zA S_248 x 1216 a1_z.toNat = ((qdr A)).toInt := (congrFun (zA_fr hk_249.fr ha_x (ex3 (gQ_12_1216 hO.1 ha_x)) (by decide +kernel) (by decide +kernel)) _).trans pw_11
        have zR_333 : zA S_277 x 1216 a1_z.toNat = ((qdr A)).toInt := (congrFun (zA_fr hk_278.fr t_270 (ex3 (gQ_12_1216 hO_250.1 t_270)) (by decide +kernel) (by decide +kernel)) _).trans zR_332
        have zR_334 : zA S_307 x 1216 a1_z.toNat = ((qdr A)).toInt := (congrFun (zA_sAn eS_307 (ex3 (gQ_12_1216 hO_279.1 t_284)) h_297 rfl) _).trans zR_333
        have zR_335 : zA S_248 x 1217 a1_z.toNat = ((qtk A)).toInt := (congrFun (zA_fr hk_249.fr ha_x (ex3 (gQ_12_1217 hO.1 ha_x)) (by decide +kernel) (by decide +kernel)) _).trans pw_12
        have zR_336 : zA S_277 x 1217 a1_z.toNat = ((qtk A)).toInt := (congrFun (zA_fr hk_278.fr t_270 (ex3 (gQ_12_1217 hO_250.1 t_270)) (by decide +kernel) (by decide +kernel)) _).trans zR_335
        have zR_337 : zA S_307 x 1217 a1_z.toNat = ((qtk A)).toInt := (congrFun (zA_sAn eS_307 (ex3 (gQ_12_1217 hO_279.1 t_284)) h_297 rfl) _).trans zR_336
        have gR_338 : GrW S_248 x a1_z.toNat (qg A) := GrW_eq (zA_fr hk_249.fr ha_x (ex3 (gQ_12_1235 hO.1 ha_x)) (by decide +kernel) (by decide +kernel)) (zA_fr hk_249.fr ha_x (ex3 (gQ_12_1236 hO.1 ha_x)) (by decide +kernel) (by decide +kernel)) (congrFun (zA_fr hk_249.fr ha_x (ex3 (gQ_12_1237 hO.1 ha_x)) (by decide +kernel) (by decide +kernel)) _) pw_10
        have gR_339 : GrW S_277 x a1_z.toNat (qg A) := GrW_eq (zA_fr hk_278.fr t_270 (ex3 (gQ_12_1235 hO_250.1 t_270)) (by decide +kernel) (by decide +kernel)) (zA_fr hk_278.fr t_270 (ex3 (gQ_12_1236 hO_250.1 t_270)) (by decide +kernel) (by decide +kernel)) (congrFun (zA_fr hk_278.fr t_270 (ex3 (gQ_12_1237 hO_250.1 t_270)) (by decide +kernel) (by decide +kernel)) _) gR_338
        have gR_340 : GrW S_307 x a1_z.toNat (qg A) := GrW_eq (zA_sAn eS_307 (ex3 (gQ_12_1235 hO_279.1 t_284)) h_297 rfl) (zA_sAn eS_307 (ex3 (gQ_12_1236 hO_279.1 t_284)) h_297 rfl) (congrFun (zA_sAn eS_307 (ex3 (gQ_12_1237 hO_279.1 t_284)) h_297 rfl) _) gR_339
        have pz_341 : PlZ S_248 x (qpl A) (qsd A) := PlZ_eq pw_14 (zA_fr hk_249.fr ha_x (ex3 (gQ_12_1208 hO.1 ha_x)) (by decide +kernel) (by decide +kernel)) (zA_fr hk_249.fr ha_x (ex3 (gQ_12_1207 hO.1 ha_x)) (by decide +kernel) (by decide +kernel))
        have pz_342 : PlZ S_277 x (qpl A) (fuI (qsd A) dn_260 1) := PlZ_7 pz_341 (zA_fr hk_278.fr t_270 (ex3 (gQ_12_1208 hO_250.1 t_270)) (by decide +kernel) (by decide +kernel)) cs_282 (by omega) (by decide)
        have pz_343 : PlZ S_307 x (qpl A) (fuI (qsd A) dn_260 1) := PlZ_eq pz_342 (zA_sAn eS_307 (ex3 (gQ_12_1208 hO_279.1 t_284)) h_297 rfl) (zA_sAn eS_307 (ex3 (gQ_12_1207 hO_279.1 t_284)) h_297 rfl)
        have t_344 : pI S_248 1238 x = v_15 := hk_249.fr.I' (by decide +kernel) ha_x ev_15
        have t_345 : pI S_277 1238 x = v_15 := hk_278.fr.I' (by decide +kernel) t_270 t_344
        have t_346 : pI S_307 1238 x = v_15 := tI_sA eS_307 t_345
        have pz_347 : (pI S_307 1238 x).toInt = v_15.toInt := (congrArg Int32.toInt t_346).trans rfl
        have kR_348 : SkW S_248 x (qsk A) := SkW_n (congrArg Int32.toInt (hk_249.fr.I' (by decide +kernel) ha_x rfl)) ⟨zA_fr hk_249.fr ha_x (ex3 (gQ_12_1235 hO.1 ha_x)) (by decide +kernel) (by decide +kernel), zA_fr hk_249.fr ha_x (ex3 (gQ_12_1236 hO.1 ha_x)) (by decide +kernel) (by decide +kernel), zA_fr hk_249.fr ha_x (ex3 (gQ_12_1239 hO.1 ha_x)) (by decide +kernel) (by decide +kernel), zA_fr hk_249.fr ha_x (ex3 (gQ_12_1240 hO.1 ha_x)) (by decide +kernel) (by decide +kernel), zA_fr hk_249.fr ha_x (ex3 (gQ_12_1241 hO.1 ha_x)) (by decide +kernel) (by decide +kernel), zA_fr hk_249.fr ha_x (ex3 (gQ_12_1242 hO.1 ha_x)) (by decide +kernel) (by decide +kernel)⟩ pw_13
        have kR_349 : SkW S_277 x (qsk A) := SkW_n (congrArg Int32.toInt (hk_278.fr.I' (by decide +kernel) t_270 rfl)) ⟨zA_fr hk_278.fr t_270 (ex3 (gQ_12_1235 hO_250.1 t_270)) (by decide +kernel) (by decide +kernel), zA_fr hk_278.fr t_270 (ex3 (gQ_12_1236 hO_250.1 t_270)) (by decide +kernel) (by decide +kernel), zA_fr hk_278.fr t_270 (ex3 (gQ_12_1239 hO_250.1 t_270)) (by decide +kernel) (by decide +kernel), zA_fr hk_278.fr t_270 (ex3 (gQ_12_1240 hO_250.1 t_270)) (by decide +kernel) (by decide +kernel), zA_fr hk_278.fr t_270 (ex3 (gQ_12_1241 hO_250.1 t_270)) (by decide +kernel) (by decide +kernel), zA_fr hk_278.fr t_270 (ex3 (gQ_12_1242 hO_250.1 t_270)) (by decide +kernel) (by decide +kernel)⟩ kR_348
        have kR_350 : SkW S_307 x (qsk A) := SkW_n (by rw [eS_307]; rfl) ⟨zA_sAn eS_307 (ex3 (gQ_12_1235 hO_279.1 t_284)) h_297 rfl, zA_sAn eS_307 (ex3 (gQ_12_1236 hO_279.1 t_284)) h_297 rfl, zA_sAn eS_307 (ex3 (gQ_12_1239 hO_279.1 t_284)) h_297 rfl, zA_sAn eS_307 (ex3 (gQ_12_1240 hO_279.1 t_284)) h_297 rfl, zA_sAn eS_307 (ex3 (gQ_12_1241 hO_279.1 t_284)) h_297 rfl, zA_sAn eS_307 (ex3 (gQ_12_1242 hO_279.1 t_284)) h_297 rfl⟩ kR_349
        have px_351 : PwX S S_248 x a1_z := PwX_go (PwX_rf S x a1_z) hO.1 ha_x (by omega) g_259 (zA_fr hk_249.fr ha_x (ex3 (gQ_12_1235 hO.1 ha_x)) (by decide +kernel) (by decide +kernel)) (zA_fr hk_249.fr ha_x (ex3 (gQ_12_1236 hO.1 ha_x)) (by decide +kernel) (by decide +kernel)) (pw5 (zA_fr hk_249.fr ha_x (ex3 (gQ_12_1214 hO.1 ha_x)) (by decide +kernel) (by decide +kernel)) (zA_fr hk_249.fr ha_x (ex3 (gQ_12_1215 hO.1 ha_x)) (by decide +kernel) (by decide +kernel)) (zA_fr hk_249.fr ha_x (ex3 (gQ_12_1216 hO.1 ha_x)) (by decide +kernel) (by decide +kernel)) (zA_fr hk_249.fr ha_x (ex3 (gQ_12_1217 hO.1 ha_x)) (by decide +kernel) (by decide +kernel)) (zA_fr hk_249.fr ha_x (ex3 (gQ_12_1237 hO.1 ha_x)) (by decide +kernel) (by decide +kernel)))
        have px_352 : PwX S S_277 x a1_z := PwX_cm px_351 hO_250.1 t_270 (by omega) cx_283 (zA_fr hk_278.fr t_270 (ex3 (gQ_12_1235 hO_250.1 t_270)) (by decide +kernel) (by decide +kernel)) (zA_fr hk_278.fr t_270 (ex3 (gQ_12_1236 hO_250.1 t_270)) (by decide +kernel) (by decide +kernel)) (pw5 (zA_fr hk_278.fr t_270 (ex3 (gQ_12_1214 hO_250.1 t_270)) (by decide +kernel) (by decide +kernel)) (zA_fr hk_278.fr t_270 (ex3 (gQ_12_1215 hO_250.1 t_270)) (by decide +kernel) (by decide +kernel)) (zA_fr hk_278.fr t_270 (ex3 (gQ_12_1216 hO_250.1 t_270)) (by decide +kernel) (by decide +kernel)) (zA_fr hk_278.fr t_270 (ex3 (gQ_12_1217 hO_250.1 t_270)) (by decide +kernel) (by decide +kernel)) (zA_fr hk_278.fr t_270 (ex3 (gQ_12_1237 hO_250.1 t_270)) (by decide +kernel) (by decide +kernel)))
        have px_353 : PwX S S_307 x a1_z := PwX_z px_352 (zA_sAn eS_307 (ex3 (gQ_12_1218 hO_279.1 t_284)) h_297 rfl) (zA_sAn eS_307 (ex3 (gQ_12_1219 hO_279.1 t_284)) h_297 rfl) (zA_sAn eS_307 (ex3 (gQ_12_1235 hO_279.1 t_284)) h_297 rfl) (zA_sAn eS_307 (ex3 (gQ_12_1236 hO_279.1 t_284)) h_297 rfl) zs_311 (by omega) (pw4 (fun _ => zA_sAn eS_307 (ex3 (gQ_12_1214 hO_279.1 t_284)) h_297 rfl) (fun h => absurd rfl h) (fun _ => zA_sAn eS_307 (ex3 (gQ_12_1216 hO_279.1 t_284)) h_297 rfl) (fun _ => zA_sAn eS_307 (ex3 (gQ_12_1217 hO_279.1 t_284)) h_297 rfl) (fun _ => zA_sAn eS_307 (ex3 (gQ_12_1237 hO_279.1 t_284)) h_297 rfl))
        exact ret_v X hw hr hlocks (Nat.le_of_ble_eq_true rfl) (Nat.le_of_ble_eq_true rfl) ⟨hO_308, ⟨mi_313, fun hgr => (GR_eq zc_316 hgr), zm_319, PotW_of (B := pmk ((qb A) ++ [dn_260]) (qe A) ((ql A).tail) ((qst A) + 2) (qse A) (qg A) (qpl A) (fuI (qsd A) dn_260 1) (qsk A) (qws A) (qdr A) (qtk A)) ((actF_2 (show ru.1.toInt = 2 by rw [fa_27]; have e1 : (v_25 : Int32).toInt = v_25.toInt := rfl; omega)).trans ((fndF_c (fun z => by have e0 := congrArg List.length z; have e1 : ([] : List Nat).length = 0 := rfl; have := pw_7.1; omega)).trans (by rw [fetF_c (hd_cons dn_261), capL_y cap_322, if_neg (fun z => by have e0 := congrArg List.length z; have e1 : ([] : List Nat).length = 0 := rfl; have := rR_291.1; omega)]; rfl))) rR_323 rR_326 rR_327 zR_328 zR_331 gR_340 zR_334 zR_337 kR_350 pz_343, px_353⟩⟩ dX12_acts_163
      · have z_b_354 := trivial
        have k_355 : rr_285.toInt = 0 := z_eq rfl ti_0 c_292
        refine lv_aload_n X.1 X.2.1 dX12_acts_146 rfl (lv_at hl 0 rfl) ?_
        obtain ⟨q_356, h_357, h_358, h_359⟩ := gQ_12_1214 hO_279.1 t_284
        refine r_getR (g := 1214) X hw t_284 rfl 14 h_357 (by decide) rfl inn_X12_acts_12 (by decide) (X.2.2.2.1 (.fieldLink RX12 43 "SilkMillModel" "search" "[I") (by decide +kernel)) rfl (gv_1214 _ _) dX12_acts_147 ?_
        refine lv_iload_n X.1 X.2.1 dX12_acts_150 rfl (lv_at hl 1 rfl) ?_
        refine lv_iconst (v := 0) X.1 X.2.1 dX12_acts_151 (by decide) ?_
        refine r_iast X hw h_358 rfl (by rw [h_359]; exact z_ix hz_a1 (by omega) (by omega)) dX12_acts_152 (fun H locs hw => ?_)
        obtain ⟨S_360, eS_360⟩ : ∃ T, T = sA S_277 q_356 (upd (pA S_277 q_356) (Int32.toNatClampNeg (a1)) (0)) := ⟨_, rfl⟩
        rw [← eS_360] at hw
        have hO_361 : Ok MAC S S_360 := hO_279.sA eS_360 h_358 (by decide +kernel) (uA_494 hO_279.1 h_358)
        have h_362 : pA S_360 q_356 (Int32.toNatClampNeg (a1)) = 0 := tA_sAs eS_360
        have t_363 : pR S_360 1214 x = some q_356 := tR_sA eS_360 h_357
        have t_365 : pR S_277 1214 x = some q_356 := by have h := t_363; rw [eS_360, pR_sA] at h; exact h
        have zs_364 : ∀ j, zA S_360 x 1214 j = if j = (a1_z).toNat then 0 else zA S_277 x 1214 j := by have h := zA_sAs eS_360 t_365 ti_0; rw [z_nc hz_a1 (by omega)] at h; exact h
        refine lv_aload_n X.1 X.2.1 dX12_acts_153 rfl (lv_at hl 0 rfl) ?_
        have t_366 : At S_360 x 12 := tAt_sA eS_360 t_284
        obtain ⟨q_367, h_368, h_369, h_370⟩ := gQ_12_1215 hO_361.1 t_366
        refine r_getR (g := 1215) X hw t_366 rfl 15 h_368 (by decide) rfl inn_X12_acts_12 (by decide) (X.2.2.2.1 (.fieldLink RX12 46 "SilkMillModel" "stop" "[I") (by decide +kernel)) rfl (gv_1215 _ _) dX12_acts_154 ?_
        refine lv_iload_n X.1 X.2.1 dX12_acts_157 rfl (lv_at hl 1 rfl) ?_
        refine lv_dup2_11 X.1 X.2.1 dX12_acts_158 rfl rfl ?_
        refine r_iald X hw h_369 rfl (by rw [h_370]; exact z_ix hz_a1 (by omega) (by omega)) dX12_acts_159 ?_
        refine lv_topi (fun v_371 ev_371 => ?_)
        have rg_372 := And.intro (z_lo v_371) (z_hi v_371)
        have ev_371 := ev_371.symm
        have zR_373 : zA S_248 x 1215 a1_z.toNat = ((qst A)).toInt := (congrFun (zA_fr hk_249.fr ha_x (ex3 (gQ_12_1215 hO.1 ha_x)) (by decide +kernel) (by decide +kernel)) _).trans pw_8
        have zR_374 : zA S_277 x 1215 a1_z.toNat = ((qst A)).toInt := (congrFun (zA_fr hk_278.fr t_270 (ex3 (gQ_12_1215 hO_250.1 t_270)) (by decide +kernel) (by decide +kernel)) _).trans zR_373
        have zR_375 : zA S_360 x 1215 a1_z.toNat = ((qst A)).toInt := (congrFun (zA_sAn eS_360 (ex3 (gQ_12_1215 hO_279.1 t_284)) h_358 rfl) _).trans zR_374
        have zf_376 : zA S_360 x 1215 (a1_z).toNat = v_371.toInt := (zA_of h_368 hz_a1 (by omega) ev_371)
        have us_377 : v_371 = (qst A) := Int32.toInt_inj.mp (rfl.trans (zf_376.symm.trans zR_375))
        refine lv_iconst (v := 2) X.1 X.2.1 dX12_acts_160 (by decide) ?_
        refine lv_iadd X.1 X.2.1 dX12_acts_161 ?_
        refine lv_topi (fun v_378 ev_378 => ?_)
        have rg_379 := And.intro (z_lo v_378) (z_hi v_378)
        refine r_iast X hw h_369 rfl (by rw [h_370]; exact z_ix hz_a1 (by omega) (by omega)) dX12_acts_162 (fun H locs hw => ?_)
        obtain ⟨S_380, eS_380⟩ : ∃ T, T = sA S_360 q_367 (upd (pA S_360 q_367) (Int32.toNatClampNeg (a1)) (v_378)) := ⟨_, rfl⟩
        rw [← eS_380] at hw
        have hO_381 : Ok MAC S S_380 := hO_361.sA eS_380 h_369 (by decide +kernel) (uA_514 hO_361.1 h_369)
        have h_382 : pA S_380 q_367 (Int32.toNatClampNeg (a1)) = v_378 := tA_sAs eS_380
        have t_383 : pR S_380 1215 x = some q_367 := tR_sA eS_380 h_368
        have t_385 : pR S_360 1215 x = some q_367 := by have h := t_383; rw [eS_380, pR_sA] at h; exact h
        have zs_384 : ∀ j, zA S_380 x 1215 j = if j = (a1_z).toNat then v_378.toInt else zA S_360 x 1215 j := by have h := zA_sAs eS_380 t_385 rfl; rw [z_nc hz_a1 (by omega)] at h; exact h
        have mi_386 : MIe S_360 x (-1) := MIe_sA mi_280 hO_279.1 t_284 h_358 eS_360 (by decide +kernel)
        have mi_387 : MIe S_380 x (-1) := MIe_sA mi_386 hO_361.1 t_366 h_369 eS_380 (by decide +kernel)
        have zc_388 : zA S_248 x 1237 = zA S x 1237 := zA_fr hk_249.fr ha_x (ex3 (gQ_12_1237 hO.1 ha_x)) (by decide +kernel) (by decide +kernel)
        have zc_389 : zA S_277 x 1237 = zA S x 1237 := (zA_fr hk_278.fr t_270 (ex3 (gQ_12_1237 hO_250.1 t_270)) (by decide +kernel) (by decide +kernel)).trans zc_388
        have zc_390 : zA S_360 x 1237 = zA S x 1237 := (zA_sAn eS_360 (ex3 (gQ_12_1237 hO_279.1 t_284)) h_358 rfl).trans zc_389
        have zc_391 : zA S_380 x 1237 = zA S x 1237 := (zA_sAn eS_380 (ex3 (gQ_12_1237 hO_361.1 t_366)) h_369 rfl).trans zc_390
        have zm_392 : ZM S S_248 x := ZM_eq hzm0 (zA_fr hk_249.fr ha_x (ex3 (gQ_12_1207 hO.1 ha_x)) (by decide +kernel) (by decide +kernel))
        have zm_393 : ZM S S_277 x := ZM_set zm_392 cs_282 ⟨by omega, by omega⟩ ⟨by omega, by omega⟩
        have zm_394 : ZM S S_360 x := ZM_eq zm_393 (zA_sAn eS_360 (ex3 (gQ_12_1207 hO_279.1 t_284)) h_358 rfl)
        have zm_395 : ZM S S_380 x := ZM_eq zm_394 (zA_sAn eS_380 (ex3 (gQ_12_1207 hO_361.1 t_366)) h_369 rfl)
        have rR_396 : RowR S_248 x (3 * a1_z + 0).toNat (qb A) := RowR_gox hO.1 ha_x (by omega) pw_5 g_259
        have cap_398 : ((qb A)).length < 600 := by have h1 := rR_396.1; have h2 := cx_283.2.2.2.1; omega
        have rR_397 : RowR S_277 x (3 * a1_z + 0).toNat ((qb A) ++ [dn_260]) := RowR_last rR_396 (show CmO S_248 S_277 x (3 * a1_z + 0).toNat ((qb A)).length (rr_247.toInt) by rw [show ((qb A)).length = (rr_271.toInt).toNat by have := rR_396.1; omega]; exact cx_283) dn_262
        have rR_399 : RowR S_360 x (3 * a1_z + 0).toNat ((qb A) ++ [dn_260]) := RowR_eq rR_397 (zA_sAn eS_360 (ex3 (gQ_12_1218 hO_279.1 t_284)) h_358 rfl) (zA_sAn eS_360 (ex3 (gQ_12_1219 hO_279.1 t_284)) h_358 rfl)
        have rR_400 : RowR S_380 x (3 * a1_z + 0).toNat ((qb A) ++ [dn_260]) := RowR_eq rR_399 (zA_sAn eS_380 (ex3 (gQ_12_1218 hO_361.1 t_366)) h_369 rfl) (zA_sAn eS_380 (ex3 (gQ_12_1219 hO_361.1 t_366)) h_369 rfl)
        have rR_401 : RowR S_248 x (3 * a1_z + 1).toNat (qe A) := RowR_gox hO.1 ha_x (by omega) pw_6 g_259
        have rR_402 : RowR S_277 x (3 * a1_z + 1).toNat (qe A) := RowR_cmx hO_250.1 t_270 (by omega) rR_401 cx_283
        have rR_403 : RowR S_360 x (3 * a1_z + 1).toNat (qe A) := RowR_eq rR_402 (zA_sAn eS_360 (ex3 (gQ_12_1218 hO_279.1 t_284)) h_358 rfl) (zA_sAn eS_360 (ex3 (gQ_12_1219 hO_279.1 t_284)) h_358 rfl)
        have rR_404 : RowR S_380 x (3 * a1_z + 1).toNat (qe A) := RowR_eq rR_403 (zA_sAn eS_380 (ex3 (gQ_12_1218 hO_361.1 t_366)) h_369 rfl) (zA_sAn eS_380 (ex3 (gQ_12_1219 hO_361.1 t_366)) h_369 rfl)
        have rR_405 : RowR S_360 x (3 * a1_z + 2).toNat ((ql A).tail) := RowR_eq rR_291 (zA_sAn eS_360 (ex3 (gQ_12_1218 hO_279.1 t_284)) h_358 rfl) (zA_sAn eS_360 (ex3 (gQ_12_1219 hO_279.1 t_284)) h_358 rfl)
        have rR_406 : RowR S_380 x (3 * a1_z + 2).toNat ((ql A).tail) := RowR_eq rR_405 (zA_sAn eS_380 (ex3 (gQ_12_1218 hO_361.1 t_366)) h_369 rfl) (zA_sAn eS_380 (ex3 (gQ_12_1219 hO_361.1 t_366)) h_369 rfl)
        have zR_407 : zA S_380 x 1215 a1_z.toNat = (((qst A) + 2)).toInt := (by rw [zs_384, if_pos (by omega)]; exact (congrArg Int32.toInt (ev_378.trans (by rw [us_377]))))
        have zR_408 : zA S_248 x 1214 a1_z.toNat = ((qse A)).toInt := (congrFun (zA_fr hk_249.fr ha_x (ex3 (gQ_12_1214 hO.1 ha_x)) (by decide +kernel) (by decide +kernel)) _).trans pw_9
        have zR_409 : zA S_277 x 1214 a1_z.toNat = ((qse A)).toInt := (congrFun (zA_fr hk_278.fr t_270 (ex3 (gQ_12_1214 hO_250.1 t_270)) (by decide +kernel) (by decide +kernel)) _).trans zR_408
        have zR_410 : zA S_360 x 1214 a1_z.toNat = ((0 : Int32)).toInt := (by rw [zs_364, if_pos (by omega)]; decide)
        have zR_411 : zA S_380 x 1214 a1_z.toNat = ((0 : Int32)).toInt := (congrFun (zA_sAn eS_380 (ex3 (gQ_12_1214 hO_361.1 t_366)) h_369 rfl) _).trans zR_410
        have zR_412 : zA S_248 x 1216 a1_z.toNat = ((qdr A)).toInt := (congrFun (zA_fr hk_249.fr ha_x (ex3 (gQ_12_1216 hO.1 ha_x)) (by decide +kernel) (by decide +kernel)) _).trans pw_11
        have zR_413 : zA S_277 x 1216 a1_z.toNat = ((qdr A)).toInt := (congrFun (zA_fr hk_278.fr t_270 (ex3 (gQ_12_1216 hO_250.1 t_270)) (by decide +kernel) (by decide +kernel)) _).trans zR_412
        have zR_414 : zA S_360 x 1216 a1_z.toNat = ((qdr A)).toInt := (congrFun (zA_sAn eS_360 (ex3 (gQ_12_1216 hO_279.1 t_284)) h_358 rfl) _).trans zR_413
        have zR_415 : zA S_380 x 1216 a1_z.toNat = ((qdr A)).toInt := (congrFun (zA_sAn eS_380 (ex3 (gQ_12_1216 hO_361.1 t_366)) h_369 rfl) _).trans zR_414
        have zR_416 : zA S_248 x 1217 a1_z.toNat = ((qtk A)).toInt := (congrFun (zA_fr hk_249.fr ha_x (ex3 (gQ_12_1217 hO.1 ha_x)) (by decide +kernel) (by decide +kernel)) _).trans pw_12
        have zR_417 : zA S_277 x 1217 a1_z.toNat = ((qtk A)).toInt := (congrFun (zA_fr hk_278.fr t_270 (ex3 (gQ_12_1217 hO_250.1 t_270)) (by decide +kernel) (by decide +kernel)) _).trans zR_416
        have zR_418 : zA S_360 x 1217 a1_z.toNat = ((qtk A)).toInt := (congrFun (zA_sAn eS_360 (ex3 (gQ_12_1217 hO_279.1 t_284)) h_358 rfl) _).trans zR_417
        have zR_419 : zA S_380 x 1217 a1_z.toNat = ((qtk A)).toInt := (congrFun (zA_sAn eS_380 (ex3 (gQ_12_1217 hO_361.1 t_366)) h_369 rfl) _).trans zR_418
        have gR_420 : GrW S_248 x a1_z.toNat (qg A) := GrW_eq (zA_fr hk_249.fr ha_x (ex3 (gQ_12_1235 hO.1 ha_x)) (by decide +kernel) (by decide +kernel)) (zA_fr hk_249.fr ha_x (ex3 (gQ_12_1236 hO.1 ha_x)) (by decide +kernel) (by decide +kernel)) (congrFun (zA_fr hk_249.fr ha_x (ex3 (gQ_12_1237 hO.1 ha_x)) (by decide +kernel) (by decide +kernel)) _) pw_10
        have gR_421 : GrW S_277 x a1_z.toNat (qg A) := GrW_eq (zA_fr hk_278.fr t_270 (ex3 (gQ_12_1235 hO_250.1 t_270)) (by decide +kernel) (by decide +kernel)) (zA_fr hk_278.fr t_270 (ex3 (gQ_12_1236 hO_250.1 t_270)) (by decide +kernel) (by decide +kernel)) (congrFun (zA_fr hk_278.fr t_270 (ex3 (gQ_12_1237 hO_250.1 t_270)) (by decide +kernel) (by decide +kernel)) _) gR_420
        have gR_422 : GrW S_360 x a1_z.toNat (qg A) := GrW_eq (zA_sAn eS_360 (ex3 (gQ_12_1235 hO_279.1 t_284)) h_358 rfl) (zA_sAn eS_360 (ex3 (gQ_12_1236 hO_279.1 t_284)) h_358 rfl) (congrFun (zA_sAn eS_360 (ex3 (gQ_12_1237 hO_279.1 t_284)) h_358 rfl) _) gR_421
        have gR_423 : GrW S_380 x a1_z.toNat (qg A) := GrW_eq (zA_sAn eS_380 (ex3 (gQ_12_1235 hO_361.1 t_366)) h_369 rfl) (zA_sAn eS_380 (ex3 (gQ_12_1236 hO_361.1 t_366)) h_369 rfl) (congrFun (zA_sAn eS_380 (ex3 (gQ_12_1237 hO_361.1 t_366)) h_369 rfl) _) gR_422
        have pz_424 : PlZ S_248 x (qpl A) (qsd A) := PlZ_eq pw_14 (zA_fr hk_249.fr ha_x (ex3 (gQ_12_1208 hO.1 ha_x)) (by decide +kernel) (by decide +kernel)) (zA_fr hk_249.fr ha_x (ex3 (gQ_12_1207 hO.1 ha_x)) (by decide +kernel) (by decide +kernel))
        have pz_425 : PlZ S_277 x (qpl A) (fuI (qsd A) dn_260 1) := PlZ_7 pz_424 (zA_fr hk_278.fr t_270 (ex3 (gQ_12_1208 hO_250.1 t_270)) (by decide +kernel) (by decide +kernel)) cs_282 (by omega) (by decide)
        have pz_426 : PlZ S_360 x (qpl A) (fuI (qsd A) dn_260 1) := PlZ_eq pz_425 (zA_sAn eS_360 (ex3 (gQ_12_1208 hO_279.1 t_284)) h_358 rfl) (zA_sAn eS_360 (ex3 (gQ_12_1207 hO_279.1 t_284)) h_358 rfl)
        have pz_427 : PlZ S_380 x (qpl A) (fuI (qsd A) dn_260 1) := PlZ_eq pz_426 (zA_sAn eS_380 (ex3 (gQ_12_1208 hO_361.1 t_366)) h_369 rfl) (zA_sAn eS_380 (ex3 (gQ_12_1207 hO_361.1 t_366)) h_369 rfl)
        have t_428 : pI S_248 1238 x = v_15 := hk_249.fr.I' (by decide +kernel) ha_x ev_15
        have t_429 : pI S_277 1238 x = v_15 := hk_278.fr.I' (by decide +kernel) t_270 t_428
        have t_430 : pI S_360 1238 x = v_15 := tI_sA eS_360 t_429
        have t_431 : pI S_380 1238 x = v_15 := tI_sA eS_380 t_430
        have pz_432 : (pI S_380 1238 x).toInt = v_15.toInt := (congrArg Int32.toInt t_431).trans rfl
        have kR_433 : SkW S_248 x (qsk A) := SkW_n (congrArg Int32.toInt (hk_249.fr.I' (by decide +kernel) ha_x rfl)) ⟨zA_fr hk_249.fr ha_x (ex3 (gQ_12_1235 hO.1 ha_x)) (by decide +kernel) (by decide +kernel), zA_fr hk_249.fr ha_x (ex3 (gQ_12_1236 hO.1 ha_x)) (by decide +kernel) (by decide +kernel), zA_fr hk_249.fr ha_x (ex3 (gQ_12_1239 hO.1 ha_x)) (by decide +kernel) (by decide +kernel), zA_fr hk_249.fr ha_x (ex3 (gQ_12_1240 hO.1 ha_x)) (by decide +kernel) (by decide +kernel), zA_fr hk_249.fr ha_x (ex3 (gQ_12_1241 hO.1 ha_x)) (by decide +kernel) (by decide +kernel), zA_fr hk_249.fr ha_x (ex3 (gQ_12_1242 hO.1 ha_x)) (by decide +kernel) (by decide +kernel)⟩ pw_13
        have kR_434 : SkW S_277 x (qsk A) := SkW_n (congrArg Int32.toInt (hk_278.fr.I' (by decide +kernel) t_270 rfl)) ⟨zA_fr hk_278.fr t_270 (ex3 (gQ_12_1235 hO_250.1 t_270)) (by decide +kernel) (by decide +kernel), zA_fr hk_278.fr t_270 (ex3 (gQ_12_1236 hO_250.1 t_270)) (by decide +kernel) (by decide +kernel), zA_fr hk_278.fr t_270 (ex3 (gQ_12_1239 hO_250.1 t_270)) (by decide +kernel) (by decide +kernel), zA_fr hk_278.fr t_270 (ex3 (gQ_12_1240 hO_250.1 t_270)) (by decide +kernel) (by decide +kernel), zA_fr hk_278.fr t_270 (ex3 (gQ_12_1241 hO_250.1 t_270)) (by decide +kernel) (by decide +kernel), zA_fr hk_278.fr t_270 (ex3 (gQ_12_1242 hO_250.1 t_270)) (by decide +kernel) (by decide +kernel)⟩ kR_433
        have kR_435 : SkW S_360 x (qsk A) := SkW_n (by rw [eS_360]; rfl) ⟨zA_sAn eS_360 (ex3 (gQ_12_1235 hO_279.1 t_284)) h_358 rfl, zA_sAn eS_360 (ex3 (gQ_12_1236 hO_279.1 t_284)) h_358 rfl, zA_sAn eS_360 (ex3 (gQ_12_1239 hO_279.1 t_284)) h_358 rfl, zA_sAn eS_360 (ex3 (gQ_12_1240 hO_279.1 t_284)) h_358 rfl, zA_sAn eS_360 (ex3 (gQ_12_1241 hO_279.1 t_284)) h_358 rfl, zA_sAn eS_360 (ex3 (gQ_12_1242 hO_279.1 t_284)) h_358 rfl⟩ kR_434
        have kR_436 : SkW S_380 x (qsk A) := SkW_n (by rw [eS_380]; rfl) ⟨zA_sAn eS_380 (ex3 (gQ_12_1235 hO_361.1 t_366)) h_369 rfl, zA_sAn eS_380 (ex3 (gQ_12_1236 hO_361.1 t_366)) h_369 rfl, zA_sAn eS_380 (ex3 (gQ_12_1239 hO_361.1 t_366)) h_369 rfl, zA_sAn eS_380 (ex3 (gQ_12_1240 hO_361.1 t_366)) h_369 rfl, zA_sAn eS_380 (ex3 (gQ_12_1241 hO_361.1 t_366)) h_369 rfl, zA_sAn eS_380 (ex3 (gQ_12_1242 hO_361.1 t_366)) h_369 rfl⟩ kR_435
        have px_437 : PwX S S_248 x a1_z := PwX_go (PwX_rf S x a1_z) hO.1 ha_x (by omega) g_259 (zA_fr hk_249.fr ha_x (ex3 (gQ_12_1235 hO.1 ha_x)) (by decide +kernel) (by decide +kernel)) (zA_fr hk_249.fr ha_x (ex3 (gQ_12_1236 hO.1 ha_x)) (by decide +kernel) (by decide +kernel)) (pw5 (zA_fr hk_249.fr ha_x (ex3 (gQ_12_1214 hO.1 ha_x)) (by decide +kernel) (by decide +kernel)) (zA_fr hk_249.fr ha_x (ex3 (gQ_12_1215 hO.1 ha_x)) (by decide +kernel) (by decide +kernel)) (zA_fr hk_249.fr ha_x (ex3 (gQ_12_1216 hO.1 ha_x)) (by decide +kernel) (by decide +kernel)) (zA_fr hk_249.fr ha_x (ex3 (gQ_12_1217 hO.1 ha_x)) (by decide +kernel) (by decide +kernel)) (zA_fr hk_249.fr ha_x (ex3 (gQ_12_1237 hO.1 ha_x)) (by decide +kernel) (by decide +kernel)))
        have px_438 : PwX S S_277 x a1_z := PwX_cm px_437 hO_250.1 t_270 (by omega) cx_283 (zA_fr hk_278.fr t_270 (ex3 (gQ_12_1235 hO_250.1 t_270)) (by decide +kernel) (by decide +kernel)) (zA_fr hk_278.fr t_270 (ex3 (gQ_12_1236 hO_250.1 t_270)) (by decide +kernel) (by decide +kernel)) (pw5 (zA_fr hk_278.fr t_270 (ex3 (gQ_12_1214 hO_250.1 t_270)) (by decide +kernel) (by decide +kernel)) (zA_fr hk_278.fr t_270 (ex3 (gQ_12_1215 hO_250.1 t_270)) (by decide +kernel) (by decide +kernel)) (zA_fr hk_278.fr t_270 (ex3 (gQ_12_1216 hO_250.1 t_270)) (by decide +kernel) (by decide +kernel)) (zA_fr hk_278.fr t_270 (ex3 (gQ_12_1217 hO_250.1 t_270)) (by decide +kernel) (by decide +kernel)) (zA_fr hk_278.fr t_270 (ex3 (gQ_12_1237 hO_250.1 t_270)) (by decide +kernel) (by decide +kernel)))
        have px_439 : PwX S S_360 x a1_z := PwX_z px_438 (zA_sAn eS_360 (ex3 (gQ_12_1218 hO_279.1 t_284)) h_358 rfl) (zA_sAn eS_360 (ex3 (gQ_12_1219 hO_279.1 t_284)) h_358 rfl) (zA_sAn eS_360 (ex3 (gQ_12_1235 hO_279.1 t_284)) h_358 rfl) (zA_sAn eS_360 (ex3 (gQ_12_1236 hO_279.1 t_284)) h_358 rfl) zs_364 (by omega) (pw4 (fun h => absurd rfl h) (fun _ => zA_sAn eS_360 (ex3 (gQ_12_1215 hO_279.1 t_284)) h_358 rfl) (fun _ => zA_sAn eS_360 (ex3 (gQ_12_1216 hO_279.1 t_284)) h_358 rfl) (fun _ => zA_sAn eS_360 (ex3 (gQ_12_1217 hO_279.1 t_284)) h_358 rfl) (fun _ => zA_sAn eS_360 (ex3 (gQ_12_1237 hO_279.1 t_284)) h_358 rfl))
        have px_440 : PwX S S_380 x a1_z := PwX_z px_439 (zA_sAn eS_380 (ex3 (gQ_12_1218 hO_361.1 t_366)) h_369 rfl) (zA_sAn eS_380 (ex3 (gQ_12_1219 hO_361.1 t_366)) h_369 rfl) (zA_sAn eS_380 (ex3 (gQ_12_1235 hO_361.1 t_366)) h_369 rfl) (zA_sAn eS_380 (ex3 (gQ_12_1236 hO_361.1 t_366)) h_369 rfl) zs_384 (by omega) (pw4 (fun _ => zA_sAn eS_380 (ex3 (gQ_12_1214 hO_361.1 t_366)) h_369 rfl) (fun h => absurd rfl h) (fun _ => zA_sAn eS_380 (ex3 (gQ_12_1216 hO_361.1 t_366)) h_369 rfl) (fun _ => zA_sAn eS_380 (ex3 (gQ_12_1217 hO_361.1 t_366)) h_369 rfl) (fun _ => zA_sAn eS_380 (ex3 (gQ_12_1237 hO_361.1 t_366)) h_369 rfl))
        exact ret_v X hw hr hlocks (Nat.le_of_ble_eq_true rfl) (Nat.le_of_ble_eq_true rfl) ⟨hO_381, ⟨mi_387, fun hgr => (GR_eq zc_391 hgr), zm_395, PotW_of (B := pmk ((qb A) ++ [dn_260]) (qe A) ((ql A).tail) ((qst A) + 2) (0 : Int32) (qg A) (qpl A) (fuI (qsd A) dn_260 1) (qsk A) (qws A) (qdr A) (qtk A)) ((actF_2 (show ru.1.toInt = 2 by rw [fa_27]; have e1 : (v_25 : Int32).toInt = v_25.toInt := rfl; omega)).trans ((fndF_c (fun z => by have e0 := congrArg List.length z; have e1 : ([] : List Nat).length = 0 := rfl; have := pw_7.1; omega)).trans (by rw [fetF_c (hd_cons dn_261), capL_y cap_398, if_pos (List.eq_nil_of_length_eq_zero (by have := rR_291.1; omega))]; rfl))) rR_400 rR_404 rR_406 zR_407 zR_411 gR_423 zR_415 zR_419 kR_436 pz_427, px_440⟩⟩ dX12_acts_163
    · have z_b_441 := trivial
      have k_442 : rr_239.toInt = 0 := z_eq rfl ti_0 c_244
      have pz_443 : (pI S 1238 x).toInt = v_15.toInt := (congrArg Int32.toInt ev_15).trans rfl
      exact ret_v X hw hr hlocks (Nat.le_of_ble_eq_true rfl) (Nat.le_of_ble_eq_true rfl) ⟨hO, ⟨hp_4, fun hgr => hgr, hzm0, PotW_of ((actF_2 (show ru.1.toInt = 2 by rw [fa_27]; have e1 : (v_25 : Int32).toInt = v_25.toInt := rfl; omega)).trans (fndF_n (List.eq_nil_of_length_eq_zero (by have := pw_7.1; omega)))) pw_5 pw_6 pw_7 pw_8 pw_9 pw_10 pw_11 pw_12 pw_13 pw_14, (PwX_rf S x a1_z)⟩⟩ dX12_acts_117
  · refine lv_tableIn (tgt := 164) X.1 X.2.1 dX12_acts_6 (by omega) (by omega) (by rw [w_28c]; rfl) (by decide) ?_
    refine lv_aload_n X.1 X.2.1 dX12_acts_164 rfl (lv_at hl 0 rfl) ?_
    refine lv_iload_n X.1 X.2.1 dX12_acts_165 rfl (lv_at hl 1 rfl) ?_
    refine lv_iconst (v := 0) X.1 X.2.1 dX12_acts_166 (by decide) ?_
    refine k_i (rm := { frames := 1, cells := 0, slots := 0, locals := 48 }) (av := [.ref x, .int (a1), .int 0]) X hw (va_runV (As := [.int (a1), .int 0]) (rest := []) (cfix X) (k_X12_many2 l G cy κ S _ x (a1) (a1_z) (0) (0) hO.1 ha_x hz_a1 ti_0 (by first | assumption | omega) (by first | assumption | omega) (by first | assumption | omega) (by first | assumption | omega)) (cwV 2 X.2.2.2.1 gX12_acts_X12_many rfl rfl rfl (by decide +kernel) ⟨Nat.le_of_ble_eq_true rfl, Nat.le_of_ble_eq_true rfl⟩) (pre_V X hw _ ha_x rfl (by decide) rfl) rfl rfl hl.1 rfl (lv_room (Nat.le_of_ble_eq_true rfl)) dX12_acts_167 ⟨Nat.le_of_ble_eq_true rfl, Nat.le_of_ble_eq_true rfl⟩) 0 0 (Nat.le_of_ble_eq_true rfl) (Nat.le_of_ble_eq_true rfl) (fun rr_444 S_445 H locs hp hw hfr hnw => ?_)
    obtain ⟨e2, hp⟩ := hp
    subst e2
    obtain ⟨f_446, f_447, f_448⟩ := hp
    refine lv_if_le (tgt := 194) X.1 X.2.1 dX12_acts_170 (by decide) (fun c_449 => ?_) (fun c_449 => ?_)
    · have z_b_450 := trivial
      have k_451 : rr_444.toInt ≤ 0 := z_le rfl ti_0 c_449
      have pz_452 : (pI S 1238 x).toInt = v_15.toInt := (congrArg Int32.toInt ev_15).trans rfl
      exact ret_v X hw hr hlocks (Nat.le_of_ble_eq_true rfl) (Nat.le_of_ble_eq_true rfl) ⟨hO, ⟨hp_4, fun hgr => hgr, hzm0, PotW_of ((actF_3 (show ru.1.toInt = 3 by rw [fa_27]; have e1 : (v_25 : Int32).toInt = v_25.toInt := rfl; omega)).trans (throF_n (List.eq_nil_of_length_eq_zero (by have := pw_5.1; omega)))) pw_5 pw_6 pw_7 pw_8 pw_9 pw_10 pw_11 pw_12 pw_13 pw_14, (PwX_rf S x a1_z)⟩⟩ dX12_acts_194
    · have z_b_453 := trivial
      have k_454 : rr_444.toInt > 0 := z_nle rfl ti_0 c_449
      refine lv_aload_n X.1 X.2.1 dX12_acts_173 rfl (lv_at hl 0 rfl) ?_
      obtain ⟨q_455, h_456, h_457, h_458⟩ := gQ_12_1207 hO.1 ha_x
      refine r_getR (g := 1207) X hw ha_x rfl 7 h_456 (by decide) rfl inn_X12_acts_12 (by decide) (X.2.2.2.1 (.fieldLink RX12 25 "SilkMillModel" "stand" "[I") (by decide +kernel)) rfl (gv_1207 _ _) dX12_acts_174 ?_
      refine lv_aload_n X.1 X.2.1 dX12_acts_177 rfl (lv_at hl 0 rfl) ?_
      refine lv_iload_n X.1 X.2.1 dX12_acts_178 rfl (lv_at hl 1 rfl) ?_
      refine lv_iconst (v := 0) X.1 X.2.1 dX12_acts_179 (by decide) ?_
      refine lv_aload_n X.1 X.2.1 dX12_acts_180 rfl (lv_at hl 0 rfl) ?_
      refine lv_iload_n X.1 X.2.1 dX12_acts_181 rfl (lv_at hl 1 rfl) ?_
      refine lv_iconst (v := 0) X.1 X.2.1 dX12_acts_182 (by decide) ?_
      refine k_i (rm := { frames := 1, cells := 0, slots := 0, locals := 48 }) (av := [.ref x, .int (a1), .int 0]) X hw (va_runV (As := [.int (a1), .int 0]) (rest := [.int 0, .int (a1), .ref x, .ref q_455]) (cfix X) (k_X12_many2 l G cy κ S _ x (a1) (a1_z) (0) (0) hO.1 ha_x hz_a1 ti_0 (by first | assumption | omega) (by first | assumption | omega) (by first | assumption | omega) (by first | assumption | omega)) (cwV 2 X.2.2.2.1 gX12_acts_X12_many rfl rfl rfl (by decide +kernel) ⟨Nat.le_of_ble_eq_true rfl, Nat.le_of_ble_eq_true rfl⟩) (pre_V X hw _ ha_x rfl (by decide) rfl) rfl rfl hl.1 rfl (lv_room (Nat.le_of_ble_eq_true rfl)) dX12_acts_183 ⟨Nat.le_of_ble_eq_true rfl, Nat.le_of_ble_eq_true rfl⟩) 0 0 (Nat.le_of_ble_eq_true rfl) (Nat.le_of_ble_eq_true rfl) (fun rr_459 S_460 H locs hp hw hfr hnw => ?_)
      obtain ⟨e2, hp⟩ := hp
      subst e2
      obtain ⟨f_461, f_462, f_463⟩ := hp
      refine lv_iconst (v := 1) X.1 X.2.1 dX12_acts_186 (by decide) ?_
      refine lv_isub X.1 X.2.1 dX12_acts_187 ?_
      refine lv_topi (fun v_464 ev_464 => ?_)
      have z_465 : v_464.toInt = rr_459.toInt - 1 := z_sub ev_464 rfl ti_1 (by omega) (by omega)
      refine k_i (rm := { frames := 1, cells := 0, slots := 0, locals := 48 }) (av := [.ref x, .int (a1), .int 0, .int (v_464)]) X hw (va_runV (As := [.int (a1), .int 0, .int (v_464)]) (rest := [.ref q_455]) (cfix X) (k_X12_goes5 l G cy κ S _ x (a1) (a1_z) (0) (0) (v_464) ((rr_459.toInt - 1)) (-1) hO.1 ha_x hz_a1 ti_0 z_465 (by first | assumption | omega) (by first | assumption | omega) (by first | assumption | omega) (by first | assumption | omega) (by first | assumption | omega) (by first | assumption | omega) hp_4) (cwV 3 X.2.2.2.1 gX12_acts_X12_goes rfl rfl rfl (by decide +kernel) ⟨Nat.le_of_ble_eq_true rfl, Nat.le_of_ble_eq_true rfl⟩) (pre_V X hw _ ha_x rfl (by decide) rfl) rfl rfl hl.1 rfl (lv_room (Nat.le_of_ble_eq_true rfl)) dX12_acts_188 ⟨Nat.le_of_ble_eq_true rfl, Nat.le_of_ble_eq_true rfl⟩) 0 0 (Nat.le_of_ble_eq_true rfl) (Nat.le_of_ble_eq_true rfl) (fun rr_466 S_467 H locs hp hw hfr hnw => ?_)
      obtain ⟨hk_468, hp⟩ := hp
      have hO_469 : Ok MAC S S_467 := hO.call hk_468 (by decide +kernel)
      obtain ⟨g_470, g_471, g_472, g_473, g_474, g_475, g_476, g_477, g_478⟩ := hp
      obtain ⟨dn_479, dn_480⟩ : ∃ d, ((qb A))[(((rr_459.toInt - 1) : Int)).toNat]? = some d := ⟨_, List.getElem?_eq_getElem (by have := pw_5.1; omega)⟩
      have dn_481 : rr_466.toInt = (dn_479 : Int) := by have h8 := pw_5.2 _ _ dn_480; have hi : (600 * (3 * a1_z + 0) + (rr_459.toInt - 1)).toNat = 600 * (3 * a1_z + 0).toNat + (((rr_459.toInt - 1) : Int)).toNat := (by omega); rw [← hi] at h8; omega
      have t_482 : pI S_467 1201 x = v_1 := hk_468.fr.I' (by decide +kernel) ha_x ev_1
      have pz_483 : (pI S_467 1201 x).toInt = v_1.toInt := (congrArg Int32.toInt t_482).trans rfl
      have zl_484 : zA S_467 x 1207 = zA S x 1207 := zA_fr hk_468.fr ha_x (ex3 (gQ_12_1207 hO.1 ha_x)) (by decide +kernel) (by decide +kernel)
      have zz_485 := congrFun zl_484 (rr_466.toInt).toNat
      have al_486 := ((MI_1 g_475 (c := rr_466.toInt) (by omega) (by omega)).2 (by omega)).2 (by omega) (by omega)
      refine lv_bipush (v := 6) X.1 X.2.1 dX12_acts_191 (by decide) ?_
      have t_487 : At S_467 q_455 354 := hk_468.fr.at h_457
      have t_488 : pN S_467 q_455 = 600 := hk_468.fr.N h_457 h_458
      clear h_458
      refine r_iast X hw t_487 rfl (by rw [t_488]; exact z_ix rfl (by omega) (by omega)) dX12_acts_193 (fun H locs hw => ?_)
      obtain ⟨S_489, eS_489⟩ : ∃ T, T = sA S_467 q_455 (upd (pA S_467 q_455) (Int32.toNatClampNeg (rr_466)) (6)) := ⟨_, rfl⟩
      rw [← eS_489] at hw
      have hO_490 : Ok MAC S S_489 := hO_469.sA eS_489 t_487 (by decide +kernel) (uA_354 hO_469.1 t_487)
      have h_491 : pA S_489 q_455 (Int32.toNatClampNeg (rr_466)) = 6 := tA_sAs eS_489
      have t_492 : pR S_467 1207 x = some q_455 := hk_468.fr.R' (by decide +kernel) ha_x h_456
      have t_493 : pR S_489 1207 x = some q_455 := tR_sA eS_489 t_492
      have t_495 : pR S_467 1207 x = some q_455 := by have h := t_493; rw [eS_489, pR_sA] at h; exact h
      have zs_494 : ∀ j, zA S_489 x 1207 j = if j = (rr_466.toInt).toNat then 6 else zA S_467 x 1207 j := by have h := zA_sAs eS_489 t_495 ti_6; rw [z_nc rfl (by omega)] at h; exact h
      have t_497 : At S_467 x 12 := hk_468.fr.at ha_x
      have mi_496 : MIe S_489 x (-1) := stand_MI (c := rr_466.toInt) hO_469.1 t_497 (show Fr [10354] S_467 S_489 by rw [eS_489]; exact Fr_sA t_487 List.mem_cons_self) g_475 (by omega) (by omega) g_476 zs_494 (Or.inr (Or.inr (by assumption)))
      have t_499 : pR S_467 1207 x = some q_455 := by have h := t_493; rw [eS_489, pR_sA] at h; exact h
      have zs_498 : ∀ j, zA S_489 x 1207 j = if j = (rr_466.toInt).toNat then 6 else zA S_467 x 1207 j := by have h := zA_sAs eS_489 t_499 ti_6; rw [z_nc rfl (by omega)] at h; exact h
      have zm_500 : ZM S S_467 x := ZM_eq hzm0 (zA_fr hk_468.fr ha_x (ex3 (gQ_12_1207 hO.1 ha_x)) (by decide +kernel) (by decide +kernel))
      have zm_501 : ZM S S_489 x := ZM_set zm_500 zs_498 ⟨by omega, by omega⟩ ⟨by omega, by omega⟩
      have zc_502 : zA S_467 x 1237 = zA S x 1237 := zA_fr hk_468.fr ha_x (ex3 (gQ_12_1237 hO.1 ha_x)) (by decide +kernel) (by decide +kernel)
      have zc_503 : zA S_489 x 1237 = zA S x 1237 := (zA_sAn eS_489 (ex3 (gQ_12_1237 hO_469.1 t_497)) t_487 rfl).trans zc_502
      have rR_504 : RowR S_467 x (3 * a1_z + 0).toNat ((qb A).eraseIdx ((rr_459.toInt - 1)).toNat) := RowR_goes pw_5 g_478 (by have := pw_5.1; omega)
      have rR_505 : RowR S_489 x (3 * a1_z + 0).toNat ((qb A).eraseIdx ((rr_459.toInt - 1)).toNat) := RowR_eq rR_504 (zA_sAn eS_489 (ex3 (gQ_12_1218 hO_469.1 t_497)) t_487 rfl) (zA_sAn eS_489 (ex3 (gQ_12_1219 hO_469.1 t_497)) t_487 rfl)
      have rR_506 : RowR S_467 x (3 * a1_z + 1).toNat (qe A) := RowR_gox hO.1 ha_x (by omega) pw_6 g_478
      have rR_507 : RowR S_489 x (3 * a1_z + 1).toNat (qe A) := RowR_eq rR_506 (zA_sAn eS_489 (ex3 (gQ_12_1218 hO_469.1 t_497)) t_487 rfl) (zA_sAn eS_489 (ex3 (gQ_12_1219 hO_469.1 t_497)) t_487 rfl)
      have rR_508 : RowR S_467 x (3 * a1_z + 2).toNat (ql A) := RowR_gox hO.1 ha_x (by omega) pw_7 g_478
      have rR_509 : RowR S_489 x (3 * a1_z + 2).toNat (ql A) := RowR_eq rR_508 (zA_sAn eS_489 (ex3 (gQ_12_1218 hO_469.1 t_497)) t_487 rfl) (zA_sAn eS_489 (ex3 (gQ_12_1219 hO_469.1 t_497)) t_487 rfl)
      have zR_510 : zA S_467 x 1215 a1_z.toNat = ((qst A)).toInt := (congrFun (zA_fr hk_468.fr ha_x (ex3 (gQ_12_1215 hO.1 ha_x)) (by decide +kernel) (by decide +kernel)) _).trans pw_8
      have zR_511 : zA S_489 x 1215 a1_z.toNat = ((qst A)).toInt := (congrFun (zA_sAn eS_489 (ex3 (gQ_12_1215 hO_469.1 t_497)) t_487 rfl) _).trans zR_510
      have zR_512 : zA S_467 x 1214 a1_z.toNat = ((qse A)).toInt := (congrFun (zA_fr hk_468.fr ha_x (ex3 (gQ_12_1214 hO.1 ha_x)) (by decide +kernel) (by decide +kernel)) _).trans pw_9
      have zR_513 : zA S_489 x 1214 a1_z.toNat = ((qse A)).toInt := (congrFun (zA_sAn eS_489 (ex3 (gQ_12_1214 hO_469.1 t_497)) t_487 rfl) _).trans zR_512
      have zR_514 : zA S_467 x 1216 a1_z.toNat = ((qdr A)).toInt := (congrFun (zA_fr hk_468.fr ha_x (ex3 (gQ_12_1216 hO.1 ha_x)) (by decide +kernel) (by decide +kernel)) _).trans pw_11
      have zR_515 : zA S_489 x 1216 a1_z.toNat = ((qdr A)).toInt := (congrFun (zA_sAn eS_489 (ex3 (gQ_12_1216 hO_469.1 t_497)) t_487 rfl) _).trans zR_514
      have zR_516 : zA S_467 x 1217 a1_z.toNat = ((qtk A)).toInt := (congrFun (zA_fr hk_468.fr ha_x (ex3 (gQ_12_1217 hO.1 ha_x)) (by decide +kernel) (by decide +kernel)) _).trans pw_12
      have zR_517 : zA S_489 x 1217 a1_z.toNat = ((qtk A)).toInt := (congrFun (zA_sAn eS_489 (ex3 (gQ_12_1217 hO_469.1 t_497)) t_487 rfl) _).trans zR_516
      have gR_518 : GrW S_467 x a1_z.toNat (qg A) := GrW_eq (zA_fr hk_468.fr ha_x (ex3 (gQ_12_1235 hO.1 ha_x)) (by decide +kernel) (by decide +kernel)) (zA_fr hk_468.fr ha_x (ex3 (gQ_12_1236 hO.1 ha_x)) (by decide +kernel) (by decide +kernel)) (congrFun (zA_fr hk_468.fr ha_x (ex3 (gQ_12_1237 hO.1 ha_x)) (by decide +kernel) (by decide +kernel)) _) pw_10
      have gR_519 : GrW S_489 x a1_z.toNat (qg A) := GrW_eq (zA_sAn eS_489 (ex3 (gQ_12_1235 hO_469.1 t_497)) t_487 rfl) (zA_sAn eS_489 (ex3 (gQ_12_1236 hO_469.1 t_497)) t_487 rfl) (congrFun (zA_sAn eS_489 (ex3 (gQ_12_1237 hO_469.1 t_497)) t_487 rfl) _) gR_518
      have pz_520 : PlZ S_467 x (qpl A) (qsd A) := PlZ_eq pw_14 (zA_fr hk_468.fr ha_x (ex3 (gQ_12_1208 hO.1 ha_x)) (by decide +kernel) (by decide +kernel)) (zA_fr hk_468.fr ha_x (ex3 (gQ_12_1207 hO.1 ha_x)) (by decide +kernel) (by decide +kernel))
      have pz_521 : PlZ S_489 x (qpl A) (fuI (qsd A) dn_479 6) := PlZ_7 pz_520 (zA_sAn eS_489 (ex3 (gQ_12_1208 hO_469.1 t_497)) t_487 rfl) zs_498 (by omega) (by decide)
      have t_522 : pI S_467 1238 x = v_15 := hk_468.fr.I' (by decide +kernel) ha_x ev_15
      have t_523 : pI S_489 1238 x = v_15 := tI_sA eS_489 t_522
      have pz_524 : (pI S_489 1238 x).toInt = v_15.toInt := (congrArg Int32.toInt t_523).trans rfl
      have kR_525 : SkW S_467 x (qsk A) := SkW_n (congrArg Int32.toInt (hk_468.fr.I' (by decide +kernel) ha_x rfl)) ⟨zA_fr hk_468.fr ha_x (ex3 (gQ_12_1235 hO.1 ha_x)) (by decide +kernel) (by decide +kernel), zA_fr hk_468.fr ha_x (ex3 (gQ_12_1236 hO.1 ha_x)) (by decide +kernel) (by decide +kernel), zA_fr hk_468.fr ha_x (ex3 (gQ_12_1239 hO.1 ha_x)) (by decide +kernel) (by decide +kernel), zA_fr hk_468.fr ha_x (ex3 (gQ_12_1240 hO.1 ha_x)) (by decide +kernel) (by decide +kernel), zA_fr hk_468.fr ha_x (ex3 (gQ_12_1241 hO.1 ha_x)) (by decide +kernel) (by decide +kernel), zA_fr hk_468.fr ha_x (ex3 (gQ_12_1242 hO.1 ha_x)) (by decide +kernel) (by decide +kernel)⟩ pw_13
      have kR_526 : SkW S_489 x (qsk A) := SkW_n (by rw [eS_489]; rfl) ⟨zA_sAn eS_489 (ex3 (gQ_12_1235 hO_469.1 t_497)) t_487 rfl, zA_sAn eS_489 (ex3 (gQ_12_1236 hO_469.1 t_497)) t_487 rfl, zA_sAn eS_489 (ex3 (gQ_12_1239 hO_469.1 t_497)) t_487 rfl, zA_sAn eS_489 (ex3 (gQ_12_1240 hO_469.1 t_497)) t_487 rfl, zA_sAn eS_489 (ex3 (gQ_12_1241 hO_469.1 t_497)) t_487 rfl, zA_sAn eS_489 (ex3 (gQ_12_1242 hO_469.1 t_497)) t_487 rfl⟩ kR_525
      have px_527 : PwX S S_467 x a1_z := PwX_go (PwX_rf S x a1_z) hO.1 ha_x (by omega) g_478 (zA_fr hk_468.fr ha_x (ex3 (gQ_12_1235 hO.1 ha_x)) (by decide +kernel) (by decide +kernel)) (zA_fr hk_468.fr ha_x (ex3 (gQ_12_1236 hO.1 ha_x)) (by decide +kernel) (by decide +kernel)) (pw5 (zA_fr hk_468.fr ha_x (ex3 (gQ_12_1214 hO.1 ha_x)) (by decide +kernel) (by decide +kernel)) (zA_fr hk_468.fr ha_x (ex3 (gQ_12_1215 hO.1 ha_x)) (by decide +kernel) (by decide +kernel)) (zA_fr hk_468.fr ha_x (ex3 (gQ_12_1216 hO.1 ha_x)) (by decide +kernel) (by decide +kernel)) (zA_fr hk_468.fr ha_x (ex3 (gQ_12_1217 hO.1 ha_x)) (by decide +kernel) (by decide +kernel)) (zA_fr hk_468.fr ha_x (ex3 (gQ_12_1237 hO.1 ha_x)) (by decide +kernel) (by decide +kernel)))
      have px_528 : PwX S S_489 x a1_z := PwX_to px_527 (zA_sAn eS_489 (ex3 (gQ_12_1218 hO_469.1 t_497)) t_487 rfl) (zA_sAn eS_489 (ex3 (gQ_12_1219 hO_469.1 t_497)) t_487 rfl) (zA_sAn eS_489 (ex3 (gQ_12_1235 hO_469.1 t_497)) t_487 rfl) (zA_sAn eS_489 (ex3 (gQ_12_1236 hO_469.1 t_497)) t_487 rfl) (pw5 (zA_sAn eS_489 (ex3 (gQ_12_1214 hO_469.1 t_497)) t_487 rfl) (zA_sAn eS_489 (ex3 (gQ_12_1215 hO_469.1 t_497)) t_487 rfl) (zA_sAn eS_489 (ex3 (gQ_12_1216 hO_469.1 t_497)) t_487 rfl) (zA_sAn eS_489 (ex3 (gQ_12_1217 hO_469.1 t_497)) t_487 rfl) (zA_sAn eS_489 (ex3 (gQ_12_1237 hO_469.1 t_497)) t_487 rfl))
      exact ret_v X hw hr hlocks (Nat.le_of_ble_eq_true rfl) (Nat.le_of_ble_eq_true rfl) ⟨hO_490, ⟨mi_496, fun hgr => (GR_eq zc_503 hgr), zm_501, PotW_of (B := pmk ((qb A).eraseIdx ((rr_459.toInt - 1)).toNat) (qe A) (ql A) (qst A) (qse A) (qg A) (qpl A) (fuI (qsd A) dn_479 6) (qsk A) (qws A) (qdr A) (qtk A)) ((actF_3 (show ru.1.toInt = 3 by rw [fa_27]; have e1 : (v_25 : Int32).toInt = v_25.toInt := rfl; omega)).trans ((throF_c (by rw [show (qb A).length - 1 = (((rr_459.toInt - 1) : Int)).toNat by have := pw_5.1; omega]; exact dn_480)).trans (by rw [show (qb A).length - 1 = (((rr_459.toInt - 1) : Int)).toNat by have := pw_5.1; omega]; rfl))) rR_505 rR_507 rR_509 zR_511 zR_513 gR_519 zR_515 zR_517 kR_526 pz_521, px_528⟩⟩ dX12_acts_194
  · refine lv_tableIn (tgt := 195) X.1 X.2.1 dX12_acts_6 (by omega) (by omega) (by rw [w_28c]; rfl) (by decide) ?_
    refine lv_aload_n X.1 X.2.1 dX12_acts_195 rfl (lv_at hl 0 rfl) ?_
    refine lv_iload_n X.1 X.2.1 dX12_acts_196 rfl (lv_at hl 1 rfl) ?_
    refine k_i (rm := { frames := 6, cells := 0, slots := 0, locals := 288 }) (av := [.ref x, .int (a1)]) X hw (va_runV (As := [.int (a1)]) (rest := []) (cfix X) (k_X12_cuts5 l G cy κ S _ x (a1) (a1_z) hO.1 ha_x hz_a1 (by first | assumption | omega) (by first | assumption | omega) hp_4) (cwV 1 X.2.2.2.1 gX12_acts_X12_cuts rfl rfl rfl (by decide +kernel) ⟨Nat.le_of_ble_eq_true rfl, Nat.le_of_ble_eq_true rfl⟩) (pre_V X hw _ ha_x rfl (by decide) rfl) rfl rfl hl.1 rfl (lv_room (Nat.le_of_ble_eq_true rfl)) dX12_acts_197 ⟨Nat.le_of_ble_eq_true rfl, Nat.le_of_ble_eq_true rfl⟩) 0 0 (Nat.le_of_ble_eq_true rfl) (Nat.le_of_ble_eq_true rfl) (fun rr_529 S_530 H locs hp hw hfr hnw => ?_)
    obtain ⟨hk_531, hp⟩ := hp
    have hO_532 : Ok MAC S S_530 := hO.call hk_531 (by decide +kernel)
    obtain ⟨mi_533, cu_534, cc_535, cc_536, cc_537⟩ := hp
    have rg_538 := And.intro (z_lo rr_529) (z_hi rr_529)
    refine lv_istore_n (lv' := [(3, .int (rr_529)), (0, .ref x), (1, .int (a1)), (2, .int (a2))]) X.1 X.2.1 dX12_acts_200 rfl hl (by decide) rfl (fun ls hl => ?_)
    have zm_539 : ZM S S_530 x := ZM_eq hzm0 (zA_fr hk_531.fr ha_x (ex3 (gQ_12_1207 hO.1 ha_x)) (by decide +kernel) (by decide +kernel))
    have rR_540 : RowR S_530 x (3 * a1_z + 0).toNat (qb A) := RowR_eq pw_5 (zA_fr hk_531.fr ha_x (ex3 (gQ_12_1218 hO.1 ha_x)) (by decide +kernel) (by decide +kernel)) (zA_fr hk_531.fr ha_x (ex3 (gQ_12_1219 hO.1 ha_x)) (by decide +kernel) (by decide +kernel))
    have rR_541 : RowR S_530 x (3 * a1_z + 1).toNat (qe A) := RowR_eq pw_6 (zA_fr hk_531.fr ha_x (ex3 (gQ_12_1218 hO.1 ha_x)) (by decide +kernel) (by decide +kernel)) (zA_fr hk_531.fr ha_x (ex3 (gQ_12_1219 hO.1 ha_x)) (by decide +kernel) (by decide +kernel))
    have rR_542 : RowR S_530 x (3 * a1_z + 2).toNat (ql A) := RowR_eq pw_7 (zA_fr hk_531.fr ha_x (ex3 (gQ_12_1218 hO.1 ha_x)) (by decide +kernel) (by decide +kernel)) (zA_fr hk_531.fr ha_x (ex3 (gQ_12_1219 hO.1 ha_x)) (by decide +kernel) (by decide +kernel))
    have zR_543 : zA S_530 x 1215 a1_z.toNat = ((qst A)).toInt := (congrFun (zA_fr hk_531.fr ha_x (ex3 (gQ_12_1215 hO.1 ha_x)) (by decide +kernel) (by decide +kernel)) _).trans pw_8
    have zR_544 : zA S_530 x 1214 a1_z.toNat = ((qse A)).toInt := (congrFun (zA_fr hk_531.fr ha_x (ex3 (gQ_12_1214 hO.1 ha_x)) (by decide +kernel) (by decide +kernel)) _).trans pw_9
    have zR_545 : zA S_530 x 1216 a1_z.toNat = ((qdr A)).toInt := (congrFun (zA_fr hk_531.fr ha_x (ex3 (gQ_12_1216 hO.1 ha_x)) (by decide +kernel) (by decide +kernel)) _).trans pw_11
    have zR_546 : zA S_530 x 1217 a1_z.toNat = ((qtk A)).toInt := (congrFun (zA_fr hk_531.fr ha_x (ex3 (gQ_12_1217 hO.1 ha_x)) (by decide +kernel) (by decide +kernel)) _).trans pw_12
    have pz_547 : PlZ S_530 x (qpl A) (qsd A) := PlZ_eq pw_14 (zA_fr hk_531.fr ha_x (ex3 (gQ_12_1208 hO.1 ha_x)) (by decide +kernel) (by decide +kernel)) (zA_fr hk_531.fr ha_x (ex3 (gQ_12_1207 hO.1 ha_x)) (by decide +kernel) (by decide +kernel))
    have px_548 : PwX S S_530 x a1_z := PwX_cu (PwX_rf S x a1_z) hO.1 ha_x (zA_fr hk_531.fr ha_x (ex3 (gQ_12_1218 hO.1 ha_x)) (by decide +kernel) (by decide +kernel)) (zA_fr hk_531.fr ha_x (ex3 (gQ_12_1219 hO.1 ha_x)) (by decide +kernel) (by decide +kernel)) cu_534 (pw4 (fun _ => zA_fr hk_531.fr ha_x (ex3 (gQ_12_1214 hO.1 ha_x)) (by decide +kernel) (by decide +kernel)) (fun _ => zA_fr hk_531.fr ha_x (ex3 (gQ_12_1215 hO.1 ha_x)) (by decide +kernel) (by decide +kernel)) (fun _ => zA_fr hk_531.fr ha_x (ex3 (gQ_12_1216 hO.1 ha_x)) (by decide +kernel) (by decide +kernel)) (fun _ => zA_fr hk_531.fr ha_x (ex3 (gQ_12_1217 hO.1 ha_x)) (by decide +kernel) (by decide +kernel)) (fun h => absurd rfl h)) cc_535 cc_536 cc_537
    exact ret_v X hw hr hlocks (Nat.le_of_ble_eq_true rfl) (Nat.le_of_ble_eq_true rfl) ⟨hO_532, ⟨mi_533, fun hgr => (GR_set cu_534 (by omega) hgr), zm_539, (by rw [actF_4 (show ru.1.toInt = 4 by rw [fa_27]; have e1 : (v_25 : Int32).toInt = v_25.toInt := rfl; omega)]; exact (PotW_cut hO.1 ha_x (by omega) hp_6 pw_10 pw_13 cc_535 cc_536 cc_537 (by rw [cu_534, if_pos rfl]) rR_540 rR_541 rR_542 zR_543 zR_544 zR_545 zR_546 pz_547).1), px_548⟩⟩ dX12_acts_201
