
set_option maxHeartbeats 4000000 in
set_option maxRecDepth 100000 in
theorem k_X12_cuts5 (l : Launch) (G : va_G) (cy : Nat → ClassId) (κ : Nat → Nat) (S : PS) (sz : Nat) (x : Nat) (a1 : Int32) (a1_z : Int) (gQ : List Mt) (hG : GX S) (ha_x : At S x 12) (hz_a1 : a1.toInt = a1_z) (hp_0 : 0 ≤ a1_z) (hp_1 : a1_z ≤ 3) (hp_2 : MI S x) (hp_3 : GrW S x a1_z.toNat gQ) : Ci l yX12_cuts wsX12_cuts ({ frames := 6, cells := 0, slots := 0, locals := 288 }) G cy κ S sz [.ref x, .int (a1)] (fun (r : Int32) (S9 : PS) => Ok MCU S S9 ∧ (MI S9 x ∧ (∀ j, zA S9 x 1237 j = if j = (a1_z).toNat then 0 else zA S x 1237 j) ∧ (zA S x 1237 a1_z.toNat = 0 → r.toInt = -1 ∧ (pI S9 1238 x).toInt = (pI S 1238 x).toInt ∧ CuN S S9 x) ∧ (zA S x 1237 a1_z.toNat ≠ 0 → (pI S 1238 x).toInt < 40 → r.toInt = (pI S 1238 x).toInt ∧ (pI S9 1238 x).toInt = (pI S 1238 x).toInt + 1 ∧ CuO S S9 x a1_z) ∧ (zA S x 1237 a1_z.toNat ≠ 0 → ¬ (pI S 1238 x).toInt < 40 → r.toInt = -2 ∧ (pI S9 1238 x).toInt = (pI S 1238 x).toInt ∧ CuN S S9 x) ∧ CuW S S9 x a1_z gQ)) := by
  refine ent_m (cc := cX12_cuts) (maxL := 6) (ret := (some .int)) (by decide) rfl (Nat.le_of_ble_eq_true rfl) ?_
  intro p e s m below meth c ls X hr hlocks hin hw hl hsz
  subst hsz
  have X : Cx p c cX12_cuts 6 s [.ref x, .int (a1)].toArray wsX12_cuts RX12 m G cy κ (AS S s.heap.size) := X
  have hl : lv_has ls 6 [(0, .ref x), (1, .int (a1))] := hl
  have rg_a1 : (-2147483648) ≤ a1_z ∧ a1_z ≤ 2147483647 := by rw [← hz_a1]; exact ⟨z_lo _, z_hi _⟩
  have hO : Ok MCU S S := Ok.rf hG
  generalize hQQ : MQ below _ _ _ _ _ _ = QQ
  replace hQQ := hQQ.symm
  obtain ⟨v_1, ev_1⟩ : ∃ v, pI S 1238 x = v := ⟨_, rfl⟩
  have rg_2 := gI_12_1238 hO.1 ha_x; rw [ev_1] at rg_2
  have pz_3 : (pI S 1238 x).toInt = v_1.toInt := by rw [ev_1]
  have pz_4 : (pI S 1238 x).toInt = v_1.toInt := (congrArg Int32.toInt ev_1).trans rfl
  obtain ⟨v_5, ev_5⟩ : ∃ v, pI S 1245 x = v := ⟨_, rfl⟩
  have rg_7 := And.intro (z_lo v_5) (z_hi v_5)
  have pz_8 : (pI S 1245 x).toInt = v_5.toInt := by rw [ev_5]
  have pz_9 : (pI S 1245 x).toInt = v_5.toInt := (congrArg Int32.toInt ev_5).trans rfl
  obtain ⟨v_10, ev_10⟩ : ∃ v, pI S 1246 x = v := ⟨_, rfl⟩
  have rg_12 := And.intro (z_lo v_10) (z_hi v_10)
  have pz_13 : (pI S 1246 x).toInt = v_10.toInt := by rw [ev_10]
  have gq_14 := hp_3.1
  refine lv_aload_n X.1 X.2.1 dX12_cuts_0 rfl (lv_at hl 0 rfl) ?_
  obtain ⟨q_15, h_16, h_17, h_18⟩ := gQ_12_1237 hO.1 ha_x
  refine r_getR (g := 1237) X hw ha_x rfl 37 h_16 (by decide) rfl inn_X12_cuts_12 (by decide) (X.2.2.2.1 (.fieldLink RX12 97 "SilkMillModel" "grown" "[I") (by decide +kernel)) rfl (gv_1237 _ _) dX12_cuts_1 ?_
  refine lv_iload_n X.1 X.2.1 dX12_cuts_4 rfl (lv_at hl 1 rfl) ?_
  refine r_iald X hw h_17 rfl (by rw [h_18]; exact z_ix hz_a1 (by omega) (by omega)) dX12_cuts_5 ?_
  refine lv_topi (fun v_19 ev_19 => ?_)
  have z_20 := gE_954 hO.1 h_17 (Int32.toNatClampNeg (a1)); rw [← ev_19] at z_20
  have ev_19 := ev_19.symm
  have zf_21 : zA S x 1237 (a1_z).toNat = v_19.toInt := (zA_of h_16 hz_a1 (by omega) ev_19)
  refine lv_istore_n (lv' := [(2, .int (v_19)), (0, .ref x), (1, .int (a1))]) X.1 X.2.1 dX12_cuts_6 rfl hl (by decide) rfl (fun ls hl => ?_)
  refine lv_iload_n X.1 X.2.1 dX12_cuts_7 rfl (lv_at hl 0 rfl) ?_
  refine lv_if_ne (tgt := 13) X.1 X.2.1 dX12_cuts_8 (by decide) (fun c_22 => ?_) (fun c_22 => ?_)
  · have z_b_23 := trivial
    have k_24 : v_19.toInt ≠ 0 := z_ne rfl ti_0 c_22
    refine lv_aload_n X.1 X.2.1 dX12_cuts_13 rfl (lv_at hl 1 rfl) ?_
    refine r_getR (g := 1237) X hw ha_x rfl 37 h_16 (by decide) rfl inn_X12_cuts_12 (by decide) (X.2.2.2.1 (.fieldLink RX12 97 "SilkMillModel" "grown" "[I") (by decide +kernel)) rfl (gv_1237 _ _) dX12_cuts_14 ?_
    refine lv_iload_n X.1 X.2.1 dX12_cuts_17 rfl (lv_at hl 2 rfl) ?_
    refine lv_iconst (v := 0) X.1 X.2.1 dX12_cuts_18 (by decide) ?_
    refine r_iast X hw h_17 rfl (by rw [h_18]; exact z_ix hz_a1 (by omega) (by omega)) dX12_cuts_19 (fun H locs hw => ?_)
    obtain ⟨S_25, eS_25⟩ : ∃ T, T = sA S q_15 (upd (pA S q_15) (Int32.toNatClampNeg (a1)) (0)) := ⟨_, rfl⟩
    rw [← eS_25] at hw
    have hO_26 : Ok MCU S S_25 := hO.sA eS_25 h_17 (by decide +kernel) (uA_954 hO.1 h_17 (by rw [ti_0]; omega) (by rw [ti_0]; omega))
    have h_27 : pA S_25 q_15 (Int32.toNatClampNeg (a1)) = 0 := tA_sAs eS_25
    have t_28 : pR S_25 1237 x = some q_15 := tR_sA eS_25 h_16
    have t_30 : pR S 1237 x = some q_15 := by have h := t_28; rw [eS_25, pR_sA] at h; exact h
    have zs_29 : ∀ j, zA S_25 x 1237 j = if j = (a1_z).toNat then 0 else zA S x 1237 j := by have h := zA_sAs eS_25 t_30 ti_0; rw [z_nc hz_a1 (by omega)] at h; exact h
    refine lv_aload_n X.1 X.2.1 dX12_cuts_20 rfl (lv_at hl 1 rfl) ?_
    have t_31 : At S_25 x 12 := tAt_sA eS_25 ha_x
    have t_32 : pI S_25 1238 x = v_1 := tI_sA eS_25 ev_1
    refine r_getI (g := 1238) (x := v_1) X hw t_31 rfl 38 t_32 (by decide) rfl inn_X12_cuts_12 (by decide) (X.2.2.2.1 (.fieldLink RX12 290 "SilkMillModel" "skeins" "I") (by decide +kernel)) rfl (gv_1238 _ _) dX12_cuts_21 ?_
    refine lv_bipush (v := 40) X.1 X.2.1 dX12_cuts_24 (by decide) ?_
    refine lv_icmp_ne (tgt := 51) X.1 X.2.1 dX12_cuts_26 (by decide) (fun c_33 => ?_) (fun c_33 => ?_)
    · have z_b_34 := trivial
      have k_35 : v_1.toInt ≠ 40 := z_ne rfl ti_40 c_33
      refine lv_aload_n X.1 X.2.1 dX12_cuts_51 rfl (lv_at hl 1 rfl) ?_
      obtain ⟨q_36, h_37, h_38, h_39⟩ := gQ_12_1239 hO_26.1 t_31
      refine r_getR (g := 1239) X hw t_31 rfl 39 h_37 (by decide) rfl inn_X12_cuts_12 (by decide) (X.2.2.2.1 (.fieldLink RX12 100 "SilkMillModel" "firstMetre" "[I") (by decide +kernel)) rfl (gv_1239 _ _) dX12_cuts_52 ?_
      refine lv_aload_n X.1 X.2.1 dX12_cuts_55 rfl (lv_at hl 1 rfl) ?_
      refine r_getI (g := 1238) (x := v_1) X hw t_31 rfl 38 t_32 (by decide) rfl inn_X12_cuts_12 (by decide) (X.2.2.2.1 (.fieldLink RX12 290 "SilkMillModel" "skeins" "I") (by decide +kernel)) rfl (gv_1238 _ _) dX12_cuts_56 ?_
      refine r_iald X hw h_38 rfl (by rw [h_39]; exact z_ix rfl (by omega) (by omega)) dX12_cuts_59 ?_
      refine lv_topi (fun v_40 ev_40 => ?_)
      have z_41 := gE_994 hO_26.1 h_38 (Int32.toNatClampNeg (v_1)); rw [← ev_40] at z_41
      have ev_40 := ev_40.symm
      have zf_42 : zA S_25 x 1239 (v_1.toInt).toNat = v_40.toInt := (zA_of h_37 rfl (by omega) ev_40)
      have pz_44 : (pI S_25 1238 x).toInt = v_1.toInt := (congrArg Int32.toInt t_32).trans rfl
      have mi_45 : MIe S_25 x (-1) := MIe_37 hp_2 hO.1 ha_x h_17 eS_25
      have m7_43 := MI_7' mi_45 (k := v_1.toInt) (by omega) (by omega); rw [zf_42] at m7_43
      have zc_46 : zA S_25 x 1239 = zA S x 1239 := zA_sAn eS_25 (ex3 (gQ_12_1239 hO.1 ha_x)) h_17 rfl
      refine lv_istore_n (lv' := [(3, .int (v_40)), (2, .int (v_19)), (0, .ref x), (1, .int (a1))]) X.1 X.2.1 dX12_cuts_60 rfl hl (by decide) rfl (fun ls hl => ?_)
      refine lv_iconst (v := 0) X.1 X.2.1 dX12_cuts_61 (by decide) ?_
      refine lv_istore (lv' := [(4, .int 0), (3, .int (v_40)), (2, .int (v_19)), (0, .ref x), (1, .int (a1))]) X.1 X.2.1 dX12_cuts_62 hl (by decide) rfl (fun ls hl => ?_)
      have zc_53 : zA S_25 x 1240 = zA S x 1240 := zA_sAn eS_25 (ex3 (gQ_12_1240 hO.1 ha_x)) h_17 rfl
      have zc_55 : zA S_25 x 1241 = zA S x 1241 := zA_sAn eS_25 (ex3 (gQ_12_1241 hO.1 ha_x)) h_17 rfl
      have zc_57 : zA S_25 x 1242 = zA S x 1242 := zA_sAn eS_25 (ex3 (gQ_12_1242 hO.1 ha_x)) h_17 rfl
      have t_63 : pI S_25 1246 x = v_10 := tI_sA eS_25 ev_10
      have L_47 : ∀ (n : Nat) (T_49 : PS) (H : Heap) (locs : List Loc) (ls : Array Slot) (i4_48 : Int32) (i4_48_z : Int), ((300 - i4_48_z).toNat = n) → (Wd G cy (AS S s.heap.size) s.heap T_49 H locs) → (i4_48.toInt = i4_48_z) → (0 ≤ i4_48_z ∧ i4_48_z ≤ 300) → (At T_49 x 12) → (Ok MCU S T_49) → (zA T_49 x 1237 = zA S_25 x 1237) → (zA T_49 x 1239 = zA S x 1239) → (zA T_49 x 1240 = zA S x 1240) → (zA T_49 x 1241 = zA S x 1241) → (zA T_49 x 1242 = zA S x 1242) → (MIe T_49 x (-1)) → (CuP S T_49 x (v_40.toInt) (12000 + 300 * a1_z) i4_48_z (12 * i4_48_z)) → (i4_48_z ≤ v_19.toInt) → (pI T_49 1238 x = v_1) → (pI T_49 1246 x = v_10) → (lv_has ls 6 [(4, .int (i4_48)), (3, .int (v_40)), (2, .int (v_19)), (0, .ref x), (1, .int (a1))]) → W p l e ({ frames := 6, cells := 0, slots := 0, locals := 288 }) s m [.ref x, .int (a1)].toArray below meth c H locs 0 0 QQ (F0 m 64 ls []) := by
        intro n
        induction n using Nat.strongRecOn with
        | ind n ih_L_47 =>
        intro T_49 H locs ls i4_48 i4_48_z hn hw hz_i4_48 hr_i4_48 ha_x_L_50 hO_T_49 zk_51 zk_52 zk_54 zk_56 zk_58 mk_59 iv_60 iv_61 ik_62 ik_64 hl
        have rg_65 : (-2147483648) ≤ i4_48_z ∧ i4_48_z ≤ 2147483647 := by rw [← hz_i4_48]; exact ⟨z_lo _, z_hi _⟩
        have pz_66 : (pI T_49 1238 x).toInt = v_1.toInt := (congrArg Int32.toInt ik_62).trans rfl
        have pz_67 : (pI T_49 1246 x).toInt = v_10.toInt := (congrArg Int32.toInt ik_64).trans rfl
        refine lv_iload X.1 X.2.1 dX12_cuts_64 (lv_at hl 0 rfl) ?_
        refine lv_iload_n X.1 X.2.1 dX12_cuts_66 rfl (lv_at hl 2 rfl) ?_
        refine lv_icmp_ge (tgt := 148) X.1 X.2.1 dX12_cuts_67 (by decide) (fun c_68 => ?_) (fun c_68 => ?_)
        · have z_b_69 := trivial
          have k_70 : i4_48_z ≥ v_19.toInt := z_le rfl hz_i4_48 c_68
          refine lv_aload_n X.1 X.2.1 dX12_cuts_148 rfl (lv_at hl 3 rfl) ?_
          obtain ⟨q_71, h_72, h_73, h_74⟩ := gQ_12_1240 hO_T_49.1 ha_x_L_50
          refine r_getR (g := 1240) X hw ha_x_L_50 rfl 40 h_72 (by decide) rfl inn_X12_cuts_12 (by decide) (X.2.2.2.1 (.fieldLink RX12 103 "SilkMillModel" "skeinPot" "[I") (by decide +kernel)) rfl (gv_1240 _ _) dX12_cuts_149 ?_
          refine lv_aload_n X.1 X.2.1 dX12_cuts_152 rfl (lv_at hl 3 rfl) ?_
          refine r_getI (g := 1238) (x := v_1) X hw ha_x_L_50 rfl 38 ik_62 (by decide) rfl inn_X12_cuts_12 (by decide) (X.2.2.2.1 (.fieldLink RX12 290 "SilkMillModel" "skeins" "I") (by decide +kernel)) rfl (gv_1238 _ _) dX12_cuts_153 ?_
          refine lv_iload_n X.1 X.2.1 dX12_cuts_156 rfl (lv_at hl 4 rfl) ?_
          refine r_iast X hw h_73 rfl (by rw [h_74]; exact z_ix rfl (by omega) (by omega)) dX12_cuts_157 (fun H locs hw => ?_)
          obtain ⟨S_75, eS_75⟩ : ∃ T, T = sA T_49 q_71 (upd (pA T_49 q_71) (Int32.toNatClampNeg (v_1)) (a1)) := ⟨_, rfl⟩
          rw [← eS_75] at hw
          have hO_76 : Ok MCU S S_75 := hO_T_49.sA eS_75 h_73 (by decide +kernel) (uA_1014 hO_T_49.1 h_73)
          have h_77 : pA S_75 q_71 (Int32.toNatClampNeg (v_1)) = a1 := tA_sAs eS_75
          have t_78 : pR S_75 1240 x = some q_71 := tR_sA eS_75 h_72
          have t_80 : pR T_49 1240 x = some q_71 := by have h := t_78; rw [eS_75, pR_sA] at h; exact h
          have zs_79 : ∀ j, zA S_75 x 1240 j = if j = (v_1.toInt).toNat then a1_z else zA T_49 x 1240 j := by have h := zA_sAs eS_75 t_80 hz_a1; rw [z_nc rfl (by omega)] at h; exact h
          have zs_81 : ∀ j, zA S_75 x 1240 j = if j = (v_1.toInt).toNat then a1_z else zA S x 1240 j := fun j => by rw [zs_79 j, zk_54]
          refine lv_aload_n X.1 X.2.1 dX12_cuts_158 rfl (lv_at hl 3 rfl) ?_
          have t_82 : At S_75 x 12 := tAt_sA eS_75 ha_x_L_50
          obtain ⟨q_83, h_84, h_85, h_86⟩ := gQ_12_1241 hO_76.1 t_82
          refine r_getR (g := 1241) X hw t_82 rfl 41 h_84 (by decide) rfl inn_X12_cuts_12 (by decide) (X.2.2.2.1 (.fieldLink RX12 106 "SilkMillModel" "skeinDay" "[I") (by decide +kernel)) rfl (gv_1241 _ _) dX12_cuts_159 ?_
          refine lv_aload_n X.1 X.2.1 dX12_cuts_162 rfl (lv_at hl 3 rfl) ?_
          have t_87 : pI S_75 1238 x = v_1 := tI_sA eS_75 ik_62
          refine r_getI (g := 1238) (x := v_1) X hw t_82 rfl 38 t_87 (by decide) rfl inn_X12_cuts_12 (by decide) (X.2.2.2.1 (.fieldLink RX12 290 "SilkMillModel" "skeins" "I") (by decide +kernel)) rfl (gv_1238 _ _) dX12_cuts_163 ?_
          refine lv_aload_n X.1 X.2.1 dX12_cuts_166 rfl (lv_at hl 3 rfl) ?_
          obtain ⟨v_88, ev_88⟩ : ∃ v, pI S_75 1245 x = v := ⟨_, rfl⟩
          have rg_90 := And.intro (z_lo v_88) (z_hi v_88)
          have pz_91 : (pI S_75 1245 x).toInt = v_88.toInt := by rw [ev_88]
          refine r_getI (g := 1245) (x := v_88) X hw t_82 rfl 45 ev_88 (by decide) rfl inn_X12_cuts_12 (by decide) (X.2.2.2.1 (.fieldLink RX12 302 "SilkMillModel" "today" "I") (by decide +kernel)) rfl (gv_1245 _ _) dX12_cuts_167 ?_
          refine r_iast X hw h_85 rfl (by rw [h_86]; exact z_ix rfl (by omega) (by omega)) dX12_cuts_170 (fun H locs hw => ?_)
          obtain ⟨S_92, eS_92⟩ : ∃ T, T = sA S_75 q_83 (upd (pA S_75 q_83) (Int32.toNatClampNeg (v_1)) (v_88)) := ⟨_, rfl⟩
          rw [← eS_92] at hw
          have hO_93 : Ok MCU S S_92 := hO_76.sA eS_92 h_85 (by decide +kernel) (uA_1034 hO_76.1 h_85)
          have h_94 : pA S_92 q_83 (Int32.toNatClampNeg (v_1)) = v_88 := tA_sAs eS_92
          have zc_95 : zA S_75 x 1241 = zA S x 1241 := (zA_sAn eS_75 (ex3 (gQ_12_1241 hO_T_49.1 ha_x_L_50)) h_73 rfl).trans zk_56
          have t_96 : pR S_92 1241 x = some q_83 := tR_sA eS_92 h_84
          have t_98 : pR S_75 1241 x = some q_83 := by have h := t_96; rw [eS_92, pR_sA] at h; exact h
          have zs_97 : ∀ j, zA S_92 x 1241 j = if j = (v_1.toInt).toNat then v_88.toInt else zA S_75 x 1241 j := by have h := zA_sAs eS_92 t_98 rfl; rw [z_nc rfl (by omega)] at h; exact h
          have zs_99 : ∀ j, zA S_92 x 1241 j = if j = (v_1.toInt).toNat then v_88.toInt else zA S x 1241 j := fun j => by rw [zs_97 j, zc_95]
          refine lv_aload_n X.1 X.2.1 dX12_cuts_171 rfl (lv_at hl 3 rfl) ?_
          have t_100 : At S_92 x 12 := tAt_sA eS_92 t_82
          obtain ⟨q_101, h_102, h_103, h_104⟩ := gQ_12_1242 hO_93.1 t_100
          refine r_getR (g := 1242) X hw t_100 rfl 42 h_102 (by decide) rfl inn_X12_cuts_12 (by decide) (X.2.2.2.1 (.fieldLink RX12 109 "SilkMillModel" "skeinAim" "[I") (by decide +kernel)) rfl (gv_1242 _ _) dX12_cuts_172 ?_
          refine lv_aload_n X.1 X.2.1 dX12_cuts_175 rfl (lv_at hl 3 rfl) ?_
          have t_105 : pI S_92 1238 x = v_1 := tI_sA eS_92 t_87
          refine r_getI (g := 1238) (x := v_1) X hw t_100 rfl 38 t_105 (by decide) rfl inn_X12_cuts_12 (by decide) (X.2.2.2.1 (.fieldLink RX12 290 "SilkMillModel" "skeins" "I") (by decide +kernel)) rfl (gv_1238 _ _) dX12_cuts_176 ?_
          refine lv_aload_n X.1 X.2.1 dX12_cuts_179 rfl (lv_at hl 3 rfl) ?_
          obtain ⟨q_106, h_107, h_108, h_109⟩ := gQ_12_1212 hO_93.1 t_100
          refine r_getR (g := 1212) X hw t_100 rfl 12 h_107 (by decide) rfl inn_X12_cuts_12 (by decide) (X.2.2.2.1 (.fieldLink RX12 37 "SilkMillModel" "aim" "[I") (by decide +kernel)) rfl (gv_1212 _ _) dX12_cuts_180 ?_
          refine lv_iload_n X.1 X.2.1 dX12_cuts_183 rfl (lv_at hl 4 rfl) ?_
          refine r_iald X hw h_108 rfl (by rw [h_109]; exact z_ix hz_a1 (by omega) (by omega)) dX12_cuts_184 ?_
          refine lv_topi (fun v_110 ev_110 => ?_)
          have rg_111 := And.intro (z_lo v_110) (z_hi v_110)
          have ev_110 := ev_110.symm
          have zf_112 : zA S_92 x 1212 (a1_z).toNat = v_110.toInt := (zA_of h_107 hz_a1 (by omega) ev_110)
          have am_113 : zA S x 1212 a1_z.toNat = v_110.toInt := by rw [show a1_z.toNat = (a1_z).toNat by omega]; exact (congrFun (zA_fr hO_93.fr ha_x (ex3 (gQ_12_1212 hG ha_x)) (by decide +kernel) (by decide +kernel)) _).symm.trans zf_112
          refine r_iast X hw h_103 rfl (by rw [h_104]; exact z_ix rfl (by omega) (by omega)) dX12_cuts_185 (fun H locs hw => ?_)
          obtain ⟨S_114, eS_114⟩ : ∃ T, T = sA S_92 q_101 (upd (pA S_92 q_101) (Int32.toNatClampNeg (v_1)) (v_110)) := ⟨_, rfl⟩
          rw [← eS_114] at hw
          have hO_115 : Ok MCU S S_114 := hO_93.sA eS_114 h_103 (by decide +kernel) (uA_1054 hO_93.1 h_103)
          have h_116 : pA S_114 q_101 (Int32.toNatClampNeg (v_1)) = v_110 := tA_sAs eS_114
          have zc_117 : zA S_75 x 1242 = zA S x 1242 := (zA_sAn eS_75 (ex3 (gQ_12_1242 hO_T_49.1 ha_x_L_50)) h_73 rfl).trans zk_58
          have zc_118 : zA S_92 x 1242 = zA S x 1242 := (zA_sAn eS_92 (ex3 (gQ_12_1242 hO_76.1 t_82)) h_85 rfl).trans zc_117
          have t_119 : pR S_114 1242 x = some q_101 := tR_sA eS_114 h_102
          have t_121 : pR S_92 1242 x = some q_101 := by have h := t_119; rw [eS_114, pR_sA] at h; exact h
          have zs_120 : ∀ j, zA S_114 x 1242 j = if j = (v_1.toInt).toNat then v_110.toInt else zA S_92 x 1242 j := by have h := zA_sAs eS_114 t_121 rfl; rw [z_nc rfl (by omega)] at h; exact h
          have zs_122 : ∀ j, zA S_114 x 1242 j = if j = (v_1.toInt).toNat then v_110.toInt else zA S x 1242 j := fun j => by rw [zs_120 j, zc_118]
          refine lv_aload_n X.1 X.2.1 dX12_cuts_186 rfl (lv_at hl 3 rfl) ?_
          have t_123 : At S_114 x 12 := tAt_sA eS_114 t_100
          obtain ⟨q_124, h_125, h_126, h_127⟩ := gQ_12_1243 hO_115.1 t_123
          refine r_getR (g := 1243) X hw t_123 rfl 43 h_125 (by decide) rfl inn_X12_cuts_12 (by decide) (X.2.2.2.1 (.fieldLink RX12 112 "SilkMillModel" "skeinGrade" "[I") (by decide +kernel)) rfl (gv_1243 _ _) dX12_cuts_187 ?_
          refine lv_aload_n X.1 X.2.1 dX12_cuts_190 rfl (lv_at hl 3 rfl) ?_
          have t_128 : pI S_114 1238 x = v_1 := tI_sA eS_114 t_105
          refine r_getI (g := 1238) (x := v_1) X hw t_123 rfl 38 t_128 (by decide) rfl inn_X12_cuts_12 (by decide) (X.2.2.2.1 (.fieldLink RX12 290 "SilkMillModel" "skeins" "I") (by decide +kernel)) rfl (gv_1238 _ _) dX12_cuts_191 ?_
          refine lv_iconst (v := (-1)) X.1 X.2.1 dX12_cuts_194 (by decide) ?_
          refine r_iast X hw h_126 rfl (by rw [h_127]; exact z_ix rfl (by omega) (by omega)) dX12_cuts_195 (fun H locs hw => ?_)
          obtain ⟨S_129, eS_129⟩ : ∃ T, T = sA S_114 q_124 (upd (pA S_114 q_124) (Int32.toNatClampNeg (v_1)) ((-1))) := ⟨_, rfl⟩
          rw [← eS_129] at hw
          have hO_130 : Ok MCU S S_129 := hO_115.sA eS_129 h_126 (by decide +kernel) (uA_1074 hO_115.1 h_126 (by rw [ti_m1]; omega) (by rw [ti_m1]; omega))
          have h_131 : pA S_129 q_124 (Int32.toNatClampNeg (v_1)) = (-1) := tA_sAs eS_129
          refine lv_aload_n X.1 X.2.1 dX12_cuts_196 rfl (lv_at hl 3 rfl) ?_
          have t_132 : At S_129 x 12 := tAt_sA eS_129 t_123
          obtain ⟨q_133, h_134, h_135, h_136⟩ := gQ_12_1244 hO_130.1 t_132
          refine r_getR (g := 1244) X hw t_132 rfl 44 h_134 (by decide) rfl inn_X12_cuts_12 (by decide) (X.2.2.2.1 (.fieldLink RX12 115 "SilkMillModel" "isSold" "[Z") (by decide +kernel)) rfl (gv_1244 _ _) dX12_cuts_197 ?_
          refine lv_aload_n X.1 X.2.1 dX12_cuts_200 rfl (lv_at hl 3 rfl) ?_
          have t_137 : pI S_129 1238 x = v_1 := tI_sA eS_129 t_128
          refine r_getI (g := 1238) (x := v_1) X hw t_132 rfl 38 t_137 (by decide) rfl inn_X12_cuts_12 (by decide) (X.2.2.2.1 (.fieldLink RX12 290 "SilkMillModel" "skeins" "I") (by decide +kernel)) rfl (gv_1238 _ _) dX12_cuts_201 ?_
          refine lv_iconst (v := 0) X.1 X.2.1 dX12_cuts_204 (by decide) ?_
          refine r_zast X hw h_135 rfl (by rw [h_136]; exact z_ix rfl (by omega) (by omega)) dX12_cuts_205 (fun H locs hw => ?_)
          obtain ⟨S_138, eS_138⟩ : ∃ T, T = sA S_129 q_133 (upd (pA S_129 q_133) (Int32.toNatClampNeg (v_1)) (vp_nar .boolean (0))) := ⟨_, rfl⟩
          rw [← eS_138] at hw
          have hO_139 : Ok MCU S S_138 := hO_130.sA eS_138 h_135 (by decide +kernel) (uA_1095 hO_130.1 h_135)
          refine lv_aload_n X.1 X.2.1 dX12_cuts_206 rfl (lv_at hl 3 rfl) ?_
          refine lv_dup X.1 X.2.1 dX12_cuts_207 rfl ?_
          have t_140 : At S_138 x 12 := tAt_sA eS_138 t_132
          have t_141 : pI S_138 1238 x = v_1 := tI_sA eS_138 t_137
          refine r_getI (g := 1238) (x := v_1) X hw t_140 rfl 38 t_141 (by decide) rfl inn_X12_cuts_12 (by decide) (X.2.2.2.1 (.fieldLink RX12 290 "SilkMillModel" "skeins" "I") (by decide +kernel)) rfl (gv_1238 _ _) dX12_cuts_208 ?_
          refine lv_iconst (v := 1) X.1 X.2.1 dX12_cuts_211 (by decide) ?_
          refine lv_iadd X.1 X.2.1 dX12_cuts_212 ?_
          refine lv_topi (fun v_142 ev_142 => ?_)
          have z_143 : v_142.toInt = v_1.toInt + 1 := z_add ev_142 rfl ti_1 (by omega) (by omega)
          have mi_144 : MIe S_75 x (-1) := MIe_sA mk_59 hO_T_49.1 ha_x_L_50 h_73 eS_75 (by decide +kernel)
          have mi_145 : MIe S_92 x (-1) := MIe_sA mi_144 hO_76.1 t_82 h_85 eS_92 (by decide +kernel)
          have mi_146 : MIe S_114 x (-1) := MIe_sA mi_145 hO_93.1 t_100 h_103 eS_114 (by decide +kernel)
          have mi_147 : MIe S_129 x (-1) := MIe_sA mi_146 hO_115.1 t_123 h_126 eS_129 (by decide +kernel)
          have mi_148 : MIe S_138 x (-1) := MIe_sA mi_147 hO_130.1 t_132 h_135 eS_138 (by decide +kernel)
          have pz_149 : (pI S_138 1238 x).toInt = v_1.toInt := (congrArg Int32.toInt t_141).trans rfl
          have zc_150 : zA S_75 x 1239 = zA S x 1239 := (zA_sAn eS_75 (ex3 (gQ_12_1239 hO_T_49.1 ha_x_L_50)) h_73 rfl).trans zk_52
          have zc_151 : zA S_92 x 1239 = zA S x 1239 := (zA_sAn eS_92 (ex3 (gQ_12_1239 hO_76.1 t_82)) h_85 rfl).trans zc_150
          have zc_152 : zA S_114 x 1239 = zA S x 1239 := (zA_sAn eS_114 (ex3 (gQ_12_1239 hO_93.1 t_100)) h_103 rfl).trans zc_151
          have zc_153 : zA S_129 x 1239 = zA S x 1239 := (zA_sAn eS_129 (ex3 (gQ_12_1239 hO_115.1 t_123)) h_126 rfl).trans zc_152
          have zc_154 : zA S_138 x 1239 = zA S x 1239 := (zA_sAn eS_138 (ex3 (gQ_12_1239 hO_130.1 t_132)) h_135 rfl).trans zc_153
          refine r_putI (v := v_142) X hw t_140 rfl 38 1238 tyX12 (by decide) rfl inn_X12_cuts_12 tyX12_ok nmX12 (by decide) (X.2.2.2.1 (.fieldLink RX12 290 "SilkMillModel" "skeins" "I") (by decide +kernel)) rfl (Or.inl rfl) rfl rfl (Nat.le_of_ble_eq_true rfl) (st_1238 _ _) dX12_cuts_213 (fun H locs hw => ?_)
          obtain ⟨S_155, eS_155⟩ : ∃ T, T = sI S_138 1238 x (v_142) := ⟨_, rfl⟩
          rw [← eS_155] at hw
          have hO_156 : Ok MCU S S_155 := hO_139.sI eS_155 (by decide +kernel) (uI_12_1238 hO_139.1 t_140 (by omega) (by omega))
          have h_157 : pI S_155 1238 x = v_142 := tI_sIs eS_155
          refine lv_aload_n X.1 X.2.1 dX12_cuts_216 rfl (lv_at hl 3 rfl) ?_
          have t_158 : At S_155 x 12 := tAt_sI eS_155 t_140
          obtain ⟨q_159, h_160, h_161, h_162⟩ := gQ_12_1239 hO_156.1 t_158
          refine r_getR (g := 1239) X hw t_158 rfl 39 h_160 (by decide) rfl inn_X12_cuts_12 (by decide) (X.2.2.2.1 (.fieldLink RX12 100 "SilkMillModel" "firstMetre" "[I") (by decide +kernel)) rfl (gv_1239 _ _) dX12_cuts_217 ?_
          refine lv_aload_n X.1 X.2.1 dX12_cuts_220 rfl (lv_at hl 3 rfl) ?_
          refine r_getI (g := 1238) (x := v_142) X hw t_158 rfl 38 h_157 (by decide) rfl inn_X12_cuts_12 (by decide) (X.2.2.2.1 (.fieldLink RX12 290 "SilkMillModel" "skeins" "I") (by decide +kernel)) rfl (gv_1238 _ _) dX12_cuts_221 ?_
          refine lv_iload_n X.1 X.2.1 dX12_cuts_224 rfl (lv_at hl 1 rfl) ?_
          refine lv_iload_n X.1 X.2.1 dX12_cuts_225 rfl (lv_at hl 2 rfl) ?_
          refine lv_iadd X.1 X.2.1 dX12_cuts_226 ?_
          refine lv_topi (fun v_163 ev_163 => ?_)
          have z_164 : v_163.toInt = v_40.toInt + v_19.toInt := z_add ev_163 rfl rfl (by omega) (by omega)
          refine r_iast X hw h_161 rfl (by rw [h_162]; exact z_ix z_143 (by omega) (by omega)) dX12_cuts_227 (fun H locs hw => ?_)
          obtain ⟨S_165, eS_165⟩ : ∃ T, T = sA S_155 q_159 (upd (pA S_155 q_159) (Int32.toNatClampNeg (v_142)) (v_163)) := ⟨_, rfl⟩
          rw [← eS_165] at hw
          have hO_166 : Ok MCU S S_165 := hO_156.sA eS_165 h_161 (by decide +kernel) (uA_994 hO_156.1 h_161 (by omega) (by omega))
          have h_167 : pA S_165 q_159 (Int32.toNatClampNeg (v_142)) = v_163 := tA_sAs eS_165
          have t_168 : pR S_165 1239 x = some q_159 := tR_sA eS_165 h_160
          have t_170 : pR S_155 1239 x = some q_159 := by have h := t_168; rw [eS_165, pR_sA] at h; exact h
          have zs_169 : ∀ j, zA S_165 x 1239 j = if j = ((v_1.toInt + 1)).toNat then (v_40.toInt + v_19.toInt) else zA S_155 x 1239 j := by have h := zA_sAs eS_165 t_170 z_164; rw [z_nc z_143 (by omega)] at h; exact h
          have hA13 : (pI S_138 1238 x).toInt = v_1.toInt := by omega
          have hB13 : zA S_138 x 1239 (v_1.toInt).toNat = v_40.toInt := (congrFun zc_154 _).trans ((congrFun zc_46 _).symm.trans zf_42)
          have t_172 : pI S_165 1238 x = v_142 := tI_sA eS_165 h_157
          have mi_171 : MIe S_165 x (-1) := cut_MI (n := v_19.toInt) hO_139.1 t_140 ((show Fr [1238, 10994] S_138 S_155 by rw [eS_155]; exact Fr_sI (by decide)).trans (show Fr [1238, 10994] S_155 S_165 by rw [eS_165]; exact Fr_sA h_161 (by decide))) mi_148 (by omega) (by omega) (by omega) (by rw [t_172]; omega) (fun j => by rw [zs_169 j, zA_sI eS_155, hA13, hB13, show ((v_1.toInt + 1)).toNat = (v_1.toInt + 1).toNat by omega])
          have zc_173 : zA S_155 x 1239 = zA S x 1239 := (zA_sI eS_155).trans zc_154
          have t_175 : pR S_155 1239 x = some q_159 := by have h := t_168; rw [eS_165, pR_sA] at h; exact h
          have zs_174 : ∀ j, zA S_165 x 1239 j = if j = ((v_1.toInt + 1)).toNat then (v_40.toInt + v_19.toInt) else zA S_155 x 1239 j := by have h := zA_sAs eS_165 t_175 z_164; rw [z_nc z_143 (by omega)] at h; exact h
          have zs_176 : ∀ j, zA S_165 x 1239 j = if j = ((v_1.toInt + 1)).toNat then (v_40.toInt + v_19.toInt) else zA S x 1239 j := fun j => by rw [zs_174 j, zc_173]
          refine lv_aload_n X.1 X.2.1 dX12_cuts_228 rfl (lv_at hl 3 rfl) ?_
          have t_177 : At S_165 x 12 := tAt_sA eS_165 t_158
          refine r_getI (g := 1238) (x := v_142) X hw t_177 rfl 38 t_172 (by decide) rfl inn_X12_cuts_12 (by decide) (X.2.2.2.1 (.fieldLink RX12 290 "SilkMillModel" "skeins" "I") (by decide +kernel)) rfl (gv_1238 _ _) dX12_cuts_229 ?_
          refine lv_iconst (v := 1) X.1 X.2.1 dX12_cuts_232 (by decide) ?_
          refine lv_isub X.1 X.2.1 dX12_cuts_233 ?_
          refine lv_topi (fun v_178 ev_178 => ?_)
          have z_179 : v_178.toInt = (v_1.toInt + 1) - 1 := z_sub ev_178 z_143 ti_1 (by omega) (by omega)
          have zc_180 : zA S_75 x 1237 = zA S_25 x 1237 := (zA_sAn eS_75 (ex3 (gQ_12_1237 hO_T_49.1 ha_x_L_50)) h_73 rfl).trans zk_51
          have zc_181 : zA S_92 x 1237 = zA S_25 x 1237 := (zA_sAn eS_92 (ex3 (gQ_12_1237 hO_76.1 t_82)) h_85 rfl).trans zc_180
          have zc_182 : zA S_114 x 1237 = zA S_25 x 1237 := (zA_sAn eS_114 (ex3 (gQ_12_1237 hO_93.1 t_100)) h_103 rfl).trans zc_181
          have zc_183 : zA S_129 x 1237 = zA S_25 x 1237 := (zA_sAn eS_129 (ex3 (gQ_12_1237 hO_115.1 t_123)) h_126 rfl).trans zc_182
          have zc_184 : zA S_138 x 1237 = zA S_25 x 1237 := (zA_sAn eS_138 (ex3 (gQ_12_1237 hO_130.1 t_132)) h_135 rfl).trans zc_183
          have zc_185 : zA S_155 x 1237 = zA S_25 x 1237 := (zA_sI eS_155).trans zc_184
          have zc_186 : zA S_165 x 1237 = zA S_25 x 1237 := (zA_sAn eS_165 (ex3 (gQ_12_1237 hO_156.1 t_158)) h_161 rfl).trans zc_185
          have zs_187 : ∀ j, zA S_165 x 1237 j = if j = (a1_z).toNat then 0 else zA S x 1237 j := fun j => by rw [zc_186]; exact zs_29 j
          have pz_188 : (pI S_165 1238 x).toInt = (v_1.toInt + 1) := (congrArg Int32.toInt t_172).trans z_143
          have t_189 : pI S_75 1246 x = v_10 := tI_sA eS_75 ik_64
          have t_190 : pI S_92 1246 x = v_10 := tI_sA eS_92 t_189
          have t_191 : pI S_114 1246 x = v_10 := tI_sA eS_114 t_190
          have t_192 : pI S_129 1246 x = v_10 := tI_sA eS_129 t_191
          have t_193 : pI S_138 1246 x = v_10 := tI_sA eS_138 t_192
          have t_194 : pI S_155 1246 x = v_10 := tI_sI eS_155 rfl t_193
          have t_195 : pI S_165 1246 x = v_10 := tI_sA eS_165 t_194
          have cp_196 : CuP S S_75 x (v_40.toInt) (12000 + 300 * a1_z) (i4_48_z) (12 * i4_48_z) := CuP_to (zA_sAn eS_75 (ex3 (gQ_12_1235 hO_T_49.1 ha_x_L_50)) h_73 rfl) (zA_sAn eS_75 (ex3 (gQ_12_1236 hO_T_49.1 ha_x_L_50)) h_73 rfl) iv_60
          have cp_197 : CuP S S_92 x (v_40.toInt) (12000 + 300 * a1_z) (i4_48_z) (12 * i4_48_z) := CuP_to (zA_sAn eS_92 (ex3 (gQ_12_1235 hO_76.1 t_82)) h_85 rfl) (zA_sAn eS_92 (ex3 (gQ_12_1236 hO_76.1 t_82)) h_85 rfl) cp_196
          have cp_198 : CuP S S_114 x (v_40.toInt) (12000 + 300 * a1_z) (i4_48_z) (12 * i4_48_z) := CuP_to (zA_sAn eS_114 (ex3 (gQ_12_1235 hO_93.1 t_100)) h_103 rfl) (zA_sAn eS_114 (ex3 (gQ_12_1236 hO_93.1 t_100)) h_103 rfl) cp_197
          have cp_199 : CuP S S_129 x (v_40.toInt) (12000 + 300 * a1_z) (i4_48_z) (12 * i4_48_z) := CuP_to (zA_sAn eS_129 (ex3 (gQ_12_1235 hO_115.1 t_123)) h_126 rfl) (zA_sAn eS_129 (ex3 (gQ_12_1236 hO_115.1 t_123)) h_126 rfl) cp_198
          have cp_200 : CuP S S_138 x (v_40.toInt) (12000 + 300 * a1_z) (i4_48_z) (12 * i4_48_z) := CuP_to (zA_sAn eS_138 (ex3 (gQ_12_1235 hO_130.1 t_132)) h_135 rfl) (zA_sAn eS_138 (ex3 (gQ_12_1236 hO_130.1 t_132)) h_135 rfl) cp_199
          have cp_201 : CuP S S_155 x (v_40.toInt) (12000 + 300 * a1_z) (i4_48_z) (12 * i4_48_z) := CuP_to (zA_sI eS_155) (zA_sI eS_155) cp_200
          have cp_202 : CuP S S_165 x (v_40.toInt) (12000 + 300 * a1_z) (i4_48_z) (12 * i4_48_z) := CuP_to (zA_sAn eS_165 (ex3 (gQ_12_1235 hO_156.1 t_158)) h_161 rfl) (zA_sAn eS_165 (ex3 (gQ_12_1236 hO_156.1 t_158)) h_161 rfl) cp_201
          have t_203 : pI S_92 1245 x = v_88 := tI_sA eS_92 ev_88
          have t_204 : pI S_114 1245 x = v_88 := tI_sA eS_114 t_203
          have t_205 : pI S_129 1245 x = v_88 := tI_sA eS_129 t_204
          have t_206 : pI S_138 1245 x = v_88 := tI_sA eS_138 t_205
          have t_207 : pI S_155 1245 x = v_88 := tI_sI eS_155 rfl t_206
          have t_208 : pI S_165 1245 x = v_88 := tI_sA eS_165 t_207
          have pz_209 : (pI S_165 1245 x).toInt = v_88.toInt := (congrArg Int32.toInt t_208).trans rfl
          have d45_210 : (pI S_165 1245 x).toInt = (pI S 1245 x).toInt := congrArg Int32.toInt (hO_166.fr.I' (g := 1245) (by decide +kernel) ha_x rfl)
          have zc_211 : zA S_92 x 1240 = zA S_75 x 1240 := zA_sAn eS_92 (ex3 (gQ_12_1240 hO_76.1 t_82)) h_85 rfl
          have zc_212 : zA S_114 x 1240 = zA S_75 x 1240 := (zA_sAn eS_114 (ex3 (gQ_12_1240 hO_93.1 t_100)) h_103 rfl).trans zc_211
          have zc_213 : zA S_129 x 1240 = zA S_75 x 1240 := (zA_sAn eS_129 (ex3 (gQ_12_1240 hO_115.1 t_123)) h_126 rfl).trans zc_212
          have zc_214 : zA S_138 x 1240 = zA S_75 x 1240 := (zA_sAn eS_138 (ex3 (gQ_12_1240 hO_130.1 t_132)) h_135 rfl).trans zc_213
          have zc_215 : zA S_155 x 1240 = zA S_75 x 1240 := (zA_sI eS_155).trans zc_214
          have zc_216 : zA S_165 x 1240 = zA S_75 x 1240 := (zA_sAn eS_165 (ex3 (gQ_12_1240 hO_156.1 t_158)) h_161 rfl).trans zc_215
          have zs_217 : ∀ j, zA S_165 x 1240 j = if j = (v_1.toInt).toNat then a1_z else zA S x 1240 j := fun j => by rw [zc_216]; exact zs_81 j
          have zc_218 : zA S_75 x 1241 = zA S x 1241 := (zA_sAn eS_75 (ex3 (gQ_12_1241 hO_T_49.1 ha_x_L_50)) h_73 rfl).trans zk_56
          have zc_219 : zA S_114 x 1241 = zA S_92 x 1241 := zA_sAn eS_114 (ex3 (gQ_12_1241 hO_93.1 t_100)) h_103 rfl
          have zc_220 : zA S_129 x 1241 = zA S_92 x 1241 := (zA_sAn eS_129 (ex3 (gQ_12_1241 hO_115.1 t_123)) h_126 rfl).trans zc_219
          have zc_221 : zA S_138 x 1241 = zA S_92 x 1241 := (zA_sAn eS_138 (ex3 (gQ_12_1241 hO_130.1 t_132)) h_135 rfl).trans zc_220
          have zc_222 : zA S_155 x 1241 = zA S_92 x 1241 := (zA_sI eS_155).trans zc_221
          have zc_223 : zA S_165 x 1241 = zA S_92 x 1241 := (zA_sAn eS_165 (ex3 (gQ_12_1241 hO_156.1 t_158)) h_161 rfl).trans zc_222
          have zs_224 : ∀ j, zA S_165 x 1241 j = if j = (v_1.toInt).toNat then v_88.toInt else zA S x 1241 j := fun j => by rw [zc_223]; exact zs_99 j
          have zc_225 : zA S_75 x 1242 = zA S x 1242 := (zA_sAn eS_75 (ex3 (gQ_12_1242 hO_T_49.1 ha_x_L_50)) h_73 rfl).trans zk_58
          have zc_226 : zA S_92 x 1242 = zA S x 1242 := (zA_sAn eS_92 (ex3 (gQ_12_1242 hO_76.1 t_82)) h_85 rfl).trans zc_225
          have zc_227 : zA S_129 x 1242 = zA S_114 x 1242 := zA_sAn eS_129 (ex3 (gQ_12_1242 hO_115.1 t_123)) h_126 rfl
          have zc_228 : zA S_138 x 1242 = zA S_114 x 1242 := (zA_sAn eS_138 (ex3 (gQ_12_1242 hO_130.1 t_132)) h_135 rfl).trans zc_227
          have zc_229 : zA S_155 x 1242 = zA S_114 x 1242 := (zA_sI eS_155).trans zc_228
          have zc_230 : zA S_165 x 1242 = zA S_114 x 1242 := (zA_sAn eS_165 (ex3 (gQ_12_1242 hO_156.1 t_158)) h_161 rfl).trans zc_229
          have zs_231 : ∀ j, zA S_165 x 1242 j = if j = (v_1.toInt).toNat then v_110.toInt else zA S x 1242 j := fun j => by rw [zc_230]; exact zs_122 j
          have zc_232 : zA S_155 x 1239 = zA S x 1239 := (zA_sI eS_155).trans zc_154
          rw [hQQ]
          exact ret_i X hw hr hlocks (Nat.le_of_ble_eq_true rfl) (Nat.le_of_ble_eq_true rfl) ⟨hO_166, ⟨mi_171, zs_187, fun h => absurd h (by omega), fun h h2 => ⟨by have e1 : (v_178 : Int32).toInt = ((v_1.toInt + 1) - 1) := z_179; omega, by omega, ⟨v_40.toInt, (by rw [show (pI S 1238 x).toInt.toNat = (v_1.toInt).toNat by omega]; exact (congrFun zc_46 _).symm.trans zf_42), CuP_c cp_202 (by omega) (by omega), by omega, fun j => (by rw [zs_217 j, show (v_1.toInt).toNat = (pI S 1238 x).toInt.toNat by omega]), fun j => (by rw [zs_224 j, show (v_1.toInt).toNat = (pI S 1238 x).toInt.toNat by omega, show (v_88.toInt : Int) = (pI S 1245 x).toInt by omega]), fun j => (by rw [zs_231 j, show (v_1.toInt).toNat = (pI S 1238 x).toInt.toNat by omega, show (v_110.toInt : Int) = zA S x 1212 a1_z.toNat by omega]), fun j => (by rw [zs_176 j, show ((v_1.toInt + 1)).toNat = (pI S 1238 x).toInt.toNat + 1 by omega, show ((v_40.toInt + v_19.toInt) : Int) = v_40.toInt + zA S x 1237 a1_z.toNat by omega])⟩⟩, fun h h2 => absurd (by omega) h2, ⟨fun _ => (t_195).trans (ev_10).symm, fun h h2 => (by exfalso; omega)⟩⟩⟩ dX12_cuts_234
        · have z_b_233 := trivial
          have k_234 : i4_48_z < v_19.toInt := z_nle rfl hz_i4_48 c_68
          refine lv_aload_n X.1 X.2.1 dX12_cuts_70 rfl (lv_at hl 3 rfl) ?_
          obtain ⟨q_235, h_236, h_237, h_238⟩ := gQ_12_1235 hO_T_49.1 ha_x_L_50
          refine r_getR (g := 1235) X hw ha_x_L_50 rfl 35 h_236 (by decide) rfl inn_X12_cuts_12 (by decide) (X.2.2.2.1 (.fieldLink RX12 90 "SilkMillModel" "metreEnds" "[I") (by decide +kernel)) rfl (gv_1235 _ _) dX12_cuts_71 ?_
          refine lv_iload_n X.1 X.2.1 dX12_cuts_74 rfl (lv_at hl 1 rfl) ?_
          refine lv_iload X.1 X.2.1 dX12_cuts_75 (lv_at hl 0 rfl) ?_
          refine lv_iadd X.1 X.2.1 dX12_cuts_77 ?_
          refine lv_topi (fun v_239 ev_239 => ?_)
          have z_240 : v_239.toInt = v_40.toInt + i4_48_z := z_add ev_239 rfl hz_i4_48 (by omega) (by omega)
          refine lv_aload_n X.1 X.2.1 dX12_cuts_78 rfl (lv_at hl 3 rfl) ?_
          refine r_getR (g := 1235) X hw ha_x_L_50 rfl 35 h_236 (by decide) rfl inn_X12_cuts_12 (by decide) (X.2.2.2.1 (.fieldLink RX12 90 "SilkMillModel" "metreEnds" "[I") (by decide +kernel)) rfl (gv_1235 _ _) dX12_cuts_79 ?_
          refine lv_aload_n X.1 X.2.1 dX12_cuts_82 rfl (lv_at hl 3 rfl) ?_
          refine lv_iload_n X.1 X.2.1 dX12_cuts_83 rfl (lv_at hl 4 rfl) ?_
          refine k_i (rm := { frames := 1, cells := 0, slots := 0, locals := 48 }) (av := [.ref x, .int (a1)]) X hw (va_runV (As := [.int (a1)]) (rest := [.ref q_235, .int (v_239), .ref q_235]) (cfix X) (k_X12_growing l G cy κ T_49 _ x (a1) (a1_z) hO_T_49.1 ha_x_L_50 hz_a1 (by first | assumption | omega) (by first | assumption | omega)) (cwV 1 X.2.2.2.1 gX12_cuts_X12_growing rfl rfl rfl (by decide +kernel) ⟨Nat.le_of_ble_eq_true rfl, Nat.le_of_ble_eq_true rfl⟩) (pre_V X hw _ ha_x_L_50 rfl (by decide) rfl) rfl rfl hl.1 rfl (lv_room (Nat.le_of_ble_eq_true rfl)) dX12_cuts_84 ⟨Nat.le_of_ble_eq_true rfl, Nat.le_of_ble_eq_true rfl⟩) 0 0 (Nat.le_of_ble_eq_true rfl) (Nat.le_of_ble_eq_true rfl) (fun rr_241 S_242 H locs hp hw hfr hnw => ?_)
          obtain ⟨e2, hp⟩ := hp
          subst e2
          have f_243 := hp
          refine lv_iload X.1 X.2.1 dX12_cuts_87 (lv_at hl 0 rfl) ?_
          refine lv_iadd X.1 X.2.1 dX12_cuts_89 ?_
          refine lv_topi (fun v_244 ev_244 => ?_)
          have z_245 : v_244.toInt = rr_241.toInt + i4_48_z := z_add ev_244 rfl hz_i4_48 (by omega) (by omega)
          refine r_iald X hw h_237 rfl (by rw [h_238]; exact z_ix z_245 (by omega) (by omega)) dX12_cuts_90 ?_
          refine lv_topi (fun v_246 ev_246 => ?_)
          have z_247 := gE_914 hO_T_49.1 h_237 (Int32.toNatClampNeg (v_244)); rw [← ev_246] at z_247
          have ev_246 := ev_246.symm
          have zf_248 : zA T_49 x 1235 ((rr_241.toInt + i4_48_z)).toNat = v_246.toInt := (zA_of h_236 z_245 (by omega) ev_246)
          refine r_iast X hw h_237 rfl (by rw [h_238]; exact z_ix z_240 (by omega) (by omega)) dX12_cuts_91 (fun H locs hw => ?_)
          obtain ⟨S_249, eS_249⟩ : ∃ T, T = sA T_49 q_235 (upd (pA T_49 q_235) (Int32.toNatClampNeg (v_239)) (v_246)) := ⟨_, rfl⟩
          rw [← eS_249] at hw
          have hO_250 : Ok MCU S S_249 := hO_T_49.sA eS_249 h_237 (by decide +kernel) (uA_914 hO_T_49.1 h_237 (by omega) (by omega))
          have h_251 : pA S_249 q_235 (Int32.toNatClampNeg (v_239)) = v_246 := tA_sAs eS_249
          have t_252 : pR S_249 1235 x = some q_235 := tR_sA eS_249 h_236
          have t_254 : pR T_49 1235 x = some q_235 := by have h := t_252; rw [eS_249, pR_sA] at h; exact h
          have zs_253 : ∀ j, zA S_249 x 1235 j = if j = ((v_40.toInt + i4_48_z)).toNat then v_246.toInt else zA T_49 x 1235 j := by have h := zA_sAs eS_249 t_254 rfl; rw [z_nc z_240 (by omega)] at h; exact h
          have cp_255 : CuP S S_249 x (v_40.toInt) (12000 + 300 * a1_z) (i4_48_z + 1) (12 * i4_48_z) := CuP_e (i := (v_40.toInt + i4_48_z)) iv_60 (by omega) (by omega) (by omega) (by omega) (by rw [show ((12000 + 300 * a1_z) + i4_48_z).toNat = ((rr_241.toInt + i4_48_z)).toNat by omega]; exact zf_248) zs_253 (zA_sAn eS_249 (ex3 (gQ_12_1236 hO_T_49.1 ha_x_L_50)) h_237 rfl)
          refine lv_iconst (v := 0) X.1 X.2.1 dX12_cuts_92 (by decide) ?_
          refine lv_istore (lv' := [(5, .int 0), (4, .int (i4_48)), (3, .int (v_40)), (2, .int (v_19)), (0, .ref x), (1, .int (a1))]) X.1 X.2.1 dX12_cuts_93 hl (by decide) rfl (fun ls hl => ?_)
          have zc_260 : zA S_249 x 1237 = zA S_25 x 1237 := (zA_sAn eS_249 (ex3 (gQ_12_1237 hO_T_49.1 ha_x_L_50)) h_237 rfl).trans zk_51
          have zc_262 : zA S_249 x 1239 = zA S x 1239 := (zA_sAn eS_249 (ex3 (gQ_12_1239 hO_T_49.1 ha_x_L_50)) h_237 rfl).trans zk_52
          have zc_264 : zA S_249 x 1240 = zA S x 1240 := (zA_sAn eS_249 (ex3 (gQ_12_1240 hO_T_49.1 ha_x_L_50)) h_237 rfl).trans zk_54
          have zc_266 : zA S_249 x 1241 = zA S x 1241 := (zA_sAn eS_249 (ex3 (gQ_12_1241 hO_T_49.1 ha_x_L_50)) h_237 rfl).trans zk_56
          have zc_268 : zA S_249 x 1242 = zA S x 1242 := (zA_sAn eS_249 (ex3 (gQ_12_1242 hO_T_49.1 ha_x_L_50)) h_237 rfl).trans zk_58
          have t_272 : pI S_249 1238 x = v_1 := tI_sA eS_249 ik_62
          have t_274 : pI S_249 1246 x = v_10 := tI_sA eS_249 ik_64
          have L_256 : ∀ (n : Nat) (T_258 : PS) (H : Heap) (locs : List Loc) (ls : Array Slot) (i5_257 : Int32) (i5_257_z : Int), ((12 - i5_257_z).toNat = n) → (Wd G cy (AS S s.heap.size) s.heap T_258 H locs) → (i5_257.toInt = i5_257_z) → (0 ≤ i5_257_z ∧ i5_257_z ≤ 12) → (At T_258 x 12) → (Ok MCU S T_258) → (zA T_258 x 1237 = zA S_25 x 1237) → (zA T_258 x 1239 = zA S x 1239) → (zA T_258 x 1240 = zA S x 1240) → (zA T_258 x 1241 = zA S x 1241) → (zA T_258 x 1242 = zA S x 1242) → (MIe T_258 x (-1)) → (CuP S T_258 x (v_40.toInt) (12000 + 300 * a1_z) (i4_48_z + 1) (12 * i4_48_z + i5_257_z)) → (pI T_258 1238 x = v_1) → (pI T_258 1246 x = v_10) → (lv_has ls 6 [(5, .int (i5_257)), (4, .int (i4_48)), (3, .int (v_40)), (2, .int (v_19)), (0, .ref x), (1, .int (a1))]) → W p l e ({ frames := 6, cells := 0, slots := 0, locals := 288 }) s m [.ref x, .int (a1)].toArray below meth c H locs 0 0 QQ (F0 m 95 ls []) := by
            intro n
            induction n using Nat.strongRecOn with
            | ind n ih_L_256 =>
            intro T_258 H locs ls i5_257 i5_257_z hn hw hz_i5_257 hr_i5_257 ha_x_L_259 hO_T_258 zk_261 zk_263 zk_265 zk_267 zk_269 mk_270 iv_271 ik_273 ik_275 hl
            have rg_276 : (-2147483648) ≤ i5_257_z ∧ i5_257_z ≤ 2147483647 := by rw [← hz_i5_257]; exact ⟨z_lo _, z_hi _⟩
            have pz_277 : (pI T_258 1238 x).toInt = v_1.toInt := (congrArg Int32.toInt ik_273).trans rfl
            have pz_278 : (pI T_258 1246 x).toInt = v_10.toInt := (congrArg Int32.toInt ik_275).trans rfl
            refine lv_iload X.1 X.2.1 dX12_cuts_95 (lv_at hl 0 rfl) ?_
            refine lv_bipush (v := 12) X.1 X.2.1 dX12_cuts_97 (by decide) ?_
            refine lv_icmp_ge (tgt := 142) X.1 X.2.1 dX12_cuts_99 (by decide) (fun c_279 => ?_) (fun c_279 => ?_)
            · have z_b_280 := trivial
              have k_281 : i5_257_z ≥ 12 := z_le ti_12 hz_i5_257 c_279
              obtain ⟨x_282, ex_282⟩ : ∃ y : Int32, y = i4_48 + 1 := ⟨_, rfl⟩
              have z_283 : x_282.toInt = i4_48_z + 1 := z_add ex_282 hz_i4_48 ti_1 (by omega) (by omega)
              refine lv_iinc (v := x_282) (lv' := [(4, .int (x_282)), (5, .int (i5_257)), (3, .int (v_40)), (2, .int (v_19)), (0, .ref x), (1, .int (a1))]) X.1 X.2.1 dX12_cuts_142 hl (k := 1) rfl (by rw [ex_282]; rfl) (by decide) rfl (fun ls hl => ?_)
              refine lv_goto (tgt := 64) X.1 X.2.1 dX12_cuts_145 (by decide) ?_
              exact ih_L_47 _ (by omega) _ _ _ _ (x_282) (x_282.toInt) rfl hw rfl (by omega) ha_x_L_259 hO_T_258 zk_261 zk_263 zk_265 zk_267 zk_269 mk_270 (CuP_c iv_271 (by omega) (by omega)) (by omega) ik_273 ik_275 (lv_sub hl [0, 2, 3, 4, 5] rfl)
            · have z_b_284 := trivial
              have k_285 : i5_257_z < 12 := z_nle ti_12 hz_i5_257 c_279
              refine lv_aload_n X.1 X.2.1 dX12_cuts_102 rfl (lv_at hl 4 rfl) ?_
              obtain ⟨q_286, h_287, h_288, h_289⟩ := gQ_12_1236 hO_T_258.1 ha_x_L_259
              refine r_getR (g := 1236) X hw ha_x_L_259 rfl 36 h_287 (by decide) rfl inn_X12_cuts_12 (by decide) (X.2.2.2.1 (.fieldLink RX12 94 "SilkMillModel" "drawn" "[I") (by decide +kernel)) rfl (gv_1236 _ _) dX12_cuts_103 ?_
              refine lv_bipush (v := 12) X.1 X.2.1 dX12_cuts_106 (by decide) ?_
              refine lv_iload_n X.1 X.2.1 dX12_cuts_108 rfl (lv_at hl 2 rfl) ?_
              refine lv_iload X.1 X.2.1 dX12_cuts_109 (lv_at hl 1 rfl) ?_
              refine lv_iadd X.1 X.2.1 dX12_cuts_111 ?_
              refine lv_topi (fun v_290 ev_290 => ?_)
              have z_291 : v_290.toInt = v_40.toInt + i4_48_z := z_add ev_290 rfl hz_i4_48 (by omega) (by omega)
              refine lv_imul X.1 X.2.1 dX12_cuts_112 ?_
              refine lv_topi (fun v_292 ev_292 => ?_)
              have z_293 : v_292.toInt = 12 * (v_40.toInt + i4_48_z) := z_mul ev_292 ti_12 z_291 (by omega) (by omega)
              refine lv_iload X.1 X.2.1 dX12_cuts_113 (lv_at hl 0 rfl) ?_
              refine lv_iadd X.1 X.2.1 dX12_cuts_115 ?_
              refine lv_topi (fun v_294 ev_294 => ?_)
              have z_295 : v_294.toInt = (12 * (v_40.toInt + i4_48_z)) + i5_257_z := z_add ev_294 z_293 hz_i5_257 (by omega) (by omega)
              refine lv_aload_n X.1 X.2.1 dX12_cuts_116 rfl (lv_at hl 4 rfl) ?_
              refine r_getR (g := 1236) X hw ha_x_L_259 rfl 36 h_287 (by decide) rfl inn_X12_cuts_12 (by decide) (X.2.2.2.1 (.fieldLink RX12 94 "SilkMillModel" "drawn" "[I") (by decide +kernel)) rfl (gv_1236 _ _) dX12_cuts_117 ?_
              refine lv_bipush (v := 12) X.1 X.2.1 dX12_cuts_120 (by decide) ?_
              refine lv_aload_n X.1 X.2.1 dX12_cuts_122 rfl (lv_at hl 4 rfl) ?_
              refine lv_iload_n X.1 X.2.1 dX12_cuts_123 rfl (lv_at hl 5 rfl) ?_
              refine k_i (rm := { frames := 1, cells := 0, slots := 0, locals := 48 }) (av := [.ref x, .int (a1)]) X hw (va_runV (As := [.int (a1)]) (rest := [.int 12, .ref q_286, .int (v_294), .ref q_286]) (cfix X) (k_X12_growing l G cy κ T_258 _ x (a1) (a1_z) hO_T_258.1 ha_x_L_259 hz_a1 (by first | assumption | omega) (by first | assumption | omega)) (cwV 1 X.2.2.2.1 gX12_cuts_X12_growing rfl rfl rfl (by decide +kernel) ⟨Nat.le_of_ble_eq_true rfl, Nat.le_of_ble_eq_true rfl⟩) (pre_V X hw _ ha_x_L_259 rfl (by decide) rfl) rfl rfl hl.1 rfl (lv_room (Nat.le_of_ble_eq_true rfl)) dX12_cuts_124 ⟨Nat.le_of_ble_eq_true rfl, Nat.le_of_ble_eq_true rfl⟩) 0 0 (Nat.le_of_ble_eq_true rfl) (Nat.le_of_ble_eq_true rfl) (fun rr_296 S_297 H locs hp hw hfr hnw => ?_)
              obtain ⟨e2, hp⟩ := hp
              subst e2
              have f_298 := hp
              refine lv_iload X.1 X.2.1 dX12_cuts_127 (lv_at hl 1 rfl) ?_
              refine lv_iadd X.1 X.2.1 dX12_cuts_129 ?_
              refine lv_topi (fun v_299 ev_299 => ?_)
              have z_300 : v_299.toInt = rr_296.toInt + i4_48_z := z_add ev_299 rfl hz_i4_48 (by omega) (by omega)
              refine lv_imul X.1 X.2.1 dX12_cuts_130 ?_
              refine lv_topi (fun v_301 ev_301 => ?_)
              have z_302 : v_301.toInt = 12 * (rr_296.toInt + i4_48_z) := z_mul ev_301 ti_12 z_300 (by omega) (by omega)
              refine lv_iload X.1 X.2.1 dX12_cuts_131 (lv_at hl 0 rfl) ?_
              refine lv_iadd X.1 X.2.1 dX12_cuts_133 ?_
              refine lv_topi (fun v_303 ev_303 => ?_)
              have z_304 : v_303.toInt = (12 * (rr_296.toInt + i4_48_z)) + i5_257_z := z_add ev_303 z_302 hz_i5_257 (by omega) (by omega)
              refine r_iald X hw h_288 rfl (by rw [h_289]; exact z_ix z_304 (by omega) (by omega)) dX12_cuts_134 ?_
              refine lv_topi (fun v_305 ev_305 => ?_)
              have z_306 := gE_934 hO_T_258.1 h_288 (Int32.toNatClampNeg (v_303)); rw [← ev_305] at z_306
              have ev_305 := ev_305.symm
              have zf_307 : zA T_258 x 1236 (((12 * (rr_296.toInt + i4_48_z)) + i5_257_z)).toNat = v_305.toInt := (zA_of h_287 z_304 (by omega) ev_305)
              have dk_308 : dOK T_258 x v_305.toInt := dOK_6 mk_270 (j := ((12 * (rr_296.toInt + i4_48_z)) + i5_257_z)) (by omega) (by omega) zf_307
              have zf_309 : zA T_258 x 1236 (((12 * (rr_296.toInt + i4_48_z)) + i5_257_z)).toNat = v_305.toInt := (zA_of h_287 z_304 (by omega) ev_305)
              refine r_iast X hw h_288 rfl (by rw [h_289]; exact z_ix z_295 (by omega) (by omega)) dX12_cuts_135 (fun H locs hw => ?_)
              obtain ⟨S_310, eS_310⟩ : ∃ T, T = sA T_258 q_286 (upd (pA T_258 q_286) (Int32.toNatClampNeg (v_294)) (v_305)) := ⟨_, rfl⟩
              rw [← eS_310] at hw
              have hO_311 : Ok MCU S S_310 := hO_T_258.sA eS_310 h_288 (by decide +kernel) (uA_934 hO_T_258.1 h_288 (by omega) (by omega))
              have h_312 : pA S_310 q_286 (Int32.toNatClampNeg (v_294)) = v_305 := tA_sAs eS_310
              have t_313 : pR S_310 1236 x = some q_286 := tR_sA eS_310 h_287
              have t_315 : pR T_258 1236 x = some q_286 := by have h := t_313; rw [eS_310, pR_sA] at h; exact h
              have zs_314 : ∀ j, zA S_310 x 1236 j = if j = (((12 * (v_40.toInt + i4_48_z)) + i5_257_z)).toNat then v_305.toInt else zA T_258 x 1236 j := by have h := zA_sAs eS_310 t_315 rfl; rw [z_nc z_295 (by omega)] at h; exact h
              have mi_316 : MIe S_310 x (-1) := drawn_MI hO_T_258.1 ha_x_L_259 (show Fr [10934] T_258 S_310 by rw [eS_310]; exact Fr_sA h_288 List.mem_cons_self) mk_270 zs_314 dk_308
              have cp_317 : CuP S S_310 x (v_40.toInt) (12000 + 300 * a1_z) (i4_48_z + 1) (12 * i4_48_z + i5_257_z + 1) := CuP_d (i := ((12 * (v_40.toInt + i4_48_z)) + i5_257_z)) (s := ((12 * (rr_296.toInt + i4_48_z)) + i5_257_z)) iv_271 (by omega) (by omega) (by omega) (by omega) (by omega) zf_309 zs_314 (zA_sAn eS_310 (ex3 (gQ_12_1235 hO_T_258.1 ha_x_L_259)) h_288 rfl)
              clear zs_314
              obtain ⟨x_318, ex_318⟩ : ∃ y : Int32, y = i5_257 + 1 := ⟨_, rfl⟩
              have z_319 : x_318.toInt = i5_257_z + 1 := z_add ex_318 hz_i5_257 ti_1 (by omega) (by omega)
              refine lv_iinc (v := x_318) (lv' := [(5, .int (x_318)), (4, .int (i4_48)), (3, .int (v_40)), (2, .int (v_19)), (0, .ref x), (1, .int (a1))]) X.1 X.2.1 dX12_cuts_136 hl (k := 0) rfl (by rw [ex_318]; rfl) (by decide) rfl (fun ls hl => ?_)
              refine lv_goto (tgt := 95) X.1 X.2.1 dX12_cuts_139 (by decide) ?_
              have t_320 : At S_310 x 12 := tAt_sA eS_310 ha_x_L_259
              have zc_321 : zA S_310 x 1237 = zA S_25 x 1237 := (zA_sAn eS_310 (ex3 (gQ_12_1237 hO_T_258.1 ha_x_L_259)) h_288 rfl).trans zk_261
              have zc_322 : zA S_310 x 1239 = zA S x 1239 := (zA_sAn eS_310 (ex3 (gQ_12_1239 hO_T_258.1 ha_x_L_259)) h_288 rfl).trans zk_263
              have zc_323 : zA S_310 x 1240 = zA S x 1240 := (zA_sAn eS_310 (ex3 (gQ_12_1240 hO_T_258.1 ha_x_L_259)) h_288 rfl).trans zk_265
              have zc_324 : zA S_310 x 1241 = zA S x 1241 := (zA_sAn eS_310 (ex3 (gQ_12_1241 hO_T_258.1 ha_x_L_259)) h_288 rfl).trans zk_267
              have zc_325 : zA S_310 x 1242 = zA S x 1242 := (zA_sAn eS_310 (ex3 (gQ_12_1242 hO_T_258.1 ha_x_L_259)) h_288 rfl).trans zk_269
              have t_326 : pI S_310 1238 x = v_1 := tI_sA eS_310 ik_273
              have t_327 : pI S_310 1246 x = v_10 := tI_sA eS_310 ik_275
              exact ih_L_256 _ (by omega) _ _ _ _ (x_318) (x_318.toInt) rfl hw rfl (by omega) t_320 hO_311 zc_321 zc_322 zc_323 zc_324 zc_325 mi_316 (CuP_c cp_317 (by omega) (by omega)) t_326 t_327 (lv_sub hl [0, 1, 2, 3, 4, 5] rfl)
          have t_328 : At S_249 x 12 := tAt_sA eS_249 ha_x_L_50
          have mi_329 : MIe S_249 x (-1) := MIe_sA mk_59 hO_T_49.1 ha_x_L_50 h_237 eS_249 (by decide +kernel)
          exact L_256 _ _ _ _ _ (0) (0) rfl hw ti_0 (by omega) t_328 hO_250 zc_260 zc_262 zc_264 zc_266 zc_268 mi_329 (CuP_c cp_255 (by omega) (by omega)) t_272 t_274 (lv_sub hl [0, 1, 2, 3, 4, 5] rfl)
      have zc_330 : zA S_25 x 1235 = zA S x 1235 := zA_sAn eS_25 (ex3 (gQ_12_1235 hO.1 ha_x)) h_17 rfl
      have zc_331 : zA S_25 x 1236 = zA S x 1236 := zA_sAn eS_25 (ex3 (gQ_12_1236 hO.1 ha_x)) h_17 rfl
      exact L_47 _ _ _ _ _ (0) (0) rfl hw ti_0 (by omega) t_31 hO_26 (Eq.refl _) zc_46 zc_53 zc_55 zc_57 mi_45 (CuP_0 zc_330 zc_331) (by omega) t_32 t_63 (lv_sub hl [0, 1, 2, 3, 4] rfl)
    · have z_b_332 := trivial
      have k_333 : v_1.toInt = 40 := z_eq rfl ti_40 c_33
      refine lv_aload_n X.1 X.2.1 dX12_cuts_29 rfl (lv_at hl 1 rfl) ?_
      refine lv_dup X.1 X.2.1 dX12_cuts_30 rfl ?_
      have t_334 : pI S_25 1246 x = v_10 := tI_sA eS_25 ev_10
      refine r_getI (g := 1246) (x := v_10) X hw t_31 rfl 46 t_334 (by decide) rfl inn_X12_cuts_12 (by decide) (X.2.2.2.1 (.fieldLink RX12 293 "SilkMillModel" "waste" "I") (by decide +kernel)) rfl (gv_1246 _ _) dX12_cuts_31 ?_
      refine lv_aload_n X.1 X.2.1 dX12_cuts_34 rfl (lv_at hl 1 rfl) ?_
      refine lv_aload_n X.1 X.2.1 dX12_cuts_35 rfl (lv_at hl 1 rfl) ?_
      refine lv_iload_n X.1 X.2.1 dX12_cuts_36 rfl (lv_at hl 2 rfl) ?_
      refine k_i (rm := { frames := 1, cells := 0, slots := 0, locals := 48 }) (av := [.ref x, .int (a1)]) X hw (va_runV (As := [.int (a1)]) (rest := [.ref x, .int (v_10), .ref x]) (cfix X) (k_X12_growing l G cy κ S_25 _ x (a1) (a1_z) hO_26.1 t_31 hz_a1 (by first | assumption | omega) (by first | assumption | omega)) (cwV 1 X.2.2.2.1 gX12_cuts_X12_growing rfl rfl rfl (by decide +kernel) ⟨Nat.le_of_ble_eq_true rfl, Nat.le_of_ble_eq_true rfl⟩) (pre_V X hw _ t_31 rfl (by decide) rfl) rfl rfl hl.1 rfl (lv_room (Nat.le_of_ble_eq_true rfl)) dX12_cuts_37 ⟨Nat.le_of_ble_eq_true rfl, Nat.le_of_ble_eq_true rfl⟩) 0 0 (Nat.le_of_ble_eq_true rfl) (Nat.le_of_ble_eq_true rfl) (fun rr_335 S_336 H locs hp hw hfr hnw => ?_)
      obtain ⟨e2, hp⟩ := hp
      subst e2
      have f_337 := hp
      refine lv_iload_n X.1 X.2.1 dX12_cuts_40 rfl (lv_at hl 0 rfl) ?_
      have mi_338 : MIe S_25 x (-1) := MIe_37 hp_2 hO.1 ha_x h_17 eS_25
      refine k_i (rm := { frames := 5, cells := 0, slots := 0, locals := 240 }) (av := [.ref x, .int (rr_335), .int (v_19)]) X hw (va_runV (As := [.int (rr_335), .int (v_19)]) (rest := [.int (v_10), .ref x]) (cfix X) (k_X12_weight8 l G cy κ S_25 _ x (rr_335) (rr_335.toInt) (v_19) (v_19.toInt) gQ hO_26.1 t_31 rfl rfl (by first | assumption | omega) (by first | assumption | omega) (by first | assumption | omega) mi_338 (by omega) (fun j t hj => by rw [show (rr_335.toInt).toNat + j = 12000 + 300 * a1_z.toNat + j by omega]; exact MtR_eq (zA_sAn eS_25 (ex3 (gQ_12_1235 hO.1 ha_x)) h_17 rfl) (zA_sAn eS_25 (ex3 (gQ_12_1236 hO.1 ha_x)) h_17 rfl) (hp_3.2 j t hj))) (cwV 2 X.2.2.2.1 gX12_cuts_X12_weight rfl rfl rfl (by decide +kernel) ⟨Nat.le_of_ble_eq_true rfl, Nat.le_of_ble_eq_true rfl⟩) (pre_V X hw _ t_31 rfl (by decide) rfl) rfl rfl hl.1 rfl (lv_room (Nat.le_of_ble_eq_true rfl)) dX12_cuts_41 ⟨Nat.le_of_ble_eq_true rfl, Nat.le_of_ble_eq_true rfl⟩) 0 0 (Nat.le_of_ble_eq_true rfl) (Nat.le_of_ble_eq_true rfl) (fun rr_339 S_340 H locs hp hw hfr hnw => ?_)
      obtain ⟨e2, hp⟩ := hp
      subst e2
      obtain ⟨we_341, we_342, we_343⟩ := hp
      have rg_344 := And.intro (z_lo rr_339) (z_hi rr_339)
      refine lv_iadd X.1 X.2.1 dX12_cuts_44 ?_
      refine lv_topi (fun v_345 ev_345 => ?_)
      have rg_346 := And.intro (z_lo v_345) (z_hi v_345)
      refine r_putI (v := v_345) X hw t_31 rfl 46 1246 tyX12 (by decide) rfl inn_X12_cuts_12 tyX12_ok nmX12 (by decide) (X.2.2.2.1 (.fieldLink RX12 293 "SilkMillModel" "waste" "I") (by decide +kernel)) rfl (Or.inl rfl) rfl rfl (Nat.le_of_ble_eq_true rfl) (st_1246 _ _) dX12_cuts_45 (fun H locs hw => ?_)
      obtain ⟨S_347, eS_347⟩ : ∃ T, T = sI S_25 1246 x (v_345) := ⟨_, rfl⟩
      rw [← eS_347] at hw
      have hO_348 : Ok MCU S S_347 := hO_26.sI eS_347 (by decide +kernel) (uI_12_1246 hO_26.1 t_31)
      have h_349 : pI S_347 1246 x = v_345 := tI_sIs eS_347
      refine lv_bipush (v := (-2)) X.1 X.2.1 dX12_cuts_48 (by decide) ?_
      have mi_350 : MIe S_347 x (-1) := MIe_sI mi_338 hO_26.1 t_31 eS_347 (by decide +kernel)
      have zc_351 : zA S_347 x 1237 = zA S_25 x 1237 := zA_sI eS_347
      have zs_352 : ∀ j, zA S_347 x 1237 j = if j = (a1_z).toNat then 0 else zA S x 1237 j := fun j => by rw [zc_351]; exact zs_29 j
      have t_353 : pI S_347 1238 x = v_1 := tI_sI eS_347 rfl t_32
      have pz_354 : (pI S_347 1238 x).toInt = v_1.toInt := (congrArg Int32.toInt t_353).trans rfl
      have zc_355 : zA S_25 x 1235 = zA S x 1235 := zA_sAn eS_25 (ex3 (gQ_12_1235 hO.1 ha_x)) h_17 rfl
      have zc_356 : zA S_347 x 1235 = zA S x 1235 := (zA_sI eS_347).trans zc_355
      have zc_357 : zA S_25 x 1236 = zA S x 1236 := zA_sAn eS_25 (ex3 (gQ_12_1236 hO.1 ha_x)) h_17 rfl
      have zc_358 : zA S_347 x 1236 = zA S x 1236 := (zA_sI eS_347).trans zc_357
      have zc_359 : zA S_25 x 1239 = zA S x 1239 := zA_sAn eS_25 (ex3 (gQ_12_1239 hO.1 ha_x)) h_17 rfl
      have zc_360 : zA S_347 x 1239 = zA S x 1239 := (zA_sI eS_347).trans zc_359
      have zc_361 : zA S_25 x 1240 = zA S x 1240 := zA_sAn eS_25 (ex3 (gQ_12_1240 hO.1 ha_x)) h_17 rfl
      have zc_362 : zA S_347 x 1240 = zA S x 1240 := (zA_sI eS_347).trans zc_361
      have zc_363 : zA S_25 x 1241 = zA S x 1241 := zA_sAn eS_25 (ex3 (gQ_12_1241 hO.1 ha_x)) h_17 rfl
      have zc_364 : zA S_347 x 1241 = zA S x 1241 := (zA_sI eS_347).trans zc_363
      have zc_365 : zA S_25 x 1242 = zA S x 1242 := zA_sAn eS_25 (ex3 (gQ_12_1242 hO.1 ha_x)) h_17 rfl
      have zc_366 : zA S_347 x 1242 = zA S x 1242 := (zA_sI eS_347).trans zc_365
      rw [hQQ]
      exact ret_i X hw hr hlocks (Nat.le_of_ble_eq_true rfl) (Nat.le_of_ble_eq_true rfl) ⟨hO_348, ⟨mi_350, zs_352, fun h => absurd h (by omega), fun h h2 => absurd h2 (by omega), fun h h2 => ⟨by have e1 : ((-2) : Int32).toInt = (-2) := ti_m2; omega, by omega, ⟨zc_356, zc_358, zc_360, zc_362, zc_364, zc_366⟩⟩, ⟨fun h => (by exfalso; rcases h with h | h <;> omega), fun _ _ => (by rw [h_349, ev_345, ev_10, we_343]; exact congrArg (fun y => v_10 + y) (congrFun (siZ_to (fnZ_fr hG ha_x hO_26.fr (by decide +kernel))) _))⟩⟩⟩ dX12_cuts_50
  · have z_b_367 := trivial
    have k_368 : v_19.toInt = 0 := z_eq rfl ti_0 c_22
    refine lv_iconst (v := (-1)) X.1 X.2.1 dX12_cuts_11 (by decide) ?_
    have pz_369 : (pI S 1238 x).toInt = v_1.toInt := (congrArg Int32.toInt ev_1).trans rfl
    rw [hQQ]
    exact ret_i X hw hr hlocks (Nat.le_of_ble_eq_true rfl) (Nat.le_of_ble_eq_true rfl) ⟨hO, ⟨hp_2, cut0 (by omega), fun h => ⟨by have e1 : ((-1) : Int32).toInt = (-1) := ti_m1; omega, by omega, ⟨rfl, rfl, rfl, rfl, rfl, rfl⟩⟩, fun h => absurd h (by omega), fun h => absurd h (by omega), ⟨fun _ => (ev_10).trans (ev_10).symm, fun h h2 => (by exfalso; omega)⟩⟩⟩ dX12_cuts_12
set_option maxHeartbeats 4000000 in
set_option maxRecDepth 100000 in
theorem k_X12_acts5 (l : Launch) (G : va_G) (cy : Nat → ClassId) (κ : Nat → Nat) (S : PS) (sz : Nat) (x : Nat) (a1 : Int32) (a1_z : Int) (a2 : Int32) (a2_z : Int) (A : Pt) (Ev : En) (ru : Ru) (hG : GX S) (ha_x : At S x 12) (hz_a1 : a1.toInt = a1_z) (hz_a2 : a2.toInt = a2_z) (hp_0 : 0 ≤ a1_z) (hp_1 : a1_z ≤ 3) (hp_2 : 0 ≤ a2_z) (hp_3 : a2_z ≤ 59) (hp_4 : MI S x) (hp_5 : PotW S x a1_z A) (hp_6 : EnR S x a1_z Ev) (hp_7 : RuX S x a2_z ru) : Cv l yX12_acts wsX12_acts ({ frames := 7, cells := 0, slots := 0, locals := 336 }) G cy κ S sz [.ref x, .int (a1), .int (a2)] (fun (S9 : PS) => Ok MAC S S9 ∧ (MI S9 x ∧ (GR S x → GR S9 x) ∧ ZM S S9 x ∧ PotW S9 x a1_z (actF Ev ru.1 ru.2.1 A) ∧ PwX S S9 x a1_z ∧ WsT S S9 x Ev A (actF Ev ru.1 ru.2.1 A))) := by
  refine ent_m (cc := cX12_acts) (maxL := 4) (ret := none) (by decide) rfl (Nat.le_of_ble_eq_true rfl) ?_
  intro p e s m below meth c ls X hr hlocks hin hw hl hsz
  subst hsz
  have X : Cx p c cX12_acts 4 s [.ref x, .int (a1), .int (a2)].toArray wsX12_acts RX12 m G cy κ (AS S s.heap.size) := X
  have hl : lv_has ls 4 [(0, .ref x), (1, .int (a1)), (2, .int (a2))] := hl
  have rg_a1 : (-2147483648) ≤ a1_z ∧ a1_z ≤ 2147483647 := by rw [← hz_a1]; exact ⟨z_lo _, z_hi _⟩
  have rg_a2 : (-2147483648) ≤ a2_z ∧ a2_z ≤ 2147483647 := by rw [← hz_a2]; exact ⟨z_lo _, z_hi _⟩
  have hO : Ok MAC S S := Ok.rf hG
  obtain ⟨v_1, ev_1⟩ : ∃ v, pI S 1201 x = v := ⟨_, rfl⟩
  have rg_2 := gI_12_1201 hO.1 ha_x; rw [ev_1] at rg_2
  have pz_3 : (pI S 1201 x).toInt = v_1.toInt := by rw [ev_1]
  have pz_4 : (pI S 1201 x).toInt = v_1.toInt := (congrArg Int32.toInt ev_1).trans rfl
  have hzm0 : ZM S S x := ZM_rf S x
  have hpw := hp_5
  obtain ⟨pw_5, pw_6, pw_7, pw_8, pw_9, pw_10, pw_11, pw_12, pw_13, pw_14⟩ := hpw
  obtain ⟨v_15, ev_15⟩ : ∃ v, pI S 1238 x = v := ⟨_, rfl⟩
  have rg_16 := gI_12_1238 hO.1 ha_x; rw [ev_15] at rg_16
  have pz_17 : (pI S 1238 x).toInt = v_15.toInt := by rw [ev_15]
  have pz_18 : (pI S 1238 x).toInt = v_15.toInt := (congrArg Int32.toInt ev_15).trans rfl
  have sl_19 := pw_10.1
  have sl_20 := pw_13.1
  have hrx := hp_7
  obtain ⟨hA1, hA2, hA3, hA4⟩ := hrx
  refine lv_aload_n X.1 X.2.1 dX12_acts_0 rfl (lv_at hl 0 rfl) ?_
  obtain ⟨q_21, h_22, h_23, h_24⟩ := gQ_12_1221 hO.1 ha_x
  refine r_getR (g := 1221) X hw ha_x rfl 21 h_22 (by decide) rfl inn_X12_acts_12 (by decide) (X.2.2.2.1 (.fieldLink RX12 64 "SilkMillModel" "act" "[I") (by decide +kernel)) rfl (gv_1221 _ _) dX12_acts_1 ?_
  refine lv_iload_n X.1 X.2.1 dX12_acts_4 rfl (lv_at hl 2 rfl) ?_
  refine r_iald X hw h_23 rfl (by rw [h_24]; exact z_ix hz_a2 (by omega) (by omega)) dX12_acts_5 ?_
  refine lv_topi (fun v_25 ev_25 => ?_)
  have rg_26 := And.intro (z_lo v_25) (z_hi v_25)
  have ev_25 := ev_25.symm
  have fa_27 : ru.1 = v_25 := by rw [← hA1, mA_eq h_22, ← z_nc hz_a2 (by omega), ev_25]
  by_cases w_28 : (v_25).toInt < 0 ∨ 4 < (v_25).toInt
  · refine lv_tableOut (tgt := 202) X.1 X.2.1 dX12_acts_6 w_28 (by decide) ?_
    refine lv_aload_n X.1 X.2.1 dX12_acts_202 rfl (lv_at hl 0 rfl) ?_
    obtain ⟨q_29, h_30, h_31, h_32⟩ := gQ_12_1215 hO.1 ha_x
    refine r_getR (g := 1215) X hw ha_x rfl 15 h_30 (by decide) rfl inn_X12_acts_12 (by decide) (X.2.2.2.1 (.fieldLink RX12 46 "SilkMillModel" "stop" "[I") (by decide +kernel)) rfl (gv_1215 _ _) dX12_acts_203 ?_
    refine lv_iload_n X.1 X.2.1 dX12_acts_206 rfl (lv_at hl 1 rfl) ?_
    refine lv_dup2_11 X.1 X.2.1 dX12_acts_207 rfl rfl ?_
    refine r_iald X hw h_31 rfl (by rw [h_32]; exact z_ix hz_a1 (by omega) (by omega)) dX12_acts_208 ?_
    refine lv_topi (fun v_33 ev_33 => ?_)
    have rg_34 := And.intro (z_lo v_33) (z_hi v_33)
    have ev_33 := ev_33.symm
    have zf_35 : zA S x 1215 (a1_z).toNat = v_33.toInt := (zA_of h_30 hz_a1 (by omega) ev_33)
    have us_36 : v_33 = (qst A) := Int32.toInt_inj.mp (rfl.trans (zf_35.symm.trans pw_8))
    refine lv_aload_n X.1 X.2.1 dX12_acts_209 rfl (lv_at hl 0 rfl) ?_
    obtain ⟨q_37, h_38, h_39, h_40⟩ := gQ_12_1222 hO.1 ha_x
    refine r_getR (g := 1222) X hw ha_x rfl 22 h_38 (by decide) rfl inn_X12_acts_12 (by decide) (X.2.2.2.1 (.fieldLink RX12 67 "SilkMillModel" "actNumber" "[I") (by decide +kernel)) rfl (gv_1222 _ _) dX12_acts_210 ?_
    refine lv_iload_n X.1 X.2.1 dX12_acts_213 rfl (lv_at hl 2 rfl) ?_
    refine r_iald X hw h_39 rfl (by rw [h_40]; exact z_ix hz_a2 (by omega) (by omega)) dX12_acts_214 ?_
    refine lv_topi (fun v_41 ev_41 => ?_)
    have rg_42 := And.intro (z_lo v_41) (z_hi v_41)
    have ev_41 := ev_41.symm
    have zf_43 : zA S x 1222 (a2_z).toNat = v_41.toInt := (zA_of h_38 hz_a2 (by omega) ev_41)
    have fa_44 : ru.2.1 = v_41 := Int32.toInt_inj.mp (by rw [← hA2, ← zA_eq, show a2_z.toNat = (a2_z).toNat by omega, zf_43])
    refine lv_iadd X.1 X.2.1 dX12_acts_215 ?_
    refine lv_topi (fun v_45 ev_45 => ?_)
    have rg_46 := And.intro (z_lo v_45) (z_hi v_45)
    refine r_iast X hw h_31 rfl (by rw [h_32]; exact z_ix hz_a1 (by omega) (by omega)) dX12_acts_216 (fun H locs hw => ?_)
    obtain ⟨S_47, eS_47⟩ : ∃ T, T = sA S q_29 (upd (pA S q_29) (Int32.toNatClampNeg (a1)) (v_45)) := ⟨_, rfl⟩
    rw [← eS_47] at hw
    have hO_48 : Ok MAC S S_47 := hO.sA eS_47 h_31 (by decide +kernel) (uA_514 hO.1 h_31)
    have h_49 : pA S_47 q_29 (Int32.toNatClampNeg (a1)) = v_45 := tA_sAs eS_47
    have t_50 : pR S_47 1215 x = some q_29 := tR_sA eS_47 h_30
    have t_52 : pR S 1215 x = some q_29 := by have h := t_50; rw [eS_47, pR_sA] at h; exact h
    have zs_51 : ∀ j, zA S_47 x 1215 j = if j = (a1_z).toNat then v_45.toInt else zA S x 1215 j := by have h := zA_sAs eS_47 t_52 rfl; rw [z_nc hz_a1 (by omega)] at h; exact h
    have mi_53 : MIe S_47 x (-1) := MIe_sA hp_4 hO.1 ha_x h_31 eS_47 (by decide +kernel)
    have zc_54 : zA S_47 x 1237 = zA S x 1237 := zA_sAn eS_47 (ex3 (gQ_12_1237 hO.1 ha_x)) h_31 rfl
    have zm_55 : ZM S S_47 x := ZM_eq hzm0 (zA_sAn eS_47 (ex3 (gQ_12_1207 hO.1 ha_x)) h_31 rfl)
    have rR_56 : RowR S_47 x (3 * a1_z + 0).toNat (qb A) := RowR_eq pw_5 (zA_sAn eS_47 (ex3 (gQ_12_1218 hO.1 ha_x)) h_31 rfl) (zA_sAn eS_47 (ex3 (gQ_12_1219 hO.1 ha_x)) h_31 rfl)
    have rR_57 : RowR S_47 x (3 * a1_z + 1).toNat (qe A) := RowR_eq pw_6 (zA_sAn eS_47 (ex3 (gQ_12_1218 hO.1 ha_x)) h_31 rfl) (zA_sAn eS_47 (ex3 (gQ_12_1219 hO.1 ha_x)) h_31 rfl)
    have rR_58 : RowR S_47 x (3 * a1_z + 2).toNat (ql A) := RowR_eq pw_7 (zA_sAn eS_47 (ex3 (gQ_12_1218 hO.1 ha_x)) h_31 rfl) (zA_sAn eS_47 (ex3 (gQ_12_1219 hO.1 ha_x)) h_31 rfl)
    have zR_59 : zA S_47 x 1215 a1_z.toNat = (((qst A) + ru.2.1)).toInt := (by rw [zs_51, if_pos (by omega)]; exact (congrArg Int32.toInt (ev_45.trans (by rw [us_36, ← fa_44]))))
    have zR_60 : zA S_47 x 1214 a1_z.toNat = ((qse A)).toInt := (congrFun (zA_sAn eS_47 (ex3 (gQ_12_1214 hO.1 ha_x)) h_31 rfl) _).trans pw_9
    have zR_61 : zA S_47 x 1216 a1_z.toNat = ((qdr A)).toInt := (congrFun (zA_sAn eS_47 (ex3 (gQ_12_1216 hO.1 ha_x)) h_31 rfl) _).trans pw_11
    have zR_62 : zA S_47 x 1217 a1_z.toNat = ((qtk A)).toInt := (congrFun (zA_sAn eS_47 (ex3 (gQ_12_1217 hO.1 ha_x)) h_31 rfl) _).trans pw_12
    have gR_63 : GrW S_47 x a1_z.toNat (qg A) := GrW_eq (zA_sAn eS_47 (ex3 (gQ_12_1235 hO.1 ha_x)) h_31 rfl) (zA_sAn eS_47 (ex3 (gQ_12_1236 hO.1 ha_x)) h_31 rfl) (congrFun (zA_sAn eS_47 (ex3 (gQ_12_1237 hO.1 ha_x)) h_31 rfl) _) pw_10
    have pz_64 : PlZ S_47 x (qpl A) (qsd A) := PlZ_eq pw_14 (zA_sAn eS_47 (ex3 (gQ_12_1208 hO.1 ha_x)) h_31 rfl) (zA_sAn eS_47 (ex3 (gQ_12_1207 hO.1 ha_x)) h_31 rfl)
    have t_65 : pI S_47 1238 x = v_15 := tI_sA eS_47 ev_15
    have pz_66 : (pI S_47 1238 x).toInt = v_15.toInt := (congrArg Int32.toInt t_65).trans rfl
    have kR_67 : SkW S_47 x (qsk A) := SkW_n (by rw [eS_47]; rfl) ⟨zA_sAn eS_47 (ex3 (gQ_12_1235 hO.1 ha_x)) h_31 rfl, zA_sAn eS_47 (ex3 (gQ_12_1236 hO.1 ha_x)) h_31 rfl, zA_sAn eS_47 (ex3 (gQ_12_1239 hO.1 ha_x)) h_31 rfl, zA_sAn eS_47 (ex3 (gQ_12_1240 hO.1 ha_x)) h_31 rfl, zA_sAn eS_47 (ex3 (gQ_12_1241 hO.1 ha_x)) h_31 rfl, zA_sAn eS_47 (ex3 (gQ_12_1242 hO.1 ha_x)) h_31 rfl⟩ pw_13
    have px_68 : PwX S S_47 x a1_z := PwX_z (PwX_rf S x a1_z) (zA_sAn eS_47 (ex3 (gQ_12_1218 hO.1 ha_x)) h_31 rfl) (zA_sAn eS_47 (ex3 (gQ_12_1219 hO.1 ha_x)) h_31 rfl) (zA_sAn eS_47 (ex3 (gQ_12_1235 hO.1 ha_x)) h_31 rfl) (zA_sAn eS_47 (ex3 (gQ_12_1236 hO.1 ha_x)) h_31 rfl) zs_51 (by omega) (pw4 (fun _ => zA_sAn eS_47 (ex3 (gQ_12_1214 hO.1 ha_x)) h_31 rfl) (fun h => absurd rfl h) (fun _ => zA_sAn eS_47 (ex3 (gQ_12_1216 hO.1 ha_x)) h_31 rfl) (fun _ => zA_sAn eS_47 (ex3 (gQ_12_1217 hO.1 ha_x)) h_31 rfl) (fun _ => zA_sAn eS_47 (ex3 (gQ_12_1237 hO.1 ha_x)) h_31 rfl))
    have wt_69 : WsT S S_47 x Ev A A := WsT_f (WsT_rf S x Ev A) (by rw [eS_47]; rfl)
    exact ret_v X hw hr hlocks (Nat.le_of_ble_eq_true rfl) (Nat.le_of_ble_eq_true rfl) ⟨hO_48, ⟨mi_53, fun hgr => (GR_eq zc_54 hgr), zm_55, PotW_of (actF_d (show ru.1.toInt = v_25.toInt from (congrArg Int32.toInt fa_27).trans rfl) (by omega)) rR_56 rR_57 rR_58 zR_59 zR_60 gR_63 zR_61 zR_62 kR_67 pz_64, px_68, WsT_q wt_69 (act_ws (i32_ne ((congrArg Int32.toInt fa_27).trans rfl) t4 (by omega)))⟩⟩ dX12_acts_217
  have w_28b : (v_25).toInt = 0 ∨ (v_25).toInt = 1 ∨ (v_25).toInt = 2 ∨ (v_25).toInt = 3 ∨ (v_25).toInt = 4 := by omega
  rcases w_28b with w_28c | w_28c | w_28c | w_28c | w_28c
  · refine lv_tableIn (tgt := 40) X.1 X.2.1 dX12_acts_6 (by omega) (by omega) (by rw [w_28c]; rfl) (by decide) ?_
    refine lv_aload_n X.1 X.2.1 dX12_acts_40 rfl (lv_at hl 0 rfl) ?_
    refine lv_iload_n X.1 X.2.1 dX12_acts_41 rfl (lv_at hl 1 rfl) ?_
    refine lv_iconst (v := 0) X.1 X.2.1 dX12_acts_42 (by decide) ?_
    refine k_i (rm := { frames := 1, cells := 0, slots := 0, locals := 48 }) (av := [.ref x, .int (a1), .int 0]) X hw (va_runV (As := [.int (a1), .int 0]) (rest := []) (cfix X) (k_X12_many2 l G cy κ S _ x (a1) (a1_z) (0) (0) hO.1 ha_x hz_a1 ti_0 (by first | assumption | omega) (by first | assumption | omega) (by first | assumption | omega) (by first | assumption | omega)) (cwV 2 X.2.2.2.1 gX12_acts_X12_many rfl rfl rfl (by decide +kernel) ⟨Nat.le_of_ble_eq_true rfl, Nat.le_of_ble_eq_true rfl⟩) (pre_V X hw _ ha_x rfl (by decide) rfl) rfl rfl hl.1 rfl (lv_room (Nat.le_of_ble_eq_true rfl)) dX12_acts_43 ⟨Nat.le_of_ble_eq_true rfl, Nat.le_of_ble_eq_true rfl⟩) 0 0 (Nat.le_of_ble_eq_true rfl) (Nat.le_of_ble_eq_true rfl) (fun rr_70 S_71 H locs hp hw hfr hnw => ?_)
    obtain ⟨e2, hp⟩ := hp
    subst e2
    obtain ⟨f_72, f_73, f_74⟩ := hp
    refine lv_if_le (tgt := 79) X.1 X.2.1 dX12_acts_46 (by decide) (fun c_75 => ?_) (fun c_75 => ?_)
    · have z_b_76 := trivial
      have k_77 : rr_70.toInt ≤ 0 := z_le rfl ti_0 c_75
      have pz_78 : (pI S 1238 x).toInt = v_15.toInt := (congrArg Int32.toInt ev_15).trans rfl
      exact ret_v X hw hr hlocks (Nat.le_of_ble_eq_true rfl) (Nat.le_of_ble_eq_true rfl) ⟨hO, ⟨hp_4, fun hgr => hgr, hzm0, PotW_of ((actF_0 (show ru.1.toInt = 0 by rw [fa_27]; have e1 : (v_25 : Int32).toInt = v_25.toInt := rfl; omega)).trans (casF_n (by first | exact Or.inl (List.eq_nil_of_length_eq_zero (by have := pw_5.1; omega)) | exact Or.inr (by have := pw_6.1; omega)))) pw_5 pw_6 pw_7 pw_8 pw_9 pw_10 pw_11 pw_12 pw_13 pw_14, (PwX_rf S x a1_z), WsT_q (WsT_rf S x Ev A) (act_ws (i32_ne ((congrArg Int32.toInt fa_27).trans rfl) t4 (by omega)))⟩⟩ dX12_acts_79
    · have z_b_79 := trivial
      have k_80 : rr_70.toInt > 0 := z_nle rfl ti_0 c_75
      refine lv_aload_n X.1 X.2.1 dX12_acts_49 rfl (lv_at hl 0 rfl) ?_
      refine lv_iload_n X.1 X.2.1 dX12_acts_50 rfl (lv_at hl 1 rfl) ?_
      refine lv_iconst (v := 1) X.1 X.2.1 dX12_acts_51 (by decide) ?_
      refine k_i (rm := { frames := 1, cells := 0, slots := 0, locals := 48 }) (av := [.ref x, .int (a1), .int 1]) X hw (va_runV (As := [.int (a1), .int 1]) (rest := []) (cfix X) (k_X12_many2 l G cy κ S _ x (a1) (a1_z) (1) (1) hO.1 ha_x hz_a1 ti_1 (by first | assumption | omega) (by first | assumption | omega) (by first | assumption | omega) (by first | assumption | omega)) (cwV 2 X.2.2.2.1 gX12_acts_X12_many rfl rfl rfl (by decide +kernel) ⟨Nat.le_of_ble_eq_true rfl, Nat.le_of_ble_eq_true rfl⟩) (pre_V X hw _ ha_x rfl (by decide) rfl) rfl rfl hl.1 rfl (lv_room (Nat.le_of_ble_eq_true rfl)) dX12_acts_52 ⟨Nat.le_of_ble_eq_true rfl, Nat.le_of_ble_eq_true rfl⟩) 0 0 (Nat.le_of_ble_eq_true rfl) (Nat.le_of_ble_eq_true rfl) (fun rr_81 S_82 H locs hp hw hfr hnw => ?_)
      obtain ⟨e2, hp⟩ := hp
      subst e2
      obtain ⟨f_83, f_84, f_85⟩ := hp
      refine lv_bipush (v := 12) X.1 X.2.1 dX12_acts_55 (by decide) ?_
      refine lv_icmp_ge (tgt := 79) X.1 X.2.1 dX12_acts_57 (by decide) (fun c_86 => ?_) (fun c_86 => ?_)
      · have z_b_87 := trivial
        have k_88 : rr_81.toInt ≥ 12 := z_le ti_12 rfl c_86
        have pz_89 : (pI S 1238 x).toInt = v_15.toInt := (congrArg Int32.toInt ev_15).trans rfl
        exact ret_v X hw hr hlocks (Nat.le_of_ble_eq_true rfl) (Nat.le_of_ble_eq_true rfl) ⟨hO, ⟨hp_4, fun hgr => hgr, hzm0, PotW_of ((actF_0 (show ru.1.toInt = 0 by rw [fa_27]; have e1 : (v_25 : Int32).toInt = v_25.toInt := rfl; omega)).trans (casF_n (by first | exact Or.inl (List.eq_nil_of_length_eq_zero (by have := pw_5.1; omega)) | exact Or.inr (by have := pw_6.1; omega)))) pw_5 pw_6 pw_7 pw_8 pw_9 pw_10 pw_11 pw_12 pw_13 pw_14, (PwX_rf S x a1_z), WsT_q (WsT_rf S x Ev A) (act_ws (i32_ne ((congrArg Int32.toInt fa_27).trans rfl) t4 (by omega)))⟩⟩ dX12_acts_79
      · have z_b_90 := trivial
        have k_91 : rr_81.toInt < 12 := z_nle ti_12 rfl c_86
        refine lv_aload_n X.1 X.2.1 dX12_acts_60 rfl (lv_at hl 0 rfl) ?_
        refine lv_iload_n X.1 X.2.1 dX12_acts_61 rfl (lv_at hl 1 rfl) ?_
        refine lv_iconst (v := 1) X.1 X.2.1 dX12_acts_62 (by decide) ?_
        refine lv_aload_n X.1 X.2.1 dX12_acts_63 rfl (lv_at hl 0 rfl) ?_
        refine lv_iload_n X.1 X.2.1 dX12_acts_64 rfl (lv_at hl 1 rfl) ?_
        refine lv_iconst (v := 0) X.1 X.2.1 dX12_acts_65 (by decide) ?_
        refine lv_iconst (v := 0) X.1 X.2.1 dX12_acts_66 (by decide) ?_
        refine k_i (rm := { frames := 1, cells := 0, slots := 0, locals := 48 }) (av := [.ref x, .int (a1), .int 0, .int 0]) X hw (va_runV (As := [.int (a1), .int 0, .int 0]) (rest := [.int 1, .int (a1), .ref x]) (cfix X) (k_X12_goes5 l G cy κ S _ x (a1) (a1_z) (0) (0) (0) (0) (-1) hO.1 ha_x hz_a1 ti_0 ti_0 (by first | assumption | omega) (by first | assumption | omega) (by first | assumption | omega) (by first | assumption | omega) (by first | assumption | omega) (by first | assumption | omega) hp_4) (cwV 3 X.2.2.2.1 gX12_acts_X12_goes rfl rfl rfl (by decide +kernel) ⟨Nat.le_of_ble_eq_true rfl, Nat.le_of_ble_eq_true rfl⟩) (pre_V X hw _ ha_x rfl (by decide) rfl) rfl rfl hl.1 rfl (lv_room (Nat.le_of_ble_eq_true rfl)) dX12_acts_67 ⟨Nat.le_of_ble_eq_true rfl, Nat.le_of_ble_eq_true rfl⟩) 0 0 (Nat.le_of_ble_eq_true rfl) (Nat.le_of_ble_eq_true rfl) (fun rr_92 S_93 H locs hp hw hfr hnw => ?_)
        obtain ⟨hk_94, hp⟩ := hp
        have hO_95 : Ok MAC S S_93 := hO.call hk_94 (by decide +kernel)
        obtain ⟨g_96, g_97, g_98, g_99, g_100, g_101, g_102, g_103, g_104⟩ := hp
        obtain ⟨dn_105, dn_106⟩ : ∃ d, ((qb A))[((0 : Int)).toNat]? = some d := ⟨_, List.getElem?_eq_getElem (by have := pw_5.1; omega)⟩
        have dn_107 : rr_92.toInt = (dn_105 : Int) := by have h8 := pw_5.2 _ _ dn_106; have hi : (600 * (3 * a1_z + 0) + 0).toNat = 600 * (3 * a1_z + 0).toNat + ((0 : Int)).toNat := (by omega); rw [← hi] at h8; omega
        have t_108 : pI S_93 1201 x = v_1 := hk_94.fr.I' (by decide +kernel) ha_x ev_1
        have pz_109 : (pI S_93 1201 x).toInt = v_1.toInt := (congrArg Int32.toInt t_108).trans rfl
        have zl_110 : zA S_93 x 1207 = zA S x 1207 := zA_fr hk_94.fr ha_x (ex3 (gQ_12_1207 hO.1 ha_x)) (by decide +kernel) (by decide +kernel)
        have zz_111 := congrFun zl_110 (rr_92.toInt).toNat
        have al_112 := ((MI_1 g_101 (c := rr_92.toInt) (by omega) (by omega)).2 (by omega)).2 (by omega) (by omega)
        have gi_113 := g_103 (3 * a1_z + 1).toNat; rw [if_neg (by omega)] at gi_113
        have m4_114 := g_101.2.2.2.1.2 (3 * a1_z + 1).toNat (by omega)
        refine lv_aload_n X.1 X.2.1 dX12_acts_70 rfl (lv_at hl 0 rfl) ?_
        refine lv_iload_n X.1 X.2.1 dX12_acts_71 rfl (lv_at hl 1 rfl) ?_
        refine lv_iconst (v := 1) X.1 X.2.1 dX12_acts_72 (by decide) ?_
        have t_115 : At S_93 x 12 := hk_94.fr.at ha_x
        refine k_i (rm := { frames := 1, cells := 0, slots := 0, locals := 48 }) (av := [.ref x, .int (a1), .int 1]) X hw (va_runV (As := [.int (a1), .int 1]) (rest := [.int (rr_92), .int 1, .int (a1), .ref x]) (cfix X) (k_X12_many2 l G cy κ S_93 _ x (a1) (a1_z) (1) (1) hO_95.1 t_115 hz_a1 ti_1 (by first | assumption | omega) (by first | assumption | omega) (by first | assumption | omega) (by first | assumption | omega)) (cwV 2 X.2.2.2.1 gX12_acts_X12_many rfl rfl rfl (by decide +kernel) ⟨Nat.le_of_ble_eq_true rfl, Nat.le_of_ble_eq_true rfl⟩) (pre_V X hw _ t_115 rfl (by decide) rfl) rfl rfl hl.1 rfl (lv_room (Nat.le_of_ble_eq_true rfl)) dX12_acts_73 ⟨Nat.le_of_ble_eq_true rfl, Nat.le_of_ble_eq_true rfl⟩) 0 0 (Nat.le_of_ble_eq_true rfl) (Nat.le_of_ble_eq_true rfl) (fun rr_116 S_117 H locs hp hw hfr hnw => ?_)
        obtain ⟨e2, hp⟩ := hp
        subst e2
        obtain ⟨f_118, f_119, f_120⟩ := hp
        refine k_v (rm := { frames := 1, cells := 0, slots := 0, locals := 48 }) (av := [.ref x, .int (a1), .int 1, .int (rr_92), .int (rr_116)]) X hw (va_runV (As := [.int (a1), .int 1, .int (rr_92), .int (rr_116)]) (rest := []) (cfix X) (k_X12_comes5 l G cy κ S_93 _ x (a1) (a1_z) (1) (1) (rr_92) (rr_92.toInt) (rr_116) (rr_116.toInt) hO_95.1 t_115 hz_a1 ti_1 rfl rfl (by first | assumption | omega) (by first | assumption | omega) (by first | assumption | omega) (by first | assumption | omega) (by first | assumption | omega) (by first | assumption | omega) (by first | assumption | omega) (by first | assumption | omega) (by first | assumption | omega) (by first | assumption | omega) g_101 (by first | assumption | omega) (by first | assumption | omega)) (cwV 4 X.2.2.2.1 gX12_acts_X12_comes rfl rfl rfl (by decide +kernel) ⟨Nat.le_of_ble_eq_true rfl, Nat.le_of_ble_eq_true rfl⟩) (pre_V X hw _ t_115 rfl (by decide) rfl) rfl rfl hl.1 rfl (lv_room (Nat.le_of_ble_eq_true rfl)) dX12_acts_76 ⟨Nat.le_of_ble_eq_true rfl, Nat.le_of_ble_eq_true rfl⟩) 0 0 (Nat.le_of_ble_eq_true rfl) (Nat.le_of_ble_eq_true rfl) (fun S_122 H locs hp hw hfr hnw => ?_)
        obtain ⟨hk_123, hp⟩ := hp
        have hO_124 : Ok MAC S S_122 := hO_95.call hk_123 (by decide +kernel)
        obtain ⟨mi_125, cm_126, cs_127, cx_128⟩ := hp
        have zc_129 : zA S_93 x 1237 = zA S x 1237 := zA_fr hk_94.fr ha_x (ex3 (gQ_12_1237 hO.1 ha_x)) (by decide +kernel) (by decide +kernel)
        have zc_130 : zA S_122 x 1237 = zA S x 1237 := (zA_fr hk_123.fr t_115 (ex3 (gQ_12_1237 hO_95.1 t_115)) (by decide +kernel) (by decide +kernel)).trans zc_129
        have zm_131 : ZM S S_93 x := ZM_eq hzm0 (zA_fr hk_94.fr ha_x (ex3 (gQ_12_1207 hO.1 ha_x)) (by decide +kernel) (by decide +kernel))
        have zm_132 : ZM S S_122 x := ZM_set zm_131 cs_127 ⟨by omega, by omega⟩ ⟨by omega, by omega⟩
        have rR_133 : RowR S_93 x (3 * a1_z + 0).toNat ((qb A).tail) := RowR_goes0 pw_5 g_104 (by have := pw_5.1; omega)
        have rR_134 : RowR S_122 x (3 * a1_z + 0).toNat ((qb A).tail) := RowR_cmx hO_95.1 t_115 (by omega) rR_133 cx_128
        have rR_135 : RowR S_93 x (3 * a1_z + 1).toNat (qe A) := RowR_gox hO.1 ha_x (by omega) pw_6 g_104
        have cap_137 : ((qe A)).length < 600 := by have h1 := rR_135.1; have h2 := cx_128.2.2.2.1; omega
        have rR_136 : RowR S_122 x (3 * a1_z + 1).toNat ((qe A) ++ [dn_105]) := RowR_last rR_135 (show CmO S_93 S_122 x (3 * a1_z + 1).toNat ((qe A)).length (rr_92.toInt) by rw [show ((qe A)).length = (rr_116.toInt).toNat by have := rR_135.1; omega]; exact cx_128) dn_107
        have rR_138 : RowR S_93 x (3 * a1_z + 2).toNat (ql A) := RowR_gox hO.1 ha_x (by omega) pw_7 g_104
        have rR_139 : RowR S_122 x (3 * a1_z + 2).toNat (ql A) := RowR_cmx hO_95.1 t_115 (by omega) rR_138 cx_128
        have zR_140 : zA S_93 x 1215 a1_z.toNat = ((qst A)).toInt := (congrFun (zA_fr hk_94.fr ha_x (ex3 (gQ_12_1215 hO.1 ha_x)) (by decide +kernel) (by decide +kernel)) _).trans pw_8
        have zR_141 : zA S_122 x 1215 a1_z.toNat = ((qst A)).toInt := (congrFun (zA_fr hk_123.fr t_115 (ex3 (gQ_12_1215 hO_95.1 t_115)) (by decide +kernel) (by decide +kernel)) _).trans zR_140
        have zR_142 : zA S_93 x 1214 a1_z.toNat = ((qse A)).toInt := (congrFun (zA_fr hk_94.fr ha_x (ex3 (gQ_12_1214 hO.1 ha_x)) (by decide +kernel) (by decide +kernel)) _).trans pw_9
        have zR_143 : zA S_122 x 1214 a1_z.toNat = ((qse A)).toInt := (congrFun (zA_fr hk_123.fr t_115 (ex3 (gQ_12_1214 hO_95.1 t_115)) (by decide +kernel) (by decide +kernel)) _).trans zR_142
        have zR_144 : zA S_93 x 1216 a1_z.toNat = ((qdr A)).toInt := (congrFun (zA_fr hk_94.fr ha_x (ex3 (gQ_12_1216 hO.1 ha_x)) (by decide +kernel) (by decide +kernel)) _).trans pw_11
        have zR_145 : zA S_122 x 1216 a1_z.toNat = ((qdr A)).toInt := (congrFun (zA_fr hk_123.fr t_115 (ex3 (gQ_12_1216 hO_95.1 t_115)) (by decide +kernel) (by decide +kernel)) _).trans zR_144
        have zR_146 : zA S_93 x 1217 a1_z.toNat = ((qtk A)).toInt := (congrFun (zA_fr hk_94.fr ha_x (ex3 (gQ_12_1217 hO.1 ha_x)) (by decide +kernel) (by decide +kernel)) _).trans pw_12
        have zR_147 : zA S_122 x 1217 a1_z.toNat = ((qtk A)).toInt := (congrFun (zA_fr hk_123.fr t_115 (ex3 (gQ_12_1217 hO_95.1 t_115)) (by decide +kernel) (by decide +kernel)) _).trans zR_146
        have gR_148 : GrW S_93 x a1_z.toNat (qg A) := GrW_eq (zA_fr hk_94.fr ha_x (ex3 (gQ_12_1235 hO.1 ha_x)) (by decide +kernel) (by decide +kernel)) (zA_fr hk_94.fr ha_x (ex3 (gQ_12_1236 hO.1 ha_x)) (by decide +kernel) (by decide +kernel)) (congrFun (zA_fr hk_94.fr ha_x (ex3 (gQ_12_1237 hO.1 ha_x)) (by decide +kernel) (by decide +kernel)) _) pw_10
        have gR_149 : GrW S_122 x a1_z.toNat (qg A) := GrW_eq (zA_fr hk_123.fr t_115 (ex3 (gQ_12_1235 hO_95.1 t_115)) (by decide +kernel) (by decide +kernel)) (zA_fr hk_123.fr t_115 (ex3 (gQ_12_1236 hO_95.1 t_115)) (by decide +kernel) (by decide +kernel)) (congrFun (zA_fr hk_123.fr t_115 (ex3 (gQ_12_1237 hO_95.1 t_115)) (by decide +kernel) (by decide +kernel)) _) gR_148
        have pz_150 : PlZ S_93 x (qpl A) (qsd A) := PlZ_eq pw_14 (zA_fr hk_94.fr ha_x (ex3 (gQ_12_1208 hO.1 ha_x)) (by decide +kernel) (by decide +kernel)) (zA_fr hk_94.fr ha_x (ex3 (gQ_12_1207 hO.1 ha_x)) (by decide +kernel) (by decide +kernel))
        have pz_151 : PlZ S_122 x (qpl A) (fuI (qsd A) dn_105 2) := PlZ_7 pz_150 (zA_fr hk_123.fr t_115 (ex3 (gQ_12_1208 hO_95.1 t_115)) (by decide +kernel) (by decide +kernel)) cs_127 (by omega) (by decide)
        have t_152 : pI S_93 1238 x = v_15 := hk_94.fr.I' (by decide +kernel) ha_x ev_15
        have t_153 : pI S_122 1238 x = v_15 := hk_123.fr.I' (by decide +kernel) t_115 t_152
        have pz_154 : (pI S_122 1238 x).toInt = v_15.toInt := (congrArg Int32.toInt t_153).trans rfl
        have kR_155 : SkW S_93 x (qsk A) := SkW_n (congrArg Int32.toInt (hk_94.fr.I' (by decide +kernel) ha_x rfl)) ⟨zA_fr hk_94.fr ha_x (ex3 (gQ_12_1235 hO.1 ha_x)) (by decide +kernel) (by decide +kernel), zA_fr hk_94.fr ha_x (ex3 (gQ_12_1236 hO.1 ha_x)) (by decide +kernel) (by decide +kernel), zA_fr hk_94.fr ha_x (ex3 (gQ_12_1239 hO.1 ha_x)) (by decide +kernel) (by decide +kernel), zA_fr hk_94.fr ha_x (ex3 (gQ_12_1240 hO.1 ha_x)) (by decide +kernel) (by decide +kernel), zA_fr hk_94.fr ha_x (ex3 (gQ_12_1241 hO.1 ha_x)) (by decide +kernel) (by decide +kernel), zA_fr hk_94.fr ha_x (ex3 (gQ_12_1242 hO.1 ha_x)) (by decide +kernel) (by decide +kernel)⟩ pw_13
        have kR_156 : SkW S_122 x (qsk A) := SkW_n (congrArg Int32.toInt (hk_123.fr.I' (by decide +kernel) t_115 rfl)) ⟨zA_fr hk_123.fr t_115 (ex3 (gQ_12_1235 hO_95.1 t_115)) (by decide +kernel) (by decide +kernel), zA_fr hk_123.fr t_115 (ex3 (gQ_12_1236 hO_95.1 t_115)) (by decide +kernel) (by decide +kernel), zA_fr hk_123.fr t_115 (ex3 (gQ_12_1239 hO_95.1 t_115)) (by decide +kernel) (by decide +kernel), zA_fr hk_123.fr t_115 (ex3 (gQ_12_1240 hO_95.1 t_115)) (by decide +kernel) (by decide +kernel), zA_fr hk_123.fr t_115 (ex3 (gQ_12_1241 hO_95.1 t_115)) (by decide +kernel) (by decide +kernel), zA_fr hk_123.fr t_115 (ex3 (gQ_12_1242 hO_95.1 t_115)) (by decide +kernel) (by decide +kernel)⟩ kR_155
        have px_157 : PwX S S_93 x a1_z := PwX_go (PwX_rf S x a1_z) hO.1 ha_x (by omega) g_104 (zA_fr hk_94.fr ha_x (ex3 (gQ_12_1235 hO.1 ha_x)) (by decide +kernel) (by decide +kernel)) (zA_fr hk_94.fr ha_x (ex3 (gQ_12_1236 hO.1 ha_x)) (by decide +kernel) (by decide +kernel)) (pw5 (zA_fr hk_94.fr ha_x (ex3 (gQ_12_1214 hO.1 ha_x)) (by decide +kernel) (by decide +kernel)) (zA_fr hk_94.fr ha_x (ex3 (gQ_12_1215 hO.1 ha_x)) (by decide +kernel) (by decide +kernel)) (zA_fr hk_94.fr ha_x (ex3 (gQ_12_1216 hO.1 ha_x)) (by decide +kernel) (by decide +kernel)) (zA_fr hk_94.fr ha_x (ex3 (gQ_12_1217 hO.1 ha_x)) (by decide +kernel) (by decide +kernel)) (zA_fr hk_94.fr ha_x (ex3 (gQ_12_1237 hO.1 ha_x)) (by decide +kernel) (by decide +kernel)))
        have px_158 : PwX S S_122 x a1_z := PwX_cm px_157 hO_95.1 t_115 (by omega) cx_128 (zA_fr hk_123.fr t_115 (ex3 (gQ_12_1235 hO_95.1 t_115)) (by decide +kernel) (by decide +kernel)) (zA_fr hk_123.fr t_115 (ex3 (gQ_12_1236 hO_95.1 t_115)) (by decide +kernel) (by decide +kernel)) (pw5 (zA_fr hk_123.fr t_115 (ex3 (gQ_12_1214 hO_95.1 t_115)) (by decide +kernel) (by decide +kernel)) (zA_fr hk_123.fr t_115 (ex3 (gQ_12_1215 hO_95.1 t_115)) (by decide +kernel) (by decide +kernel)) (zA_fr hk_123.fr t_115 (ex3 (gQ_12_1216 hO_95.1 t_115)) (by decide +kernel) (by decide +kernel)) (zA_fr hk_123.fr t_115 (ex3 (gQ_12_1217 hO_95.1 t_115)) (by decide +kernel) (by decide +kernel)) (zA_fr hk_123.fr t_115 (ex3 (gQ_12_1237 hO_95.1 t_115)) (by decide +kernel) (by decide +kernel)))
        have wt_159 : WsT S S_93 x Ev A A := WsT_f (WsT_rf S x Ev A) (hk_94.fr.I' (g := 1246) (by decide +kernel) ha_x rfl)
        have wt_160 : WsT S S_122 x Ev A A := WsT_f wt_159 (hk_123.fr.I' (g := 1246) (by decide +kernel) t_115 rfl)
        exact ret_v X hw hr hlocks (Nat.le_of_ble_eq_true rfl) (Nat.le_of_ble_eq_true rfl) ⟨hO_124, ⟨mi_125, fun hgr => (GR_eq zc_130 hgr), zm_132, PotW_of (B := pmk ((qb A).tail) ((qe A) ++ [dn_105]) (ql A) (qst A) (qse A) (qg A) (qpl A) (fuI (qsd A) dn_105 2) (qsk A) (qws A) (qdr A) (qtk A)) ((actF_0 (show ru.1.toInt = 0 by rw [fa_27]; have e1 : (v_25 : Int32).toInt = v_25.toInt := rfl; omega)).trans ((casF_c (hd_cons dn_106) (by have := pw_6.1; omega)).trans (by rw [capL_y (by have := pw_6.1; omega)]; rfl))) rR_134 rR_136 rR_139 zR_141 zR_143 gR_149 zR_145 zR_147 kR_156 pz_151, px_158, WsT_q wt_160 (act_ws (i32_ne ((congrArg Int32.toInt fa_27).trans rfl) t4 (by omega)))⟩⟩ dX12_acts_79
  · refine lv_tableIn (tgt := 80) X.1 X.2.1 dX12_acts_6 (by omega) (by omega) (by rw [w_28c]; rfl) (by decide) ?_
    refine lv_aload_n X.1 X.2.1 dX12_acts_80 rfl (lv_at hl 0 rfl) ?_
    refine lv_iload_n X.1 X.2.1 dX12_acts_81 rfl (lv_at hl 1 rfl) ?_
    refine lv_iconst (v := 1) X.1 X.2.1 dX12_acts_82 (by decide) ?_
    refine k_i (rm := { frames := 1, cells := 0, slots := 0, locals := 48 }) (av := [.ref x, .int (a1), .int 1]) X hw (va_runV (As := [.int (a1), .int 1]) (rest := []) (cfix X) (k_X12_many2 l G cy κ S _ x (a1) (a1_z) (1) (1) hO.1 ha_x hz_a1 ti_1 (by first | assumption | omega) (by first | assumption | omega) (by first | assumption | omega) (by first | assumption | omega)) (cwV 2 X.2.2.2.1 gX12_acts_X12_many rfl rfl rfl (by decide +kernel) ⟨Nat.le_of_ble_eq_true rfl, Nat.le_of_ble_eq_true rfl⟩) (pre_V X hw _ ha_x rfl (by decide) rfl) rfl rfl hl.1 rfl (lv_room (Nat.le_of_ble_eq_true rfl)) dX12_acts_83 ⟨Nat.le_of_ble_eq_true rfl, Nat.le_of_ble_eq_true rfl⟩) 0 0 (Nat.le_of_ble_eq_true rfl) (Nat.le_of_ble_eq_true rfl) (fun rr_161 S_162 H locs hp hw hfr hnw => ?_)
    obtain ⟨e2, hp⟩ := hp
    subst e2
    obtain ⟨f_163, f_164, f_165⟩ := hp
    refine lv_if_le (tgt := 107) X.1 X.2.1 dX12_acts_86 (by decide) (fun c_166 => ?_) (fun c_166 => ?_)
    · have z_b_167 := trivial
      have k_168 : rr_161.toInt ≤ 0 := z_le rfl ti_0 c_166
      have pz_169 : (pI S 1238 x).toInt = v_15.toInt := (congrArg Int32.toInt ev_15).trans rfl
      exact ret_v X hw hr hlocks (Nat.le_of_ble_eq_true rfl) (Nat.le_of_ble_eq_true rfl) ⟨hO, ⟨hp_4, fun hgr => hgr, hzm0, PotW_of ((actF_1 (show ru.1.toInt = 1 by rw [fa_27]; have e1 : (v_25 : Int32).toInt = v_25.toInt := rfl; omega)).trans (droF_n (fun z => by have := pw_6.1; omega))) pw_5 pw_6 pw_7 pw_8 pw_9 pw_10 pw_11 pw_12 pw_13 pw_14, (PwX_rf S x a1_z), WsT_q (WsT_rf S x Ev A) (act_ws (i32_ne ((congrArg Int32.toInt fa_27).trans rfl) t4 (by omega)))⟩⟩ dX12_acts_107
    · have z_b_170 := trivial
      have k_171 : rr_161.toInt > 0 := z_nle rfl ti_0 c_166
      refine lv_aload_n X.1 X.2.1 dX12_acts_89 rfl (lv_at hl 0 rfl) ?_
      refine lv_iload_n X.1 X.2.1 dX12_acts_90 rfl (lv_at hl 1 rfl) ?_
      refine lv_iconst (v := 0) X.1 X.2.1 dX12_acts_91 (by decide) ?_
      refine lv_aload_n X.1 X.2.1 dX12_acts_92 rfl (lv_at hl 0 rfl) ?_
      refine lv_iload_n X.1 X.2.1 dX12_acts_93 rfl (lv_at hl 1 rfl) ?_
      refine lv_iconst (v := 1) X.1 X.2.1 dX12_acts_94 (by decide) ?_
      refine lv_aload_n X.1 X.2.1 dX12_acts_95 rfl (lv_at hl 0 rfl) ?_
      refine lv_iload_n X.1 X.2.1 dX12_acts_96 rfl (lv_at hl 1 rfl) ?_
      refine k_i (rm := { frames := 4, cells := 0, slots := 0, locals := 192 }) (av := [.ref x, .int (a1)]) X hw (va_runV (As := [.int (a1)]) (rest := [.int 1, .int (a1), .ref x, .int 0, .int (a1), .ref x]) (cfix X) (k_X12_thinnest l G cy κ S _ x (a1) (a1_z) hO.1 ha_x hz_a1 (by first | assumption | omega) (by first | assumption | omega) hp_4) (cwV 1 X.2.2.2.1 gX12_acts_X12_thinnest rfl rfl rfl (by decide +kernel) ⟨Nat.le_of_ble_eq_true rfl, Nat.le_of_ble_eq_true rfl⟩) (pre_V X hw _ ha_x rfl (by decide) rfl) rfl rfl hl.1 rfl (lv_room (Nat.le_of_ble_eq_true rfl)) dX12_acts_97 ⟨Nat.le_of_ble_eq_true rfl, Nat.le_of_ble_eq_true rfl⟩) 0 0 (Nat.le_of_ble_eq_true rfl) (Nat.le_of_ble_eq_true rfl) (fun rr_172 S_173 H locs hp hw hfr hnw => ?_)
      obtain ⟨e2, hp⟩ := hp
      subst e2
      obtain ⟨tz_174, tz_175, tz_176, tz_177, tz_178⟩ := hp
      have tz_179 : rr_172.toInt = thiF Ev A := tz_178.trans (thZ_is hG ha_x hp_4 (by omega) (by omega) pw_6 hp_6 pw_14)
      refine k_i (rm := { frames := 1, cells := 0, slots := 0, locals := 48 }) (av := [.ref x, .int (a1), .int 1, .int (rr_172)]) X hw (va_runV (As := [.int (a1), .int 1, .int (rr_172)]) (rest := [.int 0, .int (a1), .ref x]) (cfix X) (k_X12_goes5 l G cy κ S _ x (a1) (a1_z) (1) (1) (rr_172) (rr_172.toInt) (-1) hO.1 ha_x hz_a1 ti_1 rfl (by first | assumption | omega) (by first | assumption | omega) (by first | assumption | omega) (by first | assumption | omega) (by first | assumption | omega) (by first | assumption | omega) hp_4) (cwV 3 X.2.2.2.1 gX12_acts_X12_goes rfl rfl rfl (by decide +kernel) ⟨Nat.le_of_ble_eq_true rfl, Nat.le_of_ble_eq_true rfl⟩) (pre_V X hw _ ha_x rfl (by decide) rfl) rfl rfl hl.1 rfl (lv_room (Nat.le_of_ble_eq_true rfl)) dX12_acts_100 ⟨Nat.le_of_ble_eq_true rfl, Nat.le_of_ble_eq_true rfl⟩) 0 0 (Nat.le_of_ble_eq_true rfl) (Nat.le_of_ble_eq_true rfl) (fun rr_180 S_181 H locs hp hw hfr hnw => ?_)
      obtain ⟨hk_182, hp⟩ := hp
      have hO_183 : Ok MAC S S_181 := hO.call hk_182 (by decide +kernel)
      obtain ⟨g_184, g_185, g_186, g_187, g_188, g_189, g_190, g_191, g_192⟩ := hp
      obtain ⟨dn_193, dn_194⟩ : ∃ d, ((qe A))[((rr_172.toInt : Int)).toNat]? = some d := ⟨_, List.getElem?_eq_getElem (by have := pw_6.1; omega)⟩
      have dn_195 : rr_180.toInt = (dn_193 : Int) := by have h8 := pw_6.2 _ _ dn_194; have hi : (600 * (3 * a1_z + 1) + rr_172.toInt).toNat = 600 * (3 * a1_z + 1).toNat + ((rr_172.toInt : Int)).toNat := (by omega); rw [← hi] at h8; omega
      have t_196 : pI S_181 1201 x = v_1 := hk_182.fr.I' (by decide +kernel) ha_x ev_1
      have pz_197 : (pI S_181 1201 x).toInt = v_1.toInt := (congrArg Int32.toInt t_196).trans rfl
      have zl_198 : zA S_181 x 1207 = zA S x 1207 := zA_fr hk_182.fr ha_x (ex3 (gQ_12_1207 hO.1 ha_x)) (by decide +kernel) (by decide +kernel)
      have zz_199 := congrFun zl_198 (rr_180.toInt).toNat
      have al_200 := ((MI_1 g_189 (c := rr_180.toInt) (by omega) (by omega)).2 (by omega)).2 (by omega) (by omega)
      have gi_201 := g_191 (3 * a1_z + 0).toNat; rw [if_neg (by omega)] at gi_201
      have m4_202 := g_189.2.2.2.1.2 (3 * a1_z + 0).toNat (by omega)
      refine lv_iconst (v := 0) X.1 X.2.1 dX12_acts_103 (by decide) ?_
      have t_203 : At S_181 x 12 := hk_182.fr.at ha_x
      refine k_v (rm := { frames := 1, cells := 0, slots := 0, locals := 48 }) (av := [.ref x, .int (a1), .int 0, .int (rr_180), .int 0]) X hw (va_runV (As := [.int (a1), .int 0, .int (rr_180), .int 0]) (rest := []) (cfix X) (k_X12_comes5 l G cy κ S_181 _ x (a1) (a1_z) (0) (0) (rr_180) (rr_180.toInt) (0) (0) hO_183.1 t_203 hz_a1 ti_0 rfl ti_0 (by first | assumption | omega) (by first | assumption | omega) (by first | assumption | omega) (by first | assumption | omega) (by first | assumption | omega) (by first | assumption | omega) (by first | assumption | omega) (by first | assumption | omega) (by first | assumption | omega) (by first | assumption | omega) g_189 (by first | assumption | omega) (by first | assumption | omega)) (cwV 4 X.2.2.2.1 gX12_acts_X12_comes rfl rfl rfl (by decide +kernel) ⟨Nat.le_of_ble_eq_true rfl, Nat.le_of_ble_eq_true rfl⟩) (pre_V X hw _ t_203 rfl (by decide) rfl) rfl rfl hl.1 rfl (lv_room (Nat.le_of_ble_eq_true rfl)) dX12_acts_104 ⟨Nat.le_of_ble_eq_true rfl, Nat.le_of_ble_eq_true rfl⟩) 0 0 (Nat.le_of_ble_eq_true rfl) (Nat.le_of_ble_eq_true rfl) (fun S_205 H locs hp hw hfr hnw => ?_)
      obtain ⟨hk_206, hp⟩ := hp
      have hO_207 : Ok MAC S S_205 := hO_183.call hk_206 (by decide +kernel)
      obtain ⟨mi_208, cm_209, cs_210, cx_211⟩ := hp
      have zc_212 : zA S_181 x 1237 = zA S x 1237 := zA_fr hk_182.fr ha_x (ex3 (gQ_12_1237 hO.1 ha_x)) (by decide +kernel) (by decide +kernel)
      have zc_213 : zA S_205 x 1237 = zA S x 1237 := (zA_fr hk_206.fr t_203 (ex3 (gQ_12_1237 hO_183.1 t_203)) (by decide +kernel) (by decide +kernel)).trans zc_212
      have zm_214 : ZM S S_181 x := ZM_eq hzm0 (zA_fr hk_182.fr ha_x (ex3 (gQ_12_1207 hO.1 ha_x)) (by decide +kernel) (by decide +kernel))
      have zm_215 : ZM S S_205 x := ZM_set zm_214 cs_210 ⟨by omega, by omega⟩ ⟨by omega, by omega⟩
      have rR_216 : RowR S_181 x (3 * a1_z + 0).toNat (qb A) := RowR_gox hO.1 ha_x (by omega) pw_5 g_192
      have cap_218 : ((qb A)).length < 600 := by have h1 := rR_216.1; have h2 := cx_211.2.2.2.1; omega
      have rR_217 : RowR S_205 x (3 * a1_z + 0).toNat (dn_193 :: (qb A)) := RowR_first rR_216 cx_211 dn_195
      have rR_219 : RowR S_181 x (3 * a1_z + 1).toNat ((qe A).eraseIdx (rr_172.toInt).toNat) := RowR_goes pw_6 g_192 (by have := pw_6.1; omega)
      have rR_220 : RowR S_205 x (3 * a1_z + 1).toNat ((qe A).eraseIdx (rr_172.toInt).toNat) := RowR_cmx hO_183.1 t_203 (by omega) rR_219 cx_211
      have rR_221 : RowR S_181 x (3 * a1_z + 2).toNat (ql A) := RowR_gox hO.1 ha_x (by omega) pw_7 g_192
      have rR_222 : RowR S_205 x (3 * a1_z + 2).toNat (ql A) := RowR_cmx hO_183.1 t_203 (by omega) rR_221 cx_211
      have zR_223 : zA S_181 x 1215 a1_z.toNat = ((qst A)).toInt := (congrFun (zA_fr hk_182.fr ha_x (ex3 (gQ_12_1215 hO.1 ha_x)) (by decide +kernel) (by decide +kernel)) _).trans pw_8
      have zR_224 : zA S_205 x 1215 a1_z.toNat = ((qst A)).toInt := (congrFun (zA_fr hk_206.fr t_203 (ex3 (gQ_12_1215 hO_183.1 t_203)) (by decide +kernel) (by decide +kernel)) _).trans zR_223
      have zR_225 : zA S_181 x 1214 a1_z.toNat = ((qse A)).toInt := (congrFun (zA_fr hk_182.fr ha_x (ex3 (gQ_12_1214 hO.1 ha_x)) (by decide +kernel) (by decide +kernel)) _).trans pw_9
      have zR_226 : zA S_205 x 1214 a1_z.toNat = ((qse A)).toInt := (congrFun (zA_fr hk_206.fr t_203 (ex3 (gQ_12_1214 hO_183.1 t_203)) (by decide +kernel) (by decide +kernel)) _).trans zR_225
      have zR_227 : zA S_181 x 1216 a1_z.toNat = ((qdr A)).toInt := (congrFun (zA_fr hk_182.fr ha_x (ex3 (gQ_12_1216 hO.1 ha_x)) (by decide +kernel) (by decide +kernel)) _).trans pw_11
      have zR_228 : zA S_205 x 1216 a1_z.toNat = ((qdr A)).toInt := (congrFun (zA_fr hk_206.fr t_203 (ex3 (gQ_12_1216 hO_183.1 t_203)) (by decide +kernel) (by decide +kernel)) _).trans zR_227
      have zR_229 : zA S_181 x 1217 a1_z.toNat = ((qtk A)).toInt := (congrFun (zA_fr hk_182.fr ha_x (ex3 (gQ_12_1217 hO.1 ha_x)) (by decide +kernel) (by decide +kernel)) _).trans pw_12
      have zR_230 : zA S_205 x 1217 a1_z.toNat = ((qtk A)).toInt := (congrFun (zA_fr hk_206.fr t_203 (ex3 (gQ_12_1217 hO_183.1 t_203)) (by decide +kernel) (by decide +kernel)) _).trans zR_229
      have gR_231 : GrW S_181 x a1_z.toNat (qg A) := GrW_eq (zA_fr hk_182.fr ha_x (ex3 (gQ_12_1235 hO.1 ha_x)) (by decide +kernel) (by decide +kernel)) (zA_fr hk_182.fr ha_x (ex3 (gQ_12_1236 hO.1 ha_x)) (by decide +kernel) (by decide +kernel)) (congrFun (zA_fr hk_182.fr ha_x (ex3 (gQ_12_1237 hO.1 ha_x)) (by decide +kernel) (by decide +kernel)) _) pw_10
      have gR_232 : GrW S_205 x a1_z.toNat (qg A) := GrW_eq (zA_fr hk_206.fr t_203 (ex3 (gQ_12_1235 hO_183.1 t_203)) (by decide +kernel) (by decide +kernel)) (zA_fr hk_206.fr t_203 (ex3 (gQ_12_1236 hO_183.1 t_203)) (by decide +kernel) (by decide +kernel)) (congrFun (zA_fr hk_206.fr t_203 (ex3 (gQ_12_1237 hO_183.1 t_203)) (by decide +kernel) (by decide +kernel)) _) gR_231
      have pz_233 : PlZ S_181 x (qpl A) (qsd A) := PlZ_eq pw_14 (zA_fr hk_182.fr ha_x (ex3 (gQ_12_1208 hO.1 ha_x)) (by decide +kernel) (by decide +kernel)) (zA_fr hk_182.fr ha_x (ex3 (gQ_12_1207 hO.1 ha_x)) (by decide +kernel) (by decide +kernel))
      have pz_234 : PlZ S_205 x (qpl A) (fuI (qsd A) dn_193 1) := PlZ_7 pz_233 (zA_fr hk_206.fr t_203 (ex3 (gQ_12_1208 hO_183.1 t_203)) (by decide +kernel) (by decide +kernel)) cs_210 (by omega) (by decide)
      have t_235 : pI S_181 1238 x = v_15 := hk_182.fr.I' (by decide +kernel) ha_x ev_15
      have t_236 : pI S_205 1238 x = v_15 := hk_206.fr.I' (by decide +kernel) t_203 t_235
      have pz_237 : (pI S_205 1238 x).toInt = v_15.toInt := (congrArg Int32.toInt t_236).trans rfl
      have kR_238 : SkW S_181 x (qsk A) := SkW_n (congrArg Int32.toInt (hk_182.fr.I' (by decide +kernel) ha_x rfl)) ⟨zA_fr hk_182.fr ha_x (ex3 (gQ_12_1235 hO.1 ha_x)) (by decide +kernel) (by decide +kernel), zA_fr hk_182.fr ha_x (ex3 (gQ_12_1236 hO.1 ha_x)) (by decide +kernel) (by decide +kernel), zA_fr hk_182.fr ha_x (ex3 (gQ_12_1239 hO.1 ha_x)) (by decide +kernel) (by decide +kernel), zA_fr hk_182.fr ha_x (ex3 (gQ_12_1240 hO.1 ha_x)) (by decide +kernel) (by decide +kernel), zA_fr hk_182.fr ha_x (ex3 (gQ_12_1241 hO.1 ha_x)) (by decide +kernel) (by decide +kernel), zA_fr hk_182.fr ha_x (ex3 (gQ_12_1242 hO.1 ha_x)) (by decide +kernel) (by decide +kernel)⟩ pw_13
      have kR_239 : SkW S_205 x (qsk A) := SkW_n (congrArg Int32.toInt (hk_206.fr.I' (by decide +kernel) t_203 rfl)) ⟨zA_fr hk_206.fr t_203 (ex3 (gQ_12_1235 hO_183.1 t_203)) (by decide +kernel) (by decide +kernel), zA_fr hk_206.fr t_203 (ex3 (gQ_12_1236 hO_183.1 t_203)) (by decide +kernel) (by decide +kernel), zA_fr hk_206.fr t_203 (ex3 (gQ_12_1239 hO_183.1 t_203)) (by decide +kernel) (by decide +kernel), zA_fr hk_206.fr t_203 (ex3 (gQ_12_1240 hO_183.1 t_203)) (by decide +kernel) (by decide +kernel), zA_fr hk_206.fr t_203 (ex3 (gQ_12_1241 hO_183.1 t_203)) (by decide +kernel) (by decide +kernel), zA_fr hk_206.fr t_203 (ex3 (gQ_12_1242 hO_183.1 t_203)) (by decide +kernel) (by decide +kernel)⟩ kR_238
      have px_240 : PwX S S_181 x a1_z := PwX_go (PwX_rf S x a1_z) hO.1 ha_x (by omega) g_192 (zA_fr hk_182.fr ha_x (ex3 (gQ_12_1235 hO.1 ha_x)) (by decide +kernel) (by decide +kernel)) (zA_fr hk_182.fr ha_x (ex3 (gQ_12_1236 hO.1 ha_x)) (by decide +kernel) (by decide +kernel)) (pw5 (zA_fr hk_182.fr ha_x (ex3 (gQ_12_1214 hO.1 ha_x)) (by decide +kernel) (by decide +kernel)) (zA_fr hk_182.fr ha_x (ex3 (gQ_12_1215 hO.1 ha_x)) (by decide +kernel) (by decide +kernel)) (zA_fr hk_182.fr ha_x (ex3 (gQ_12_1216 hO.1 ha_x)) (by decide +kernel) (by decide +kernel)) (zA_fr hk_182.fr ha_x (ex3 (gQ_12_1217 hO.1 ha_x)) (by decide +kernel) (by decide +kernel)) (zA_fr hk_182.fr ha_x (ex3 (gQ_12_1237 hO.1 ha_x)) (by decide +kernel) (by decide +kernel)))
      have px_241 : PwX S S_205 x a1_z := PwX_cm px_240 hO_183.1 t_203 (by omega) cx_211 (zA_fr hk_206.fr t_203 (ex3 (gQ_12_1235 hO_183.1 t_203)) (by decide +kernel) (by decide +kernel)) (zA_fr hk_206.fr t_203 (ex3 (gQ_12_1236 hO_183.1 t_203)) (by decide +kernel) (by decide +kernel)) (pw5 (zA_fr hk_206.fr t_203 (ex3 (gQ_12_1214 hO_183.1 t_203)) (by decide +kernel) (by decide +kernel)) (zA_fr hk_206.fr t_203 (ex3 (gQ_12_1215 hO_183.1 t_203)) (by decide +kernel) (by decide +kernel)) (zA_fr hk_206.fr t_203 (ex3 (gQ_12_1216 hO_183.1 t_203)) (by decide +kernel) (by decide +kernel)) (zA_fr hk_206.fr t_203 (ex3 (gQ_12_1217 hO_183.1 t_203)) (by decide +kernel) (by decide +kernel)) (zA_fr hk_206.fr t_203 (ex3 (gQ_12_1237 hO_183.1 t_203)) (by decide +kernel) (by decide +kernel)))
      have wt_242 : WsT S S_181 x Ev A A := WsT_f (WsT_rf S x Ev A) (hk_182.fr.I' (g := 1246) (by decide +kernel) ha_x rfl)
      have wt_243 : WsT S S_205 x Ev A A := WsT_f wt_242 (hk_206.fr.I' (g := 1246) (by decide +kernel) t_203 rfl)
      exact ret_v X hw hr hlocks (Nat.le_of_ble_eq_true rfl) (Nat.le_of_ble_eq_true rfl) ⟨hO_207, ⟨mi_208, fun hgr => (GR_eq zc_213 hgr), zm_215, PotW_of (B := pmk (dn_193 :: (qb A)) ((qe A).eraseIdx (rr_172.toInt).toNat) (ql A) (qst A) (qse A) (qg A) (qpl A) (fuI (qsd A) dn_193 1) (qsk A) (qws A) (qdr A) (qtk A)) ((actF_1 (show ru.1.toInt = 1 by rw [fa_27]; have e1 : (v_25 : Int32).toInt = v_25.toInt := rfl; omega)).trans ((droF_c (E := Ev) (by omega) (by rw [← tz_179]; exact dn_194)).trans (by rw [← tz_179, capF_y cap_218]; rfl))) rR_217 rR_220 rR_222 zR_224 zR_226 gR_232 zR_228 zR_230 kR_239 pz_234, px_241, WsT_q wt_243 (act_ws (i32_ne ((congrArg Int32.toInt fa_27).trans rfl) t4 (by omega)))⟩⟩ dX12_acts_107
  · refine lv_tableIn (tgt := 108) X.1 X.2.1 dX12_acts_6 (by omega) (by omega) (by rw [w_28c]; rfl) (by decide) ?_
    refine lv_aload_n X.1 X.2.1 dX12_acts_108 rfl (lv_at hl 0 rfl) ?_
    refine lv_iload_n X.1 X.2.1 dX12_acts_109 rfl (lv_at hl 1 rfl) ?_
    refine lv_iconst (v := 2) X.1 X.2.1 dX12_acts_110 (by decide) ?_
    refine k_i (rm := { frames := 1, cells := 0, slots := 0, locals := 48 }) (av := [.ref x, .int (a1), .int 2]) X hw (va_runV (As := [.int (a1), .int 2]) (rest := []) (cfix X) (k_X12_many2 l G cy κ S _ x (a1) (a1_z) (2) (2) hO.1 ha_x hz_a1 ti_2 (by first | assumption | omega) (by first | assumption | omega) (by first | assumption | omega) (by first | assumption | omega)) (cwV 2 X.2.2.2.1 gX12_acts_X12_many rfl rfl rfl (by decide +kernel) ⟨Nat.le_of_ble_eq_true rfl, Nat.le_of_ble_eq_true rfl⟩) (pre_V X hw _ ha_x rfl (by decide) rfl) rfl rfl hl.1 rfl (lv_room (Nat.le_of_ble_eq_true rfl)) dX12_acts_111 ⟨Nat.le_of_ble_eq_true rfl, Nat.le_of_ble_eq_true rfl⟩) 0 0 (Nat.le_of_ble_eq_true rfl) (Nat.le_of_ble_eq_true rfl) (fun rr_244 S_245 H locs hp hw hfr hnw => ?_)
    obtain ⟨e2, hp⟩ := hp
    subst e2
    obtain ⟨f_246, f_247, f_248⟩ := hp
    refine lv_if_ne (tgt := 118) X.1 X.2.1 dX12_acts_114 (by decide) (fun c_249 => ?_) (fun c_249 => ?_)
    · have z_b_250 := trivial
      have k_251 : rr_244.toInt ≠ 0 := z_ne rfl ti_0 c_249
      refine lv_aload_n X.1 X.2.1 dX12_acts_118 rfl (lv_at hl 0 rfl) ?_
      refine lv_iload_n X.1 X.2.1 dX12_acts_119 rfl (lv_at hl 1 rfl) ?_
      refine lv_iconst (v := 0) X.1 X.2.1 dX12_acts_120 (by decide) ?_
      refine lv_aload_n X.1 X.2.1 dX12_acts_121 rfl (lv_at hl 0 rfl) ?_
      refine lv_iload_n X.1 X.2.1 dX12_acts_122 rfl (lv_at hl 1 rfl) ?_
      refine lv_iconst (v := 2) X.1 X.2.1 dX12_acts_123 (by decide) ?_
      refine lv_iconst (v := 0) X.1 X.2.1 dX12_acts_124 (by decide) ?_
      refine k_i (rm := { frames := 1, cells := 0, slots := 0, locals := 48 }) (av := [.ref x, .int (a1), .int 2, .int 0]) X hw (va_runV (As := [.int (a1), .int 2, .int 0]) (rest := [.int 0, .int (a1), .ref x]) (cfix X) (k_X12_goes5 l G cy κ S _ x (a1) (a1_z) (2) (2) (0) (0) (-1) hO.1 ha_x hz_a1 ti_2 ti_0 (by first | assumption | omega) (by first | assumption | omega) (by first | assumption | omega) (by first | assumption | omega) (by first | assumption | omega) (by first | assumption | omega) hp_4) (cwV 3 X.2.2.2.1 gX12_acts_X12_goes rfl rfl rfl (by decide +kernel) ⟨Nat.le_of_ble_eq_true rfl, Nat.le_of_ble_eq_true rfl⟩) (pre_V X hw _ ha_x rfl (by decide) rfl) rfl rfl hl.1 rfl (lv_room (Nat.le_of_ble_eq_true rfl)) dX12_acts_125 ⟨Nat.le_of_ble_eq_true rfl, Nat.le_of_ble_eq_true rfl⟩) 0 0 (Nat.le_of_ble_eq_true rfl) (Nat.le_of_ble_eq_true rfl) (fun rr_252 S_253 H locs hp hw hfr hnw => ?_)
      obtain ⟨hk_254, hp⟩ := hp
      have hO_255 : Ok MAC S S_253 := hO.call hk_254 (by decide +kernel)
      obtain ⟨g_256, g_257, g_258, g_259, g_260, g_261, g_262, g_263, g_264⟩ := hp
      obtain ⟨dn_265, dn_266⟩ : ∃ d, ((ql A))[((0 : Int)).toNat]? = some d := ⟨_, List.getElem?_eq_getElem (by have := pw_7.1; omega)⟩
      have dn_267 : rr_252.toInt = (dn_265 : Int) := by have h8 := pw_7.2 _ _ dn_266; have hi : (600 * (3 * a1_z + 2) + 0).toNat = 600 * (3 * a1_z + 2).toNat + ((0 : Int)).toNat := (by omega); rw [← hi] at h8; omega
      have t_268 : pI S_253 1201 x = v_1 := hk_254.fr.I' (by decide +kernel) ha_x ev_1
      have pz_269 : (pI S_253 1201 x).toInt = v_1.toInt := (congrArg Int32.toInt t_268).trans rfl
      have zl_270 : zA S_253 x 1207 = zA S x 1207 := zA_fr hk_254.fr ha_x (ex3 (gQ_12_1207 hO.1 ha_x)) (by decide +kernel) (by decide +kernel)
      have zz_271 := congrFun zl_270 (rr_252.toInt).toNat
      have al_272 := ((MI_1 g_261 (c := rr_252.toInt) (by omega) (by omega)).2 (by omega)).2 (by omega) (by omega)
      have gi_273 := g_263 (3 * a1_z + 0).toNat; rw [if_neg (by omega)] at gi_273
      have m4_274 := g_261.2.2.2.1.2 (3 * a1_z + 0).toNat (by omega)
      refine lv_aload_n X.1 X.2.1 dX12_acts_128 rfl (lv_at hl 0 rfl) ?_
      refine lv_iload_n X.1 X.2.1 dX12_acts_129 rfl (lv_at hl 1 rfl) ?_
      refine lv_iconst (v := 0) X.1 X.2.1 dX12_acts_130 (by decide) ?_
      have t_275 : At S_253 x 12 := hk_254.fr.at ha_x
      refine k_i (rm := { frames := 1, cells := 0, slots := 0, locals := 48 }) (av := [.ref x, .int (a1), .int 0]) X hw (va_runV (As := [.int (a1), .int 0]) (rest := [.int (rr_252), .int 0, .int (a1), .ref x]) (cfix X) (k_X12_many2 l G cy κ S_253 _ x (a1) (a1_z) (0) (0) hO_255.1 t_275 hz_a1 ti_0 (by first | assumption | omega) (by first | assumption | omega) (by first | assumption | omega) (by first | assumption | omega)) (cwV 2 X.2.2.2.1 gX12_acts_X12_many rfl rfl rfl (by decide +kernel) ⟨Nat.le_of_ble_eq_true rfl, Nat.le_of_ble_eq_true rfl⟩) (pre_V X hw _ t_275 rfl (by decide) rfl) rfl rfl hl.1 rfl (lv_room (Nat.le_of_ble_eq_true rfl)) dX12_acts_131 ⟨Nat.le_of_ble_eq_true rfl, Nat.le_of_ble_eq_true rfl⟩) 0 0 (Nat.le_of_ble_eq_true rfl) (Nat.le_of_ble_eq_true rfl) (fun rr_276 S_277 H locs hp hw hfr hnw => ?_)
      obtain ⟨e2, hp⟩ := hp
      subst e2
      obtain ⟨f_278, f_279, f_280⟩ := hp
      refine k_v (rm := { frames := 1, cells := 0, slots := 0, locals := 48 }) (av := [.ref x, .int (a1), .int 0, .int (rr_252), .int (rr_276)]) X hw (va_runV (As := [.int (a1), .int 0, .int (rr_252), .int (rr_276)]) (rest := []) (cfix X) (k_X12_comes5 l G cy κ S_253 _ x (a1) (a1_z) (0) (0) (rr_252) (rr_252.toInt) (rr_276) (rr_276.toInt) hO_255.1 t_275 hz_a1 ti_0 rfl rfl (by first | assumption | omega) (by first | assumption | omega) (by first | assumption | omega) (by first | assumption | omega) (by first | assumption | omega) (by first | assumption | omega) (by first | assumption | omega) (by first | assumption | omega) (by first | assumption | omega) (by first | assumption | omega) g_261 (by first | assumption | omega) (by first | assumption | omega)) (cwV 4 X.2.2.2.1 gX12_acts_X12_comes rfl rfl rfl (by decide +kernel) ⟨Nat.le_of_ble_eq_true rfl, Nat.le_of_ble_eq_true rfl⟩) (pre_V X hw _ t_275 rfl (by decide) rfl) rfl rfl hl.1 rfl (lv_room (Nat.le_of_ble_eq_true rfl)) dX12_acts_134 ⟨Nat.le_of_ble_eq_true rfl, Nat.le_of_ble_eq_true rfl⟩) 0 0 (Nat.le_of_ble_eq_true rfl) (Nat.le_of_ble_eq_true rfl) (fun S_282 H locs hp hw hfr hnw => ?_)
      obtain ⟨hk_283, hp⟩ := hp
      have hO_284 : Ok MAC S S_282 := hO_255.call hk_283 (by decide +kernel)
      obtain ⟨mi_285, cm_286, cs_287, cx_288⟩ := hp
      refine lv_aload_n X.1 X.2.1 dX12_acts_137 rfl (lv_at hl 0 rfl) ?_
      refine lv_iload_n X.1 X.2.1 dX12_acts_138 rfl (lv_at hl 1 rfl) ?_
      refine lv_iconst (v := 2) X.1 X.2.1 dX12_acts_139 (by decide) ?_
      have t_289 : At S_282 x 12 := hk_283.fr.at t_275
      refine k_i (rm := { frames := 1, cells := 0, slots := 0, locals := 48 }) (av := [.ref x, .int (a1), .int 2]) X hw (va_runV (As := [.int (a1), .int 2]) (rest := []) (cfix X) (k_X12_many2 l G cy κ S_282 _ x (a1) (a1_z) (2) (2) hO_284.1 t_289 hz_a1 ti_2 (by first | assumption | omega) (by first | assumption | omega) (by first | assumption | omega) (by first | assumption | omega)) (cwV 2 X.2.2.2.1 gX12_acts_X12_many rfl rfl rfl (by decide +kernel) ⟨Nat.le_of_ble_eq_true rfl, Nat.le_of_ble_eq_true rfl⟩) (pre_V X hw _ t_289 rfl (by decide) rfl) rfl rfl hl.1 rfl (lv_room (Nat.le_of_ble_eq_true rfl)) dX12_acts_140 ⟨Nat.le_of_ble_eq_true rfl, Nat.le_of_ble_eq_true rfl⟩) 0 0 (Nat.le_of_ble_eq_true rfl) (Nat.le_of_ble_eq_true rfl) (fun rr_290 S_291 H locs hp hw hfr hnw => ?_)
      obtain ⟨e2, hp⟩ := hp
      subst e2
      obtain ⟨f_292, f_293, f_294⟩ := hp
      have rR_295 : RowR S_253 x (3 * a1_z + 2).toNat ((ql A).tail) := RowR_goes0 pw_7 g_264 (by have := pw_7.1; omega)
      have rR_296 : RowR S_282 x (3 * a1_z + 2).toNat ((ql A).tail) := RowR_cmx hO_255.1 t_275 (by omega) rR_295 cx_288
      refine lv_if_ne (tgt := 153) X.1 X.2.1 dX12_acts_143 (by decide) (fun c_297 => ?_) (fun c_297 => ?_)
      · have z_b_298 := trivial
        have k_299 : rr_290.toInt ≠ 0 := z_ne rfl ti_0 c_297
        refine lv_aload_n X.1 X.2.1 dX12_acts_153 rfl (lv_at hl 0 rfl) ?_
        obtain ⟨q_300, h_301, h_302, h_303⟩ := gQ_12_1215 hO_284.1 t_289
        refine r_getR (g := 1215) X hw t_289 rfl 15 h_301 (by decide) rfl inn_X12_acts_12 (by decide) (X.2.2.2.1 (.fieldLink RX12 46 "SilkMillModel" "stop" "[I") (by decide +kernel)) rfl (gv_1215 _ _) dX12_acts_154 ?_
        refine lv_iload_n X.1 X.2.1 dX12_acts_157 rfl (lv_at hl 1 rfl) ?_
        refine lv_dup2_11 X.1 X.2.1 dX12_acts_158 rfl rfl ?_
        refine r_iald X hw h_302 rfl (by rw [h_303]; exact z_ix hz_a1 (by omega) (by omega)) dX12_acts_159 ?_
        refine lv_topi (fun v_304 ev_304 => ?_)
        have rg_305 := And.intro (z_lo v_304) (z_hi v_304)
        have ev_304 := ev_304.symm
        have zR_306 : zA S_253 x 1215 a1_z.toNat = ((qst A)).toInt := (congrFun (zA_fr hk_254.fr ha_x (ex3 (gQ_12_1215 hO.1 ha_x)) (by decide +kernel) (by decide +kernel)) _).trans pw_8
        have zR_307 : zA S_282 x 1215 a1_z.toNat = ((qst A)).toInt := (congrFun (zA_fr hk_283.fr t_275 (ex3 (gQ_12_1215 hO_255.1 t_275)) (by decide +kernel) (by decide +kernel)) _).trans zR_306
        have zf_308 : zA S_282 x 1215 (a1_z).toNat = v_304.toInt := (zA_of h_301 hz_a1 (by omega) ev_304)
        have us_309 : v_304 = (qst A) := Int32.toInt_inj.mp (rfl.trans (zf_308.symm.trans zR_307))
        refine lv_iconst (v := 2) X.1 X.2.1 dX12_acts_160 (by decide) ?_
        refine lv_iadd X.1 X.2.1 dX12_acts_161 ?_
        refine lv_topi (fun v_310 ev_310 => ?_)
        have rg_311 := And.intro (z_lo v_310) (z_hi v_310)
        refine r_iast X hw h_302 rfl (by rw [h_303]; exact z_ix hz_a1 (by omega) (by omega)) dX12_acts_162 (fun H locs hw => ?_)
        obtain ⟨S_312, eS_312⟩ : ∃ T, T = sA S_282 q_300 (upd (pA S_282 q_300) (Int32.toNatClampNeg (a1)) (v_310)) := ⟨_, rfl⟩
        rw [← eS_312] at hw
        have hO_313 : Ok MAC S S_312 := hO_284.sA eS_312 h_302 (by decide +kernel) (uA_514 hO_284.1 h_302)
        have h_314 : pA S_312 q_300 (Int32.toNatClampNeg (a1)) = v_310 := tA_sAs eS_312
        have t_315 : pR S_312 1215 x = some q_300 := tR_sA eS_312 h_301
        have t_317 : pR S_282 1215 x = some q_300 := by have h := t_315; rw [eS_312, pR_sA] at h; exact h
        have zs_316 : ∀ j, zA S_312 x 1215 j = if j = (a1_z).toNat then v_310.toInt else zA S_282 x 1215 j := by have h := zA_sAs eS_312 t_317 rfl; rw [z_nc hz_a1 (by omega)] at h; exact h
        have mi_318 : MIe S_312 x (-1) := MIe_sA mi_285 hO_284.1 t_289 h_302 eS_312 (by decide +kernel)
        have zc_319 : zA S_253 x 1237 = zA S x 1237 := zA_fr hk_254.fr ha_x (ex3 (gQ_12_1237 hO.1 ha_x)) (by decide +kernel) (by decide +kernel)
        have zc_320 : zA S_282 x 1237 = zA S x 1237 := (zA_fr hk_283.fr t_275 (ex3 (gQ_12_1237 hO_255.1 t_275)) (by decide +kernel) (by decide +kernel)).trans zc_319
        have zc_321 : zA S_312 x 1237 = zA S x 1237 := (zA_sAn eS_312 (ex3 (gQ_12_1237 hO_284.1 t_289)) h_302 rfl).trans zc_320
        have zm_322 : ZM S S_253 x := ZM_eq hzm0 (zA_fr hk_254.fr ha_x (ex3 (gQ_12_1207 hO.1 ha_x)) (by decide +kernel) (by decide +kernel))
        have zm_323 : ZM S S_282 x := ZM_set zm_322 cs_287 ⟨by omega, by omega⟩ ⟨by omega, by omega⟩
        have zm_324 : ZM S S_312 x := ZM_eq zm_323 (zA_sAn eS_312 (ex3 (gQ_12_1207 hO_284.1 t_289)) h_302 rfl)
        have rR_325 : RowR S_253 x (3 * a1_z + 0).toNat (qb A) := RowR_gox hO.1 ha_x (by omega) pw_5 g_264
        have cap_327 : ((qb A)).length < 600 := by have h1 := rR_325.1; have h2 := cx_288.2.2.2.1; omega
        have rR_326 : RowR S_282 x (3 * a1_z + 0).toNat ((qb A) ++ [dn_265]) := RowR_last rR_325 (show CmO S_253 S_282 x (3 * a1_z + 0).toNat ((qb A)).length (rr_252.toInt) by rw [show ((qb A)).length = (rr_276.toInt).toNat by have := rR_325.1; omega]; exact cx_288) dn_267
        have rR_328 : RowR S_312 x (3 * a1_z + 0).toNat ((qb A) ++ [dn_265]) := RowR_eq rR_326 (zA_sAn eS_312 (ex3 (gQ_12_1218 hO_284.1 t_289)) h_302 rfl) (zA_sAn eS_312 (ex3 (gQ_12_1219 hO_284.1 t_289)) h_302 rfl)
        have rR_329 : RowR S_253 x (3 * a1_z + 1).toNat (qe A) := RowR_gox hO.1 ha_x (by omega) pw_6 g_264
        have rR_330 : RowR S_282 x (3 * a1_z + 1).toNat (qe A) := RowR_cmx hO_255.1 t_275 (by omega) rR_329 cx_288
        have rR_331 : RowR S_312 x (3 * a1_z + 1).toNat (qe A) := RowR_eq rR_330 (zA_sAn eS_312 (ex3 (gQ_12_1218 hO_284.1 t_289)) h_302 rfl) (zA_sAn eS_312 (ex3 (gQ_12_1219 hO_284.1 t_289)) h_302 rfl)
        have rR_332 : RowR S_312 x (3 * a1_z + 2).toNat ((ql A).tail) := RowR_eq rR_296 (zA_sAn eS_312 (ex3 (gQ_12_1218 hO_284.1 t_289)) h_302 rfl) (zA_sAn eS_312 (ex3 (gQ_12_1219 hO_284.1 t_289)) h_302 rfl)
        have zR_333 : zA S_312 x 1215 a1_z.toNat = (((qst A) + 2)).toInt := (by rw [zs_316, if_pos (by omega)]; exact (congrArg Int32.toInt (ev_310.trans (by rw [us_309]))))
        have zR_334 : zA S_253 x 1214 a1_z.toNat = ((qse A)).toInt := (congrFun (zA_fr hk_254.fr ha_x (ex3 (gQ_12_1214 hO.1 ha_x)) (by decide +kernel) (by decide +kernel)) _).trans pw_9
        have zR_335 : zA S_282 x 1214 a1_z.toNat = ((qse A)).toInt := (congrFun (zA_fr hk_283.fr t_275 (ex3 (gQ_12_1214 hO_255.1 t_275)) (by decide +kernel) (by decide +kernel)) _).trans zR_334
        have zR_336 : zA S_312 x 1214 a1_z.toNat = ((qse A)).toInt := (congrFun (zA_sAn eS_312 (ex3 (gQ_12_1214 hO_284.1 t_289)) h_302 rfl) _).trans zR_335
        have zR_337 : zA S_253 x 1216 a1_z.toNat = ((qdr A)).toInt := (congrFun (zA_fr hk_254.fr ha_x (ex3 (gQ_12_1216 hO.1 ha_x)) (by decide +kernel) (by decide +kernel)) _).trans pw_11
        have zR_338 : zA S_282 x 1216 a1_z.toNat = ((qdr A)).toInt := (congrFun (zA_fr hk_283.fr t_275 (ex3 (gQ_12_1216 hO_255.1 t_275)) (by decide +kernel) (by decide +kernel)) _).trans zR_337
        have zR_339 : zA S_312 x 1216 a1_z.toNat = ((qdr A)).toInt := (congrFun (zA_sAn eS_312 (ex3 (gQ_12_1216 hO_284.1 t_289)) h_302 rfl) _).trans zR_338
        have zR_340 : zA S_253 x 1217 a1_z.toNat = ((qtk A)).toInt := (congrFun (zA_fr hk_254.fr ha_x (ex3 (gQ_12_1217 hO.1 ha_x)) (by decide +kernel) (by decide +kernel)) _).trans pw_12
        have zR_341 : zA S_282 x 1217 a1_z.toNat = ((qtk A)).toInt := (congrFun (zA_fr hk_283.fr t_275 (ex3 (gQ_12_1217 hO_255.1 t_275)) (by decide +kernel) (by decide +kernel)) _).trans zR_340
        have zR_342 : zA S_312 x 1217 a1_z.toNat = ((qtk A)).toInt := (congrFun (zA_sAn eS_312 (ex3 (gQ_12_1217 hO_284.1 t_289)) h_302 rfl) _).trans zR_341
        have gR_343 : GrW S_253 x a1_z.toNat (qg A) := GrW_eq (zA_fr hk_254.fr ha_x (ex3 (gQ_12_1235 hO.1 ha_x)) (by decide +kernel) (by decide +kernel)) (zA_fr hk_254.fr ha_x (ex3 (gQ_12_1236 hO.1 ha_x)) (by decide +kernel) (by decide +kernel)) (congrFun (zA_fr hk_254.fr ha_x (ex3 (gQ_12_1237 hO.1 ha_x)) (by decide +kernel) (by decide +kernel)) _) pw_10
        have gR_344 : GrW S_282 x a1_z.toNat (qg A) := GrW_eq (zA_fr hk_283.fr t_275 (ex3 (gQ_12_1235 hO_255.1 t_275)) (by decide +kernel) (by decide +kernel)) (zA_fr hk_283.fr t_275 (ex3 (gQ_12_1236 hO_255.1 t_275)) (by decide +kernel) (by decide +kernel)) (congrFun (zA_fr hk_283.fr t_275 (ex3 (gQ_12_1237 hO_255.1 t_275)) (by decide +kernel) (by decide +kernel)) _) gR_343
        have gR_345 : GrW S_312 x a1_z.toNat (qg A) := GrW_eq (zA_sAn eS_312 (ex3 (gQ_12_1235 hO_284.1 t_289)) h_302 rfl) (zA_sAn eS_312 (ex3 (gQ_12_1236 hO_284.1 t_289)) h_302 rfl) (congrFun (zA_sAn eS_312 (ex3 (gQ_12_1237 hO_284.1 t_289)) h_302 rfl) _) gR_344
        have pz_346 : PlZ S_253 x (qpl A) (qsd A) := PlZ_eq pw_14 (zA_fr hk_254.fr ha_x (ex3 (gQ_12_1208 hO.1 ha_x)) (by decide +kernel) (by decide +kernel)) (zA_fr hk_254.fr ha_x (ex3 (gQ_12_1207 hO.1 ha_x)) (by decide +kernel) (by decide +kernel))
        have pz_347 : PlZ S_282 x (qpl A) (fuI (qsd A) dn_265 1) := PlZ_7 pz_346 (zA_fr hk_283.fr t_275 (ex3 (gQ_12_1208 hO_255.1 t_275)) (by decide +kernel) (by decide +kernel)) cs_287 (by omega) (by decide)
        have pz_348 : PlZ S_312 x (qpl A) (fuI (qsd A) dn_265 1) := PlZ_eq pz_347 (zA_sAn eS_312 (ex3 (gQ_12_1208 hO_284.1 t_289)) h_302 rfl) (zA_sAn eS_312 (ex3 (gQ_12_1207 hO_284.1 t_289)) h_302 rfl)
        have t_349 : pI S_253 1238 x = v_15 := hk_254.fr.I' (by decide +kernel) ha_x ev_15
        have t_350 : pI S_282 1238 x = v_15 := hk_283.fr.I' (by decide +kernel) t_275 t_349
        have t_351 : pI S_312 1238 x = v_15 := tI_sA eS_312 t_350
        have pz_352 : (pI S_312 1238 x).toInt = v_15.toInt := (congrArg Int32.toInt t_351).trans rfl
        have kR_353 : SkW S_253 x (qsk A) := SkW_n (congrArg Int32.toInt (hk_254.fr.I' (by decide +kernel) ha_x rfl)) ⟨zA_fr hk_254.fr ha_x (ex3 (gQ_12_1235 hO.1 ha_x)) (by decide +kernel) (by decide +kernel), zA_fr hk_254.fr ha_x (ex3 (gQ_12_1236 hO.1 ha_x)) (by decide +kernel) (by decide +kernel), zA_fr hk_254.fr ha_x (ex3 (gQ_12_1239 hO.1 ha_x)) (by decide +kernel) (by decide +kernel), zA_fr hk_254.fr ha_x (ex3 (gQ_12_1240 hO.1 ha_x)) (by decide +kernel) (by decide +kernel), zA_fr hk_254.fr ha_x (ex3 (gQ_12_1241 hO.1 ha_x)) (by decide +kernel) (by decide +kernel), zA_fr hk_254.fr ha_x (ex3 (gQ_12_1242 hO.1 ha_x)) (by decide +kernel) (by decide +kernel)⟩ pw_13
        have kR_354 : SkW S_282 x (qsk A) := SkW_n (congrArg Int32.toInt (hk_283.fr.I' (by decide +kernel) t_275 rfl)) ⟨zA_fr hk_283.fr t_275 (ex3 (gQ_12_1235 hO_255.1 t_275)) (by decide +kernel) (by decide +kernel), zA_fr hk_283.fr t_275 (ex3 (gQ_12_1236 hO_255.1 t_275)) (by decide +kernel) (by decide +kernel), zA_fr hk_283.fr t_275 (ex3 (gQ_12_1239 hO_255.1 t_275)) (by decide +kernel) (by decide +kernel), zA_fr hk_283.fr t_275 (ex3 (gQ_12_1240 hO_255.1 t_275)) (by decide +kernel) (by decide +kernel), zA_fr hk_283.fr t_275 (ex3 (gQ_12_1241 hO_255.1 t_275)) (by decide +kernel) (by decide +kernel), zA_fr hk_283.fr t_275 (ex3 (gQ_12_1242 hO_255.1 t_275)) (by decide +kernel) (by decide +kernel)⟩ kR_353
        have kR_355 : SkW S_312 x (qsk A) := SkW_n (by rw [eS_312]; rfl) ⟨zA_sAn eS_312 (ex3 (gQ_12_1235 hO_284.1 t_289)) h_302 rfl, zA_sAn eS_312 (ex3 (gQ_12_1236 hO_284.1 t_289)) h_302 rfl, zA_sAn eS_312 (ex3 (gQ_12_1239 hO_284.1 t_289)) h_302 rfl, zA_sAn eS_312 (ex3 (gQ_12_1240 hO_284.1 t_289)) h_302 rfl, zA_sAn eS_312 (ex3 (gQ_12_1241 hO_284.1 t_289)) h_302 rfl, zA_sAn eS_312 (ex3 (gQ_12_1242 hO_284.1 t_289)) h_302 rfl⟩ kR_354
        have px_356 : PwX S S_253 x a1_z := PwX_go (PwX_rf S x a1_z) hO.1 ha_x (by omega) g_264 (zA_fr hk_254.fr ha_x (ex3 (gQ_12_1235 hO.1 ha_x)) (by decide +kernel) (by decide +kernel)) (zA_fr hk_254.fr ha_x (ex3 (gQ_12_1236 hO.1 ha_x)) (by decide +kernel) (by decide +kernel)) (pw5 (zA_fr hk_254.fr ha_x (ex3 (gQ_12_1214 hO.1 ha_x)) (by decide +kernel) (by decide +kernel)) (zA_fr hk_254.fr ha_x (ex3 (gQ_12_1215 hO.1 ha_x)) (by decide +kernel) (by decide +kernel)) (zA_fr hk_254.fr ha_x (ex3 (gQ_12_1216 hO.1 ha_x)) (by decide +kernel) (by decide +kernel)) (zA_fr hk_254.fr ha_x (ex3 (gQ_12_1217 hO.1 ha_x)) (by decide +kernel) (by decide +kernel)) (zA_fr hk_254.fr ha_x (ex3 (gQ_12_1237 hO.1 ha_x)) (by decide +kernel) (by decide +kernel)))
        have px_357 : PwX S S_282 x a1_z := PwX_cm px_356 hO_255.1 t_275 (by omega) cx_288 (zA_fr hk_283.fr t_275 (ex3 (gQ_12_1235 hO_255.1 t_275)) (by decide +kernel) (by decide +kernel)) (zA_fr hk_283.fr t_275 (ex3 (gQ_12_1236 hO_255.1 t_275)) (by decide +kernel) (by decide +kernel)) (pw5 (zA_fr hk_283.fr t_275 (ex3 (gQ_12_1214 hO_255.1 t_275)) (by decide +kernel) (by decide +kernel)) (zA_fr hk_283.fr t_275 (ex3 (gQ_12_1215 hO_255.1 t_275)) (by decide +kernel) (by decide +kernel)) (zA_fr hk_283.fr t_275 (ex3 (gQ_12_1216 hO_255.1 t_275)) (by decide +kernel) (by decide +kernel)) (zA_fr hk_283.fr t_275 (ex3 (gQ_12_1217 hO_255.1 t_275)) (by decide +kernel) (by decide +kernel)) (zA_fr hk_283.fr t_275 (ex3 (gQ_12_1237 hO_255.1 t_275)) (by decide +kernel) (by decide +kernel)))
        have px_358 : PwX S S_312 x a1_z := PwX_z px_357 (zA_sAn eS_312 (ex3 (gQ_12_1218 hO_284.1 t_289)) h_302 rfl) (zA_sAn eS_312 (ex3 (gQ_12_1219 hO_284.1 t_289)) h_302 rfl) (zA_sAn eS_312 (ex3 (gQ_12_1235 hO_284.1 t_289)) h_302 rfl) (zA_sAn eS_312 (ex3 (gQ_12_1236 hO_284.1 t_289)) h_302 rfl) zs_316 (by omega) (pw4 (fun _ => zA_sAn eS_312 (ex3 (gQ_12_1214 hO_284.1 t_289)) h_302 rfl) (fun h => absurd rfl h) (fun _ => zA_sAn eS_312 (ex3 (gQ_12_1216 hO_284.1 t_289)) h_302 rfl) (fun _ => zA_sAn eS_312 (ex3 (gQ_12_1217 hO_284.1 t_289)) h_302 rfl) (fun _ => zA_sAn eS_312 (ex3 (gQ_12_1237 hO_284.1 t_289)) h_302 rfl))
        have wt_359 : WsT S S_253 x Ev A A := WsT_f (WsT_rf S x Ev A) (hk_254.fr.I' (g := 1246) (by decide +kernel) ha_x rfl)
        have wt_360 : WsT S S_282 x Ev A A := WsT_f wt_359 (hk_283.fr.I' (g := 1246) (by decide +kernel) t_275 rfl)
        have wt_361 : WsT S S_312 x Ev A A := WsT_f wt_360 (by rw [eS_312]; rfl)
        exact ret_v X hw hr hlocks (Nat.le_of_ble_eq_true rfl) (Nat.le_of_ble_eq_true rfl) ⟨hO_313, ⟨mi_318, fun hgr => (GR_eq zc_321 hgr), zm_324, PotW_of (B := pmk ((qb A) ++ [dn_265]) (qe A) ((ql A).tail) ((qst A) + 2) (qse A) (qg A) (qpl A) (fuI (qsd A) dn_265 1) (qsk A) (qws A) (qdr A) (qtk A)) ((actF_2 (show ru.1.toInt = 2 by rw [fa_27]; have e1 : (v_25 : Int32).toInt = v_25.toInt := rfl; omega)).trans ((fndF_c (fun z => by have e0 := congrArg List.length z; have e1 : ([] : List Nat).length = 0 := rfl; have := pw_7.1; omega)).trans (by rw [fetF_c (hd_cons dn_266), capL_y cap_327, if_neg (fun z => by have e0 := congrArg List.length z; have e1 : ([] : List Nat).length = 0 := rfl; have := rR_296.1; omega)]; rfl))) rR_328 rR_331 rR_332 zR_333 zR_336 gR_345 zR_339 zR_342 kR_355 pz_348, px_358, WsT_q wt_361 (act_ws (i32_ne ((congrArg Int32.toInt fa_27).trans rfl) t4 (by omega)))⟩⟩ dX12_acts_163
      · have z_b_362 := trivial
        have k_363 : rr_290.toInt = 0 := z_eq rfl ti_0 c_297
        refine lv_aload_n X.1 X.2.1 dX12_acts_146 rfl (lv_at hl 0 rfl) ?_
        obtain ⟨q_364, h_365, h_366, h_367⟩ := gQ_12_1214 hO_284.1 t_289
        refine r_getR (g := 1214) X hw t_289 rfl 14 h_365 (by decide) rfl inn_X12_acts_12 (by decide) (X.2.2.2.1 (.fieldLink RX12 43 "SilkMillModel" "search" "[I") (by decide +kernel)) rfl (gv_1214 _ _) dX12_acts_147 ?_
        refine lv_iload_n X.1 X.2.1 dX12_acts_150 rfl (lv_at hl 1 rfl) ?_
        refine lv_iconst (v := 0) X.1 X.2.1 dX12_acts_151 (by decide) ?_
        refine r_iast X hw h_366 rfl (by rw [h_367]; exact z_ix hz_a1 (by omega) (by omega)) dX12_acts_152 (fun H locs hw => ?_)
        obtain ⟨S_368, eS_368⟩ : ∃ T, T = sA S_282 q_364 (upd (pA S_282 q_364) (Int32.toNatClampNeg (a1)) (0)) := ⟨_, rfl⟩
        rw [← eS_368] at hw
        have hO_369 : Ok MAC S S_368 := hO_284.sA eS_368 h_366 (by decide +kernel) (uA_494 hO_284.1 h_366)
        have h_370 : pA S_368 q_364 (Int32.toNatClampNeg (a1)) = 0 := tA_sAs eS_368
        have t_371 : pR S_368 1214 x = some q_364 := tR_sA eS_368 h_365
        have t_373 : pR S_282 1214 x = some q_364 := by have h := t_371; rw [eS_368, pR_sA] at h; exact h
        have zs_372 : ∀ j, zA S_368 x 1214 j = if j = (a1_z).toNat then 0 else zA S_282 x 1214 j := by have h := zA_sAs eS_368 t_373 ti_0; rw [z_nc hz_a1 (by omega)] at h; exact h
        refine lv_aload_n X.1 X.2.1 dX12_acts_153 rfl (lv_at hl 0 rfl) ?_
        have t_374 : At S_368 x 12 := tAt_sA eS_368 t_289
        obtain ⟨q_375, h_376, h_377, h_378⟩ := gQ_12_1215 hO_369.1 t_374
        refine r_getR (g := 1215) X hw t_374 rfl 15 h_376 (by decide) rfl inn_X12_acts_12 (by decide) (X.2.2.2.1 (.fieldLink RX12 46 "SilkMillModel" "stop" "[I") (by decide +kernel)) rfl (gv_1215 _ _) dX12_acts_154 ?_
        refine lv_iload_n X.1 X.2.1 dX12_acts_157 rfl (lv_at hl 1 rfl) ?_
        refine lv_dup2_11 X.1 X.2.1 dX12_acts_158 rfl rfl ?_
        refine r_iald X hw h_377 rfl (by rw [h_378]; exact z_ix hz_a1 (by omega) (by omega)) dX12_acts_159 ?_
        refine lv_topi (fun v_379 ev_379 => ?_)
        have rg_380 := And.intro (z_lo v_379) (z_hi v_379)
        have ev_379 := ev_379.symm
        have zR_381 : zA S_253 x 1215 a1_z.toNat = ((qst A)).toInt := (congrFun (zA_fr hk_254.fr ha_x (ex3 (gQ_12_1215 hO.1 ha_x)) (by decide +kernel) (by decide +kernel)) _).trans pw_8
        have zR_382 : zA S_282 x 1215 a1_z.toNat = ((qst A)).toInt := (congrFun (zA_fr hk_283.fr t_275 (ex3 (gQ_12_1215 hO_255.1 t_275)) (by decide +kernel) (by decide +kernel)) _).trans zR_381
        have zR_383 : zA S_368 x 1215 a1_z.toNat = ((qst A)).toInt := (congrFun (zA_sAn eS_368 (ex3 (gQ_12_1215 hO_284.1 t_289)) h_366 rfl) _).trans zR_382
        have zf_384 : zA S_368 x 1215 (a1_z).toNat = v_379.toInt := (zA_of h_376 hz_a1 (by omega) ev_379)
        have us_385 : v_379 = (qst A) := Int32.toInt_inj.mp (rfl.trans (zf_384.symm.trans zR_383))
        refine lv_iconst (v := 2) X.1 X.2.1 dX12_acts_160 (by decide) ?_
        refine lv_iadd X.1 X.2.1 dX12_acts_161 ?_
        refine lv_topi (fun v_386 ev_386 => ?_)
        have rg_387 := And.intro (z_lo v_386) (z_hi v_386)
        refine r_iast X hw h_377 rfl (by rw [h_378]; exact z_ix hz_a1 (by omega) (by omega)) dX12_acts_162 (fun H locs hw => ?_)
        obtain ⟨S_388, eS_388⟩ : ∃ T, T = sA S_368 q_375 (upd (pA S_368 q_375) (Int32.toNatClampNeg (a1)) (v_386)) := ⟨_, rfl⟩
        rw [← eS_388] at hw
        have hO_389 : Ok MAC S S_388 := hO_369.sA eS_388 h_377 (by decide +kernel) (uA_514 hO_369.1 h_377)
        have h_390 : pA S_388 q_375 (Int32.toNatClampNeg (a1)) = v_386 := tA_sAs eS_388
        have t_391 : pR S_388 1215 x = some q_375 := tR_sA eS_388 h_376
        have t_393 : pR S_368 1215 x = some q_375 := by have h := t_391; rw [eS_388, pR_sA] at h; exact h
        have zs_392 : ∀ j, zA S_388 x 1215 j = if j = (a1_z).toNat then v_386.toInt else zA S_368 x 1215 j := by have h := zA_sAs eS_388 t_393 rfl; rw [z_nc hz_a1 (by omega)] at h; exact h
        have mi_394 : MIe S_368 x (-1) := MIe_sA mi_285 hO_284.1 t_289 h_366 eS_368 (by decide +kernel)
        have mi_395 : MIe S_388 x (-1) := MIe_sA mi_394 hO_369.1 t_374 h_377 eS_388 (by decide +kernel)
        have zc_396 : zA S_253 x 1237 = zA S x 1237 := zA_fr hk_254.fr ha_x (ex3 (gQ_12_1237 hO.1 ha_x)) (by decide +kernel) (by decide +kernel)
        have zc_397 : zA S_282 x 1237 = zA S x 1237 := (zA_fr hk_283.fr t_275 (ex3 (gQ_12_1237 hO_255.1 t_275)) (by decide +kernel) (by decide +kernel)).trans zc_396
        have zc_398 : zA S_368 x 1237 = zA S x 1237 := (zA_sAn eS_368 (ex3 (gQ_12_1237 hO_284.1 t_289)) h_366 rfl).trans zc_397
        have zc_399 : zA S_388 x 1237 = zA S x 1237 := (zA_sAn eS_388 (ex3 (gQ_12_1237 hO_369.1 t_374)) h_377 rfl).trans zc_398
        have zm_400 : ZM S S_253 x := ZM_eq hzm0 (zA_fr hk_254.fr ha_x (ex3 (gQ_12_1207 hO.1 ha_x)) (by decide +kernel) (by decide +kernel))
        have zm_401 : ZM S S_282 x := ZM_set zm_400 cs_287 ⟨by omega, by omega⟩ ⟨by omega, by omega⟩
        have zm_402 : ZM S S_368 x := ZM_eq zm_401 (zA_sAn eS_368 (ex3 (gQ_12_1207 hO_284.1 t_289)) h_366 rfl)
        have zm_403 : ZM S S_388 x := ZM_eq zm_402 (zA_sAn eS_388 (ex3 (gQ_12_1207 hO_369.1 t_374)) h_377 rfl)
        have rR_404 : RowR S_253 x (3 * a1_z + 0).toNat (qb A) := RowR_gox hO.1 ha_x (by omega) pw_5 g_264
        have cap_406 : ((qb A)).length < 600 := by have h1 := rR_404.1; have h2 := cx_288.2.2.2.1; omega
        have rR_405 : RowR S_282 x (3 * a1_z + 0).toNat ((qb A) ++ [dn_265]) := RowR_last rR_404 (show CmO S_253 S_282 x (3 * a1_z + 0).toNat ((qb A)).length (rr_252.toInt) by rw [show ((qb A)).length = (rr_276.toInt).toNat by have := rR_404.1; omega]; exact cx_288) dn_267
        have rR_407 : RowR S_368 x (3 * a1_z + 0).toNat ((qb A) ++ [dn_265]) := RowR_eq rR_405 (zA_sAn eS_368 (ex3 (gQ_12_1218 hO_284.1 t_289)) h_366 rfl) (zA_sAn eS_368 (ex3 (gQ_12_1219 hO_284.1 t_289)) h_366 rfl)
        have rR_408 : RowR S_388 x (3 * a1_z + 0).toNat ((qb A) ++ [dn_265]) := RowR_eq rR_407 (zA_sAn eS_388 (ex3 (gQ_12_1218 hO_369.1 t_374)) h_377 rfl) (zA_sAn eS_388 (ex3 (gQ_12_1219 hO_369.1 t_374)) h_377 rfl)
        have rR_409 : RowR S_253 x (3 * a1_z + 1).toNat (qe A) := RowR_gox hO.1 ha_x (by omega) pw_6 g_264
        have rR_410 : RowR S_282 x (3 * a1_z + 1).toNat (qe A) := RowR_cmx hO_255.1 t_275 (by omega) rR_409 cx_288
        have rR_411 : RowR S_368 x (3 * a1_z + 1).toNat (qe A) := RowR_eq rR_410 (zA_sAn eS_368 (ex3 (gQ_12_1218 hO_284.1 t_289)) h_366 rfl) (zA_sAn eS_368 (ex3 (gQ_12_1219 hO_284.1 t_289)) h_366 rfl)
        have rR_412 : RowR S_388 x (3 * a1_z + 1).toNat (qe A) := RowR_eq rR_411 (zA_sAn eS_388 (ex3 (gQ_12_1218 hO_369.1 t_374)) h_377 rfl) (zA_sAn eS_388 (ex3 (gQ_12_1219 hO_369.1 t_374)) h_377 rfl)
        have rR_413 : RowR S_368 x (3 * a1_z + 2).toNat ((ql A).tail) := RowR_eq rR_296 (zA_sAn eS_368 (ex3 (gQ_12_1218 hO_284.1 t_289)) h_366 rfl) (zA_sAn eS_368 (ex3 (gQ_12_1219 hO_284.1 t_289)) h_366 rfl)
        have rR_414 : RowR S_388 x (3 * a1_z + 2).toNat ((ql A).tail) := RowR_eq rR_413 (zA_sAn eS_388 (ex3 (gQ_12_1218 hO_369.1 t_374)) h_377 rfl) (zA_sAn eS_388 (ex3 (gQ_12_1219 hO_369.1 t_374)) h_377 rfl)
        have zR_415 : zA S_388 x 1215 a1_z.toNat = (((qst A) + 2)).toInt := (by rw [zs_392, if_pos (by omega)]; exact (congrArg Int32.toInt (ev_386.trans (by rw [us_385]))))
        have zR_416 : zA S_253 x 1214 a1_z.toNat = ((qse A)).toInt := (congrFun (zA_fr hk_254.fr ha_x (ex3 (gQ_12_1214 hO.1 ha_x)) (by decide +kernel) (by decide +kernel)) _).trans pw_9
        have zR_417 : zA S_282 x 1214 a1_z.toNat = ((qse A)).toInt := (congrFun (zA_fr hk_283.fr t_275 (ex3 (gQ_12_1214 hO_255.1 t_275)) (by decide +kernel) (by decide +kernel)) _).trans zR_416
        have zR_418 : zA S_368 x 1214 a1_z.toNat = ((0 : Int32)).toInt := (by rw [zs_372, if_pos (by omega)]; decide)
        have zR_419 : zA S_388 x 1214 a1_z.toNat = ((0 : Int32)).toInt := (congrFun (zA_sAn eS_388 (ex3 (gQ_12_1214 hO_369.1 t_374)) h_377 rfl) _).trans zR_418
        have zR_420 : zA S_253 x 1216 a1_z.toNat = ((qdr A)).toInt := (congrFun (zA_fr hk_254.fr ha_x (ex3 (gQ_12_1216 hO.1 ha_x)) (by decide +kernel) (by decide +kernel)) _).trans pw_11
        have zR_421 : zA S_282 x 1216 a1_z.toNat = ((qdr A)).toInt := (congrFun (zA_fr hk_283.fr t_275 (ex3 (gQ_12_1216 hO_255.1 t_275)) (by decide +kernel) (by decide +kernel)) _).trans zR_420
        have zR_422 : zA S_368 x 1216 a1_z.toNat = ((qdr A)).toInt := (congrFun (zA_sAn eS_368 (ex3 (gQ_12_1216 hO_284.1 t_289)) h_366 rfl) _).trans zR_421
        have zR_423 : zA S_388 x 1216 a1_z.toNat = ((qdr A)).toInt := (congrFun (zA_sAn eS_388 (ex3 (gQ_12_1216 hO_369.1 t_374)) h_377 rfl) _).trans zR_422
        have zR_424 : zA S_253 x 1217 a1_z.toNat = ((qtk A)).toInt := (congrFun (zA_fr hk_254.fr ha_x (ex3 (gQ_12_1217 hO.1 ha_x)) (by decide +kernel) (by decide +kernel)) _).trans pw_12
        have zR_425 : zA S_282 x 1217 a1_z.toNat = ((qtk A)).toInt := (congrFun (zA_fr hk_283.fr t_275 (ex3 (gQ_12_1217 hO_255.1 t_275)) (by decide +kernel) (by decide +kernel)) _).trans zR_424
        have zR_426 : zA S_368 x 1217 a1_z.toNat = ((qtk A)).toInt := (congrFun (zA_sAn eS_368 (ex3 (gQ_12_1217 hO_284.1 t_289)) h_366 rfl) _).trans zR_425
        have zR_427 : zA S_388 x 1217 a1_z.toNat = ((qtk A)).toInt := (congrFun (zA_sAn eS_388 (ex3 (gQ_12_1217 hO_369.1 t_374)) h_377 rfl) _).trans zR_426
        have gR_428 : GrW S_253 x a1_z.toNat (qg A) := GrW_eq (zA_fr hk_254.fr ha_x (ex3 (gQ_12_1235 hO.1 ha_x)) (by decide +kernel) (by decide +kernel)) (zA_fr hk_254.fr ha_x (ex3 (gQ_12_1236 hO.1 ha_x)) (by decide +kernel) (by decide +kernel)) (congrFun (zA_fr hk_254.fr ha_x (ex3 (gQ_12_1237 hO.1 ha_x)) (by decide +kernel) (by decide +kernel)) _) pw_10
        have gR_429 : GrW S_282 x a1_z.toNat (qg A) := GrW_eq (zA_fr hk_283.fr t_275 (ex3 (gQ_12_1235 hO_255.1 t_275)) (by decide +kernel) (by decide +kernel)) (zA_fr hk_283.fr t_275 (ex3 (gQ_12_1236 hO_255.1 t_275)) (by decide +kernel) (by decide +kernel)) (congrFun (zA_fr hk_283.fr t_275 (ex3 (gQ_12_1237 hO_255.1 t_275)) (by decide +kernel) (by decide +kernel)) _) gR_428
        have gR_430 : GrW S_368 x a1_z.toNat (qg A) := GrW_eq (zA_sAn eS_368 (ex3 (gQ_12_1235 hO_284.1 t_289)) h_366 rfl) (zA_sAn eS_368 (ex3 (gQ_12_1236 hO_284.1 t_289)) h_366 rfl) (congrFun (zA_sAn eS_368 (ex3 (gQ_12_1237 hO_284.1 t_289)) h_366 rfl) _) gR_429
        have gR_431 : GrW S_388 x a1_z.toNat (qg A) := GrW_eq (zA_sAn eS_388 (ex3 (gQ_12_1235 hO_369.1 t_374)) h_377 rfl) (zA_sAn eS_388 (ex3 (gQ_12_1236 hO_369.1 t_374)) h_377 rfl) (congrFun (zA_sAn eS_388 (ex3 (gQ_12_1237 hO_369.1 t_374)) h_377 rfl) _) gR_430
        have pz_432 : PlZ S_253 x (qpl A) (qsd A) := PlZ_eq pw_14 (zA_fr hk_254.fr ha_x (ex3 (gQ_12_1208 hO.1 ha_x)) (by decide +kernel) (by decide +kernel)) (zA_fr hk_254.fr ha_x (ex3 (gQ_12_1207 hO.1 ha_x)) (by decide +kernel) (by decide +kernel))
        have pz_433 : PlZ S_282 x (qpl A) (fuI (qsd A) dn_265 1) := PlZ_7 pz_432 (zA_fr hk_283.fr t_275 (ex3 (gQ_12_1208 hO_255.1 t_275)) (by decide +kernel) (by decide +kernel)) cs_287 (by omega) (by decide)
        have pz_434 : PlZ S_368 x (qpl A) (fuI (qsd A) dn_265 1) := PlZ_eq pz_433 (zA_sAn eS_368 (ex3 (gQ_12_1208 hO_284.1 t_289)) h_366 rfl) (zA_sAn eS_368 (ex3 (gQ_12_1207 hO_284.1 t_289)) h_366 rfl)
        have pz_435 : PlZ S_388 x (qpl A) (fuI (qsd A) dn_265 1) := PlZ_eq pz_434 (zA_sAn eS_388 (ex3 (gQ_12_1208 hO_369.1 t_374)) h_377 rfl) (zA_sAn eS_388 (ex3 (gQ_12_1207 hO_369.1 t_374)) h_377 rfl)
        have t_436 : pI S_253 1238 x = v_15 := hk_254.fr.I' (by decide +kernel) ha_x ev_15
        have t_437 : pI S_282 1238 x = v_15 := hk_283.fr.I' (by decide +kernel) t_275 t_436
        have t_438 : pI S_368 1238 x = v_15 := tI_sA eS_368 t_437
        have t_439 : pI S_388 1238 x = v_15 := tI_sA eS_388 t_438
        have pz_440 : (pI S_388 1238 x).toInt = v_15.toInt := (congrArg Int32.toInt t_439).trans rfl
        have kR_441 : SkW S_253 x (qsk A) := SkW_n (congrArg Int32.toInt (hk_254.fr.I' (by decide +kernel) ha_x rfl)) ⟨zA_fr hk_254.fr ha_x (ex3 (gQ_12_1235 hO.1 ha_x)) (by decide +kernel) (by decide +kernel), zA_fr hk_254.fr ha_x (ex3 (gQ_12_1236 hO.1 ha_x)) (by decide +kernel) (by decide +kernel), zA_fr hk_254.fr ha_x (ex3 (gQ_12_1239 hO.1 ha_x)) (by decide +kernel) (by decide +kernel), zA_fr hk_254.fr ha_x (ex3 (gQ_12_1240 hO.1 ha_x)) (by decide +kernel) (by decide +kernel), zA_fr hk_254.fr ha_x (ex3 (gQ_12_1241 hO.1 ha_x)) (by decide +kernel) (by decide +kernel), zA_fr hk_254.fr ha_x (ex3 (gQ_12_1242 hO.1 ha_x)) (by decide +kernel) (by decide +kernel)⟩ pw_13
        have kR_442 : SkW S_282 x (qsk A) := SkW_n (congrArg Int32.toInt (hk_283.fr.I' (by decide +kernel) t_275 rfl)) ⟨zA_fr hk_283.fr t_275 (ex3 (gQ_12_1235 hO_255.1 t_275)) (by decide +kernel) (by decide +kernel), zA_fr hk_283.fr t_275 (ex3 (gQ_12_1236 hO_255.1 t_275)) (by decide +kernel) (by decide +kernel), zA_fr hk_283.fr t_275 (ex3 (gQ_12_1239 hO_255.1 t_275)) (by decide +kernel) (by decide +kernel), zA_fr hk_283.fr t_275 (ex3 (gQ_12_1240 hO_255.1 t_275)) (by decide +kernel) (by decide +kernel), zA_fr hk_283.fr t_275 (ex3 (gQ_12_1241 hO_255.1 t_275)) (by decide +kernel) (by decide +kernel), zA_fr hk_283.fr t_275 (ex3 (gQ_12_1242 hO_255.1 t_275)) (by decide +kernel) (by decide +kernel)⟩ kR_441
        have kR_443 : SkW S_368 x (qsk A) := SkW_n (by rw [eS_368]; rfl) ⟨zA_sAn eS_368 (ex3 (gQ_12_1235 hO_284.1 t_289)) h_366 rfl, zA_sAn eS_368 (ex3 (gQ_12_1236 hO_284.1 t_289)) h_366 rfl, zA_sAn eS_368 (ex3 (gQ_12_1239 hO_284.1 t_289)) h_366 rfl, zA_sAn eS_368 (ex3 (gQ_12_1240 hO_284.1 t_289)) h_366 rfl, zA_sAn eS_368 (ex3 (gQ_12_1241 hO_284.1 t_289)) h_366 rfl, zA_sAn eS_368 (ex3 (gQ_12_1242 hO_284.1 t_289)) h_366 rfl⟩ kR_442
        have kR_444 : SkW S_388 x (qsk A) := SkW_n (by rw [eS_388]; rfl) ⟨zA_sAn eS_388 (ex3 (gQ_12_1235 hO_369.1 t_374)) h_377 rfl, zA_sAn eS_388 (ex3 (gQ_12_1236 hO_369.1 t_374)) h_377 rfl, zA_sAn eS_388 (ex3 (gQ_12_1239 hO_369.1 t_374)) h_377 rfl, zA_sAn eS_388 (ex3 (gQ_12_1240 hO_369.1 t_374)) h_377 rfl, zA_sAn eS_388 (ex3 (gQ_12_1241 hO_369.1 t_374)) h_377 rfl, zA_sAn eS_388 (ex3 (gQ_12_1242 hO_369.1 t_374)) h_377 rfl⟩ kR_443
        have px_445 : PwX S S_253 x a1_z := PwX_go (PwX_rf S x a1_z) hO.1 ha_x (by omega) g_264 (zA_fr hk_254.fr ha_x (ex3 (gQ_12_1235 hO.1 ha_x)) (by decide +kernel) (by decide +kernel)) (zA_fr hk_254.fr ha_x (ex3 (gQ_12_1236 hO.1 ha_x)) (by decide +kernel) (by decide +kernel)) (pw5 (zA_fr hk_254.fr ha_x (ex3 (gQ_12_1214 hO.1 ha_x)) (by decide +kernel) (by decide +kernel)) (zA_fr hk_254.fr ha_x (ex3 (gQ_12_1215 hO.1 ha_x)) (by decide +kernel) (by decide +kernel)) (zA_fr hk_254.fr ha_x (ex3 (gQ_12_1216 hO.1 ha_x)) (by decide +kernel) (by decide +kernel)) (zA_fr hk_254.fr ha_x (ex3 (gQ_12_1217 hO.1 ha_x)) (by decide +kernel) (by decide +kernel)) (zA_fr hk_254.fr ha_x (ex3 (gQ_12_1237 hO.1 ha_x)) (by decide +kernel) (by decide +kernel)))
        have px_446 : PwX S S_282 x a1_z := PwX_cm px_445 hO_255.1 t_275 (by omega) cx_288 (zA_fr hk_283.fr t_275 (ex3 (gQ_12_1235 hO_255.1 t_275)) (by decide +kernel) (by decide +kernel)) (zA_fr hk_283.fr t_275 (ex3 (gQ_12_1236 hO_255.1 t_275)) (by decide +kernel) (by decide +kernel)) (pw5 (zA_fr hk_283.fr t_275 (ex3 (gQ_12_1214 hO_255.1 t_275)) (by decide +kernel) (by decide +kernel)) (zA_fr hk_283.fr t_275 (ex3 (gQ_12_1215 hO_255.1 t_275)) (by decide +kernel) (by decide +kernel)) (zA_fr hk_283.fr t_275 (ex3 (gQ_12_1216 hO_255.1 t_275)) (by decide +kernel) (by decide +kernel)) (zA_fr hk_283.fr t_275 (ex3 (gQ_12_1217 hO_255.1 t_275)) (by decide +kernel) (by decide +kernel)) (zA_fr hk_283.fr t_275 (ex3 (gQ_12_1237 hO_255.1 t_275)) (by decide +kernel) (by decide +kernel)))
        have px_447 : PwX S S_368 x a1_z := PwX_z px_446 (zA_sAn eS_368 (ex3 (gQ_12_1218 hO_284.1 t_289)) h_366 rfl) (zA_sAn eS_368 (ex3 (gQ_12_1219 hO_284.1 t_289)) h_366 rfl) (zA_sAn eS_368 (ex3 (gQ_12_1235 hO_284.1 t_289)) h_366 rfl) (zA_sAn eS_368 (ex3 (gQ_12_1236 hO_284.1 t_289)) h_366 rfl) zs_372 (by omega) (pw4 (fun h => absurd rfl h) (fun _ => zA_sAn eS_368 (ex3 (gQ_12_1215 hO_284.1 t_289)) h_366 rfl) (fun _ => zA_sAn eS_368 (ex3 (gQ_12_1216 hO_284.1 t_289)) h_366 rfl) (fun _ => zA_sAn eS_368 (ex3 (gQ_12_1217 hO_284.1 t_289)) h_366 rfl) (fun _ => zA_sAn eS_368 (ex3 (gQ_12_1237 hO_284.1 t_289)) h_366 rfl))
        have px_448 : PwX S S_388 x a1_z := PwX_z px_447 (zA_sAn eS_388 (ex3 (gQ_12_1218 hO_369.1 t_374)) h_377 rfl) (zA_sAn eS_388 (ex3 (gQ_12_1219 hO_369.1 t_374)) h_377 rfl) (zA_sAn eS_388 (ex3 (gQ_12_1235 hO_369.1 t_374)) h_377 rfl) (zA_sAn eS_388 (ex3 (gQ_12_1236 hO_369.1 t_374)) h_377 rfl) zs_392 (by omega) (pw4 (fun _ => zA_sAn eS_388 (ex3 (gQ_12_1214 hO_369.1 t_374)) h_377 rfl) (fun h => absurd rfl h) (fun _ => zA_sAn eS_388 (ex3 (gQ_12_1216 hO_369.1 t_374)) h_377 rfl) (fun _ => zA_sAn eS_388 (ex3 (gQ_12_1217 hO_369.1 t_374)) h_377 rfl) (fun _ => zA_sAn eS_388 (ex3 (gQ_12_1237 hO_369.1 t_374)) h_377 rfl))
        have wt_449 : WsT S S_253 x Ev A A := WsT_f (WsT_rf S x Ev A) (hk_254.fr.I' (g := 1246) (by decide +kernel) ha_x rfl)
        have wt_450 : WsT S S_282 x Ev A A := WsT_f wt_449 (hk_283.fr.I' (g := 1246) (by decide +kernel) t_275 rfl)
        have wt_451 : WsT S S_368 x Ev A A := WsT_f wt_450 (by rw [eS_368]; rfl)
        have wt_452 : WsT S S_388 x Ev A A := WsT_f wt_451 (by rw [eS_388]; rfl)
        exact ret_v X hw hr hlocks (Nat.le_of_ble_eq_true rfl) (Nat.le_of_ble_eq_true rfl) ⟨hO_389, ⟨mi_395, fun hgr => (GR_eq zc_399 hgr), zm_403, PotW_of (B := pmk ((qb A) ++ [dn_265]) (qe A) ((ql A).tail) ((qst A) + 2) (0 : Int32) (qg A) (qpl A) (fuI (qsd A) dn_265 1) (qsk A) (qws A) (qdr A) (qtk A)) ((actF_2 (show ru.1.toInt = 2 by rw [fa_27]; have e1 : (v_25 : Int32).toInt = v_25.toInt := rfl; omega)).trans ((fndF_c (fun z => by have e0 := congrArg List.length z; have e1 : ([] : List Nat).length = 0 := rfl; have := pw_7.1; omega)).trans (by rw [fetF_c (hd_cons dn_266), capL_y cap_406, if_pos (List.eq_nil_of_length_eq_zero (by have := rR_296.1; omega))]; rfl))) rR_408 rR_412 rR_414 zR_415 zR_419 gR_431 zR_423 zR_427 kR_444 pz_435, px_448, WsT_q wt_452 (act_ws (i32_ne ((congrArg Int32.toInt fa_27).trans rfl) t4 (by omega)))⟩⟩ dX12_acts_163
    · have z_b_453 := trivial
      have k_454 : rr_244.toInt = 0 := z_eq rfl ti_0 c_249
      have pz_455 : (pI S 1238 x).toInt = v_15.toInt := (congrArg Int32.toInt ev_15).trans rfl
      exact ret_v X hw hr hlocks (Nat.le_of_ble_eq_true rfl) (Nat.le_of_ble_eq_true rfl) ⟨hO, ⟨hp_4, fun hgr => hgr, hzm0, PotW_of ((actF_2 (show ru.1.toInt = 2 by rw [fa_27]; have e1 : (v_25 : Int32).toInt = v_25.toInt := rfl; omega)).trans (fndF_n (List.eq_nil_of_length_eq_zero (by have := pw_7.1; omega)))) pw_5 pw_6 pw_7 pw_8 pw_9 pw_10 pw_11 pw_12 pw_13 pw_14, (PwX_rf S x a1_z), WsT_q (WsT_rf S x Ev A) (act_ws (i32_ne ((congrArg Int32.toInt fa_27).trans rfl) t4 (by omega)))⟩⟩ dX12_acts_117
  · refine lv_tableIn (tgt := 164) X.1 X.2.1 dX12_acts_6 (by omega) (by omega) (by rw [w_28c]; rfl) (by decide) ?_
    refine lv_aload_n X.1 X.2.1 dX12_acts_164 rfl (lv_at hl 0 rfl) ?_
    refine lv_iload_n X.1 X.2.1 dX12_acts_165 rfl (lv_at hl 1 rfl) ?_
    refine lv_iconst (v := 0) X.1 X.2.1 dX12_acts_166 (by decide) ?_
    refine k_i (rm := { frames := 1, cells := 0, slots := 0, locals := 48 }) (av := [.ref x, .int (a1), .int 0]) X hw (va_runV (As := [.int (a1), .int 0]) (rest := []) (cfix X) (k_X12_many2 l G cy κ S _ x (a1) (a1_z) (0) (0) hO.1 ha_x hz_a1 ti_0 (by first | assumption | omega) (by first | assumption | omega) (by first | assumption | omega) (by first | assumption | omega)) (cwV 2 X.2.2.2.1 gX12_acts_X12_many rfl rfl rfl (by decide +kernel) ⟨Nat.le_of_ble_eq_true rfl, Nat.le_of_ble_eq_true rfl⟩) (pre_V X hw _ ha_x rfl (by decide) rfl) rfl rfl hl.1 rfl (lv_room (Nat.le_of_ble_eq_true rfl)) dX12_acts_167 ⟨Nat.le_of_ble_eq_true rfl, Nat.le_of_ble_eq_true rfl⟩) 0 0 (Nat.le_of_ble_eq_true rfl) (Nat.le_of_ble_eq_true rfl) (fun rr_456 S_457 H locs hp hw hfr hnw => ?_)
    obtain ⟨e2, hp⟩ := hp
    subst e2
    obtain ⟨f_458, f_459, f_460⟩ := hp
    refine lv_if_le (tgt := 194) X.1 X.2.1 dX12_acts_170 (by decide) (fun c_461 => ?_) (fun c_461 => ?_)
    · have z_b_462 := trivial
      have k_463 : rr_456.toInt ≤ 0 := z_le rfl ti_0 c_461
      have pz_464 : (pI S 1238 x).toInt = v_15.toInt := (congrArg Int32.toInt ev_15).trans rfl
      exact ret_v X hw hr hlocks (Nat.le_of_ble_eq_true rfl) (Nat.le_of_ble_eq_true rfl) ⟨hO, ⟨hp_4, fun hgr => hgr, hzm0, PotW_of ((actF_3 (show ru.1.toInt = 3 by rw [fa_27]; have e1 : (v_25 : Int32).toInt = v_25.toInt := rfl; omega)).trans (throF_n (List.eq_nil_of_length_eq_zero (by have := pw_5.1; omega)))) pw_5 pw_6 pw_7 pw_8 pw_9 pw_10 pw_11 pw_12 pw_13 pw_14, (PwX_rf S x a1_z), WsT_q (WsT_rf S x Ev A) (act_ws (i32_ne ((congrArg Int32.toInt fa_27).trans rfl) t4 (by omega)))⟩⟩ dX12_acts_194
    · have z_b_465 := trivial
      have k_466 : rr_456.toInt > 0 := z_nle rfl ti_0 c_461
      refine lv_aload_n X.1 X.2.1 dX12_acts_173 rfl (lv_at hl 0 rfl) ?_
      obtain ⟨q_467, h_468, h_469, h_470⟩ := gQ_12_1207 hO.1 ha_x
      refine r_getR (g := 1207) X hw ha_x rfl 7 h_468 (by decide) rfl inn_X12_acts_12 (by decide) (X.2.2.2.1 (.fieldLink RX12 25 "SilkMillModel" "stand" "[I") (by decide +kernel)) rfl (gv_1207 _ _) dX12_acts_174 ?_
      refine lv_aload_n X.1 X.2.1 dX12_acts_177 rfl (lv_at hl 0 rfl) ?_
      refine lv_iload_n X.1 X.2.1 dX12_acts_178 rfl (lv_at hl 1 rfl) ?_
      refine lv_iconst (v := 0) X.1 X.2.1 dX12_acts_179 (by decide) ?_
      refine lv_aload_n X.1 X.2.1 dX12_acts_180 rfl (lv_at hl 0 rfl) ?_
      refine lv_iload_n X.1 X.2.1 dX12_acts_181 rfl (lv_at hl 1 rfl) ?_
      refine lv_iconst (v := 0) X.1 X.2.1 dX12_acts_182 (by decide) ?_
      refine k_i (rm := { frames := 1, cells := 0, slots := 0, locals := 48 }) (av := [.ref x, .int (a1), .int 0]) X hw (va_runV (As := [.int (a1), .int 0]) (rest := [.int 0, .int (a1), .ref x, .ref q_467]) (cfix X) (k_X12_many2 l G cy κ S _ x (a1) (a1_z) (0) (0) hO.1 ha_x hz_a1 ti_0 (by first | assumption | omega) (by first | assumption | omega) (by first | assumption | omega) (by first | assumption | omega)) (cwV 2 X.2.2.2.1 gX12_acts_X12_many rfl rfl rfl (by decide +kernel) ⟨Nat.le_of_ble_eq_true rfl, Nat.le_of_ble_eq_true rfl⟩) (pre_V X hw _ ha_x rfl (by decide) rfl) rfl rfl hl.1 rfl (lv_room (Nat.le_of_ble_eq_true rfl)) dX12_acts_183 ⟨Nat.le_of_ble_eq_true rfl, Nat.le_of_ble_eq_true rfl⟩) 0 0 (Nat.le_of_ble_eq_true rfl) (Nat.le_of_ble_eq_true rfl) (fun rr_471 S_472 H locs hp hw hfr hnw => ?_)
      obtain ⟨e2, hp⟩ := hp
      subst e2
      obtain ⟨f_473, f_474, f_475⟩ := hp
      refine lv_iconst (v := 1) X.1 X.2.1 dX12_acts_186 (by decide) ?_
      refine lv_isub X.1 X.2.1 dX12_acts_187 ?_
      refine lv_topi (fun v_476 ev_476 => ?_)
      have z_477 : v_476.toInt = rr_471.toInt - 1 := z_sub ev_476 rfl ti_1 (by omega) (by omega)
      refine k_i (rm := { frames := 1, cells := 0, slots := 0, locals := 48 }) (av := [.ref x, .int (a1), .int 0, .int (v_476)]) X hw (va_runV (As := [.int (a1), .int 0, .int (v_476)]) (rest := [.ref q_467]) (cfix X) (k_X12_goes5 l G cy κ S _ x (a1) (a1_z) (0) (0) (v_476) ((rr_471.toInt - 1)) (-1) hO.1 ha_x hz_a1 ti_0 z_477 (by first | assumption | omega) (by first | assumption | omega) (by first | assumption | omega) (by first | assumption | omega) (by first | assumption | omega) (by first | assumption | omega) hp_4) (cwV 3 X.2.2.2.1 gX12_acts_X12_goes rfl rfl rfl (by decide +kernel) ⟨Nat.le_of_ble_eq_true rfl, Nat.le_of_ble_eq_true rfl⟩) (pre_V X hw _ ha_x rfl (by decide) rfl) rfl rfl hl.1 rfl (lv_room (Nat.le_of_ble_eq_true rfl)) dX12_acts_188 ⟨Nat.le_of_ble_eq_true rfl, Nat.le_of_ble_eq_true rfl⟩) 0 0 (Nat.le_of_ble_eq_true rfl) (Nat.le_of_ble_eq_true rfl) (fun rr_478 S_479 H locs hp hw hfr hnw => ?_)
      obtain ⟨hk_480, hp⟩ := hp
      have hO_481 : Ok MAC S S_479 := hO.call hk_480 (by decide +kernel)
      obtain ⟨g_482, g_483, g_484, g_485, g_486, g_487, g_488, g_489, g_490⟩ := hp
      obtain ⟨dn_491, dn_492⟩ : ∃ d, ((qb A))[(((rr_471.toInt - 1) : Int)).toNat]? = some d := ⟨_, List.getElem?_eq_getElem (by have := pw_5.1; omega)⟩
      have dn_493 : rr_478.toInt = (dn_491 : Int) := by have h8 := pw_5.2 _ _ dn_492; have hi : (600 * (3 * a1_z + 0) + (rr_471.toInt - 1)).toNat = 600 * (3 * a1_z + 0).toNat + (((rr_471.toInt - 1) : Int)).toNat := (by omega); rw [← hi] at h8; omega
      have t_494 : pI S_479 1201 x = v_1 := hk_480.fr.I' (by decide +kernel) ha_x ev_1
      have pz_495 : (pI S_479 1201 x).toInt = v_1.toInt := (congrArg Int32.toInt t_494).trans rfl
      have zl_496 : zA S_479 x 1207 = zA S x 1207 := zA_fr hk_480.fr ha_x (ex3 (gQ_12_1207 hO.1 ha_x)) (by decide +kernel) (by decide +kernel)
      have zz_497 := congrFun zl_496 (rr_478.toInt).toNat
      have al_498 := ((MI_1 g_487 (c := rr_478.toInt) (by omega) (by omega)).2 (by omega)).2 (by omega) (by omega)
      refine lv_bipush (v := 6) X.1 X.2.1 dX12_acts_191 (by decide) ?_
      have t_499 : At S_479 q_467 354 := hk_480.fr.at h_469
      have t_500 : pN S_479 q_467 = 600 := hk_480.fr.N h_469 h_470
      clear h_470
      refine r_iast X hw t_499 rfl (by rw [t_500]; exact z_ix rfl (by omega) (by omega)) dX12_acts_193 (fun H locs hw => ?_)
      obtain ⟨S_501, eS_501⟩ : ∃ T, T = sA S_479 q_467 (upd (pA S_479 q_467) (Int32.toNatClampNeg (rr_478)) (6)) := ⟨_, rfl⟩
      rw [← eS_501] at hw
      have hO_502 : Ok MAC S S_501 := hO_481.sA eS_501 t_499 (by decide +kernel) (uA_354 hO_481.1 t_499)
      have h_503 : pA S_501 q_467 (Int32.toNatClampNeg (rr_478)) = 6 := tA_sAs eS_501
      have t_504 : pR S_479 1207 x = some q_467 := hk_480.fr.R' (by decide +kernel) ha_x h_468
      have t_505 : pR S_501 1207 x = some q_467 := tR_sA eS_501 t_504
      have t_507 : pR S_479 1207 x = some q_467 := by have h := t_505; rw [eS_501, pR_sA] at h; exact h
      have zs_506 : ∀ j, zA S_501 x 1207 j = if j = (rr_478.toInt).toNat then 6 else zA S_479 x 1207 j := by have h := zA_sAs eS_501 t_507 ti_6; rw [z_nc rfl (by omega)] at h; exact h
      have t_509 : At S_479 x 12 := hk_480.fr.at ha_x
      have mi_508 : MIe S_501 x (-1) := stand_MI (c := rr_478.toInt) hO_481.1 t_509 (show Fr [10354] S_479 S_501 by rw [eS_501]; exact Fr_sA t_499 List.mem_cons_self) g_487 (by omega) (by omega) g_488 zs_506 (Or.inr (Or.inr (by assumption)))
      have t_511 : pR S_479 1207 x = some q_467 := by have h := t_505; rw [eS_501, pR_sA] at h; exact h
      have zs_510 : ∀ j, zA S_501 x 1207 j = if j = (rr_478.toInt).toNat then 6 else zA S_479 x 1207 j := by have h := zA_sAs eS_501 t_511 ti_6; rw [z_nc rfl (by omega)] at h; exact h
      have zm_512 : ZM S S_479 x := ZM_eq hzm0 (zA_fr hk_480.fr ha_x (ex3 (gQ_12_1207 hO.1 ha_x)) (by decide +kernel) (by decide +kernel))
      have zm_513 : ZM S S_501 x := ZM_set zm_512 zs_510 ⟨by omega, by omega⟩ ⟨by omega, by omega⟩
      have zc_514 : zA S_479 x 1237 = zA S x 1237 := zA_fr hk_480.fr ha_x (ex3 (gQ_12_1237 hO.1 ha_x)) (by decide +kernel) (by decide +kernel)
      have zc_515 : zA S_501 x 1237 = zA S x 1237 := (zA_sAn eS_501 (ex3 (gQ_12_1237 hO_481.1 t_509)) t_499 rfl).trans zc_514
      have rR_516 : RowR S_479 x (3 * a1_z + 0).toNat ((qb A).eraseIdx ((rr_471.toInt - 1)).toNat) := RowR_goes pw_5 g_490 (by have := pw_5.1; omega)
      have rR_517 : RowR S_501 x (3 * a1_z + 0).toNat ((qb A).eraseIdx ((rr_471.toInt - 1)).toNat) := RowR_eq rR_516 (zA_sAn eS_501 (ex3 (gQ_12_1218 hO_481.1 t_509)) t_499 rfl) (zA_sAn eS_501 (ex3 (gQ_12_1219 hO_481.1 t_509)) t_499 rfl)
      have rR_518 : RowR S_479 x (3 * a1_z + 1).toNat (qe A) := RowR_gox hO.1 ha_x (by omega) pw_6 g_490
      have rR_519 : RowR S_501 x (3 * a1_z + 1).toNat (qe A) := RowR_eq rR_518 (zA_sAn eS_501 (ex3 (gQ_12_1218 hO_481.1 t_509)) t_499 rfl) (zA_sAn eS_501 (ex3 (gQ_12_1219 hO_481.1 t_509)) t_499 rfl)
      have rR_520 : RowR S_479 x (3 * a1_z + 2).toNat (ql A) := RowR_gox hO.1 ha_x (by omega) pw_7 g_490
      have rR_521 : RowR S_501 x (3 * a1_z + 2).toNat (ql A) := RowR_eq rR_520 (zA_sAn eS_501 (ex3 (gQ_12_1218 hO_481.1 t_509)) t_499 rfl) (zA_sAn eS_501 (ex3 (gQ_12_1219 hO_481.1 t_509)) t_499 rfl)
      have zR_522 : zA S_479 x 1215 a1_z.toNat = ((qst A)).toInt := (congrFun (zA_fr hk_480.fr ha_x (ex3 (gQ_12_1215 hO.1 ha_x)) (by decide +kernel) (by decide +kernel)) _).trans pw_8
      have zR_523 : zA S_501 x 1215 a1_z.toNat = ((qst A)).toInt := (congrFun (zA_sAn eS_501 (ex3 (gQ_12_1215 hO_481.1 t_509)) t_499 rfl) _).trans zR_522
      have zR_524 : zA S_479 x 1214 a1_z.toNat = ((qse A)).toInt := (congrFun (zA_fr hk_480.fr ha_x (ex3 (gQ_12_1214 hO.1 ha_x)) (by decide +kernel) (by decide +kernel)) _).trans pw_9
      have zR_525 : zA S_501 x 1214 a1_z.toNat = ((qse A)).toInt := (congrFun (zA_sAn eS_501 (ex3 (gQ_12_1214 hO_481.1 t_509)) t_499 rfl) _).trans zR_524
      have zR_526 : zA S_479 x 1216 a1_z.toNat = ((qdr A)).toInt := (congrFun (zA_fr hk_480.fr ha_x (ex3 (gQ_12_1216 hO.1 ha_x)) (by decide +kernel) (by decide +kernel)) _).trans pw_11
      have zR_527 : zA S_501 x 1216 a1_z.toNat = ((qdr A)).toInt := (congrFun (zA_sAn eS_501 (ex3 (gQ_12_1216 hO_481.1 t_509)) t_499 rfl) _).trans zR_526
      have zR_528 : zA S_479 x 1217 a1_z.toNat = ((qtk A)).toInt := (congrFun (zA_fr hk_480.fr ha_x (ex3 (gQ_12_1217 hO.1 ha_x)) (by decide +kernel) (by decide +kernel)) _).trans pw_12
      have zR_529 : zA S_501 x 1217 a1_z.toNat = ((qtk A)).toInt := (congrFun (zA_sAn eS_501 (ex3 (gQ_12_1217 hO_481.1 t_509)) t_499 rfl) _).trans zR_528
      have gR_530 : GrW S_479 x a1_z.toNat (qg A) := GrW_eq (zA_fr hk_480.fr ha_x (ex3 (gQ_12_1235 hO.1 ha_x)) (by decide +kernel) (by decide +kernel)) (zA_fr hk_480.fr ha_x (ex3 (gQ_12_1236 hO.1 ha_x)) (by decide +kernel) (by decide +kernel)) (congrFun (zA_fr hk_480.fr ha_x (ex3 (gQ_12_1237 hO.1 ha_x)) (by decide +kernel) (by decide +kernel)) _) pw_10
      have gR_531 : GrW S_501 x a1_z.toNat (qg A) := GrW_eq (zA_sAn eS_501 (ex3 (gQ_12_1235 hO_481.1 t_509)) t_499 rfl) (zA_sAn eS_501 (ex3 (gQ_12_1236 hO_481.1 t_509)) t_499 rfl) (congrFun (zA_sAn eS_501 (ex3 (gQ_12_1237 hO_481.1 t_509)) t_499 rfl) _) gR_530
      have pz_532 : PlZ S_479 x (qpl A) (qsd A) := PlZ_eq pw_14 (zA_fr hk_480.fr ha_x (ex3 (gQ_12_1208 hO.1 ha_x)) (by decide +kernel) (by decide +kernel)) (zA_fr hk_480.fr ha_x (ex3 (gQ_12_1207 hO.1 ha_x)) (by decide +kernel) (by decide +kernel))
      have pz_533 : PlZ S_501 x (qpl A) (fuI (qsd A) dn_491 6) := PlZ_7 pz_532 (zA_sAn eS_501 (ex3 (gQ_12_1208 hO_481.1 t_509)) t_499 rfl) zs_510 (by omega) (by decide)
      have t_534 : pI S_479 1238 x = v_15 := hk_480.fr.I' (by decide +kernel) ha_x ev_15
      have t_535 : pI S_501 1238 x = v_15 := tI_sA eS_501 t_534
      have pz_536 : (pI S_501 1238 x).toInt = v_15.toInt := (congrArg Int32.toInt t_535).trans rfl
      have kR_537 : SkW S_479 x (qsk A) := SkW_n (congrArg Int32.toInt (hk_480.fr.I' (by decide +kernel) ha_x rfl)) ⟨zA_fr hk_480.fr ha_x (ex3 (gQ_12_1235 hO.1 ha_x)) (by decide +kernel) (by decide +kernel), zA_fr hk_480.fr ha_x (ex3 (gQ_12_1236 hO.1 ha_x)) (by decide +kernel) (by decide +kernel), zA_fr hk_480.fr ha_x (ex3 (gQ_12_1239 hO.1 ha_x)) (by decide +kernel) (by decide +kernel), zA_fr hk_480.fr ha_x (ex3 (gQ_12_1240 hO.1 ha_x)) (by decide +kernel) (by decide +kernel), zA_fr hk_480.fr ha_x (ex3 (gQ_12_1241 hO.1 ha_x)) (by decide +kernel) (by decide +kernel), zA_fr hk_480.fr ha_x (ex3 (gQ_12_1242 hO.1 ha_x)) (by decide +kernel) (by decide +kernel)⟩ pw_13
      have kR_538 : SkW S_501 x (qsk A) := SkW_n (by rw [eS_501]; rfl) ⟨zA_sAn eS_501 (ex3 (gQ_12_1235 hO_481.1 t_509)) t_499 rfl, zA_sAn eS_501 (ex3 (gQ_12_1236 hO_481.1 t_509)) t_499 rfl, zA_sAn eS_501 (ex3 (gQ_12_1239 hO_481.1 t_509)) t_499 rfl, zA_sAn eS_501 (ex3 (gQ_12_1240 hO_481.1 t_509)) t_499 rfl, zA_sAn eS_501 (ex3 (gQ_12_1241 hO_481.1 t_509)) t_499 rfl, zA_sAn eS_501 (ex3 (gQ_12_1242 hO_481.1 t_509)) t_499 rfl⟩ kR_537
      have px_539 : PwX S S_479 x a1_z := PwX_go (PwX_rf S x a1_z) hO.1 ha_x (by omega) g_490 (zA_fr hk_480.fr ha_x (ex3 (gQ_12_1235 hO.1 ha_x)) (by decide +kernel) (by decide +kernel)) (zA_fr hk_480.fr ha_x (ex3 (gQ_12_1236 hO.1 ha_x)) (by decide +kernel) (by decide +kernel)) (pw5 (zA_fr hk_480.fr ha_x (ex3 (gQ_12_1214 hO.1 ha_x)) (by decide +kernel) (by decide +kernel)) (zA_fr hk_480.fr ha_x (ex3 (gQ_12_1215 hO.1 ha_x)) (by decide +kernel) (by decide +kernel)) (zA_fr hk_480.fr ha_x (ex3 (gQ_12_1216 hO.1 ha_x)) (by decide +kernel) (by decide +kernel)) (zA_fr hk_480.fr ha_x (ex3 (gQ_12_1217 hO.1 ha_x)) (by decide +kernel) (by decide +kernel)) (zA_fr hk_480.fr ha_x (ex3 (gQ_12_1237 hO.1 ha_x)) (by decide +kernel) (by decide +kernel)))
      have px_540 : PwX S S_501 x a1_z := PwX_to px_539 (zA_sAn eS_501 (ex3 (gQ_12_1218 hO_481.1 t_509)) t_499 rfl) (zA_sAn eS_501 (ex3 (gQ_12_1219 hO_481.1 t_509)) t_499 rfl) (zA_sAn eS_501 (ex3 (gQ_12_1235 hO_481.1 t_509)) t_499 rfl) (zA_sAn eS_501 (ex3 (gQ_12_1236 hO_481.1 t_509)) t_499 rfl) (pw5 (zA_sAn eS_501 (ex3 (gQ_12_1214 hO_481.1 t_509)) t_499 rfl) (zA_sAn eS_501 (ex3 (gQ_12_1215 hO_481.1 t_509)) t_499 rfl) (zA_sAn eS_501 (ex3 (gQ_12_1216 hO_481.1 t_509)) t_499 rfl) (zA_sAn eS_501 (ex3 (gQ_12_1217 hO_481.1 t_509)) t_499 rfl) (zA_sAn eS_501 (ex3 (gQ_12_1237 hO_481.1 t_509)) t_499 rfl))
      have wt_541 : WsT S S_479 x Ev A A := WsT_f (WsT_rf S x Ev A) (hk_480.fr.I' (g := 1246) (by decide +kernel) ha_x rfl)
      have wt_542 : WsT S S_501 x Ev A A := WsT_f wt_541 (by rw [eS_501]; rfl)
      exact ret_v X hw hr hlocks (Nat.le_of_ble_eq_true rfl) (Nat.le_of_ble_eq_true rfl) ⟨hO_502, ⟨mi_508, fun hgr => (GR_eq zc_515 hgr), zm_513, PotW_of (B := pmk ((qb A).eraseIdx ((rr_471.toInt - 1)).toNat) (qe A) (ql A) (qst A) (qse A) (qg A) (qpl A) (fuI (qsd A) dn_491 6) (qsk A) (qws A) (qdr A) (qtk A)) ((actF_3 (show ru.1.toInt = 3 by rw [fa_27]; have e1 : (v_25 : Int32).toInt = v_25.toInt := rfl; omega)).trans ((throF_c (by rw [show (qb A).length - 1 = (((rr_471.toInt - 1) : Int)).toNat by have := pw_5.1; omega]; exact dn_492)).trans (by rw [show (qb A).length - 1 = (((rr_471.toInt - 1) : Int)).toNat by have := pw_5.1; omega]; rfl))) rR_517 rR_519 rR_521 zR_523 zR_525 gR_531 zR_527 zR_529 kR_538 pz_533, px_540, WsT_q wt_542 (act_ws (i32_ne ((congrArg Int32.toInt fa_27).trans rfl) t4 (by omega)))⟩⟩ dX12_acts_194
  · refine lv_tableIn (tgt := 195) X.1 X.2.1 dX12_acts_6 (by omega) (by omega) (by rw [w_28c]; rfl) (by decide) ?_
    refine lv_aload_n X.1 X.2.1 dX12_acts_195 rfl (lv_at hl 0 rfl) ?_
    refine lv_iload_n X.1 X.2.1 dX12_acts_196 rfl (lv_at hl 1 rfl) ?_
    refine k_i (rm := { frames := 6, cells := 0, slots := 0, locals := 288 }) (av := [.ref x, .int (a1)]) X hw (va_runV (As := [.int (a1)]) (rest := []) (cfix X) (k_X12_cuts5 l G cy κ S _ x (a1) (a1_z) (qg A) hO.1 ha_x hz_a1 (by first | assumption | omega) (by first | assumption | omega) hp_4 pw_10) (cwV 1 X.2.2.2.1 gX12_acts_X12_cuts rfl rfl rfl (by decide +kernel) ⟨Nat.le_of_ble_eq_true rfl, Nat.le_of_ble_eq_true rfl⟩) (pre_V X hw _ ha_x rfl (by decide) rfl) rfl rfl hl.1 rfl (lv_room (Nat.le_of_ble_eq_true rfl)) dX12_acts_197 ⟨Nat.le_of_ble_eq_true rfl, Nat.le_of_ble_eq_true rfl⟩) 0 0 (Nat.le_of_ble_eq_true rfl) (Nat.le_of_ble_eq_true rfl) (fun rr_543 S_544 H locs hp hw hfr hnw => ?_)
    obtain ⟨hk_545, hp⟩ := hp
    have hO_546 : Ok MAC S S_544 := hO.call hk_545 (by decide +kernel)
    obtain ⟨mi_547, cu_548, cc_549, cc_550, cc_551, cc_552⟩ := hp
    have rg_553 := And.intro (z_lo rr_543) (z_hi rr_543)
    refine lv_istore_n (lv' := [(3, .int (rr_543)), (0, .ref x), (1, .int (a1)), (2, .int (a2))]) X.1 X.2.1 dX12_acts_200 rfl hl (by decide) rfl (fun ls hl => ?_)
    have zm_554 : ZM S S_544 x := ZM_eq hzm0 (zA_fr hk_545.fr ha_x (ex3 (gQ_12_1207 hO.1 ha_x)) (by decide +kernel) (by decide +kernel))
    have rR_555 : RowR S_544 x (3 * a1_z + 0).toNat (qb A) := RowR_eq pw_5 (zA_fr hk_545.fr ha_x (ex3 (gQ_12_1218 hO.1 ha_x)) (by decide +kernel) (by decide +kernel)) (zA_fr hk_545.fr ha_x (ex3 (gQ_12_1219 hO.1 ha_x)) (by decide +kernel) (by decide +kernel))
    have rR_556 : RowR S_544 x (3 * a1_z + 1).toNat (qe A) := RowR_eq pw_6 (zA_fr hk_545.fr ha_x (ex3 (gQ_12_1218 hO.1 ha_x)) (by decide +kernel) (by decide +kernel)) (zA_fr hk_545.fr ha_x (ex3 (gQ_12_1219 hO.1 ha_x)) (by decide +kernel) (by decide +kernel))
    have rR_557 : RowR S_544 x (3 * a1_z + 2).toNat (ql A) := RowR_eq pw_7 (zA_fr hk_545.fr ha_x (ex3 (gQ_12_1218 hO.1 ha_x)) (by decide +kernel) (by decide +kernel)) (zA_fr hk_545.fr ha_x (ex3 (gQ_12_1219 hO.1 ha_x)) (by decide +kernel) (by decide +kernel))
    have zR_558 : zA S_544 x 1215 a1_z.toNat = ((qst A)).toInt := (congrFun (zA_fr hk_545.fr ha_x (ex3 (gQ_12_1215 hO.1 ha_x)) (by decide +kernel) (by decide +kernel)) _).trans pw_8
    have zR_559 : zA S_544 x 1214 a1_z.toNat = ((qse A)).toInt := (congrFun (zA_fr hk_545.fr ha_x (ex3 (gQ_12_1214 hO.1 ha_x)) (by decide +kernel) (by decide +kernel)) _).trans pw_9
    have zR_560 : zA S_544 x 1216 a1_z.toNat = ((qdr A)).toInt := (congrFun (zA_fr hk_545.fr ha_x (ex3 (gQ_12_1216 hO.1 ha_x)) (by decide +kernel) (by decide +kernel)) _).trans pw_11
    have zR_561 : zA S_544 x 1217 a1_z.toNat = ((qtk A)).toInt := (congrFun (zA_fr hk_545.fr ha_x (ex3 (gQ_12_1217 hO.1 ha_x)) (by decide +kernel) (by decide +kernel)) _).trans pw_12
    have pz_562 : PlZ S_544 x (qpl A) (qsd A) := PlZ_eq pw_14 (zA_fr hk_545.fr ha_x (ex3 (gQ_12_1208 hO.1 ha_x)) (by decide +kernel) (by decide +kernel)) (zA_fr hk_545.fr ha_x (ex3 (gQ_12_1207 hO.1 ha_x)) (by decide +kernel) (by decide +kernel))
    have px_563 : PwX S S_544 x a1_z := PwX_cu (PwX_rf S x a1_z) hO.1 ha_x (zA_fr hk_545.fr ha_x (ex3 (gQ_12_1218 hO.1 ha_x)) (by decide +kernel) (by decide +kernel)) (zA_fr hk_545.fr ha_x (ex3 (gQ_12_1219 hO.1 ha_x)) (by decide +kernel) (by decide +kernel)) cu_548 (pw4 (fun _ => zA_fr hk_545.fr ha_x (ex3 (gQ_12_1214 hO.1 ha_x)) (by decide +kernel) (by decide +kernel)) (fun _ => zA_fr hk_545.fr ha_x (ex3 (gQ_12_1215 hO.1 ha_x)) (by decide +kernel) (by decide +kernel)) (fun _ => zA_fr hk_545.fr ha_x (ex3 (gQ_12_1216 hO.1 ha_x)) (by decide +kernel) (by decide +kernel)) (fun _ => zA_fr hk_545.fr ha_x (ex3 (gQ_12_1217 hO.1 ha_x)) (by decide +kernel) (by decide +kernel)) (fun h => absurd rfl h)) cc_549 cc_550 cc_551
    have gl_564 : ((qg A)).length ≤ 300 := by have h1 := pw_10.1; have h2 := z1237 hO.1 ha_x a1_z.toNat; omega
    exact ret_v X hw hr hlocks (Nat.le_of_ble_eq_true rfl) (Nat.le_of_ble_eq_true rfl) ⟨hO_546, ⟨mi_547, fun hgr => (GR_set cu_548 (by omega) hgr), zm_554, (by rw [actF_4 (show ru.1.toInt = 4 by rw [fa_27]; have e1 : (v_25 : Int32).toInt = v_25.toInt := rfl; omega)]; exact (PotW_cut hO.1 ha_x (by omega) hp_6 pw_10 pw_13 cc_549 cc_550 cc_551 (by rw [cu_548, if_pos rfl]) rR_555 rR_556 rR_557 zR_558 zR_559 zR_560 zR_561 pz_562).1), px_563, (by rw [actF_4 (show ru.1.toInt = 4 by rw [fa_27]; have e1 : (v_25 : Int32).toInt = v_25.toInt := rfl; omega)]; exact WsT_cut hO.1 ha_x (by omega) (by omega) hp_4 hp_6 pw_10 gl_564 pw_13 cc_552)⟩⟩ dX12_acts_201
