
set_option maxHeartbeats 4000000 in
set_option maxRecDepth 100000 in
theorem k_X12_tick3 (l : Launch) (G : va_G) (cy : Nat → ClassId) (κ : Nat → Nat) (S : PS) (sz : Nat) (x : Nat) (a1 : Int32) (a1_z : Int) (hG : GX S) (ha_x : At S x 12) (hz_a1 : a1.toInt = a1_z) (hp_0 : 0 ≤ a1_z) (hp_1 : a1_z ≤ 3) (hp_2 : MI S x) (hp_3 : GR S x) : Ci l yX12_tick wsX12_tick ({ frames := 8, cells := 0, slots := 0, locals := 384 }) G cy κ S sz [.ref x, .int (a1)] (fun (r : Int32) (S9 : PS) => Ok MTK S S9 ∧ (((MI S9 x ∧ GR S9 x ∧ ZM S S9 x) ∧ r = 1) ∨ ((MI S9 x ∧ GR S9 x ∧ ZM S S9 x) ∧ r = 0))) := by
  refine ent_m (cc := cX12_tick) (maxL := 6) (ret := (some .boolean)) (by decide) rfl (Nat.le_of_ble_eq_true rfl) ?_
  intro p e s m below meth c ls X hr hlocks hin hw hl hsz
  subst hsz
  have X : Cx p c cX12_tick 6 s [.ref x, .int (a1)].toArray wsX12_tick RX12 m G cy κ (AS S s.heap.size) := X
  have hl : lv_has ls 6 [(0, .ref x), (1, .int (a1))] := hl
  have rg_a1 : (-2147483648) ≤ a1_z ∧ a1_z ≤ 2147483647 := by rw [← hz_a1]; exact ⟨z_lo _, z_hi _⟩
  have hO : Ok MTK S S := Ok.rf hG
  generalize hQQ : MQ below _ _ _ _ _ _ = QQ
  replace hQQ := hQQ.symm
  obtain ⟨v_1, ev_1⟩ : ∃ v, pI S 1201 x = v := ⟨_, rfl⟩
  have rg_2 := gI_12_1201 hO.1 ha_x; rw [ev_1] at rg_2
  have pz_3 : (pI S 1201 x).toInt = v_1.toInt := by rw [ev_1]
  have pz_4 : (pI S 1201 x).toInt = v_1.toInt := (congrArg Int32.toInt ev_1).trans rfl
  have hzm0 : ZM S S x := ZM_rf S x
  refine lv_aload_n X.1 X.2.1 dX12_tick_0 rfl (lv_at hl 0 rfl) ?_
  obtain ⟨q_5, h_6, h_7, h_8⟩ := gQ_12_1217 hO.1 ha_x
  refine r_getR (g := 1217) X hw ha_x rfl 17 h_6 (by decide) rfl inn_X12_tick_12 (by decide) (X.2.2.2.1 (.fieldLink RX12 52 "SilkMillModel" "ticksEver" "[I") (by decide +kernel)) rfl (gv_1217 _ _) dX12_tick_1 ?_
  refine lv_iload_n X.1 X.2.1 dX12_tick_4 rfl (lv_at hl 1 rfl) ?_
  refine lv_dup2_11 X.1 X.2.1 dX12_tick_5 rfl rfl ?_
  refine r_iald X hw h_7 rfl (by rw [h_8]; exact z_ix hz_a1 (by omega) (by omega)) dX12_tick_6 ?_
  refine lv_topi (fun v_9 ev_9 => ?_)
  have rg_10 := And.intro (z_lo v_9) (z_hi v_9)
  have ev_9 := ev_9.symm
  refine lv_iconst (v := 1) X.1 X.2.1 dX12_tick_7 (by decide) ?_
  refine lv_iadd X.1 X.2.1 dX12_tick_8 ?_
  refine lv_topi (fun v_11 ev_11 => ?_)
  have rg_12 := And.intro (z_lo v_11) (z_hi v_11)
  refine r_iast X hw h_7 rfl (by rw [h_8]; exact z_ix hz_a1 (by omega) (by omega)) dX12_tick_9 (fun H locs hw => ?_)
  obtain ⟨S_13, eS_13⟩ : ∃ T, T = sA S q_5 (upd (pA S q_5) (Int32.toNatClampNeg (a1)) (v_11)) := ⟨_, rfl⟩
  rw [← eS_13] at hw
  have hO_14 : Ok MTK S S_13 := hO.sA eS_13 h_7 (by decide +kernel) (uA_554 hO.1 h_7)
  have h_15 : pA S_13 q_5 (Int32.toNatClampNeg (a1)) = v_11 := tA_sAs eS_13
  have t_22 : pI S_13 1201 x = v_1 := tI_sA eS_13 ev_1
  have L_16 : ∀ (T_17 : PS) (H : Heap) (locs : List Loc) (ls : Array Slot) , (Wd G cy (AS S s.heap.size) s.heap T_17 H locs) → (At T_17 x 12) → (Ok MTK S T_17) → (MIe T_17 x (-1)) → (GR T_17 x) → (ZM S T_17 x) → (pI T_17 1201 x = v_1) → (lv_has ls 6 [(0, .ref x), (1, .int (a1))]) → W p l e ({ frames := 8, cells := 0, slots := 0, locals := 384 }) s m [.ref x, .int (a1)].toArray below meth c H locs 0 0 QQ (F0 m 37 ls []) := by
    intro T_17 H locs ls  hw ha_x_L_18 hO_T_17 mk_19 iv_20 iv_21 ik_23 hl
    have pz_24 : (pI T_17 1201 x).toInt = v_1.toInt := (congrArg Int32.toInt ik_23).trans rfl
    refine lv_aload_n X.1 X.2.1 dX12_tick_37 rfl (lv_at hl 0 rfl) ?_
    have L_25 : ∀ (T_26 : PS) (H : Heap) (locs : List Loc) (ls : Array Slot) , (Wd G cy (AS S s.heap.size) s.heap T_26 H locs) → (At T_26 x 12) → (Ok MTK S T_26) → (MIe T_26 x (-1)) → (GR T_26 x) → (ZM S T_26 x) → (pI T_26 1201 x = v_1) → (lv_has ls 6 [(0, .ref x), (1, .int (a1))]) → W p l e ({ frames := 8, cells := 0, slots := 0, locals := 384 }) s m [.ref x, .int (a1)].toArray below meth c H locs 0 0 QQ (F0 m 87 ls []) := by
      intro T_26 H locs ls  hw ha_x_L_27 hO_T_26 mk_28 iv_29 iv_30 ik_31 hl
      have pz_32 : (pI T_26 1201 x).toInt = v_1.toInt := (congrArg Int32.toInt ik_31).trans rfl
      refine lv_aload_n X.1 X.2.1 dX12_tick_87 rfl (lv_at hl 0 rfl) ?_
      have L_33 : ∀ (T_34 : PS) (H : Heap) (locs : List Loc) (ls : Array Slot) , (Wd G cy (AS S s.heap.size) s.heap T_34 H locs) → (At T_34 x 12) → (Ok MTK S T_34) → (MIe T_34 x (-1)) → (GR T_34 x) → (ZM S T_34 x) → (pI T_34 1201 x = v_1) → (lv_has ls 6 [(0, .ref x), (1, .int (a1))]) → W p l e ({ frames := 8, cells := 0, slots := 0, locals := 384 }) s m [.ref x, .int (a1)].toArray below meth c H locs 0 0 QQ (F0 m 137 ls []) := by
        intro T_34 H locs ls  hw ha_x_L_35 hO_T_34 mk_36 iv_37 iv_38 ik_39 hl
        have pz_40 : (pI T_34 1201 x).toInt = v_1.toInt := (congrArg Int32.toInt ik_39).trans rfl
        refine lv_aload_n X.1 X.2.1 dX12_tick_137 rfl (lv_at hl 0 rfl) ?_
        obtain ⟨q_41, h_42, h_43, h_44⟩ := gQ_12_1215 hO_T_34.1 ha_x_L_35
        refine r_getR (g := 1215) X hw ha_x_L_35 rfl 15 h_42 (by decide) rfl inn_X12_tick_12 (by decide) (X.2.2.2.1 (.fieldLink RX12 46 "SilkMillModel" "stop" "[I") (by decide +kernel)) rfl (gv_1215 _ _) dX12_tick_138 ?_
        refine lv_iload_n X.1 X.2.1 dX12_tick_141 rfl (lv_at hl 1 rfl) ?_
        refine r_iald X hw h_43 rfl (by rw [h_44]; exact z_ix hz_a1 (by omega) (by omega)) dX12_tick_142 ?_
        refine lv_topi (fun v_45 ev_45 => ?_)
        have rg_46 := And.intro (z_lo v_45) (z_hi v_45)
        have ev_45 := ev_45.symm
        refine lv_if_le (tgt := 158) X.1 X.2.1 dX12_tick_143 (by decide) (fun c_47 => ?_) (fun c_47 => ?_)
        · have z_b_48 := trivial
          have k_49 : v_45.toInt ≤ 0 := z_le rfl ti_0 c_47
          refine lv_aload_n X.1 X.2.1 dX12_tick_158 rfl (lv_at hl 0 rfl) ?_
          refine lv_iload_n X.1 X.2.1 dX12_tick_159 rfl (lv_at hl 1 rfl) ?_
          refine lv_iconst (v := 1) X.1 X.2.1 dX12_tick_160 (by decide) ?_
          refine k_i (rm := { frames := 1, cells := 0, slots := 0, locals := 48 }) (av := [.ref x, .int (a1), .int 1]) X hw (va_runV (As := [.int (a1), .int 1]) (rest := []) (cfix X) (k_X12_many2 l G cy κ T_34 _ x (a1) (a1_z) (1) (1) hO_T_34.1 ha_x_L_35 hz_a1 ti_1 (by first | assumption | omega) (by first | assumption | omega) (by first | assumption | omega) (by first | assumption | omega)) (cwV 2 X.2.2.2.1 gX12_tick_X12_many rfl rfl rfl (by decide +kernel) ⟨Nat.le_of_ble_eq_true rfl, Nat.le_of_ble_eq_true rfl⟩) (pre_V X hw _ ha_x_L_35 rfl (by decide) rfl) rfl rfl hl.1 rfl (lv_room (Nat.le_of_ble_eq_true rfl)) dX12_tick_161 ⟨Nat.le_of_ble_eq_true rfl, Nat.le_of_ble_eq_true rfl⟩) 0 0 (Nat.le_of_ble_eq_true rfl) (Nat.le_of_ble_eq_true rfl) (fun rr_50 S_51 H locs hp hw hfr hnw => ?_)
          obtain ⟨e2, hp⟩ := hp
          subst e2
          obtain ⟨f_52, f_53, f_54⟩ := hp
          refine lv_istore_n (lv' := [(2, .int (rr_50)), (0, .ref x), (1, .int (a1))]) X.1 X.2.1 dX12_tick_164 rfl hl (by decide) rfl (fun ls hl => ?_)
          refine lv_iload_n X.1 X.2.1 dX12_tick_165 rfl (lv_at hl 0 rfl) ?_
          refine lv_if_ne (tgt := 171) X.1 X.2.1 dX12_tick_166 (by decide) (fun c_55 => ?_) (fun c_55 => ?_)
          · have z_b_56 := trivial
            have k_57 : rr_50.toInt ≠ 0 := z_ne rfl ti_0 c_55
            have m4_58 := mk_36.2.2.2.1.1 a1_z.toNat (by omega); rw [show 3 * a1_z.toNat + 1 = (3 * a1_z + 1).toNat by omega] at m4_58
            refine lv_aload_n X.1 X.2.1 dX12_tick_171 rfl (lv_at hl 1 rfl) ?_
            refine lv_iload_n X.1 X.2.1 dX12_tick_172 rfl (lv_at hl 2 rfl) ?_
            refine k_i (rm := { frames := 1, cells := 0, slots := 0, locals := 48 }) (av := [.ref x, .int (a1)]) X hw (va_runV (As := [.int (a1)]) (rest := []) (cfix X) (k_X12_growing l G cy κ T_34 _ x (a1) (a1_z) hO_T_34.1 ha_x_L_35 hz_a1 (by first | assumption | omega) (by first | assumption | omega)) (cwV 1 X.2.2.2.1 gX12_tick_X12_growing rfl rfl rfl (by decide +kernel) ⟨Nat.le_of_ble_eq_true rfl, Nat.le_of_ble_eq_true rfl⟩) (pre_V X hw _ ha_x_L_35 rfl (by decide) rfl) rfl rfl hl.1 rfl (lv_room (Nat.le_of_ble_eq_true rfl)) dX12_tick_173 ⟨Nat.le_of_ble_eq_true rfl, Nat.le_of_ble_eq_true rfl⟩) 0 0 (Nat.le_of_ble_eq_true rfl) (Nat.le_of_ble_eq_true rfl) (fun rr_59 S_60 H locs hp hw hfr hnw => ?_)
            obtain ⟨e2, hp⟩ := hp
            subst e2
            have f_61 := hp
            refine lv_aload_n X.1 X.2.1 dX12_tick_176 rfl (lv_at hl 1 rfl) ?_
            obtain ⟨q_62, h_63, h_64, h_65⟩ := gQ_12_1237 hO_T_34.1 ha_x_L_35
            refine r_getR (g := 1237) X hw ha_x_L_35 rfl 37 h_63 (by decide) rfl inn_X12_tick_12 (by decide) (X.2.2.2.1 (.fieldLink RX12 97 "SilkMillModel" "grown" "[I") (by decide +kernel)) rfl (gv_1237 _ _) dX12_tick_177 ?_
            refine lv_iload_n X.1 X.2.1 dX12_tick_180 rfl (lv_at hl 2 rfl) ?_
            refine r_iald X hw h_64 rfl (by rw [h_65]; exact z_ix hz_a1 (by omega) (by omega)) dX12_tick_181 ?_
            refine lv_topi (fun v_66 ev_66 => ?_)
            have z_67 := gE_954 hO_T_34.1 h_64 (Int32.toNatClampNeg (a1)); rw [← ev_66] at z_67
            have ev_66 := ev_66.symm
            have zf_68 : zA T_34 x 1237 (a1_z).toNat = v_66.toInt := (zA_of h_63 hz_a1 (by omega) ev_66)
            have gl_69 := iv_37 (a1_z).toNat (by omega); rw [zf_68] at gl_69
            refine lv_iadd X.1 X.2.1 dX12_tick_182 ?_
            refine lv_topi (fun v_70 ev_70 => ?_)
            have z_71 : v_70.toInt = rr_59.toInt + v_66.toInt := z_add ev_70 rfl rfl (by omega) (by omega)
            refine lv_istore_n (lv' := [(3, .int (v_70)), (2, .int (rr_50)), (0, .ref x), (1, .int (a1))]) X.1 X.2.1 dX12_tick_183 rfl hl (by decide) rfl (fun ls hl => ?_)
            refine lv_aload_n X.1 X.2.1 dX12_tick_184 rfl (lv_at hl 2 rfl) ?_
            obtain ⟨q_72, h_73, h_74, h_75⟩ := gQ_12_1235 hO_T_34.1 ha_x_L_35
            refine r_getR (g := 1235) X hw ha_x_L_35 rfl 35 h_73 (by decide) rfl inn_X12_tick_12 (by decide) (X.2.2.2.1 (.fieldLink RX12 90 "SilkMillModel" "metreEnds" "[I") (by decide +kernel)) rfl (gv_1235 _ _) dX12_tick_185 ?_
            refine lv_iload_n X.1 X.2.1 dX12_tick_188 rfl (lv_at hl 0 rfl) ?_
            refine lv_iload_n X.1 X.2.1 dX12_tick_189 rfl (lv_at hl 1 rfl) ?_
            refine r_iast X hw h_74 rfl (by rw [h_75]; exact z_ix z_71 (by omega) (by omega)) dX12_tick_190 (fun H locs hw => ?_)
            obtain ⟨S_76, eS_76⟩ : ∃ T, T = sA T_34 q_72 (upd (pA T_34 q_72) (Int32.toNatClampNeg (v_70)) (rr_50)) := ⟨_, rfl⟩
            rw [← eS_76] at hw
            have hO_77 : Ok MTK S S_76 := hO_T_34.sA eS_76 h_74 (by decide +kernel) (uA_914 hO_T_34.1 h_74 (by omega) (by omega))
            have h_78 : pA S_76 q_72 (Int32.toNatClampNeg (v_70)) = rr_50 := tA_sAs eS_76
            refine lv_iconst (v := 0) X.1 X.2.1 dX12_tick_191 (by decide) ?_
            refine lv_istore (lv' := [(4, .int 0), (3, .int (v_70)), (2, .int (rr_50)), (0, .ref x), (1, .int (a1))]) X.1 X.2.1 dX12_tick_192 hl (by decide) rfl (fun ls hl => ?_)
            have zc_83 : zA S_76 x 1219 = zA T_34 x 1219 := zA_sAn eS_76 (ex3 (gQ_12_1219 hO_T_34.1 ha_x_L_35)) h_74 rfl
            have zc_85 : zA S_76 x 1237 = zA T_34 x 1237 := zA_sAn eS_76 (ex3 (gQ_12_1237 hO_T_34.1 ha_x_L_35)) h_74 rfl
            have t_89 : pI S_76 1201 x = v_1 := tI_sA eS_76 ik_39
            have L_79 : ∀ (n : Nat) (T_81 : PS) (H : Heap) (locs : List Loc) (ls : Array Slot) (i4_80 : Int32) (i4_80_z : Int), ((12 - i4_80_z).toNat = n) → (Wd G cy (AS S s.heap.size) s.heap T_81 H locs) → (i4_80.toInt = i4_80_z) → (0 ≤ i4_80_z ∧ i4_80_z ≤ 12) → (At T_81 x 12) → (Ok MTK S T_81) → (zA T_81 x 1219 = zA T_34 x 1219) → (zA T_81 x 1237 = zA T_34 x 1237) → (MIe T_81 x (-1)) → (ZM S T_81 x) → (pI T_81 1201 x = v_1) → (lv_has ls 6 [(4, .int (i4_80)), (3, .int (v_70)), (2, .int (rr_50)), (0, .ref x), (1, .int (a1))]) → W p l e ({ frames := 8, cells := 0, slots := 0, locals := 384 }) s m [.ref x, .int (a1)].toArray below meth c H locs 0 0 QQ (F0 m 194 ls []) := by
              intro n
              induction n using Nat.strongRecOn with
              | ind n ih_L_79 =>
              intro T_81 H locs ls i4_80 i4_80_z hn hw hz_i4_80 hr_i4_80 ha_x_L_82 hO_T_81 zk_84 zk_86 mk_87 iv_88 ik_90 hl
              have rg_91 : (-2147483648) ≤ i4_80_z ∧ i4_80_z ≤ 2147483647 := by rw [← hz_i4_80]; exact ⟨z_lo _, z_hi _⟩
              have pz_92 : (pI T_81 1201 x).toInt = v_1.toInt := (congrArg Int32.toInt ik_90).trans rfl
              refine lv_iload X.1 X.2.1 dX12_tick_194 (lv_at hl 0 rfl) ?_
              refine lv_iload_n X.1 X.2.1 dX12_tick_196 rfl (lv_at hl 2 rfl) ?_
              refine lv_icmp_ge (tgt := 244) X.1 X.2.1 dX12_tick_197 (by decide) (fun c_93 => ?_) (fun c_93 => ?_)
              · have z_b_94 := trivial
                have k_95 : i4_80_z ≥ rr_50.toInt := z_le rfl hz_i4_80 c_93
                refine lv_aload_n X.1 X.2.1 dX12_tick_244 rfl (lv_at hl 3 rfl) ?_
                obtain ⟨q_96, h_97, h_98, h_99⟩ := gQ_12_1237 hO_T_81.1 ha_x_L_82
                refine r_getR (g := 1237) X hw ha_x_L_82 rfl 37 h_97 (by decide) rfl inn_X12_tick_12 (by decide) (X.2.2.2.1 (.fieldLink RX12 97 "SilkMillModel" "grown" "[I") (by decide +kernel)) rfl (gv_1237 _ _) dX12_tick_245 ?_
                refine lv_iload_n X.1 X.2.1 dX12_tick_248 rfl (lv_at hl 4 rfl) ?_
                refine lv_dup2_11 X.1 X.2.1 dX12_tick_249 rfl rfl ?_
                refine r_iald X hw h_98 rfl (by rw [h_99]; exact z_ix hz_a1 (by omega) (by omega)) dX12_tick_250 ?_
                refine lv_topi (fun v_100 ev_100 => ?_)
                have z_101 := gE_954 hO_T_81.1 h_98 (Int32.toNatClampNeg (a1)); rw [← ev_100] at z_101
                have ev_100 := ev_100.symm
                have zf_102 : zA T_81 x 1237 (a1_z).toNat = v_100.toInt := (zA_of h_97 hz_a1 (by omega) ev_100)
                have gl_103 := (GR_eq zk_86 iv_37) (a1_z).toNat (by omega); rw [zf_102] at gl_103
                refine lv_iconst (v := 1) X.1 X.2.1 dX12_tick_251 (by decide) ?_
                refine lv_iadd X.1 X.2.1 dX12_tick_252 ?_
                refine lv_topi (fun v_104 ev_104 => ?_)
                have z_105 : v_104.toInt = v_100.toInt + 1 := z_add ev_104 rfl ti_1 (by omega) (by omega)
                refine r_iast X hw h_98 rfl (by rw [h_99]; exact z_ix hz_a1 (by omega) (by omega)) dX12_tick_253 (fun H locs hw => ?_)
                obtain ⟨S_106, eS_106⟩ : ∃ T, T = sA T_81 q_96 (upd (pA T_81 q_96) (Int32.toNatClampNeg (a1)) (v_104)) := ⟨_, rfl⟩
                rw [← eS_106] at hw
                have hO_107 : Ok MTK S S_106 := hO_T_81.sA eS_106 h_98 (by decide +kernel) (uA_954 hO_T_81.1 h_98 (by omega) (by omega))
                have h_108 : pA S_106 q_96 (Int32.toNatClampNeg (a1)) = v_104 := tA_sAs eS_106
                have t_109 : pR S_106 1237 x = some q_96 := tR_sA eS_106 h_97
                have t_111 : pR T_81 1237 x = some q_96 := by have h := t_109; rw [eS_106, pR_sA] at h; exact h
                have zs_110 : ∀ j, zA S_106 x 1237 j = if j = (a1_z).toNat then (v_100.toInt + 1) else zA T_81 x 1237 j := by have h := zA_sAs eS_106 t_111 z_105; rw [z_nc hz_a1 (by omega)] at h; exact h
                have zs_112 : ∀ j, zA S_106 x 1237 j = if j = (a1_z).toNat then (v_100.toInt + 1) else zA T_34 x 1237 j := fun j => by rw [zs_110 j, zk_86]
                have gb_113 : GR T_81 x := (GR_eq zk_86 iv_37)
                have t_115 : pR T_81 1237 x = some q_96 := by have h := t_109; rw [eS_106, pR_sA] at h; exact h
                have zs_114 : ∀ j, zA S_106 x 1237 j = if j = (a1_z).toNat then (v_100.toInt + 1) else zA T_81 x 1237 j := by have h := zA_sAs eS_106 t_115 z_105; rw [z_nc hz_a1 (by omega)] at h; exact h
                refine lv_aload_n X.1 X.2.1 dX12_tick_254 rfl (lv_at hl 3 rfl) ?_
                have t_116 : At S_106 x 12 := tAt_sA eS_106 ha_x_L_82
                obtain ⟨q_117, h_118, h_119, h_120⟩ := gQ_12_1216 hO_107.1 t_116
                refine r_getR (g := 1216) X hw t_116 rfl 16 h_118 (by decide) rfl inn_X12_tick_12 (by decide) (X.2.2.2.1 (.fieldLink RX12 49 "SilkMillModel" "drawnEver" "[I") (by decide +kernel)) rfl (gv_1216 _ _) dX12_tick_255 ?_
                refine lv_iload_n X.1 X.2.1 dX12_tick_258 rfl (lv_at hl 4 rfl) ?_
                refine lv_dup2_11 X.1 X.2.1 dX12_tick_259 rfl rfl ?_
                refine r_iald X hw h_119 rfl (by rw [h_120]; exact z_ix hz_a1 (by omega) (by omega)) dX12_tick_260 ?_
                refine lv_topi (fun v_121 ev_121 => ?_)
                have rg_122 := And.intro (z_lo v_121) (z_hi v_121)
                have ev_121 := ev_121.symm
                refine lv_iconst (v := 1) X.1 X.2.1 dX12_tick_261 (by decide) ?_
                refine lv_iadd X.1 X.2.1 dX12_tick_262 ?_
                refine lv_topi (fun v_123 ev_123 => ?_)
                have rg_124 := And.intro (z_lo v_123) (z_hi v_123)
                refine r_iast X hw h_119 rfl (by rw [h_120]; exact z_ix hz_a1 (by omega) (by omega)) dX12_tick_263 (fun H locs hw => ?_)
                obtain ⟨S_125, eS_125⟩ : ∃ T, T = sA S_106 q_117 (upd (pA S_106 q_117) (Int32.toNatClampNeg (a1)) (v_123)) := ⟨_, rfl⟩
                rw [← eS_125] at hw
                have hO_126 : Ok MTK S S_125 := hO_107.sA eS_125 h_119 (by decide +kernel) (uA_534 hO_107.1 h_119)
                have h_127 : pA S_125 q_117 (Int32.toNatClampNeg (a1)) = v_123 := tA_sAs eS_125
                refine lv_iconst (v := 0) X.1 X.2.1 dX12_tick_264 (by decide) ?_
                refine lv_istore (lv' := [(4, .int 0), (3, .int (v_70)), (2, .int (rr_50)), (0, .ref x), (1, .int (a1))]) X.1 X.2.1 dX12_tick_265 hl (by decide) rfl (fun ls hl => ?_)
                have zc_132 : zA S_125 x 1237 = zA S_106 x 1237 := zA_sAn eS_125 (ex3 (gQ_12_1237 hO_107.1 t_116)) h_119 rfl
                have t_136 : pI S_106 1201 x = v_1 := tI_sA eS_106 ik_90
                have t_137 : pI S_125 1201 x = v_1 := tI_sA eS_125 t_136
                have L_128 : ∀ (n : Nat) (T_130 : PS) (H : Heap) (locs : List Loc) (ls : Array Slot) (i4_129 : Int32) (i4_129_z : Int), ((zA T_130 x 1219 (3 * a1_z + 1).toNat - i4_129_z).toNat = n) → (Wd G cy (AS S s.heap.size) s.heap T_130 H locs) → (i4_129.toInt = i4_129_z) → (0 ≤ i4_129_z ∧ i4_129_z ≤ 600) → (At T_130 x 12) → (Ok MTK S T_130) → (zA T_130 x 1237 = zA S_106 x 1237) → (MIe T_130 x (-1)) → (ZM S T_130 x) → (pI T_130 1201 x = v_1) → (lv_has ls 6 [(4, .int (i4_129)), (3, .int (v_70)), (2, .int (rr_50)), (0, .ref x), (1, .int (a1))]) → W p l e ({ frames := 8, cells := 0, slots := 0, locals := 384 }) s m [.ref x, .int (a1)].toArray below meth c H locs 0 0 QQ (F0 m 267 ls []) := by
                  intro n
                  induction n using Nat.strongRecOn with
                  | ind n ih_L_128 =>
                  intro T_130 H locs ls i4_129 i4_129_z hn hw hz_i4_129 hr_i4_129 ha_x_L_131 hO_T_130 zk_133 mk_134 iv_135 ik_138 hl
                  have rg_139 : (-2147483648) ≤ i4_129_z ∧ i4_129_z ≤ 2147483647 := by rw [← hz_i4_129]; exact ⟨z_lo _, z_hi _⟩
                  have pz_140 : (pI T_130 1201 x).toInt = v_1.toInt := (congrArg Int32.toInt ik_138).trans rfl
                  refine lv_iload X.1 X.2.1 dX12_tick_267 (lv_at hl 0 rfl) ?_
                  refine lv_aload_n X.1 X.2.1 dX12_tick_269 rfl (lv_at hl 3 rfl) ?_
                  refine lv_iload_n X.1 X.2.1 dX12_tick_270 rfl (lv_at hl 4 rfl) ?_
                  refine lv_iconst (v := 1) X.1 X.2.1 dX12_tick_271 (by decide) ?_
                  refine k_i (rm := { frames := 1, cells := 0, slots := 0, locals := 48 }) (av := [.ref x, .int (a1), .int 1]) X hw (va_runV (As := [.int (a1), .int 1]) (rest := [.int (i4_129)]) (cfix X) (k_X12_many2 l G cy κ T_130 _ x (a1) (a1_z) (1) (1) hO_T_130.1 ha_x_L_131 hz_a1 ti_1 (by first | assumption | omega) (by first | assumption | omega) (by first | assumption | omega) (by first | assumption | omega)) (cwV 2 X.2.2.2.1 gX12_tick_X12_many rfl rfl rfl (by decide +kernel) ⟨Nat.le_of_ble_eq_true rfl, Nat.le_of_ble_eq_true rfl⟩) (pre_V X hw _ ha_x_L_131 rfl (by decide) rfl) rfl rfl hl.1 rfl (lv_room (Nat.le_of_ble_eq_true rfl)) dX12_tick_272 ⟨Nat.le_of_ble_eq_true rfl, Nat.le_of_ble_eq_true rfl⟩) 0 0 (Nat.le_of_ble_eq_true rfl) (Nat.le_of_ble_eq_true rfl) (fun rr_141 S_142 H locs hp hw hfr hnw => ?_)
                  obtain ⟨e2, hp⟩ := hp
                  subst e2
                  obtain ⟨f_143, f_144, f_145⟩ := hp
                  refine lv_icmp_ge (tgt := 379) X.1 X.2.1 dX12_tick_275 (by decide) (fun c_146 => ?_) (fun c_146 => ?_)
                  · have z_b_147 := trivial
                    have k_148 : i4_129_z ≥ rr_141.toInt := z_le rfl hz_i4_129 c_146
                    refine lv_aload_n X.1 X.2.1 dX12_tick_379 rfl (lv_at hl 3 rfl) ?_
                    obtain ⟨q_149, h_150, h_151, h_152⟩ := gQ_12_1237 hO_T_130.1 ha_x_L_131
                    refine r_getR (g := 1237) X hw ha_x_L_131 rfl 37 h_150 (by decide) rfl inn_X12_tick_12 (by decide) (X.2.2.2.1 (.fieldLink RX12 97 "SilkMillModel" "grown" "[I") (by decide +kernel)) rfl (gv_1237 _ _) dX12_tick_380 ?_
                    refine lv_iload_n X.1 X.2.1 dX12_tick_383 rfl (lv_at hl 4 rfl) ?_
                    refine r_iald X hw h_151 rfl (by rw [h_152]; exact z_ix hz_a1 (by omega) (by omega)) dX12_tick_384 ?_
                    refine lv_topi (fun v_153 ev_153 => ?_)
                    have z_154 := gE_954 hO_T_130.1 h_151 (Int32.toNatClampNeg (a1)); rw [← ev_153] at z_154
                    have ev_153 := ev_153.symm
                    have zf_155 : zA T_130 x 1237 (a1_z).toNat = v_153.toInt := (zA_of h_150 hz_a1 (by omega) ev_153)
                    have zz_156 := congrFun zk_133 (a1_z).toNat
                    have zz_157 := zs_114 (a1_z).toNat; rw [if_pos rfl] at zz_157
                    refine lv_sipush (v := 300) X.1 X.2.1 dX12_tick_385 (by decide) ?_
                    refine lv_icmp_ne (tgt := 400) X.1 X.2.1 dX12_tick_388 (by decide) (fun c_158 => ?_) (fun c_158 => ?_)
                    · have z_b_159 := trivial
                      have k_160 : v_153.toInt ≠ 300 := z_ne rfl ti_300 c_158
                      refine lv_iconst (v := 1) X.1 X.2.1 dX12_tick_400 (by decide) ?_
                      rw [hQQ]
                      exact ret_z X hw hr hlocks (Nat.le_of_ble_eq_true rfl) (Nat.le_of_ble_eq_true rfl) (by decide) ⟨hO_T_130, Or.inl ⟨⟨mk_134, (GR_eq zk_133 (GR_set zs_114 (by omega) gb_113)), iv_135⟩, rfl⟩⟩ dX12_tick_401
                    · have z_b_161 := trivial
                      have k_162 : v_153.toInt = 300 := z_eq rfl ti_300 c_158
                      refine lv_aload_n X.1 X.2.1 dX12_tick_391 rfl (lv_at hl 3 rfl) ?_
                      refine lv_aload_n X.1 X.2.1 dX12_tick_392 rfl (lv_at hl 3 rfl) ?_
                      refine lv_iload_n X.1 X.2.1 dX12_tick_393 rfl (lv_at hl 4 rfl) ?_
                      refine k_i (rm := { frames := 6, cells := 0, slots := 0, locals := 288 }) (av := [.ref x, .int (a1)]) X hw (va_runV (As := [.int (a1)]) (rest := [.ref x]) (cfix X) (k_X12_cuts l G cy κ T_130 _ x (a1) (a1_z) hO_T_130.1 ha_x_L_131 hz_a1 (by first | assumption | omega) (by first | assumption | omega) mk_134) (cwV 1 X.2.2.2.1 gX12_tick_X12_cuts rfl rfl rfl (by decide +kernel) ⟨Nat.le_of_ble_eq_true rfl, Nat.le_of_ble_eq_true rfl⟩) (pre_V X hw _ ha_x_L_131 rfl (by decide) rfl) rfl rfl hl.1 rfl (lv_room (Nat.le_of_ble_eq_true rfl)) dX12_tick_394 ⟨Nat.le_of_ble_eq_true rfl, Nat.le_of_ble_eq_true rfl⟩) 0 0 (Nat.le_of_ble_eq_true rfl) (Nat.le_of_ble_eq_true rfl) (fun rr_163 S_164 H locs hp hw hfr hnw => ?_)
                      obtain ⟨hk_165, hp⟩ := hp
                      have hO_166 : Ok MTK S S_164 := hO_T_130.call hk_165 (by decide +kernel)
                      obtain ⟨mi_167, cu_168⟩ := hp
                      have rg_169 := And.intro (z_lo rr_163) (z_hi rr_163)
                      have f_171 : ∀ j, zA S_164 x 1237 j = if j = (a1_z).toNat then 0 else zA T_81 x 1237 j := fun j => by rw [cu_168 j, zk_133, zs_114 j]; split <;> rfl
                      have gr_170 : GR S_164 x := GR_set f_171 (by omega) gb_113
                      have t_172 : At S_164 x 12 := hk_165.fr.at ha_x_L_131
                      refine r_putI (v := rr_163) X hw t_172 rfl 47 1247 tyX12 (by decide) rfl inn_X12_tick_12 tyX12_ok nmX12 (by decide) (X.2.2.2.1 (.fieldLink RX12 330 "SilkMillModel" "cutAtOnce" "I") (by decide +kernel)) rfl (Or.inl rfl) rfl rfl (Nat.le_of_ble_eq_true rfl) (st_1247 _ _) dX12_tick_397 (fun H locs hw => ?_)
                      obtain ⟨S_173, eS_173⟩ : ∃ T, T = sI S_164 1247 x (rr_163) := ⟨_, rfl⟩
                      rw [← eS_173] at hw
                      have hO_174 : Ok MTK S S_173 := hO_166.sI eS_173 (by decide +kernel) (uI_12_1247 hO_166.1 t_172)
                      have h_175 : pI S_173 1247 x = rr_163 := tI_sIs eS_173
                      refine lv_iconst (v := 1) X.1 X.2.1 dX12_tick_400 (by decide) ?_
                      have zm_176 : ZM S S_164 x := ZM_eq iv_135 (zA_fr hk_165.fr ha_x_L_131 (ex3 (gQ_12_1207 hO_T_130.1 ha_x_L_131)) (by decide +kernel) (by decide +kernel))
                      have zm_177 : ZM S S_173 x := ZM_eq zm_176 (zA_sI eS_173)
                      have mi_178 : MIe S_173 x (-1) := MIe_sI mi_167 hO_166.1 t_172 eS_173 (by decide +kernel)
                      have zc_179 : zA S_173 x 1237 = zA S_164 x 1237 := zA_sI eS_173
                      rw [hQQ]
                      exact ret_z X hw hr hlocks (Nat.le_of_ble_eq_true rfl) (Nat.le_of_ble_eq_true rfl) (by decide) ⟨hO_174, Or.inl ⟨⟨mi_178, (GR_eq zc_179 gr_170), zm_177⟩, rfl⟩⟩ dX12_tick_401
                  · have z_b_180 := trivial
                    have k_181 : i4_129_z < rr_141.toInt := z_nle rfl hz_i4_129 c_146
                    refine lv_aload_n X.1 X.2.1 dX12_tick_278 rfl (lv_at hl 3 rfl) ?_
                    refine lv_iload_n X.1 X.2.1 dX12_tick_279 rfl (lv_at hl 4 rfl) ?_
                    refine lv_iconst (v := 1) X.1 X.2.1 dX12_tick_280 (by decide) ?_
                    refine lv_iload X.1 X.2.1 dX12_tick_281 (lv_at hl 0 rfl) ?_
                    refine k_i (rm := { frames := 1, cells := 0, slots := 0, locals := 48 }) (av := [.ref x, .int (a1), .int 1, .int (i4_129)]) X hw (va_runV (As := [.int (a1), .int 1, .int (i4_129)]) (rest := []) (cfix X) (k_X12_at2 l G cy κ T_130 _ x (a1) (a1_z) (1) (1) (i4_129) (i4_129_z) hO_T_130.1 ha_x_L_131 hz_a1 ti_1 hz_i4_129 (by first | assumption | omega) (by first | assumption | omega) (by first | assumption | omega) (by first | assumption | omega) (by first | assumption | omega) (by first | assumption | omega)) (cwV 3 X.2.2.2.1 gX12_tick_X12_at rfl rfl rfl (by decide +kernel) ⟨Nat.le_of_ble_eq_true rfl, Nat.le_of_ble_eq_true rfl⟩) (pre_V X hw _ ha_x_L_131 rfl (by decide) rfl) rfl rfl hl.1 rfl (lv_room (Nat.le_of_ble_eq_true rfl)) dX12_tick_283 ⟨Nat.le_of_ble_eq_true rfl, Nat.le_of_ble_eq_true rfl⟩) 0 0 (Nat.le_of_ble_eq_true rfl) (Nat.le_of_ble_eq_true rfl) (fun rr_182 S_183 H locs hp hw hfr hnw => ?_)
                    obtain ⟨e2, hp⟩ := hp
                    subst e2
                    obtain ⟨f_184, f_185, f_186⟩ := hp
                    refine lv_istore (lv' := [(5, .int (rr_182)), (4, .int (i4_129)), (3, .int (v_70)), (2, .int (rr_50)), (0, .ref x), (1, .int (a1))]) X.1 X.2.1 dX12_tick_286 hl (by decide) rfl (fun ls hl => ?_)
                    have m8_187 := MI_alive mk_134 (c := rr_182.toInt) (r := 3 * a1_z + 1) (k := i4_129_z) (gI_12_1201 hO_T_130.1 ha_x_L_131).2 (by omega) (by omega) (by omega) (by omega) (by omega)
                    have lg_188 := lenZ_le hO_T_130.1 ha_x_L_131 (rr_182.toInt)
                    refine lv_aload_n X.1 X.2.1 dX12_tick_288 rfl (lv_at hl 4 rfl) ?_
                    obtain ⟨q_189, h_190, h_191, h_192⟩ := gQ_12_1208 hO_T_130.1 ha_x_L_131
                    refine r_getR (g := 1208) X hw ha_x_L_131 rfl 8 h_190 (by decide) rfl inn_X12_tick_12 (by decide) (X.2.2.2.1 (.fieldLink RX12 28 "SilkMillModel" "place" "[I") (by decide +kernel)) rfl (gv_1208 _ _) dX12_tick_289 ?_
                    refine lv_iload X.1 X.2.1 dX12_tick_292 (lv_at hl 0 rfl) ?_
                    refine lv_dup2_11 X.1 X.2.1 dX12_tick_294 rfl rfl ?_
                    refine r_iald X hw h_191 rfl (by rw [h_192]; exact z_ix rfl (by omega) (by omega)) dX12_tick_295 ?_
                    refine lv_topi (fun v_193 ev_193 => ?_)
                    have z_194 := gE_374 hO_T_130.1 h_191 (Int32.toNatClampNeg (rr_182)); rw [← ev_193] at z_194
                    have ev_193 := ev_193.symm
                    have zf_195 : zA T_130 x 1208 (rr_182.toInt).toNat = v_193.toInt := (zA_of h_190 rfl (by omega) ev_193)
                    rw [zf_195] at m8_187
                    have pz_196 : (pI T_130 1201 x).toInt = v_1.toInt := (congrArg Int32.toInt ik_138).trans rfl
                    refine lv_iconst (v := 1) X.1 X.2.1 dX12_tick_296 (by decide) ?_
                    refine lv_iadd X.1 X.2.1 dX12_tick_297 ?_
                    refine lv_topi (fun v_197 ev_197 => ?_)
                    have z_198 : v_197.toInt = v_193.toInt + 1 := z_add ev_197 rfl ti_1 (by omega) (by omega)
                    refine r_iast X hw h_191 rfl (by rw [h_192]; exact z_ix rfl (by omega) (by omega)) dX12_tick_298 (fun H locs hw => ?_)
                    obtain ⟨S_199, eS_199⟩ : ∃ T, T = sA T_130 q_189 (upd (pA T_130 q_189) (Int32.toNatClampNeg (rr_182)) (v_197)) := ⟨_, rfl⟩
                    rw [← eS_199] at hw
                    have hO_200 : Ok MTK S S_199 := hO_T_130.sA eS_199 h_191 (by decide +kernel) (uA_374 hO_T_130.1 h_191 (by omega) (by omega))
                    have h_201 : pA S_199 q_189 (Int32.toNatClampNeg (rr_182)) = v_197 := tA_sAs eS_199
                    have t_202 : pR S_199 1208 x = some q_189 := tR_sA eS_199 h_190
                    have t_204 : pR T_130 1208 x = some q_189 := by have h := t_202; rw [eS_199, pR_sA] at h; exact h
                    have zs_203 : ∀ j, zA S_199 x 1208 j = if j = (rr_182.toInt).toNat then (v_193.toInt + 1) else zA T_130 x 1208 j := by have h := zA_sAs eS_199 t_204 z_198; rw [z_nc rfl (by omega)] at h; exact h
                    have mi_205 : MIe S_199 x rr_182.toInt := place_MI (c := rr_182.toInt) hO_T_130.1 ha_x_L_131 (show Fr [10374] T_130 S_199 by rw [eS_199]; exact Fr_sA h_191 List.mem_cons_self) mk_134 (by omega) (by omega) (by omega) (by omega) (by omega) zs_203
                    have zp_206 : zA S_199 x 1208 (rr_182.toInt).toNat = (v_193.toInt + 1) := by have h := zs_203 (rr_182.toInt).toNat; rw [if_pos rfl] at h; exact h
                    have le_207 : lenZ S_199 x = lenZ T_130 x := lenZ_fr (show Fr [10374] T_130 S_199 by rw [eS_199]; exact Fr_sA h_191 List.mem_cons_self) ha_x_L_131 (ex3 (gQ_12_1203 hO_T_130.1 ha_x_L_131)) (ex3 (gQ_12_1205 hO_T_130.1 ha_x_L_131)) (by decide +kernel) (by decide +kernel) (by decide +kernel) (by decide +kernel)
                    have lf_208 := congrFun le_207 (rr_182.toInt)
                    have zc_209 : zA S_199 x 1219 = zA T_130 x 1219 := zA_sAn eS_199 (ex3 (gQ_12_1219 hO_T_130.1 ha_x_L_131)) h_191 rfl
                    have zz_210 := congrFun zc_209 ((3 * a1_z + 1).toNat)
                    have zc_211 : zA S_199 x 1218 = zA T_130 x 1218 := zA_sAn eS_199 (ex3 (gQ_12_1218 hO_T_130.1 ha_x_L_131)) h_191 rfl
                    have zz_212 := congrFun zc_211 ((600 * (3 * a1_z + 1) + i4_129_z).toNat)
                    have t_213 : pI S_199 1201 x = v_1 := tI_sA eS_199 ik_138
                    have pz_214 : (pI S_199 1201 x).toInt = v_1.toInt := (congrArg Int32.toInt t_213).trans rfl
                    refine lv_aload_n X.1 X.2.1 dX12_tick_299 rfl (lv_at hl 4 rfl) ?_
                    have t_215 : At S_199 x 12 := tAt_sA eS_199 ha_x_L_131
                    refine r_getR (g := 1208) X hw t_215 rfl 8 t_202 (by decide) rfl inn_X12_tick_12 (by decide) (X.2.2.2.1 (.fieldLink RX12 28 "SilkMillModel" "place" "[I") (by decide +kernel)) rfl (gv_1208 _ _) dX12_tick_300 ?_
                    refine lv_iload X.1 X.2.1 dX12_tick_303 (lv_at hl 0 rfl) ?_
                    have t_216 : At S_199 q_189 374 := tAt_sA eS_199 h_191
                    have t_217 : pN S_199 q_189 = 600 := tN_sA eS_199 h_192
                    clear h_192
                    refine r_iald X hw t_216 rfl (by rw [t_217]; exact z_ix rfl (by omega) (by omega)) dX12_tick_305 ?_
                    rw [h_201]
                    refine lv_aload_n X.1 X.2.1 dX12_tick_306 rfl (lv_at hl 4 rfl) ?_
                    refine lv_iload X.1 X.2.1 dX12_tick_307 (lv_at hl 0 rfl) ?_
                    refine k_i (rm := { frames := 2, cells := 0, slots := 0, locals := 96 }) (av := [.ref x, .int (rr_182)]) X hw (va_runV (As := [.int (rr_182)]) (rest := [.int (v_197)]) (cfix X) (k_X12_lengthOf l G cy κ S_199 _ x (rr_182) (rr_182.toInt) hO_200.1 t_215 rfl (by first | assumption | omega) (by first | assumption | omega)) (cwV 1 X.2.2.2.1 gX12_tick_X12_lengthOf rfl rfl rfl (by decide +kernel) ⟨Nat.le_of_ble_eq_true rfl, Nat.le_of_ble_eq_true rfl⟩) (pre_V X hw _ t_215 rfl (by decide) rfl) rfl rfl hl.1 rfl (lv_room (Nat.le_of_ble_eq_true rfl)) dX12_tick_309 ⟨Nat.le_of_ble_eq_true rfl, Nat.le_of_ble_eq_true rfl⟩) 0 0 (Nat.le_of_ble_eq_true rfl) (Nat.le_of_ble_eq_true rfl) (fun rr_218 S_219 H locs hp hw hfr hnw => ?_)
                    obtain ⟨e2, hp⟩ := hp
                    subst e2
                    obtain ⟨f_220, f_221, f_222⟩ := hp
                    refine lv_icmp_ne (tgt := 332) X.1 X.2.1 dX12_tick_312 (by decide) (fun c_223 => ?_) (fun c_223 => ?_)
                    · have z_b_224 := trivial
                      have k_225 : (v_193.toInt + 1) ≠ rr_218.toInt := z_ne z_198 rfl c_223
                      have mi_226 : MI S_199 x := back_MI mi_205 (by omega) (Or.inr (by omega))
                      refine lv_aload_n X.1 X.2.1 dX12_tick_332 rfl (lv_at hl 4 rfl) ?_
                      refine lv_iload X.1 X.2.1 dX12_tick_333 (lv_at hl 0 rfl) ?_
                      refine lv_aload_n X.1 X.2.1 dX12_tick_335 rfl (lv_at hl 4 rfl) ?_
                      refine r_getR (g := 1208) X hw t_215 rfl 8 t_202 (by decide) rfl inn_X12_tick_12 (by decide) (X.2.2.2.1 (.fieldLink RX12 28 "SilkMillModel" "place" "[I") (by decide +kernel)) rfl (gv_1208 _ _) dX12_tick_336 ?_
                      refine lv_iload X.1 X.2.1 dX12_tick_339 (lv_at hl 0 rfl) ?_
                      refine r_iald X hw t_216 rfl (by rw [t_217]; exact z_ix rfl (by omega) (by omega)) dX12_tick_341 ?_
                      rw [h_201]
                      refine lv_iconst (v := 1) X.1 X.2.1 dX12_tick_342 (by decide) ?_
                      refine lv_isub X.1 X.2.1 dX12_tick_343 ?_
                      refine lv_topi (fun v_227 ev_227 => ?_)
                      have z_228 : v_227.toInt = (v_193.toInt + 1) - 1 := z_sub ev_227 z_198 ti_1 (by omega) (by omega)
                      refine k_i (rm := { frames := 2, cells := 0, slots := 0, locals := 96 }) (av := [.ref x, .int (rr_182), .int (v_227)]) X hw (va_runV (As := [.int (rr_182), .int (v_227)]) (rest := []) (cfix X) (k_X12_breaks l G cy κ S_199 _ x (rr_182) (rr_182.toInt) (v_227) (((v_193.toInt + 1) - 1)) hO_200.1 t_215 rfl z_228 (by first | assumption | omega) (by first | assumption | omega)) (cwV 2 X.2.2.2.1 gX12_tick_X12_breaks rfl rfl rfl (by decide +kernel) ⟨Nat.le_of_ble_eq_true rfl, Nat.le_of_ble_eq_true rfl⟩) (pre_V X hw _ t_215 rfl (by decide) rfl) rfl rfl hl.1 rfl (lv_room (Nat.le_of_ble_eq_true rfl)) dX12_tick_344 ⟨Nat.le_of_ble_eq_true rfl, Nat.le_of_ble_eq_true rfl⟩) 0 0 (Nat.le_of_ble_eq_true rfl) (Nat.le_of_ble_eq_true rfl) (fun rr_229 S_230 H locs hp hw hfr hnw => ?_)
                      obtain ⟨e2, hp⟩ := hp
                      subst e2
                      rcases hp with ⟨f_231, er_232⟩ | ⟨f_231, er_232⟩ <;> subst er_232
                      · have z_b_233 := trivial
                        refine lv_if_eq (tgt := 373) X.1 X.2.1 dX12_tick_347 (by decide) (fun c_234 => absurd c_234 (by decide)) (fun c_234 => ?_)
                        refine lv_aload_n X.1 X.2.1 dX12_tick_350 rfl (lv_at hl 4 rfl) ?_
                        refine lv_iload_n X.1 X.2.1 dX12_tick_351 rfl (lv_at hl 5 rfl) ?_
                        refine lv_iconst (v := 2) X.1 X.2.1 dX12_tick_352 (by decide) ?_
                        refine lv_aload_n X.1 X.2.1 dX12_tick_353 rfl (lv_at hl 4 rfl) ?_
                        refine lv_iload_n X.1 X.2.1 dX12_tick_354 rfl (lv_at hl 5 rfl) ?_
                        refine lv_iconst (v := 1) X.1 X.2.1 dX12_tick_355 (by decide) ?_
                        refine lv_iload X.1 X.2.1 dX12_tick_356 (lv_at hl 1 rfl) ?_
                        have pz_235 : (pI S_199 1201 x).toInt = v_1.toInt := (congrArg Int32.toInt t_213).trans rfl
                        refine k_i (rm := { frames := 1, cells := 0, slots := 0, locals := 48 }) (av := [.ref x, .int (a1), .int 1, .int (i4_129)]) X hw (va_runV (As := [.int (a1), .int 1, .int (i4_129)]) (rest := [.int 2, .int (a1), .ref x]) (cfix X) (k_X12_goes l G cy κ S_199 _ x (a1) (a1_z) (1) (1) (i4_129) (i4_129_z) (-1) hO_200.1 t_215 hz_a1 ti_1 hz_i4_129 (by first | assumption | omega) (by first | assumption | omega) (by first | assumption | omega) (by first | assumption | omega) (by first | assumption | omega) (by first | assumption | omega) mi_226) (cwV 3 X.2.2.2.1 gX12_tick_X12_goes rfl rfl rfl (by decide +kernel) ⟨Nat.le_of_ble_eq_true rfl, Nat.le_of_ble_eq_true rfl⟩) (pre_V X hw _ t_215 rfl (by decide) rfl) rfl rfl hl.1 rfl (lv_room (Nat.le_of_ble_eq_true rfl)) dX12_tick_358 ⟨Nat.le_of_ble_eq_true rfl, Nat.le_of_ble_eq_true rfl⟩) 0 0 (Nat.le_of_ble_eq_true rfl) (Nat.le_of_ble_eq_true rfl) (fun rr_236 S_237 H locs hp hw hfr hnw => ?_)
                        obtain ⟨hk_238, hp⟩ := hp
                        have hO_239 : Ok MTK S S_237 := hO_200.call hk_238 (by decide +kernel)
                        obtain ⟨g_240, g_241, g_242, g_243, g_244, g_245, g_246, g_247⟩ := hp
                        have t_248 : pI S_237 1201 x = v_1 := hk_238.fr.I' (by decide +kernel) t_215 t_213
                        have pz_249 : (pI S_237 1201 x).toInt = v_1.toInt := (congrArg Int32.toInt t_248).trans rfl
                        have zl_250 : zA S_237 x 1207 = zA S_199 x 1207 := zA_fr hk_238.fr t_215 (ex3 (gQ_12_1207 hO_200.1 t_215)) (by decide +kernel) (by decide +kernel)
                        have zz_251 := congrFun zl_250 (rr_236.toInt).toNat
                        have al_252 := ((MI_1 g_245 (c := rr_236.toInt) (by omega) (by omega)).2 (by omega)).2 (by omega) (by omega)
                        have gi_253 := g_247 (3 * a1_z + 1).toNat; rw [if_pos (by omega)] at gi_253
                        have m4_254 := g_245.2.2.2.1.2 (3 * a1_z + 1).toNat (by omega)
                        have gi_255 := g_247 (3 * a1_z + 2).toNat; rw [if_neg (by omega)] at gi_255
                        have m4_256 := g_245.2.2.2.1.2 (3 * a1_z + 2).toNat (by omega)
                        refine lv_aload_n X.1 X.2.1 dX12_tick_361 rfl (lv_at hl 4 rfl) ?_
                        refine lv_iload_n X.1 X.2.1 dX12_tick_362 rfl (lv_at hl 5 rfl) ?_
                        refine lv_iconst (v := 2) X.1 X.2.1 dX12_tick_363 (by decide) ?_
                        have t_257 : At S_237 x 12 := hk_238.fr.at t_215
                        refine k_i (rm := { frames := 1, cells := 0, slots := 0, locals := 48 }) (av := [.ref x, .int (a1), .int 2]) X hw (va_runV (As := [.int (a1), .int 2]) (rest := [.int (rr_236), .int 2, .int (a1), .ref x]) (cfix X) (k_X12_many2 l G cy κ S_237 _ x (a1) (a1_z) (2) (2) hO_239.1 t_257 hz_a1 ti_2 (by first | assumption | omega) (by first | assumption | omega) (by first | assumption | omega) (by first | assumption | omega)) (cwV 2 X.2.2.2.1 gX12_tick_X12_many rfl rfl rfl (by decide +kernel) ⟨Nat.le_of_ble_eq_true rfl, Nat.le_of_ble_eq_true rfl⟩) (pre_V X hw _ t_257 rfl (by decide) rfl) rfl rfl hl.1 rfl (lv_room (Nat.le_of_ble_eq_true rfl)) dX12_tick_364 ⟨Nat.le_of_ble_eq_true rfl, Nat.le_of_ble_eq_true rfl⟩) 0 0 (Nat.le_of_ble_eq_true rfl) (Nat.le_of_ble_eq_true rfl) (fun rr_258 S_259 H locs hp hw hfr hnw => ?_)
                        obtain ⟨e2, hp⟩ := hp
                        subst e2
                        obtain ⟨f_260, f_261, f_262⟩ := hp
                        refine k_v (rm := { frames := 1, cells := 0, slots := 0, locals := 48 }) (av := [.ref x, .int (a1), .int 2, .int (rr_236), .int (rr_258)]) X hw (va_runV (As := [.int (a1), .int 2, .int (rr_236), .int (rr_258)]) (rest := []) (cfix X) (k_X12_comes l G cy κ S_237 _ x (a1) (a1_z) (2) (2) (rr_236) (rr_236.toInt) (rr_258) (rr_258.toInt) hO_239.1 t_257 hz_a1 ti_2 rfl rfl (by first | assumption | omega) (by first | assumption | omega) (by first | assumption | omega) (by first | assumption | omega) (by first | assumption | omega) (by first | assumption | omega) (by first | assumption | omega) (by first | assumption | omega) (by first | assumption | omega) (by first | assumption | omega) g_245 (by first | assumption | omega) (by first | assumption | omega)) (cwV 4 X.2.2.2.1 gX12_tick_X12_comes rfl rfl rfl (by decide +kernel) ⟨Nat.le_of_ble_eq_true rfl, Nat.le_of_ble_eq_true rfl⟩) (pre_V X hw _ t_257 rfl (by decide) rfl) rfl rfl hl.1 rfl (lv_room (Nat.le_of_ble_eq_true rfl)) dX12_tick_367 ⟨Nat.le_of_ble_eq_true rfl, Nat.le_of_ble_eq_true rfl⟩) 0 0 (Nat.le_of_ble_eq_true rfl) (Nat.le_of_ble_eq_true rfl) (fun S_264 H locs hp hw hfr hnw => ?_)
                        obtain ⟨hk_265, hp⟩ := hp
                        have hO_266 : Ok MTK S S_264 := hO_239.call hk_265 (by decide +kernel)
                        obtain ⟨mi_267, cm_268, cs_269⟩ := hp
                        have gi_270 := cm_268 (3 * a1_z + 1).toNat; rw [if_neg (by omega)] at gi_270
                        have zm_271 : ZM S S_199 x := ZM_eq iv_135 (zA_sAn eS_199 (ex3 (gQ_12_1207 hO_T_130.1 ha_x_L_131)) h_191 rfl)
                        have zm_272 : ZM S S_237 x := ZM_eq zm_271 (zA_fr hk_238.fr t_215 (ex3 (gQ_12_1207 hO_200.1 t_215)) (by decide +kernel) (by decide +kernel))
                        have zm_273 : ZM S S_264 x := ZM_set zm_272 cs_269 ⟨by omega, by omega⟩ ⟨by omega, by omega⟩
                        refine lv_goto (tgt := 376) X.1 X.2.1 dX12_tick_370 (by decide) ?_
                        refine lv_goto (tgt := 267) X.1 X.2.1 dX12_tick_376 (by decide) ?_
                        have t_274 : At S_264 x 12 := hk_265.fr.at t_257
                        have zc_275 : zA S_199 x 1237 = zA S_106 x 1237 := (zA_sAn eS_199 (ex3 (gQ_12_1237 hO_T_130.1 ha_x_L_131)) h_191 rfl).trans zk_133
                        have zc_276 : zA S_237 x 1237 = zA S_106 x 1237 := (zA_fr hk_238.fr t_215 (ex3 (gQ_12_1237 hO_200.1 t_215)) (by decide +kernel) (by decide +kernel)).trans zc_275
                        have zc_277 : zA S_264 x 1237 = zA S_106 x 1237 := (zA_fr hk_265.fr t_257 (ex3 (gQ_12_1237 hO_239.1 t_257)) (by decide +kernel) (by decide +kernel)).trans zc_276
                        have t_278 : pI S_264 1201 x = v_1 := hk_265.fr.I' (by decide +kernel) t_257 t_248
                        exact ih_L_128 _ (by omega) _ _ _ _ (i4_129) (i4_129_z) rfl hw hz_i4_129 (by omega) t_274 hO_266 zc_277 mi_267 zm_273 t_278 (lv_sub hl [1, 2, 3, 4, 5] rfl)
                      · have z_b_279 := trivial
                        refine lv_if_eq (tgt := 373) X.1 X.2.1 dX12_tick_347 (by decide) (fun c_280 => ?_) (fun c_280 => absurd c_280 (by decide))
                        obtain ⟨x_281, ex_281⟩ : ∃ y : Int32, y = i4_129 + 1 := ⟨_, rfl⟩
                        have z_282 : x_281.toInt = i4_129_z + 1 := z_add ex_281 hz_i4_129 ti_1 (by omega) (by omega)
                        refine lv_iinc (v := x_281) (lv' := [(4, .int (x_281)), (5, .int (rr_182)), (3, .int (v_70)), (2, .int (rr_50)), (0, .ref x), (1, .int (a1))]) X.1 X.2.1 dX12_tick_373 hl (k := 1) rfl (by rw [ex_281]; rfl) (by decide) rfl (fun ls hl => ?_)
                        refine lv_goto (tgt := 267) X.1 X.2.1 dX12_tick_376 (by decide) ?_
                        have zc_283 : zA S_199 x 1237 = zA S_106 x 1237 := (zA_sAn eS_199 (ex3 (gQ_12_1237 hO_T_130.1 ha_x_L_131)) h_191 rfl).trans zk_133
                        have zm_284 : ZM S S_199 x := ZM_eq iv_135 (zA_sAn eS_199 (ex3 (gQ_12_1207 hO_T_130.1 ha_x_L_131)) h_191 rfl)
                        exact ih_L_128 _ (by omega) _ _ _ _ (x_281) (x_281.toInt) rfl hw rfl (by omega) t_215 hO_200 zc_283 mi_226 zm_284 t_213 (lv_sub hl [0, 2, 3, 4, 5] rfl)
                    · have z_b_285 := trivial
                      have k_286 : (v_193.toInt + 1) = rr_218.toInt := z_eq z_198 rfl c_223
                      refine lv_aload_n X.1 X.2.1 dX12_tick_315 rfl (lv_at hl 4 rfl) ?_
                      obtain ⟨q_287, h_288, h_289, h_290⟩ := gQ_12_1207 hO_200.1 t_215
                      refine r_getR (g := 1207) X hw t_215 rfl 7 h_288 (by decide) rfl inn_X12_tick_12 (by decide) (X.2.2.2.1 (.fieldLink RX12 25 "SilkMillModel" "stand" "[I") (by decide +kernel)) rfl (gv_1207 _ _) dX12_tick_316 ?_
                      refine lv_aload_n X.1 X.2.1 dX12_tick_319 rfl (lv_at hl 4 rfl) ?_
                      refine lv_iload_n X.1 X.2.1 dX12_tick_320 rfl (lv_at hl 5 rfl) ?_
                      refine lv_iconst (v := 1) X.1 X.2.1 dX12_tick_321 (by decide) ?_
                      refine lv_iload X.1 X.2.1 dX12_tick_322 (lv_at hl 1 rfl) ?_
                      have pz_291 : (pI S_199 1201 x).toInt = v_1.toInt := (congrArg Int32.toInt t_213).trans rfl
                      refine k_i (rm := { frames := 1, cells := 0, slots := 0, locals := 48 }) (av := [.ref x, .int (a1), .int 1, .int (i4_129)]) X hw (va_runV (As := [.int (a1), .int 1, .int (i4_129)]) (rest := [.ref q_287]) (cfix X) (k_X12_goes l G cy κ S_199 _ x (a1) (a1_z) (1) (1) (i4_129) (i4_129_z) rr_182.toInt hO_200.1 t_215 hz_a1 ti_1 hz_i4_129 (by first | assumption | omega) (by first | assumption | omega) (by first | assumption | omega) (by first | assumption | omega) (by first | assumption | omega) (by first | assumption | omega) mi_205) (cwV 3 X.2.2.2.1 gX12_tick_X12_goes rfl rfl rfl (by decide +kernel) ⟨Nat.le_of_ble_eq_true rfl, Nat.le_of_ble_eq_true rfl⟩) (pre_V X hw _ t_215 rfl (by decide) rfl) rfl rfl hl.1 rfl (lv_room (Nat.le_of_ble_eq_true rfl)) dX12_tick_324 ⟨Nat.le_of_ble_eq_true rfl, Nat.le_of_ble_eq_true rfl⟩) 0 0 (Nat.le_of_ble_eq_true rfl) (Nat.le_of_ble_eq_true rfl) (fun rr_292 S_293 H locs hp hw hfr hnw => ?_)
                      obtain ⟨hk_294, hp⟩ := hp
                      have hO_295 : Ok MTK S S_293 := hO_200.call hk_294 (by decide +kernel)
                      obtain ⟨g_296, g_297, g_298, g_299, g_300, g_301, g_302, g_303⟩ := hp
                      have zl_304 : zA S_293 x 1207 = zA S_199 x 1207 := zA_fr hk_294.fr t_215 (ex3 (gQ_12_1207 hO_200.1 t_215)) (by decide +kernel) (by decide +kernel)
                      have zz_305 := congrFun zl_304 (rr_292.toInt).toNat
                      have hrc : rr_292.toInt = rr_182.toInt := by omega
                      have t_306 : pI S_293 1201 x = v_1 := hk_294.fr.I' (by decide +kernel) t_215 t_213
                      have pz_307 : (pI S_293 1201 x).toInt = v_1.toInt := (congrArg Int32.toInt t_306).trans rfl
                      have gi_308 := g_303 (3 * a1_z + 1).toNat; rw [if_pos (by omega)] at gi_308
                      refine lv_iconst (v := 4) X.1 X.2.1 dX12_tick_327 (by decide) ?_
                      have t_309 : At S_293 q_287 354 := hk_294.fr.at h_289
                      have t_310 : pN S_293 q_287 = 600 := hk_294.fr.N h_289 h_290
                      clear h_290
                      refine r_iast X hw t_309 rfl (by rw [t_310]; exact z_ix rfl (by omega) (by omega)) dX12_tick_328 (fun H locs hw => ?_)
                      obtain ⟨S_311, eS_311⟩ : ∃ T, T = sA S_293 q_287 (upd (pA S_293 q_287) (Int32.toNatClampNeg (rr_292)) (4)) := ⟨_, rfl⟩
                      rw [← eS_311] at hw
                      have hO_312 : Ok MTK S S_311 := hO_295.sA eS_311 t_309 (by decide +kernel) (uA_354 hO_295.1 t_309)
                      have h_313 : pA S_311 q_287 (Int32.toNatClampNeg (rr_292)) = 4 := tA_sAs eS_311
                      have t_314 : pR S_293 1207 x = some q_287 := hk_294.fr.R' (by decide +kernel) t_215 h_288
                      have t_315 : pR S_311 1207 x = some q_287 := tR_sA eS_311 t_314
                      have t_317 : pR S_293 1207 x = some q_287 := by have h := t_315; rw [eS_311, pR_sA] at h; exact h
                      have zs_316 : ∀ j, zA S_311 x 1207 j = if j = (rr_292.toInt).toNat then 4 else zA S_293 x 1207 j := by have h := zA_sAs eS_311 t_317 ti_4; rw [z_nc rfl (by omega)] at h; exact h
                      have t_319 : At S_293 x 12 := hk_294.fr.at t_215
                      have mi_318 : MIe S_311 x rr_182.toInt := stand_MI (c := rr_292.toInt) hO_295.1 t_319 (show Fr [10354] S_293 S_311 by rw [eS_311]; exact Fr_sA t_309 List.mem_cons_self) g_301 (by omega) (by omega) g_302 zs_316 (Or.inl rfl)
                      have mi_320 : MI S_311 x := back_MI mi_318 (by omega) (Or.inl (by rw [← hrc, zs_316, if_pos rfl]))
                      have zc_321 : zA S_311 x 1219 = zA S_293 x 1219 := zA_sAn eS_311 (ex3 (gQ_12_1219 hO_295.1 t_319)) t_309 rfl
                      have zz_322 := congrFun zc_321 (3 * a1_z + 1).toNat
                      have t_324 : pR S_293 1207 x = some q_287 := by have h := t_315; rw [eS_311, pR_sA] at h; exact h
                      have zs_323 : ∀ j, zA S_311 x 1207 j = if j = (rr_292.toInt).toNat then 4 else zA S_293 x 1207 j := by have h := zA_sAs eS_311 t_324 ti_4; rw [z_nc rfl (by omega)] at h; exact h
                      have zm_325 : ZM S S_199 x := ZM_eq iv_135 (zA_sAn eS_199 (ex3 (gQ_12_1207 hO_T_130.1 ha_x_L_131)) h_191 rfl)
                      have zm_326 : ZM S S_293 x := ZM_eq zm_325 (zA_fr hk_294.fr t_215 (ex3 (gQ_12_1207 hO_200.1 t_215)) (by decide +kernel) (by decide +kernel))
                      have zm_327 : ZM S S_311 x := ZM_set zm_326 zs_323 ⟨by omega, by omega⟩ ⟨by omega, by omega⟩
                      refine lv_goto (tgt := 376) X.1 X.2.1 dX12_tick_329 (by decide) ?_
                      refine lv_goto (tgt := 267) X.1 X.2.1 dX12_tick_376 (by decide) ?_
                      have t_328 : At S_311 x 12 := tAt_sA eS_311 t_319
                      have zc_329 : zA S_199 x 1237 = zA S_106 x 1237 := (zA_sAn eS_199 (ex3 (gQ_12_1237 hO_T_130.1 ha_x_L_131)) h_191 rfl).trans zk_133
                      have zc_330 : zA S_293 x 1237 = zA S_106 x 1237 := (zA_fr hk_294.fr t_215 (ex3 (gQ_12_1237 hO_200.1 t_215)) (by decide +kernel) (by decide +kernel)).trans zc_329
                      have zc_331 : zA S_311 x 1237 = zA S_106 x 1237 := (zA_sAn eS_311 (ex3 (gQ_12_1237 hO_295.1 t_319)) t_309 rfl).trans zc_330
                      have t_332 : pI S_311 1201 x = v_1 := tI_sA eS_311 t_306
                      exact ih_L_128 _ (by omega) _ _ _ _ (i4_129) (i4_129_z) rfl hw hz_i4_129 (by omega) t_328 hO_312 zc_331 mi_320 zm_327 t_332 (lv_sub hl [1, 2, 3, 4, 5] rfl)
                have t_333 : At S_125 x 12 := tAt_sA eS_125 t_116
                have mi_334 : MIe S_106 x (-1) := MIe_37 mk_87 hO_T_81.1 ha_x_L_82 h_98 eS_106
                have mi_335 : MIe S_125 x (-1) := MIe_sA mi_334 hO_107.1 t_116 h_119 eS_125 (by decide +kernel)
                have zm_336 : ZM S S_106 x := ZM_eq iv_88 (zA_sAn eS_106 (ex3 (gQ_12_1207 hO_T_81.1 ha_x_L_82)) h_98 rfl)
                have zm_337 : ZM S S_125 x := ZM_eq zm_336 (zA_sAn eS_125 (ex3 (gQ_12_1207 hO_107.1 t_116)) h_119 rfl)
                exact L_128 _ _ _ _ _ (0) (0) rfl hw ti_0 (by omega) t_333 hO_126 zc_132 mi_335 zm_337 t_137 (lv_sub hl [0, 1, 2, 3, 4] rfl)
              · have z_b_338 := trivial
                have k_339 : i4_80_z < rr_50.toInt := z_nle rfl hz_i4_80 c_93
                have zz_340 := congrFun zk_84 (3 * a1_z + 1).toNat
                refine lv_aload_n X.1 X.2.1 dX12_tick_200 rfl (lv_at hl 3 rfl) ?_
                obtain ⟨q_341, h_342, h_343, h_344⟩ := gQ_12_1236 hO_T_81.1 ha_x_L_82
                refine r_getR (g := 1236) X hw ha_x_L_82 rfl 36 h_342 (by decide) rfl inn_X12_tick_12 (by decide) (X.2.2.2.1 (.fieldLink RX12 94 "SilkMillModel" "drawn" "[I") (by decide +kernel)) rfl (gv_1236 _ _) dX12_tick_201 ?_
                refine lv_bipush (v := 12) X.1 X.2.1 dX12_tick_204 (by decide) ?_
                refine lv_iload_n X.1 X.2.1 dX12_tick_206 rfl (lv_at hl 1 rfl) ?_
                refine lv_imul X.1 X.2.1 dX12_tick_207 ?_
                refine lv_topi (fun v_345 ev_345 => ?_)
                have z_346 : v_345.toInt = 12 * (rr_59.toInt + v_66.toInt) := z_mul ev_345 ti_12 z_71 (by omega) (by omega)
                refine lv_iload X.1 X.2.1 dX12_tick_208 (lv_at hl 0 rfl) ?_
                refine lv_iadd X.1 X.2.1 dX12_tick_210 ?_
                refine lv_topi (fun v_347 ev_347 => ?_)
                have z_348 : v_347.toInt = (12 * (rr_59.toInt + v_66.toInt)) + i4_80_z := z_add ev_347 z_346 hz_i4_80 (by omega) (by omega)
                refine lv_sipush (v := 1000) X.1 X.2.1 dX12_tick_211 (by decide) ?_
                refine lv_aload_n X.1 X.2.1 dX12_tick_214 rfl (lv_at hl 3 rfl) ?_
                refine lv_iload_n X.1 X.2.1 dX12_tick_215 rfl (lv_at hl 4 rfl) ?_
                refine lv_iconst (v := 1) X.1 X.2.1 dX12_tick_216 (by decide) ?_
                refine lv_iload X.1 X.2.1 dX12_tick_217 (lv_at hl 0 rfl) ?_
                refine k_i (rm := { frames := 1, cells := 0, slots := 0, locals := 48 }) (av := [.ref x, .int (a1), .int 1, .int (i4_80)]) X hw (va_runV (As := [.int (a1), .int 1, .int (i4_80)]) (rest := [.int 1000, .int (v_347), .ref q_341]) (cfix X) (k_X12_at2 l G cy κ T_81 _ x (a1) (a1_z) (1) (1) (i4_80) (i4_80_z) hO_T_81.1 ha_x_L_82 hz_a1 ti_1 hz_i4_80 (by first | assumption | omega) (by first | assumption | omega) (by first | assumption | omega) (by first | assumption | omega) (by first | assumption | omega) (by first | assumption | omega)) (cwV 3 X.2.2.2.1 gX12_tick_X12_at rfl rfl rfl (by decide +kernel) ⟨Nat.le_of_ble_eq_true rfl, Nat.le_of_ble_eq_true rfl⟩) (pre_V X hw _ ha_x_L_82 rfl (by decide) rfl) rfl rfl hl.1 rfl (lv_room (Nat.le_of_ble_eq_true rfl)) dX12_tick_219 ⟨Nat.le_of_ble_eq_true rfl, Nat.le_of_ble_eq_true rfl⟩) 0 0 (Nat.le_of_ble_eq_true rfl) (Nat.le_of_ble_eq_true rfl) (fun rr_349 S_350 H locs hp hw hfr hnw => ?_)
                obtain ⟨e2, hp⟩ := hp
                subst e2
                obtain ⟨f_351, f_352, f_353⟩ := hp
                refine lv_imul X.1 X.2.1 dX12_tick_222 ?_
                refine lv_topi (fun v_354 ev_354 => ?_)
                have z_355 : v_354.toInt = 1000 * rr_349.toInt := z_mul ev_354 ti_1000 rfl (by omega) (by omega)
                refine lv_aload_n X.1 X.2.1 dX12_tick_223 rfl (lv_at hl 3 rfl) ?_
                obtain ⟨q_356, h_357, h_358, h_359⟩ := gQ_12_1208 hO_T_81.1 ha_x_L_82
                refine r_getR (g := 1208) X hw ha_x_L_82 rfl 8 h_357 (by decide) rfl inn_X12_tick_12 (by decide) (X.2.2.2.1 (.fieldLink RX12 28 "SilkMillModel" "place" "[I") (by decide +kernel)) rfl (gv_1208 _ _) dX12_tick_224 ?_
                refine lv_aload_n X.1 X.2.1 dX12_tick_227 rfl (lv_at hl 3 rfl) ?_
                refine lv_iload_n X.1 X.2.1 dX12_tick_228 rfl (lv_at hl 4 rfl) ?_
                refine lv_iconst (v := 1) X.1 X.2.1 dX12_tick_229 (by decide) ?_
                refine lv_iload X.1 X.2.1 dX12_tick_230 (lv_at hl 0 rfl) ?_
                refine k_i (rm := { frames := 1, cells := 0, slots := 0, locals := 48 }) (av := [.ref x, .int (a1), .int 1, .int (i4_80)]) X hw (va_runV (As := [.int (a1), .int 1, .int (i4_80)]) (rest := [.ref q_356, .int (v_354), .int (v_347), .ref q_341]) (cfix X) (k_X12_at2 l G cy κ T_81 _ x (a1) (a1_z) (1) (1) (i4_80) (i4_80_z) hO_T_81.1 ha_x_L_82 hz_a1 ti_1 hz_i4_80 (by first | assumption | omega) (by first | assumption | omega) (by first | assumption | omega) (by first | assumption | omega) (by first | assumption | omega) (by first | assumption | omega)) (cwV 3 X.2.2.2.1 gX12_tick_X12_at rfl rfl rfl (by decide +kernel) ⟨Nat.le_of_ble_eq_true rfl, Nat.le_of_ble_eq_true rfl⟩) (pre_V X hw _ ha_x_L_82 rfl (by decide) rfl) rfl rfl hl.1 rfl (lv_room (Nat.le_of_ble_eq_true rfl)) dX12_tick_232 ⟨Nat.le_of_ble_eq_true rfl, Nat.le_of_ble_eq_true rfl⟩) 0 0 (Nat.le_of_ble_eq_true rfl) (Nat.le_of_ble_eq_true rfl) (fun rr_360 S_361 H locs hp hw hfr hnw => ?_)
                obtain ⟨e2, hp⟩ := hp
                subst e2
                obtain ⟨f_362, f_363, f_364⟩ := hp
                refine r_iald X hw h_358 rfl (by rw [h_359]; exact z_ix rfl (by omega) (by omega)) dX12_tick_235 ?_
                refine lv_topi (fun v_365 ev_365 => ?_)
                have z_366 := gE_374 hO_T_81.1 h_358 (Int32.toNatClampNeg (rr_360)); rw [← ev_365] at z_366
                have ev_365 := ev_365.symm
                have zf_367 : zA T_81 x 1208 (rr_360.toInt).toNat = v_365.toInt := (zA_of h_357 rfl (by omega) ev_365)
                have m8_368 := MI_alive mk_87 (c := rr_360.toInt) (r := 3 * a1_z + 1) (k := i4_80_z) (gI_12_1201 hO_T_81.1 ha_x_L_82).2 (by omega) (by omega) (by omega) (by omega) (by omega)
                have hh_369 : rr_360.toInt = rr_349.toInt := by omega
                rw [hh_369] at m8_368 zf_367
                rw [zf_367] at m8_368
                have lg_370 := lenZ_le hO_T_81.1 ha_x_L_82 (rr_349.toInt)
                have dk_371 : dOK T_81 x (1000 * rr_349.toInt + v_365.toInt) := dOK_new (by omega) (by omega) (by omega) (by omega) lg_370
                refine lv_iadd X.1 X.2.1 dX12_tick_236 ?_
                refine lv_topi (fun v_372 ev_372 => ?_)
                have z_373 : v_372.toInt = (1000 * rr_349.toInt) + v_365.toInt := z_add ev_372 z_355 rfl (by omega) (by omega)
                refine r_iast X hw h_343 rfl (by rw [h_344]; exact z_ix z_348 (by omega) (by omega)) dX12_tick_237 (fun H locs hw => ?_)
                obtain ⟨S_374, eS_374⟩ : ∃ T, T = sA T_81 q_341 (upd (pA T_81 q_341) (Int32.toNatClampNeg (v_347)) (v_372)) := ⟨_, rfl⟩
                rw [← eS_374] at hw
                have hO_375 : Ok MTK S S_374 := hO_T_81.sA eS_374 h_343 (by decide +kernel) (uA_934 hO_T_81.1 h_343 (by omega) (by omega))
                have h_376 : pA S_374 q_341 (Int32.toNatClampNeg (v_347)) = v_372 := tA_sAs eS_374
                have t_377 : pR S_374 1236 x = some q_341 := tR_sA eS_374 h_342
                have t_379 : pR T_81 1236 x = some q_341 := by have h := t_377; rw [eS_374, pR_sA] at h; exact h
                have zs_378 : ∀ j, zA S_374 x 1236 j = if j = (((12 * (rr_59.toInt + v_66.toInt)) + i4_80_z)).toNat then ((1000 * rr_349.toInt) + v_365.toInt) else zA T_81 x 1236 j := by have h := zA_sAs eS_374 t_379 z_373; rw [z_nc z_348 (by omega)] at h; exact h
                have mi_380 : MIe S_374 x (-1) := drawn_MI hO_T_81.1 ha_x_L_82 (show Fr [10934] T_81 S_374 by rw [eS_374]; exact Fr_sA h_343 List.mem_cons_self) mk_87 zs_378 dk_371
                clear zs_378
                obtain ⟨x_381, ex_381⟩ : ∃ y : Int32, y = i4_80 + 1 := ⟨_, rfl⟩
                have z_382 : x_381.toInt = i4_80_z + 1 := z_add ex_381 hz_i4_80 ti_1 (by omega) (by omega)
                refine lv_iinc (v := x_381) (lv' := [(4, .int (x_381)), (3, .int (v_70)), (2, .int (rr_50)), (0, .ref x), (1, .int (a1))]) X.1 X.2.1 dX12_tick_238 hl (k := 0) rfl (by rw [ex_381]; rfl) (by decide) rfl (fun ls hl => ?_)
                refine lv_goto (tgt := 194) X.1 X.2.1 dX12_tick_241 (by decide) ?_
                have t_383 : At S_374 x 12 := tAt_sA eS_374 ha_x_L_82
                have zc_384 : zA S_374 x 1219 = zA T_34 x 1219 := (zA_sAn eS_374 (ex3 (gQ_12_1219 hO_T_81.1 ha_x_L_82)) h_343 rfl).trans zk_84
                have zc_385 : zA S_374 x 1237 = zA T_34 x 1237 := (zA_sAn eS_374 (ex3 (gQ_12_1237 hO_T_81.1 ha_x_L_82)) h_343 rfl).trans zk_86
                have zm_386 : ZM S S_374 x := ZM_eq iv_88 (zA_sAn eS_374 (ex3 (gQ_12_1207 hO_T_81.1 ha_x_L_82)) h_343 rfl)
                have t_387 : pI S_374 1201 x = v_1 := tI_sA eS_374 ik_90
                exact ih_L_79 _ (by omega) _ _ _ _ (x_381) (x_381.toInt) rfl hw rfl (by omega) t_383 hO_375 zc_384 zc_385 mi_380 zm_386 t_387 (lv_sub hl [0, 1, 2, 3, 4] rfl)
            have t_388 : At S_76 x 12 := tAt_sA eS_76 ha_x_L_35
            have mi_389 : MIe S_76 x (-1) := MIe_sA mk_36 hO_T_34.1 ha_x_L_35 h_74 eS_76 (by decide +kernel)
            have zm_390 : ZM S S_76 x := ZM_eq iv_38 (zA_sAn eS_76 (ex3 (gQ_12_1207 hO_T_34.1 ha_x_L_35)) h_74 rfl)
            exact L_79 _ _ _ _ _ (0) (0) rfl hw ti_0 (by omega) t_388 hO_77 zc_83 zc_85 mi_389 zm_390 t_89 (lv_sub hl [0, 1, 2, 3, 4] rfl)
          · have z_b_391 := trivial
            have k_392 : rr_50.toInt = 0 := z_eq rfl ti_0 c_55
            refine lv_iconst (v := 0) X.1 X.2.1 dX12_tick_169 (by decide) ?_
            rw [hQQ]
            exact ret_z X hw hr hlocks (Nat.le_of_ble_eq_true rfl) (Nat.le_of_ble_eq_true rfl) (by decide) ⟨hO_T_34, Or.inr ⟨⟨mk_36, iv_37, iv_38⟩, rfl⟩⟩ dX12_tick_170
        · have z_b_393 := trivial
          have k_394 : v_45.toInt > 0 := z_nle rfl ti_0 c_47
          refine lv_aload_n X.1 X.2.1 dX12_tick_146 rfl (lv_at hl 0 rfl) ?_
          refine r_getR (g := 1215) X hw ha_x_L_35 rfl 15 h_42 (by decide) rfl inn_X12_tick_12 (by decide) (X.2.2.2.1 (.fieldLink RX12 46 "SilkMillModel" "stop" "[I") (by decide +kernel)) rfl (gv_1215 _ _) dX12_tick_147 ?_
          refine lv_iload_n X.1 X.2.1 dX12_tick_150 rfl (lv_at hl 1 rfl) ?_
          refine lv_dup2_11 X.1 X.2.1 dX12_tick_151 rfl rfl ?_
          refine r_iald X hw h_43 rfl (by rw [h_44]; exact z_ix hz_a1 (by omega) (by omega)) dX12_tick_152 ?_
          rw [ev_45]
          refine lv_iconst (v := 1) X.1 X.2.1 dX12_tick_153 (by decide) ?_
          refine lv_isub X.1 X.2.1 dX12_tick_154 ?_
          refine lv_topi (fun v_395 ev_395 => ?_)
          have z_396 : v_395.toInt = v_45.toInt - 1 := z_sub ev_395 rfl ti_1 (by omega) (by omega)
          refine r_iast X hw h_43 rfl (by rw [h_44]; exact z_ix hz_a1 (by omega) (by omega)) dX12_tick_155 (fun H locs hw => ?_)
          obtain ⟨S_397, eS_397⟩ : ∃ T, T = sA T_34 q_41 (upd (pA T_34 q_41) (Int32.toNatClampNeg (a1)) (v_395)) := ⟨_, rfl⟩
          rw [← eS_397] at hw
          have hO_398 : Ok MTK S S_397 := hO_T_34.sA eS_397 h_43 (by decide +kernel) (uA_514 hO_T_34.1 h_43)
          have h_399 : pA S_397 q_41 (Int32.toNatClampNeg (a1)) = v_395 := tA_sAs eS_397
          refine lv_iconst (v := 0) X.1 X.2.1 dX12_tick_156 (by decide) ?_
          have zm_400 : ZM S S_397 x := ZM_eq iv_38 (zA_sAn eS_397 (ex3 (gQ_12_1207 hO_T_34.1 ha_x_L_35)) h_43 rfl)
          have mi_401 : MIe S_397 x (-1) := MIe_sA mk_36 hO_T_34.1 ha_x_L_35 h_43 eS_397 (by decide +kernel)
          have zc_402 : zA S_397 x 1237 = zA T_34 x 1237 := zA_sAn eS_397 (ex3 (gQ_12_1237 hO_T_34.1 ha_x_L_35)) h_43 rfl
          rw [hQQ]
          exact ret_z X hw hr hlocks (Nat.le_of_ble_eq_true rfl) (Nat.le_of_ble_eq_true rfl) (by decide) ⟨hO_398, Or.inr ⟨⟨mi_401, (GR_eq zc_402 iv_37), zm_400⟩, rfl⟩⟩ dX12_tick_157
      obtain ⟨q_403, h_404, h_405, h_406⟩ := gQ_12_1215 hO_T_26.1 ha_x_L_27
      refine r_getR (g := 1215) X hw ha_x_L_27 rfl 15 h_404 (by decide) rfl inn_X12_tick_12 (by decide) (X.2.2.2.1 (.fieldLink RX12 46 "SilkMillModel" "stop" "[I") (by decide +kernel)) rfl (gv_1215 _ _) dX12_tick_88 ?_
      refine lv_iload_n X.1 X.2.1 dX12_tick_91 rfl (lv_at hl 1 rfl) ?_
      refine r_iald X hw h_405 rfl (by rw [h_406]; exact z_ix hz_a1 (by omega) (by omega)) dX12_tick_92 ?_
      refine lv_topi (fun v_407 ev_407 => ?_)
      have rg_408 := And.intro (z_lo v_407) (z_hi v_407)
      have ev_407 := ev_407.symm
      refine lv_if_ne (tgt := 137) X.1 X.2.1 dX12_tick_93 (by decide) (fun c_409 => ?_) (fun c_409 => ?_)
      · have z_b_410 := trivial
        have k_411 : v_407.toInt ≠ 0 := z_ne rfl ti_0 c_409
        exact L_33 _ _ _ _  hw ha_x_L_27 hO_T_26 mk_28 iv_29 iv_30 ik_31 (lv_sub hl [0, 1] rfl)
      · have z_b_412 := trivial
        have k_413 : v_407.toInt = 0 := z_eq rfl ti_0 c_409
        refine lv_bipush (v := 12) X.1 X.2.1 dX12_tick_96 (by decide) ?_
        refine lv_iload_n X.1 X.2.1 dX12_tick_98 rfl (lv_at hl 1 rfl) ?_
        refine lv_imul X.1 X.2.1 dX12_tick_99 ?_
        refine lv_topi (fun v_414 ev_414 => ?_)
        have z_415 : v_414.toInt = 12 * a1_z := z_mul ev_414 ti_12 hz_a1 (by omega) (by omega)
        refine lv_istore_n (lv' := [(2, .int (v_414)), (0, .ref x), (1, .int (a1))]) X.1 X.2.1 dX12_tick_100 rfl hl (by decide) rfl (fun ls hl => ?_)
        have L_416 : ∀ (n : Nat) (T_418 : PS) (H : Heap) (locs : List Loc) (ls : Array Slot) (i2_417 : Int32) (i2_417_z : Int), ((48 - i2_417_z).toNat = n) → (Wd G cy (AS S s.heap.size) s.heap T_418 H locs) → (i2_417.toInt = i2_417_z) → (0 ≤ i2_417_z ∧ i2_417_z ≤ 48) → (At T_418 x 12) → (Ok MTK S T_418) → (MIe T_418 x (-1)) → (12 * a1_z ≤ i2_417_z) → (i2_417_z ≤ 12 * a1_z + 12) → (GR T_418 x) → (ZM S T_418 x) → (pI T_418 1201 x = v_1) → (lv_has ls 6 [(2, .int (i2_417)), (0, .ref x), (1, .int (a1))]) → W p l e ({ frames := 8, cells := 0, slots := 0, locals := 384 }) s m [.ref x, .int (a1)].toArray below meth c H locs 0 0 QQ (F0 m 101 ls []) := by
          intro n
          induction n using Nat.strongRecOn with
          | ind n ih_L_416 =>
          intro T_418 H locs ls i2_417 i2_417_z hn hw hz_i2_417 hr_i2_417 ha_x_L_419 hO_T_418 mk_420 iv_421 iv_422 iv_423 iv_424 ik_425 hl
          have rg_426 : (-2147483648) ≤ i2_417_z ∧ i2_417_z ≤ 2147483647 := by rw [← hz_i2_417]; exact ⟨z_lo _, z_hi _⟩
          have pz_427 : (pI T_418 1201 x).toInt = v_1.toInt := (congrArg Int32.toInt ik_425).trans rfl
          refine lv_iload_n X.1 X.2.1 dX12_tick_101 rfl (lv_at hl 0 rfl) ?_
          refine lv_bipush (v := 12) X.1 X.2.1 dX12_tick_102 (by decide) ?_
          refine lv_iload_n X.1 X.2.1 dX12_tick_104 rfl (lv_at hl 2 rfl) ?_
          refine lv_imul X.1 X.2.1 dX12_tick_105 ?_
          refine lv_topi (fun v_428 ev_428 => ?_)
          have z_429 : v_428.toInt = 12 * a1_z := z_mul ev_428 ti_12 hz_a1 (by omega) (by omega)
          refine lv_aload_n X.1 X.2.1 dX12_tick_106 rfl (lv_at hl 1 rfl) ?_
          obtain ⟨q_430, h_431, h_432, h_433⟩ := gQ_12_1220 hO_T_418.1 ha_x_L_419
          refine r_getR (g := 1220) X hw ha_x_L_419 rfl 20 h_431 (by decide) rfl inn_X12_tick_12 (by decide) (X.2.2.2.1 (.fieldLink RX12 61 "SilkMillModel" "rules" "[I") (by decide +kernel)) rfl (gv_1220 _ _) dX12_tick_107 ?_
          refine lv_iload_n X.1 X.2.1 dX12_tick_110 rfl (lv_at hl 2 rfl) ?_
          refine r_iald X hw h_432 rfl (by rw [h_433]; exact z_ix hz_a1 (by omega) (by omega)) dX12_tick_111 ?_
          refine lv_topi (fun v_434 ev_434 => ?_)
          have z_435 := gE_614 hO_T_418.1 h_432 (Int32.toNatClampNeg (a1)); rw [← ev_434] at z_435
          have ev_434 := ev_434.symm
          refine lv_iadd X.1 X.2.1 dX12_tick_112 ?_
          refine lv_topi (fun v_436 ev_436 => ?_)
          have z_437 : v_436.toInt = (12 * a1_z) + v_434.toInt := z_add ev_436 z_429 rfl (by omega) (by omega)
          refine lv_icmp_ge (tgt := 137) X.1 X.2.1 dX12_tick_113 (by decide) (fun c_438 => ?_) (fun c_438 => ?_)
          · have z_b_439 := trivial
            have k_440 : i2_417_z ≥ ((12 * a1_z) + v_434.toInt) := z_le z_437 hz_i2_417 c_438
            exact L_33 _ _ _ _  hw ha_x_L_419 hO_T_418 mk_420 iv_423 iv_424 ik_425 (lv_sub hl [1, 2] rfl)
          · have z_b_441 := trivial
            have k_442 : i2_417_z < ((12 * a1_z) + v_434.toInt) := z_nle z_437 hz_i2_417 c_438
            refine lv_aload_n X.1 X.2.1 dX12_tick_116 rfl (lv_at hl 1 rfl) ?_
            refine lv_iload_n X.1 X.2.1 dX12_tick_117 rfl (lv_at hl 2 rfl) ?_
            refine lv_iload_n X.1 X.2.1 dX12_tick_118 rfl (lv_at hl 0 rfl) ?_
            refine k_i (rm := { frames := 6, cells := 0, slots := 0, locals := 288 }) (av := [.ref x, .int (a1), .int (i2_417)]) X hw (va_runV (As := [.int (a1), .int (i2_417)]) (rest := []) (cfix X) (k_X12_holds l G cy κ T_418 _ x (a1) (a1_z) (i2_417) (i2_417_z) hO_T_418.1 ha_x_L_419 hz_a1 hz_i2_417 (by first | assumption | omega) (by first | assumption | omega) (by first | assumption | omega) (by first | assumption | omega) mk_420) (cwV 2 X.2.2.2.1 gX12_tick_X12_holds rfl rfl rfl (by decide +kernel) ⟨Nat.le_of_ble_eq_true rfl, Nat.le_of_ble_eq_true rfl⟩) (pre_V X hw _ ha_x_L_419 rfl (by decide) rfl) rfl rfl hl.1 rfl (lv_room (Nat.le_of_ble_eq_true rfl)) dX12_tick_119 ⟨Nat.le_of_ble_eq_true rfl, Nat.le_of_ble_eq_true rfl⟩) 0 0 (Nat.le_of_ble_eq_true rfl) (Nat.le_of_ble_eq_true rfl) (fun rr_443 S_444 H locs hp hw hfr hnw => ?_)
            obtain ⟨e2, hp⟩ := hp
            subst e2
            rcases hp with ⟨f_445, er_446⟩ | ⟨f_445, er_446⟩ <;> subst er_446
            · have z_b_447 := trivial
              refine lv_if_eq (tgt := 131) X.1 X.2.1 dX12_tick_122 (by decide) (fun c_448 => absurd c_448 (by decide)) (fun c_448 => ?_)
              refine lv_aload_n X.1 X.2.1 dX12_tick_125 rfl (lv_at hl 1 rfl) ?_
              refine lv_iload_n X.1 X.2.1 dX12_tick_126 rfl (lv_at hl 2 rfl) ?_
              refine lv_iload_n X.1 X.2.1 dX12_tick_127 rfl (lv_at hl 0 rfl) ?_
              refine k_v (rm := { frames := 7, cells := 0, slots := 0, locals := 336 }) (av := [.ref x, .int (a1), .int (i2_417)]) X hw (va_runV (As := [.int (a1), .int (i2_417)]) (rest := []) (cfix X) (k_X12_acts3 l G cy κ T_418 _ x (a1) (a1_z) (i2_417) (i2_417_z) hO_T_418.1 ha_x_L_419 hz_a1 hz_i2_417 (by first | assumption | omega) (by first | assumption | omega) (by first | assumption | omega) (by first | assumption | omega) mk_420) (cwV 2 X.2.2.2.1 gX12_tick_X12_acts rfl rfl rfl (by decide +kernel) ⟨Nat.le_of_ble_eq_true rfl, Nat.le_of_ble_eq_true rfl⟩) (pre_V X hw _ ha_x_L_419 rfl (by decide) rfl) rfl rfl hl.1 rfl (lv_room (Nat.le_of_ble_eq_true rfl)) dX12_tick_128 ⟨Nat.le_of_ble_eq_true rfl, Nat.le_of_ble_eq_true rfl⟩) 0 0 (Nat.le_of_ble_eq_true rfl) (Nat.le_of_ble_eq_true rfl) (fun S_450 H locs hp hw hfr hnw => ?_)
              obtain ⟨hk_451, hp⟩ := hp
              have hO_452 : Ok MTK S S_450 := hO_T_418.call hk_451 (by decide +kernel)
              obtain ⟨mi_453, gr_454, zm_455⟩ := hp
              have gr_456 : GR S_450 x := gr_454 iv_423
              obtain ⟨x_457, ex_457⟩ : ∃ y : Int32, y = i2_417 + 1 := ⟨_, rfl⟩
              have z_458 : x_457.toInt = i2_417_z + 1 := z_add ex_457 hz_i2_417 ti_1 (by omega) (by omega)
              refine lv_iinc (v := x_457) (lv' := [(2, .int (x_457)), (0, .ref x), (1, .int (a1))]) X.1 X.2.1 dX12_tick_131 hl (k := 0) rfl (by rw [ex_457]; rfl) (by decide) rfl (fun ls hl => ?_)
              refine lv_goto (tgt := 101) X.1 X.2.1 dX12_tick_134 (by decide) ?_
              have t_459 : At S_450 x 12 := hk_451.fr.at ha_x_L_419
              have zm_460 : ZM S S_450 x := ZM_tr iv_424 zm_455
              have t_461 : pI S_450 1201 x = v_1 := hk_451.fr.I' (by decide +kernel) ha_x_L_419 ik_425
              exact ih_L_416 _ (by omega) _ _ _ _ (x_457) (x_457.toInt) rfl hw rfl (by omega) t_459 hO_452 mi_453 (by omega) (by omega) gr_456 zm_460 t_461 (lv_sub hl [0, 1, 2] rfl)
            · have z_b_462 := trivial
              refine lv_if_eq (tgt := 131) X.1 X.2.1 dX12_tick_122 (by decide) (fun c_463 => ?_) (fun c_463 => absurd c_463 (by decide))
              obtain ⟨x_464, ex_464⟩ : ∃ y : Int32, y = i2_417 + 1 := ⟨_, rfl⟩
              have z_465 : x_464.toInt = i2_417_z + 1 := z_add ex_464 hz_i2_417 ti_1 (by omega) (by omega)
              refine lv_iinc (v := x_464) (lv' := [(2, .int (x_464)), (0, .ref x), (1, .int (a1))]) X.1 X.2.1 dX12_tick_131 hl (k := 0) rfl (by rw [ex_464]; rfl) (by decide) rfl (fun ls hl => ?_)
              refine lv_goto (tgt := 101) X.1 X.2.1 dX12_tick_134 (by decide) ?_
              exact ih_L_416 _ (by omega) _ _ _ _ (x_464) (x_464.toInt) rfl hw rfl (by omega) ha_x_L_419 hO_T_418 mk_420 (by omega) (by omega) iv_423 iv_424 ik_425 (lv_sub hl [0, 1, 2] rfl)
        exact L_416 _ _ _ _ _ (v_414) ((12 * a1_z)) rfl hw z_415 (by omega) ha_x_L_27 hO_T_26 mk_28 (by omega) (by omega) iv_29 iv_30 ik_31 (lv_sub hl [0, 1, 2] rfl)
    refine lv_iload_n X.1 X.2.1 dX12_tick_38 rfl (lv_at hl 1 rfl) ?_
    refine lv_iconst (v := 2) X.1 X.2.1 dX12_tick_39 (by decide) ?_
    refine k_i (rm := { frames := 1, cells := 0, slots := 0, locals := 48 }) (av := [.ref x, .int (a1), .int 2]) X hw (va_runV (As := [.int (a1), .int 2]) (rest := []) (cfix X) (k_X12_many2 l G cy κ T_17 _ x (a1) (a1_z) (2) (2) hO_T_17.1 ha_x_L_18 hz_a1 ti_2 (by first | assumption | omega) (by first | assumption | omega) (by first | assumption | omega) (by first | assumption | omega)) (cwV 2 X.2.2.2.1 gX12_tick_X12_many rfl rfl rfl (by decide +kernel) ⟨Nat.le_of_ble_eq_true rfl, Nat.le_of_ble_eq_true rfl⟩) (pre_V X hw _ ha_x_L_18 rfl (by decide) rfl) rfl rfl hl.1 rfl (lv_room (Nat.le_of_ble_eq_true rfl)) dX12_tick_40 ⟨Nat.le_of_ble_eq_true rfl, Nat.le_of_ble_eq_true rfl⟩) 0 0 (Nat.le_of_ble_eq_true rfl) (Nat.le_of_ble_eq_true rfl) (fun rr_466 S_467 H locs hp hw hfr hnw => ?_)
    obtain ⟨e2, hp⟩ := hp
    subst e2
    obtain ⟨f_468, f_469, f_470⟩ := hp
    refine lv_if_le (tgt := 87) X.1 X.2.1 dX12_tick_43 (by decide) (fun c_471 => ?_) (fun c_471 => ?_)
    · have z_b_472 := trivial
      have k_473 : rr_466.toInt ≤ 0 := z_le rfl ti_0 c_471
      exact L_25 _ _ _ _  hw ha_x_L_18 hO_T_17 mk_19 iv_20 iv_21 ik_23 (lv_sub hl [0, 1] rfl)
    · have z_b_474 := trivial
      have k_475 : rr_466.toInt > 0 := z_nle rfl ti_0 c_471
      refine lv_aload_n X.1 X.2.1 dX12_tick_46 rfl (lv_at hl 0 rfl) ?_
      obtain ⟨q_476, h_477, h_478, h_479⟩ := gQ_12_1214 hO_T_17.1 ha_x_L_18
      refine r_getR (g := 1214) X hw ha_x_L_18 rfl 14 h_477 (by decide) rfl inn_X12_tick_12 (by decide) (X.2.2.2.1 (.fieldLink RX12 43 "SilkMillModel" "search" "[I") (by decide +kernel)) rfl (gv_1214 _ _) dX12_tick_47 ?_
      refine lv_iload_n X.1 X.2.1 dX12_tick_50 rfl (lv_at hl 1 rfl) ?_
      refine r_iald X hw h_478 rfl (by rw [h_479]; exact z_ix hz_a1 (by omega) (by omega)) dX12_tick_51 ?_
      refine lv_topi (fun v_480 ev_480 => ?_)
      have rg_481 := And.intro (z_lo v_480) (z_hi v_480)
      have ev_480 := ev_480.symm
      refine lv_aload_n X.1 X.2.1 dX12_tick_52 rfl (lv_at hl 0 rfl) ?_
      obtain ⟨q_482, h_483, h_484, h_485⟩ := gQ_12_1213 hO_T_17.1 ha_x_L_18
      refine r_getR (g := 1213) X hw ha_x_L_18 rfl 13 h_483 (by decide) rfl inn_X12_tick_12 (by decide) (X.2.2.2.1 (.fieldLink RX12 40 "SilkMillModel" "find" "[I") (by decide +kernel)) rfl (gv_1213 _ _) dX12_tick_53 ?_
      refine lv_iload_n X.1 X.2.1 dX12_tick_56 rfl (lv_at hl 1 rfl) ?_
      refine r_iald X hw h_484 rfl (by rw [h_485]; exact z_ix hz_a1 (by omega) (by omega)) dX12_tick_57 ?_
      refine lv_topi (fun v_486 ev_486 => ?_)
      have rg_487 := And.intro (z_lo v_486) (z_hi v_486)
      have ev_486 := ev_486.symm
      refine lv_icmp_ne (tgt := 87) X.1 X.2.1 dX12_tick_58 (by decide) (fun c_488 => ?_) (fun c_488 => ?_)
      · have z_b_489 := trivial
        have k_490 : v_480.toInt ≠ v_486.toInt := z_ne rfl rfl c_488
        exact L_25 _ _ _ _  hw ha_x_L_18 hO_T_17 mk_19 iv_20 iv_21 ik_23 (lv_sub hl [0, 1] rfl)
      · have z_b_491 := trivial
        have k_492 : v_480.toInt = v_486.toInt := z_eq rfl rfl c_488
        refine lv_aload_n X.1 X.2.1 dX12_tick_61 rfl (lv_at hl 0 rfl) ?_
        refine r_getR (g := 1214) X hw ha_x_L_18 rfl 14 h_477 (by decide) rfl inn_X12_tick_12 (by decide) (X.2.2.2.1 (.fieldLink RX12 43 "SilkMillModel" "search" "[I") (by decide +kernel)) rfl (gv_1214 _ _) dX12_tick_62 ?_
        refine lv_iload_n X.1 X.2.1 dX12_tick_65 rfl (lv_at hl 1 rfl) ?_
        refine lv_iconst (v := 0) X.1 X.2.1 dX12_tick_66 (by decide) ?_
        refine r_iast X hw h_478 rfl (by rw [h_479]; exact z_ix hz_a1 (by omega) (by omega)) dX12_tick_67 (fun H locs hw => ?_)
        obtain ⟨S_493, eS_493⟩ : ∃ T, T = sA T_17 q_476 (upd (pA T_17 q_476) (Int32.toNatClampNeg (a1)) (0)) := ⟨_, rfl⟩
        rw [← eS_493] at hw
        have hO_494 : Ok MTK S S_493 := hO_T_17.sA eS_493 h_478 (by decide +kernel) (uA_494 hO_T_17.1 h_478)
        have h_495 : pA S_493 q_476 (Int32.toNatClampNeg (a1)) = 0 := tA_sAs eS_493
        refine lv_aload_n X.1 X.2.1 dX12_tick_68 rfl (lv_at hl 0 rfl) ?_
        refine lv_iload_n X.1 X.2.1 dX12_tick_69 rfl (lv_at hl 1 rfl) ?_
        refine lv_iconst (v := 0) X.1 X.2.1 dX12_tick_70 (by decide) ?_
        refine lv_aload_n X.1 X.2.1 dX12_tick_71 rfl (lv_at hl 0 rfl) ?_
        refine lv_iload_n X.1 X.2.1 dX12_tick_72 rfl (lv_at hl 1 rfl) ?_
        refine lv_iconst (v := 2) X.1 X.2.1 dX12_tick_73 (by decide) ?_
        refine lv_iconst (v := 0) X.1 X.2.1 dX12_tick_74 (by decide) ?_
        have t_496 : pI S_493 1201 x = v_1 := tI_sA eS_493 ik_23
        have pz_497 : (pI S_493 1201 x).toInt = v_1.toInt := (congrArg Int32.toInt t_496).trans rfl
        have zc_498 : zA S_493 x 1219 = zA T_17 x 1219 := zA_sAn eS_493 (ex3 (gQ_12_1219 hO_T_17.1 ha_x_L_18)) h_478 rfl
        have zz_499 := congrFun zc_498 ((3 * a1_z + 2).toNat)
        have t_500 : At S_493 x 12 := tAt_sA eS_493 ha_x_L_18
        have mi_501 : MIe S_493 x (-1) := MIe_sA mk_19 hO_T_17.1 ha_x_L_18 h_478 eS_493 (by decide +kernel)
        refine k_i (rm := { frames := 1, cells := 0, slots := 0, locals := 48 }) (av := [.ref x, .int (a1), .int 2, .int 0]) X hw (va_runV (As := [.int (a1), .int 2, .int 0]) (rest := [.int 0, .int (a1), .ref x]) (cfix X) (k_X12_goes l G cy κ S_493 _ x (a1) (a1_z) (2) (2) (0) (0) (-1) hO_494.1 t_500 hz_a1 ti_2 ti_0 (by first | assumption | omega) (by first | assumption | omega) (by first | assumption | omega) (by first | assumption | omega) (by first | assumption | omega) (by first | assumption | omega) mi_501) (cwV 3 X.2.2.2.1 gX12_tick_X12_goes rfl rfl rfl (by decide +kernel) ⟨Nat.le_of_ble_eq_true rfl, Nat.le_of_ble_eq_true rfl⟩) (pre_V X hw _ t_500 rfl (by decide) rfl) rfl rfl hl.1 rfl (lv_room (Nat.le_of_ble_eq_true rfl)) dX12_tick_75 ⟨Nat.le_of_ble_eq_true rfl, Nat.le_of_ble_eq_true rfl⟩) 0 0 (Nat.le_of_ble_eq_true rfl) (Nat.le_of_ble_eq_true rfl) (fun rr_502 S_503 H locs hp hw hfr hnw => ?_)
        obtain ⟨hk_504, hp⟩ := hp
        have hO_505 : Ok MTK S S_503 := hO_494.call hk_504 (by decide +kernel)
        obtain ⟨g_506, g_507, g_508, g_509, g_510, g_511, g_512, g_513⟩ := hp
        have t_514 : pI S_503 1201 x = v_1 := hk_504.fr.I' (by decide +kernel) t_500 t_496
        have pz_515 : (pI S_503 1201 x).toInt = v_1.toInt := (congrArg Int32.toInt t_514).trans rfl
        have zl_516 : zA S_503 x 1207 = zA S_493 x 1207 := zA_fr hk_504.fr t_500 (ex3 (gQ_12_1207 hO_494.1 t_500)) (by decide +kernel) (by decide +kernel)
        have zz_517 := congrFun zl_516 (rr_502.toInt).toNat
        have al_518 := ((MI_1 g_511 (c := rr_502.toInt) (by omega) (by omega)).2 (by omega)).2 (by omega) (by omega)
        have gi_519 := g_513 (3 * a1_z + 0).toNat; rw [if_neg (by omega)] at gi_519
        have m4_520 := g_511.2.2.2.1.2 (3 * a1_z + 0).toNat (by omega)
        refine lv_aload_n X.1 X.2.1 dX12_tick_78 rfl (lv_at hl 0 rfl) ?_
        refine lv_iload_n X.1 X.2.1 dX12_tick_79 rfl (lv_at hl 1 rfl) ?_
        refine lv_iconst (v := 0) X.1 X.2.1 dX12_tick_80 (by decide) ?_
        have t_521 : At S_503 x 12 := hk_504.fr.at t_500
        refine k_i (rm := { frames := 1, cells := 0, slots := 0, locals := 48 }) (av := [.ref x, .int (a1), .int 0]) X hw (va_runV (As := [.int (a1), .int 0]) (rest := [.int (rr_502), .int 0, .int (a1), .ref x]) (cfix X) (k_X12_many2 l G cy κ S_503 _ x (a1) (a1_z) (0) (0) hO_505.1 t_521 hz_a1 ti_0 (by first | assumption | omega) (by first | assumption | omega) (by first | assumption | omega) (by first | assumption | omega)) (cwV 2 X.2.2.2.1 gX12_tick_X12_many rfl rfl rfl (by decide +kernel) ⟨Nat.le_of_ble_eq_true rfl, Nat.le_of_ble_eq_true rfl⟩) (pre_V X hw _ t_521 rfl (by decide) rfl) rfl rfl hl.1 rfl (lv_room (Nat.le_of_ble_eq_true rfl)) dX12_tick_81 ⟨Nat.le_of_ble_eq_true rfl, Nat.le_of_ble_eq_true rfl⟩) 0 0 (Nat.le_of_ble_eq_true rfl) (Nat.le_of_ble_eq_true rfl) (fun rr_522 S_523 H locs hp hw hfr hnw => ?_)
        obtain ⟨e2, hp⟩ := hp
        subst e2
        obtain ⟨f_524, f_525, f_526⟩ := hp
        refine k_v (rm := { frames := 1, cells := 0, slots := 0, locals := 48 }) (av := [.ref x, .int (a1), .int 0, .int (rr_502), .int (rr_522)]) X hw (va_runV (As := [.int (a1), .int 0, .int (rr_502), .int (rr_522)]) (rest := []) (cfix X) (k_X12_comes l G cy κ S_503 _ x (a1) (a1_z) (0) (0) (rr_502) (rr_502.toInt) (rr_522) (rr_522.toInt) hO_505.1 t_521 hz_a1 ti_0 rfl rfl (by first | assumption | omega) (by first | assumption | omega) (by first | assumption | omega) (by first | assumption | omega) (by first | assumption | omega) (by first | assumption | omega) (by first | assumption | omega) (by first | assumption | omega) (by first | assumption | omega) (by first | assumption | omega) g_511 (by first | assumption | omega) (by first | assumption | omega)) (cwV 4 X.2.2.2.1 gX12_tick_X12_comes rfl rfl rfl (by decide +kernel) ⟨Nat.le_of_ble_eq_true rfl, Nat.le_of_ble_eq_true rfl⟩) (pre_V X hw _ t_521 rfl (by decide) rfl) rfl rfl hl.1 rfl (lv_room (Nat.le_of_ble_eq_true rfl)) dX12_tick_84 ⟨Nat.le_of_ble_eq_true rfl, Nat.le_of_ble_eq_true rfl⟩) 0 0 (Nat.le_of_ble_eq_true rfl) (Nat.le_of_ble_eq_true rfl) (fun S_528 H locs hp hw hfr hnw => ?_)
        obtain ⟨hk_529, hp⟩ := hp
        have hO_530 : Ok MTK S S_528 := hO_505.call hk_529 (by decide +kernel)
        obtain ⟨mi_531, cm_532, cs_533⟩ := hp
        have zm_534 : ZM S S_493 x := ZM_eq iv_21 (zA_sAn eS_493 (ex3 (gQ_12_1207 hO_T_17.1 ha_x_L_18)) h_478 rfl)
        have zm_535 : ZM S S_503 x := ZM_eq zm_534 (zA_fr hk_504.fr t_500 (ex3 (gQ_12_1207 hO_494.1 t_500)) (by decide +kernel) (by decide +kernel))
        have zm_536 : ZM S S_528 x := ZM_set zm_535 cs_533 ⟨by omega, by omega⟩ ⟨by omega, by omega⟩
        have t_537 : At S_528 x 12 := hk_529.fr.at t_521
        have zc_538 : zA S_493 x 1237 = zA T_17 x 1237 := zA_sAn eS_493 (ex3 (gQ_12_1237 hO_T_17.1 ha_x_L_18)) h_478 rfl
        have zc_539 : zA S_503 x 1237 = zA T_17 x 1237 := (zA_fr hk_504.fr t_500 (ex3 (gQ_12_1237 hO_494.1 t_500)) (by decide +kernel) (by decide +kernel)).trans zc_538
        have zc_540 : zA S_528 x 1237 = zA T_17 x 1237 := (zA_fr hk_529.fr t_521 (ex3 (gQ_12_1237 hO_505.1 t_521)) (by decide +kernel) (by decide +kernel)).trans zc_539
        have t_541 : pI S_528 1201 x = v_1 := hk_529.fr.I' (by decide +kernel) t_521 t_514
        exact L_25 _ _ _ _  hw t_537 hO_530 mi_531 (GR_eq zc_540 iv_20) zm_536 t_541 (lv_sub hl [0, 1] rfl)
  refine lv_aload_n X.1 X.2.1 dX12_tick_10 rfl (lv_at hl 0 rfl) ?_
  have t_542 : At S_13 x 12 := tAt_sA eS_13 ha_x
  obtain ⟨q_543, h_544, h_545, h_546⟩ := gQ_12_1214 hO_14.1 t_542
  refine r_getR (g := 1214) X hw t_542 rfl 14 h_544 (by decide) rfl inn_X12_tick_12 (by decide) (X.2.2.2.1 (.fieldLink RX12 43 "SilkMillModel" "search" "[I") (by decide +kernel)) rfl (gv_1214 _ _) dX12_tick_11 ?_
  refine lv_iload_n X.1 X.2.1 dX12_tick_14 rfl (lv_at hl 1 rfl) ?_
  refine lv_aload_n X.1 X.2.1 dX12_tick_15 rfl (lv_at hl 0 rfl) ?_
  refine lv_iload_n X.1 X.2.1 dX12_tick_16 rfl (lv_at hl 1 rfl) ?_
  refine lv_iconst (v := 2) X.1 X.2.1 dX12_tick_17 (by decide) ?_
  refine k_i (rm := { frames := 1, cells := 0, slots := 0, locals := 48 }) (av := [.ref x, .int (a1), .int 2]) X hw (va_runV (As := [.int (a1), .int 2]) (rest := [.int (a1), .ref q_543]) (cfix X) (k_X12_many2 l G cy κ S_13 _ x (a1) (a1_z) (2) (2) hO_14.1 t_542 hz_a1 ti_2 (by first | assumption | omega) (by first | assumption | omega) (by first | assumption | omega) (by first | assumption | omega)) (cwV 2 X.2.2.2.1 gX12_tick_X12_many rfl rfl rfl (by decide +kernel) ⟨Nat.le_of_ble_eq_true rfl, Nat.le_of_ble_eq_true rfl⟩) (pre_V X hw _ t_542 rfl (by decide) rfl) rfl rfl hl.1 rfl (lv_room (Nat.le_of_ble_eq_true rfl)) dX12_tick_18 ⟨Nat.le_of_ble_eq_true rfl, Nat.le_of_ble_eq_true rfl⟩) 0 0 (Nat.le_of_ble_eq_true rfl) (Nat.le_of_ble_eq_true rfl) (fun rr_547 S_548 H locs hp hw hfr hnw => ?_)
  obtain ⟨e2, hp⟩ := hp
  subst e2
  obtain ⟨f_549, f_550, f_551⟩ := hp
  refine lv_if_ne (tgt := 28) X.1 X.2.1 dX12_tick_21 (by decide) (fun c_552 => ?_) (fun c_552 => ?_)
  · have z_b_553 := trivial
    have k_554 : rr_547.toInt ≠ 0 := z_ne rfl ti_0 c_552
    refine lv_aload_n X.1 X.2.1 dX12_tick_28 rfl (lv_at hl 0 rfl) ?_
    refine r_getR (g := 1214) X hw t_542 rfl 14 h_544 (by decide) rfl inn_X12_tick_12 (by decide) (X.2.2.2.1 (.fieldLink RX12 43 "SilkMillModel" "search" "[I") (by decide +kernel)) rfl (gv_1214 _ _) dX12_tick_29 ?_
    refine lv_iload_n X.1 X.2.1 dX12_tick_32 rfl (lv_at hl 1 rfl) ?_
    refine r_iald X hw h_545 rfl (by rw [h_546]; exact z_ix hz_a1 (by omega) (by omega)) dX12_tick_33 ?_
    refine lv_topi (fun v_555 ev_555 => ?_)
    have rg_556 := And.intro (z_lo v_555) (z_hi v_555)
    have ev_555 := ev_555.symm
    refine lv_iconst (v := 1) X.1 X.2.1 dX12_tick_34 (by decide) ?_
    refine lv_iadd X.1 X.2.1 dX12_tick_35 ?_
    refine lv_topi (fun v_557 ev_557 => ?_)
    have rg_558 := And.intro (z_lo v_557) (z_hi v_557)
    refine r_iast X hw h_545 rfl (by rw [h_546]; exact z_ix hz_a1 (by omega) (by omega)) dX12_tick_36 (fun H locs hw => ?_)
    obtain ⟨S_559, eS_559⟩ : ∃ T, T = sA S_13 q_543 (upd (pA S_13 q_543) (Int32.toNatClampNeg (a1)) (v_557)) := ⟨_, rfl⟩
    rw [← eS_559] at hw
    have hO_560 : Ok MTK S S_559 := hO_14.sA eS_559 h_545 (by decide +kernel) (uA_494 hO_14.1 h_545)
    have h_561 : pA S_559 q_543 (Int32.toNatClampNeg (a1)) = v_557 := tA_sAs eS_559
    have t_562 : At S_559 x 12 := tAt_sA eS_559 t_542
    have mi_563 : MIe S_13 x (-1) := MIe_sA hp_2 hO.1 ha_x h_7 eS_13 (by decide +kernel)
    have mi_564 : MIe S_559 x (-1) := MIe_sA mi_563 hO_14.1 t_542 h_545 eS_559 (by decide +kernel)
    have zc_565 : zA S_13 x 1237 = zA S x 1237 := zA_sAn eS_13 (ex3 (gQ_12_1237 hO.1 ha_x)) h_7 rfl
    have zc_566 : zA S_559 x 1237 = zA S x 1237 := (zA_sAn eS_559 (ex3 (gQ_12_1237 hO_14.1 t_542)) h_545 rfl).trans zc_565
    have zm_567 : ZM S S_13 x := ZM_eq hzm0 (zA_sAn eS_13 (ex3 (gQ_12_1207 hO.1 ha_x)) h_7 rfl)
    have zm_568 : ZM S S_559 x := ZM_eq zm_567 (zA_sAn eS_559 (ex3 (gQ_12_1207 hO_14.1 t_542)) h_545 rfl)
    have t_569 : pI S_559 1201 x = v_1 := tI_sA eS_559 t_22
    exact L_16 _ _ _ _  hw t_562 hO_560 mi_564 (GR_eq zc_566 hp_3) zm_568 t_569 (lv_sub hl [0, 1] rfl)
  · have z_b_570 := trivial
    have k_571 : rr_547.toInt = 0 := z_eq rfl ti_0 c_552
    refine lv_iconst (v := 0) X.1 X.2.1 dX12_tick_24 (by decide) ?_
    refine lv_goto (tgt := 36) X.1 X.2.1 dX12_tick_25 (by decide) ?_
    refine r_iast X hw h_545 rfl (by rw [h_546]; exact z_ix hz_a1 (by omega) (by omega)) dX12_tick_36 (fun H locs hw => ?_)
    obtain ⟨S_572, eS_572⟩ : ∃ T, T = sA S_13 q_543 (upd (pA S_13 q_543) (Int32.toNatClampNeg (a1)) (0)) := ⟨_, rfl⟩
    rw [← eS_572] at hw
    have hO_573 : Ok MTK S S_572 := hO_14.sA eS_572 h_545 (by decide +kernel) (uA_494 hO_14.1 h_545)
    have h_574 : pA S_572 q_543 (Int32.toNatClampNeg (a1)) = 0 := tA_sAs eS_572
    have t_575 : At S_572 x 12 := tAt_sA eS_572 t_542
    have mi_576 : MIe S_13 x (-1) := MIe_sA hp_2 hO.1 ha_x h_7 eS_13 (by decide +kernel)
    have mi_577 : MIe S_572 x (-1) := MIe_sA mi_576 hO_14.1 t_542 h_545 eS_572 (by decide +kernel)
    have zc_578 : zA S_13 x 1237 = zA S x 1237 := zA_sAn eS_13 (ex3 (gQ_12_1237 hO.1 ha_x)) h_7 rfl
    have zc_579 : zA S_572 x 1237 = zA S x 1237 := (zA_sAn eS_572 (ex3 (gQ_12_1237 hO_14.1 t_542)) h_545 rfl).trans zc_578
    have zm_580 : ZM S S_13 x := ZM_eq hzm0 (zA_sAn eS_13 (ex3 (gQ_12_1207 hO.1 ha_x)) h_7 rfl)
    have zm_581 : ZM S S_572 x := ZM_eq zm_580 (zA_sAn eS_572 (ex3 (gQ_12_1207 hO_14.1 t_542)) h_545 rfl)
    have t_582 : pI S_572 1201 x = v_1 := tI_sA eS_572 t_22
    exact L_16 _ _ _ _  hw t_575 hO_573 mi_577 (GR_eq zc_579 hp_3) zm_581 t_582 (lv_sub hl [0, 1] rfl)
