def MC4 : List Nat := [1200, 11794, 11354]
theorem uA_1794 {S : PS} {a : Nat} {f : Nat → Int32} (hG : GX S) (ha : At S a 1794) : GX (sA S a f) := GX_A0 hG ha (by decide +kernel)

set_option maxHeartbeats 4000000 in
set_option maxRecDepth 100000 in
theorem k_X12_copy4 (l : Launch) (G : va_G) (cy : Nat → ClassId) (κ : Nat → Nat) (S : PS) (sz hz : Nat) (x : Nat) (a1 : Int32) (a1_z : Int) (a2 : Int32) (a2_z : Int) (a3 : Int32) (a3_z : Int) (a4 : Int32) (a4_z : Int) (a5 : Int32) (a5_z : Int) (hG : GX S) (ha_x : At S x 12) (hz_a1 : a1.toInt = a1_z) (hz_a2 : a2.toInt = a2_z) (hz_a3 : a3.toInt = a3_z) (hz_a4 : a4.toInt = a4_z) (hz_a5 : a5.toInt = a5_z) : Gi l yX12_copy wsX12_copy ({ frames := 3, cells := Phc S + 1, slots := Phs S + 8, locals := 144 }) G cy κ S sz hz 1 8 [.ref x, .int (a1), .int (a2), .int (a3), .int (a4), .int (a5)] (fun (r : Int32) (S9 : PS) => Og MC4 S S9 ∧ (((True) ∧ r = 1) ∨ ((True) ∧ r = 0))) := by
  refine ent_g (cc := cX12_copy) (maxL := 8) (ret := (some .boolean)) (by decide) rfl (Nat.le_of_ble_eq_true rfl) ?_
  intro p e s m below meth c ls X hr hlocks hin hw hl hsz hhz
  subst hsz hhz
  have X : Cx p c cX12_copy 8 s [.ref x, .int (a1), .int (a2), .int (a3), .int (a4), .int (a5)].toArray wsX12_copy RX12 m G cy κ (AS S s.heap.size) := X
  have hl : lv_has ls 8 [(0, .ref x), (1, .int (a1)), (2, .int (a2)), (3, .int (a3)), (4, .int (a4)), (5, .int (a5))] := hl
  have rg_a1 : (-2147483648) ≤ a1_z ∧ a1_z ≤ 2147483647 := by rw [← hz_a1]; exact ⟨z_lo _, z_hi _⟩
  have rg_a2 : (-2147483648) ≤ a2_z ∧ a2_z ≤ 2147483647 := by rw [← hz_a2]; exact ⟨z_lo _, z_hi _⟩
  have rg_a3 : (-2147483648) ≤ a3_z ∧ a3_z ≤ 2147483647 := by rw [← hz_a3]; exact ⟨z_lo _, z_hi _⟩
  have rg_a4 : (-2147483648) ≤ a4_z ∧ a4_z ≤ 2147483647 := by rw [← hz_a4]; exact ⟨z_lo _, z_hi _⟩
  have rg_a5 : (-2147483648) ≤ a5_z ∧ a5_z ≤ 2147483647 := by rw [← hz_a5]; exact ⟨z_lo _, z_hi _⟩
  have hpc0 : 0 + Phc S ≤ Phc S + 0 := by omega
  have hps0 : 0 + Phs S ≤ Phs S + 0 := by omega
  have hO : Og MC4 S S := Og.rf hG
  generalize hQQ : MQ below _ _ _ _ _ _ = QQ
  replace hQQ := hQQ.symm
  refine lv_aload_n X.1 X.2.1 dX12_copy_0 rfl (lv_at hl 0 rfl) ?_
  refine lv_iconst (v := 0) X.1 X.2.1 dX12_copy_1 (by decide) ?_
  refine r_putI (v := 0) X hw ha_x rfl 0 1200 tyX12 (by decide) rfl inn_X12_copy_12 tyX12_ok nmX12 (by decide) (X.2.2.2.1 (.fieldLink RX12 161 "SilkMillModel" "thrown" "I") (by decide +kernel)) rfl (Or.inl rfl) rfl rfl (Nat.le_of_ble_eq_true rfl) (st_1200 _ _) dX12_copy_2 (fun H locs hw => ?_)
  obtain ⟨S_1, eS_1⟩ : ∃ T, T = sI S 1200 x (0) := ⟨_, rfl⟩
  rw [← eS_1] at hw
  have ph_2 : 0 + Phc S_1 ≤ Phc S + 0 := by rw [show Phc S_1 = Phc S from Ph_sI eS_1 rfl rfl]; exact hpc0
  have ph_3 : 0 + Phs S_1 ≤ Phs S + 0 := by rw [show Phs S_1 = Phs S from Ph_sI eS_1 rfl rfl]; exact hps0
  clear hpc0
  clear hps0
  have hO_4 : Og MC4 S S_1 := hO.sI eS_1 (by decide +kernel) (uI_12_1200 hO.1 ha_x)
  have h_5 : pI S_1 1200 x = 0 := tI_sIs eS_1
  refine lv_aload_n X.1 X.2.1 dX12_copy_5 rfl (lv_at hl 0 rfl) ?_
  refine lv_iload_n X.1 X.2.1 dX12_copy_6 rfl (lv_at hl 1 rfl) ?_
  have t_6 : At S_1 x 12 := tAt_sI eS_1 ha_x
  refine k_i (rm := { frames := 2, cells := 0, slots := 0, locals := 96 }) (av := [.ref x, .int (a1)]) X hw (va_runV (As := [.int (a1)]) (rest := []) (cfix X) (k_X12_isWord l G cy κ S_1 _ x (a1) (a1_z) hO_4.1 t_6 hz_a1) (cwV 1 X.2.2.2.1 gX12_copy_X12_isWord rfl rfl rfl (by decide +kernel) ⟨Nat.le_of_ble_eq_true rfl, Nat.le_of_ble_eq_true rfl⟩) (pre_V X hw _ t_6 rfl (by decide) rfl) rfl rfl hl.1 rfl (lv_room (Nat.le_of_ble_eq_true rfl)) dX12_copy_7 ⟨(by show 0 + 0 ≤ Phc S + 1; omega), (by show 0 + 0 ≤ Phs S + 8; omega)⟩) 0 0 (by show 0 + 0 ≤ 0; omega) (by show 0 + 0 ≤ 0; omega) (fun rr_7 S_8 H locs hp hw hfr hnw => ?_)
  obtain ⟨e2, hp⟩ := hp
  subst e2
  rcases hp with ⟨f_9, er_10⟩ | ⟨f_9, er_10⟩ <;> subst er_10
  · have z_b_11 := trivial
    refine lv_if_eq (tgt := 35) X.1 X.2.1 dX12_copy_10 (by decide) (fun c_12 => absurd c_12 (by decide)) (fun c_12 => ?_)
    refine lv_aload_n X.1 X.2.1 dX12_copy_13 rfl (lv_at hl 0 rfl) ?_
    refine lv_iload_n X.1 X.2.1 dX12_copy_14 rfl (lv_at hl 3 rfl) ?_
    refine k_i (rm := { frames := 2, cells := 0, slots := 0, locals := 96 }) (av := [.ref x, .int (a3)]) X hw (va_runV (As := [.int (a3)]) (rest := []) (cfix X) (k_X12_isWord l G cy κ S_1 _ x (a3) (a3_z) hO_4.1 t_6 hz_a3) (cwV 1 X.2.2.2.1 gX12_copy_X12_isWord rfl rfl rfl (by decide +kernel) ⟨Nat.le_of_ble_eq_true rfl, Nat.le_of_ble_eq_true rfl⟩) (pre_V X hw _ t_6 rfl (by decide) rfl) rfl rfl hl.1 rfl (lv_room (Nat.le_of_ble_eq_true rfl)) dX12_copy_15 ⟨(by show 0 + 0 ≤ Phc S + 1; omega), (by show 0 + 0 ≤ Phs S + 8; omega)⟩) 0 0 (by show 0 + 0 ≤ 0; omega) (by show 0 + 0 ≤ 0; omega) (fun rr_13 S_14 H locs hp hw hfr hnw => ?_)
    obtain ⟨e2, hp⟩ := hp
    subst e2
    rcases hp with ⟨f_15, er_16⟩ | ⟨f_15, er_16⟩ <;> subst er_16
    · have z_b_17 := trivial
      refine lv_if_eq (tgt := 35) X.1 X.2.1 dX12_copy_18 (by decide) (fun c_18 => absurd c_18 (by decide)) (fun c_18 => ?_)
      refine lv_iload X.1 X.2.1 dX12_copy_21 (lv_at hl 5 rfl) ?_
      refine lv_if_lt (tgt := 35) X.1 X.2.1 dX12_copy_23 (by decide) (fun c_19 => ?_) (fun c_19 => ?_)
      · have z_b_20 := trivial
        have k_21 : a5_z < 0 := z_lt hz_a5 ti_0 c_19
        refine lv_iconst (v := 0) X.1 X.2.1 dX12_copy_35 (by decide) ?_
        rw [hQQ]
        exact ret_gz X hw hr hlocks (by show 0 ≤ Phc S + 1; omega) (by show 0 ≤ Phs S + 8; omega) (by omega) (by omega) (by decide) ⟨hO_4, Or.inr ⟨trivial, rfl⟩⟩ dX12_copy_36
      · have z_b_22 := trivial
        have k_23 : a5_z ≥ 0 := z_nlt hz_a5 ti_0 c_19
        refine lv_iload_n X.1 X.2.1 dX12_copy_26 rfl (lv_at hl 2 rfl) ?_
        refine lv_if_lt (tgt := 35) X.1 X.2.1 dX12_copy_27 (by decide) (fun c_24 => ?_) (fun c_24 => ?_)
        · have z_b_25 := trivial
          have k_26 : a2_z < 0 := z_lt hz_a2 ti_0 c_24
          refine lv_iconst (v := 0) X.1 X.2.1 dX12_copy_35 (by decide) ?_
          rw [hQQ]
          exact ret_gz X hw hr hlocks (by show 0 ≤ Phc S + 1; omega) (by show 0 ≤ Phs S + 8; omega) (by omega) (by omega) (by decide) ⟨hO_4, Or.inr ⟨trivial, rfl⟩⟩ dX12_copy_36
        · have z_b_27 := trivial
          have k_28 : a2_z ≥ 0 := z_nlt hz_a2 ti_0 c_24
          refine lv_iload X.1 X.2.1 dX12_copy_30 (lv_at hl 4 rfl) ?_
          refine lv_if_ge (tgt := 37) X.1 X.2.1 dX12_copy_32 (by decide) (fun c_29 => ?_) (fun c_29 => ?_)
          · have z_b_30 := trivial
            have k_31 : a4_z ≥ 0 := z_le ti_0 hz_a4 c_29
            refine lv_iload_n X.1 X.2.1 dX12_copy_37 rfl (lv_at hl 2 rfl) ?_
            refine lv_aload_n X.1 X.2.1 dX12_copy_38 rfl (lv_at hl 0 rfl) ?_
            obtain ⟨q_32, h_33, h_34, h_35⟩ := gQ_12_1256 hO_4.1 t_6
            refine r_getR (g := 1256) X hw t_6 rfl 56 h_33 (by decide) rfl inn_X12_copy_12 (by decide) (X.2.2.2.1 (.fieldLink RX12 134 "SilkMillModel" "wordMany" "[I") (by decide +kernel)) rfl (gv_1256 _ _) dX12_copy_39 ?_
            refine lv_iload_n X.1 X.2.1 dX12_copy_42 rfl (lv_at hl 1 rfl) ?_
            refine r_iald X hw h_34 rfl (by rw [h_35]; exact z_ix hz_a1 (by omega) (by omega)) dX12_copy_43 ?_
            refine lv_topi (fun v_36 ev_36 => ?_)
            have z_37 := gE_1334 hO_4.1 h_34 (Int32.toNatClampNeg (a1)); rw [← ev_36] at z_37
            have ev_36 := ev_36.symm
            refine lv_iload X.1 X.2.1 dX12_copy_44 (lv_at hl 5 rfl) ?_
            refine lv_isub X.1 X.2.1 dX12_copy_46 ?_
            refine lv_topi (fun v_38 ev_38 => ?_)
            have z_39 : v_38.toInt = v_36.toInt - a5_z := z_sub ev_38 rfl hz_a5 (by omega) (by omega)
            refine lv_icmp_gt (tgt := 64) X.1 X.2.1 dX12_copy_47 (by decide) (fun c_40 => ?_) (fun c_40 => ?_)
            · have z_b_41 := trivial
              have k_42 : a2_z > (v_36.toInt - a5_z) := z_lt z_39 hz_a2 c_40
              refine lv_iconst (v := 0) X.1 X.2.1 dX12_copy_64 (by decide) ?_
              rw [hQQ]
              exact ret_gz X hw hr hlocks (by show 0 ≤ Phc S + 1; omega) (by show 0 ≤ Phs S + 8; omega) (by omega) (by omega) (by decide) ⟨hO_4, Or.inr ⟨trivial, rfl⟩⟩ dX12_copy_65
            · have z_b_43 := trivial
              have k_44 : a2_z ≤ (v_36.toInt - a5_z) := z_nlt z_39 hz_a2 c_40
              refine lv_iload X.1 X.2.1 dX12_copy_50 (lv_at hl 4 rfl) ?_
              refine lv_aload_n X.1 X.2.1 dX12_copy_52 rfl (lv_at hl 0 rfl) ?_
              refine r_getR (g := 1256) X hw t_6 rfl 56 h_33 (by decide) rfl inn_X12_copy_12 (by decide) (X.2.2.2.1 (.fieldLink RX12 134 "SilkMillModel" "wordMany" "[I") (by decide +kernel)) rfl (gv_1256 _ _) dX12_copy_53 ?_
              refine lv_iload_n X.1 X.2.1 dX12_copy_56 rfl (lv_at hl 3 rfl) ?_
              refine r_iald X hw h_34 rfl (by rw [h_35]; exact z_ix hz_a3 (by omega) (by omega)) dX12_copy_57 ?_
              refine lv_topi (fun v_45 ev_45 => ?_)
              have z_46 := gE_1334 hO_4.1 h_34 (Int32.toNatClampNeg (a3)); rw [← ev_45] at z_46
              have ev_45 := ev_45.symm
              refine lv_iload X.1 X.2.1 dX12_copy_58 (lv_at hl 5 rfl) ?_
              refine lv_isub X.1 X.2.1 dX12_copy_60 ?_
              refine lv_topi (fun v_47 ev_47 => ?_)
              have z_48 : v_47.toInt = v_45.toInt - a5_z := z_sub ev_47 rfl hz_a5 (by omega) (by omega)
              refine lv_icmp_le (tgt := 66) X.1 X.2.1 dX12_copy_61 (by decide) (fun c_49 => ?_) (fun c_49 => ?_)
              · have z_b_50 := trivial
                have k_51 : a4_z ≤ (v_45.toInt - a5_z) := z_le hz_a4 z_48 c_49
                refine lv_bipush (v := 8) X.1 X.2.1 dX12_copy_66 (by decide) ?_
                have ph_53 : 1 + Phc S_1 ≤ Phc S + 1 := by omega
                have ph_54 : 8 + Phs S_1 ≤ Phs S + 8 := by omega
                clear ph_2
                clear ph_3
                refine r_newI (N := 8) X hw 1794 8 1 rfl (X.2.2.2.1 (.arrayClass .int) (by decide +kernel)) (z_nn ti_8 (by omega)) (by decide) (by decide) (by show 0 + 1 ≤ 1; omega) (by show 0 + 8 ≤ 8; omega) (by show 1 ≤ Phc S + 1; omega) (by show 8 ≤ Phs S + 8; omega) dX12_copy_68 (fun q_52 H hq_52 hw => ?_)
                obtain ⟨S_55, eS_55⟩ : ∃ T, T = sN S_1 q_52 1794 8 := ⟨_, rfl⟩
                rw [← eS_55] at hw
                have ph_56 : 1 + Phc S_55 ≤ Phc S + 1 := by rw [show Phc S_55 = Phc S_1 from Ph_sN' hO_4.1.ci hq_52 eS_55 (by decide)]; exact ph_53
                have ph_57 : 8 + Phs S_55 ≤ Phs S + 8 := by rw [show Phs S_55 = Phs S_1 from Ph_sN' hO_4.1.ci hq_52 eS_55 (by decide)]; exact ph_54
                clear ph_53
                clear ph_54
                have hO_58 : Og MC4 S S_55 := ⟨by rw [eS_55]; exact GX_N hO_4.1 hq_52 (by decide +kernel), hO_4.fr.trans (by rw [eS_55]; exact Fr_sN hq_52)⟩
                have ha_59 : At S_55 q_52 1794 := by rw [eS_55]; exact At_nN _ _ _ _
                have hn_60 : pN S_55 q_52 = 8 := by rw [eS_55]; exact pN_sN_new
                refine lv_astore (lv' := [(6, .ref q_52), (0, .ref x), (1, .int (a1)), (2, .int (a2)), (3, .int (a3)), (4, .int (a4)), (5, .int (a5))]) X.1 X.2.1 dX12_copy_70 hl (by decide) rfl (fun ls hl => ?_)
                refine lv_iconst (v := 0) X.1 X.2.1 dX12_copy_72 (by decide) ?_
                refine lv_istore (lv' := [(7, .int 0), (6, .ref q_52), (0, .ref x), (1, .int (a1)), (2, .int (a2)), (3, .int (a3)), (4, .int (a4)), (5, .int (a5))]) X.1 X.2.1 dX12_copy_73 hl (by decide) rfl (fun ls hl => ?_)
                have L_61 : ∀ (n : Nat) (T_63 : PS) (H : Heap) (locs : List Loc) (ls : Array Slot) (i7_62 : Int32) (i7_62_z : Int) (cc_67 nn_68 : Nat), ((8 - i7_62_z).toNat = n) → (Wd G cy (AS S s.heap.size) s.heap T_63 H locs) → (i7_62.toInt = i7_62_z) → (0 ≤ i7_62_z ∧ i7_62_z ≤ 8) → (At T_63 q_52 1794) → (At T_63 x 12) → (Og MC4 S T_63) → (pN T_63 q_52 = 8) → (cc_67 + Phc T_63 ≤ Phc S + 1) → (nn_68 + Phs T_63 ≤ Phs S + 8) → (lv_has ls 8 [(7, .int (i7_62)), (6, .ref q_52), (0, .ref x), (1, .int (a1)), (2, .int (a2)), (3, .int (a3)), (4, .int (a4)), (5, .int (a5))]) → W p l e ({ frames := 3, cells := Phc S + 1, slots := Phs S + 8, locals := 144 }) s m [.ref x, .int (a1), .int (a2), .int (a3), .int (a4), .int (a5)].toArray below meth c H locs cc_67 nn_68 QQ (F0 m 75 ls []) := by
                  intro n
                  induction n using Nat.strongRecOn with
                  | ind n ih_L_61 =>
                  intro T_63 H locs ls i7_62 i7_62_z cc_67 nn_68 hn hw hz_i7_62 hr_i7_62 ha_q_52_L_64 ha_x_L_65 hO_T_63 ik_66 hcc_69 hnn_70 hl
                  have rg_71 : (-2147483648) ≤ i7_62_z ∧ i7_62_z ≤ 2147483647 := by rw [← hz_i7_62]; exact ⟨z_lo _, z_hi _⟩
                  refine lv_iload X.1 X.2.1 dX12_copy_75 (lv_at hl 0 rfl) ?_
                  refine lv_iload X.1 X.2.1 dX12_copy_77 (lv_at hl 7 rfl) ?_
                  refine lv_icmp_ge (tgt := 107) X.1 X.2.1 dX12_copy_79 (by decide) (fun c_72 => ?_) (fun c_72 => ?_)
                  · have z_b_73 := trivial
                    have k_74 : i7_62_z ≥ a5_z := z_le hz_a5 hz_i7_62 c_72
                    refine lv_iconst (v := 0) X.1 X.2.1 dX12_copy_107 (by decide) ?_
                    refine lv_istore (lv' := [(7, .int 0), (6, .ref q_52), (0, .ref x), (1, .int (a1)), (2, .int (a2)), (3, .int (a3)), (4, .int (a4)), (5, .int (a5))]) X.1 X.2.1 dX12_copy_108 hl (by decide) rfl (fun ls hl => ?_)
                    have L_75 : ∀ (n : Nat) (T_77 : PS) (H : Heap) (locs : List Loc) (ls : Array Slot) (i7_76 : Int32) (i7_76_z : Int) (cc_81 nn_82 : Nat), ((8 - i7_76_z).toNat = n) → (Wd G cy (AS S s.heap.size) s.heap T_77 H locs) → (i7_76.toInt = i7_76_z) → (0 ≤ i7_76_z ∧ i7_76_z ≤ 8) → (At T_77 q_52 1794) → (At T_77 x 12) → (Og MC4 S T_77) → (pN T_77 q_52 = 8) → (cc_81 + Phc T_77 ≤ Phc S + 1) → (nn_82 + Phs T_77 ≤ Phs S + 8) → (lv_has ls 8 [(7, .int (i7_76)), (6, .ref q_52), (0, .ref x), (1, .int (a1)), (2, .int (a2)), (3, .int (a3)), (4, .int (a4)), (5, .int (a5))]) → W p l e ({ frames := 3, cells := Phc S + 1, slots := Phs S + 8, locals := 144 }) s m [.ref x, .int (a1), .int (a2), .int (a3), .int (a4), .int (a5)].toArray below meth c H locs cc_81 nn_82 QQ (F0 m 110 ls []) := by
                      intro n
                      induction n using Nat.strongRecOn with
                      | ind n ih_L_75 =>
                      intro T_77 H locs ls i7_76 i7_76_z cc_81 nn_82 hn hw hz_i7_76 hr_i7_76 ha_q_52_L_78 ha_x_L_79 hO_T_77 ik_80 hcc_83 hnn_84 hl
                      have rg_85 : (-2147483648) ≤ i7_76_z ∧ i7_76_z ≤ 2147483647 := by rw [← hz_i7_76]; exact ⟨z_lo _, z_hi _⟩
                      refine lv_iload X.1 X.2.1 dX12_copy_110 (lv_at hl 0 rfl) ?_
                      refine lv_iload X.1 X.2.1 dX12_copy_112 (lv_at hl 7 rfl) ?_
                      refine lv_icmp_ge (tgt := 143) X.1 X.2.1 dX12_copy_114 (by decide) (fun c_86 => ?_) (fun c_86 => ?_)
                      · have z_b_87 := trivial
                        have k_88 : i7_76_z ≥ a5_z := z_le hz_a5 hz_i7_76 c_86
                        refine lv_iconst (v := 1) X.1 X.2.1 dX12_copy_143 (by decide) ?_
                        rw [hQQ]
                        exact ret_gz X hw hr hlocks (by show cc_81 ≤ Phc S + 1; omega) (by show nn_82 ≤ Phs S + 8; omega) (by omega) (by omega) (by decide) ⟨hO_T_77, Or.inl ⟨trivial, rfl⟩⟩ dX12_copy_144
                      · have z_b_89 := trivial
                        have k_90 : i7_76_z < a5_z := z_nle hz_a5 hz_i7_76 c_86
                        refine lv_aload_n X.1 X.2.1 dX12_copy_117 rfl (lv_at hl 2 rfl) ?_
                        obtain ⟨q_91, h_92, h_93, h_94⟩ := gQ_12_1257 hO_T_77.1 ha_x_L_79
                        refine r_getR (g := 1257) X hw ha_x_L_79 rfl 57 h_92 (by decide) rfl inn_X12_copy_12 (by decide) (X.2.2.2.1 (.fieldLink RX12 137 "SilkMillModel" "wordOf" "[I") (by decide +kernel)) rfl (gv_1257 _ _) dX12_copy_118 ?_
                        refine lv_bipush (v := 8) X.1 X.2.1 dX12_copy_121 (by decide) ?_
                        refine lv_iload_n X.1 X.2.1 dX12_copy_123 rfl (lv_at hl 5 rfl) ?_
                        refine lv_imul X.1 X.2.1 dX12_copy_124 ?_
                        refine lv_topi (fun v_95 ev_95 => ?_)
                        have z_96 : v_95.toInt = 8 * a3_z := z_mul ev_95 ti_8 hz_a3 (by omega) (by omega)
                        refine lv_iload X.1 X.2.1 dX12_copy_125 (lv_at hl 6 rfl) ?_
                        refine lv_iadd X.1 X.2.1 dX12_copy_127 ?_
                        refine lv_topi (fun v_97 ev_97 => ?_)
                        have z_98 : v_97.toInt = (8 * a3_z) + a4_z := z_add ev_97 z_96 hz_a4 (by omega) (by omega)
                        refine lv_iload X.1 X.2.1 dX12_copy_128 (lv_at hl 0 rfl) ?_
                        refine lv_iadd X.1 X.2.1 dX12_copy_130 ?_
                        refine lv_topi (fun v_99 ev_99 => ?_)
                        have z_100 : v_99.toInt = ((8 * a3_z) + a4_z) + i7_76_z := z_add ev_99 z_98 hz_i7_76 (by omega) (by omega)
                        refine lv_aload X.1 X.2.1 dX12_copy_131 (lv_at hl 1 rfl) ?_
                        refine lv_iload X.1 X.2.1 dX12_copy_133 (lv_at hl 0 rfl) ?_
                        refine r_iald X hw ha_q_52_L_78 rfl (by rw [ik_80]; exact z_ix hz_i7_76 (by omega) (by omega)) dX12_copy_135 ?_
                        refine lv_topi (fun v_101 ev_101 => ?_)
                        have rg_102 := And.intro (z_lo v_101) (z_hi v_101)
                        have ev_101 := ev_101.symm
                        refine r_iast X hw h_93 rfl (by rw [h_94]; exact z_ix z_100 (by omega) (by omega)) dX12_copy_136 (fun H locs hw => ?_)
                        obtain ⟨S_103, eS_103⟩ : ∃ T, T = sA T_77 q_91 (upd (pA T_77 q_91) (Int32.toNatClampNeg (v_99)) (v_101)) := ⟨_, rfl⟩
                        rw [← eS_103] at hw
                        have ph_104 : cc_81 + Phc S_103 ≤ Phc S + 1 := by rw [show Phc S_103 = Phc T_77 from Ph_sA eS_103]; exact hcc_83
                        have ph_105 : nn_82 + Phs S_103 ≤ Phs S + 8 := by rw [show Phs S_103 = Phs T_77 from Ph_sA eS_103]; exact hnn_84
                        clear hcc_83
                        clear hnn_84
                        have hO_106 : Og MC4 S S_103 := hO_T_77.sA eS_103 h_93 (by decide +kernel) (uA_1354 hO_T_77.1 h_93)
                        have h_107 : pA S_103 q_91 (Int32.toNatClampNeg (v_99)) = v_101 := tA_sAs eS_103
                        obtain ⟨x_108, ex_108⟩ : ∃ y : Int32, y = i7_76 + 1 := ⟨_, rfl⟩
                        have z_109 : x_108.toInt = i7_76_z + 1 := z_add ex_108 hz_i7_76 ti_1 (by omega) (by omega)
                        refine lv_iinc (v := x_108) (lv' := [(7, .int (x_108)), (6, .ref q_52), (0, .ref x), (1, .int (a1)), (2, .int (a2)), (3, .int (a3)), (4, .int (a4)), (5, .int (a5))]) X.1 X.2.1 dX12_copy_137 hl (k := 0) rfl (by rw [ex_108]; rfl) (by decide) rfl (fun ls hl => ?_)
                        refine lv_goto (tgt := 110) X.1 X.2.1 dX12_copy_140 (by decide) ?_
                        have t_110 : At S_103 q_52 1794 := tAt_sA eS_103 ha_q_52_L_78
                        have t_111 : At S_103 x 12 := tAt_sA eS_103 ha_x_L_79
                        have t_112 : pN S_103 q_52 = 8 := tN_sA eS_103 ik_80
                        exact ih_L_75 _ (by omega) _ _ _ _ (x_108) (x_108.toInt) (cc_81) (nn_82) rfl hw rfl (by omega) t_110 t_111 hO_106 t_112 (by omega) (by omega) (lv_sub hl [0, 1, 2, 3, 4, 5, 6, 7] rfl)
                    exact L_75 _ _ _ _ _ (0) (0) (cc_67) (nn_68) rfl hw ti_0 (by omega) ha_q_52_L_64 ha_x_L_65 hO_T_63 ik_66 (by omega) (by omega) (lv_sub hl [0, 1, 2, 3, 4, 5, 6, 7] rfl)
                  · have z_b_113 := trivial
                    have k_114 : i7_62_z < a5_z := z_nle hz_a5 hz_i7_62 c_72
                    refine lv_aload X.1 X.2.1 dX12_copy_82 (lv_at hl 1 rfl) ?_
                    refine lv_iload X.1 X.2.1 dX12_copy_84 (lv_at hl 0 rfl) ?_
                    refine lv_aload_n X.1 X.2.1 dX12_copy_86 rfl (lv_at hl 2 rfl) ?_
                    obtain ⟨q_115, h_116, h_117, h_118⟩ := gQ_12_1257 hO_T_63.1 ha_x_L_65
                    refine r_getR (g := 1257) X hw ha_x_L_65 rfl 57 h_116 (by decide) rfl inn_X12_copy_12 (by decide) (X.2.2.2.1 (.fieldLink RX12 137 "SilkMillModel" "wordOf" "[I") (by decide +kernel)) rfl (gv_1257 _ _) dX12_copy_87 ?_
                    refine lv_bipush (v := 8) X.1 X.2.1 dX12_copy_90 (by decide) ?_
                    refine lv_iload_n X.1 X.2.1 dX12_copy_92 rfl (lv_at hl 3 rfl) ?_
                    refine lv_imul X.1 X.2.1 dX12_copy_93 ?_
                    refine lv_topi (fun v_119 ev_119 => ?_)
                    have z_120 : v_119.toInt = 8 * a1_z := z_mul ev_119 ti_8 hz_a1 (by omega) (by omega)
                    refine lv_iload_n X.1 X.2.1 dX12_copy_94 rfl (lv_at hl 4 rfl) ?_
                    refine lv_iadd X.1 X.2.1 dX12_copy_95 ?_
                    refine lv_topi (fun v_121 ev_121 => ?_)
                    have z_122 : v_121.toInt = (8 * a1_z) + a2_z := z_add ev_121 z_120 hz_a2 (by omega) (by omega)
                    refine lv_iload X.1 X.2.1 dX12_copy_96 (lv_at hl 0 rfl) ?_
                    refine lv_iadd X.1 X.2.1 dX12_copy_98 ?_
                    refine lv_topi (fun v_123 ev_123 => ?_)
                    have z_124 : v_123.toInt = ((8 * a1_z) + a2_z) + i7_62_z := z_add ev_123 z_122 hz_i7_62 (by omega) (by omega)
                    refine r_iald X hw h_117 rfl (by rw [h_118]; exact z_ix z_124 (by omega) (by omega)) dX12_copy_99 ?_
                    refine lv_topi (fun v_125 ev_125 => ?_)
                    have rg_126 := And.intro (z_lo v_125) (z_hi v_125)
                    have ev_125 := ev_125.symm
                    refine r_iast X hw ha_q_52_L_64 rfl (by rw [ik_66]; exact z_ix hz_i7_62 (by omega) (by omega)) dX12_copy_100 (fun H locs hw => ?_)
                    obtain ⟨S_127, eS_127⟩ : ∃ T, T = sA T_63 q_52 (upd (pA T_63 q_52) (Int32.toNatClampNeg (i7_62)) (v_125)) := ⟨_, rfl⟩
                    rw [← eS_127] at hw
                    have ph_128 : cc_67 + Phc S_127 ≤ Phc S + 1 := by rw [show Phc S_127 = Phc T_63 from Ph_sA eS_127]; exact hcc_69
                    have ph_129 : nn_68 + Phs S_127 ≤ Phs S + 8 := by rw [show Phs S_127 = Phs T_63 from Ph_sA eS_127]; exact hnn_70
                    clear hcc_69
                    clear hnn_70
                    have hO_130 : Og MC4 S S_127 := hO_T_63.sA eS_127 ha_q_52_L_64 (by decide +kernel) (uA_1794 hO_T_63.1 ha_q_52_L_64)
                    have h_131 : pA S_127 q_52 (Int32.toNatClampNeg (i7_62)) = v_125 := tA_sAs eS_127
                    obtain ⟨x_132, ex_132⟩ : ∃ y : Int32, y = i7_62 + 1 := ⟨_, rfl⟩
                    have z_133 : x_132.toInt = i7_62_z + 1 := z_add ex_132 hz_i7_62 ti_1 (by omega) (by omega)
                    refine lv_iinc (v := x_132) (lv' := [(7, .int (x_132)), (6, .ref q_52), (0, .ref x), (1, .int (a1)), (2, .int (a2)), (3, .int (a3)), (4, .int (a4)), (5, .int (a5))]) X.1 X.2.1 dX12_copy_101 hl (k := 0) rfl (by rw [ex_132]; rfl) (by decide) rfl (fun ls hl => ?_)
                    refine lv_goto (tgt := 75) X.1 X.2.1 dX12_copy_104 (by decide) ?_
                    have t_134 : At S_127 q_52 1794 := tAt_sA eS_127 ha_q_52_L_64
                    have t_135 : At S_127 x 12 := tAt_sA eS_127 ha_x_L_65
                    have t_136 : pN S_127 q_52 = 8 := tN_sA eS_127 ik_66
                    exact ih_L_61 _ (by omega) _ _ _ _ (x_132) (x_132.toInt) (cc_67) (nn_68) rfl hw rfl (by omega) t_134 t_135 hO_130 t_136 (by omega) (by omega) (lv_sub hl [0, 1, 2, 3, 4, 5, 6, 7] rfl)
                have t_137 : At S_55 x 12 := by rw [eS_55]; exact At_sN t_6 hq_52
                exact L_61 _ _ _ _ _ (0) (0) (1) (8) rfl hw ti_0 (by omega) ha_59 t_137 hO_58 hn_60 (by omega) (by omega) (lv_sub hl [0, 1, 2, 3, 4, 5, 6, 7] rfl)
              · have z_b_138 := trivial
                have k_139 : a4_z > (v_45.toInt - a5_z) := z_nle hz_a4 z_48 c_49
                refine lv_iconst (v := 0) X.1 X.2.1 dX12_copy_64 (by decide) ?_
                rw [hQQ]
                exact ret_gz X hw hr hlocks (by show 0 ≤ Phc S + 1; omega) (by show 0 ≤ Phs S + 8; omega) (by omega) (by omega) (by decide) ⟨hO_4, Or.inr ⟨trivial, rfl⟩⟩ dX12_copy_65
          · have z_b_140 := trivial
            have k_141 : a4_z < 0 := z_nle ti_0 hz_a4 c_29
            refine lv_iconst (v := 0) X.1 X.2.1 dX12_copy_35 (by decide) ?_
            rw [hQQ]
            exact ret_gz X hw hr hlocks (by show 0 ≤ Phc S + 1; omega) (by show 0 ≤ Phs S + 8; omega) (by omega) (by omega) (by decide) ⟨hO_4, Or.inr ⟨trivial, rfl⟩⟩ dX12_copy_36
    · have z_b_142 := trivial
      refine lv_if_eq (tgt := 35) X.1 X.2.1 dX12_copy_18 (by decide) (fun c_143 => ?_) (fun c_143 => absurd c_143 (by decide))
      refine lv_iconst (v := 0) X.1 X.2.1 dX12_copy_35 (by decide) ?_
      rw [hQQ]
      exact ret_gz X hw hr hlocks (by show 0 ≤ Phc S + 1; omega) (by show 0 ≤ Phs S + 8; omega) (by omega) (by omega) (by decide) ⟨hO_4, Or.inr ⟨trivial, rfl⟩⟩ dX12_copy_36
  · have z_b_144 := trivial
    refine lv_if_eq (tgt := 35) X.1 X.2.1 dX12_copy_10 (by decide) (fun c_145 => ?_) (fun c_145 => absurd c_145 (by decide))
    refine lv_iconst (v := 0) X.1 X.2.1 dX12_copy_35 (by decide) ?_
    rw [hQQ]
    exact ret_gz X hw hr hlocks (by show 0 ≤ Phc S + 1; omega) (by show 0 ≤ Phs S + 8; omega) (by omega) (by omega) (by decide) ⟨hO_4, Or.inr ⟨trivial, rfl⟩⟩ dX12_copy_36
