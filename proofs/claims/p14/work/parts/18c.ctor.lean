theorem dX7_init_0 : decode cX7_init 0 = .ok (.aload_n 0, 1) := by decide +kernel
theorem dX7_init_1 : decode cX7_init 1 = .ok (.invokespecial 3, 3) := by decide +kernel
theorem dX7_init_4 : decode cX7_init 4 = .ok (.aload_n 0, 1) := by decide +kernel
theorem dX7_init_5 : decode cX7_init 5 = .ok (.iconst 3, 1) := by decide +kernel
theorem dX7_init_6 : decode cX7_init 6 = .ok (.putfield 9, 3) := by decide +kernel
theorem dX7_init_9 : decode cX7_init 9 = .ok (.aload_n 0, 1) := by decide +kernel
theorem dX7_init_10 : decode cX7_init 10 = .ok (.aload_n 1, 1) := by decide +kernel
theorem dX7_init_11 : decode cX7_init 11 = .ok (.putfield 15, 3) := by decide +kernel
theorem dX7_init_14 : decode cX7_init 14 = .ok (.aload_n 0, 1) := by decide +kernel
theorem dX7_init_15 : decode cX7_init 15 = .ok (.iload_n 2, 1) := by decide +kernel
theorem dX7_init_16 : decode cX7_init 16 = .ok (.putfield 19, 3) := by decide +kernel
theorem dX7_init_19 : decode cX7_init 19 = .ok (.aload_n 0, 1) := by decide +kernel
theorem dX7_init_20 : decode cX7_init 20 = .ok (.iload_n 3, 1) := by decide +kernel
theorem dX7_init_21 : decode cX7_init 21 = .ok (.putfield 22, 3) := by decide +kernel
theorem dX7_init_24 : decode cX7_init 24 = .ok (.aload_n 0, 1) := by decide +kernel
theorem dX7_init_25 : decode cX7_init 25 = .ok (.iload 4, 2) := by decide +kernel
theorem dX7_init_27 : decode cX7_init 27 = .ok (.putfield 25, 3) := by decide +kernel
theorem dX7_init_30 : decode cX7_init 30 = .ok (.aload_n 1, 1) := by decide +kernel
theorem dX7_init_31 : decode cX7_init 31 = .ok (.getfield 28, 3) := by decide +kernel
theorem dX7_init_34 : decode cX7_init 34 = .ok (.astore 5, 2) := by decide +kernel
theorem dX7_init_36 : decode cX7_init 36 = .ok (.ldc 36, 2) := by decide +kernel
theorem dX7_init_38 : decode cX7_init 38 = .ok (.istore 6, 2) := by decide +kernel
theorem dX7_init_40 : decode cX7_init 40 = .ok (.iconst 0, 1) := by decide +kernel
theorem dX7_init_41 : decode cX7_init 41 = .ok (.istore 7, 2) := by decide +kernel
theorem dX7_init_43 : decode cX7_init 43 = .ok (.iconst 0, 1) := by decide +kernel
theorem dX7_init_44 : decode cX7_init 44 = .ok (.istore 8, 2) := by decide +kernel
theorem dX7_init_46 : decode cX7_init 46 = .ok (.iconst 0, 1) := by decide +kernel
theorem dX7_init_47 : decode cX7_init 47 = .ok (.istore 9, 2) := by decide +kernel
theorem dX7_init_49 : decode cX7_init 49 = .ok (.iload 9, 2) := by decide +kernel
theorem dX7_init_51 : decode cX7_init 51 = .ok (.aload 5, 2) := by decide +kernel
theorem dX7_init_53 : decode cX7_init 53 = .ok (.arraylength, 1) := by decide +kernel
theorem dX7_init_54 : decode cX7_init 54 = .ok (.if_icmp .ge 61, 3) := by decide +kernel
theorem dX7_init_57 : decode cX7_init 57 = .ok (.iload 6, 2) := by decide +kernel
theorem dX7_init_59 : decode cX7_init 59 = .ok (.aload 5, 2) := by decide +kernel
theorem dX7_init_61 : decode cX7_init 61 = .ok (.iload 9, 2) := by decide +kernel
theorem dX7_init_63 : decode cX7_init 63 = .ok (.iaload, 1) := by decide +kernel
theorem dX7_init_64 : decode cX7_init 64 = .ok (.invokestatic 37, 3) := by decide +kernel
theorem dX7_init_67 : decode cX7_init 67 = .ok (.istore 6, 2) := by decide +kernel
theorem dX7_init_69 : decode cX7_init 69 = .ok (.iload 7, 2) := by decide +kernel
theorem dX7_init_71 : decode cX7_init 71 = .ok (.aload 5, 2) := by decide +kernel
theorem dX7_init_73 : decode cX7_init 73 = .ok (.iload 9, 2) := by decide +kernel
theorem dX7_init_75 : decode cX7_init 75 = .ok (.iaload, 1) := by decide +kernel
theorem dX7_init_76 : decode cX7_init 76 = .ok (.invokestatic 43, 3) := by decide +kernel
theorem dX7_init_79 : decode cX7_init 79 = .ok (.istore 7, 2) := by decide +kernel
theorem dX7_init_81 : decode cX7_init 81 = .ok (.iload 9, 2) := by decide +kernel
theorem dX7_init_83 : decode cX7_init 83 = .ok (.ifCond .le 26, 3) := by decide +kernel
theorem dX7_init_86 : decode cX7_init 86 = .ok (.aload 5, 2) := by decide +kernel
theorem dX7_init_88 : decode cX7_init 88 = .ok (.iload 9, 2) := by decide +kernel
theorem dX7_init_90 : decode cX7_init 90 = .ok (.iaload, 1) := by decide +kernel
theorem dX7_init_91 : decode cX7_init 91 = .ok (.aload 5, 2) := by decide +kernel
theorem dX7_init_93 : decode cX7_init 93 = .ok (.iload 9, 2) := by decide +kernel
theorem dX7_init_95 : decode cX7_init 95 = .ok (.iconst 1, 1) := by decide +kernel
theorem dX7_init_96 : decode cX7_init 96 = .ok (.isub, 1) := by decide +kernel
theorem dX7_init_97 : decode cX7_init 97 = .ok (.iaload, 1) := by decide +kernel
theorem dX7_init_98 : decode cX7_init 98 = .ok (.isub, 1) := by decide +kernel
theorem dX7_init_99 : decode cX7_init 99 = .ok (.invokestatic 46, 3) := by decide +kernel
theorem dX7_init_102 : decode cX7_init 102 = .ok (.iconst 4, 1) := by decide +kernel
theorem dX7_init_103 : decode cX7_init 103 = .ok (.if_icmp .le 6, 3) := by decide +kernel
theorem dX7_init_106 : decode cX7_init 106 = .ok (.iinc 8 1, 3) := by decide +kernel
theorem dX7_init_109 : decode cX7_init 109 = .ok (.iinc 9 1, 3) := by decide +kernel
theorem dX7_init_112 : decode cX7_init 112 = .ok (.goto (-63), 3) := by decide +kernel
theorem dX7_init_115 : decode cX7_init 115 = .ok (.aload_n 0, 1) := by decide +kernel
theorem dX7_init_116 : decode cX7_init 116 = .ok (.iload 6, 2) := by decide +kernel
theorem dX7_init_118 : decode cX7_init 118 = .ok (.putfield 50, 3) := by decide +kernel
theorem dX7_init_121 : decode cX7_init 121 = .ok (.aload_n 0, 1) := by decide +kernel
theorem dX7_init_122 : decode cX7_init 122 = .ok (.iload 7, 2) := by decide +kernel
theorem dX7_init_124 : decode cX7_init 124 = .ok (.putfield 53, 3) := by decide +kernel
theorem dX7_init_127 : decode cX7_init 127 = .ok (.aload_n 0, 1) := by decide +kernel
theorem dX7_init_128 : decode cX7_init 128 = .ok (.iload 8, 2) := by decide +kernel
theorem dX7_init_130 : decode cX7_init 130 = .ok (.putfield 56, 3) := by decide +kernel
theorem dX7_init_133 : decode cX7_init 133 = .ok (.return_, 1) := by decide +kernel
theorem inn_X7_init_7 : ∀ w ∈ u_ws RX7 TX7 10, w ∈ wsX7_init := fun w h => List.mem_cons_of_mem _ (List.mem_append_left _ (List.mem_append_right _ h))
theorem inn_X7_init_9 : ∀ w ∈ u_ws RX9 TX9 9, w ∈ wsX7_init := fun w h => List.mem_cons_of_mem _ (List.mem_append_right _ h)
set_option maxHeartbeats 4000000 in
set_option maxRecDepth 100000 in
theorem k_X7_init (l : Launch) (G : va_G) (cy : Nat → ClassId) (κ : Nat → Nat) (S : PS) (sz : Nat) (x : Nat) (s1 : Nat) (a1 : Int32) (a1_z : Int) (a2 : Int32) (a2_z : Int) (a3 : Int32) (a3_z : Int) (hG : GX S) (ha_x : At S x 187) (ha_s1 : At S s1 9) (hz_a1 : a1.toInt = a1_z) (hz_a2 : a2.toInt = a2_z) (hz_a3 : a3.toInt = a3_z) (hzI : ∀ g, pI S g x = 0) (hzR : ∀ g, pR S g x = none) : Cv l yX7_init wsX7_init ({ frames := 2, cells := 0, slots := 0, locals := 96 }) G cy κ S sz [.ref x, .ref s1, .int (a1), .int (a2), .int (a3)] (fun (S9 : PS) => Kq S S9 x ∧ GX S9 ∧ At S9 x 7 ∧ Phc S9 = Phc S + 0 ∧ Phs S9 = Phs S + 0) := by
  refine ent_m (cc := cX7_init) (maxL := 10) (ret := none) (by decide) rfl (Nat.le_of_ble_eq_true rfl) ?_
  intro p e s m below meth c ls X hr hlocks hin hw hl hsz
  subst hsz
  have X : Cx p c cX7_init 10 s [.ref x, .ref s1, .int (a1), .int (a2), .int (a3)].toArray wsX7_init RX7 m G cy κ (AS S s.heap.size) := X
  have hl : lv_has ls 10 [(0, .ref x), (1, .ref s1), (2, .int (a1)), (3, .int (a2)), (4, .int (a3))] := hl
  have rg_a1 : (-2147483648) ≤ a1_z ∧ a1_z ≤ 2147483647 := by rw [← hz_a1]; exact ⟨z_lo _, z_hi _⟩
  have rg_a2 : (-2147483648) ≤ a2_z ∧ a2_z ≤ 2147483647 := by rw [← hz_a2]; exact ⟨z_lo _, z_hi _⟩
  have rg_a3 : (-2147483648) ≤ a3_z ∧ a3_z ≤ 2147483647 := by rw [← hz_a3]; exact ⟨z_lo _, z_hi _⟩
  have hpc0 : Phc S = Phc S + 0 := rfl
  have hps0 : Phs S = Phs S + 0 := rfl
  have hK : Kq S S x := Kq.rf S _
  generalize hQQ : MQ below _ _ _ _ _ _ = QQ
  replace hQQ := hQQ.symm
  refine lv_aload_n X.1 X.2.1 dX7_init_0 rfl (lv_at hl 0 rfl) ?_
  refine W.objInit X.1 X.2.1 X.2.2.2.2.1 (X.2.2.2.1 (.methodLink RX7 3 objectInit) (by decide +kernel)) (X.2.2.2.1 (.instanceMethod objectInit) (by decide +kernel)) (X.2.2.2.1 (.code objectInit ⟨#[0xb1]⟩ 1 none) (by decide +kernel)) rfl (hl.1.trans X.2.2.1.symm) rfl dX7_init_1 (Nat.le_of_ble_eq_true rfl) (Nat.le_of_ble_eq_true rfl) ?_
  refine W.eq (g2 := F0 m 4 ls ([])) rfl ?_
  refine lv_aload_n X.1 X.2.1 dX7_init_4 rfl (lv_at hl 0 rfl) ?_
  refine lv_iconst (v := 3) X.1 X.2.1 dX7_init_5 (by decide) ?_
  refine r_putI (v := 3) X hw ha_x rfl 7 707 tyX7 (by decide) rfl inn_X7_init_7 tyX7_ok nmX7 (by decide) (X.2.2.2.1 (.fieldLink RX7 9 "SilkMill$Skein" "latestGrade" "I") (by decide +kernel)) rfl (Or.inl rfl) rfl rfl (Nat.le_of_ble_eq_true rfl) (st_707 _ _) dX7_init_6 (fun H locs hw => ?_)
  obtain ⟨S_1, eS_1⟩ : ∃ T, T = sI S 707 x (3) := ⟨_, rfl⟩
  rw [← eS_1] at hw
  have ph_2 : Phc S_1 = Phc S + 0 := (show Phc S_1 = Phc S from Ph_rawI ha_x (by decide) eS_1).trans hpc0
  have ph_3 : Phs S_1 = Phs S + 0 := (show Phs S_1 = Phs S from Ph_rawI ha_x (by decide) eS_1).trans hps0
  clear hpc0
  clear hps0
  have hK_4 : Kq S S_1 x := hK.sI eS_1
  have hg_5 : GX S_1 := by rw [eS_1]; exact GX_rawI hG ha_x (by decide +kernel)
  have h_6 : pI S_1 707 x = 3 := tI_sIs eS_1
  refine lv_aload_n X.1 X.2.1 dX7_init_9 rfl (lv_at hl 0 rfl) ?_
  refine lv_aload_n X.1 X.2.1 dX7_init_10 rfl (lv_at hl 1 rfl) ?_
  have t_7 : At S_1 x 187 := tAt_sI eS_1 ha_x
  have t_8 : At S_1 s1 9 := tAt_sI eS_1 ha_s1
  refine r_putR X hw t_7 rfl 3 703 (some s1) rfl tyX7 (by decide) rfl inn_X7_init_7 tyX7_ok nmX7 (by decide) (X.2.2.2.1 (.fieldLink RX7 15 "SilkMill$Skein" "strand" "LSilkMill$Strand;") (by decide +kernel)) rfl (Or.inr ⟨rfl, hin, rfl⟩) (fun _ => rfl) rfl (fun _ => rfl) rfl (Nat.le_of_ble_eq_true rfl) (st_703 _ _) dX7_init_11 (fun H locs hw => ?_)
  obtain ⟨S_9, eS_9⟩ : ∃ T, T = sR S_1 703 x (some s1) := ⟨_, rfl⟩
  rw [← eS_9] at hw
  have ph_10 : Phc S_9 = Phc S + 0 := (show Phc S_9 = Phc S_1 from Ph_rawR t_7 (by decide) eS_9).trans ph_2
  have ph_11 : Phs S_9 = Phs S + 0 := (show Phs S_9 = Phs S_1 from Ph_rawR t_7 (by decide) eS_9).trans ph_3
  clear ph_2
  clear ph_3
  have hK_12 : Kq S S_9 x := hK_4.sR eS_9
  have hg_13 : GX S_9 := by rw [eS_9]; exact GX_rawR hg_5 t_7 (by decide +kernel)
  have h_14 : pR S_9 703 x = some s1 := tR_sRs eS_9
  refine lv_aload_n X.1 X.2.1 dX7_init_14 rfl (lv_at hl 0 rfl) ?_
  refine lv_iload_n X.1 X.2.1 dX7_init_15 rfl (lv_at hl 2 rfl) ?_
  have t_15 : At S_9 x 187 := tAt_sR eS_9 t_7
  refine r_putI (v := a1) X hw t_15 rfl 0 700 tyX7 (by decide) rfl inn_X7_init_7 tyX7_ok nmX7 (by decide) (X.2.2.2.1 (.fieldLink RX7 19 "SilkMill$Skein" "potNumber" "I") (by decide +kernel)) rfl (Or.inr ⟨rfl, hin, rfl⟩) rfl rfl (Nat.le_of_ble_eq_true rfl) (st_700 _ _) dX7_init_16 (fun H locs hw => ?_)
  obtain ⟨S_16, eS_16⟩ : ∃ T, T = sI S_9 700 x (a1) := ⟨_, rfl⟩
  rw [← eS_16] at hw
  have ph_17 : Phc S_16 = Phc S + 0 := (show Phc S_16 = Phc S_9 from Ph_rawI t_15 (by decide) eS_16).trans ph_10
  have ph_18 : Phs S_16 = Phs S + 0 := (show Phs S_16 = Phs S_9 from Ph_rawI t_15 (by decide) eS_16).trans ph_11
  clear ph_10
  clear ph_11
  have hK_19 : Kq S S_16 x := hK_12.sI eS_16
  have hg_20 : GX S_16 := by rw [eS_16]; exact GX_rawI hg_13 t_15 (by decide +kernel)
  have h_21 : pI S_16 700 x = a1 := tI_sIs eS_16
  refine lv_aload_n X.1 X.2.1 dX7_init_19 rfl (lv_at hl 0 rfl) ?_
  refine lv_iload_n X.1 X.2.1 dX7_init_20 rfl (lv_at hl 3 rfl) ?_
  have t_22 : At S_16 x 187 := tAt_sI eS_16 t_15
  refine r_putI (v := a2) X hw t_22 rfl 1 701 tyX7 (by decide) rfl inn_X7_init_7 tyX7_ok nmX7 (by decide) (X.2.2.2.1 (.fieldLink RX7 22 "SilkMill$Skein" "aim" "I") (by decide +kernel)) rfl (Or.inr ⟨rfl, hin, rfl⟩) rfl rfl (Nat.le_of_ble_eq_true rfl) (st_701 _ _) dX7_init_21 (fun H locs hw => ?_)
  obtain ⟨S_23, eS_23⟩ : ∃ T, T = sI S_16 701 x (a2) := ⟨_, rfl⟩
  rw [← eS_23] at hw
  have ph_24 : Phc S_23 = Phc S + 0 := (show Phc S_23 = Phc S_16 from Ph_rawI t_22 (by decide) eS_23).trans ph_17
  have ph_25 : Phs S_23 = Phs S + 0 := (show Phs S_23 = Phs S_16 from Ph_rawI t_22 (by decide) eS_23).trans ph_18
  clear ph_17
  clear ph_18
  have hK_26 : Kq S S_23 x := hK_19.sI eS_23
  have hg_27 : GX S_23 := by rw [eS_23]; exact GX_rawI hg_20 t_22 (by decide +kernel)
  have h_28 : pI S_23 701 x = a2 := tI_sIs eS_23
  refine lv_aload_n X.1 X.2.1 dX7_init_24 rfl (lv_at hl 0 rfl) ?_
  refine lv_iload X.1 X.2.1 dX7_init_25 (lv_at hl 4 rfl) ?_
  have t_29 : At S_23 x 187 := tAt_sI eS_23 t_22
  refine r_putI (v := a3) X hw t_29 rfl 2 702 tyX7 (by decide) rfl inn_X7_init_7 tyX7_ok nmX7 (by decide) (X.2.2.2.1 (.fieldLink RX7 25 "SilkMill$Skein" "dayCut" "I") (by decide +kernel)) rfl (Or.inr ⟨rfl, hin, rfl⟩) rfl rfl (Nat.le_of_ble_eq_true rfl) (st_702 _ _) dX7_init_27 (fun H locs hw => ?_)
  obtain ⟨S_30, eS_30⟩ : ∃ T, T = sI S_23 702 x (a3) := ⟨_, rfl⟩
  rw [← eS_30] at hw
  have ph_31 : Phc S_30 = Phc S + 0 := (show Phc S_30 = Phc S_23 from Ph_rawI t_29 (by decide) eS_30).trans ph_24
  have ph_32 : Phs S_30 = Phs S + 0 := (show Phs S_30 = Phs S_23 from Ph_rawI t_29 (by decide) eS_30).trans ph_25
  clear ph_24
  clear ph_25
  have hK_33 : Kq S S_30 x := hK_26.sI eS_30
  have hg_34 : GX S_30 := by rw [eS_30]; exact GX_rawI hg_27 t_29 (by decide +kernel)
  have h_35 : pI S_30 702 x = a3 := tI_sIs eS_30
  refine lv_aload_n X.1 X.2.1 dX7_init_30 rfl (lv_at hl 1 rfl) ?_
  have t_36 : At S_9 s1 9 := tAt_sR eS_9 t_8
  have t_37 : At S_16 s1 9 := tAt_sI eS_16 t_36
  have t_38 : At S_23 s1 9 := tAt_sI eS_23 t_37
  have t_39 : At S_30 s1 9 := tAt_sI eS_30 t_38
  obtain ⟨v_40, ev_40⟩ : ∃ v, pI S_30 902 s1 = v := ⟨_, rfl⟩
  have rg_41 := gI_9_902 hg_34 t_39; rw [ev_40] at rg_41
  obtain ⟨q_42, h_43, h_44, h_45, h_48⟩ := gC_9_900 hg_34 t_39
  obtain ⟨n_46, h_47⟩ : ∃ n, pN S_30 q_42 = n := ⟨_, rfl⟩
  rw [ev_40, h_47] at h_45
  rw [h_47] at h_48
  refine r_getR (g := 900) X hw t_39 rfl 0 h_43 (by decide) rfl inn_X7_init_9 (by decide) (X.2.2.2.1 (.fieldLink RX7 28 "SilkMill$Strand" "fineness" "[I") (by decide +kernel)) rfl (gv_900 _ _) dX7_init_31 ?_
  refine lv_astore (lv' := [(5, .ref q_42), (0, .ref x), (1, .ref s1), (2, .int (a1)), (3, .int (a2)), (4, .int (a3))]) X.1 X.2.1 dX7_init_34 hl (by decide) rfl (fun ls hl => ?_)
  refine lv_ldc (v := 2147483647) X.1 X.2.1 X.2.2.2.2.1 (X.2.2.2.1 (.constant RX7 36 2147483647) (by decide +kernel)) dX7_init_36 ?_
  refine lv_istore (lv' := [(6, .int 2147483647), (5, .ref q_42), (0, .ref x), (1, .ref s1), (2, .int (a1)), (3, .int (a2)), (4, .int (a3))]) X.1 X.2.1 dX7_init_38 hl (by decide) rfl (fun ls hl => ?_)
  refine lv_iconst (v := 0) X.1 X.2.1 dX7_init_40 (by decide) ?_
  refine lv_istore (lv' := [(7, .int 0), (6, .int 2147483647), (5, .ref q_42), (0, .ref x), (1, .ref s1), (2, .int (a1)), (3, .int (a2)), (4, .int (a3))]) X.1 X.2.1 dX7_init_41 hl (by decide) rfl (fun ls hl => ?_)
  refine lv_iconst (v := 0) X.1 X.2.1 dX7_init_43 (by decide) ?_
  refine lv_istore (lv' := [(8, .int 0), (7, .int 0), (6, .int 2147483647), (5, .ref q_42), (0, .ref x), (1, .ref s1), (2, .int (a1)), (3, .int (a2)), (4, .int (a3))]) X.1 X.2.1 dX7_init_44 hl (by decide) rfl (fun ls hl => ?_)
  refine lv_iconst (v := 0) X.1 X.2.1 dX7_init_46 (by decide) ?_
  refine lv_istore (lv' := [(9, .int 0), (8, .int 0), (7, .int 0), (6, .int 2147483647), (5, .ref q_42), (0, .ref x), (1, .ref s1), (2, .int (a1)), (3, .int (a2)), (4, .int (a3))]) X.1 X.2.1 dX7_init_47 hl (by decide) rfl (fun ls hl => ?_)
  have L_49 : ∀ (n : Nat) (H : Heap) (locs : List Loc) (ls : Array Slot) (i6_50 : Int32) (i6_50_z : Int) (i7_51 : Int32) (i7_51_z : Int) (i8_52 : Int32) (i8_52_z : Int) (i9_53 : Int32) (i9_53_z : Int), ((3600 - i9_53_z).toNat = n) → (Wd G cy (AS S s.heap.size) s.heap S_30 H locs) → (i6_50.toInt = i6_50_z) → (i7_51.toInt = i7_51_z) → (i8_52.toInt = i8_52_z) → (i9_53.toInt = i9_53_z) → (0 ≤ i9_53_z ∧ i9_53_z ≤ 3600) → (lv_has ls 10 [(6, .int (i6_50)), (7, .int (i7_51)), (8, .int (i8_52)), (9, .int (i9_53)), (5, .ref q_42), (0, .ref x), (1, .ref s1), (2, .int (a1)), (3, .int (a2)), (4, .int (a3))]) → W p l e ({ frames := 2, cells := 0, slots := 0, locals := 96 }) s m [.ref x, .ref s1, .int (a1), .int (a2), .int (a3)].toArray below meth c H locs 0 0 QQ (F0 m 49 ls []) := by
    intro n
    induction n using Nat.strongRecOn with
    | ind n ih =>
    intro H locs ls i6_50 i6_50_z i7_51 i7_51_z i8_52 i8_52_z i9_53 i9_53_z hn hw hz_i6_50 hz_i7_51 hz_i8_52 hz_i9_53 hr_i9_53 hl
    have rg_54 : (-2147483648) ≤ i6_50_z ∧ i6_50_z ≤ 2147483647 := by rw [← hz_i6_50]; exact ⟨z_lo _, z_hi _⟩
    have rg_55 : (-2147483648) ≤ i7_51_z ∧ i7_51_z ≤ 2147483647 := by rw [← hz_i7_51]; exact ⟨z_lo _, z_hi _⟩
    have rg_56 : (-2147483648) ≤ i8_52_z ∧ i8_52_z ≤ 2147483647 := by rw [← hz_i8_52]; exact ⟨z_lo _, z_hi _⟩
    have rg_57 : (-2147483648) ≤ i9_53_z ∧ i9_53_z ≤ 2147483647 := by rw [← hz_i9_53]; exact ⟨z_lo _, z_hi _⟩
    refine lv_iload X.1 X.2.1 dX7_init_49 (lv_at hl 3 rfl) ?_
    refine lv_aload X.1 X.2.1 dX7_init_51 (lv_at hl 4 rfl) ?_
    refine r_alen X hw h_44 rfl (by decide) rfl dX7_init_53 ?_
    rw [h_47]
    refine lv_topi (fun v_58 ev_58 => ?_)
    have z_59 : v_58.toInt = (n_46 : Int) := z_len ev_58 (by omega)
    refine lv_icmp_ge (tgt := 115) X.1 X.2.1 dX7_init_54 (by decide) (fun c_60 => ?_) (fun c_60 => ?_)
    · have z_b_61 := trivial
      have k_62 : i9_53_z ≥ v_58.toInt := z_le rfl hz_i9_53 c_60
      refine lv_aload_n X.1 X.2.1 dX7_init_115 rfl (lv_at hl 5 rfl) ?_
      refine lv_iload X.1 X.2.1 dX7_init_116 (lv_at hl 0 rfl) ?_
      have t_63 : At S_30 x 187 := tAt_sI eS_30 t_29
      refine r_putI (v := i6_50) X hw t_63 rfl 4 704 tyX7 (by decide) rfl inn_X7_init_7 tyX7_ok nmX7 (by decide) (X.2.2.2.1 (.fieldLink RX7 50 "SilkMill$Skein" "least" "I") (by decide +kernel)) rfl (Or.inr ⟨rfl, hin, rfl⟩) rfl rfl (Nat.le_of_ble_eq_true rfl) (st_704 _ _) dX7_init_118 (fun H locs hw => ?_)
      obtain ⟨S_64, eS_64⟩ : ∃ T, T = sI S_30 704 x (i6_50) := ⟨_, rfl⟩
      rw [← eS_64] at hw
      have ph_65 : Phc S_64 = Phc S + 0 := (show Phc S_64 = Phc S_30 from Ph_rawI t_63 (by decide) eS_64).trans ph_31
      have ph_66 : Phs S_64 = Phs S + 0 := (show Phs S_64 = Phs S_30 from Ph_rawI t_63 (by decide) eS_64).trans ph_32
      clear ph_31
      clear ph_32
      have hK_67 : Kq S S_64 x := hK_33.sI eS_64
      have hg_68 : GX S_64 := by rw [eS_64]; exact GX_rawI hg_34 t_63 (by decide +kernel)
      have h_69 : pI S_64 704 x = i6_50 := tI_sIs eS_64
      refine lv_aload_n X.1 X.2.1 dX7_init_121 rfl (lv_at hl 5 rfl) ?_
      refine lv_iload X.1 X.2.1 dX7_init_122 (lv_at hl 1 rfl) ?_
      have t_70 : At S_64 x 187 := tAt_sI eS_64 t_63
      refine r_putI (v := i7_51) X hw t_70 rfl 5 705 tyX7 (by decide) rfl inn_X7_init_7 tyX7_ok nmX7 (by decide) (X.2.2.2.1 (.fieldLink RX7 53 "SilkMill$Skein" "greatest" "I") (by decide +kernel)) rfl (Or.inr ⟨rfl, hin, rfl⟩) rfl rfl (Nat.le_of_ble_eq_true rfl) (st_705 _ _) dX7_init_124 (fun H locs hw => ?_)
      obtain ⟨S_71, eS_71⟩ : ∃ T, T = sI S_64 705 x (i7_51) := ⟨_, rfl⟩
      rw [← eS_71] at hw
      have ph_72 : Phc S_71 = Phc S + 0 := (show Phc S_71 = Phc S_64 from Ph_rawI t_70 (by decide) eS_71).trans ph_65
      have ph_73 : Phs S_71 = Phs S + 0 := (show Phs S_71 = Phs S_64 from Ph_rawI t_70 (by decide) eS_71).trans ph_66
      clear ph_65
      clear ph_66
      have hK_74 : Kq S S_71 x := hK_67.sI eS_71
      have hg_75 : GX S_71 := by rw [eS_71]; exact GX_rawI hg_68 t_70 (by decide +kernel)
      have h_76 : pI S_71 705 x = i7_51 := tI_sIs eS_71
      refine lv_aload_n X.1 X.2.1 dX7_init_127 rfl (lv_at hl 5 rfl) ?_
      refine lv_iload X.1 X.2.1 dX7_init_128 (lv_at hl 2 rfl) ?_
      have t_77 : At S_71 x 187 := tAt_sI eS_71 t_70
      refine r_putI (v := i8_52) X hw t_77 rfl 6 706 tyX7 (by decide) rfl inn_X7_init_7 tyX7_ok nmX7 (by decide) (X.2.2.2.1 (.fieldLink RX7 56 "SilkMill$Skein" "slips" "I") (by decide +kernel)) rfl (Or.inr ⟨rfl, hin, rfl⟩) rfl rfl (Nat.le_of_ble_eq_true rfl) (st_706 _ _) dX7_init_130 (fun H locs hw => ?_)
      obtain ⟨S_78, eS_78⟩ : ∃ T, T = sI S_71 706 x (i8_52) := ⟨_, rfl⟩
      rw [← eS_78] at hw
      have ph_79 : Phc S_78 = Phc S + 0 := (show Phc S_78 = Phc S_71 from Ph_rawI t_77 (by decide) eS_78).trans ph_72
      have ph_80 : Phs S_78 = Phs S + 0 := (show Phs S_78 = Phs S_71 from Ph_rawI t_77 (by decide) eS_78).trans ph_73
      clear ph_72
      clear ph_73
      have hK_81 : Kq S S_78 x := hK_74.sI eS_78
      have hg_82 : GX S_78 := by rw [eS_78]; exact GX_rawI hg_75 t_77 (by decide +kernel)
      have h_83 : pI S_78 706 x = i8_52 := tI_sIs eS_78
      have t_84 : At S_78 x 187 := tAt_sI eS_78 t_77
      have nd_85 := nodup_of hw
      have t_86 : pR S_16 703 x = some s1 := tR_sI eS_16 h_14
      have t_87 : pR S_23 703 x = some s1 := tR_sI eS_23 t_86
      have t_88 : pR S_30 703 x = some s1 := tR_sI eS_30 t_87
      have t_89 : pR S_64 703 x = some s1 := tR_sI eS_64 t_88
      have t_90 : pR S_71 703 x = some s1 := tR_sI eS_71 t_89
      have t_91 : pR S_78 703 x = some s1 := tR_sI eS_78 t_90
      have t_92 : At S_64 s1 9 := tAt_sI eS_64 t_39
      have t_93 : At S_71 s1 9 := tAt_sI eS_71 t_92
      have t_94 : At S_78 s1 9 := tAt_sI eS_78 t_93
      obtain ⟨S_95, eS_95⟩ : ∃ T, T = sK S_78 x 7 := ⟨_, rfl⟩
      have hw := Wd_sK (k := 7) hw t_84 rfl; rw [← eS_95] at hw
      have hg9 : GX S_95 := by rw [eS_95]; exact GX_sK hg_82 t_84 (by decide +kernel) (mk_7 ⟨s1, (by rw [pR_sK]; exact t_91), At_sK t_84 t_94 (by decide)⟩)
      have ha9 : At S_95 x 7 := by rw [eS_95]; exact At_nK t_84
      have hk9 : Kq S S_95 x := hK_81.sK eS_95
      have hPhc9 : Phc S_95 = Phc S + 0 := by rw [show Phc S_95 = Ph fC 8 14400 S_95 from rfl, Ph_sK nd_85 t_84 (by decide) eS_95, ph_0 ha9 (by decide)]; show Phc S_78 + _ = _; omega
      have hPhs9 : Phs S_95 = Phs S + 0 := by rw [show Phs S_95 = Ph fS 15100 46000 S_95 from rfl, Ph_sK nd_85 t_84 (by decide) eS_95, ph_0 ha9 (by decide)]; show Phs S_78 + _ = _; omega
      rw [hQQ]
      exact ret_v X hw hr hlocks (Nat.le_of_ble_eq_true rfl) (Nat.le_of_ble_eq_true rfl) ⟨hk9, hg9, ha9, hPhc9, hPhs9⟩ dX7_init_133
    · have z_b_96 := trivial
      have k_97 : i9_53_z < v_58.toInt := z_nle rfl hz_i9_53 c_60
      refine lv_iload X.1 X.2.1 dX7_init_57 (lv_at hl 0 rfl) ?_
      refine lv_aload X.1 X.2.1 dX7_init_59 (lv_at hl 4 rfl) ?_
      refine lv_iload X.1 X.2.1 dX7_init_61 (lv_at hl 3 rfl) ?_
      refine r_iald X hw h_44 rfl (by rw [h_47]; exact z_ix hz_i9_53 (by omega) (by omega)) dX7_init_63 ?_
      refine lv_topi (fun v_98 ev_98 => ?_)
      have rg_99 := And.intro (z_lo v_98) (z_hi v_98)
      have ev_98 := ev_98.symm
      refine va_mmin X.1 X.2.1 (X.2.2.1.trans hl.1.symm) X.2.2.2.2.1 (X.2.2.2.1 (.methodLink RX7 37 Lib.Math.min.name) (by decide +kernel)) (X.2.2.2.1 (.static Lib.Math.min.name) (by decide +kernel)) (X.2.2.2.1 (.initialized "java/lang/Math") (by decide +kernel)) (X.2.2.2.1 (.code Lib.Math.min.name Lib.Math.min.code 2 (some .int)) (by decide +kernel)) (Nat.le_of_ble_eq_true rfl) (Nat.le_of_ble_eq_true rfl) (Nat.le_of_ble_eq_true rfl) (Nat.le_of_ble_eq_true rfl) dX7_init_64 ?_
      refine lv_topi (fun v_100 ev_100 => ?_)
      have z_101 := z_min ev_100 hz_i6_50 rfl
      refine lv_istore (lv' := [(6, .int (v_100)), (7, .int (i7_51)), (8, .int (i8_52)), (9, .int (i9_53)), (5, .ref q_42), (0, .ref x), (1, .ref s1), (2, .int (a1)), (3, .int (a2)), (4, .int (a3))]) X.1 X.2.1 dX7_init_67 hl (by decide) rfl (fun ls hl => ?_)
      refine lv_iload X.1 X.2.1 dX7_init_69 (lv_at hl 1 rfl) ?_
      refine lv_aload X.1 X.2.1 dX7_init_71 (lv_at hl 4 rfl) ?_
      refine lv_iload X.1 X.2.1 dX7_init_73 (lv_at hl 3 rfl) ?_
      refine r_iald X hw h_44 rfl (by rw [h_47]; exact z_ix hz_i9_53 (by omega) (by omega)) dX7_init_75 ?_
      rw [ev_98]
      refine va_mmax X.1 X.2.1 (X.2.2.1.trans hl.1.symm) X.2.2.2.2.1 (X.2.2.2.1 (.methodLink RX7 43 Lib.Math.max.name) (by decide +kernel)) (X.2.2.2.1 (.static Lib.Math.max.name) (by decide +kernel)) (X.2.2.2.1 (.initialized "java/lang/Math") (by decide +kernel)) (X.2.2.2.1 (.code Lib.Math.max.name Lib.Math.max.code 2 (some .int)) (by decide +kernel)) (Nat.le_of_ble_eq_true rfl) (Nat.le_of_ble_eq_true rfl) (Nat.le_of_ble_eq_true rfl) (Nat.le_of_ble_eq_true rfl) dX7_init_76 ?_
      refine lv_topi (fun v_102 ev_102 => ?_)
      have z_103 := z_max ev_102 hz_i7_51 rfl
      refine lv_istore (lv' := [(7, .int (v_102)), (6, .int (v_100)), (8, .int (i8_52)), (9, .int (i9_53)), (5, .ref q_42), (0, .ref x), (1, .ref s1), (2, .int (a1)), (3, .int (a2)), (4, .int (a3))]) X.1 X.2.1 dX7_init_79 hl (by decide) rfl (fun ls hl => ?_)
      refine lv_iload X.1 X.2.1 dX7_init_81 (lv_at hl 3 rfl) ?_
      refine lv_if_le (tgt := 109) X.1 X.2.1 dX7_init_83 (by decide) (fun c_104 => ?_) (fun c_104 => ?_)
      · have z_b_105 := trivial
        have k_106 : i9_53_z ≤ 0 := z_le hz_i9_53 ti_0 c_104
        obtain ⟨x_107, ex_107⟩ : ∃ y : Int32, y = i9_53 + 1 := ⟨_, rfl⟩
        have z_108 : x_107.toInt = i9_53_z + 1 := z_add ex_107 hz_i9_53 ti_1 (by omega) (by omega)
        refine lv_iinc (v := x_107) (lv' := [(9, .int (x_107)), (7, .int (v_102)), (6, .int (v_100)), (8, .int (i8_52)), (5, .ref q_42), (0, .ref x), (1, .ref s1), (2, .int (a1)), (3, .int (a2)), (4, .int (a3))]) X.1 X.2.1 dX7_init_109 hl (k := 3) rfl (by rw [ex_107]; rfl) (by decide) rfl (fun ls hl => ?_)
        refine lv_goto (tgt := 49) X.1 X.2.1 dX7_init_112 (by decide) ?_
        exact ih _ (by omega) _ _ _ (v_100) (v_100.toInt) (v_102) (v_102.toInt) (i8_52) (i8_52_z) (x_107) (x_107.toInt) rfl hw rfl rfl hz_i8_52 rfl (by omega) (lv_sub hl [2, 1, 3, 0, 4, 5, 6, 7, 8, 9] rfl)
      · have z_b_109 := trivial
        have k_110 : i9_53_z > 0 := z_nle hz_i9_53 ti_0 c_104
        refine lv_aload X.1 X.2.1 dX7_init_86 (lv_at hl 4 rfl) ?_
        refine lv_iload X.1 X.2.1 dX7_init_88 (lv_at hl 3 rfl) ?_
        refine r_iald X hw h_44 rfl (by rw [h_47]; exact z_ix hz_i9_53 (by omega) (by omega)) dX7_init_90 ?_
        rw [ev_98]
        refine lv_aload X.1 X.2.1 dX7_init_91 (lv_at hl 4 rfl) ?_
        refine lv_iload X.1 X.2.1 dX7_init_93 (lv_at hl 3 rfl) ?_
        refine lv_iconst (v := 1) X.1 X.2.1 dX7_init_95 (by decide) ?_
        refine lv_isub X.1 X.2.1 dX7_init_96 ?_
        refine lv_topi (fun v_111 ev_111 => ?_)
        have z_112 : v_111.toInt = i9_53_z - 1 := z_sub ev_111 hz_i9_53 ti_1 (by omega) (by omega)
        refine r_iald X hw h_44 rfl (by rw [h_47]; exact z_ix rfl (by omega) (by omega)) dX7_init_97 ?_
        refine lv_topi (fun v_113 ev_113 => ?_)
        have rg_114 := And.intro (z_lo v_113) (z_hi v_113)
        have ev_113 := ev_113.symm
        refine lv_isub X.1 X.2.1 dX7_init_98 ?_
        refine lv_topi (fun v_115 ev_115 => ?_)
        have rg_116 := And.intro (z_lo v_115) (z_hi v_115)
        refine va_mabs X.1 X.2.1 (X.2.2.1.trans hl.1.symm) X.2.2.2.2.1 (X.2.2.2.1 (.methodLink RX7 46 Lib.Math.abs.name) (by decide +kernel)) (X.2.2.2.1 (.static Lib.Math.abs.name) (by decide +kernel)) (X.2.2.2.1 (.initialized "java/lang/Math") (by decide +kernel)) (X.2.2.2.1 (.code Lib.Math.abs.name Lib.Math.abs.code 1 (some .int)) (by decide +kernel)) (Nat.le_of_ble_eq_true rfl) (Nat.le_of_ble_eq_true rfl) (Nat.le_of_ble_eq_true rfl) (Nat.le_of_ble_eq_true rfl) dX7_init_99 ?_
        refine lv_topi (fun v_117 ev_117 => ?_)
        have rg_119 := And.intro (z_lo v_117) (z_hi v_117)
        refine lv_iconst (v := 4) X.1 X.2.1 dX7_init_102 (by decide) ?_
        refine lv_icmp_le (tgt := 109) X.1 X.2.1 dX7_init_103 (by decide) (fun c_120 => ?_) (fun c_120 => ?_)
        · have z_b_121 := trivial
          have k_122 : v_117.toInt ≤ 4 := z_le rfl ti_4 c_120
          obtain ⟨x_123, ex_123⟩ : ∃ y : Int32, y = i9_53 + 1 := ⟨_, rfl⟩
          have z_124 : x_123.toInt = i9_53_z + 1 := z_add ex_123 hz_i9_53 ti_1 (by omega) (by omega)
          refine lv_iinc (v := x_123) (lv' := [(9, .int (x_123)), (7, .int (v_102)), (6, .int (v_100)), (8, .int (i8_52)), (5, .ref q_42), (0, .ref x), (1, .ref s1), (2, .int (a1)), (3, .int (a2)), (4, .int (a3))]) X.1 X.2.1 dX7_init_109 hl (k := 3) rfl (by rw [ex_123]; rfl) (by decide) rfl (fun ls hl => ?_)
          refine lv_goto (tgt := 49) X.1 X.2.1 dX7_init_112 (by decide) ?_
          exact ih _ (by omega) _ _ _ (v_100) (v_100.toInt) (v_102) (v_102.toInt) (i8_52) (i8_52_z) (x_123) (x_123.toInt) rfl hw rfl rfl hz_i8_52 rfl (by omega) (lv_sub hl [2, 1, 3, 0, 4, 5, 6, 7, 8, 9] rfl)
        · have z_b_125 := trivial
          have k_126 : v_117.toInt > 4 := z_nle rfl ti_4 c_120
          obtain ⟨x_127, ex_127⟩ : ∃ y : Int32, y = i8_52 + 1 := ⟨_, rfl⟩
          have rg_128 := And.intro (z_lo x_127) (z_hi x_127)
          refine lv_iinc (v := x_127) (lv' := [(8, .int (x_127)), (7, .int (v_102)), (6, .int (v_100)), (9, .int (i9_53)), (5, .ref q_42), (0, .ref x), (1, .ref s1), (2, .int (a1)), (3, .int (a2)), (4, .int (a3))]) X.1 X.2.1 dX7_init_106 hl (k := 2) rfl (by rw [ex_127]; rfl) (by decide) rfl (fun ls hl => ?_)
          obtain ⟨x_129, ex_129⟩ : ∃ y : Int32, y = i9_53 + 1 := ⟨_, rfl⟩
          have z_130 : x_129.toInt = i9_53_z + 1 := z_add ex_129 hz_i9_53 ti_1 (by omega) (by omega)
          refine lv_iinc (v := x_129) (lv' := [(9, .int (x_129)), (8, .int (x_127)), (7, .int (v_102)), (6, .int (v_100)), (5, .ref q_42), (0, .ref x), (1, .ref s1), (2, .int (a1)), (3, .int (a2)), (4, .int (a3))]) X.1 X.2.1 dX7_init_109 hl (k := 3) rfl (by rw [ex_129]; rfl) (by decide) rfl (fun ls hl => ?_)
          refine lv_goto (tgt := 49) X.1 X.2.1 dX7_init_112 (by decide) ?_
          exact ih _ (by omega) _ _ _ (v_100) (v_100.toInt) (v_102) (v_102.toInt) (x_127) (x_127.toInt) (x_129) (x_129.toInt) rfl hw rfl rfl rfl rfl (by omega) (lv_sub hl [3, 2, 1, 0, 4, 5, 6, 7, 8, 9] rfl)
  exact L_49 _ _ _ _ (2147483647) (2147483647) (0) (0) (0) (0) (0) (0) rfl hw ti_2147483647 ti_0 ti_0 ti_0 (by omega) (lv_sub hl [3, 2, 1, 0, 4, 5, 6, 7, 8, 9] rfl)
