set_option maxRecDepth 20000 in
theorem ggX12_run_X12_isPot : GoodIn wsX12_run wsX12_isPot := goodIn_h _ [5, 0, 0, 0, 0, 0, 111, 0, 0, 0, 0, 0, 0, 0, 0, 0, 0, 0, 0, 0, 0, 0, 0, 0, 0, 0, 0, 0, 0, 0, 0, 0, 0, 0, 0, 0, 0, 0, 0, 0, 0, 0, 0, 0, 0, 0, 0, 0, 0, 0, 0, 0, 0, 0, 0, 0, 0, 0, 0, 0, 0, 0, 0, 0, 0, 0, 0, 0, 0, 0, 0, 0] [1, 2, 3, 4, 0, 5, 6, 7, 8, 9, 10, 11, 12, 13, 14, 15, 16, 17, 18, 19, 20, 21, 22, 23, 24, 25, 26, 27, 28, 29, 30, 31, 32, 33, 34, 35, 36, 37, 38, 39, 40, 41, 42, 43, 44, 45, 46, 47, 48, 49, 50, 51, 52, 53, 54, 55, 56, 57, 58, 59, 60, 61, 62, 63, 64, 65, 66, 67, 68, 69, 70, 71] (by decide +kernel) (by decide +kernel)
set_option maxRecDepth 20000 in
theorem gX12_run_X12_isPot : GoodIn wsX12_run (wsV RX12 200 RX12 yX12_isPot wsX12_isPot) := goodIn_app (goodIn_of _ (by decide +kernel)) ggX12_run_X12_isPot
set_option maxRecDepth 20000 in
theorem ggX12_run_X12_within : GoodIn wsX12_run wsX12_within := goodIn_h _ [10] [0] (by decide +kernel) (by decide +kernel)
set_option maxRecDepth 20000 in
theorem gX12_run_X12_within : GoodIn wsX12_run (va_wsS RX12 168 yX12_within wsX12_within) := goodIn_app (goodIn_of _ (by decide +kernel)) ggX12_run_X12_within
set_option maxRecDepth 20000 in
theorem ggX12_run_X12_tick : GoodIn wsX12_run wsX12_tick := goodIn_h _ [5, 8, 0, 0, 0, 0, 0, 0, 0, 0, 0, 0, 0, 0, 0, 0, 0, 0, 0, 0, 0, 0, 0, 0, 0, 0, 0, 0, 0, 0, 0, 0, 0, 0, 0, 0, 0, 0, 0, 0, 0, 0, 0, 0, 0, 0, 0, 0, 0, 0, 0, 0, 0, 0, 0, 0, 0, 0, 0, 0, 0, 0, 0, 0, 0, 0, 0, 0, 0, 0, 0, 0, 0, 0, 0, 0, 0, 0, 0, 0, 0, 0, 0, 0, 0, 0, 0, 0, 0, 0, 0, 0, 0, 0, 0, 0, 0, 0, 0, 0, 0, 0, 0, 0, 0, 0, 0, 0, 0, 0, 0, 0, 0, 0, 0, 0, 0, 0, 0, 0, 0, 0, 0, 0, 0, 0, 0, 0, 0, 0, 0, 0, 0, 0, 0, 0, 0, 0, 0, 0, 0, 0, 0, 0, 0, 0, 0, 0, 0, 0, 0, 0, 0, 0, 0, 0, 0, 0, 0, 0, 0, 0, 0, 0, 0, 0, 0, 0, 0, 0, 0, 0, 0, 0, 0] [1, 2, 3, 4, 5, 6, 7, 8, 9, 10, 11, 12, 13, 14, 15, 16, 0, 17, 18, 19, 20, 21, 22, 23, 24, 25, 26, 27, 28, 29, 30, 31, 32, 33, 34, 35, 36, 37, 38, 39, 40, 41, 42, 43, 44, 45, 46, 47, 48, 49, 50, 51, 52, 53, 54, 55, 56, 57, 58, 59, 60, 61, 62, 63, 64, 65, 66, 67, 68, 69, 70, 71, 72, 73, 74, 75, 76, 77, 78, 79, 80, 81, 82, 83, 84, 85, 86, 87, 88, 89, 90, 91, 92, 93, 94, 95, 96, 97, 98, 99, 100, 101, 102, 103, 104, 105, 106, 107, 108, 109, 110, 111, 112, 113, 114, 115, 116, 117, 118, 119, 120, 121, 122, 123, 124, 125, 126, 127, 128, 129, 130, 131, 132, 133, 134, 135, 136, 137, 138, 139, 140, 141, 142, 143, 144, 145, 146, 147, 148, 149, 150, 151, 152, 153, 154, 155, 156, 157, 158, 159, 160, 161, 162, 163, 164, 165, 166, 167, 168, 169, 170, 171, 172, 173, 174] (by decide +kernel) (by decide +kernel)
set_option maxRecDepth 20000 in
theorem gX12_run_X12_tick : GoodIn wsX12_run (wsV RX12 333 RX12 yX12_tick wsX12_tick) := goodIn_app (goodIn_of _ (by decide +kernel)) ggX12_run_X12_tick
theorem dX12_run_0 : decode cX12_run 0 = .ok (.aload_n 0, 1) := by decide +kernel
theorem dX12_run_1 : decode cX12_run 1 = .ok (.iconst 0, 1) := by decide +kernel
theorem dX12_run_2 : decode cX12_run 2 = .ok (.putfield 161, 3) := by decide +kernel
theorem dX12_run_5 : decode cX12_run 5 = .ok (.aload_n 0, 1) := by decide +kernel
theorem dX12_run_6 : decode cX12_run 6 = .ok (.iload_n 1, 1) := by decide +kernel
theorem dX12_run_7 : decode cX12_run 7 = .ok (.invokevirtual 200, 3) := by decide +kernel
theorem dX12_run_10 : decode cX12_run 10 = .ok (.ifCond .eq 14, 3) := by decide +kernel
theorem dX12_run_13 : decode cX12_run 13 = .ok (.iload_n 2, 1) := by decide +kernel
theorem dX12_run_14 : decode cX12_run 14 = .ok (.iconst 0, 1) := by decide +kernel
theorem dX12_run_15 : decode cX12_run 15 = .ok (.sipush 300, 3) := by decide +kernel
theorem dX12_run_18 : decode cX12_run 18 = .ok (.invokestatic 168, 3) := by decide +kernel
theorem dX12_run_21 : decode cX12_run 21 = .ok (.ifCond .ne 5, 3) := by decide +kernel
theorem dX12_run_24 : decode cX12_run 24 = .ok (.iconst (-1), 1) := by decide +kernel
theorem dX12_run_25 : decode cX12_run 25 = .ok (.ireturn, 1) := by decide +kernel
theorem dX12_run_26 : decode cX12_run 26 = .ok (.iconst 0, 1) := by decide +kernel
theorem dX12_run_27 : decode cX12_run 27 = .ok (.istore_n 3, 1) := by decide +kernel
theorem dX12_run_28 : decode cX12_run 28 = .ok (.iconst 0, 1) := by decide +kernel
theorem dX12_run_29 : decode cX12_run 29 = .ok (.istore 4, 2) := by decide +kernel
theorem dX12_run_31 : decode cX12_run 31 = .ok (.iload 4, 2) := by decide +kernel
theorem dX12_run_33 : decode cX12_run 33 = .ok (.iload_n 2, 1) := by decide +kernel
theorem dX12_run_34 : decode cX12_run 34 = .ok (.if_icmp .ge 25, 3) := by decide +kernel
theorem dX12_run_37 : decode cX12_run 37 = .ok (.iload_n 3, 1) := by decide +kernel
theorem dX12_run_38 : decode cX12_run 38 = .ok (.aload_n 0, 1) := by decide +kernel
theorem dX12_run_39 : decode cX12_run 39 = .ok (.iload_n 1, 1) := by decide +kernel
theorem dX12_run_40 : decode cX12_run 40 = .ok (.invokevirtual 333, 3) := by decide +kernel
theorem dX12_run_43 : decode cX12_run 43 = .ok (.ifCond .eq 7, 3) := by decide +kernel
theorem dX12_run_46 : decode cX12_run 46 = .ok (.iconst 1, 1) := by decide +kernel
theorem dX12_run_47 : decode cX12_run 47 = .ok (.goto 4, 3) := by decide +kernel
theorem dX12_run_50 : decode cX12_run 50 = .ok (.iconst 0, 1) := by decide +kernel
theorem dX12_run_51 : decode cX12_run 51 = .ok (.iadd, 1) := by decide +kernel
theorem dX12_run_52 : decode cX12_run 52 = .ok (.istore_n 3, 1) := by decide +kernel
theorem dX12_run_53 : decode cX12_run 53 = .ok (.iinc 4 1, 3) := by decide +kernel
theorem dX12_run_56 : decode cX12_run 56 = .ok (.goto (-25), 3) := by decide +kernel
theorem dX12_run_59 : decode cX12_run 59 = .ok (.iload_n 3, 1) := by decide +kernel
theorem dX12_run_60 : decode cX12_run 60 = .ok (.ireturn, 1) := by decide +kernel
theorem inn_X12_run_12 : ∀ w ∈ u_ws RX12 TX12 66, w ∈ wsX12_run := fun w h => List.mem_cons_of_mem _ (List.mem_append_right _ h)
set_option maxHeartbeats 4000000 in
set_option maxRecDepth 100000 in
theorem k_X12_run (l : Launch) (G : va_G) (cy : Nat → ClassId) (κ : Nat → Nat) (S : PS) (sz : Nat) (x : Nat) (a1 : Int32) (a1_z : Int) (a2 : Int32) (a2_z : Int) (hG : GX S) (ha_x : At S x 12) (hz_a1 : a1.toInt = a1_z) (hz_a2 : a2.toInt = a2_z) (hp_0 : MI S x) (hp_1 : GR S x) : Ci l yX12_run wsX12_run ({ frames := 9, cells := 0, slots := 0, locals := 432 }) G cy κ S sz [.ref x, .int (a1), .int (a2)] (fun (r : Int32) (S9 : PS) => Ok MTK S S9 ∧ (MI S9 x ∧ GR S9 x)) := by
  refine ent_m (cc := cX12_run) (maxL := 5) (ret := (some .int)) (by decide) rfl (Nat.le_of_ble_eq_true rfl) ?_
  intro p e s m below meth c ls X hr hlocks hin hw hl hsz
  subst hsz
  have X : Cx p c cX12_run 5 s [.ref x, .int (a1), .int (a2)].toArray wsX12_run RX12 m G cy κ (AS S s.heap.size) := X
  have hl : lv_has ls 5 [(0, .ref x), (1, .int (a1)), (2, .int (a2))] := hl
  have rg_a1 : (-2147483648) ≤ a1_z ∧ a1_z ≤ 2147483647 := by rw [← hz_a1]; exact ⟨z_lo _, z_hi _⟩
  have rg_a2 : (-2147483648) ≤ a2_z ∧ a2_z ≤ 2147483647 := by rw [← hz_a2]; exact ⟨z_lo _, z_hi _⟩
  have hO : Ok MTK S S := Ok.rf hG
  generalize hQQ : MQ below _ _ _ _ _ _ = QQ
  replace hQQ := hQQ.symm
  refine lv_aload_n X.1 X.2.1 dX12_run_0 rfl (lv_at hl 0 rfl) ?_
  refine lv_iconst (v := 0) X.1 X.2.1 dX12_run_1 (by decide) ?_
  refine r_putI (v := 0) X hw ha_x rfl 0 1200 tyX12 (by decide) rfl inn_X12_run_12 tyX12_ok nmX12 (by decide) (X.2.2.2.1 (.fieldLink RX12 161 "SilkMillModel" "thrown" "I") (by decide +kernel)) rfl (Or.inl rfl) rfl rfl (Nat.le_of_ble_eq_true rfl) (st_1200 _ _) dX12_run_2 (fun H locs hw => ?_)
  obtain ⟨S_1, eS_1⟩ : ∃ T, T = sI S 1200 x (0) := ⟨_, rfl⟩
  rw [← eS_1] at hw
  have hO_2 : Ok MTK S S_1 := hO.sI eS_1 (by decide +kernel) (uI_12_1200 hO.1 ha_x)
  have h_3 : pI S_1 1200 x = 0 := tI_sIs eS_1
  refine lv_aload_n X.1 X.2.1 dX12_run_5 rfl (lv_at hl 0 rfl) ?_
  refine lv_iload_n X.1 X.2.1 dX12_run_6 rfl (lv_at hl 1 rfl) ?_
  have t_4 : At S_1 x 12 := tAt_sI eS_1 ha_x
  refine k_i (rm := { frames := 2, cells := 0, slots := 0, locals := 96 }) (av := [.ref x, .int (a1)]) X hw (va_runV (As := [.int (a1)]) (rest := []) (cfix X) (k_X12_isPot l G cy κ S_1 _ x (a1) (a1_z) hO_2.1 t_4 hz_a1) (cwV 1 X.2.2.2.1 gX12_run_X12_isPot rfl rfl rfl (by decide +kernel) ⟨Nat.le_of_ble_eq_true rfl, Nat.le_of_ble_eq_true rfl⟩) (pre_V X hw _ t_4 rfl (by decide) rfl) rfl rfl hl.1 rfl (lv_room (Nat.le_of_ble_eq_true rfl)) dX12_run_7 ⟨Nat.le_of_ble_eq_true rfl, Nat.le_of_ble_eq_true rfl⟩) 0 0 (Nat.le_of_ble_eq_true rfl) (Nat.le_of_ble_eq_true rfl) (fun rr_5 S_6 H locs hp hw hfr hnw => ?_)
  obtain ⟨e2, hp⟩ := hp
  subst e2
  rcases hp with ⟨f_7, er_8⟩ | ⟨f_7, er_8⟩ <;> subst er_8
  · have z_b_9 := trivial
    refine lv_if_eq (tgt := 24) X.1 X.2.1 dX12_run_10 (by decide) (fun c_10 => absurd c_10 (by decide)) (fun c_10 => ?_)
    refine lv_iload_n X.1 X.2.1 dX12_run_13 rfl (lv_at hl 2 rfl) ?_
    refine lv_iconst (v := 0) X.1 X.2.1 dX12_run_14 (by decide) ?_
    refine lv_sipush (v := 300) X.1 X.2.1 dX12_run_15 (by decide) ?_
    refine k_i (rm := { frames := 1, cells := 0, slots := 0, locals := 48 }) (av := [.int (a2), .int 0, .int 300]) X hw (va_runS (As := [.int (a2), .int 0, .int 300]) (rest := []) (cfix X) (k_X12_within l G cy κ S_1 _ (a2) (a2_z) (0) (0) (300) (300) hO_2.1 hz_a2 ti_0 ti_300) (cwS 3 X.2.2.2.1 gX12_run_X12_within rfl rfl rfl (by decide +kernel) ⟨Nat.le_of_ble_eq_true rfl, Nat.le_of_ble_eq_true rfl⟩) (pre_S X hw _) rfl rfl hl.1 rfl (lv_room (Nat.le_of_ble_eq_true rfl)) dX12_run_18 ⟨Nat.le_of_ble_eq_true rfl, Nat.le_of_ble_eq_true rfl⟩) 0 0 (Nat.le_of_ble_eq_true rfl) (Nat.le_of_ble_eq_true rfl) (fun rr_11 S_12 H locs hp hw hfr hnw => ?_)
    obtain ⟨e2, hp⟩ := hp
    subst e2
    rcases hp with ⟨f_13, er_14⟩ | ⟨f_13, er_14⟩ <;> subst er_14
    · have z_b_15 := trivial
      refine lv_if_ne (tgt := 26) X.1 X.2.1 dX12_run_21 (by decide) (fun c_16 => ?_) (fun c_16 => absurd c_16 (by decide))
      refine lv_iconst (v := 0) X.1 X.2.1 dX12_run_26 (by decide) ?_
      refine lv_istore_n (lv' := [(3, .int 0), (0, .ref x), (1, .int (a1)), (2, .int (a2))]) X.1 X.2.1 dX12_run_27 rfl hl (by decide) rfl (fun ls hl => ?_)
      refine lv_iconst (v := 0) X.1 X.2.1 dX12_run_28 (by decide) ?_
      refine lv_istore (lv' := [(4, .int 0), (3, .int 0), (0, .ref x), (1, .int (a1)), (2, .int (a2))]) X.1 X.2.1 dX12_run_29 hl (by decide) rfl (fun ls hl => ?_)
      have L_17 : ∀ (n : Nat) (T_20 : PS) (H : Heap) (locs : List Loc) (ls : Array Slot) (i3_18 : Int32) (i3_18_z : Int) (i4_19 : Int32) (i4_19_z : Int), ((300 - i4_19_z).toNat = n) → (Wd G cy (AS S s.heap.size) s.heap T_20 H locs) → (i3_18.toInt = i3_18_z) → (i4_19.toInt = i4_19_z) → (0 ≤ i4_19_z ∧ i4_19_z ≤ 300) → (At T_20 x 12) → (Ok MTK S T_20) → (MIe T_20 x (-1)) → (GR T_20 x) → (lv_has ls 5 [(3, .int (i3_18)), (4, .int (i4_19)), (0, .ref x), (1, .int (a1)), (2, .int (a2))]) → W p l e ({ frames := 9, cells := 0, slots := 0, locals := 432 }) s m [.ref x, .int (a1), .int (a2)].toArray below meth c H locs 0 0 QQ (F0 m 31 ls []) := by
        intro n
        induction n using Nat.strongRecOn with
        | ind n ih_L_17 =>
        intro T_20 H locs ls i3_18 i3_18_z i4_19 i4_19_z hn hw hz_i3_18 hz_i4_19 hr_i4_19 ha_x_L_21 hO_T_20 mk_22 iv_23 hl
        have rg_24 : (-2147483648) ≤ i3_18_z ∧ i3_18_z ≤ 2147483647 := by rw [← hz_i3_18]; exact ⟨z_lo _, z_hi _⟩
        have rg_25 : (-2147483648) ≤ i4_19_z ∧ i4_19_z ≤ 2147483647 := by rw [← hz_i4_19]; exact ⟨z_lo _, z_hi _⟩
        refine lv_iload X.1 X.2.1 dX12_run_31 (lv_at hl 1 rfl) ?_
        refine lv_iload_n X.1 X.2.1 dX12_run_33 rfl (lv_at hl 4 rfl) ?_
        refine lv_icmp_ge (tgt := 59) X.1 X.2.1 dX12_run_34 (by decide) (fun c_26 => ?_) (fun c_26 => ?_)
        · have z_b_27 := trivial
          have k_28 : i4_19_z ≥ a2_z := z_le hz_a2 hz_i4_19 c_26
          refine lv_iload_n X.1 X.2.1 dX12_run_59 rfl (lv_at hl 0 rfl) ?_
          rw [hQQ]
          exact ret_i X hw hr hlocks (Nat.le_of_ble_eq_true rfl) (Nat.le_of_ble_eq_true rfl) ⟨hO_T_20, ⟨mk_22, iv_23⟩⟩ dX12_run_60
        · have z_b_29 := trivial
          have k_30 : i4_19_z < a2_z := z_nle hz_a2 hz_i4_19 c_26
          refine lv_iload_n X.1 X.2.1 dX12_run_37 rfl (lv_at hl 0 rfl) ?_
          refine lv_aload_n X.1 X.2.1 dX12_run_38 rfl (lv_at hl 2 rfl) ?_
          refine lv_iload_n X.1 X.2.1 dX12_run_39 rfl (lv_at hl 3 rfl) ?_
          refine k_i (rm := { frames := 8, cells := 0, slots := 0, locals := 384 }) (av := [.ref x, .int (a1)]) X hw (va_runV (As := [.int (a1)]) (rest := [.int (i3_18)]) (cfix X) (k_X12_tick l G cy κ T_20 _ x (a1) (a1_z) hO_T_20.1 ha_x_L_21 hz_a1 (by first | assumption | omega) (by first | assumption | omega) mk_22 iv_23) (cwV 1 X.2.2.2.1 gX12_run_X12_tick rfl rfl rfl (by decide +kernel) ⟨Nat.le_of_ble_eq_true rfl, Nat.le_of_ble_eq_true rfl⟩) (pre_V X hw _ ha_x_L_21 rfl (by decide) rfl) rfl rfl hl.1 rfl (lv_room (Nat.le_of_ble_eq_true rfl)) dX12_run_40 ⟨Nat.le_of_ble_eq_true rfl, Nat.le_of_ble_eq_true rfl⟩) 0 0 (Nat.le_of_ble_eq_true rfl) (Nat.le_of_ble_eq_true rfl) (fun rr_31 S_32 H locs hp hw hfr hnw => ?_)
          obtain ⟨hk_33, hp⟩ := hp
          have hO_34 : Ok MTK S S_32 := hO_T_20.call hk_33 (by decide +kernel)
          rcases hp with ⟨f_35, er_36⟩ | ⟨f_35, er_36⟩ <;> subst er_36
          · have z_b_37 := trivial
            obtain ⟨mi_38, gr_39⟩ := f_35
            refine lv_if_eq (tgt := 50) X.1 X.2.1 dX12_run_43 (by decide) (fun c_40 => absurd c_40 (by decide)) (fun c_40 => ?_)
            refine lv_iconst (v := 1) X.1 X.2.1 dX12_run_46 (by decide) ?_
            refine lv_goto (tgt := 51) X.1 X.2.1 dX12_run_47 (by decide) ?_
            refine lv_iadd X.1 X.2.1 dX12_run_51 ?_
            refine lv_topi (fun v_41 ev_41 => ?_)
            have rg_42 := And.intro (z_lo v_41) (z_hi v_41)
            refine lv_istore_n (lv' := [(3, .int (v_41)), (4, .int (i4_19)), (0, .ref x), (1, .int (a1)), (2, .int (a2))]) X.1 X.2.1 dX12_run_52 rfl hl (by decide) rfl (fun ls hl => ?_)
            obtain ⟨x_43, ex_43⟩ : ∃ y : Int32, y = i4_19 + 1 := ⟨_, rfl⟩
            have z_44 : x_43.toInt = i4_19_z + 1 := z_add ex_43 hz_i4_19 ti_1 (by omega) (by omega)
            refine lv_iinc (v := x_43) (lv' := [(4, .int (x_43)), (3, .int (v_41)), (0, .ref x), (1, .int (a1)), (2, .int (a2))]) X.1 X.2.1 dX12_run_53 hl (k := 1) rfl (by rw [ex_43]; rfl) (by decide) rfl (fun ls hl => ?_)
            refine lv_goto (tgt := 31) X.1 X.2.1 dX12_run_56 (by decide) ?_
            have t_45 : At S_32 x 12 := hk_33.fr.at ha_x_L_21
            exact ih_L_17 _ (by omega) _ _ _ _ (v_41) (v_41.toInt) (x_43) (x_43.toInt) rfl hw rfl rfl (by omega) t_45 hO_34 mi_38 gr_39 (lv_sub hl [1, 0, 2, 3, 4] rfl)
          · have z_b_46 := trivial
            obtain ⟨mi_47, gr_48⟩ := f_35
            refine lv_if_eq (tgt := 50) X.1 X.2.1 dX12_run_43 (by decide) (fun c_49 => ?_) (fun c_49 => absurd c_49 (by decide))
            refine lv_iconst (v := 0) X.1 X.2.1 dX12_run_50 (by decide) ?_
            refine lv_iadd X.1 X.2.1 dX12_run_51 ?_
            refine lv_topi (fun v_50 ev_50 => ?_)
            have z_51 : v_50.toInt = i3_18_z + 0 := z_add ev_50 hz_i3_18 ti_0 (by omega) (by omega)
            refine lv_istore_n (lv' := [(3, .int (v_50)), (4, .int (i4_19)), (0, .ref x), (1, .int (a1)), (2, .int (a2))]) X.1 X.2.1 dX12_run_52 rfl hl (by decide) rfl (fun ls hl => ?_)
            obtain ⟨x_52, ex_52⟩ : ∃ y : Int32, y = i4_19 + 1 := ⟨_, rfl⟩
            have z_53 : x_52.toInt = i4_19_z + 1 := z_add ex_52 hz_i4_19 ti_1 (by omega) (by omega)
            refine lv_iinc (v := x_52) (lv' := [(4, .int (x_52)), (3, .int (v_50)), (0, .ref x), (1, .int (a1)), (2, .int (a2))]) X.1 X.2.1 dX12_run_53 hl (k := 1) rfl (by rw [ex_52]; rfl) (by decide) rfl (fun ls hl => ?_)
            refine lv_goto (tgt := 31) X.1 X.2.1 dX12_run_56 (by decide) ?_
            have t_54 : At S_32 x 12 := hk_33.fr.at ha_x_L_21
            exact ih_L_17 _ (by omega) _ _ _ _ (v_50) ((i3_18_z + 0)) (x_52) (x_52.toInt) rfl hw z_51 rfl (by omega) t_54 hO_34 mi_47 gr_48 (lv_sub hl [1, 0, 2, 3, 4] rfl)
      have mi_55 : MIe S_1 x (-1) := MIe_sI hp_0 hO.1 ha_x eS_1 (by decide +kernel)
      have zc_56 : zA S_1 x 1237 = zA S x 1237 := zA_sI eS_1
      exact L_17 _ _ _ _ _ (0) (0) (0) (0) rfl hw ti_0 ti_0 (by omega) t_4 hO_2 mi_55 (GR_eq zc_56 hp_1) (lv_sub hl [1, 0, 2, 3, 4] rfl)
    · have z_b_57 := trivial
      refine lv_if_ne (tgt := 26) X.1 X.2.1 dX12_run_21 (by decide) (fun c_58 => absurd c_58 (by decide)) (fun c_58 => ?_)
      refine lv_iconst (v := (-1)) X.1 X.2.1 dX12_run_24 (by decide) ?_
      have mi_59 : MIe S_1 x (-1) := MIe_sI hp_0 hO.1 ha_x eS_1 (by decide +kernel)
      have zc_60 : zA S_1 x 1237 = zA S x 1237 := zA_sI eS_1
      rw [hQQ]
      exact ret_i X hw hr hlocks (Nat.le_of_ble_eq_true rfl) (Nat.le_of_ble_eq_true rfl) ⟨hO_2, ⟨mi_59, (GR_eq zc_60 hp_1)⟩⟩ dX12_run_25
  · have z_b_61 := trivial
    refine lv_if_eq (tgt := 24) X.1 X.2.1 dX12_run_10 (by decide) (fun c_62 => ?_) (fun c_62 => absurd c_62 (by decide))
    refine lv_iconst (v := (-1)) X.1 X.2.1 dX12_run_24 (by decide) ?_
    have mi_63 : MIe S_1 x (-1) := MIe_sI hp_0 hO.1 ha_x eS_1 (by decide +kernel)
    have zc_64 : zA S_1 x 1237 = zA S x 1237 := zA_sI eS_1
    rw [hQQ]
    exact ret_i X hw hr hlocks (Nat.le_of_ble_eq_true rfl) (Nat.le_of_ble_eq_true rfl) ⟨hO_2, ⟨mi_63, (GR_eq zc_64 hp_1)⟩⟩ dX12_run_25
