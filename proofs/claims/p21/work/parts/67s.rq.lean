/-! ===== the reference: cocoons come, a cut, a new pot, a target ===== -/
/-- the numbers of the cocoons of lot l from f on, n of them -/
def nuL (l f : Int) (n : Nat) : List Nat := (List.range n).map (fun j : Nat => (60 * l + (f + (j : Int))).toNat)
theorem nuL_s {l f : Int} {n : Nat} : nuL l f (n + 1) = nuL l f n ++ [(60 * l + (f + (n : Int))).toNat] := by
  unfold nuL
  rw [List.range_succ, List.map_append]
  rfl
theorem recF_y {A : Pt} {c : Nat} (h : (qb A).length < 600) : recF A c = wb (wsd A (fuI (qsd A) c 1)) (qb A ++ [c]) := by
  unfold recF
  rw [capL_y h]

set_option maxHeartbeats 4000000 in
set_option maxRecDepth 100000 in
theorem k_X12_fill6 (l : Launch) (G : va_G) (cy : Nat → ClassId) (κ : Nat → Nat) (S : PS) (sz : Nat) (x : Nat) (a1 : Int32) (a1_z : Int) (a2 : Int32) (a2_z : Int) (a3 : Int32) (a3_z : Int) (a4 : Int32) (a4_z : Int) (A : Pt) (hG : GX S) (ha_x : At S x 12) (hz_a1 : a1.toInt = a1_z) (hz_a2 : a2.toInt = a2_z) (hz_a3 : a3.toInt = a3_z) (hz_a4 : a4.toInt = a4_z) (hp_0 : MI S x) (hp_1 : (0 ≤ a1_z → a1_z < (pI S 1211 x).toInt → PotW S x a1_z A)) : Ci l yX12_fill wsX12_fill ({ frames := 3, cells := 0, slots := 0, locals := 144 }) G cy κ S sz [.ref x, .int (a1), .int (a2), .int (a3), .int (a4)] (fun (r : Int32) (S9 : PS) => Ok MFI S S9 ∧ (((MI S9 x ∧ FilR S x a1_z a2_z a3_z a4_z ∧ (∀ j : Nat, zA S9 x 1207 j = if 60 * a2_z + a3_z ≤ (j : Int) ∧ (j : Int) < 60 * a2_z + (a3_z + a4_z) then 1 else zA S x 1207 j) ∧ PotW S9 x a1_z (filF A (nuL a2_z a3_z a4_z.toNat)) ∧ PwX S S9 x a1_z) ∧ r = 1) ∨ ((MI S9 x ∧ ¬ FilR S x a1_z a2_z a3_z a4_z ∧ zA S9 x 1207 = zA S x 1207 ∧ S9 = sI S 1200 x 0) ∧ r = 0))) := by
  refine ent_m (cc := cX12_fill) (maxL := 6) (ret := (some .boolean)) (by decide) rfl (Nat.le_of_ble_eq_true rfl) ?_
  intro p e s m below meth c ls X hr hlocks hin hw hl hsz
  subst hsz
  have X : Cx p c cX12_fill 6 s [.ref x, .int (a1), .int (a2), .int (a3), .int (a4)].toArray wsX12_fill RX12 m G cy κ (AS S s.heap.size) := X
  have hl : lv_has ls 6 [(0, .ref x), (1, .int (a1)), (2, .int (a2)), (3, .int (a3)), (4, .int (a4))] := hl
  have rg_a1 : (-2147483648) ≤ a1_z ∧ a1_z ≤ 2147483647 := by rw [← hz_a1]; exact ⟨z_lo _, z_hi _⟩
  have rg_a2 : (-2147483648) ≤ a2_z ∧ a2_z ≤ 2147483647 := by rw [← hz_a2]; exact ⟨z_lo _, z_hi _⟩
  have rg_a3 : (-2147483648) ≤ a3_z ∧ a3_z ≤ 2147483647 := by rw [← hz_a3]; exact ⟨z_lo _, z_hi _⟩
  have rg_a4 : (-2147483648) ≤ a4_z ∧ a4_z ≤ 2147483647 := by rw [← hz_a4]; exact ⟨z_lo _, z_hi _⟩
  have hO : Ok MFI S S := Ok.rf hG
  generalize hQQ : MQ below _ _ _ _ _ _ = QQ
  replace hQQ := hQQ.symm
  obtain ⟨v_1, ev_1⟩ : ∃ v, pI S 1201 x = v := ⟨_, rfl⟩
  have rg_2 := gI_12_1201 hO.1 ha_x; rw [ev_1] at rg_2
  have pz_3 : (pI S 1201 x).toInt = v_1.toInt := by rw [ev_1]
  have pz_4 : (pI S 1201 x).toInt = v_1.toInt := (congrArg Int32.toInt ev_1).trans rfl
  obtain ⟨v_5, ev_5⟩ : ∃ v, pI S 1211 x = v := ⟨_, rfl⟩
  have rg_6 := gI_12_1211 hO.1 ha_x; rw [ev_5] at rg_6
  have pz_7 : (pI S 1211 x).toInt = v_5.toInt := by rw [ev_5]
  have pz_8 : (pI S 1211 x).toInt = v_5.toInt := (congrArg Int32.toInt ev_5).trans rfl
  refine lv_aload_n X.1 X.2.1 dX12_fill_0 rfl (lv_at hl 0 rfl) ?_
  refine lv_iconst (v := 0) X.1 X.2.1 dX12_fill_1 (by decide) ?_
  refine r_putI (v := 0) X hw ha_x rfl 0 1200 tyX12 (by decide) rfl inn_X12_fill_12 tyX12_ok nmX12 (by decide) (X.2.2.2.1 (.fieldLink RX12 161 "SilkMillModel" "thrown" "I") (by decide +kernel)) rfl (Or.inl rfl) rfl rfl (Nat.le_of_ble_eq_true rfl) (st_1200 _ _) dX12_fill_2 (fun H locs hw => ?_)
  obtain ⟨S_9, eS_9⟩ : ∃ T, T = sI S 1200 x (0) := ⟨_, rfl⟩
  rw [← eS_9] at hw
  have hO_10 : Ok MFI S S_9 := hO.sI eS_9 (by decide +kernel) (uI_12_1200 hO.1 ha_x)
  have h_11 : pI S_9 1200 x = 0 := tI_sIs eS_9
  refine lv_aload_n X.1 X.2.1 dX12_fill_5 rfl (lv_at hl 0 rfl) ?_
  refine lv_iload_n X.1 X.2.1 dX12_fill_6 rfl (lv_at hl 1 rfl) ?_
  have t_12 : pI S_9 1211 x = v_5 := tI_sI eS_9 rfl ev_5
  have pz_13 : (pI S_9 1211 x).toInt = v_5.toInt := (congrArg Int32.toInt t_12).trans rfl
  have t_14 : At S_9 x 12 := tAt_sI eS_9 ha_x
  refine k_i (rm := { frames := 2, cells := 0, slots := 0, locals := 96 }) (av := [.ref x, .int (a1)]) X hw (va_runV (As := [.int (a1)]) (rest := []) (cfix X) (k_X12_isPot l G cy κ S_9 _ x (a1) (a1_z) hO_10.1 t_14 hz_a1) (cwV 1 X.2.2.2.1 gX12_fill_X12_isPot rfl rfl rfl (by decide +kernel) ⟨Nat.le_of_ble_eq_true rfl, Nat.le_of_ble_eq_true rfl⟩) (pre_V X hw _ t_14 rfl (by decide) rfl) rfl rfl hl.1 rfl (lv_room (Nat.le_of_ble_eq_true rfl)) dX12_fill_7 ⟨Nat.le_of_ble_eq_true rfl, Nat.le_of_ble_eq_true rfl⟩) 0 0 (Nat.le_of_ble_eq_true rfl) (Nat.le_of_ble_eq_true rfl) (fun rr_15 S_16 H locs hp hw hfr hnw => ?_)
  obtain ⟨e2, hp⟩ := hp
  subst e2
  rcases hp with ⟨f_17, er_18⟩ | ⟨f_17, er_18⟩ <;> subst er_18
  · have z_b_19 := trivial
    refine lv_if_eq (tgt := 55) X.1 X.2.1 dX12_fill_10 (by decide) (fun c_20 => absurd c_20 (by decide)) (fun c_20 => ?_)
    refine lv_iload_n X.1 X.2.1 dX12_fill_13 rfl (lv_at hl 2 rfl) ?_
    refine lv_iconst (v := 0) X.1 X.2.1 dX12_fill_14 (by decide) ?_
    refine lv_aload_n X.1 X.2.1 dX12_fill_15 rfl (lv_at hl 0 rfl) ?_
    have t_21 : pI S_9 1201 x = v_1 := tI_sI eS_9 rfl ev_1
    refine r_getI (g := 1201) (x := v_1) X hw t_14 rfl 1 t_21 (by decide) rfl inn_X12_fill_12 (by decide) (X.2.2.2.1 (.fieldLink RX12 165 "SilkMillModel" "lots" "I") (by decide +kernel)) rfl (gv_1201 _ _) dX12_fill_16 ?_
    refine lv_iconst (v := 1) X.1 X.2.1 dX12_fill_19 (by decide) ?_
    refine lv_isub X.1 X.2.1 dX12_fill_20 ?_
    refine lv_topi (fun v_22 ev_22 => ?_)
    have z_23 : v_22.toInt = v_1.toInt - 1 := z_sub ev_22 rfl ti_1 (by omega) (by omega)
    refine k_i (rm := { frames := 1, cells := 0, slots := 0, locals := 48 }) (av := [.int (a2), .int 0, .int (v_22)]) X hw (va_runS (As := [.int (a2), .int 0, .int (v_22)]) (rest := []) (cfix X) (k_X12_within l G cy κ S_9 _ (a2) (a2_z) (0) (0) (v_22) ((v_1.toInt - 1)) hO_10.1 hz_a2 ti_0 z_23) (cwS 3 X.2.2.2.1 gX12_fill_X12_within rfl rfl rfl (by decide +kernel) ⟨Nat.le_of_ble_eq_true rfl, Nat.le_of_ble_eq_true rfl⟩) (pre_S X hw _) rfl rfl hl.1 rfl (lv_room (Nat.le_of_ble_eq_true rfl)) dX12_fill_21 ⟨Nat.le_of_ble_eq_true rfl, Nat.le_of_ble_eq_true rfl⟩) 0 0 (Nat.le_of_ble_eq_true rfl) (Nat.le_of_ble_eq_true rfl) (fun rr_24 S_25 H locs hp hw hfr hnw => ?_)
    obtain ⟨e2, hp⟩ := hp
    subst e2
    rcases hp with ⟨f_26, er_27⟩ | ⟨f_26, er_27⟩ <;> subst er_27
    · have z_b_28 := trivial
      refine lv_if_eq (tgt := 55) X.1 X.2.1 dX12_fill_24 (by decide) (fun c_29 => absurd c_29 (by decide)) (fun c_29 => ?_)
      refine lv_iload X.1 X.2.1 dX12_fill_27 (lv_at hl 4 rfl) ?_
      refine lv_iconst (v := 1) X.1 X.2.1 dX12_fill_29 (by decide) ?_
      refine lv_bipush (v := 60) X.1 X.2.1 dX12_fill_30 (by decide) ?_
      refine k_i (rm := { frames := 1, cells := 0, slots := 0, locals := 48 }) (av := [.int (a4), .int 1, .int 60]) X hw (va_runS (As := [.int (a4), .int 1, .int 60]) (rest := []) (cfix X) (k_X12_within l G cy κ S_9 _ (a4) (a4_z) (1) (1) (60) (60) hO_10.1 hz_a4 ti_1 ti_60) (cwS 3 X.2.2.2.1 gX12_fill_X12_within rfl rfl rfl (by decide +kernel) ⟨Nat.le_of_ble_eq_true rfl, Nat.le_of_ble_eq_true rfl⟩) (pre_S X hw _) rfl rfl hl.1 rfl (lv_room (Nat.le_of_ble_eq_true rfl)) dX12_fill_32 ⟨Nat.le_of_ble_eq_true rfl, Nat.le_of_ble_eq_true rfl⟩) 0 0 (Nat.le_of_ble_eq_true rfl) (Nat.le_of_ble_eq_true rfl) (fun rr_30 S_31 H locs hp hw hfr hnw => ?_)
      obtain ⟨e2, hp⟩ := hp
      subst e2
      rcases hp with ⟨f_32, er_33⟩ | ⟨f_32, er_33⟩ <;> subst er_33
      · have z_b_34 := trivial
        refine lv_if_eq (tgt := 55) X.1 X.2.1 dX12_fill_35 (by decide) (fun c_35 => absurd c_35 (by decide)) (fun c_35 => ?_)
        refine lv_iload_n X.1 X.2.1 dX12_fill_38 rfl (lv_at hl 3 rfl) ?_
        refine lv_if_lt (tgt := 55) X.1 X.2.1 dX12_fill_39 (by decide) (fun c_36 => ?_) (fun c_36 => ?_)
        · have z_b_37 := trivial
          have k_38 : a3_z < 0 := z_lt hz_a3 ti_0 c_36
          refine lv_iconst (v := 0) X.1 X.2.1 dX12_fill_55 (by decide) ?_
          have mi_39 : MIe S_9 x (-1) := MIe_sI hp_0 hO.1 ha_x eS_9 (by decide +kernel)
          have zc_40 : zA S_9 x 1207 = zA S x 1207 := zA_sI eS_9
          rw [hQQ]
          exact ret_z X hw hr hlocks (Nat.le_of_ble_eq_true rfl) (Nat.le_of_ble_eq_true rfl) (by decide) ⟨hO_10, Or.inr ⟨⟨mi_39, fun h => by obtain ⟨h1, h2, h3, h4, h5, h6, h7, h8, -⟩ := h; omega, zc_40, eS_9⟩, rfl⟩⟩ dX12_fill_56
        · have z_b_41 := trivial
          have k_42 : a3_z ≥ 0 := z_nlt hz_a3 ti_0 c_36
          refine lv_iload_n X.1 X.2.1 dX12_fill_42 rfl (lv_at hl 3 rfl) ?_
          refine lv_aload_n X.1 X.2.1 dX12_fill_43 rfl (lv_at hl 0 rfl) ?_
          obtain ⟨q_43, h_44, h_45, h_46⟩ := gQ_12_1202 hO_10.1 t_14
          refine r_getR (g := 1202) X hw t_14 rfl 2 h_44 (by decide) rfl inn_X12_fill_12 (by decide) (X.2.2.2.1 (.fieldLink RX12 7 "SilkMillModel" "lotMany" "[I") (by decide +kernel)) rfl (gv_1202 _ _) dX12_fill_44 ?_
          refine lv_iload_n X.1 X.2.1 dX12_fill_47 rfl (lv_at hl 2 rfl) ?_
          refine r_iald X hw h_45 rfl (by rw [h_46]; exact z_ix hz_a2 (by omega) (by omega)) dX12_fill_48 ?_
          refine lv_topi (fun v_47 ev_47 => ?_)
          have z_48 := gE_254 hO_10.1 h_45 (Int32.toNatClampNeg (a2)); rw [← ev_47] at z_48
          have ev_47 := ev_47.symm
          have zf_49 : zA S_9 x 1202 (a2_z).toNat = v_47.toInt := (zA_of h_44 hz_a2 (by omega) ev_47)
          have zc_50 : zA S_9 x 1202 = zA S x 1202 := zA_sI eS_9
          have zz_51 := congrFun zc_50 a2_z.toNat
          refine lv_iload X.1 X.2.1 dX12_fill_49 (lv_at hl 4 rfl) ?_
          refine lv_isub X.1 X.2.1 dX12_fill_51 ?_
          refine lv_topi (fun v_52 ev_52 => ?_)
          have z_53 : v_52.toInt = v_47.toInt - a4_z := z_sub ev_52 rfl hz_a4 (by omega) (by omega)
          refine lv_icmp_le (tgt := 57) X.1 X.2.1 dX12_fill_52 (by decide) (fun c_54 => ?_) (fun c_54 => ?_)
          · have z_b_55 := trivial
            have k_56 : a3_z ≤ (v_47.toInt - a4_z) := z_le hz_a3 z_53 c_54
            refine lv_iload_n X.1 X.2.1 dX12_fill_57 rfl (lv_at hl 3 rfl) ?_
            refine lv_istore (lv' := [(5, .int (a3)), (0, .ref x), (1, .int (a1)), (2, .int (a2)), (3, .int (a3)), (4, .int (a4))]) X.1 X.2.1 dX12_fill_58 hl (by decide) rfl (fun ls hl => ?_)
            have L_57 : ∀ (n : Nat) (H : Heap) (locs : List Loc) (ls : Array Slot) (i5_58 : Int32) (i5_58_z : Int), ((a3_z + a4_z - i5_58_z).toNat = n) → (Wd G cy (AS S s.heap.size) s.heap S_9 H locs) → (i5_58.toInt = i5_58_z) → (0 ≤ i5_58_z ∧ i5_58_z ≤ 60) → ((∀ j : Int, a3_z ≤ j → j < i5_58_z → zA S_9 x 1207 (60 * a2_z + j).toNat = 0)) → (a3_z ≤ i5_58_z) → (lv_has ls 6 [(5, .int (i5_58)), (0, .ref x), (1, .int (a1)), (2, .int (a2)), (3, .int (a3)), (4, .int (a4))]) → W p l e ({ frames := 3, cells := 0, slots := 0, locals := 144 }) s m [.ref x, .int (a1), .int (a2), .int (a3), .int (a4)].toArray below meth c H locs 0 0 QQ (F0 m 60 ls []) := by
              intro n
              induction n using Nat.strongRecOn with
              | ind n ih_L_57 =>
              intro H locs ls i5_58 i5_58_z hn hw hz_i5_58 hr_i5_58 iv_59 iv_60 hl
              have rg_61 : (-2147483648) ≤ i5_58_z ∧ i5_58_z ≤ 2147483647 := by rw [← hz_i5_58]; exact ⟨z_lo _, z_hi _⟩
              have zc_62 : zA S_9 x 1207 = zA S x 1207 := zA_sI eS_9
              refine lv_iload X.1 X.2.1 dX12_fill_60 (lv_at hl 0 rfl) ?_
              refine lv_iload_n X.1 X.2.1 dX12_fill_62 rfl (lv_at hl 4 rfl) ?_
              refine lv_iload X.1 X.2.1 dX12_fill_63 (lv_at hl 5 rfl) ?_
              refine lv_iadd X.1 X.2.1 dX12_fill_65 ?_
              refine lv_topi (fun v_63 ev_63 => ?_)
              have z_64 : v_63.toInt = a3_z + a4_z := z_add ev_63 hz_a3 hz_a4 (by omega) (by omega)
              refine lv_icmp_ge (tgt := 92) X.1 X.2.1 dX12_fill_66 (by decide) (fun c_65 => ?_) (fun c_65 => ?_)
              · have z_b_66 := trivial
                have k_67 : i5_58_z ≥ (a3_z + a4_z) := z_le z_64 hz_i5_58 c_65
                have pa_68 := hp_1 (by omega) (by omega)
                have pw_69 := PotW_sI pa_68 eS_9 (by decide)
                have px_70 : PwX S S_9 x a1_z := PwX_to (PwX_rf S x a1_z) (zA_sI eS_9) (zA_sI eS_9) (zA_sI eS_9) (zA_sI eS_9) (pw5 (zA_sI eS_9) (zA_sI eS_9) (zA_sI eS_9) (zA_sI eS_9) (zA_sI eS_9))
                refine lv_iload_n X.1 X.2.1 dX12_fill_92 rfl (lv_at hl 4 rfl) ?_
                refine lv_istore (lv' := [(5, .int (a3)), (0, .ref x), (1, .int (a1)), (2, .int (a2)), (3, .int (a3)), (4, .int (a4))]) X.1 X.2.1 dX12_fill_93 hl (by decide) rfl (fun ls hl => ?_)
                have L_71 : ∀ (n : Nat) (T_73 : PS) (H : Heap) (locs : List Loc) (ls : Array Slot) (i5_72 : Int32) (i5_72_z : Int), ((a3_z + a4_z - i5_72_z).toNat = n) → (Wd G cy (AS S s.heap.size) s.heap T_73 H locs) → (i5_72.toInt = i5_72_z) → (0 ≤ i5_72_z ∧ i5_72_z ≤ 60) → (At T_73 x 12) → (Ok MFI S T_73) → (MIe T_73 x (-1)) → ((∀ j : Int, i5_72_z ≤ j → j < a3_z + a4_z → zA T_73 x 1207 (60 * a2_z + j).toNat = 0)) → (a3_z ≤ i5_72_z) → ((∀ j : Nat, zA T_73 x 1207 j = if 60 * a2_z + a3_z ≤ (j : Int) ∧ (j : Int) < 60 * a2_z + i5_72_z then 1 else zA S x 1207 j)) → (i5_72_z ≤ a3_z + a4_z) → (PotW T_73 x a1_z (filF A (nuL a2_z a3_z (i5_72_z - a3_z).toNat))) → (PwX S T_73 x a1_z) → (pI T_73 1201 x = v_1) → (lv_has ls 6 [(5, .int (i5_72)), (0, .ref x), (1, .int (a1)), (2, .int (a2)), (3, .int (a3)), (4, .int (a4))]) → W p l e ({ frames := 3, cells := 0, slots := 0, locals := 144 }) s m [.ref x, .int (a1), .int (a2), .int (a3), .int (a4)].toArray below meth c H locs 0 0 QQ (F0 m 95 ls []) := by
                  intro n
                  induction n using Nat.strongRecOn with
                  | ind n ih_L_71 =>
                  intro T_73 H locs ls i5_72 i5_72_z hn hw hz_i5_72 hr_i5_72 ha_x_L_74 hO_T_73 mk_75 iv_76 iv_77 iv_78 iv_79 iv_80 iv_81 ik_82 hl
                  have rg_83 : (-2147483648) ≤ i5_72_z ∧ i5_72_z ≤ 2147483647 := by rw [← hz_i5_72]; exact ⟨z_lo _, z_hi _⟩
                  have pz_84 : (pI T_73 1201 x).toInt = v_1.toInt := (congrArg Int32.toInt ik_82).trans rfl
                  have hpw_85 := iv_80
                  obtain ⟨pw_86, pw_87, pw_88, pw_89, pw_90, pw_91, pw_92, pw_93, pw_94, pw_95⟩ := hpw_85
                  obtain ⟨v_96, ev_96⟩ : ∃ v, pI T_73 1238 x = v := ⟨_, rfl⟩
                  have rg_97 := gI_12_1238 hO_T_73.1 ha_x_L_74; rw [ev_96] at rg_97
                  have pz_98 : (pI T_73 1238 x).toInt = v_96.toInt := by rw [ev_96]
                  have pz_99 : (pI T_73 1238 x).toInt = v_96.toInt := (congrArg Int32.toInt ev_96).trans rfl
                  have sl_100 := pw_91.1
                  have sl_101 := pw_94.1
                  refine lv_iload X.1 X.2.1 dX12_fill_95 (lv_at hl 0 rfl) ?_
                  refine lv_iload_n X.1 X.2.1 dX12_fill_97 rfl (lv_at hl 4 rfl) ?_
                  refine lv_iload X.1 X.2.1 dX12_fill_98 (lv_at hl 5 rfl) ?_
                  refine lv_iadd X.1 X.2.1 dX12_fill_100 ?_
                  refine lv_topi (fun v_102 ev_102 => ?_)
                  have z_103 : v_102.toInt = a3_z + a4_z := z_add ev_102 hz_a3 hz_a4 (by omega) (by omega)
                  refine lv_icmp_ge (tgt := 129) X.1 X.2.1 dX12_fill_101 (by decide) (fun c_104 => ?_) (fun c_104 => ?_)
                  · have z_b_105 := trivial
                    have k_106 : i5_72_z ≥ (a3_z + a4_z) := z_le z_103 hz_i5_72 c_104
                    refine lv_iconst (v := 1) X.1 X.2.1 dX12_fill_129 (by decide) ?_
                    rw [hQQ]
                    exact ret_z X hw hr hlocks (Nat.le_of_ble_eq_true rfl) (Nat.le_of_ble_eq_true rfl) (by decide) ⟨hO_T_73, Or.inl ⟨⟨mk_75, ⟨by omega, by omega, by omega, by omega, by omega, by omega, by omega, by omega, fun j h1 h2 => (congrFun zc_62 _).symm.trans (iv_59 j h1 (by omega))⟩, fun j => by rw [show a3_z + a4_z = i5_72_z by omega]; exact iv_78 j, (by rw [show a4_z.toNat = (i5_72_z - a3_z).toNat by omega]; exact iv_80), iv_81⟩, rfl⟩⟩ dX12_fill_130
                  · have z_b_107 := trivial
                    have k_108 : i5_72_z < (a3_z + a4_z) := z_nle z_103 hz_i5_72 c_104
                    refine lv_aload_n X.1 X.2.1 dX12_fill_104 rfl (lv_at hl 1 rfl) ?_
                    refine lv_iload_n X.1 X.2.1 dX12_fill_105 rfl (lv_at hl 2 rfl) ?_
                    refine lv_iconst (v := 0) X.1 X.2.1 dX12_fill_106 (by decide) ?_
                    refine lv_bipush (v := 60) X.1 X.2.1 dX12_fill_107 (by decide) ?_
                    refine lv_iload_n X.1 X.2.1 dX12_fill_109 rfl (lv_at hl 3 rfl) ?_
                    refine lv_imul X.1 X.2.1 dX12_fill_110 ?_
                    refine lv_topi (fun v_109 ev_109 => ?_)
                    have z_110 : v_109.toInt = 60 * a2_z := z_mul ev_109 ti_60 hz_a2 (by omega) (by omega)
                    refine lv_iload X.1 X.2.1 dX12_fill_111 (lv_at hl 0 rfl) ?_
                    refine lv_iadd X.1 X.2.1 dX12_fill_113 ?_
                    refine lv_topi (fun v_111 ev_111 => ?_)
                    have z_112 : v_111.toInt = (60 * a2_z) + i5_72_z := z_add ev_111 z_110 hz_i5_72 (by omega) (by omega)
                    refine lv_aload_n X.1 X.2.1 dX12_fill_114 rfl (lv_at hl 1 rfl) ?_
                    refine lv_iload_n X.1 X.2.1 dX12_fill_115 rfl (lv_at hl 2 rfl) ?_
                    refine lv_iconst (v := 0) X.1 X.2.1 dX12_fill_116 (by decide) ?_
                    have ln_113 : zA T_73 x 1219 (3 * a1_z + 0).toNat = (((qb (filF A (nuL a2_z a3_z (i5_72_z - a3_z).toNat)))).length : Int) := pw_86.1
                    refine k_i (rm := { frames := 1, cells := 0, slots := 0, locals := 48 }) (av := [.ref x, .int (a1), .int 0]) X hw (va_runV (As := [.int (a1), .int 0]) (rest := [.int (v_111), .int 0, .int (a1), .ref x]) (cfix X) (k_X12_many2 l G cy κ T_73 _ x (a1) (a1_z) (0) (0) hO_T_73.1 ha_x_L_74 hz_a1 ti_0 (by first | assumption | omega) (by first | assumption | omega) (by first | assumption | omega) (by first | assumption | omega)) (cwV 2 X.2.2.2.1 gX12_fill_X12_many rfl rfl rfl (by decide +kernel) ⟨Nat.le_of_ble_eq_true rfl, Nat.le_of_ble_eq_true rfl⟩) (pre_V X hw _ ha_x_L_74 rfl (by decide) rfl) rfl rfl hl.1 rfl (lv_room (Nat.le_of_ble_eq_true rfl)) dX12_fill_117 ⟨Nat.le_of_ble_eq_true rfl, Nat.le_of_ble_eq_true rfl⟩) 0 0 (Nat.le_of_ble_eq_true rfl) (Nat.le_of_ble_eq_true rfl) (fun rr_114 S_115 H locs hp hw hfr hnw => ?_)
                    obtain ⟨e2, hp⟩ := hp
                    subst e2
                    obtain ⟨f_116, f_117, f_118⟩ := hp
                    have hz_119 : zA T_73 x 1207 (((60 * a2_z) + i5_72_z)).toNat = 0 := iv_76 i5_72_z (by omega) (by omega)
                    have fr_120 : Fre T_73 x (((60 * a2_z) + i5_72_z)) := Fre_of mk_75 hz_119 (Or.inl (by omega))
                    have al_121 := ((MI_1 mk_75 (c := ((60 * a2_z) + i5_72_z)) (by omega) (by omega)).2 (by omega)).2 (by omega) (by omega)
                    have hd_122 : ((60 * a2_z) + i5_72_z) = (((60 * a2_z + i5_72_z).toNat : Nat) : Int) := by omega
                    refine k_v (rm := { frames := 1, cells := 0, slots := 0, locals := 48 }) (av := [.ref x, .int (a1), .int 0, .int (v_111), .int (rr_114)]) X hw (va_runV (As := [.int (a1), .int 0, .int (v_111), .int (rr_114)]) (rest := []) (cfix X) (k_X12_comes5 l G cy κ T_73 _ x (a1) (a1_z) (0) (0) (v_111) (((60 * a2_z) + i5_72_z)) (rr_114) (rr_114.toInt) hO_T_73.1 ha_x_L_74 hz_a1 ti_0 z_112 rfl (by first | assumption | omega) (by first | assumption | omega) (by first | assumption | omega) (by first | assumption | omega) (by first | assumption | omega) (by first | assumption | omega) (by first | assumption | omega) (by first | assumption | omega) (by first | assumption | omega) (by first | assumption | omega) mk_75 (by first | assumption | omega) (by first | assumption | omega)) (cwV 4 X.2.2.2.1 gX12_fill_X12_comes rfl rfl rfl (by decide +kernel) ⟨Nat.le_of_ble_eq_true rfl, Nat.le_of_ble_eq_true rfl⟩) (pre_V X hw _ ha_x_L_74 rfl (by decide) rfl) rfl rfl hl.1 rfl (lv_room (Nat.le_of_ble_eq_true rfl)) dX12_fill_120 ⟨Nat.le_of_ble_eq_true rfl, Nat.le_of_ble_eq_true rfl⟩) 0 0 (Nat.le_of_ble_eq_true rfl) (Nat.le_of_ble_eq_true rfl) (fun S_124 H locs hp hw hfr hnw => ?_)
                    obtain ⟨hk_125, hp⟩ := hp
                    have hO_126 : Ok MFI S S_124 := hO_T_73.call hk_125 (by decide +kernel)
                    obtain ⟨mi_127, cm_128, cs_129, cx_130⟩ := hp
                    obtain ⟨x_131, ex_131⟩ : ∃ y : Int32, y = i5_72 + 1 := ⟨_, rfl⟩
                    have z_132 : x_131.toInt = i5_72_z + 1 := z_add ex_131 hz_i5_72 ti_1 (by omega) (by omega)
                    refine lv_iinc (v := x_131) (lv' := [(5, .int (x_131)), (0, .ref x), (1, .int (a1)), (2, .int (a2)), (3, .int (a3)), (4, .int (a4))]) X.1 X.2.1 dX12_fill_123 hl (k := 0) rfl (by rw [ex_131]; rfl) (by decide) rfl (fun ls hl => ?_)
                    refine lv_goto (tgt := 95) X.1 X.2.1 dX12_fill_126 (by decide) ?_
                    have t_133 : At S_124 x 12 := hk_125.fr.at ha_x_L_74
                    have cu_134 : ∀ j : Nat, zA S_124 x 1207 j = if j = (60 * a2_z + i5_72_z).toNat then (1 : Int) else zA T_73 x 1207 j := cs_129
                    have cap_136 : ((qb (filF A (nuL a2_z a3_z (i5_72_z - a3_z).toNat)))).length < 600 := by have h1 := pw_86.1; have h2 := cx_130.2.2.2.1; omega
                    have rR_135 : RowR S_124 x (3 * a1_z + 0).toNat ((qb (filF A (nuL a2_z a3_z (i5_72_z - a3_z).toNat))) ++ [(60 * a2_z + i5_72_z).toNat]) := RowR_last pw_86 (show CmO T_73 S_124 x (3 * a1_z + 0).toNat ((qb (filF A (nuL a2_z a3_z (i5_72_z - a3_z).toNat)))).length (((60 * a2_z) + i5_72_z)) by rw [show ((qb (filF A (nuL a2_z a3_z (i5_72_z - a3_z).toNat)))).length = (rr_114.toInt).toNat by have := pw_86.1; omega]; exact cx_130) hd_122
                    have rR_137 : RowR S_124 x (3 * a1_z + 1).toNat (qe (filF A (nuL a2_z a3_z (i5_72_z - a3_z).toNat))) := RowR_cmx hO_T_73.1 ha_x_L_74 (by omega) pw_87 cx_130
                    have rR_138 : RowR S_124 x (3 * a1_z + 2).toNat (ql (filF A (nuL a2_z a3_z (i5_72_z - a3_z).toNat))) := RowR_cmx hO_T_73.1 ha_x_L_74 (by omega) pw_88 cx_130
                    have zR_139 : zA S_124 x 1215 a1_z.toNat = ((qst (filF A (nuL a2_z a3_z (i5_72_z - a3_z).toNat)))).toInt := (congrFun (zA_fr hk_125.fr ha_x_L_74 (ex3 (gQ_12_1215 hO_T_73.1 ha_x_L_74)) (by decide +kernel) (by decide +kernel)) _).trans pw_89
                    have zR_140 : zA S_124 x 1214 a1_z.toNat = ((qse (filF A (nuL a2_z a3_z (i5_72_z - a3_z).toNat)))).toInt := (congrFun (zA_fr hk_125.fr ha_x_L_74 (ex3 (gQ_12_1214 hO_T_73.1 ha_x_L_74)) (by decide +kernel) (by decide +kernel)) _).trans pw_90
                    have zR_141 : zA S_124 x 1216 a1_z.toNat = ((qdr (filF A (nuL a2_z a3_z (i5_72_z - a3_z).toNat)))).toInt := (congrFun (zA_fr hk_125.fr ha_x_L_74 (ex3 (gQ_12_1216 hO_T_73.1 ha_x_L_74)) (by decide +kernel) (by decide +kernel)) _).trans pw_92
                    have zR_142 : zA S_124 x 1217 a1_z.toNat = ((qtk (filF A (nuL a2_z a3_z (i5_72_z - a3_z).toNat)))).toInt := (congrFun (zA_fr hk_125.fr ha_x_L_74 (ex3 (gQ_12_1217 hO_T_73.1 ha_x_L_74)) (by decide +kernel) (by decide +kernel)) _).trans pw_93
                    have gR_143 : GrW S_124 x a1_z.toNat (qg (filF A (nuL a2_z a3_z (i5_72_z - a3_z).toNat))) := GrW_eq (zA_fr hk_125.fr ha_x_L_74 (ex3 (gQ_12_1235 hO_T_73.1 ha_x_L_74)) (by decide +kernel) (by decide +kernel)) (zA_fr hk_125.fr ha_x_L_74 (ex3 (gQ_12_1236 hO_T_73.1 ha_x_L_74)) (by decide +kernel) (by decide +kernel)) (congrFun (zA_fr hk_125.fr ha_x_L_74 (ex3 (gQ_12_1237 hO_T_73.1 ha_x_L_74)) (by decide +kernel) (by decide +kernel)) _) pw_91
                    have pz_144 : PlZ S_124 x (qpl (filF A (nuL a2_z a3_z (i5_72_z - a3_z).toNat))) (fuI (qsd (filF A (nuL a2_z a3_z (i5_72_z - a3_z).toNat))) (60 * a2_z + i5_72_z).toNat 1) := PlZ_7 pw_95 (zA_fr hk_125.fr ha_x_L_74 (ex3 (gQ_12_1208 hO_T_73.1 ha_x_L_74)) (by decide +kernel) (by decide +kernel)) cs_129 (by omega) (by decide)
                    have t_145 : pI S_124 1238 x = v_96 := hk_125.fr.I' (by decide +kernel) ha_x_L_74 ev_96
                    have pz_146 : (pI S_124 1238 x).toInt = v_96.toInt := (congrArg Int32.toInt t_145).trans rfl
                    have kR_147 : SkW S_124 x (qsk (filF A (nuL a2_z a3_z (i5_72_z - a3_z).toNat))) := SkW_n (congrArg Int32.toInt (hk_125.fr.I' (by decide +kernel) ha_x_L_74 rfl)) ⟨zA_fr hk_125.fr ha_x_L_74 (ex3 (gQ_12_1235 hO_T_73.1 ha_x_L_74)) (by decide +kernel) (by decide +kernel), zA_fr hk_125.fr ha_x_L_74 (ex3 (gQ_12_1236 hO_T_73.1 ha_x_L_74)) (by decide +kernel) (by decide +kernel), zA_fr hk_125.fr ha_x_L_74 (ex3 (gQ_12_1239 hO_T_73.1 ha_x_L_74)) (by decide +kernel) (by decide +kernel), zA_fr hk_125.fr ha_x_L_74 (ex3 (gQ_12_1240 hO_T_73.1 ha_x_L_74)) (by decide +kernel) (by decide +kernel), zA_fr hk_125.fr ha_x_L_74 (ex3 (gQ_12_1241 hO_T_73.1 ha_x_L_74)) (by decide +kernel) (by decide +kernel), zA_fr hk_125.fr ha_x_L_74 (ex3 (gQ_12_1242 hO_T_73.1 ha_x_L_74)) (by decide +kernel) (by decide +kernel)⟩ pw_94
                    have px_148 : PwX S S_124 x a1_z := PwX_cm iv_81 hO_T_73.1 ha_x_L_74 (by omega) cx_130 (zA_fr hk_125.fr ha_x_L_74 (ex3 (gQ_12_1235 hO_T_73.1 ha_x_L_74)) (by decide +kernel) (by decide +kernel)) (zA_fr hk_125.fr ha_x_L_74 (ex3 (gQ_12_1236 hO_T_73.1 ha_x_L_74)) (by decide +kernel) (by decide +kernel)) (pw5 (zA_fr hk_125.fr ha_x_L_74 (ex3 (gQ_12_1214 hO_T_73.1 ha_x_L_74)) (by decide +kernel) (by decide +kernel)) (zA_fr hk_125.fr ha_x_L_74 (ex3 (gQ_12_1215 hO_T_73.1 ha_x_L_74)) (by decide +kernel) (by decide +kernel)) (zA_fr hk_125.fr ha_x_L_74 (ex3 (gQ_12_1216 hO_T_73.1 ha_x_L_74)) (by decide +kernel) (by decide +kernel)) (zA_fr hk_125.fr ha_x_L_74 (ex3 (gQ_12_1217 hO_T_73.1 ha_x_L_74)) (by decide +kernel) (by decide +kernel)) (zA_fr hk_125.fr ha_x_L_74 (ex3 (gQ_12_1237 hO_T_73.1 ha_x_L_74)) (by decide +kernel) (by decide +kernel)))
                    have t_149 : pI S_124 1201 x = v_1 := hk_125.fr.I' (by decide +kernel) ha_x_L_74 ik_82
                    exact ih_L_71 _ (by omega) _ _ _ _ (x_131) (x_131.toInt) rfl hw rfl (by omega) t_133 hO_126 mi_127 (fun j h1 h2 => by rw [cs_129 (60 * a2_z + j).toNat, if_neg (by omega)]; exact iv_76 j (by omega) (by omega)) (by omega) (by have h := up_rng cu_134 iv_78 (show (((60 * a2_z + i5_72_z).toNat : Nat) : Int) = 60 * a2_z + i5_72_z by omega) (by omega); rw [show 60 * a2_z + i5_72_z + 1 = 60 * a2_z + x_131.toInt by omega] at h; exact h) (by omega) (PotW_of (show filF A (nuL a2_z a3_z (x_131.toInt - a3_z).toNat) = wb (wsd (filF A (nuL a2_z a3_z (i5_72_z - a3_z).toNat)) (fuI (qsd (filF A (nuL a2_z a3_z (i5_72_z - a3_z).toNat))) (60 * a2_z + i5_72_z).toNat 1)) (qb (filF A (nuL a2_z a3_z (i5_72_z - a3_z).toNat)) ++ [(60 * a2_z + i5_72_z).toNat]) by rw [show (x_131.toInt - a3_z).toNat = (i5_72_z - a3_z).toNat + 1 by omega, nuL_s, filF_s, show (60 * a2_z + (a3_z + (((i5_72_z - a3_z).toNat : Nat) : Int))).toNat = (60 * a2_z + i5_72_z).toNat by omega]; exact recF_y (by have h1 := pw_86.1; have h2 := cx_130.2.2.2.1; omega)) rR_135 rR_137 rR_138 zR_139 zR_140 gR_143 zR_141 zR_142 kR_147 pz_144) px_148 t_149 (lv_sub hl [0, 1, 2, 3, 4, 5] rfl)
                have mi_150 : MIe S_9 x (-1) := MIe_sI hp_0 hO.1 ha_x eS_9 (by decide +kernel)
                exact L_71 _ _ _ _ _ (a3) (a3_z) rfl hw hz_a3 (by omega) t_14 hO_10 mi_150 (fun j h1 h2 => iv_59 j (by omega) (by omega)) (by omega) (fun j => by rw [if_neg (by omega), zc_62]) (by omega) (by rw [show (a3_z - a3_z).toNat = 0 by omega]; exact pw_69) px_70 t_21 (lv_sub hl [0, 1, 2, 3, 4, 5] rfl)
              · have z_b_151 := trivial
                have k_152 : i5_58_z < (a3_z + a4_z) := z_nle z_64 hz_i5_58 c_65
                refine lv_aload_n X.1 X.2.1 dX12_fill_69 rfl (lv_at hl 1 rfl) ?_
                obtain ⟨q_153, h_154, h_155, h_156⟩ := gQ_12_1207 hO_10.1 t_14
                refine r_getR (g := 1207) X hw t_14 rfl 7 h_154 (by decide) rfl inn_X12_fill_12 (by decide) (X.2.2.2.1 (.fieldLink RX12 25 "SilkMillModel" "stand" "[I") (by decide +kernel)) rfl (gv_1207 _ _) dX12_fill_70 ?_
                refine lv_bipush (v := 60) X.1 X.2.1 dX12_fill_73 (by decide) ?_
                refine lv_iload_n X.1 X.2.1 dX12_fill_75 rfl (lv_at hl 3 rfl) ?_
                refine lv_imul X.1 X.2.1 dX12_fill_76 ?_
                refine lv_topi (fun v_157 ev_157 => ?_)
                have z_158 : v_157.toInt = 60 * a2_z := z_mul ev_157 ti_60 hz_a2 (by omega) (by omega)
                refine lv_iload X.1 X.2.1 dX12_fill_77 (lv_at hl 0 rfl) ?_
                refine lv_iadd X.1 X.2.1 dX12_fill_79 ?_
                refine lv_topi (fun v_159 ev_159 => ?_)
                have z_160 : v_159.toInt = (60 * a2_z) + i5_58_z := z_add ev_159 z_158 hz_i5_58 (by omega) (by omega)
                refine r_iald X hw h_155 rfl (by rw [h_156]; exact z_ix z_160 (by omega) (by omega)) dX12_fill_80 ?_
                refine lv_topi (fun v_161 ev_161 => ?_)
                have rg_162 := And.intro (z_lo v_161) (z_hi v_161)
                have ev_161 := ev_161.symm
                have zf_163 : zA S_9 x 1207 (((60 * a2_z) + i5_58_z)).toNat = v_161.toInt := (zA_of h_154 z_160 (by omega) ev_161)
                refine lv_if_eq (tgt := 86) X.1 X.2.1 dX12_fill_81 (by decide) (fun c_164 => ?_) (fun c_164 => ?_)
                · have z_b_165 := trivial
                  have k_166 : v_161.toInt = 0 := z_eq rfl ti_0 c_164
                  obtain ⟨x_167, ex_167⟩ : ∃ y : Int32, y = i5_58 + 1 := ⟨_, rfl⟩
                  have z_168 : x_167.toInt = i5_58_z + 1 := z_add ex_167 hz_i5_58 ti_1 (by omega) (by omega)
                  refine lv_iinc (v := x_167) (lv' := [(5, .int (x_167)), (0, .ref x), (1, .int (a1)), (2, .int (a2)), (3, .int (a3)), (4, .int (a4))]) X.1 X.2.1 dX12_fill_86 hl (k := 0) rfl (by rw [ex_167]; rfl) (by decide) rfl (fun ls hl => ?_)
                  refine lv_goto (tgt := 60) X.1 X.2.1 dX12_fill_89 (by decide) ?_
                  exact ih_L_57 _ (by omega) _ _ _ (x_167) (x_167.toInt) rfl hw rfl (by omega) (fun j h1 h2 => by rcases (by omega : j < i5_58_z ∨ j = i5_58_z) with h | h; exact iv_59 j h1 h; rw [h]; omega) (by omega) (lv_sub hl [0, 1, 2, 3, 4, 5] rfl)
                · have z_b_169 := trivial
                  have k_170 : v_161.toInt ≠ 0 := z_ne rfl ti_0 c_164
                  refine lv_iconst (v := 0) X.1 X.2.1 dX12_fill_84 (by decide) ?_
                  have mi_171 : MIe S_9 x (-1) := MIe_sI hp_0 hO.1 ha_x eS_9 (by decide +kernel)
                  rw [hQQ]
                  exact ret_z X hw hr hlocks (Nat.le_of_ble_eq_true rfl) (Nat.le_of_ble_eq_true rfl) (by decide) ⟨hO_10, Or.inr ⟨⟨mi_171, fun h => by have h8 := h.2.2.2.2.2.2.2.2 i5_58_z (by omega) (by omega); have h9 := congrFun zc_62 (60 * a2_z + i5_58_z).toNat; omega, zc_62, eS_9⟩, rfl⟩⟩ dX12_fill_85
            exact L_57 _ _ _ _ (a3) (a3_z) rfl hw hz_a3 (by omega) (fun j h1 h2 => absurd h2 (by omega)) (by omega) (lv_sub hl [0, 1, 2, 3, 4, 5] rfl)
          · have z_b_172 := trivial
            have k_173 : a3_z > (v_47.toInt - a4_z) := z_nle hz_a3 z_53 c_54
            refine lv_iconst (v := 0) X.1 X.2.1 dX12_fill_55 (by decide) ?_
            have mi_174 : MIe S_9 x (-1) := MIe_sI hp_0 hO.1 ha_x eS_9 (by decide +kernel)
            have zc_175 : zA S_9 x 1207 = zA S x 1207 := zA_sI eS_9
            rw [hQQ]
            exact ret_z X hw hr hlocks (Nat.le_of_ble_eq_true rfl) (Nat.le_of_ble_eq_true rfl) (by decide) ⟨hO_10, Or.inr ⟨⟨mi_174, fun h => by obtain ⟨h1, h2, h3, h4, h5, h6, h7, h8, -⟩ := h; omega, zc_175, eS_9⟩, rfl⟩⟩ dX12_fill_56
      · have z_b_176 := trivial
        refine lv_if_eq (tgt := 55) X.1 X.2.1 dX12_fill_35 (by decide) (fun c_177 => ?_) (fun c_177 => absurd c_177 (by decide))
        refine lv_iconst (v := 0) X.1 X.2.1 dX12_fill_55 (by decide) ?_
        have mi_178 : MIe S_9 x (-1) := MIe_sI hp_0 hO.1 ha_x eS_9 (by decide +kernel)
        have zc_179 : zA S_9 x 1207 = zA S x 1207 := zA_sI eS_9
        rw [hQQ]
        exact ret_z X hw hr hlocks (Nat.le_of_ble_eq_true rfl) (Nat.le_of_ble_eq_true rfl) (by decide) ⟨hO_10, Or.inr ⟨⟨mi_178, fun h => by obtain ⟨h1, h2, h3, h4, h5, h6, h7, h8, -⟩ := h; omega, zc_179, eS_9⟩, rfl⟩⟩ dX12_fill_56
    · have z_b_180 := trivial
      refine lv_if_eq (tgt := 55) X.1 X.2.1 dX12_fill_24 (by decide) (fun c_181 => ?_) (fun c_181 => absurd c_181 (by decide))
      refine lv_iconst (v := 0) X.1 X.2.1 dX12_fill_55 (by decide) ?_
      have mi_182 : MIe S_9 x (-1) := MIe_sI hp_0 hO.1 ha_x eS_9 (by decide +kernel)
      have zc_183 : zA S_9 x 1207 = zA S x 1207 := zA_sI eS_9
      rw [hQQ]
      exact ret_z X hw hr hlocks (Nat.le_of_ble_eq_true rfl) (Nat.le_of_ble_eq_true rfl) (by decide) ⟨hO_10, Or.inr ⟨⟨mi_182, fun h => by obtain ⟨h1, h2, h3, h4, h5, h6, h7, h8, -⟩ := h; omega, zc_183, eS_9⟩, rfl⟩⟩ dX12_fill_56
  · have z_b_184 := trivial
    refine lv_if_eq (tgt := 55) X.1 X.2.1 dX12_fill_10 (by decide) (fun c_185 => ?_) (fun c_185 => absurd c_185 (by decide))
    refine lv_iconst (v := 0) X.1 X.2.1 dX12_fill_55 (by decide) ?_
    have mi_186 : MIe S_9 x (-1) := MIe_sI hp_0 hO.1 ha_x eS_9 (by decide +kernel)
    have zc_187 : zA S_9 x 1207 = zA S x 1207 := zA_sI eS_9
    rw [hQQ]
    exact ret_z X hw hr hlocks (Nat.le_of_ble_eq_true rfl) (Nat.le_of_ble_eq_true rfl) (by decide) ⟨hO_10, Or.inr ⟨⟨mi_186, fun h => by obtain ⟨h1, h2, h3, h4, h5, h6, h7, h8, -⟩ := h; omega, zc_187, eS_9⟩, rfl⟩⟩ dX12_fill_56
set_option maxHeartbeats 4000000 in
set_option maxRecDepth 100000 in
theorem k_X12_cut6 (l : Launch) (G : va_G) (cy : Nat → ClassId) (κ : Nat → Nat) (S : PS) (sz : Nat) (x : Nat) (a1 : Int32) (a1_z : Int) (A : Pt) (Ev : En) (hG : GX S) (ha_x : At S x 12) (hz_a1 : a1.toInt = a1_z) (hp_0 : MI S x) (hp_1 : GR S x) (hp_2 : (0 ≤ a1_z → a1_z < (pI S 1211 x).toInt → PotW S x a1_z A)) (hp_3 : (0 ≤ a1_z → a1_z < (pI S 1211 x).toInt → EnR S x a1_z Ev)) : Ci l yX12_cut wsX12_cut ({ frames := 7, cells := 0, slots := 0, locals := 336 }) G cy κ S sz [.ref x, .int (a1)] (fun (r : Int32) (S9 : PS) => Ok MCU S S9 ∧ (MI S9 x ∧ GR S9 x ∧ ((0 ≤ a1_z ∧ a1_z < (pI S 1211 x).toInt) → PotW S9 x a1_z (cutF Ev A) ∧ r.toInt = cutR A ∧ PwX S S9 x a1_z) ∧ (¬ (0 ≤ a1_z ∧ a1_z < (pI S 1211 x).toInt) → r.toInt = -1 ∧ S9 = sI S 1200 x 0))) := by
  refine ent_m (cc := cX12_cut) (maxL := 2) (ret := (some .int)) (by decide) rfl (Nat.le_of_ble_eq_true rfl) ?_
  intro p e s m below meth c ls X hr hlocks hin hw hl hsz
  subst hsz
  have X : Cx p c cX12_cut 2 s [.ref x, .int (a1)].toArray wsX12_cut RX12 m G cy κ (AS S s.heap.size) := X
  have hl : lv_has ls 2 [(0, .ref x), (1, .int (a1))] := hl
  have rg_a1 : (-2147483648) ≤ a1_z ∧ a1_z ≤ 2147483647 := by rw [← hz_a1]; exact ⟨z_lo _, z_hi _⟩
  have hO : Ok MCU S S := Ok.rf hG
  obtain ⟨v_1, ev_1⟩ : ∃ v, pI S 1211 x = v := ⟨_, rfl⟩
  have rg_2 := gI_12_1211 hO.1 ha_x; rw [ev_1] at rg_2
  have pz_3 : (pI S 1211 x).toInt = v_1.toInt := by rw [ev_1]
  have pz_4 : (pI S 1211 x).toInt = v_1.toInt := (congrArg Int32.toInt ev_1).trans rfl
  refine lv_aload_n X.1 X.2.1 dX12_cut_0 rfl (lv_at hl 0 rfl) ?_
  refine lv_iconst (v := 0) X.1 X.2.1 dX12_cut_1 (by decide) ?_
  refine r_putI (v := 0) X hw ha_x rfl 0 1200 tyX12 (by decide) rfl inn_X12_cut_12 tyX12_ok nmX12 (by decide) (X.2.2.2.1 (.fieldLink RX12 161 "SilkMillModel" "thrown" "I") (by decide +kernel)) rfl (Or.inl rfl) rfl rfl (Nat.le_of_ble_eq_true rfl) (st_1200 _ _) dX12_cut_2 (fun H locs hw => ?_)
  obtain ⟨S_5, eS_5⟩ : ∃ T, T = sI S 1200 x (0) := ⟨_, rfl⟩
  rw [← eS_5] at hw
  have hO_6 : Ok MCU S S_5 := hO.sI eS_5 (by decide +kernel) (uI_12_1200 hO.1 ha_x)
  have h_7 : pI S_5 1200 x = 0 := tI_sIs eS_5
  refine lv_aload_n X.1 X.2.1 dX12_cut_5 rfl (lv_at hl 0 rfl) ?_
  refine lv_iload_n X.1 X.2.1 dX12_cut_6 rfl (lv_at hl 1 rfl) ?_
  have t_8 : pI S_5 1211 x = v_1 := tI_sI eS_5 rfl ev_1
  have pz_9 : (pI S_5 1211 x).toInt = v_1.toInt := (congrArg Int32.toInt t_8).trans rfl
  have t_10 : At S_5 x 12 := tAt_sI eS_5 ha_x
  refine k_i (rm := { frames := 2, cells := 0, slots := 0, locals := 96 }) (av := [.ref x, .int (a1)]) X hw (va_runV (As := [.int (a1)]) (rest := []) (cfix X) (k_X12_isPot l G cy κ S_5 _ x (a1) (a1_z) hO_6.1 t_10 hz_a1) (cwV 1 X.2.2.2.1 gX12_cut_X12_isPot rfl rfl rfl (by decide +kernel) ⟨Nat.le_of_ble_eq_true rfl, Nat.le_of_ble_eq_true rfl⟩) (pre_V X hw _ t_10 rfl (by decide) rfl) rfl rfl hl.1 rfl (lv_room (Nat.le_of_ble_eq_true rfl)) dX12_cut_7 ⟨Nat.le_of_ble_eq_true rfl, Nat.le_of_ble_eq_true rfl⟩) 0 0 (Nat.le_of_ble_eq_true rfl) (Nat.le_of_ble_eq_true rfl) (fun rr_11 S_12 H locs hp hw hfr hnw => ?_)
  obtain ⟨e2, hp⟩ := hp
  subst e2
  rcases hp with ⟨f_13, er_14⟩ | ⟨f_13, er_14⟩ <;> subst er_14
  · have z_b_15 := trivial
    refine lv_if_eq (tgt := 21) X.1 X.2.1 dX12_cut_10 (by decide) (fun c_16 => absurd c_16 (by decide)) (fun c_16 => ?_)
    refine lv_aload_n X.1 X.2.1 dX12_cut_13 rfl (lv_at hl 0 rfl) ?_
    have pa_17 := hp_2 (by omega) (by omega)
    have pw_18 := PotW_sI pa_17 eS_5 (by decide)
    obtain ⟨pw_19, pw_20, pw_21, pw_22, pw_23, pw_24, pw_25, pw_26, pw_27, pw_28⟩ := pw_18
    obtain ⟨v_29, ev_29⟩ : ∃ v, pI S_5 1238 x = v := ⟨_, rfl⟩
    have rg_30 := gI_12_1238 hO_6.1 t_10; rw [ev_29] at rg_30
    have pz_31 : (pI S_5 1238 x).toInt = v_29.toInt := by rw [ev_29]
    have pz_32 : (pI S_5 1238 x).toInt = v_29.toInt := (congrArg Int32.toInt ev_29).trans rfl
    have sl_33 := pw_24.1
    have sl_34 := pw_27.1
    have px_35 : PwX S S_5 x a1_z := PwX_to (PwX_rf S x a1_z) (zA_sI eS_5) (zA_sI eS_5) (zA_sI eS_5) (zA_sI eS_5) (pw5 (zA_sI eS_5) (zA_sI eS_5) (zA_sI eS_5) (zA_sI eS_5) (zA_sI eS_5))
    refine lv_iload_n X.1 X.2.1 dX12_cut_14 rfl (lv_at hl 1 rfl) ?_
    have en_36 : EnR S_5 x a1_z Ev := EnR_fr hG ha_x hO_6.fr (by decide +kernel) (hp_3 (by omega) (by omega))
    have mi_37 : MIe S_5 x (-1) := MIe_sI hp_0 hO.1 ha_x eS_5 (by decide +kernel)
    refine k_i (rm := { frames := 6, cells := 0, slots := 0, locals := 288 }) (av := [.ref x, .int (a1)]) X hw (va_runV (As := [.int (a1)]) (rest := []) (cfix X) (k_X12_cuts5 l G cy κ S_5 _ x (a1) (a1_z) hO_6.1 t_10 hz_a1 (by first | assumption | omega) (by first | assumption | omega) mi_37) (cwV 1 X.2.2.2.1 gX12_cut_X12_cuts rfl rfl rfl (by decide +kernel) ⟨Nat.le_of_ble_eq_true rfl, Nat.le_of_ble_eq_true rfl⟩) (pre_V X hw _ t_10 rfl (by decide) rfl) rfl rfl hl.1 rfl (lv_room (Nat.le_of_ble_eq_true rfl)) dX12_cut_15 ⟨Nat.le_of_ble_eq_true rfl, Nat.le_of_ble_eq_true rfl⟩) 0 0 (Nat.le_of_ble_eq_true rfl) (Nat.le_of_ble_eq_true rfl) (fun rr_38 S_39 H locs hp hw hfr hnw => ?_)
    obtain ⟨hk_40, hp⟩ := hp
    have hO_41 : Ok MCU S S_39 := hO_6.call hk_40 (by decide +kernel)
    obtain ⟨mi_42, cu_43, cc_44, cc_45, cc_46⟩ := hp
    have rg_47 := And.intro (z_lo rr_38) (z_hi rr_38)
    have zc_48 : zA S_5 x 1237 = zA S x 1237 := zA_sI eS_5
    have gr_49 : GR S_39 x := GR_set cu_43 (by omega) (GR_eq zc_48 hp_1)
    refine lv_goto (tgt := 22) X.1 X.2.1 dX12_cut_18 (by decide) ?_
    have zc_50 : zA S_5 x 1237 = zA S x 1237 := zA_sI eS_5
    have rR_51 : RowR S_39 x (3 * a1_z + 0).toNat (qb A) := RowR_eq pw_19 (zA_fr hk_40.fr t_10 (ex3 (gQ_12_1218 hO_6.1 t_10)) (by decide +kernel) (by decide +kernel)) (zA_fr hk_40.fr t_10 (ex3 (gQ_12_1219 hO_6.1 t_10)) (by decide +kernel) (by decide +kernel))
    have rR_52 : RowR S_39 x (3 * a1_z + 1).toNat (qe A) := RowR_eq pw_20 (zA_fr hk_40.fr t_10 (ex3 (gQ_12_1218 hO_6.1 t_10)) (by decide +kernel) (by decide +kernel)) (zA_fr hk_40.fr t_10 (ex3 (gQ_12_1219 hO_6.1 t_10)) (by decide +kernel) (by decide +kernel))
    have rR_53 : RowR S_39 x (3 * a1_z + 2).toNat (ql A) := RowR_eq pw_21 (zA_fr hk_40.fr t_10 (ex3 (gQ_12_1218 hO_6.1 t_10)) (by decide +kernel) (by decide +kernel)) (zA_fr hk_40.fr t_10 (ex3 (gQ_12_1219 hO_6.1 t_10)) (by decide +kernel) (by decide +kernel))
    have zR_54 : zA S_39 x 1215 a1_z.toNat = ((qst A)).toInt := (congrFun (zA_fr hk_40.fr t_10 (ex3 (gQ_12_1215 hO_6.1 t_10)) (by decide +kernel) (by decide +kernel)) _).trans pw_22
    have zR_55 : zA S_39 x 1214 a1_z.toNat = ((qse A)).toInt := (congrFun (zA_fr hk_40.fr t_10 (ex3 (gQ_12_1214 hO_6.1 t_10)) (by decide +kernel) (by decide +kernel)) _).trans pw_23
    have zR_56 : zA S_39 x 1216 a1_z.toNat = ((qdr A)).toInt := (congrFun (zA_fr hk_40.fr t_10 (ex3 (gQ_12_1216 hO_6.1 t_10)) (by decide +kernel) (by decide +kernel)) _).trans pw_25
    have zR_57 : zA S_39 x 1217 a1_z.toNat = ((qtk A)).toInt := (congrFun (zA_fr hk_40.fr t_10 (ex3 (gQ_12_1217 hO_6.1 t_10)) (by decide +kernel) (by decide +kernel)) _).trans pw_26
    have pz_58 : PlZ S_39 x (qpl A) (qsd A) := PlZ_eq pw_28 (zA_fr hk_40.fr t_10 (ex3 (gQ_12_1208 hO_6.1 t_10)) (by decide +kernel) (by decide +kernel)) (zA_fr hk_40.fr t_10 (ex3 (gQ_12_1207 hO_6.1 t_10)) (by decide +kernel) (by decide +kernel))
    have pc_59 := PotW_cut (E := Ev) hO_6.1 t_10 (by omega) en_36 pw_24 pw_27 cc_44 cc_45 cc_46 (by rw [cu_43, if_pos rfl]) rR_51 rR_52 rR_53 zR_54 zR_55 zR_56 zR_57 pz_58
    have px_60 : PwX S S_39 x a1_z := PwX_cu px_35 hO_6.1 t_10 (zA_fr hk_40.fr t_10 (ex3 (gQ_12_1218 hO_6.1 t_10)) (by decide +kernel) (by decide +kernel)) (zA_fr hk_40.fr t_10 (ex3 (gQ_12_1219 hO_6.1 t_10)) (by decide +kernel) (by decide +kernel)) cu_43 (pw4 (fun _ => zA_fr hk_40.fr t_10 (ex3 (gQ_12_1214 hO_6.1 t_10)) (by decide +kernel) (by decide +kernel)) (fun _ => zA_fr hk_40.fr t_10 (ex3 (gQ_12_1215 hO_6.1 t_10)) (by decide +kernel) (by decide +kernel)) (fun _ => zA_fr hk_40.fr t_10 (ex3 (gQ_12_1216 hO_6.1 t_10)) (by decide +kernel) (by decide +kernel)) (fun _ => zA_fr hk_40.fr t_10 (ex3 (gQ_12_1217 hO_6.1 t_10)) (by decide +kernel) (by decide +kernel)) (fun h => absurd rfl h)) cc_44 cc_45 cc_46
    exact ret_i X hw hr hlocks (Nat.le_of_ble_eq_true rfl) (Nat.le_of_ble_eq_true rfl) ⟨hO_41, ⟨mi_42, gr_49, fun _ => ⟨pc_59.1, pc_59.2, px_60⟩, fun h => absurd ⟨by omega, by omega⟩ h⟩⟩ dX12_cut_22
  · have z_b_61 := trivial
    refine lv_if_eq (tgt := 21) X.1 X.2.1 dX12_cut_10 (by decide) (fun c_62 => ?_) (fun c_62 => absurd c_62 (by decide))
    refine lv_iconst (v := (-1)) X.1 X.2.1 dX12_cut_21 (by decide) ?_
    have zc_63 : zA S_5 x 1237 = zA S x 1237 := zA_sI eS_5
    have mi_64 : MIe S_5 x (-1) := MIe_sI hp_0 hO.1 ha_x eS_5 (by decide +kernel)
    exact ret_i X hw hr hlocks (Nat.le_of_ble_eq_true rfl) (Nat.le_of_ble_eq_true rfl) ⟨hO_6, ⟨mi_64, (GR_eq zc_63 hp_1), fun h => (by exfalso; omega), fun _ => ⟨by decide, eS_5⟩⟩⟩ dX12_cut_22
