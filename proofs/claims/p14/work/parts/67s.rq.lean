/-! ===== the reference: cocoons come, a cut, a new pot, a target ===== -/
/-- the numbers of the cocoons of lot l from f on, n of them -/
def nuL (l f : Int) (n : Nat) : List Nat := (List.range n).map (fun j : Nat => (60 * l + (f + (j : Int))).toNat)
theorem nuL_s {l f : Int} {n : Nat} : nuL l f (n + 1) = nuL l f n ++ [(60 * l + (f + (n : Int))).toNat] := by
  unfold nuL
  rw [List.range_succ, List.map_append]
  rfl
theorem recF_y {A : Pt} {c : Nat} (h : (qb A).length < 600) : recF A c = wb (wsd A (fuI (qsd A) c 1)) (qb A ++ [c]) := by
  unfold recF
  rw [capL_y h]

set_option maxHeartbeats 4000000 in
set_option maxRecDepth 100000 in
theorem k_X12_fill6 (l : Launch) (G : va_G) (cy : Nat → ClassId) (κ : Nat → Nat) (S : PS) (sz : Nat) (x : Nat) (a1 : Int32) (a1_z : Int) (a2 : Int32) (a2_z : Int) (a3 : Int32) (a3_z : Int) (a4 : Int32) (a4_z : Int) (A : Pt) (hG : GX S) (ha_x : At S x 12) (hz_a1 : a1.toInt = a1_z) (hz_a2 : a2.toInt = a2_z) (hz_a3 : a3.toInt = a3_z) (hz_a4 : a4.toInt = a4_z) (hp_0 : MI S x) (hp_1 : (0 ≤ a1_z → a1_z < (pI S 1211 x).toInt → PotW S x a1_z A)) : Ci l yX12_fill wsX12_fill ({ frames := 3, cells := 0, slots := 0, locals := 144 }) G cy κ S sz [.ref x, .int (a1), .int (a2), .int (a3), .int (a4)] (fun (r : Int32) (S9 : PS) => Ok MFI S S9 ∧ (((MI S9 x ∧ FilR S x a1_z a2_z a3_z a4_z ∧ (∀ j : Nat, zA S9 x 1207 j = if 60 * a2_z + a3_z ≤ (j : Int) ∧ (j : Int) < 60 * a2_z + (a3_z + a4_z) then 1 else zA S x 1207 j) ∧ PotW S9 x a1_z (filF A (nuL a2_z a3_z a4_z.toNat)) ∧ PwX S S9 x a1_z) ∧ r = 1) ∨ ((MI S9 x ∧ ¬ FilR S x a1_z a2_z a3_z a4_z ∧ zA S9 x 1207 = zA S x 1207 ∧ S9 = sI S 1200 x 0) ∧ r = 0))) := by
  refine ent_m (cc := cX12_fill) (maxL := 6) (ret := (some .boolean)) (by decide) rfl (Nat.le_of_ble_eq_true rfl) ?_
  intro p e s m below meth c ls X hr hlocks hin hw hl hsz
  subst hsz
  have X : Cx p c cX12_fill 6 s [.ref x, .int (a1), .int (a2), .int (a3), .int (a4)].toArray wsX12_fill RX12 m G cy κ (AS S s.heap.size) := X
  have hl : lv_has ls 6 [(0, .ref x), (1, .int (a1)), (2, .int (a2)), (3, .int (a3)), (4, .int (a4))] := hl
  have rg_a1 : (-2147483648) ≤ a1_z ∧ a1_z ≤ 2147483647 := by rw [← hz_a1]; exact ⟨z_lo _, z_hi _⟩
  have rg_a2 : (-2147483648) ≤ a2_z ∧ a2_z ≤ 2147483647 := by rw [← hz_a2]; exact ⟨z_lo _, z_hi _⟩
  have rg_a3 : (-2147483648) ≤ a3_z ∧ a3_z ≤ 2147483647 := by rw [← hz_a3]; exact ⟨z_lo _, z_hi _⟩
  have rg_a4 : (-2147483648) ≤ a4_z ∧ a4_z ≤ 2147483647 := by rw [← hz_a4]; exact ⟨z_lo _, z_hi _⟩
  have hO : Ok MFI S S := Ok.rf hG
  generalize hQQ : MQ below _ _ _ _ _ _ = QQ
  replace hQQ := hQQ.symm
  obtain ⟨v_1, ev_1⟩ : ∃ v, pI S 1201 x = v := ⟨_, rfl⟩
  have rg_2 := gI_12_1201 hO.1 ha_x; rw [ev_1] at rg_2
  have pz_3 : (pI S 1201 x).toInt = v_1.toInt := by rw [ev_1]
  have pz_4 : (pI S 1201 x).toInt = v_1.toInt := (congrArg Int32.toInt ev_1).trans rfl
  obtain ⟨v_5, ev_5⟩ : ∃ v, pI S 1211 x = v := ⟨_, rfl⟩
  have rg_6 := gI_12_1211 hO.1 ha_x; rw [ev_5] at rg_6
  have pz_7 : (pI S 1211 x).toInt = v_5.toInt := by rw [ev_5]
  have pz_8 : (pI S 1211 x).toInt = v_5.toInt := (congrArg Int32.toInt ev_5).trans rfl
  refine lv_aload_n X.1 X.2.1 dX12_fill_0 rfl (lv_at hl 0 rfl) ?_
  refine lv_iconst (v := 0) X.1 X.2.1 dX12_fill_1 (by decide) ?_
  refine r_putI (v := 0) X hw ha_x rfl 0 1200 tyX12 (by decide) rfl inn_X12_fill_12 tyX12_ok nmX12 (by decide) (X.2.2.2.1 (.fieldLink RX12 161 "SilkMillModel" "thrown" "I") (by decide +kernel)) rfl (Or.inl rfl) rfl rfl (Nat.le_of_ble_eq_true rfl) (st_1200 _ _) dX12_fill_2 (fun H locs hw => ?_)
  obtain ⟨S_9, eS_9⟩ : ∃ T, T = sI S 1200 x (0) := ⟨_, rfl⟩
  rw [← eS_9] at hw
  have hO_10 : Ok MFI S S_9 := hO.sI eS_9 (by decide +kernel) (uI_12_1200 hO.1 ha_x)
  have h_11 : pI S_9 1200 x = 0 := tI_sIs eS_9
  refine lv_aload_n X.1 X.2.1 dX12_fill_5 rfl (lv_at hl 0 rfl) ?_
  refine lv_iload_n X.1 X.2.1 dX12_fill_6 rfl (lv_at hl 1 rfl) ?_
  have t_12 : pI S_9 1211 x = v_5 := tI_sI eS_9 rfl ev_5
  have pz_13 : (pI S_9 1211 x).toInt = v_5.toInt := (congrArg Int32.toInt t_12).trans rfl
  have t_14 : At S_9 x 12 := tAt_sI eS_9 ha_x
  refine k_i (rm := { frames := 2, cells := 0, slots := 0, locals := 96 }) (av := [.ref x, .int (a1)]) X hw (va_runV (As := [.int (a1)]) (rest := []) (cfix X) (k_X12_isPot l G cy κ S_9 _ x (a1) (a1_z) hO_10.1 t_14 hz_a1) (cwV 1 X.2.2.2.1 gX12_fill_X12_isPot rfl rfl rfl (by decide +kernel) ⟨Nat.le_of_ble_eq_true rfl, Nat.le_of_ble_eq_true rfl⟩) (pre_V X hw _ t_14 rfl (by decide) rfl) rfl rfl hl.1 rfl (lv_room (Nat.le_of_ble_eq_true rfl)) dX12_fill_7 ⟨Nat.le_of_ble_eq_true rfl, Nat.le_of_ble_eq_true rfl⟩) 0 0 (Nat.le_of_ble_eq_true rfl) (Nat.le_of_ble_eq_true rfl) (fun rr_15 S_16 H locs hp hw hfr hnw => ?_)
  obtain ⟨e2, hp⟩ := hp
  subst e2
  rcases hp with ⟨f_17, er_18⟩ | ⟨f_17, er_18⟩ <;> subst er_18
  · have z_b_19 := trivial
    refine lv_if_eq (tgt := 55) X.1 X.2.1 dX12_fill_10 (by decide) (fun c_20 => absurd c_20 (by decide)) (fun c_20 => ?_)
    refine lv_iload_n X.1 X.2.1 dX12_fill_13 rfl (lv_at hl 2 rfl) ?_
    refine lv_iconst (v := 0) X.1 X.2.1 dX12_fill_14 (by decide) ?_
    refine lv_aload_n X.1 X.2.1 dX12_fill_15 rfl (lv_at hl 0 rfl) ?_
    have t_21 : pI S_9 1201 x = v_1 := tI_sI eS_9 rfl ev_1
    refine r_getI (g := 1201) (x := v_1) X hw t_14 rfl 1 t_21 (by decide) rfl inn_X12_fill_12 (by decide) (X.2.2.2.1 (.fieldLink RX12 165 "SilkMillModel" "lots" "I") (by decide +kernel)) rfl (gv_1201 _ _) dX12_fill_16 ?_
    refine lv_iconst (v := 1) X.1 X.2.1 dX12_fill_19 (by decide) ?_
    refine lv_isub X.1 X.2.1 dX12_fill_20 ?_
    refine lv_topi (fun v_22 ev_22 => ?_)
    have z_23 : v_22.toInt = v_1.toInt - 1 := z_sub ev_22 rfl ti_1 (by omega) (by omega)
    refine k_i (rm := { frames := 1, cells := 0, slots := 0, locals := 48 }) (av := [.int (a2), .int 0, .int (v_22)]) X hw (va_runS (As := [.int (a2), .int 0, .int (v_22)]) (rest := []) (cfix X) (k_X12_within l G cy κ S_9 _ (a2) (a2_z) (0) (0) (v_22) ((v_1.toInt - 1)) hO_10.1 hz_a2 ti_0 z_23) (cwS 3 X.2.2.2.1 gX12_fill_X12_within rfl rfl rfl (by decide +kernel) ⟨Nat.le_of_ble_eq_true rfl, Nat.le_of_ble_eq_true rfl⟩) (pre_S X hw _) rfl rfl hl.1 rfl (lv_room (Nat.le_of_ble_eq_true rfl)) dX12_fill_21 ⟨Nat.le_of_ble_eq_true rfl, Nat.le_of_ble_eq_true rfl⟩) 0 0 (Nat.le_of_ble_eq_true rfl) (Nat.le_of_ble_eq_true rfl) (fun rr_24 S_25 H locs hp hw hfr hnw => ?_)
    obtain ⟨e2, hp⟩ := hp
    subst e2
    rcases hp with ⟨f_26, er_27⟩ | ⟨f_26, er_27⟩ <;> subst er_27
    · have z_b_28 := trivial
      refine lv_if_eq (tgt := 55) X.1 X.2.1 dX12_fill_24 (by decide) (fun c_29 => absurd c_29 (by decide)) (fun c_29 => ?_)
      refine lv_iload X.1 X.2.1 dX12_fill_27 (lv_at hl 4 rfl) ?_
      refine lv_iconst (v := 1) X.1 X.2.1 dX12_fill_29 (by decide) ?_
      refine lv_bipush (v := 60) X.1 X.2.1 dX12_fill_30 (by decide) ?_
      refine k_i (rm := { frames := 1, cells := 0, slots := 0, locals := 48 }) (av := [.int (a4), .int 1, .int 60]) X hw (va_runS (As := [.int (a4), .int 1, .int 60]) (rest := []) (cfix X) (k_X12_within l G cy κ S_9 _ (a4) (a4_z) (1) (1) (60) (60) hO_10.1 hz_a4 ti_1 ti_60) (cwS 3 X.2.2.2.1 gX12_fill_X12_within rfl rfl rfl (by decide +kernel) ⟨Nat.le_of_ble_eq_true rfl, Nat.le_of_ble_eq_true rfl⟩) (pre_S X hw _) rfl rfl hl.1 rfl (lv_room (Nat.le_of_ble_eq_true rfl)) dX12_fill_32 ⟨Nat.le_of_ble_eq_true rfl, Nat.le_of_ble_eq_true rfl⟩) 0 0 (Nat.le_of_ble_eq_true rfl) (Nat.le_of_ble_eq_true rfl) (fun rr_30 S_31 H locs hp hw hfr hnw => ?_)
      obtain ⟨e2, hp⟩ := hp
      subst e2
      rcases hp with ⟨f_32, er_33⟩ | ⟨f_32, er_33⟩ <;> subst er_33
      · have z_b_34 := trivial
        refine lv_if_eq (tgt := 55) X.1 X.2.1 dX12_fill_35 (by decide) (fun c_35 => absurd c_35 (by decide)) (fun c_35 => ?_)
        refine lv_iload_n X.1 X.2.1 dX12_fill_38 rfl (lv_at hl 3 rfl) ?_
        refine lv_if_lt (tgt := 55) X.1 X.2.1 dX12_fill_39 (by decide) (fun c_36 => ?_) (fun c_36 => ?_)
        · have z_b_37 := trivial
          have k_38 : a3_z < 0 := z_lt hz_a3 ti_0 c_36
          refine lv_iconst (v := 0) X.1 X.2.1 dX12_fill_55 (by decide) ?_
          have mi_39 : MIe S_9 x (-1) := MIe_sI hp_0 hO.1 ha_x eS_9 (by decide +kernel)
          have zc_40 : zA S_9 x 1207 = zA S x 1207 := zA_sI eS_9
          rw [hQQ]
          exact ret_z X hw hr hlocks (Nat.le_of_ble_eq_true rfl) (Nat.le_of_ble_eq_true rfl) (by decide) ⟨hO_10, Or.inr ⟨⟨mi_39, fun h => by obtain ⟨h1, h2, h3, h4, h5, h6, h7, h8, -⟩ := h; omega, zc_40, eS_9⟩, rfl⟩⟩ dX12_fill_56
        · have z_b_41 := trivial
          have k_42 : a3_z ≥ 0 := z_nlt hz_a3 ti_0 c_36
          refine lv_iload_n X.1 X.2.1 dX12_fill_42 rfl (lv_at hl 3 rfl) ?_
          refine lv_aload_n X.1 X.2.1 dX12_fill_43 rfl (lv_at hl 0 rfl) ?_
          obtain ⟨q_43, h_44, h_45, h_46⟩ := gQ_12_1202 hO_10.1 t_14
          refine r_getR (g := 1202) X hw t_14 rfl 2 h_44 (by decide) rfl inn_X12_fill_12 (by decide) (X.2.2.2.1 (.fieldLink RX12 7 "SilkMillModel" "lotMany" "[I") (by decide +kernel)) rfl (gv_1202 _ _) dX12_fill_44 ?_
          refine lv_iload_n X.1 X.2.1 dX12_fill_47 rfl (lv_at hl 2 rfl) ?_
          refine r_iald X hw h_45 rfl (by rw [h_46]; exact z_ix hz_a2 (by omega) (by omega)) dX12_fill_48 ?_
          refine lv_topi (fun v_47 ev_47 => ?_)
          have z_48 := gE_254 hO_10.1 h_45 (Int32.toNatClampNeg (a2)); rw [← ev_47] at z_48
          have ev_47 := ev_47.symm
          have zf_49 : zA S_9 x 1202 (a2_z).toNat = v_47.toInt := (zA_of h_44 hz_a2 (by omega) ev_47)
          have zc_50 : zA S_9 x 1202 = zA S x 1202 := zA_sI eS_9
          have zz_51 := congrFun zc_50 a2_z.toNat
          refine lv_iload X.1 X.2.1 dX12_fill_49 (lv_at hl 4 rfl) ?_
          refine lv_isub X.1 X.2.1 dX12_fill_51 ?_
          refine lv_topi (fun v_52 ev_52 => ?_)
          have z_53 : v_52.toInt = v_47.toInt - a4_z := z_sub ev_52 rfl hz_a4 (by omega) (by omega)
          refine lv_icmp_le (tgt := 57) X.1 X.2.1 dX12_fill_52 (by decide) (fun c_54 => ?_) (fun c_54 => ?_)
          · have z_b_55 := trivial
            have k_56 : a3_z ≤ (v_47.toInt - a4_z) := z_le hz_a3 z_53 c_54
            refine lv_iload_n X.1 X.2.1 dX12_fill_57 rfl (lv_at hl 3 rfl) ?_
            refine lv_istore (lv' := [(5, .int (a3)), (0, .ref x), (1, .int (a1)), (2, .int (a2)), (3, .int (a3)), (4, .int (a4))]) X.1 X.2.1 dX12_fill_58 hl (by decide) rfl (fun ls hl => ?_)
            have L_57 : ∀ (n : Nat) (H : Heap) (locs : List Loc) (ls : Array Slot) (i5_58 : Int32) (i5_58_z : Int), ((a3_z + a4_z - i5_58_z).toNat = n) → (Wd G cy (AS S s.heap.size) s.heap S_9 H locs) → (i5_58.toInt = i5_58_z) → (0 ≤ i5_58_z ∧ i5_58_z ≤ 60) → ((∀ j : Int, a3_z ≤ j → j < i5_58_z → zA S_9 x 1207 (60 * a2_z + j).toNat = 0)) → (a3_z ≤ i5_58_z) → (lv_has ls 6 [(5, .int (i5_58)), (0, .ref x), (1, .int (a1)), (2, .int (a2)), (3, .int (a3)), (4, .int (a4))]) → W p l e ({ frames := 3, cells := 0, slots := 0, locals := 144 }) s m [.ref x, .int (a1), .int (a2), .int (a3), .int (a4)].toArray below meth c H locs 0 0 QQ (F0 m 60 ls []) := by
              intro n
              induction n using Nat.strongRecOn with
              | ind n ih_L_57 =>
              intro H locs ls i5_58 i5_58_z hn hw hz_i5_58 hr_i5_58 iv_59 iv_60 hl
              have rg_61 : (-2147483648) ≤ i5_58_z ∧ i5_58_z ≤ 2147483647 := by rw [← hz_i5_58]; exact ⟨z_lo _, z_hi _⟩
              have zc_62 : zA S_9 x 1207 = zA S x 1207 := zA_sI eS_9
              refine lv_iload X.1 X.2.1 dX12_fill_60 (lv_at hl 0 rfl) ?_
              refine lv_iload_n X.1 X.2.1 dX12_fill_62 rfl (lv_at hl 4 rfl) ?_
              refine lv_iload X.1 X.2.1 dX12_fill_63 (lv_at hl 5 rfl) ?_
              refine lv_iadd X.1 X.2.1 dX12_fill_65 ?_
              refine lv_topi (fun v_63 ev_63 => ?_)
              have z_64 : v_63.toInt = a3_z + a4_z := z_add ev_63 hz_a3 hz_a4 (by omega) (by omega)
              refine lv_icmp_ge (tgt := 92) X.1 X.2.1 dX12_fill_66 (by decide) (fun c_65 => ?_) (fun c_65 => ?_)
              · have z_b_66 := trivial
                have k_67 : i5_58_z ≥ (a3_z + a4_z) := z_le z_64 hz_i5_58 c_65
                have pa_68 := hp_1 (by omega) (by omega)
                have pw_69 := PotW_sI pa_68 eS_9 (by decide)
                have px_70 : PwX S S_9 x a1_z := PwX_to (PwX_rf S x a1_z) (zA_sI eS_9) (zA_sI eS_9) (pw5 (zA_sI eS_9) (zA_sI eS_9) (zA_sI eS_9) (zA_sI eS_9) (zA_sI eS_9))
                refine lv_iload_n X.1 X.2.1 dX12_fill_92 rfl (lv_at hl 4 rfl) ?_
                refine lv_istore (lv' := [(5, .int (a3)), (0, .ref x), (1, .int (a1)), (2, .int (a2)), (3, .int (a3)), (4, .int (a4))]) X.1 X.2.1 dX12_fill_93 hl (by decide) rfl (fun ls hl => ?_)
                have L_71 : ∀ (n : Nat) (T_73 : PS) (H : Heap) (locs : List Loc) (ls : Array Slot) (i5_72 : Int32) (i5_72_z : Int), ((a3_z + a4_z - i5_72_z).toNat = n) → (Wd G cy (AS S s.heap.size) s.heap T_73 H locs) → (i5_72.toInt = i5_72_z) → (0 ≤ i5_72_z ∧ i5_72_z ≤ 60) → (At T_73 x 12) → (Ok MFI S T_73) → (MIe T_73 x (-1)) → ((∀ j : Int, i5_72_z ≤ j → j < a3_z + a4_z → zA T_73 x 1207 (60 * a2_z + j).toNat = 0)) → (a3_z ≤ i5_72_z) → ((∀ j : Nat, zA T_73 x 1207 j = if 60 * a2_z + a3_z ≤ (j : Int) ∧ (j : Int) < 60 * a2_z + i5_72_z then 1 else zA S x 1207 j)) → (i5_72_z ≤ a3_z + a4_z) → (PotW T_73 x a1_z (filF A (nuL a2_z a3_z (i5_72_z - a3_z).toNat))) → (PwX S T_73 x a1_z) → (pI T_73 1201 x = v_1) → (lv_has ls 6 [(5, .int (i5_72)), (0, .ref x), (1, .int (a1)), (2, .int (a2)), (3, .int (a3)), (4, .int (a4))]) → W p l e ({ frames := 3, cells := 0, slots := 0, locals := 144 }) s m [.ref x, .int (a1), .int (a2), .int (a3), .int (a4)].toArray below meth c H locs 0 0 QQ (F0 m 95 ls []) := by
                  intro n
                  induction n using Nat.strongRecOn with
                  | ind n ih_L_71 =>
                  intro T_73 H locs ls i5_72 i5_72_z hn hw hz_i5_72 hr_i5_72 ha_x_L_74 hO_T_73 mk_75 iv_76 iv_77 iv_78 iv_79 iv_80 iv_81 ik_82 hl
                  have rg_83 : (-2147483648) ≤ i5_72_z ∧ i5_72_z ≤ 2147483647 := by rw [← hz_i5_72]; exact ⟨z_lo _, z_hi _⟩
                  have pz_84 : (pI T_73 1201 x).toInt = v_1.toInt := (congrArg Int32.toInt ik_82).trans rfl
                  have hpw_85 := iv_80
                  obtain ⟨pw_86, pw_87, pw_88, pw_89, pw_90, pw_91, pw_92, pw_93, pw_94, pw_95⟩ := hpw_85
                  obtain ⟨v_96, ev_96⟩ : ∃ v, pI T_73 1238 x = v := ⟨_, rfl⟩
                  have rg_97 := gI_12_1238 hO_T_73.1 ha_x_L_74; rw [ev_96] at rg_97
                  have pz_98 : (pI T_73 1238 x).toInt = v_96.toInt := by rw [ev_96]
                  have pz_99 : (pI T_73 1238 x).toInt = v_96.toInt := (congrArg Int32.toInt ev_96).trans rfl
                  refine lv_iload X.1 X.2.1 dX12_fill_95 (lv_at hl 0 rfl) ?_
                  refine lv_iload_n X.1 X.2.1 dX12_fill_97 rfl (lv_at hl 4 rfl) ?_
                  refine lv_iload X.1 X.2.1 dX12_fill_98 (lv_at hl 5 rfl) ?_
                  refine lv_iadd X.1 X.2.1 dX12_fill_100 ?_
                  refine lv_topi (fun v_100 ev_100 => ?_)
                  have z_101 : v_100.toInt = a3_z + a4_z := z_add ev_100 hz_a3 hz_a4 (by omega) (by omega)
                  refine lv_icmp_ge (tgt := 129) X.1 X.2.1 dX12_fill_101 (by decide) (fun c_102 => ?_) (fun c_102 => ?_)
                  · have z_b_103 := trivial
                    have k_104 : i5_72_z ≥ (a3_z + a4_z) := z_le z_101 hz_i5_72 c_102
                    refine lv_iconst (v := 1) X.1 X.2.1 dX12_fill_129 (by decide) ?_
                    rw [hQQ]
                    exact ret_z X hw hr hlocks (Nat.le_of_ble_eq_true rfl) (Nat.le_of_ble_eq_true rfl) (by decide) ⟨hO_T_73, Or.inl ⟨⟨mk_75, ⟨by omega, by omega, by omega, by omega, by omega, by omega, by omega, by omega, fun j h1 h2 => (congrFun zc_62 _).symm.trans (iv_59 j h1 (by omega))⟩, fun j => by rw [show a3_z + a4_z = i5_72_z by omega]; exact iv_78 j, (by rw [show a4_z.toNat = (i5_72_z - a3_z).toNat by omega]; exact iv_80), iv_81⟩, rfl⟩⟩ dX12_fill_130
                  · have z_b_105 := trivial
                    have k_106 : i5_72_z < (a3_z + a4_z) := z_nle z_101 hz_i5_72 c_102
                    refine lv_aload_n X.1 X.2.1 dX12_fill_104 rfl (lv_at hl 1 rfl) ?_
                    refine lv_iload_n X.1 X.2.1 dX12_fill_105 rfl (lv_at hl 2 rfl) ?_
                    refine lv_iconst (v := 0) X.1 X.2.1 dX12_fill_106 (by decide) ?_
                    refine lv_bipush (v := 60) X.1 X.2.1 dX12_fill_107 (by decide) ?_
                    refine lv_iload_n X.1 X.2.1 dX12_fill_109 rfl (lv_at hl 3 rfl) ?_
                    refine lv_imul X.1 X.2.1 dX12_fill_110 ?_
                    refine lv_topi (fun v_107 ev_107 => ?_)
                    have z_108 : v_107.toInt = 60 * a2_z := z_mul ev_107 ti_60 hz_a2 (by omega) (by omega)
                    refine lv_iload X.1 X.2.1 dX12_fill_111 (lv_at hl 0 rfl) ?_
                    refine lv_iadd X.1 X.2.1 dX12_fill_113 ?_
                    refine lv_topi (fun v_109 ev_109 => ?_)
                    have z_110 : v_109.toInt = (60 * a2_z) + i5_72_z := z_add ev_109 z_108 hz_i5_72 (by omega) (by omega)
                    refine lv_aload_n X.1 X.2.1 dX12_fill_114 rfl (lv_at hl 1 rfl) ?_
                    refine lv_iload_n X.1 X.2.1 dX12_fill_115 rfl (lv_at hl 2 rfl) ?_
                    refine lv_iconst (v := 0) X.1 X.2.1 dX12_fill_116 (by decide) ?_
                    have ln_111 : zA T_73 x 1219 (3 * a1_z + 0).toNat = (((qb (filF A (nuL a2_z a3_z (i5_72_z - a3_z).toNat)))).length : Int) := pw_86.1
                    refine k_i (rm := { frames := 1, cells := 0, slots := 0, locals := 48 }) (av := [.ref x, .int (a1), .int 0]) X hw (va_runV (As := [.int (a1), .int 0]) (rest := [.int (v_109), .int 0, .int (a1), .ref x]) (cfix X) (k_X12_many2 l G cy κ T_73 _ x (a1) (a1_z) (0) (0) hO_T_73.1 ha_x_L_74 hz_a1 ti_0 (by first | assumption | omega) (by first | assumption | omega) (by first | assumption | omega) (by first | assumption | omega)) (cwV 2 X.2.2.2.1 gX12_fill_X12_many rfl rfl rfl (by decide +kernel) ⟨Nat.le_of_ble_eq_true rfl, Nat.le_of_ble_eq_true rfl⟩) (pre_V X hw _ ha_x_L_74 rfl (by decide) rfl) rfl rfl hl.1 rfl (lv_room (Nat.le_of_ble_eq_true rfl)) dX12_fill_117 ⟨Nat.le_of_ble_eq_true rfl, Nat.le_of_ble_eq_true rfl⟩) 0 0 (Nat.le_of_ble_eq_true rfl) (Nat.le_of_ble_eq_true rfl) (fun rr_112 S_113 H locs hp hw hfr hnw => ?_)
                    obtain ⟨e2, hp⟩ := hp
                    subst e2
                    obtain ⟨f_114, f_115, f_116⟩ := hp
                    have hz_117 : zA T_73 x 1207 (((60 * a2_z) + i5_72_z)).toNat = 0 := iv_76 i5_72_z (by omega) (by omega)
                    have fr_118 : Fre T_73 x (((60 * a2_z) + i5_72_z)) := Fre_of mk_75 hz_117 (Or.inl (by omega))
                    have al_119 := ((MI_1 mk_75 (c := ((60 * a2_z) + i5_72_z)) (by omega) (by omega)).2 (by omega)).2 (by omega) (by omega)
                    have hd_120 : ((60 * a2_z) + i5_72_z) = (((60 * a2_z + i5_72_z).toNat : Nat) : Int) := by omega
                    refine k_v (rm := { frames := 1, cells := 0, slots := 0, locals := 48 }) (av := [.ref x, .int (a1), .int 0, .int (v_109), .int (rr_112)]) X hw (va_runV (As := [.int (a1), .int 0, .int (v_109), .int (rr_112)]) (rest := []) (cfix X) (k_X12_comes5 l G cy κ T_73 _ x (a1) (a1_z) (0) (0) (v_109) (((60 * a2_z) + i5_72_z)) (rr_112) (rr_112.toInt) hO_T_73.1 ha_x_L_74 hz_a1 ti_0 z_110 rfl (by first | assumption | omega) (by first | assumption | omega) (by first | assumption | omega) (by first | assumption | omega) (by first | assumption | omega) (by first | assumption | omega) (by first | assumption | omega) (by first | assumption | omega) (by first | assumption | omega) (by first | assumption | omega) mk_75 (by first | assumption | omega) (by first | assumption | omega)) (cwV 4 X.2.2.2.1 gX12_fill_X12_comes rfl rfl rfl (by decide +kernel) ⟨Nat.le_of_ble_eq_true rfl, Nat.le_of_ble_eq_true rfl⟩) (pre_V X hw _ ha_x_L_74 rfl (by decide) rfl) rfl rfl hl.1 rfl (lv_room (Nat.le_of_ble_eq_true rfl)) dX12_fill_120 ⟨Nat.le_of_ble_eq_true rfl, Nat.le_of_ble_eq_true rfl⟩) 0 0 (Nat.le_of_ble_eq_true rfl) (Nat.le_of_ble_eq_true rfl) (fun S_122 H locs hp hw hfr hnw => ?_)
                    obtain ⟨hk_123, hp⟩ := hp
                    have hO_124 : Ok MFI S S_122 := hO_T_73.call hk_123 (by decide +kernel)
                    obtain ⟨mi_125, cm_126, cs_127, cx_128⟩ := hp
                    obtain ⟨x_129, ex_129⟩ : ∃ y : Int32, y = i5_72 + 1 := ⟨_, rfl⟩
                    have z_130 : x_129.toInt = i5_72_z + 1 := z_add ex_129 hz_i5_72 ti_1 (by omega) (by omega)
                    refine lv_iinc (v := x_129) (lv' := [(5, .int (x_129)), (0, .ref x), (1, .int (a1)), (2, .int (a2)), (3, .int (a3)), (4, .int (a4))]) X.1 X.2.1 dX12_fill_123 hl (k := 0) rfl (by rw [ex_129]; rfl) (by decide) rfl (fun ls hl => ?_)
                    refine lv_goto (tgt := 95) X.1 X.2.1 dX12_fill_126 (by decide) ?_
                    have t_131 : At S_122 x 12 := hk_123.fr.at ha_x_L_74
                    have cu_132 : ∀ j : Nat, zA S_122 x 1207 j = if j = (60 * a2_z + i5_72_z).toNat then (1 : Int) else zA T_73 x 1207 j := cs_127
                    have cap_134 : ((qb (filF A (nuL a2_z a3_z (i5_72_z - a3_z).toNat)))).length < 600 := by have h1 := pw_86.1; have h2 := cx_128.2.2.2.1; omega
                    have rR_133 : RowR S_122 x (3 * a1_z + 0).toNat ((qb (filF A (nuL a2_z a3_z (i5_72_z - a3_z).toNat))) ++ [(60 * a2_z + i5_72_z).toNat]) := RowR_last pw_86 (show CmO T_73 S_122 x (3 * a1_z + 0).toNat ((qb (filF A (nuL a2_z a3_z (i5_72_z - a3_z).toNat)))).length (((60 * a2_z) + i5_72_z)) by rw [show ((qb (filF A (nuL a2_z a3_z (i5_72_z - a3_z).toNat)))).length = (rr_112.toInt).toNat by have := pw_86.1; omega]; exact cx_128) hd_120
                    have rR_135 : RowR S_122 x (3 * a1_z + 1).toNat (qe (filF A (nuL a2_z a3_z (i5_72_z - a3_z).toNat))) := RowR_cmx hO_T_73.1 ha_x_L_74 (by omega) pw_87 cx_128
                    have rR_136 : RowR S_122 x (3 * a1_z + 2).toNat (ql (filF A (nuL a2_z a3_z (i5_72_z - a3_z).toNat))) := RowR_cmx hO_T_73.1 ha_x_L_74 (by omega) pw_88 cx_128
                    have zR_137 : zA S_122 x 1215 a1_z.toNat = ((qst (filF A (nuL a2_z a3_z (i5_72_z - a3_z).toNat)))).toInt := (congrFun (zA_fr hk_123.fr ha_x_L_74 (ex3 (gQ_12_1215 hO_T_73.1 ha_x_L_74)) (by decide +kernel) (by decide +kernel)) _).trans pw_89
                    have zR_138 : zA S_122 x 1214 a1_z.toNat = ((qse (filF A (nuL a2_z a3_z (i5_72_z - a3_z).toNat)))).toInt := (congrFun (zA_fr hk_123.fr ha_x_L_74 (ex3 (gQ_12_1214 hO_T_73.1 ha_x_L_74)) (by decide +kernel) (by decide +kernel)) _).trans pw_90
                    have zR_139 : zA S_122 x 1216 a1_z.toNat = ((qdr (filF A (nuL a2_z a3_z (i5_72_z - a3_z).toNat)))).toInt := (congrFun (zA_fr hk_123.fr ha_x_L_74 (ex3 (gQ_12_1216 hO_T_73.1 ha_x_L_74)) (by decide +kernel) (by decide +kernel)) _).trans pw_92
                    have zR_140 : zA S_122 x 1217 a1_z.toNat = ((qtk (filF A (nuL a2_z a3_z (i5_72_z - a3_z).toNat)))).toInt := (congrFun (zA_fr hk_123.fr ha_x_L_74 (ex3 (gQ_12_1217 hO_T_73.1 ha_x_L_74)) (by decide +kernel) (by decide +kernel)) _).trans pw_93
                    have gR_141 : zA S_122 x 1237 a1_z.toNat = (((qg (filF A (nuL a2_z a3_z (i5_72_z - a3_z).toNat)))).length : Int) := (congrFun (zA_fr hk_123.fr ha_x_L_74 (ex3 (gQ_12_1237 hO_T_73.1 ha_x_L_74)) (by decide +kernel) (by decide +kernel)) _).trans pw_91
                    have pz_142 : PlZ S_122 x (qpl (filF A (nuL a2_z a3_z (i5_72_z - a3_z).toNat))) (fuI (qsd (filF A (nuL a2_z a3_z (i5_72_z - a3_z).toNat))) (60 * a2_z + i5_72_z).toNat 1) := PlZ_7 pw_95 (zA_fr hk_123.fr ha_x_L_74 (ex3 (gQ_12_1208 hO_T_73.1 ha_x_L_74)) (by decide +kernel) (by decide +kernel)) cs_127 (by omega) (by decide)
                    have t_143 : pI S_122 1238 x = v_96 := hk_123.fr.I' (by decide +kernel) ha_x_L_74 ev_96
                    have pz_144 : (pI S_122 1238 x).toInt = v_96.toInt := (congrArg Int32.toInt t_143).trans rfl
                    have px_145 : PwX S S_122 x a1_z := PwX_cm iv_81 hO_T_73.1 ha_x_L_74 (by omega) cx_128 (pw5 (zA_fr hk_123.fr ha_x_L_74 (ex3 (gQ_12_1214 hO_T_73.1 ha_x_L_74)) (by decide +kernel) (by decide +kernel)) (zA_fr hk_123.fr ha_x_L_74 (ex3 (gQ_12_1215 hO_T_73.1 ha_x_L_74)) (by decide +kernel) (by decide +kernel)) (zA_fr hk_123.fr ha_x_L_74 (ex3 (gQ_12_1216 hO_T_73.1 ha_x_L_74)) (by decide +kernel) (by decide +kernel)) (zA_fr hk_123.fr ha_x_L_74 (ex3 (gQ_12_1217 hO_T_73.1 ha_x_L_74)) (by decide +kernel) (by decide +kernel)) (zA_fr hk_123.fr ha_x_L_74 (ex3 (gQ_12_1237 hO_T_73.1 ha_x_L_74)) (by decide +kernel) (by decide +kernel)))
                    have t_146 : pI S_122 1201 x = v_1 := hk_123.fr.I' (by decide +kernel) ha_x_L_74 ik_82
                    exact ih_L_71 _ (by omega) _ _ _ _ (x_129) (x_129.toInt) rfl hw rfl (by omega) t_131 hO_124 mi_125 (fun j h1 h2 => by rw [cs_127 (60 * a2_z + j).toNat, if_neg (by omega)]; exact iv_76 j (by omega) (by omega)) (by omega) (by have h := up_rng cu_132 iv_78 (show (((60 * a2_z + i5_72_z).toNat : Nat) : Int) = 60 * a2_z + i5_72_z by omega) (by omega); rw [show 60 * a2_z + i5_72_z + 1 = 60 * a2_z + x_129.toInt by omega] at h; exact h) (by omega) (PotW_of (show filF A (nuL a2_z a3_z (x_129.toInt - a3_z).toNat) = wb (wsd (filF A (nuL a2_z a3_z (i5_72_z - a3_z).toNat)) (fuI (qsd (filF A (nuL a2_z a3_z (i5_72_z - a3_z).toNat))) (60 * a2_z + i5_72_z).toNat 1)) (qb (filF A (nuL a2_z a3_z (i5_72_z - a3_z).toNat)) ++ [(60 * a2_z + i5_72_z).toNat]) by rw [show (x_129.toInt - a3_z).toNat = (i5_72_z - a3_z).toNat + 1 by omega, nuL_s, filF_s, show (60 * a2_z + (a3_z + (((i5_72_z - a3_z).toNat : Nat) : Int))).toNat = (60 * a2_z + i5_72_z).toNat by omega]; exact recF_y (by have h1 := pw_86.1; have h2 := cx_128.2.2.2.1; omega)) rR_133 rR_135 rR_136 zR_137 zR_138 gR_141 zR_139 zR_140 (show (pI S_122 1238 x).toInt = (((qsk (filF A (nuL a2_z a3_z (i5_72_z - a3_z).toNat)))).length : Int) by omega) pz_142) px_145 t_146 (lv_sub hl [0, 1, 2, 3, 4, 5] rfl)
                have mi_147 : MIe S_9 x (-1) := MIe_sI hp_0 hO.1 ha_x eS_9 (by decide +kernel)
                exact L_71 _ _ _ _ _ (a3) (a3_z) rfl hw hz_a3 (by omega) t_14 hO_10 mi_147 (fun j h1 h2 => iv_59 j (by omega) (by omega)) (by omega) (fun j => by rw [if_neg (by omega), zc_62]) (by omega) (by rw [show (a3_z - a3_z).toNat = 0 by omega]; exact pw_69) px_70 t_21 (lv_sub hl [0, 1, 2, 3, 4, 5] rfl)
              · have z_b_148 := trivial
                have k_149 : i5_58_z < (a3_z + a4_z) := z_nle z_64 hz_i5_58 c_65
                refine lv_aload_n X.1 X.2.1 dX12_fill_69 rfl (lv_at hl 1 rfl) ?_
                obtain ⟨q_150, h_151, h_152, h_153⟩ := gQ_12_1207 hO_10.1 t_14
                refine r_getR (g := 1207) X hw t_14 rfl 7 h_151 (by decide) rfl inn_X12_fill_12 (by decide) (X.2.2.2.1 (.fieldLink RX12 25 "SilkMillModel" "stand" "[I") (by decide +kernel)) rfl (gv_1207 _ _) dX12_fill_70 ?_
                refine lv_bipush (v := 60) X.1 X.2.1 dX12_fill_73 (by decide) ?_
                refine lv_iload_n X.1 X.2.1 dX12_fill_75 rfl (lv_at hl 3 rfl) ?_
                refine lv_imul X.1 X.2.1 dX12_fill_76 ?_
                refine lv_topi (fun v_154 ev_154 => ?_)
                have z_155 : v_154.toInt = 60 * a2_z := z_mul ev_154 ti_60 hz_a2 (by omega) (by omega)
                refine lv_iload X.1 X.2.1 dX12_fill_77 (lv_at hl 0 rfl) ?_
                refine lv_iadd X.1 X.2.1 dX12_fill_79 ?_
                refine lv_topi (fun v_156 ev_156 => ?_)
                have z_157 : v_156.toInt = (60 * a2_z) + i5_58_z := z_add ev_156 z_155 hz_i5_58 (by omega) (by omega)
                refine r_iald X hw h_152 rfl (by rw [h_153]; exact z_ix z_157 (by omega) (by omega)) dX12_fill_80 ?_
                refine lv_topi (fun v_158 ev_158 => ?_)
                have rg_159 := And.intro (z_lo v_158) (z_hi v_158)
                have ev_158 := ev_158.symm
                have zf_160 : zA S_9 x 1207 (((60 * a2_z) + i5_58_z)).toNat = v_158.toInt := (zA_of h_151 z_157 (by omega) ev_158)
                refine lv_if_eq (tgt := 86) X.1 X.2.1 dX12_fill_81 (by decide) (fun c_161 => ?_) (fun c_161 => ?_)
                · have z_b_162 := trivial
                  have k_163 : v_158.toInt = 0 := z_eq rfl ti_0 c_161
                  obtain ⟨x_164, ex_164⟩ : ∃ y : Int32, y = i5_58 + 1 := ⟨_, rfl⟩
                  have z_165 : x_164.toInt = i5_58_z + 1 := z_add ex_164 hz_i5_58 ti_1 (by omega) (by omega)
                  refine lv_iinc (v := x_164) (lv' := [(5, .int (x_164)), (0, .ref x), (1, .int (a1)), (2, .int (a2)), (3, .int (a3)), (4, .int (a4))]) X.1 X.2.1 dX12_fill_86 hl (k := 0) rfl (by rw [ex_164]; rfl) (by decide) rfl (fun ls hl => ?_)
                  refine lv_goto (tgt := 60) X.1 X.2.1 dX12_fill_89 (by decide) ?_
                  exact ih_L_57 _ (by omega) _ _ _ (x_164) (x_164.toInt) rfl hw rfl (by omega) (fun j h1 h2 => by rcases (by omega : j < i5_58_z ∨ j = i5_58_z) with h | h; exact iv_59 j h1 h; rw [h]; omega) (by omega) (lv_sub hl [0, 1, 2, 3, 4, 5] rfl)
                · have z_b_166 := trivial
                  have k_167 : v_158.toInt ≠ 0 := z_ne rfl ti_0 c_161
                  refine lv_iconst (v := 0) X.1 X.2.1 dX12_fill_84 (by decide) ?_
                  have mi_168 : MIe S_9 x (-1) := MIe_sI hp_0 hO.1 ha_x eS_9 (by decide +kernel)
                  rw [hQQ]
                  exact ret_z X hw hr hlocks (Nat.le_of_ble_eq_true rfl) (Nat.le_of_ble_eq_true rfl) (by decide) ⟨hO_10, Or.inr ⟨⟨mi_168, fun h => by have h8 := h.2.2.2.2.2.2.2.2 i5_58_z (by omega) (by omega); have h9 := congrFun zc_62 (60 * a2_z + i5_58_z).toNat; omega, zc_62, eS_9⟩, rfl⟩⟩ dX12_fill_85
            exact L_57 _ _ _ _ (a3) (a3_z) rfl hw hz_a3 (by omega) (fun j h1 h2 => absurd h2 (by omega)) (by omega) (lv_sub hl [0, 1, 2, 3, 4, 5] rfl)
          · have z_b_169 := trivial
            have k_170 : a3_z > (v_47.toInt - a4_z) := z_nle hz_a3 z_53 c_54
            refine lv_iconst (v := 0) X.1 X.2.1 dX12_fill_55 (by decide) ?_
            have mi_171 : MIe S_9 x (-1) := MIe_sI hp_0 hO.1 ha_x eS_9 (by decide +kernel)
            have zc_172 : zA S_9 x 1207 = zA S x 1207 := zA_sI eS_9
            rw [hQQ]
            exact ret_z X hw hr hlocks (Nat.le_of_ble_eq_true rfl) (Nat.le_of_ble_eq_true rfl) (by decide) ⟨hO_10, Or.inr ⟨⟨mi_171, fun h => by obtain ⟨h1, h2, h3, h4, h5, h6, h7, h8, -⟩ := h; omega, zc_172, eS_9⟩, rfl⟩⟩ dX12_fill_56
      · have z_b_173 := trivial
        refine lv_if_eq (tgt := 55) X.1 X.2.1 dX12_fill_35 (by decide) (fun c_174 => ?_) (fun c_174 => absurd c_174 (by decide))
        refine lv_iconst (v := 0) X.1 X.2.1 dX12_fill_55 (by decide) ?_
        have mi_175 : MIe S_9 x (-1) := MIe_sI hp_0 hO.1 ha_x eS_9 (by decide +kernel)
        have zc_176 : zA S_9 x 1207 = zA S x 1207 := zA_sI eS_9
        rw [hQQ]
        exact ret_z X hw hr hlocks (Nat.le_of_ble_eq_true rfl) (Nat.le_of_ble_eq_true rfl) (by decide) ⟨hO_10, Or.inr ⟨⟨mi_175, fun h => by obtain ⟨h1, h2, h3, h4, h5, h6, h7, h8, -⟩ := h; omega, zc_176, eS_9⟩, rfl⟩⟩ dX12_fill_56
    · have z_b_177 := trivial
      refine lv_if_eq (tgt := 55) X.1 X.2.1 dX12_fill_24 (by decide) (fun c_178 => ?_) (fun c_178 => absurd c_178 (by decide))
      refine lv_iconst (v := 0) X.1 X.2.1 dX12_fill_55 (by decide) ?_
      have mi_179 : MIe S_9 x (-1) := MIe_sI hp_0 hO.1 ha_x eS_9 (by decide +kernel)
      have zc_180 : zA S_9 x 1207 = zA S x 1207 := zA_sI eS_9
      rw [hQQ]
      exact ret_z X hw hr hlocks (Nat.le_of_ble_eq_true rfl) (Nat.le_of_ble_eq_true rfl) (by decide) ⟨hO_10, Or.inr ⟨⟨mi_179, fun h => by obtain ⟨h1, h2, h3, h4, h5, h6, h7, h8, -⟩ := h; omega, zc_180, eS_9⟩, rfl⟩⟩ dX12_fill_56
  · have z_b_181 := trivial
    refine lv_if_eq (tgt := 55) X.1 X.2.1 dX12_fill_10 (by decide) (fun c_182 => ?_) (fun c_182 => absurd c_182 (by decide))
    refine lv_iconst (v := 0) X.1 X.2.1 dX12_fill_55 (by decide) ?_
    have mi_183 : MIe S_9 x (-1) := MIe_sI hp_0 hO.1 ha_x eS_9 (by decide +kernel)
    have zc_184 : zA S_9 x 1207 = zA S x 1207 := zA_sI eS_9
    rw [hQQ]
    exact ret_z X hw hr hlocks (Nat.le_of_ble_eq_true rfl) (Nat.le_of_ble_eq_true rfl) (by decide) ⟨hO_10, Or.inr ⟨⟨mi_183, fun h => by obtain ⟨h1, h2, h3, h4, h5, h6, h7, h8, -⟩ := h; omega, zc_184, eS_9⟩, rfl⟩⟩ dX12_fill_56
set_option maxHeartbeats 4000000 in
set_option maxRecDepth 100000 in
theorem k_X12_cut6 (l : Launch) (G : va_G) (cy : Nat → ClassId) (κ : Nat → Nat) (S : PS) (sz : Nat) (x : Nat) (a1 : Int32) (a1_z : Int) (A : Pt) (Ev : En) (hG : GX S) (ha_x : At S x 12) (hz_a1 : a1.toInt = a1_z) (hp_0 : MI S x) (hp_1 : GR S x) (hp_2 : (0 ≤ a1_z → a1_z < (pI S 1211 x).toInt → PotW S x a1_z A)) : Ci l yX12_cut wsX12_cut ({ frames := 7, cells := 0, slots := 0, locals := 336 }) G cy κ S sz [.ref x, .int (a1)] (fun (r : Int32) (S9 : PS) => Ok MCU S S9 ∧ (MI S9 x ∧ GR S9 x ∧ ((0 ≤ a1_z ∧ a1_z < (pI S 1211 x).toInt) → PotW S9 x a1_z (cutF Ev A) ∧ r.toInt = cutR A ∧ PwX S S9 x a1_z) ∧ (¬ (0 ≤ a1_z ∧ a1_z < (pI S 1211 x).toInt) → r.toInt = -1 ∧ S9 = sI S 1200 x 0))) := by
  refine ent_m (cc := cX12_cut) (maxL := 2) (ret := (some .int)) (by decide) rfl (Nat.le_of_ble_eq_true rfl) ?_
  intro p e s m below meth c ls X hr hlocks hin hw hl hsz
  subst hsz
  have X : Cx p c cX12_cut 2 s [.ref x, .int (a1)].toArray wsX12_cut RX12 m G cy κ (AS S s.heap.size) := X
  have hl : lv_has ls 2 [(0, .ref x), (1, .int (a1))] := hl
  have rg_a1 : (-2147483648) ≤ a1_z ∧ a1_z ≤ 2147483647 := by rw [← hz_a1]; exact ⟨z_lo _, z_hi _⟩
  have hO : Ok MCU S S := Ok.rf hG
  obtain ⟨v_1, ev_1⟩ : ∃ v, pI S 1211 x = v := ⟨_, rfl⟩
  have rg_2 := gI_12_1211 hO.1 ha_x; rw [ev_1] at rg_2
  have pz_3 : (pI S 1211 x).toInt = v_1.toInt := by rw [ev_1]
  have pz_4 : (pI S 1211 x).toInt = v_1.toInt := (congrArg Int32.toInt ev_1).trans rfl
  refine lv_aload_n X.1 X.2.1 dX12_cut_0 rfl (lv_at hl 0 rfl) ?_
  refine lv_iconst (v := 0) X.1 X.2.1 dX12_cut_1 (by decide) ?_
  refine r_putI (v := 0) X hw ha_x rfl 0 1200 tyX12 (by decide) rfl inn_X12_cut_12 tyX12_ok nmX12 (by decide) (X.2.2.2.1 (.fieldLink RX12 161 "SilkMillModel" "thrown" "I") (by decide +kernel)) rfl (Or.inl rfl) rfl rfl (Nat.le_of_ble_eq_true rfl) (st_1200 _ _) dX12_cut_2 (fun H locs hw => ?_)
  obtain ⟨S_5, eS_5⟩ : ∃ T, T = sI S 1200 x (0) := ⟨_, rfl⟩
  rw [← eS_5] at hw
  have hO_6 : Ok MCU S S_5 := hO.sI eS_5 (by decide +kernel) (uI_12_1200 hO.1 ha_x)
  have h_7 : pI S_5 1200 x = 0 := tI_sIs eS_5
  refine lv_aload_n X.1 X.2.1 dX12_cut_5 rfl (lv_at hl 0 rfl) ?_
  refine lv_iload_n X.1 X.2.1 dX12_cut_6 rfl (lv_at hl 1 rfl) ?_
  have t_8 : pI S_5 1211 x = v_1 := tI_sI eS_5 rfl ev_1
  have pz_9 : (pI S_5 1211 x).toInt = v_1.toInt := (congrArg Int32.toInt t_8).trans rfl
  have t_10 : At S_5 x 12 := tAt_sI eS_5 ha_x
  refine k_i (rm := { frames := 2, cells := 0, slots := 0, locals := 96 }) (av := [.ref x, .int (a1)]) X hw (va_runV (As := [.int (a1)]) (rest := []) (cfix X) (k_X12_isPot l G cy κ S_5 _ x (a1) (a1_z) hO_6.1 t_10 hz_a1) (cwV 1 X.2.2.2.1 gX12_cut_X12_isPot rfl rfl rfl (by decide +kernel) ⟨Nat.le_of_ble_eq_true rfl, Nat.le_of_ble_eq_true rfl⟩) (pre_V X hw _ t_10 rfl (by decide) rfl) rfl rfl hl.1 rfl (lv_room (Nat.le_of_ble_eq_true rfl)) dX12_cut_7 ⟨Nat.le_of_ble_eq_true rfl, Nat.le_of_ble_eq_true rfl⟩) 0 0 (Nat.le_of_ble_eq_true rfl) (Nat.le_of_ble_eq_true rfl) (fun rr_11 S_12 H locs hp hw hfr hnw => ?_)
  obtain ⟨e2, hp⟩ := hp
  subst e2
  rcases hp with ⟨f_13, er_14⟩ | ⟨f_13, er_14⟩ <;> subst er_14
  · have z_b_15 := trivial
    refine lv_if_eq (tgt := 21) X.1 X.2.1 dX12_cut_10 (by decide) (fun c_16 => absurd c_16 (by decide)) (fun c_16 => ?_)
    refine lv_aload_n X.1 X.2.1 dX12_cut_13 rfl (lv_at hl 0 rfl) ?_
    have pa_17 := hp_2 (by omega) (by omega)
    have pw_18 := PotW_sI pa_17 eS_5 (by decide)
    obtain ⟨pw_19, pw_20, pw_21, pw_22, pw_23, pw_24, pw_25, pw_26, pw_27, pw_28⟩ := pw_18
    obtain ⟨v_29, ev_29⟩ : ∃ v, pI S_5 1238 x = v := ⟨_, rfl⟩
    have rg_30 := gI_12_1238 hO_6.1 t_10; rw [ev_29] at rg_30
    have pz_31 : (pI S_5 1238 x).toInt = v_29.toInt := by rw [ev_29]
    have pz_32 : (pI S_5 1238 x).toInt = v_29.toInt := (congrArg Int32.toInt ev_29).trans rfl
    have px_33 : PwX S S_5 x a1_z := PwX_to (PwX_rf S x a1_z) (zA_sI eS_5) (zA_sI eS_5) (pw5 (zA_sI eS_5) (zA_sI eS_5) (zA_sI eS_5) (zA_sI eS_5) (zA_sI eS_5))
    refine lv_iload_n X.1 X.2.1 dX12_cut_14 rfl (lv_at hl 1 rfl) ?_
    have pz_34 : (pI S_5 1238 x).toInt = v_29.toInt := (congrArg Int32.toInt ev_29).trans rfl
    have kk_35 : (pI S_5 1238 x).toInt = (((qsk A)).length : Int) := by omega
    have mi_36 : MIe S_5 x (-1) := MIe_sI hp_0 hO.1 ha_x eS_5 (by decide +kernel)
    refine k_i (rm := { frames := 6, cells := 0, slots := 0, locals := 288 }) (av := [.ref x, .int (a1)]) X hw (va_runV (As := [.int (a1)]) (rest := []) (cfix X) (k_X12_cuts5 l G cy κ S_5 _ x (a1) (a1_z) hO_6.1 t_10 hz_a1 (by first | assumption | omega) (by first | assumption | omega) mi_36) (cwV 1 X.2.2.2.1 gX12_cut_X12_cuts rfl rfl rfl (by decide +kernel) ⟨Nat.le_of_ble_eq_true rfl, Nat.le_of_ble_eq_true rfl⟩) (pre_V X hw _ t_10 rfl (by decide) rfl) rfl rfl hl.1 rfl (lv_room (Nat.le_of_ble_eq_true rfl)) dX12_cut_15 ⟨Nat.le_of_ble_eq_true rfl, Nat.le_of_ble_eq_true rfl⟩) 0 0 (Nat.le_of_ble_eq_true rfl) (Nat.le_of_ble_eq_true rfl) (fun rr_37 S_38 H locs hp hw hfr hnw => ?_)
    obtain ⟨hk_39, hp⟩ := hp
    have hO_40 : Ok MCU S S_38 := hO_6.call hk_39 (by decide +kernel)
    obtain ⟨mi_41, cu_42, cc_43, cc_44, cc_45⟩ := hp
    have rg_46 := And.intro (z_lo rr_37) (z_hi rr_37)
    have zc_47 : zA S_5 x 1237 = zA S x 1237 := zA_sI eS_5
    have gr_48 : GR S_38 x := GR_set cu_42 (by omega) (GR_eq zc_47 hp_1)
    refine lv_goto (tgt := 22) X.1 X.2.1 dX12_cut_18 (by decide) ?_
    have zc_49 : zA S_5 x 1237 = zA S x 1237 := zA_sI eS_5
    have rR_50 : RowR S_38 x (3 * a1_z + 0).toNat (qb A) := RowR_eq pw_19 (zA_fr hk_39.fr t_10 (ex3 (gQ_12_1218 hO_6.1 t_10)) (by decide +kernel) (by decide +kernel)) (zA_fr hk_39.fr t_10 (ex3 (gQ_12_1219 hO_6.1 t_10)) (by decide +kernel) (by decide +kernel))
    have rR_51 : RowR S_38 x (3 * a1_z + 1).toNat (qe A) := RowR_eq pw_20 (zA_fr hk_39.fr t_10 (ex3 (gQ_12_1218 hO_6.1 t_10)) (by decide +kernel) (by decide +kernel)) (zA_fr hk_39.fr t_10 (ex3 (gQ_12_1219 hO_6.1 t_10)) (by decide +kernel) (by decide +kernel))
    have rR_52 : RowR S_38 x (3 * a1_z + 2).toNat (ql A) := RowR_eq pw_21 (zA_fr hk_39.fr t_10 (ex3 (gQ_12_1218 hO_6.1 t_10)) (by decide +kernel) (by decide +kernel)) (zA_fr hk_39.fr t_10 (ex3 (gQ_12_1219 hO_6.1 t_10)) (by decide +kernel) (by decide +kernel))
    have zR_53 : zA S_38 x 1215 a1_z.toNat = ((qst A)).toInt := (congrFun (zA_fr hk_39.fr t_10 (ex3 (gQ_12_1215 hO_6.1 t_10)) (by decide +kernel) (by decide +kernel)) _).trans pw_22
    have zR_54 : zA S_38 x 1214 a1_z.toNat = ((qse A)).toInt := (congrFun (zA_fr hk_39.fr t_10 (ex3 (gQ_12_1214 hO_6.1 t_10)) (by decide +kernel) (by decide +kernel)) _).trans pw_23
    have zR_55 : zA S_38 x 1216 a1_z.toNat = ((qdr A)).toInt := (congrFun (zA_fr hk_39.fr t_10 (ex3 (gQ_12_1216 hO_6.1 t_10)) (by decide +kernel) (by decide +kernel)) _).trans pw_25
    have zR_56 : zA S_38 x 1217 a1_z.toNat = ((qtk A)).toInt := (congrFun (zA_fr hk_39.fr t_10 (ex3 (gQ_12_1217 hO_6.1 t_10)) (by decide +kernel) (by decide +kernel)) _).trans pw_26
    have pz_57 : PlZ S_38 x (qpl A) (qsd A) := PlZ_eq pw_28 (zA_fr hk_39.fr t_10 (ex3 (gQ_12_1208 hO_6.1 t_10)) (by decide +kernel) (by decide +kernel)) (zA_fr hk_39.fr t_10 (ex3 (gQ_12_1207 hO_6.1 t_10)) (by decide +kernel) (by decide +kernel))
    have pc_58 := PotW_cut (E := Ev) pw_24 kk_35 cc_43 cc_44 cc_45 (by rw [cu_42, if_pos rfl]) rR_50 rR_51 rR_52 zR_53 zR_54 zR_55 zR_56 pz_57
    have px_59 : PwX S S_38 x a1_z := PwX_z px_33 (zA_fr hk_39.fr t_10 (ex3 (gQ_12_1218 hO_6.1 t_10)) (by decide +kernel) (by decide +kernel)) (zA_fr hk_39.fr t_10 (ex3 (gQ_12_1219 hO_6.1 t_10)) (by decide +kernel) (by decide +kernel)) cu_42 (by omega) (pw4 (fun _ => zA_fr hk_39.fr t_10 (ex3 (gQ_12_1214 hO_6.1 t_10)) (by decide +kernel) (by decide +kernel)) (fun _ => zA_fr hk_39.fr t_10 (ex3 (gQ_12_1215 hO_6.1 t_10)) (by decide +kernel) (by decide +kernel)) (fun _ => zA_fr hk_39.fr t_10 (ex3 (gQ_12_1216 hO_6.1 t_10)) (by decide +kernel) (by decide +kernel)) (fun _ => zA_fr hk_39.fr t_10 (ex3 (gQ_12_1217 hO_6.1 t_10)) (by decide +kernel) (by decide +kernel)) (fun h => absurd rfl h))
    exact ret_i X hw hr hlocks (Nat.le_of_ble_eq_true rfl) (Nat.le_of_ble_eq_true rfl) ⟨hO_40, ⟨mi_41, gr_48, fun _ => ⟨pc_58.1, pc_58.2, px_59⟩, fun h => absurd ⟨by omega, by omega⟩ h⟩⟩ dX12_cut_22
  · have z_b_60 := trivial
    refine lv_if_eq (tgt := 21) X.1 X.2.1 dX12_cut_10 (by decide) (fun c_61 => ?_) (fun c_61 => absurd c_61 (by decide))
    refine lv_iconst (v := (-1)) X.1 X.2.1 dX12_cut_21 (by decide) ?_
    have zc_62 : zA S_5 x 1237 = zA S x 1237 := zA_sI eS_5
    have mi_63 : MIe S_5 x (-1) := MIe_sI hp_0 hO.1 ha_x eS_5 (by decide +kernel)
    exact ret_i X hw hr hlocks (Nat.le_of_ble_eq_true rfl) (Nat.le_of_ble_eq_true rfl) ⟨hO_6, ⟨mi_63, (GR_eq zc_62 hp_1), fun h => (by exfalso; omega), fun _ => ⟨by decide, eS_5⟩⟩⟩ dX12_cut_22
