theorem up_rng {f g h : Nat → Int} {a k v : Int} {n : Nat} (hs : ∀ j : Nat, g j = if j = n then v else f j) (hf : ∀ j : Nat, f j = if a ≤ (j : Int) ∧ (j : Int) < k then v else h j) (hn : (n : Int) = k) (ha : a ≤ k) : ∀ j : Nat, g j = if a ≤ (j : Int) ∧ (j : Int) < k + 1 then v else h j := fun j => by
  rw [hs j, hf j]
  by_cases e : j = n
  · rw [if_pos e, if_pos (by omega)]
  · rw [if_neg e]
    by_cases e2 : a ≤ (j : Int) ∧ (j : Int) < k
    · rw [if_pos e2, if_pos (by omega)]
    · rw [if_neg e2, if_neg (by omega)]
def FilR (S : PS) (x : Nat) (p l f n : Int) : Prop := 0 ≤ p ∧ p < (pI S 1211 x).toInt ∧ 0 ≤ l ∧ l < (pI S 1201 x).toInt ∧ 1 ≤ n ∧ n ≤ 60 ∧ 0 ≤ f ∧ f + n ≤ zA S x 1202 l.toNat ∧ ∀ j : Int, f ≤ j → j < f + n → zA S x 1207 (60 * l + j).toNat = 0

set_option maxHeartbeats 4000000 in
set_option maxRecDepth 100000 in
theorem k_X12_run3 (l : Launch) (G : va_G) (cy : Nat → ClassId) (κ : Nat → Nat) (S : PS) (sz : Nat) (x : Nat) (a1 : Int32) (a1_z : Int) (a2 : Int32) (a2_z : Int) (hG : GX S) (ha_x : At S x 12) (hz_a1 : a1.toInt = a1_z) (hz_a2 : a2.toInt = a2_z) (hp_0 : MI S x) (hp_1 : GR S x) : Ci l yX12_run wsX12_run ({ frames := 9, cells := 0, slots := 0, locals := 432 }) G cy κ S sz [.ref x, .int (a1), .int (a2)] (fun (r : Int32) (S9 : PS) => Ok MTK S S9 ∧ (MI S9 x ∧ GR S9 x ∧ ZM S S9 x)) := by
  refine ent_m (cc := cX12_run) (maxL := 5) (ret := (some .int)) (by decide) rfl (Nat.le_of_ble_eq_true rfl) ?_
  intro p e s m below meth c ls X hr hlocks hin hw hl hsz
  subst hsz
  have X : Cx p c cX12_run 5 s [.ref x, .int (a1), .int (a2)].toArray wsX12_run RX12 m G cy κ (AS S s.heap.size) := X
  have hl : lv_has ls 5 [(0, .ref x), (1, .int (a1)), (2, .int (a2))] := hl
  have rg_a1 : (-2147483648) ≤ a1_z ∧ a1_z ≤ 2147483647 := by rw [← hz_a1]; exact ⟨z_lo _, z_hi _⟩
  have rg_a2 : (-2147483648) ≤ a2_z ∧ a2_z ≤ 2147483647 := by rw [← hz_a2]; exact ⟨z_lo _, z_hi _⟩
  have hO : Ok MTK S S := Ok.rf hG
  generalize hQQ : MQ below _ _ _ _ _ _ = QQ
  replace hQQ := hQQ.symm
  have hzm0 : ZM S S x := ZM_rf S x
  refine lv_aload_n X.1 X.2.1 dX12_run_0 rfl (lv_at hl 0 rfl) ?_
  refine lv_iconst (v := 0) X.1 X.2.1 dX12_run_1 (by decide) ?_
  refine r_putI (v := 0) X hw ha_x rfl 0 1200 tyX12 (by decide) rfl inn_X12_run_12 tyX12_ok nmX12 (by decide) (X.2.2.2.1 (.fieldLink RX12 161 "SilkMillModel" "thrown" "I") (by decide +kernel)) rfl (Or.inl rfl) rfl rfl (Nat.le_of_ble_eq_true rfl) (st_1200 _ _) dX12_run_2 (fun H locs hw => ?_)
  obtain ⟨S_1, eS_1⟩ : ∃ T, T = sI S 1200 x (0) := ⟨_, rfl⟩
  rw [← eS_1] at hw
  have hO_2 : Ok MTK S S_1 := hO.sI eS_1 (by decide +kernel) (uI_12_1200 hO.1 ha_x)
  have h_3 : pI S_1 1200 x = 0 := tI_sIs eS_1
  refine lv_aload_n X.1 X.2.1 dX12_run_5 rfl (lv_at hl 0 rfl) ?_
  refine lv_iload_n X.1 X.2.1 dX12_run_6 rfl (lv_at hl 1 rfl) ?_
  have t_4 : At S_1 x 12 := tAt_sI eS_1 ha_x
  refine k_i (rm := { frames := 2, cells := 0, slots := 0, locals := 96 }) (av := [.ref x, .int (a1)]) X hw (va_runV (As := [.int (a1)]) (rest := []) (cfix X) (k_X12_isPot l G cy κ S_1 _ x (a1) (a1_z) hO_2.1 t_4 hz_a1) (cwV 1 X.2.2.2.1 gX12_run_X12_isPot rfl rfl rfl (by decide +kernel) ⟨Nat.le_of_ble_eq_true rfl, Nat.le_of_ble_eq_true rfl⟩) (pre_V X hw _ t_4 rfl (by decide) rfl) rfl rfl hl.1 rfl (lv_room (Nat.le_of_ble_eq_true rfl)) dX12_run_7 ⟨Nat.le_of_ble_eq_true rfl, Nat.le_of_ble_eq_true rfl⟩) 0 0 (Nat.le_of_ble_eq_true rfl) (Nat.le_of_ble_eq_true rfl) (fun rr_5 S_6 H locs hp hw hfr hnw => ?_)
  obtain ⟨e2, hp⟩ := hp
  subst e2
  rcases hp with ⟨f_7, er_8⟩ | ⟨f_7, er_8⟩ <;> subst er_8
  · have z_b_9 := trivial
    refine lv_if_eq (tgt := 24) X.1 X.2.1 dX12_run_10 (by decide) (fun c_10 => absurd c_10 (by decide)) (fun c_10 => ?_)
    refine lv_iload_n X.1 X.2.1 dX12_run_13 rfl (lv_at hl 2 rfl) ?_
    refine lv_iconst (v := 0) X.1 X.2.1 dX12_run_14 (by decide) ?_
    refine lv_sipush (v := 300) X.1 X.2.1 dX12_run_15 (by decide) ?_
    refine k_i (rm := { frames := 1, cells := 0, slots := 0, locals := 48 }) (av := [.int (a2), .int 0, .int 300]) X hw (va_runS (As := [.int (a2), .int 0, .int 300]) (rest := []) (cfix X) (k_X12_within l G cy κ S_1 _ (a2) (a2_z) (0) (0) (300) (300) hO_2.1 hz_a2 ti_0 ti_300) (cwS 3 X.2.2.2.1 gX12_run_X12_within rfl rfl rfl (by decide +kernel) ⟨Nat.le_of_ble_eq_true rfl, Nat.le_of_ble_eq_true rfl⟩) (pre_S X hw _) rfl rfl hl.1 rfl (lv_room (Nat.le_of_ble_eq_true rfl)) dX12_run_18 ⟨Nat.le_of_ble_eq_true rfl, Nat.le_of_ble_eq_true rfl⟩) 0 0 (Nat.le_of_ble_eq_true rfl) (Nat.le_of_ble_eq_true rfl) (fun rr_11 S_12 H locs hp hw hfr hnw => ?_)
    obtain ⟨e2, hp⟩ := hp
    subst e2
    rcases hp with ⟨f_13, er_14⟩ | ⟨f_13, er_14⟩ <;> subst er_14
    · have z_b_15 := trivial
      refine lv_if_ne (tgt := 26) X.1 X.2.1 dX12_run_21 (by decide) (fun c_16 => ?_) (fun c_16 => absurd c_16 (by decide))
      refine lv_iconst (v := 0) X.1 X.2.1 dX12_run_26 (by decide) ?_
      refine lv_istore_n (lv' := [(3, .int 0), (0, .ref x), (1, .int (a1)), (2, .int (a2))]) X.1 X.2.1 dX12_run_27 rfl hl (by decide) rfl (fun ls hl => ?_)
      refine lv_iconst (v := 0) X.1 X.2.1 dX12_run_28 (by decide) ?_
      refine lv_istore (lv' := [(4, .int 0), (3, .int 0), (0, .ref x), (1, .int (a1)), (2, .int (a2))]) X.1 X.2.1 dX12_run_29 hl (by decide) rfl (fun ls hl => ?_)
      have L_17 : ∀ (n : Nat) (T_20 : PS) (H : Heap) (locs : List Loc) (ls : Array Slot) (i3_18 : Int32) (i3_18_z : Int) (i4_19 : Int32) (i4_19_z : Int), ((300 - i4_19_z).toNat = n) → (Wd G cy (AS S s.heap.size) s.heap T_20 H locs) → (i3_18.toInt = i3_18_z) → (i4_19.toInt = i4_19_z) → (0 ≤ i4_19_z ∧ i4_19_z ≤ 300) → (At T_20 x 12) → (Ok MTK S T_20) → (MIe T_20 x (-1)) → (GR T_20 x) → (ZM S T_20 x) → (lv_has ls 5 [(3, .int (i3_18)), (4, .int (i4_19)), (0, .ref x), (1, .int (a1)), (2, .int (a2))]) → W p l e ({ frames := 9, cells := 0, slots := 0, locals := 432 }) s m [.ref x, .int (a1), .int (a2)].toArray below meth c H locs 0 0 QQ (F0 m 31 ls []) := by
        intro n
        induction n using Nat.strongRecOn with
        | ind n ih_L_17 =>
        intro T_20 H locs ls i3_18 i3_18_z i4_19 i4_19_z hn hw hz_i3_18 hz_i4_19 hr_i4_19 ha_x_L_21 hO_T_20 mk_22 iv_23 iv_24 hl
        have rg_25 : (-2147483648) ≤ i3_18_z ∧ i3_18_z ≤ 2147483647 := by rw [← hz_i3_18]; exact ⟨z_lo _, z_hi _⟩
        have rg_26 : (-2147483648) ≤ i4_19_z ∧ i4_19_z ≤ 2147483647 := by rw [← hz_i4_19]; exact ⟨z_lo _, z_hi _⟩
        refine lv_iload X.1 X.2.1 dX12_run_31 (lv_at hl 1 rfl) ?_
        refine lv_iload_n X.1 X.2.1 dX12_run_33 rfl (lv_at hl 4 rfl) ?_
        refine lv_icmp_ge (tgt := 59) X.1 X.2.1 dX12_run_34 (by decide) (fun c_27 => ?_) (fun c_27 => ?_)
        · have z_b_28 := trivial
          have k_29 : i4_19_z ≥ a2_z := z_le hz_a2 hz_i4_19 c_27
          refine lv_iload_n X.1 X.2.1 dX12_run_59 rfl (lv_at hl 0 rfl) ?_
          rw [hQQ]
          exact ret_i X hw hr hlocks (Nat.le_of_ble_eq_true rfl) (Nat.le_of_ble_eq_true rfl) ⟨hO_T_20, ⟨mk_22, iv_23, iv_24⟩⟩ dX12_run_60
        · have z_b_30 := trivial
          have k_31 : i4_19_z < a2_z := z_nle hz_a2 hz_i4_19 c_27
          refine lv_iload_n X.1 X.2.1 dX12_run_37 rfl (lv_at hl 0 rfl) ?_
          refine lv_aload_n X.1 X.2.1 dX12_run_38 rfl (lv_at hl 2 rfl) ?_
          refine lv_iload_n X.1 X.2.1 dX12_run_39 rfl (lv_at hl 3 rfl) ?_
          refine k_i (rm := { frames := 8, cells := 0, slots := 0, locals := 384 }) (av := [.ref x, .int (a1)]) X hw (va_runV (As := [.int (a1)]) (rest := [.int (i3_18)]) (cfix X) (k_X12_tick3 l G cy κ T_20 _ x (a1) (a1_z) hO_T_20.1 ha_x_L_21 hz_a1 (by first | assumption | omega) (by first | assumption | omega) mk_22 iv_23) (cwV 1 X.2.2.2.1 gX12_run_X12_tick rfl rfl rfl (by decide +kernel) ⟨Nat.le_of_ble_eq_true rfl, Nat.le_of_ble_eq_true rfl⟩) (pre_V X hw _ ha_x_L_21 rfl (by decide) rfl) rfl rfl hl.1 rfl (lv_room (Nat.le_of_ble_eq_true rfl)) dX12_run_40 ⟨Nat.le_of_ble_eq_true rfl, Nat.le_of_ble_eq_true rfl⟩) 0 0 (Nat.le_of_ble_eq_true rfl) (Nat.le_of_ble_eq_true rfl) (fun rr_32 S_33 H locs hp hw hfr hnw => ?_)
          obtain ⟨hk_34, hp⟩ := hp
          have hO_35 : Ok MTK S S_33 := hO_T_20.call hk_34 (by decide +kernel)
          rcases hp with ⟨f_36, er_37⟩ | ⟨f_36, er_37⟩ <;> subst er_37
          · have z_b_38 := trivial
            obtain ⟨mi_39, gr_40, zm_41⟩ := f_36
            refine lv_if_eq (tgt := 50) X.1 X.2.1 dX12_run_43 (by decide) (fun c_42 => absurd c_42 (by decide)) (fun c_42 => ?_)
            refine lv_iconst (v := 1) X.1 X.2.1 dX12_run_46 (by decide) ?_
            refine lv_goto (tgt := 51) X.1 X.2.1 dX12_run_47 (by decide) ?_
            refine lv_iadd X.1 X.2.1 dX12_run_51 ?_
            refine lv_topi (fun v_43 ev_43 => ?_)
            have rg_44 := And.intro (z_lo v_43) (z_hi v_43)
            refine lv_istore_n (lv' := [(3, .int (v_43)), (4, .int (i4_19)), (0, .ref x), (1, .int (a1)), (2, .int (a2))]) X.1 X.2.1 dX12_run_52 rfl hl (by decide) rfl (fun ls hl => ?_)
            obtain ⟨x_45, ex_45⟩ : ∃ y : Int32, y = i4_19 + 1 := ⟨_, rfl⟩
            have z_46 : x_45.toInt = i4_19_z + 1 := z_add ex_45 hz_i4_19 ti_1 (by omega) (by omega)
            refine lv_iinc (v := x_45) (lv' := [(4, .int (x_45)), (3, .int (v_43)), (0, .ref x), (1, .int (a1)), (2, .int (a2))]) X.1 X.2.1 dX12_run_53 hl (k := 1) rfl (by rw [ex_45]; rfl) (by decide) rfl (fun ls hl => ?_)
            refine lv_goto (tgt := 31) X.1 X.2.1 dX12_run_56 (by decide) ?_
            have t_47 : At S_33 x 12 := hk_34.fr.at ha_x_L_21
            have zm_48 : ZM S S_33 x := ZM_tr iv_24 zm_41
            exact ih_L_17 _ (by omega) _ _ _ _ (v_43) (v_43.toInt) (x_45) (x_45.toInt) rfl hw rfl rfl (by omega) t_47 hO_35 mi_39 gr_40 zm_48 (lv_sub hl [1, 0, 2, 3, 4] rfl)
          · have z_b_49 := trivial
            obtain ⟨mi_50, gr_51, zm_52⟩ := f_36
            refine lv_if_eq (tgt := 50) X.1 X.2.1 dX12_run_43 (by decide) (fun c_53 => ?_) (fun c_53 => absurd c_53 (by decide))
            refine lv_iconst (v := 0) X.1 X.2.1 dX12_run_50 (by decide) ?_
            refine lv_iadd X.1 X.2.1 dX12_run_51 ?_
            refine lv_topi (fun v_54 ev_54 => ?_)
            have z_55 : v_54.toInt = i3_18_z + 0 := z_add ev_54 hz_i3_18 ti_0 (by omega) (by omega)
            refine lv_istore_n (lv' := [(3, .int (v_54)), (4, .int (i4_19)), (0, .ref x), (1, .int (a1)), (2, .int (a2))]) X.1 X.2.1 dX12_run_52 rfl hl (by decide) rfl (fun ls hl => ?_)
            obtain ⟨x_56, ex_56⟩ : ∃ y : Int32, y = i4_19 + 1 := ⟨_, rfl⟩
            have z_57 : x_56.toInt = i4_19_z + 1 := z_add ex_56 hz_i4_19 ti_1 (by omega) (by omega)
            refine lv_iinc (v := x_56) (lv' := [(4, .int (x_56)), (3, .int (v_54)), (0, .ref x), (1, .int (a1)), (2, .int (a2))]) X.1 X.2.1 dX12_run_53 hl (k := 1) rfl (by rw [ex_56]; rfl) (by decide) rfl (fun ls hl => ?_)
            refine lv_goto (tgt := 31) X.1 X.2.1 dX12_run_56 (by decide) ?_
            have t_58 : At S_33 x 12 := hk_34.fr.at ha_x_L_21
            have zm_59 : ZM S S_33 x := ZM_tr iv_24 zm_52
            exact ih_L_17 _ (by omega) _ _ _ _ (v_54) ((i3_18_z + 0)) (x_56) (x_56.toInt) rfl hw z_55 rfl (by omega) t_58 hO_35 mi_50 gr_51 zm_59 (lv_sub hl [1, 0, 2, 3, 4] rfl)
      have mi_60 : MIe S_1 x (-1) := MIe_sI hp_0 hO.1 ha_x eS_1 (by decide +kernel)
      have zc_61 : zA S_1 x 1237 = zA S x 1237 := zA_sI eS_1
      have zm_62 : ZM S S_1 x := ZM_eq hzm0 (zA_sI eS_1)
      exact L_17 _ _ _ _ _ (0) (0) (0) (0) rfl hw ti_0 ti_0 (by omega) t_4 hO_2 mi_60 (GR_eq zc_61 hp_1) zm_62 (lv_sub hl [1, 0, 2, 3, 4] rfl)
    · have z_b_63 := trivial
      refine lv_if_ne (tgt := 26) X.1 X.2.1 dX12_run_21 (by decide) (fun c_64 => absurd c_64 (by decide)) (fun c_64 => ?_)
      refine lv_iconst (v := (-1)) X.1 X.2.1 dX12_run_24 (by decide) ?_
      have mi_65 : MIe S_1 x (-1) := MIe_sI hp_0 hO.1 ha_x eS_1 (by decide +kernel)
      have zc_66 : zA S_1 x 1237 = zA S x 1237 := zA_sI eS_1
      have zm_67 : ZM S S_1 x := ZM_eq hzm0 (zA_sI eS_1)
      rw [hQQ]
      exact ret_i X hw hr hlocks (Nat.le_of_ble_eq_true rfl) (Nat.le_of_ble_eq_true rfl) ⟨hO_2, ⟨mi_65, (GR_eq zc_66 hp_1), zm_67⟩⟩ dX12_run_25
  · have z_b_68 := trivial
    refine lv_if_eq (tgt := 24) X.1 X.2.1 dX12_run_10 (by decide) (fun c_69 => ?_) (fun c_69 => absurd c_69 (by decide))
    refine lv_iconst (v := (-1)) X.1 X.2.1 dX12_run_24 (by decide) ?_
    have mi_70 : MIe S_1 x (-1) := MIe_sI hp_0 hO.1 ha_x eS_1 (by decide +kernel)
    have zc_71 : zA S_1 x 1237 = zA S x 1237 := zA_sI eS_1
    have zm_72 : ZM S S_1 x := ZM_eq hzm0 (zA_sI eS_1)
    rw [hQQ]
    exact ret_i X hw hr hlocks (Nat.le_of_ble_eq_true rfl) (Nat.le_of_ble_eq_true rfl) ⟨hO_2, ⟨mi_70, (GR_eq zc_71 hp_1), zm_72⟩⟩ dX12_run_25
set_option maxHeartbeats 4000000 in
set_option maxRecDepth 100000 in
theorem k_X12_fill3 (l : Launch) (G : va_G) (cy : Nat → ClassId) (κ : Nat → Nat) (S : PS) (sz : Nat) (x : Nat) (a1 : Int32) (a1_z : Int) (a2 : Int32) (a2_z : Int) (a3 : Int32) (a3_z : Int) (a4 : Int32) (a4_z : Int) (hG : GX S) (ha_x : At S x 12) (hz_a1 : a1.toInt = a1_z) (hz_a2 : a2.toInt = a2_z) (hz_a3 : a3.toInt = a3_z) (hz_a4 : a4.toInt = a4_z) (hp_0 : MI S x) : Ci l yX12_fill wsX12_fill ({ frames := 3, cells := 0, slots := 0, locals := 144 }) G cy κ S sz [.ref x, .int (a1), .int (a2), .int (a3), .int (a4)] (fun (r : Int32) (S9 : PS) => Ok MFI S S9 ∧ (((MI S9 x ∧ FilR S x a1_z a2_z a3_z a4_z ∧ ∀ j : Nat, zA S9 x 1207 j = if 60 * a2_z + a3_z ≤ (j : Int) ∧ (j : Int) < 60 * a2_z + (a3_z + a4_z) then 1 else zA S x 1207 j) ∧ r = 1) ∨ ((MI S9 x ∧ ¬ FilR S x a1_z a2_z a3_z a4_z ∧ zA S9 x 1207 = zA S x 1207) ∧ r = 0))) := by
  refine ent_m (cc := cX12_fill) (maxL := 6) (ret := (some .boolean)) (by decide) rfl (Nat.le_of_ble_eq_true rfl) ?_
  intro p e s m below meth c ls X hr hlocks hin hw hl hsz
  subst hsz
  have X : Cx p c cX12_fill 6 s [.ref x, .int (a1), .int (a2), .int (a3), .int (a4)].toArray wsX12_fill RX12 m G cy κ (AS S s.heap.size) := X
  have hl : lv_has ls 6 [(0, .ref x), (1, .int (a1)), (2, .int (a2)), (3, .int (a3)), (4, .int (a4))] := hl
  have rg_a1 : (-2147483648) ≤ a1_z ∧ a1_z ≤ 2147483647 := by rw [← hz_a1]; exact ⟨z_lo _, z_hi _⟩
  have rg_a2 : (-2147483648) ≤ a2_z ∧ a2_z ≤ 2147483647 := by rw [← hz_a2]; exact ⟨z_lo _, z_hi _⟩
  have rg_a3 : (-2147483648) ≤ a3_z ∧ a3_z ≤ 2147483647 := by rw [← hz_a3]; exact ⟨z_lo _, z_hi _⟩
  have rg_a4 : (-2147483648) ≤ a4_z ∧ a4_z ≤ 2147483647 := by rw [← hz_a4]; exact ⟨z_lo _, z_hi _⟩
  have hO : Ok MFI S S := Ok.rf hG
  generalize hQQ : MQ below _ _ _ _ _ _ = QQ
  replace hQQ := hQQ.symm
  obtain ⟨v_1, ev_1⟩ : ∃ v, pI S 1201 x = v := ⟨_, rfl⟩
  have rg_2 := gI_12_1201 hO.1 ha_x; rw [ev_1] at rg_2
  have pz_3 : (pI S 1201 x).toInt = v_1.toInt := by rw [ev_1]
  have pz_4 : (pI S 1201 x).toInt = v_1.toInt := (congrArg Int32.toInt ev_1).trans rfl
  obtain ⟨v_5, ev_5⟩ : ∃ v, pI S 1211 x = v := ⟨_, rfl⟩
  have rg_6 := gI_12_1211 hO.1 ha_x; rw [ev_5] at rg_6
  have pz_7 : (pI S 1211 x).toInt = v_5.toInt := by rw [ev_5]
  have pz_8 : (pI S 1211 x).toInt = v_5.toInt := (congrArg Int32.toInt ev_5).trans rfl
  refine lv_aload_n X.1 X.2.1 dX12_fill_0 rfl (lv_at hl 0 rfl) ?_
  refine lv_iconst (v := 0) X.1 X.2.1 dX12_fill_1 (by decide) ?_
  refine r_putI (v := 0) X hw ha_x rfl 0 1200 tyX12 (by decide) rfl inn_X12_fill_12 tyX12_ok nmX12 (by decide) (X.2.2.2.1 (.fieldLink RX12 161 "SilkMillModel" "thrown" "I") (by decide +kernel)) rfl (Or.inl rfl) rfl rfl (Nat.le_of_ble_eq_true rfl) (st_1200 _ _) dX12_fill_2 (fun H locs hw => ?_)
  obtain ⟨S_9, eS_9⟩ : ∃ T, T = sI S 1200 x (0) := ⟨_, rfl⟩
  rw [← eS_9] at hw
  have hO_10 : Ok MFI S S_9 := hO.sI eS_9 (by decide +kernel) (uI_12_1200 hO.1 ha_x)
  have h_11 : pI S_9 1200 x = 0 := tI_sIs eS_9
  refine lv_aload_n X.1 X.2.1 dX12_fill_5 rfl (lv_at hl 0 rfl) ?_
  refine lv_iload_n X.1 X.2.1 dX12_fill_6 rfl (lv_at hl 1 rfl) ?_
  have t_12 : pI S_9 1211 x = v_5 := tI_sI eS_9 rfl ev_5
  have pz_13 : (pI S_9 1211 x).toInt = v_5.toInt := (congrArg Int32.toInt t_12).trans rfl
  have t_14 : At S_9 x 12 := tAt_sI eS_9 ha_x
  refine k_i (rm := { frames := 2, cells := 0, slots := 0, locals := 96 }) (av := [.ref x, .int (a1)]) X hw (va_runV (As := [.int (a1)]) (rest := []) (cfix X) (k_X12_isPot l G cy κ S_9 _ x (a1) (a1_z) hO_10.1 t_14 hz_a1) (cwV 1 X.2.2.2.1 gX12_fill_X12_isPot rfl rfl rfl (by decide +kernel) ⟨Nat.le_of_ble_eq_true rfl, Nat.le_of_ble_eq_true rfl⟩) (pre_V X hw _ t_14 rfl (by decide) rfl) rfl rfl hl.1 rfl (lv_room (Nat.le_of_ble_eq_true rfl)) dX12_fill_7 ⟨Nat.le_of_ble_eq_true rfl, Nat.le_of_ble_eq_true rfl⟩) 0 0 (Nat.le_of_ble_eq_true rfl) (Nat.le_of_ble_eq_true rfl) (fun rr_15 S_16 H locs hp hw hfr hnw => ?_)
  obtain ⟨e2, hp⟩ := hp
  subst e2
  rcases hp with ⟨f_17, er_18⟩ | ⟨f_17, er_18⟩ <;> subst er_18
  · have z_b_19 := trivial
    refine lv_if_eq (tgt := 55) X.1 X.2.1 dX12_fill_10 (by decide) (fun c_20 => absurd c_20 (by decide)) (fun c_20 => ?_)
    refine lv_iload_n X.1 X.2.1 dX12_fill_13 rfl (lv_at hl 2 rfl) ?_
    refine lv_iconst (v := 0) X.1 X.2.1 dX12_fill_14 (by decide) ?_
    refine lv_aload_n X.1 X.2.1 dX12_fill_15 rfl (lv_at hl 0 rfl) ?_
    have t_21 : pI S_9 1201 x = v_1 := tI_sI eS_9 rfl ev_1
    refine r_getI (g := 1201) (x := v_1) X hw t_14 rfl 1 t_21 (by decide) rfl inn_X12_fill_12 (by decide) (X.2.2.2.1 (.fieldLink RX12 165 "SilkMillModel" "lots" "I") (by decide +kernel)) rfl (gv_1201 _ _) dX12_fill_16 ?_
    refine lv_iconst (v := 1) X.1 X.2.1 dX12_fill_19 (by decide) ?_
    refine lv_isub X.1 X.2.1 dX12_fill_20 ?_
    refine lv_topi (fun v_22 ev_22 => ?_)
    have z_23 : v_22.toInt = v_1.toInt - 1 := z_sub ev_22 rfl ti_1 (by omega) (by omega)
    refine k_i (rm := { frames := 1, cells := 0, slots := 0, locals := 48 }) (av := [.int (a2), .int 0, .int (v_22)]) X hw (va_runS (As := [.int (a2), .int 0, .int (v_22)]) (rest := []) (cfix X) (k_X12_within l G cy κ S_9 _ (a2) (a2_z) (0) (0) (v_22) ((v_1.toInt - 1)) hO_10.1 hz_a2 ti_0 z_23) (cwS 3 X.2.2.2.1 gX12_fill_X12_within rfl rfl rfl (by decide +kernel) ⟨Nat.le_of_ble_eq_true rfl, Nat.le_of_ble_eq_true rfl⟩) (pre_S X hw _) rfl rfl hl.1 rfl (lv_room (Nat.le_of_ble_eq_true rfl)) dX12_fill_21 ⟨Nat.le_of_ble_eq_true rfl, Nat.le_of_ble_eq_true rfl⟩) 0 0 (Nat.le_of_ble_eq_true rfl) (Nat.le_of_ble_eq_true rfl) (fun rr_24 S_25 H locs hp hw hfr hnw => ?_)
    obtain ⟨e2, hp⟩ := hp
    subst e2
    rcases hp with ⟨f_26, er_27⟩ | ⟨f_26, er_27⟩ <;> subst er_27
    · have z_b_28 := trivial
      refine lv_if_eq (tgt := 55) X.1 X.2.1 dX12_fill_24 (by decide) (fun c_29 => absurd c_29 (by decide)) (fun c_29 => ?_)
      refine lv_iload X.1 X.2.1 dX12_fill_27 (lv_at hl 4 rfl) ?_
      refine lv_iconst (v := 1) X.1 X.2.1 dX12_fill_29 (by decide) ?_
      refine lv_bipush (v := 60) X.1 X.2.1 dX12_fill_30 (by decide) ?_
      refine k_i (rm := { frames := 1, cells := 0, slots := 0, locals := 48 }) (av := [.int (a4), .int 1, .int 60]) X hw (va_runS (As := [.int (a4), .int 1, .int 60]) (rest := []) (cfix X) (k_X12_within l G cy κ S_9 _ (a4) (a4_z) (1) (1) (60) (60) hO_10.1 hz_a4 ti_1 ti_60) (cwS 3 X.2.2.2.1 gX12_fill_X12_within rfl rfl rfl (by decide +kernel) ⟨Nat.le_of_ble_eq_true rfl, Nat.le_of_ble_eq_true rfl⟩) (pre_S X hw _) rfl rfl hl.1 rfl (lv_room (Nat.le_of_ble_eq_true rfl)) dX12_fill_32 ⟨Nat.le_of_ble_eq_true rfl, Nat.le_of_ble_eq_true rfl⟩) 0 0 (Nat.le_of_ble_eq_true rfl) (Nat.le_of_ble_eq_true rfl) (fun rr_30 S_31 H locs hp hw hfr hnw => ?_)
      obtain ⟨e2, hp⟩ := hp
      subst e2
      rcases hp with ⟨f_32, er_33⟩ | ⟨f_32, er_33⟩ <;> subst er_33
      · have z_b_34 := trivial
        refine lv_if_eq (tgt := 55) X.1 X.2.1 dX12_fill_35 (by decide) (fun c_35 => absurd c_35 (by decide)) (fun c_35 => ?_)
        refine lv_iload_n X.1 X.2.1 dX12_fill_38 rfl (lv_at hl 3 rfl) ?_
        refine lv_if_lt (tgt := 55) X.1 X.2.1 dX12_fill_39 (by decide) (fun c_36 => ?_) (fun c_36 => ?_)
        · have z_b_37 := trivial
          have k_38 : a3_z < 0 := z_lt hz_a3 ti_0 c_36
          refine lv_iconst (v := 0) X.1 X.2.1 dX12_fill_55 (by decide) ?_
          have mi_39 : MIe S_9 x (-1) := MIe_sI hp_0 hO.1 ha_x eS_9 (by decide +kernel)
          have zc_40 : zA S_9 x 1207 = zA S x 1207 := zA_sI eS_9
          rw [hQQ]
          exact ret_z X hw hr hlocks (Nat.le_of_ble_eq_true rfl) (Nat.le_of_ble_eq_true rfl) (by decide) ⟨hO_10, Or.inr ⟨⟨mi_39, fun h => by obtain ⟨h1, h2, h3, h4, h5, h6, h7, h8, -⟩ := h; omega, zc_40⟩, rfl⟩⟩ dX12_fill_56
        · have z_b_41 := trivial
          have k_42 : a3_z ≥ 0 := z_nlt hz_a3 ti_0 c_36
          refine lv_iload_n X.1 X.2.1 dX12_fill_42 rfl (lv_at hl 3 rfl) ?_
          refine lv_aload_n X.1 X.2.1 dX12_fill_43 rfl (lv_at hl 0 rfl) ?_
          obtain ⟨q_43, h_44, h_45, h_46⟩ := gQ_12_1202 hO_10.1 t_14
          refine r_getR (g := 1202) X hw t_14 rfl 2 h_44 (by decide) rfl inn_X12_fill_12 (by decide) (X.2.2.2.1 (.fieldLink RX12 7 "SilkMillModel" "lotMany" "[I") (by decide +kernel)) rfl (gv_1202 _ _) dX12_fill_44 ?_
          refine lv_iload_n X.1 X.2.1 dX12_fill_47 rfl (lv_at hl 2 rfl) ?_
          refine r_iald X hw h_45 rfl (by rw [h_46]; exact z_ix hz_a2 (by omega) (by omega)) dX12_fill_48 ?_
          refine lv_topi (fun v_47 ev_47 => ?_)
          have z_48 := gE_254 hO_10.1 h_45 (Int32.toNatClampNeg (a2)); rw [← ev_47] at z_48
          have ev_47 := ev_47.symm
          have zf_49 : zA S_9 x 1202 (a2_z).toNat = v_47.toInt := (zA_of h_44 hz_a2 (by omega) ev_47)
          have zc_50 : zA S_9 x 1202 = zA S x 1202 := zA_sI eS_9
          have zz_51 := congrFun zc_50 a2_z.toNat
          refine lv_iload X.1 X.2.1 dX12_fill_49 (lv_at hl 4 rfl) ?_
          refine lv_isub X.1 X.2.1 dX12_fill_51 ?_
          refine lv_topi (fun v_52 ev_52 => ?_)
          have z_53 : v_52.toInt = v_47.toInt - a4_z := z_sub ev_52 rfl hz_a4 (by omega) (by omega)
          refine lv_icmp_le (tgt := 57) X.1 X.2.1 dX12_fill_52 (by decide) (fun c_54 => ?_) (fun c_54 => ?_)
          · have z_b_55 := trivial
            have k_56 : a3_z ≤ (v_47.toInt - a4_z) := z_le hz_a3 z_53 c_54
            refine lv_iload_n X.1 X.2.1 dX12_fill_57 rfl (lv_at hl 3 rfl) ?_
            refine lv_istore (lv' := [(5, .int (a3)), (0, .ref x), (1, .int (a1)), (2, .int (a2)), (3, .int (a3)), (4, .int (a4))]) X.1 X.2.1 dX12_fill_58 hl (by decide) rfl (fun ls hl => ?_)
            have L_57 : ∀ (n : Nat) (H : Heap) (locs : List Loc) (ls : Array Slot) (i5_58 : Int32) (i5_58_z : Int), ((a3_z + a4_z - i5_58_z).toNat = n) → (Wd G cy (AS S s.heap.size) s.heap S_9 H locs) → (i5_58.toInt = i5_58_z) → (0 ≤ i5_58_z ∧ i5_58_z ≤ 60) → ((∀ j : Int, a3_z ≤ j → j < i5_58_z → zA S_9 x 1207 (60 * a2_z + j).toNat = 0)) → (a3_z ≤ i5_58_z) → (lv_has ls 6 [(5, .int (i5_58)), (0, .ref x), (1, .int (a1)), (2, .int (a2)), (3, .int (a3)), (4, .int (a4))]) → W p l e ({ frames := 3, cells := 0, slots := 0, locals := 144 }) s m [.ref x, .int (a1), .int (a2), .int (a3), .int (a4)].toArray below meth c H locs 0 0 QQ (F0 m 60 ls []) := by
              intro n
              induction n using Nat.strongRecOn with
              | ind n ih_L_57 =>
              intro H locs ls i5_58 i5_58_z hn hw hz_i5_58 hr_i5_58 iv_59 iv_60 hl
              have rg_61 : (-2147483648) ≤ i5_58_z ∧ i5_58_z ≤ 2147483647 := by rw [← hz_i5_58]; exact ⟨z_lo _, z_hi _⟩
              have zc_62 : zA S_9 x 1207 = zA S x 1207 := zA_sI eS_9
              refine lv_iload X.1 X.2.1 dX12_fill_60 (lv_at hl 0 rfl) ?_
              refine lv_iload_n X.1 X.2.1 dX12_fill_62 rfl (lv_at hl 4 rfl) ?_
              refine lv_iload X.1 X.2.1 dX12_fill_63 (lv_at hl 5 rfl) ?_
              refine lv_iadd X.1 X.2.1 dX12_fill_65 ?_
              refine lv_topi (fun v_63 ev_63 => ?_)
              have z_64 : v_63.toInt = a3_z + a4_z := z_add ev_63 hz_a3 hz_a4 (by omega) (by omega)
              refine lv_icmp_ge (tgt := 92) X.1 X.2.1 dX12_fill_66 (by decide) (fun c_65 => ?_) (fun c_65 => ?_)
              · have z_b_66 := trivial
                have k_67 : i5_58_z ≥ (a3_z + a4_z) := z_le z_64 hz_i5_58 c_65
                refine lv_iload_n X.1 X.2.1 dX12_fill_92 rfl (lv_at hl 4 rfl) ?_
                refine lv_istore (lv' := [(5, .int (a3)), (0, .ref x), (1, .int (a1)), (2, .int (a2)), (3, .int (a3)), (4, .int (a4))]) X.1 X.2.1 dX12_fill_93 hl (by decide) rfl (fun ls hl => ?_)
                have L_68 : ∀ (n : Nat) (T_70 : PS) (H : Heap) (locs : List Loc) (ls : Array Slot) (i5_69 : Int32) (i5_69_z : Int), ((a3_z + a4_z - i5_69_z).toNat = n) → (Wd G cy (AS S s.heap.size) s.heap T_70 H locs) → (i5_69.toInt = i5_69_z) → (0 ≤ i5_69_z ∧ i5_69_z ≤ 60) → (At T_70 x 12) → (Ok MFI S T_70) → (MIe T_70 x (-1)) → ((∀ j : Int, i5_69_z ≤ j → j < a3_z + a4_z → zA T_70 x 1207 (60 * a2_z + j).toNat = 0)) → (a3_z ≤ i5_69_z) → ((∀ j : Nat, zA T_70 x 1207 j = if 60 * a2_z + a3_z ≤ (j : Int) ∧ (j : Int) < 60 * a2_z + i5_69_z then 1 else zA S x 1207 j)) → (i5_69_z ≤ a3_z + a4_z) → (pI T_70 1201 x = v_1) → (lv_has ls 6 [(5, .int (i5_69)), (0, .ref x), (1, .int (a1)), (2, .int (a2)), (3, .int (a3)), (4, .int (a4))]) → W p l e ({ frames := 3, cells := 0, slots := 0, locals := 144 }) s m [.ref x, .int (a1), .int (a2), .int (a3), .int (a4)].toArray below meth c H locs 0 0 QQ (F0 m 95 ls []) := by
                  intro n
                  induction n using Nat.strongRecOn with
                  | ind n ih_L_68 =>
                  intro T_70 H locs ls i5_69 i5_69_z hn hw hz_i5_69 hr_i5_69 ha_x_L_71 hO_T_70 mk_72 iv_73 iv_74 iv_75 iv_76 ik_77 hl
                  have rg_78 : (-2147483648) ≤ i5_69_z ∧ i5_69_z ≤ 2147483647 := by rw [← hz_i5_69]; exact ⟨z_lo _, z_hi _⟩
                  have pz_79 : (pI T_70 1201 x).toInt = v_1.toInt := (congrArg Int32.toInt ik_77).trans rfl
                  refine lv_iload X.1 X.2.1 dX12_fill_95 (lv_at hl 0 rfl) ?_
                  refine lv_iload_n X.1 X.2.1 dX12_fill_97 rfl (lv_at hl 4 rfl) ?_
                  refine lv_iload X.1 X.2.1 dX12_fill_98 (lv_at hl 5 rfl) ?_
                  refine lv_iadd X.1 X.2.1 dX12_fill_100 ?_
                  refine lv_topi (fun v_80 ev_80 => ?_)
                  have z_81 : v_80.toInt = a3_z + a4_z := z_add ev_80 hz_a3 hz_a4 (by omega) (by omega)
                  refine lv_icmp_ge (tgt := 129) X.1 X.2.1 dX12_fill_101 (by decide) (fun c_82 => ?_) (fun c_82 => ?_)
                  · have z_b_83 := trivial
                    have k_84 : i5_69_z ≥ (a3_z + a4_z) := z_le z_81 hz_i5_69 c_82
                    refine lv_iconst (v := 1) X.1 X.2.1 dX12_fill_129 (by decide) ?_
                    rw [hQQ]
                    exact ret_z X hw hr hlocks (Nat.le_of_ble_eq_true rfl) (Nat.le_of_ble_eq_true rfl) (by decide) ⟨hO_T_70, Or.inl ⟨⟨mk_72, ⟨by omega, by omega, by omega, by omega, by omega, by omega, by omega, by omega, fun j h1 h2 => (congrFun zc_62 _).symm.trans (iv_59 j h1 (by omega))⟩, fun j => by rw [show a3_z + a4_z = i5_69_z by omega]; exact iv_75 j⟩, rfl⟩⟩ dX12_fill_130
                  · have z_b_85 := trivial
                    have k_86 : i5_69_z < (a3_z + a4_z) := z_nle z_81 hz_i5_69 c_82
                    refine lv_aload_n X.1 X.2.1 dX12_fill_104 rfl (lv_at hl 1 rfl) ?_
                    refine lv_iload_n X.1 X.2.1 dX12_fill_105 rfl (lv_at hl 2 rfl) ?_
                    refine lv_iconst (v := 0) X.1 X.2.1 dX12_fill_106 (by decide) ?_
                    refine lv_bipush (v := 60) X.1 X.2.1 dX12_fill_107 (by decide) ?_
                    refine lv_iload_n X.1 X.2.1 dX12_fill_109 rfl (lv_at hl 3 rfl) ?_
                    refine lv_imul X.1 X.2.1 dX12_fill_110 ?_
                    refine lv_topi (fun v_87 ev_87 => ?_)
                    have z_88 : v_87.toInt = 60 * a2_z := z_mul ev_87 ti_60 hz_a2 (by omega) (by omega)
                    refine lv_iload X.1 X.2.1 dX12_fill_111 (lv_at hl 0 rfl) ?_
                    refine lv_iadd X.1 X.2.1 dX12_fill_113 ?_
                    refine lv_topi (fun v_89 ev_89 => ?_)
                    have z_90 : v_89.toInt = (60 * a2_z) + i5_69_z := z_add ev_89 z_88 hz_i5_69 (by omega) (by omega)
                    refine lv_aload_n X.1 X.2.1 dX12_fill_114 rfl (lv_at hl 1 rfl) ?_
                    refine lv_iload_n X.1 X.2.1 dX12_fill_115 rfl (lv_at hl 2 rfl) ?_
                    refine lv_iconst (v := 0) X.1 X.2.1 dX12_fill_116 (by decide) ?_
                    refine k_i (rm := { frames := 1, cells := 0, slots := 0, locals := 48 }) (av := [.ref x, .int (a1), .int 0]) X hw (va_runV (As := [.int (a1), .int 0]) (rest := [.int (v_89), .int 0, .int (a1), .ref x]) (cfix X) (k_X12_many2 l G cy κ T_70 _ x (a1) (a1_z) (0) (0) hO_T_70.1 ha_x_L_71 hz_a1 ti_0 (by first | assumption | omega) (by first | assumption | omega) (by first | assumption | omega) (by first | assumption | omega)) (cwV 2 X.2.2.2.1 gX12_fill_X12_many rfl rfl rfl (by decide +kernel) ⟨Nat.le_of_ble_eq_true rfl, Nat.le_of_ble_eq_true rfl⟩) (pre_V X hw _ ha_x_L_71 rfl (by decide) rfl) rfl rfl hl.1 rfl (lv_room (Nat.le_of_ble_eq_true rfl)) dX12_fill_117 ⟨Nat.le_of_ble_eq_true rfl, Nat.le_of_ble_eq_true rfl⟩) 0 0 (Nat.le_of_ble_eq_true rfl) (Nat.le_of_ble_eq_true rfl) (fun rr_91 S_92 H locs hp hw hfr hnw => ?_)
                    obtain ⟨e2, hp⟩ := hp
                    subst e2
                    obtain ⟨f_93, f_94, f_95⟩ := hp
                    have hz_96 : zA T_70 x 1207 (((60 * a2_z) + i5_69_z)).toNat = 0 := iv_73 i5_69_z (by omega) (by omega)
                    have fr_97 : Fre T_70 x (((60 * a2_z) + i5_69_z)) := Fre_of mk_72 hz_96 (Or.inl (by omega))
                    have al_98 := ((MI_1 mk_72 (c := ((60 * a2_z) + i5_69_z)) (by omega) (by omega)).2 (by omega)).2 (by omega) (by omega)
                    refine k_v (rm := { frames := 1, cells := 0, slots := 0, locals := 48 }) (av := [.ref x, .int (a1), .int 0, .int (v_89), .int (rr_91)]) X hw (va_runV (As := [.int (a1), .int 0, .int (v_89), .int (rr_91)]) (rest := []) (cfix X) (k_X12_comes l G cy κ T_70 _ x (a1) (a1_z) (0) (0) (v_89) (((60 * a2_z) + i5_69_z)) (rr_91) (rr_91.toInt) hO_T_70.1 ha_x_L_71 hz_a1 ti_0 z_90 rfl (by first | assumption | omega) (by first | assumption | omega) (by first | assumption | omega) (by first | assumption | omega) (by first | assumption | omega) (by first | assumption | omega) (by first | assumption | omega) (by first | assumption | omega) (by first | assumption | omega) (by first | assumption | omega) mk_72 (by first | assumption | omega) (by first | assumption | omega)) (cwV 4 X.2.2.2.1 gX12_fill_X12_comes rfl rfl rfl (by decide +kernel) ⟨Nat.le_of_ble_eq_true rfl, Nat.le_of_ble_eq_true rfl⟩) (pre_V X hw _ ha_x_L_71 rfl (by decide) rfl) rfl rfl hl.1 rfl (lv_room (Nat.le_of_ble_eq_true rfl)) dX12_fill_120 ⟨Nat.le_of_ble_eq_true rfl, Nat.le_of_ble_eq_true rfl⟩) 0 0 (Nat.le_of_ble_eq_true rfl) (Nat.le_of_ble_eq_true rfl) (fun S_100 H locs hp hw hfr hnw => ?_)
                    obtain ⟨hk_101, hp⟩ := hp
                    have hO_102 : Ok MFI S S_100 := hO_T_70.call hk_101 (by decide +kernel)
                    obtain ⟨mi_103, cm_104, cs_105⟩ := hp
                    obtain ⟨x_106, ex_106⟩ : ∃ y : Int32, y = i5_69 + 1 := ⟨_, rfl⟩
                    have z_107 : x_106.toInt = i5_69_z + 1 := z_add ex_106 hz_i5_69 ti_1 (by omega) (by omega)
                    refine lv_iinc (v := x_106) (lv' := [(5, .int (x_106)), (0, .ref x), (1, .int (a1)), (2, .int (a2)), (3, .int (a3)), (4, .int (a4))]) X.1 X.2.1 dX12_fill_123 hl (k := 0) rfl (by rw [ex_106]; rfl) (by decide) rfl (fun ls hl => ?_)
                    refine lv_goto (tgt := 95) X.1 X.2.1 dX12_fill_126 (by decide) ?_
                    have t_108 : At S_100 x 12 := hk_101.fr.at ha_x_L_71
                    have cu_109 : ∀ j : Nat, zA S_100 x 1207 j = if j = (60 * a2_z + i5_69_z).toNat then (1 : Int) else zA T_70 x 1207 j := cs_105
                    have t_110 : pI S_100 1201 x = v_1 := hk_101.fr.I' (by decide +kernel) ha_x_L_71 ik_77
                    exact ih_L_68 _ (by omega) _ _ _ _ (x_106) (x_106.toInt) rfl hw rfl (by omega) t_108 hO_102 mi_103 (fun j h1 h2 => by rw [cs_105 (60 * a2_z + j).toNat, if_neg (by omega)]; exact iv_73 j (by omega) (by omega)) (by omega) (by have h := up_rng cu_109 iv_75 (show (((60 * a2_z + i5_69_z).toNat : Nat) : Int) = 60 * a2_z + i5_69_z by omega) (by omega); rw [show 60 * a2_z + i5_69_z + 1 = 60 * a2_z + x_106.toInt by omega] at h; exact h) (by omega) t_110 (lv_sub hl [0, 1, 2, 3, 4, 5] rfl)
                have mi_111 : MIe S_9 x (-1) := MIe_sI hp_0 hO.1 ha_x eS_9 (by decide +kernel)
                exact L_68 _ _ _ _ _ (a3) (a3_z) rfl hw hz_a3 (by omega) t_14 hO_10 mi_111 (fun j h1 h2 => iv_59 j (by omega) (by omega)) (by omega) (fun j => by rw [if_neg (by omega), zc_62]) (by omega) t_21 (lv_sub hl [0, 1, 2, 3, 4, 5] rfl)
              · have z_b_112 := trivial
                have k_113 : i5_58_z < (a3_z + a4_z) := z_nle z_64 hz_i5_58 c_65
                refine lv_aload_n X.1 X.2.1 dX12_fill_69 rfl (lv_at hl 1 rfl) ?_
                obtain ⟨q_114, h_115, h_116, h_117⟩ := gQ_12_1207 hO_10.1 t_14
                refine r_getR (g := 1207) X hw t_14 rfl 7 h_115 (by decide) rfl inn_X12_fill_12 (by decide) (X.2.2.2.1 (.fieldLink RX12 25 "SilkMillModel" "stand" "[I") (by decide +kernel)) rfl (gv_1207 _ _) dX12_fill_70 ?_
                refine lv_bipush (v := 60) X.1 X.2.1 dX12_fill_73 (by decide) ?_
                refine lv_iload_n X.1 X.2.1 dX12_fill_75 rfl (lv_at hl 3 rfl) ?_
                refine lv_imul X.1 X.2.1 dX12_fill_76 ?_
                refine lv_topi (fun v_118 ev_118 => ?_)
                have z_119 : v_118.toInt = 60 * a2_z := z_mul ev_118 ti_60 hz_a2 (by omega) (by omega)
                refine lv_iload X.1 X.2.1 dX12_fill_77 (lv_at hl 0 rfl) ?_
                refine lv_iadd X.1 X.2.1 dX12_fill_79 ?_
                refine lv_topi (fun v_120 ev_120 => ?_)
                have z_121 : v_120.toInt = (60 * a2_z) + i5_58_z := z_add ev_120 z_119 hz_i5_58 (by omega) (by omega)
                refine r_iald X hw h_116 rfl (by rw [h_117]; exact z_ix z_121 (by omega) (by omega)) dX12_fill_80 ?_
                refine lv_topi (fun v_122 ev_122 => ?_)
                have rg_123 := And.intro (z_lo v_122) (z_hi v_122)
                have ev_122 := ev_122.symm
                have zf_124 : zA S_9 x 1207 (((60 * a2_z) + i5_58_z)).toNat = v_122.toInt := (zA_of h_115 z_121 (by omega) ev_122)
                refine lv_if_eq (tgt := 86) X.1 X.2.1 dX12_fill_81 (by decide) (fun c_125 => ?_) (fun c_125 => ?_)
                · have z_b_126 := trivial
                  have k_127 : v_122.toInt = 0 := z_eq rfl ti_0 c_125
                  obtain ⟨x_128, ex_128⟩ : ∃ y : Int32, y = i5_58 + 1 := ⟨_, rfl⟩
                  have z_129 : x_128.toInt = i5_58_z + 1 := z_add ex_128 hz_i5_58 ti_1 (by omega) (by omega)
                  refine lv_iinc (v := x_128) (lv' := [(5, .int (x_128)), (0, .ref x), (1, .int (a1)), (2, .int (a2)), (3, .int (a3)), (4, .int (a4))]) X.1 X.2.1 dX12_fill_86 hl (k := 0) rfl (by rw [ex_128]; rfl) (by decide) rfl (fun ls hl => ?_)
                  refine lv_goto (tgt := 60) X.1 X.2.1 dX12_fill_89 (by decide) ?_
                  exact ih_L_57 _ (by omega) _ _ _ (x_128) (x_128.toInt) rfl hw rfl (by omega) (fun j h1 h2 => by rcases (by omega : j < i5_58_z ∨ j = i5_58_z) with h | h; exact iv_59 j h1 h; rw [h]; omega) (by omega) (lv_sub hl [0, 1, 2, 3, 4, 5] rfl)
                · have z_b_130 := trivial
                  have k_131 : v_122.toInt ≠ 0 := z_ne rfl ti_0 c_125
                  refine lv_iconst (v := 0) X.1 X.2.1 dX12_fill_84 (by decide) ?_
                  have mi_132 : MIe S_9 x (-1) := MIe_sI hp_0 hO.1 ha_x eS_9 (by decide +kernel)
                  rw [hQQ]
                  exact ret_z X hw hr hlocks (Nat.le_of_ble_eq_true rfl) (Nat.le_of_ble_eq_true rfl) (by decide) ⟨hO_10, Or.inr ⟨⟨mi_132, fun h => by have h8 := h.2.2.2.2.2.2.2.2 i5_58_z (by omega) (by omega); have h9 := congrFun zc_62 (60 * a2_z + i5_58_z).toNat; omega, zc_62⟩, rfl⟩⟩ dX12_fill_85
            exact L_57 _ _ _ _ (a3) (a3_z) rfl hw hz_a3 (by omega) (fun j h1 h2 => absurd h2 (by omega)) (by omega) (lv_sub hl [0, 1, 2, 3, 4, 5] rfl)
          · have z_b_133 := trivial
            have k_134 : a3_z > (v_47.toInt - a4_z) := z_nle hz_a3 z_53 c_54
            refine lv_iconst (v := 0) X.1 X.2.1 dX12_fill_55 (by decide) ?_
            have mi_135 : MIe S_9 x (-1) := MIe_sI hp_0 hO.1 ha_x eS_9 (by decide +kernel)
            have zc_136 : zA S_9 x 1207 = zA S x 1207 := zA_sI eS_9
            rw [hQQ]
            exact ret_z X hw hr hlocks (Nat.le_of_ble_eq_true rfl) (Nat.le_of_ble_eq_true rfl) (by decide) ⟨hO_10, Or.inr ⟨⟨mi_135, fun h => by obtain ⟨h1, h2, h3, h4, h5, h6, h7, h8, -⟩ := h; omega, zc_136⟩, rfl⟩⟩ dX12_fill_56
      · have z_b_137 := trivial
        refine lv_if_eq (tgt := 55) X.1 X.2.1 dX12_fill_35 (by decide) (fun c_138 => ?_) (fun c_138 => absurd c_138 (by decide))
        refine lv_iconst (v := 0) X.1 X.2.1 dX12_fill_55 (by decide) ?_
        have mi_139 : MIe S_9 x (-1) := MIe_sI hp_0 hO.1 ha_x eS_9 (by decide +kernel)
        have zc_140 : zA S_9 x 1207 = zA S x 1207 := zA_sI eS_9
        rw [hQQ]
        exact ret_z X hw hr hlocks (Nat.le_of_ble_eq_true rfl) (Nat.le_of_ble_eq_true rfl) (by decide) ⟨hO_10, Or.inr ⟨⟨mi_139, fun h => by obtain ⟨h1, h2, h3, h4, h5, h6, h7, h8, -⟩ := h; omega, zc_140⟩, rfl⟩⟩ dX12_fill_56
    · have z_b_141 := trivial
      refine lv_if_eq (tgt := 55) X.1 X.2.1 dX12_fill_24 (by decide) (fun c_142 => ?_) (fun c_142 => absurd c_142 (by decide))
      refine lv_iconst (v := 0) X.1 X.2.1 dX12_fill_55 (by decide) ?_
      have mi_143 : MIe S_9 x (-1) := MIe_sI hp_0 hO.1 ha_x eS_9 (by decide +kernel)
      have zc_144 : zA S_9 x 1207 = zA S x 1207 := zA_sI eS_9
      rw [hQQ]
      exact ret_z X hw hr hlocks (Nat.le_of_ble_eq_true rfl) (Nat.le_of_ble_eq_true rfl) (by decide) ⟨hO_10, Or.inr ⟨⟨mi_143, fun h => by obtain ⟨h1, h2, h3, h4, h5, h6, h7, h8, -⟩ := h; omega, zc_144⟩, rfl⟩⟩ dX12_fill_56
  · have z_b_145 := trivial
    refine lv_if_eq (tgt := 55) X.1 X.2.1 dX12_fill_10 (by decide) (fun c_146 => ?_) (fun c_146 => absurd c_146 (by decide))
    refine lv_iconst (v := 0) X.1 X.2.1 dX12_fill_55 (by decide) ?_
    have mi_147 : MIe S_9 x (-1) := MIe_sI hp_0 hO.1 ha_x eS_9 (by decide +kernel)
    have zc_148 : zA S_9 x 1207 = zA S x 1207 := zA_sI eS_9
    rw [hQQ]
    exact ret_z X hw hr hlocks (Nat.le_of_ble_eq_true rfl) (Nat.le_of_ble_eq_true rfl) (by decide) ⟨hO_10, Or.inr ⟨⟨mi_147, fun h => by obtain ⟨h1, h2, h3, h4, h5, h6, h7, h8, -⟩ := h; omega, zc_148⟩, rfl⟩⟩ dX12_fill_56
