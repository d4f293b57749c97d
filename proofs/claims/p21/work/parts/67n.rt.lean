/-- a pot of the reference: its state, what its functions are told, its rules -/
def PwA (S : PS) (x : Nat) (p : Int) (A : Pt) (E : En) (R : List Ru) : Prop := PotW S x p A ∧ EnR S x p E ∧ RuR S x p R ∧ IvQ (efind E).toInt A ∧ 1 ≤ (efind E).toInt

set_option maxHeartbeats 4000000 in
set_option maxRecDepth 100000 in
theorem k_X12_run6 (l : Launch) (G : va_G) (cy : Nat → ClassId) (κ : Nat → Nat) (S : PS) (sz : Nat) (x : Nat) (a1 : Int32) (a1_z : Int) (a2 : Int32) (a2_z : Int) (A : Pt) (Ev : En) (Rl : List Ru) (hG : GX S) (ha_x : At S x 12) (hz_a1 : a1.toInt = a1_z) (hz_a2 : a2.toInt = a2_z) (hp_0 : MI S x) (hp_1 : GR S x) (hp_2 : (0 ≤ a1_z → a1_z < (pI S 1211 x).toInt → PwA S x a1_z A Ev Rl)) : Ci l yX12_run wsX12_run ({ frames := 9, cells := 0, slots := 0, locals := 432 }) G cy κ S sz [.ref x, .int (a1), .int (a2)] (fun (r : Int32) (S9 : PS) => Ok MTK S S9 ∧ (MI S9 x ∧ GR S9 x ∧ ZM S S9 x ∧ ((0 ≤ a1_z ∧ a1_z < (pI S 1211 x).toInt ∧ 0 ≤ a2_z ∧ a2_z ≤ 300) → r.toInt = (runF Ev Rl a2_z.toNat A).2 ∧ PotW S9 x a1_z (runF Ev Rl a2_z.toNat A).1 ∧ PwX S S9 x a1_z) ∧ (¬ (0 ≤ a1_z ∧ a1_z < (pI S 1211 x).toInt ∧ 0 ≤ a2_z ∧ a2_z ≤ 300) → r.toInt = -1 ∧ S9 = sI S 1200 x 0))) := by
  refine ent_m (cc := cX12_run) (maxL := 5) (ret := (some .int)) (by decide) rfl (Nat.le_of_ble_eq_true rfl) ?_
  intro p e s m below meth c ls X hr hlocks hin hw hl hsz
  subst hsz
  have X : Cx p c cX12_run 5 s [.ref x, .int (a1), .int (a2)].toArray wsX12_run RX12 m G cy κ (AS S s.heap.size) := X
  have hl : lv_has ls 5 [(0, .ref x), (1, .int (a1)), (2, .int (a2))] := hl
  have rg_a1 : (-2147483648) ≤ a1_z ∧ a1_z ≤ 2147483647 := by rw [← hz_a1]; exact ⟨z_lo _, z_hi _⟩
  have rg_a2 : (-2147483648) ≤ a2_z ∧ a2_z ≤ 2147483647 := by rw [← hz_a2]; exact ⟨z_lo _, z_hi _⟩
  have hO : Ok MTK S S := Ok.rf hG
  generalize hQQ : MQ below _ _ _ _ _ _ = QQ
  replace hQQ := hQQ.symm
  have hzm0 : ZM S S x := ZM_rf S x
  obtain ⟨v_1, ev_1⟩ : ∃ v, pI S 1211 x = v := ⟨_, rfl⟩
  have rg_2 := gI_12_1211 hO.1 ha_x; rw [ev_1] at rg_2
  have pz_3 : (pI S 1211 x).toInt = v_1.toInt := by rw [ev_1]
  have pz_4 : (pI S 1211 x).toInt = v_1.toInt := (congrArg Int32.toInt ev_1).trans rfl
  refine lv_aload_n X.1 X.2.1 dX12_run_0 rfl (lv_at hl 0 rfl) ?_
  refine lv_iconst (v := 0) X.1 X.2.1 dX12_run_1 (by decide) ?_
  refine r_putI (v := 0) X hw ha_x rfl 0 1200 tyX12 (by decide) rfl inn_X12_run_12 tyX12_ok nmX12 (by decide) (X.2.2.2.1 (.fieldLink RX12 161 "SilkMillModel" "thrown" "I") (by decide +kernel)) rfl (Or.inl rfl) rfl rfl (Nat.le_of_ble_eq_true rfl) (st_1200 _ _) dX12_run_2 (fun H locs hw => ?_)
  obtain ⟨S_5, eS_5⟩ : ∃ T, T = sI S 1200 x (0) := ⟨_, rfl⟩
  rw [← eS_5] at hw
  have hO_6 : Ok MTK S S_5 := hO.sI eS_5 (by decide +kernel) (uI_12_1200 hO.1 ha_x)
  have h_7 : pI S_5 1200 x = 0 := tI_sIs eS_5
  refine lv_aload_n X.1 X.2.1 dX12_run_5 rfl (lv_at hl 0 rfl) ?_
  refine lv_iload_n X.1 X.2.1 dX12_run_6 rfl (lv_at hl 1 rfl) ?_
  have t_8 : pI S_5 1211 x = v_1 := tI_sI eS_5 rfl ev_1
  have pz_9 : (pI S_5 1211 x).toInt = v_1.toInt := (congrArg Int32.toInt t_8).trans rfl
  have t_10 : At S_5 x 12 := tAt_sI eS_5 ha_x
  refine k_i (rm := { frames := 2, cells := 0, slots := 0, locals := 96 }) (av := [.ref x, .int (a1)]) X hw (va_runV (As := [.int (a1)]) (rest := []) (cfix X) (k_X12_isPot l G cy κ S_5 _ x (a1) (a1_z) hO_6.1 t_10 hz_a1) (cwV 1 X.2.2.2.1 gX12_run_X12_isPot rfl rfl rfl (by decide +kernel) ⟨Nat.le_of_ble_eq_true rfl, Nat.le_of_ble_eq_true rfl⟩) (pre_V X hw _ t_10 rfl (by decide) rfl) rfl rfl hl.1 rfl (lv_room (Nat.le_of_ble_eq_true rfl)) dX12_run_7 ⟨Nat.le_of_ble_eq_true rfl, Nat.le_of_ble_eq_true rfl⟩) 0 0 (Nat.le_of_ble_eq_true rfl) (Nat.le_of_ble_eq_true rfl) (fun rr_11 S_12 H locs hp hw hfr hnw => ?_)
  obtain ⟨e2, hp⟩ := hp
  subst e2
  rcases hp with ⟨f_13, er_14⟩ | ⟨f_13, er_14⟩ <;> subst er_14
  · have z_b_15 := trivial
    refine lv_if_eq (tgt := 24) X.1 X.2.1 dX12_run_10 (by decide) (fun c_16 => absurd c_16 (by decide)) (fun c_16 => ?_)
    refine lv_iload_n X.1 X.2.1 dX12_run_13 rfl (lv_at hl 2 rfl) ?_
    refine lv_iconst (v := 0) X.1 X.2.1 dX12_run_14 (by decide) ?_
    refine lv_sipush (v := 300) X.1 X.2.1 dX12_run_15 (by decide) ?_
    refine k_i (rm := { frames := 1, cells := 0, slots := 0, locals := 48 }) (av := [.int (a2), .int 0, .int 300]) X hw (va_runS (As := [.int (a2), .int 0, .int 300]) (rest := []) (cfix X) (k_X12_within l G cy κ S_5 _ (a2) (a2_z) (0) (0) (300) (300) hO_6.1 hz_a2 ti_0 ti_300) (cwS 3 X.2.2.2.1 gX12_run_X12_within rfl rfl rfl (by decide +kernel) ⟨Nat.le_of_ble_eq_true rfl, Nat.le_of_ble_eq_true rfl⟩) (pre_S X hw _) rfl rfl hl.1 rfl (lv_room (Nat.le_of_ble_eq_true rfl)) dX12_run_18 ⟨Nat.le_of_ble_eq_true rfl, Nat.le_of_ble_eq_true rfl⟩) 0 0 (Nat.le_of_ble_eq_true rfl) (Nat.le_of_ble_eq_true rfl) (fun rr_17 S_18 H locs hp hw hfr hnw => ?_)
    obtain ⟨e2, hp⟩ := hp
    subst e2
    rcases hp with ⟨f_19, er_20⟩ | ⟨f_19, er_20⟩ <;> subst er_20
    · have z_b_21 := trivial
      refine lv_if_ne (tgt := 26) X.1 X.2.1 dX12_run_21 (by decide) (fun c_22 => ?_) (fun c_22 => absurd c_22 (by decide))
      have pa_23 := hp_2 (by omega) (by omega)
      have pw_24 := PotW_sI pa_23.1 eS_5 (by decide)
      have px_25 : PwX S S_5 x a1_z := PwX_to (PwX_rf S x a1_z) (zA_sI eS_5) (zA_sI eS_5) (zA_sI eS_5) (zA_sI eS_5) (pw5 (zA_sI eS_5) (zA_sI eS_5) (zA_sI eS_5) (zA_sI eS_5) (zA_sI eS_5))
      refine lv_iconst (v := 0) X.1 X.2.1 dX12_run_26 (by decide) ?_
      refine lv_istore_n (lv' := [(3, .int 0), (0, .ref x), (1, .int (a1)), (2, .int (a2))]) X.1 X.2.1 dX12_run_27 rfl hl (by decide) rfl (fun ls hl => ?_)
      refine lv_iconst (v := 0) X.1 X.2.1 dX12_run_28 (by decide) ?_
      refine lv_istore (lv' := [(4, .int 0), (3, .int 0), (0, .ref x), (1, .int (a1)), (2, .int (a2))]) X.1 X.2.1 dX12_run_29 hl (by decide) rfl (fun ls hl => ?_)
      have L_26 : ∀ (n : Nat) (T_29 : PS) (H : Heap) (locs : List Loc) (ls : Array Slot) (i3_27 : Int32) (i3_27_z : Int) (i4_28 : Int32) (i4_28_z : Int), ((300 - i4_28_z).toNat = n) → (Wd G cy (AS S s.heap.size) s.heap T_29 H locs) → (i3_27.toInt = i3_27_z) → (0 ≤ i3_27_z ∧ i3_27_z ≤ 300) → (i4_28.toInt = i4_28_z) → (0 ≤ i4_28_z ∧ i4_28_z ≤ 300) → (At T_29 x 12) → (Ok MTK S T_29) → (MIe T_29 x (-1)) → (GR T_29 x) → (ZM S T_29 x) → (PotW T_29 x a1_z (runF Ev Rl (i4_28_z).toNat A).1) → (PwX S T_29 x a1_z) → (i3_27_z = (runF Ev Rl (i4_28_z).toNat A).2) → (i3_27_z ≤ i4_28_z) → (i4_28_z ≤ a2_z) → (lv_has ls 5 [(3, .int (i3_27)), (4, .int (i4_28)), (0, .ref x), (1, .int (a1)), (2, .int (a2))]) → W p l e ({ frames := 9, cells := 0, slots := 0, locals := 432 }) s m [.ref x, .int (a1), .int (a2)].toArray below meth c H locs 0 0 QQ (F0 m 31 ls []) := by
        intro n
        induction n using Nat.strongRecOn with
        | ind n ih_L_26 =>
        intro T_29 H locs ls i3_27 i3_27_z i4_28 i4_28_z hn hw hz_i3_27 hr_i3_27 hz_i4_28 hr_i4_28 ha_x_L_30 hO_T_29 mk_31 iv_32 iv_33 iv_34 iv_35 iv_36 iv_37 iv_38 hl
        have rg_39 : (-2147483648) ≤ i3_27_z ∧ i3_27_z ≤ 2147483647 := by rw [← hz_i3_27]; exact ⟨z_lo _, z_hi _⟩
        have rg_40 : (-2147483648) ≤ i4_28_z ∧ i4_28_z ≤ 2147483647 := by rw [← hz_i4_28]; exact ⟨z_lo _, z_hi _⟩
        refine lv_iload X.1 X.2.1 dX12_run_31 (lv_at hl 1 rfl) ?_
        refine lv_iload_n X.1 X.2.1 dX12_run_33 rfl (lv_at hl 4 rfl) ?_
        refine lv_icmp_ge (tgt := 59) X.1 X.2.1 dX12_run_34 (by decide) (fun c_41 => ?_) (fun c_41 => ?_)
        · have z_b_42 := trivial
          have k_43 : i4_28_z ≥ a2_z := z_le hz_a2 hz_i4_28 c_41
          refine lv_iload_n X.1 X.2.1 dX12_run_59 rfl (lv_at hl 0 rfl) ?_
          rw [hQQ]
          exact ret_i X hw hr hlocks (Nat.le_of_ble_eq_true rfl) (Nat.le_of_ble_eq_true rfl) ⟨hO_T_29, ⟨mk_31, iv_32, iv_33, fun _ => (by rw [show a2_z.toNat = (i4_28_z).toNat by omega]; exact ⟨(by have e : (i3_27 : Int32).toInt = i3_27_z := hz_i3_27; have := iv_36; omega), iv_34, iv_35⟩), fun h => absurd ⟨by omega, by omega, by omega, by omega⟩ h⟩⟩ dX12_run_60
        · have z_b_44 := trivial
          have k_45 : i4_28_z < a2_z := z_nle hz_a2 hz_i4_28 c_41
          refine lv_iload_n X.1 X.2.1 dX12_run_37 rfl (lv_at hl 0 rfl) ?_
          refine lv_aload_n X.1 X.2.1 dX12_run_38 rfl (lv_at hl 2 rfl) ?_
          refine lv_iload_n X.1 X.2.1 dX12_run_39 rfl (lv_at hl 3 rfl) ?_
          refine k_i (rm := { frames := 8, cells := 0, slots := 0, locals := 384 }) (av := [.ref x, .int (a1)]) X hw (va_runV (As := [.int (a1)]) (rest := [.int (i3_27)]) (cfix X) (k_X12_tick6 l G cy κ T_29 _ x (a1) (a1_z) (runF Ev Rl (i4_28_z).toNat A).1 Ev Rl hO_T_29.1 ha_x_L_30 hz_a1 (by omega) (by omega) mk_31 iv_32 iv_34 (EnR_fr hG ha_x hO_T_29.fr (by decide +kernel) pa_23.2.1) (RuR_fr hG ha_x hO_T_29.fr (by decide +kernel) pa_23.2.2.1) (iv_run (by have := pa_23.2.2.2.2; omega) pa_23.2.2.2.1 _) pa_23.2.2.2.2) (cwV 1 X.2.2.2.1 gX12_run_X12_tick rfl rfl rfl (by decide +kernel) ⟨Nat.le_of_ble_eq_true rfl, Nat.le_of_ble_eq_true rfl⟩) (pre_V X hw _ ha_x_L_30 rfl (by decide) rfl) rfl rfl hl.1 rfl (lv_room (Nat.le_of_ble_eq_true rfl)) dX12_run_40 ⟨Nat.le_of_ble_eq_true rfl, Nat.le_of_ble_eq_true rfl⟩) 0 0 (Nat.le_of_ble_eq_true rfl) (Nat.le_of_ble_eq_true rfl) (fun rr_46 S_47 H locs hp hw hfr hnw => ?_)
          obtain ⟨hk_48, hp⟩ := hp
          have hO_49 : Ok MTK S S_47 := hO_T_29.call hk_48 (by decide +kernel)
          rcases hp with ⟨f_50, er_51⟩ | ⟨f_50, er_51⟩ <;> subst er_51
          · have z_b_52 := trivial
            obtain ⟨mi_53, gr_54, zm_55, pw_56, px_57, tf_58⟩ := f_50
            have px_59 := PwX_tr iv_35 px_57
            refine lv_if_eq (tgt := 50) X.1 X.2.1 dX12_run_43 (by decide) (fun c_60 => absurd c_60 (by decide)) (fun c_60 => ?_)
            refine lv_iconst (v := 1) X.1 X.2.1 dX12_run_46 (by decide) ?_
            refine lv_goto (tgt := 51) X.1 X.2.1 dX12_run_47 (by decide) ?_
            refine lv_iadd X.1 X.2.1 dX12_run_51 ?_
            refine lv_topi (fun v_61 ev_61 => ?_)
            have z_62 : v_61.toInt = i3_27_z + 1 := z_add ev_61 hz_i3_27 ti_1 (by omega) (by omega)
            refine lv_istore_n (lv' := [(3, .int (v_61)), (4, .int (i4_28)), (0, .ref x), (1, .int (a1)), (2, .int (a2))]) X.1 X.2.1 dX12_run_52 rfl hl (by decide) rfl (fun ls hl => ?_)
            obtain ⟨x_63, ex_63⟩ : ∃ y : Int32, y = i4_28 + 1 := ⟨_, rfl⟩
            have z_64 : x_63.toInt = i4_28_z + 1 := z_add ex_63 hz_i4_28 ti_1 (by omega) (by omega)
            refine lv_iinc (v := x_63) (lv' := [(4, .int (x_63)), (3, .int (v_61)), (0, .ref x), (1, .int (a1)), (2, .int (a2))]) X.1 X.2.1 dX12_run_53 hl (k := 1) rfl (by rw [ex_63]; rfl) (by decide) rfl (fun ls hl => ?_)
            refine lv_goto (tgt := 31) X.1 X.2.1 dX12_run_56 (by decide) ?_
            have t_65 : At S_47 x 12 := hk_48.fr.at ha_x_L_30
            have zm_66 : ZM S S_47 x := ZM_tr iv_33 zm_55
            exact ih_L_26 _ (by omega) _ _ _ _ (v_61) ((i3_27_z + 1)) (x_63) (x_63.toInt) rfl hw z_62 (by omega) rfl (by omega) t_65 hO_49 mi_53 gr_54 zm_66 (by rw [show (x_63.toInt).toNat = (i4_28_z).toNat + 1 by omega]; exact pw_56) px_59 (by rw [show (x_63.toInt).toNat = (i4_28_z).toNat + 1 by omega, runF_y tf_58]; have := iv_36; omega) (by omega) (by omega) (lv_sub hl [1, 0, 2, 3, 4] rfl)
          · have z_b_67 := trivial
            obtain ⟨mi_68, gr_69, zm_70, pw_71, px_72, tf_73⟩ := f_50
            have px_74 := PwX_tr iv_35 px_72
            refine lv_if_eq (tgt := 50) X.1 X.2.1 dX12_run_43 (by decide) (fun c_75 => ?_) (fun c_75 => absurd c_75 (by decide))
            refine lv_iconst (v := 0) X.1 X.2.1 dX12_run_50 (by decide) ?_
            refine lv_iadd X.1 X.2.1 dX12_run_51 ?_
            refine lv_topi (fun v_76 ev_76 => ?_)
            have z_77 : v_76.toInt = i3_27_z + 0 := z_add ev_76 hz_i3_27 ti_0 (by omega) (by omega)
            refine lv_istore_n (lv' := [(3, .int (v_76)), (4, .int (i4_28)), (0, .ref x), (1, .int (a1)), (2, .int (a2))]) X.1 X.2.1 dX12_run_52 rfl hl (by decide) rfl (fun ls hl => ?_)
            obtain ⟨x_78, ex_78⟩ : ∃ y : Int32, y = i4_28 + 1 := ⟨_, rfl⟩
            have z_79 : x_78.toInt = i4_28_z + 1 := z_add ex_78 hz_i4_28 ti_1 (by omega) (by omega)
            refine lv_iinc (v := x_78) (lv' := [(4, .int (x_78)), (3, .int (v_76)), (0, .ref x), (1, .int (a1)), (2, .int (a2))]) X.1 X.2.1 dX12_run_53 hl (k := 1) rfl (by rw [ex_78]; rfl) (by decide) rfl (fun ls hl => ?_)
            refine lv_goto (tgt := 31) X.1 X.2.1 dX12_run_56 (by decide) ?_
            have t_80 : At S_47 x 12 := hk_48.fr.at ha_x_L_30
            have zm_81 : ZM S S_47 x := ZM_tr iv_33 zm_70
            exact ih_L_26 _ (by omega) _ _ _ _ (v_76) ((i3_27_z + 0)) (x_78) (x_78.toInt) rfl hw z_77 (by omega) rfl (by omega) t_80 hO_49 mi_68 gr_69 zm_81 (by rw [show (x_78.toInt).toNat = (i4_28_z).toNat + 1 by omega]; exact pw_71) px_74 (by rw [show (x_78.toInt).toNat = (i4_28_z).toNat + 1 by omega, runF_n tf_73]; have := iv_36; omega) (by omega) (by omega) (lv_sub hl [1, 0, 2, 3, 4] rfl)
      have mi_82 : MIe S_5 x (-1) := MIe_sI hp_0 hO.1 ha_x eS_5 (by decide +kernel)
      have zc_83 : zA S_5 x 1237 = zA S x 1237 := zA_sI eS_5
      have zm_84 : ZM S S_5 x := ZM_eq hzm0 (zA_sI eS_5)
      exact L_26 _ _ _ _ _ (0) (0) (0) (0) rfl hw ti_0 (by omega) ti_0 (by omega) t_10 hO_6 mi_82 (GR_eq zc_83 hp_1) zm_84 pw_24 px_25 (by show (0 : Int) = 0; rfl) (by omega) (by omega) (lv_sub hl [1, 0, 2, 3, 4] rfl)
    · have z_b_85 := trivial
      refine lv_if_ne (tgt := 26) X.1 X.2.1 dX12_run_21 (by decide) (fun c_86 => absurd c_86 (by decide)) (fun c_86 => ?_)
      refine lv_iconst (v := (-1)) X.1 X.2.1 dX12_run_24 (by decide) ?_
      have mi_87 : MIe S_5 x (-1) := MIe_sI hp_0 hO.1 ha_x eS_5 (by decide +kernel)
      have zc_88 : zA S_5 x 1237 = zA S x 1237 := zA_sI eS_5
      have zm_89 : ZM S S_5 x := ZM_eq hzm0 (zA_sI eS_5)
      rw [hQQ]
      exact ret_i X hw hr hlocks (Nat.le_of_ble_eq_true rfl) (Nat.le_of_ble_eq_true rfl) ⟨hO_6, ⟨mi_87, (GR_eq zc_88 hp_1), zm_89, fun h => (by exfalso; omega), fun _ => ⟨by decide, eS_5⟩⟩⟩ dX12_run_25
  · have z_b_90 := trivial
    refine lv_if_eq (tgt := 24) X.1 X.2.1 dX12_run_10 (by decide) (fun c_91 => ?_) (fun c_91 => absurd c_91 (by decide))
    refine lv_iconst (v := (-1)) X.1 X.2.1 dX12_run_24 (by decide) ?_
    have mi_92 : MIe S_5 x (-1) := MIe_sI hp_0 hO.1 ha_x eS_5 (by decide +kernel)
    have zc_93 : zA S_5 x 1237 = zA S x 1237 := zA_sI eS_5
    have zm_94 : ZM S S_5 x := ZM_eq hzm0 (zA_sI eS_5)
    rw [hQQ]
    exact ret_i X hw hr hlocks (Nat.le_of_ble_eq_true rfl) (Nat.le_of_ble_eq_true rfl) ⟨hO_6, ⟨mi_92, (GR_eq zc_93 hp_1), zm_94, fun h => (by exfalso; omega), fun _ => ⟨by decide, eS_5⟩⟩⟩ dX12_run_25
