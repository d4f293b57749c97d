/-! ===== n ticks ===== -/
noncomputable def runF (E : En) (R : List Ru) : Nat → Pt → Pt × Int
  | 0, A => (A, 0)
  | n + 1, A => ((ticF E R (runF E R n A).1).1, (runF E R n A).2 + @ite Int (ticF E R (runF E R n A).1).2 (Classical.propDecidable _) 1 0)
theorem runF_y {E : En} {R : List Ru} {n : Nat} {A : Pt} (h : (ticF E R (runF E R n A).1).2) : (runF E R (n + 1) A).2 = (runF E R n A).2 + 1 := by
  show (runF E R n A).2 + @ite Int (ticF E R (runF E R n A).1).2 (Classical.propDecidable _) 1 0 = _
  rw [if_pos h]
theorem runF_n {E : En} {R : List Ru} {n : Nat} {A : Pt} (h : ¬ (ticF E R (runF E R n A).1).2) : (runF E R (n + 1) A).2 = (runF E R n A).2 := by
  show (runF E R n A).2 + @ite Int (ticF E R (runF E R n A).1).2 (Classical.propDecidable _) 1 0 = _
  rw [if_neg h, Int.add_zero]
def RunC (S : PS) (x : Nat) (p n : Int) : Prop := 0 ≤ p ∧ p < (pI S 1104 x).toInt ∧ 0 ≤ n ∧ n ≤ 300
def PotA (S : PS) (D : Nat → Prop) (P R0 R1 R2 G K : Nat) (A : Pt) (E : En) (R : List Ru) : Prop := PotR S P R0 R1 R2 G ∧ PotV S D P R0 R1 R2 G K A ∧ EnC S D P K E ∧ RuS S P R

set_option maxHeartbeats 4000000 in
set_option maxRecDepth 100000 in
theorem k_X11_run5 (l : Launch) (G : va_G) (cy : Nat → ClassId) (κ : Nat → Nat) (S : PS) (sz hz : Nat) (x : Nat) (a1 : Int32) (a1_z : Int) (a2 : Int32) (a2_z : Int) (D : Nat → Prop) (R0 : Nat) (R1 : Nat) (R2 : Nat) (Gs : Nat) (Ks : Nat) (A : Pt) (Ev : En) (Rl : List Ru) (hG : GX S) (ha_x : At S x 11) (hz_a1 : a1.toInt = a1_z) (hz_a2 : a2.toInt = a2_z) (hp_0 : (∀ c, D c → At S c 0)) (hp_1 : (∀ P, 0 ≤ a1_z → a1_z < (pI S 1104 x).toInt → mB S x 1103 a1_z.toNat = some P → PotA S D P R0 R1 R2 Gs Ks A Ev Rl)) (hp_2 : pR S 1107 x = some Ks) : Gi l yX11_run wsX11_run ({ frames := 9, cells := Phc S + 8, slots := Phs S + 15019, locals := 432 }) G cy κ S sz hz 0 0 [.ref x, .int (a1), .int (a2)] (fun (r : Int32) (S9 : PS) => Og eTI S S9 ∧ (-2147483648 ≤ r.toInt ∧ r.toInt ≤ 2147483647 ∧ (PN S x → RunC S x a1_z a2_z → ∀ P, mB S x 1103 a1_z.toNat = some P → PotV S9 D P R0 R1 R2 Gs Ks (runF Ev Rl a2_z.toNat A).1 ∧ PotX S S9 P R0 R1 R2 Gs ∧ r.toInt = (runF Ev Rl a2_z.toNat A).2) ∧ (¬ RunC S x a1_z a2_z → S9 = S ∧ r.toInt = -1))) := by
  refine ent_g (cc := cX11_run) (maxL := 6) (ret := (some .int)) (by decide) rfl (Nat.le_of_ble_eq_true rfl) ?_
  intro p e s m below meth c ls X hr hlocks hin hw hl hsz hhz
  subst hsz hhz
  have X : Cx p c cX11_run 6 s [.ref x, .int (a1), .int (a2)].toArray wsX11_run RX11 m G cy κ (AS S s.heap.size) := X
  have hl : lv_has ls 6 [(0, .ref x), (1, .int (a1)), (2, .int (a2))] := hl
  have rg_a1 : (-2147483648) ≤ a1_z ∧ a1_z ≤ 2147483647 := by rw [← hz_a1]; exact ⟨z_lo _, z_hi _⟩
  have rg_a2 : (-2147483648) ≤ a2_z ∧ a2_z ≤ 2147483647 := by rw [← hz_a2]; exact ⟨z_lo _, z_hi _⟩
  have hpc0 : 0 + Phc S ≤ Phc S + 0 := by omega
  have hps0 : 0 + Phs S ≤ Phs S + 0 := by omega
  have hO : Og eTI S S := Og.rf hG
  generalize hQQ : MQ below _ _ _ _ _ _ = QQ
  replace hQQ := hQQ.symm
  obtain ⟨v_1, ev_1⟩ : ∃ v, pI S 1104 x = v := ⟨_, rfl⟩
  have rg_2 := gI_11_1104 hO.1 ha_x; rw [ev_1] at rg_2
  have pz_3 : (pI S 1104 x).toInt = v_1.toInt := by rw [ev_1]
  have pz_4 : (pI S 1104 x).toInt = v_1.toInt := (congrArg Int32.toInt ev_1).trans rfl
  have haKs : At S Ks 8 := by obtain ⟨c, k1, k2⟩ := gQ_11_1107 hG ha_x; have h3 := hp_2; rw [k1] at h3; cases h3; exact k2
  refine lv_aload_n X.1 X.2.1 dX11_run_0 rfl (lv_at hl 0 rfl) ?_
  refine lv_iload_n X.1 X.2.1 dX11_run_1 rfl (lv_at hl 1 rfl) ?_
  refine k_q (rm := { frames := 1, cells := 0, slots := 0, locals := 48 }) (av := [.ref x, .int (a1)]) X hw (va_runV (As := [.int (a1)]) (rest := []) (cfix X) (k_X11_potAt3 l G cy κ S _ x (a1) (a1_z) hO.1 ha_x hz_a1) (cwV 1 X.2.2.2.1 gX11_run_X11_potAt rfl rfl rfl (by decide +kernel) ⟨Nat.le_of_ble_eq_true rfl, Nat.le_of_ble_eq_true rfl⟩) (pre_V X hw _ ha_x rfl (by decide) rfl) rfl rfl hl.1 rfl (lv_room (Nat.le_of_ble_eq_true rfl)) dX11_run_2 ⟨(by show 0 + 0 ≤ Phc S + 8; omega), (by show 0 + 0 ≤ Phs S + 15019; omega)⟩) 0 0 (by show 0 + 0 ≤ 0; omega) (by show 0 + 0 ≤ 0; omega) (fun rr_5 S_6 H locs hp hw hfr hnw => ?_)
  obtain ⟨e2, hp⟩ := hp
  subst e2
  obtain ⟨hq_7, hnf_8⟩ := hp
  rcases rr_5 with _ | q_9
  · refine W.eq (g2 := F0 m 5 ls (.null :: [])) rfl ?_
    have nf_10 := hnf_8 rfl
    refine lv_astore_nN (lv' := [(3, .null), (0, .ref x), (1, .int (a1)), (2, .int (a2))]) X.1 X.2.1 dX11_run_5 rfl hl (by decide) rfl (fun ls hl => ?_)
    refine lv_aload_nN X.1 X.2.1 dX11_run_6 rfl (lv_at hl 0 rfl) ?_
    refine lv_ifnullN (tgt := 21) X.1 X.2.1 dX11_run_7 (by decide) ?_
    refine lv_iconst (v := (-1)) X.1 X.2.1 dX11_run_21 (by decide) ?_
    rw [hQQ]
    exact ret_gi X hw hr hlocks (by show 0 ≤ Phc S + 8; omega) (by show 0 ≤ Phs S + 15019; omega) (by omega) (by omega) ⟨hO, ⟨z_lo _, z_hi _, fun hPN h P hP => (by exfalso; obtain ⟨h1, h2, h3, h4⟩ := h; first | omega | exact nf_10 hPN ⟨h1, h2⟩), fun h => ⟨rfl, by decide⟩⟩⟩ dX11_run_22
  · refine W.eq (g2 := F0 m 5 ls (.ref q_9 :: [])) rfl ?_
    obtain ⟨ha_11, f_12, f_13, f_14⟩ := hq_7 _ rfl
    have pa_15 := hp_1 _ f_12 f_13 f_14
    obtain ⟨pa_16, pa_17, pa_18, pa_19⟩ := pa_15
    have haR0 := row_at hG ha_11 (Or.inl pa_16.1)
    have haR1 := row_at hG ha_11 (Or.inr (Or.inl pa_16.2.1))
    have haR2 := row_at hG ha_11 (Or.inr (Or.inr pa_16.2.2.1))
    refine lv_astore_n (lv' := [(3, .ref q_9), (0, .ref x), (1, .int (a1)), (2, .int (a2))]) X.1 X.2.1 dX11_run_5 rfl hl (by decide) rfl (fun ls hl => ?_)
    refine lv_aload_n X.1 X.2.1 dX11_run_6 rfl (lv_at hl 0 rfl) ?_
    refine lv_ifnull X.1 X.2.1 dX11_run_7 ?_
    refine lv_iload_n X.1 X.2.1 dX11_run_10 rfl (lv_at hl 3 rfl) ?_
    refine lv_iconst (v := 0) X.1 X.2.1 dX11_run_11 (by decide) ?_
    refine lv_sipush (v := 300) X.1 X.2.1 dX11_run_12 (by decide) ?_
    refine k_i (rm := { frames := 1, cells := 0, slots := 0, locals := 48 }) (av := [.int (a2), .int 0, .int 300]) X hw (va_runS (As := [.int (a2), .int 0, .int 300]) (rest := []) (cfix X) (k_X11_isWithin l G cy κ S _ (a2) (a2_z) (0) (0) (300) (300) hO.1 hz_a2 ti_0 ti_300) (cwS 3 X.2.2.2.1 gX11_run_X11_isWithin rfl rfl rfl (by decide +kernel) ⟨Nat.le_of_ble_eq_true rfl, Nat.le_of_ble_eq_true rfl⟩) (pre_S X hw _) rfl rfl hl.1 rfl (lv_room (Nat.le_of_ble_eq_true rfl)) dX11_run_15 ⟨(by show 0 + 0 ≤ Phc S + 8; omega), (by show 0 + 0 ≤ Phs S + 15019; omega)⟩) 0 0 (by show 0 + 0 ≤ 0; omega) (by show 0 + 0 ≤ 0; omega) (fun rr_21 S_22 H locs hp hw hfr hnw => ?_)
    obtain ⟨e2, hp⟩ := hp
    subst e2
    rcases hp with ⟨f_23, er_24⟩ | ⟨f_23, er_24⟩ <;> subst er_24
    · have z_b_25 := trivial
      refine lv_if_ne (tgt := 23) X.1 X.2.1 dX11_run_18 (by decide) (fun c_26 => ?_) (fun c_26 => absurd c_26 (by decide))
      refine lv_iconst (v := 0) X.1 X.2.1 dX11_run_23 (by decide) ?_
      refine lv_istore (lv' := [(4, .int 0), (3, .ref q_9), (0, .ref x), (1, .int (a1)), (2, .int (a2))]) X.1 X.2.1 dX11_run_24 hl (by decide) rfl (fun ls hl => ?_)
      refine lv_iconst (v := 0) X.1 X.2.1 dX11_run_26 (by decide) ?_
      refine lv_istore (lv' := [(5, .int 0), (4, .int 0), (3, .ref q_9), (0, .ref x), (1, .int (a1)), (2, .int (a2))]) X.1 X.2.1 dX11_run_27 hl (by decide) rfl (fun ls hl => ?_)
      have L_27 : ∀ (n : Nat) (T_30 : PS) (H : Heap) (locs : List Loc) (ls : Array Slot) (i4_28 : Int32) (i4_28_z : Int) (i5_29 : Int32) (i5_29_z : Int) (cc_40 nn_41 : Nat), ((a2_z - i5_29_z).toNat = n) → (Wd G cy (AS S s.heap.size) s.heap T_30 H locs) → (i4_28.toInt = i4_28_z) → (0 ≤ i4_28_z ∧ i4_28_z ≤ 300) → (i5_29.toInt = i5_29_z) → (0 ≤ i5_29_z ∧ i5_29_z ≤ 300) → (At T_30 q_9 4) → (At T_30 x 11) → (Og eTI S T_30) → (i4_28_z ≤ i5_29_z) → (PotV T_30 D q_9 R0 R1 R2 Gs Ks (runF Ev Rl (i5_29_z).toNat A).1) → (PotX S T_30 q_9 R0 R1 R2 Gs) → (i4_28_z = (runF Ev Rl (i5_29_z).toNat A).2) → (i5_29_z ≤ a2_z) → (pR T_30 1107 x = some Ks) → (At T_30 Ks 8) → (cc_40 + Phc T_30 ≤ Phc S + 0) → (nn_41 + Phs T_30 ≤ Phs S + 0) → (lv_has ls 6 [(4, .int (i4_28)), (5, .int (i5_29)), (3, .ref q_9), (0, .ref x), (1, .int (a1)), (2, .int (a2))]) → W p l e ({ frames := 9, cells := Phc S + 8, slots := Phs S + 15019, locals := 432 }) s m [.ref x, .int (a1), .int (a2)].toArray below meth c H locs cc_40 nn_41 QQ (F0 m 29 ls []) := by
        intro n
        induction n using Nat.strongRecOn with
        | ind n ih =>
        intro T_30 H locs ls i4_28 i4_28_z i5_29 i5_29_z cc_40 nn_41 hn hw hz_i4_28 hr_i4_28 hz_i5_29 hr_i5_29 ha_q_9_L_31 ha_x_L_32 hO_T_30 iv_33 iv_34 iv_35 iv_36 iv_37 ik_38 ik_39 hcc_42 hnn_43 hl
        have rg_44 : (-2147483648) ≤ i4_28_z ∧ i4_28_z ≤ 2147483647 := by rw [← hz_i4_28]; exact ⟨z_lo _, z_hi _⟩
        have rg_45 : (-2147483648) ≤ i5_29_z ∧ i5_29_z ≤ 2147483647 := by rw [← hz_i5_29]; exact ⟨z_lo _, z_hi _⟩
        refine lv_iload X.1 X.2.1 dX11_run_29 (lv_at hl 1 rfl) ?_
        refine lv_iload_n X.1 X.2.1 dX11_run_31 rfl (lv_at hl 5 rfl) ?_
        refine lv_icmp_ge (tgt := 55) X.1 X.2.1 dX11_run_32 (by decide) (fun c_46 => ?_) (fun c_46 => ?_)
        · have z_b_47 := trivial
          have k_48 : i5_29_z ≥ a2_z := z_le hz_a2 hz_i5_29 c_46
          refine lv_iload X.1 X.2.1 dX11_run_55 (lv_at hl 0 rfl) ?_
          rw [hQQ]
          exact ret_gi X hw hr hlocks (by show cc_40 ≤ Phc S + 8; omega) (by show nn_41 ≤ Phs S + 15019; omega) (by omega) (by omega) ⟨hO_T_30, ⟨z_lo _, z_hi _, fun _ h P hP => (by rw [f_14] at hP; cases hP; rw [show a2_z.toNat = (i5_29_z).toNat by omega]; exact ⟨iv_34, iv_35, by rw [show (i4_28).toInt = i4_28_z from hz_i4_28]; exact iv_36⟩), fun h => absurd ⟨by omega, by omega, by omega, by omega⟩ h⟩⟩ dX11_run_57
        · have z_b_49 := trivial
          have k_50 : i5_29_z < a2_z := z_nle hz_a2 hz_i5_29 c_46
          refine lv_aload_n X.1 X.2.1 dX11_run_35 rfl (lv_at hl 2 rfl) ?_
          refine lv_aload_n X.1 X.2.1 dX11_run_36 rfl (lv_at hl 3 rfl) ?_
          refine r_getR (g := 1107) X hw ha_x_L_32 rfl 7 ik_38 (by decide) rfl inn_X11_run_11 (by decide) (X.2.2.2.1 (.fieldLink RX11 42 "SilkMill" "store" "LSilkMill$Store;") (by decide +kernel)) rfl (gv_1107 _ _) dX11_run_37 ?_
          refine k_gi (kc := 0) (ks := 0) (rm := { frames := 8, cells := Phc T_30 + 8, slots := Phs T_30 + 15019, locals := 384 }) (av := [.ref q_9, .ref Ks]) X hw (va_runV (As := [.ref Ks]) (rest := []) (cfix X) (k_X4_tick5 l G cy κ T_30 _ _ q_9 Ks D R0 R1 R2 Gs (runF Ev Rl (i5_29_z).toNat A).1 Ev Rl hO_T_30.1 ha_q_9_L_31 ik_39 (fun c h => hO_T_30.fr.at (hp_0 c h)) (PotR_fr hG ha_11 hO_T_30.fr (by decide +kernel) pa_16) iv_34 (EnC_fr hO_T_30.fr hp_0 ha_11 haKs (by decide +kernel) pa_18) (RuS_fr hG ha_11 hO_T_30.fr (by decide +kernel) pa_19)) (cwV 1 X.2.2.2.1 gX11_run_X4_tick rfl rfl rfl (by decide +kernel) ⟨Nat.le_of_ble_eq_true rfl, Nat.le_of_ble_eq_true rfl⟩) (pre_gV X hw _ ha_q_9_L_31 rfl (by decide) rfl) rfl rfl hl.1 rfl (lv_room (Nat.le_of_ble_eq_true rfl)) dX11_run_40 ⟨(by show cc_40 + (Phc T_30 + 8) ≤ Phc S + 8; omega), (by show nn_41 + (Phs T_30 + 15019) ≤ Phs S + 15019; omega)⟩) (fun rr_51 S_52 H locs c_53 n_54 hc_53 hn_54 hp hw => ?_)
          obtain ⟨hk_55, hp⟩ := hp
          have ph_56 : c_53 + Phc S_52 ≤ Phc S + 0 := by omega
          have ph_57 : n_54 + Phs S_52 ≤ Phs S + 0 := by omega
          clear hcc_42
          clear hnn_43
          clear hc_53
          clear hn_54
          have hO_58 : Og eTI S S_52 := hO_T_30.call hk_55 (by decide +kernel)
          rcases hp with ⟨f_59, er_60⟩ | ⟨f_59, er_60⟩ <;> subst er_60
          · have z_b_61 := trivial
            refine lv_if_eq (tgt := 49) X.1 X.2.1 dX11_run_43 (by decide) (fun c_62 => absurd c_62 (by decide)) (fun c_62 => ?_)
            obtain ⟨x_63, ex_63⟩ : ∃ y : Int32, y = i4_28 + 1 := ⟨_, rfl⟩
            have z_64 : x_63.toInt = i4_28_z + 1 := z_add ex_63 hz_i4_28 ti_1 (by omega) (by omega)
            refine lv_iinc (v := x_63) (lv' := [(4, .int (x_63)), (5, .int (i5_29)), (3, .ref q_9), (0, .ref x), (1, .int (a1)), (2, .int (a2))]) X.1 X.2.1 dX11_run_46 hl (k := 0) rfl (by rw [ex_63]; rfl) (by decide) rfl (fun ls hl => ?_)
            obtain ⟨x_65, ex_65⟩ : ∃ y : Int32, y = i5_29 + 1 := ⟨_, rfl⟩
            have z_66 : x_65.toInt = i5_29_z + 1 := z_add ex_65 hz_i5_29 ti_1 (by omega) (by omega)
            refine lv_iinc (v := x_65) (lv' := [(5, .int (x_65)), (4, .int (x_63)), (3, .ref q_9), (0, .ref x), (1, .int (a1)), (2, .int (a2))]) X.1 X.2.1 dX11_run_49 hl (k := 1) rfl (by rw [ex_65]; rfl) (by decide) rfl (fun ls hl => ?_)
            refine lv_goto (tgt := 29) X.1 X.2.1 dX11_run_52 (by decide) ?_
            have t_67 : At S_52 q_9 4 := hk_55.fr.at ha_q_9_L_31
            have t_68 : At S_52 x 11 := hk_55.fr.at ha_x_L_32
            have t_69 : pR S_52 1107 x = some Ks := hk_55.fr.R' (by decide +kernel) ha_x_L_32 ik_38
            have t_70 : At S_52 Ks 8 := hk_55.fr.at ik_39
            exact ih _ (by omega) _ _ _ _ (x_63) (x_63.toInt) (x_65) (x_65.toInt) (c_53) (n_54) rfl hw rfl (by omega) rfl (by omega) t_67 t_68 hO_58 (by omega) (by rw [show (x_65.toInt).toNat = (i5_29_z).toNat + 1 by omega]; exact f_59.1) (PotX_tr iv_35 (fun a k h => hO_T_30.fr.at h) haR0 haR1 haR2 f_59.2.1) (by rw [show (x_65.toInt).toNat = (i5_29_z).toNat + 1 by omega, runF_y f_59.2.2]; omega) (by omega) t_69 t_70 (by omega) (by omega) (lv_sub hl [1, 0, 2, 3, 4, 5] rfl)
          · have z_b_71 := trivial
            refine lv_if_eq (tgt := 49) X.1 X.2.1 dX11_run_43 (by decide) (fun c_72 => ?_) (fun c_72 => absurd c_72 (by decide))
            obtain ⟨x_73, ex_73⟩ : ∃ y : Int32, y = i5_29 + 1 := ⟨_, rfl⟩
            have z_74 : x_73.toInt = i5_29_z + 1 := z_add ex_73 hz_i5_29 ti_1 (by omega) (by omega)
            refine lv_iinc (v := x_73) (lv' := [(5, .int (x_73)), (4, .int (i4_28)), (3, .ref q_9), (0, .ref x), (1, .int (a1)), (2, .int (a2))]) X.1 X.2.1 dX11_run_49 hl (k := 1) rfl (by rw [ex_73]; rfl) (by decide) rfl (fun ls hl => ?_)
            refine lv_goto (tgt := 29) X.1 X.2.1 dX11_run_52 (by decide) ?_
            have t_75 : At S_52 q_9 4 := hk_55.fr.at ha_q_9_L_31
            have t_76 : At S_52 x 11 := hk_55.fr.at ha_x_L_32
            have t_77 : pR S_52 1107 x = some Ks := hk_55.fr.R' (by decide +kernel) ha_x_L_32 ik_38
            have t_78 : At S_52 Ks 8 := hk_55.fr.at ik_39
            exact ih _ (by omega) _ _ _ _ (i4_28) (i4_28_z) (x_73) (x_73.toInt) (c_53) (n_54) rfl hw hz_i4_28 (by omega) rfl (by omega) t_75 t_76 hO_58 (by omega) (by rw [show (x_73.toInt).toNat = (i5_29_z).toNat + 1 by omega]; exact f_59.1) (PotX_tr iv_35 (fun a k h => hO_T_30.fr.at h) haR0 haR1 haR2 f_59.2.1) (by rw [show (x_73.toInt).toNat = (i5_29_z).toNat + 1 by omega, runF_n f_59.2.2]; omega) (by omega) t_77 t_78 (by omega) (by omega) (lv_sub hl [1, 0, 2, 3, 4, 5] rfl)
      exact L_27 _ _ _ _ _ (0) (0) (0) (0) (0) (0) rfl hw ti_0 (by omega) ti_0 (by omega) ha_11 ha_x hO (by omega) pa_17 (PotX_rf S q_9 R0 R1 R2 Gs) rfl (by omega) hp_2 haKs (by omega) (by omega) (lv_sub hl [1, 0, 2, 3, 4, 5] rfl)
    · have z_b_79 := trivial
      refine lv_if_ne (tgt := 23) X.1 X.2.1 dX11_run_18 (by decide) (fun c_80 => absurd c_80 (by decide)) (fun c_80 => ?_)
      refine lv_iconst (v := (-1)) X.1 X.2.1 dX11_run_21 (by decide) ?_
      rw [hQQ]
      exact ret_gi X hw hr hlocks (by show 0 ≤ Phc S + 8; omega) (by show 0 ≤ Phs S + 15019; omega) (by omega) (by omega) ⟨hO, ⟨z_lo _, z_hi _, fun hPN h P hP => (by exfalso; obtain ⟨h1, h2, h3, h4⟩ := h; omega), fun h => ⟨rfl, by decide⟩⟩⟩ dX11_run_22
