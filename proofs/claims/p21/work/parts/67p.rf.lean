
set_option maxHeartbeats 4000000 in
set_option maxRecDepth 100000 in
theorem k_X11_cut6 (l : Launch) (G : va_G) (cy : Nat → ClassId) (κ : Nat → Nat) (S : PS) (sz hz : Nat) (x : Nat) (a1 : Int32) (a1_z : Int) (D : Nat → Prop) (R0 : Nat) (R1 : Nat) (R2 : Nat) (Gs : Nat) (Ks : Nat) (A : Pt) (Ev : En) (Rl : List Ru) (hG : GX S) (ha_x : At S x 11) (hz_a1 : a1.toInt = a1_z) (hp_0 : (∀ c, D c → At S c 0)) (hp_1 : (∀ P, 0 ≤ a1_z → a1_z < (pI S 1104 x).toInt → mB S x 1103 a1_z.toNat = some P → PotA S D P R0 R1 R2 Gs Ks A Ev Rl)) (hp_2 : pR S 1107 x = some Ks) : Gi l yX11_cut wsX11_cut ({ frames := 6, cells := Phc S + 8, slots := Phs S + 15019, locals := 288 }) G cy κ S sz hz 0 0 [.ref x, .int (a1)] (fun (r : Int32) (S9 : PS) => Og eCU S S9 ∧ (-2147483648 ≤ r.toInt ∧ r.toInt ≤ 2147483647 ∧ (PN S x → (0 ≤ a1_z ∧ a1_z < (pI S 1104 x).toInt) → ∀ P, mB S x 1103 a1_z.toNat = some P → PotV S9 D P R0 R1 R2 Gs Ks (cutF Ev A) ∧ PotX S S9 P R0 R1 R2 Gs ∧ r.toInt = cutR A) ∧ (PN S x → ¬ (0 ≤ a1_z ∧ a1_z < (pI S 1104 x).toInt) → S9 = S ∧ r.toInt = -1))) := by
  refine ent_g (cc := cX11_cut) (maxL := 3) (ret := (some .int)) (by decide) rfl (Nat.le_of_ble_eq_true rfl) ?_
  intro p e s m below meth c ls X hr hlocks hin hw hl hsz hhz
  subst hsz hhz
  have X : Cx p c cX11_cut 3 s [.ref x, .int (a1)].toArray wsX11_cut RX11 m G cy κ (AS S s.heap.size) := X
  have hl : lv_has ls 3 [(0, .ref x), (1, .int (a1))] := hl
  have rg_a1 : (-2147483648) ≤ a1_z ∧ a1_z ≤ 2147483647 := by rw [← hz_a1]; exact ⟨z_lo _, z_hi _⟩
  have hpc0 : 0 + Phc S ≤ Phc S + 0 := by omega
  have hps0 : 0 + Phs S ≤ Phs S + 0 := by omega
  have hO : Og eCU S S := Og.rf hG
  obtain ⟨v_1, ev_1⟩ : ∃ v, pI S 1104 x = v := ⟨_, rfl⟩
  have rg_2 := gI_11_1104 hO.1 ha_x; rw [ev_1] at rg_2
  have pz_3 : (pI S 1104 x).toInt = v_1.toInt := by rw [ev_1]
  have pz_4 : (pI S 1104 x).toInt = v_1.toInt := (congrArg Int32.toInt ev_1).trans rfl
  have haKs : At S Ks 8 := by obtain ⟨c, k1, k2⟩ := gQ_11_1107 hG ha_x; have h3 := hp_2; rw [k1] at h3; cases h3; exact k2
  refine lv_aload_n X.1 X.2.1 dX11_cut_0 rfl (lv_at hl 0 rfl) ?_
  refine lv_iload_n X.1 X.2.1 dX11_cut_1 rfl (lv_at hl 1 rfl) ?_
  refine k_q (rm := { frames := 1, cells := 0, slots := 0, locals := 48 }) (av := [.ref x, .int (a1)]) X hw (va_runV (As := [.int (a1)]) (rest := []) (cfix X) (k_X11_potAt3 l G cy κ S _ x (a1) (a1_z) hO.1 ha_x hz_a1) (cwV 1 X.2.2.2.1 gX11_cut_X11_potAt rfl rfl rfl (by decide +kernel) ⟨Nat.le_of_ble_eq_true rfl, Nat.le_of_ble_eq_true rfl⟩) (pre_V X hw _ ha_x rfl (by decide) rfl) rfl rfl hl.1 rfl (lv_room (Nat.le_of_ble_eq_true rfl)) dX11_cut_2 ⟨(by show 0 + 0 ≤ Phc S + 8; omega), (by show 0 + 0 ≤ Phs S + 15019; omega)⟩) 0 0 (by show 0 + 0 ≤ 0; omega) (by show 0 + 0 ≤ 0; omega) (fun rr_5 S_6 H locs hp hw hfr hnw => ?_)
  obtain ⟨e2, hp⟩ := hp
  subst e2
  obtain ⟨hq_7, hnf_8⟩ := hp
  rcases rr_5 with _ | q_9
  · refine W.eq (g2 := F0 m 5 ls (.null :: [])) rfl ?_
    have nf_10 := hnf_8 rfl
    refine lv_astore_nN (lv' := [(2, .null), (0, .ref x), (1, .int (a1))]) X.1 X.2.1 dX11_cut_5 rfl hl (by decide) rfl (fun ls hl => ?_)
    refine lv_aload_nN X.1 X.2.1 dX11_cut_6 rfl (lv_at hl 0 rfl) ?_
    refine lv_ifnonnullN X.1 X.2.1 dX11_cut_7 ?_
    refine lv_iconst (v := (-1)) X.1 X.2.1 dX11_cut_10 (by decide) ?_
    refine lv_goto (tgt := 22) X.1 X.2.1 dX11_cut_11 (by decide) ?_
    exact ret_gi X hw hr hlocks (by show 0 ≤ Phc S + 8; omega) (by show 0 ≤ Phs S + 15019; omega) (by omega) (by omega) ⟨hO, ⟨z_lo _, z_hi _, fun hPN h P hP => (by exfalso; exact nf_10 hPN ⟨h.1, h.2⟩), fun _ _ => ⟨rfl, by decide⟩⟩⟩ dX11_cut_22
  · refine W.eq (g2 := F0 m 5 ls (.ref q_9 :: [])) rfl ?_
    obtain ⟨ha_11, f_12, f_13, f_14⟩ := hq_7 _ rfl
    have pa_15 := hp_1 _ f_12 f_13 f_14
    obtain ⟨pa_16, pa_17, pa_18, pa_19⟩ := pa_15
    have haR0 := row_at hG ha_11 (Or.inl pa_16.1)
    have haR1 := row_at hG ha_11 (Or.inr (Or.inl pa_16.2.1))
    have haR2 := row_at hG ha_11 (Or.inr (Or.inr pa_16.2.2.1))
    refine lv_astore_n (lv' := [(2, .ref q_9), (0, .ref x), (1, .int (a1))]) X.1 X.2.1 dX11_cut_5 rfl hl (by decide) rfl (fun ls hl => ?_)
    refine lv_aload_n X.1 X.2.1 dX11_cut_6 rfl (lv_at hl 0 rfl) ?_
    refine lv_ifnonnull (tgt := 14) X.1 X.2.1 dX11_cut_7 (by decide) ?_
    refine lv_aload_n X.1 X.2.1 dX11_cut_14 rfl (lv_at hl 0 rfl) ?_
    refine lv_aload_n X.1 X.2.1 dX11_cut_15 rfl (lv_at hl 1 rfl) ?_
    refine r_getR (g := 1107) X hw ha_x rfl 7 hp_2 (by decide) rfl inn_X11_cut_11 (by decide) (X.2.2.2.1 (.fieldLink RX11 42 "SilkMill" "store" "LSilkMill$Store;") (by decide +kernel)) rfl (gv_1107 _ _) dX11_cut_16 ?_
    refine k_gi (kc := 0) (ks := 0) (rm := { frames := 5, cells := Phc S + 8, slots := Phs S + 15019, locals := 240 }) (av := [.ref q_9, .ref Ks]) X hw (va_runV (As := [.ref Ks]) (rest := []) (cfix X) (k_X4_cutStrand5 l G cy κ S _ _ q_9 Ks D R0 R1 R2 Gs A Ev hO.1 ha_11 haKs hp_0 pa_16 pa_17 pa_18) (cwV 1 X.2.2.2.1 gX11_cut_X4_cutStrand rfl rfl rfl (by decide +kernel) ⟨Nat.le_of_ble_eq_true rfl, Nat.le_of_ble_eq_true rfl⟩) (pre_gV X hw _ ha_11 rfl (by decide) rfl) rfl rfl hl.1 rfl (lv_room (Nat.le_of_ble_eq_true rfl)) dX11_cut_19 ⟨(by show 0 + (Phc S + 8) ≤ Phc S + 8; omega), (by show 0 + (Phs S + 15019) ≤ Phs S + 15019; omega)⟩) (fun rr_21 S_22 H locs c_23 n_24 hc_23 hn_24 hp hw => ?_)
    obtain ⟨hk_25, hp⟩ := hp
    have ph_26 : c_23 + Phc S_22 ≤ Phc S + 0 := by omega
    have ph_27 : n_24 + Phs S_22 ≤ Phs S + 0 := by omega
    clear hpc0
    clear hps0
    clear hc_23
    clear hn_24
    have hO_28 : Og eCU S S_22 := hO.call hk_25 (by decide +kernel)
    obtain ⟨cu_29, cu_30, cu_31, cu_32, cu_33⟩ := hp
    exact ret_gi X hw hr hlocks (by show c_23 ≤ Phc S + 8; omega) (by show n_24 ≤ Phs S + 15019; omega) (by omega) (by omega) ⟨hO_28, ⟨z_lo _, z_hi _, fun _ _ P hP => (by rw [f_14] at hP; cases hP; exact ⟨cu_31, cu_32, cu_33⟩), fun _ h => absurd ⟨by omega, by omega⟩ h⟩⟩ dX11_cut_22
