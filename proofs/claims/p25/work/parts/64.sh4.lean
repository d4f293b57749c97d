def TkP (S T : PS) (x P : Nat) (k r : Int) : Prop := ((pI S 300 P).toInt = -1 ∧ r = -2 ∧ T = S) ∨ ((pI S 300 P).toInt ≠ -1 ∧ (pI S 300 P).toInt ≠ k ∧ r = -3 ∧ T = S) ∨ ((pI S 300 P).toInt = k ∧ k = 2 ∧ (pI S 301 P).toInt = 0 ∧ r = -4 ∧ T = S) ∨ ((pI S 300 P).toInt = k ∧ k = 2 ∧ (pI S 301 P).toInt ≠ 0 ∧ r = (sumI (mA S P 302) (pI S 301 P).toInt.toNat).toInt ∧ ∃ v, T = sI (sI S 1110 x v) 300 P (-1)) ∨ ((pI S 300 P).toInt = k ∧ k = 1 ∧ r = (pI S 304 P).toInt ∧ ∃ v, T = sI (sI S 1110 x v) 300 P (-1)) ∨ ((pI S 300 P).toInt = k ∧ k = 0 ∧ ((pR S 303 P = none ∧ ∃ v, T = sI (sI S 1110 x v) 300 P (-1)) ∨ ∃ q v, pR S 303 P = some q ∧ r = (pI S 0 q * 100 + pI S 1 q).toInt ∧ T = sI (sI (sI S 1110 x v) 300 P (-1)) 3 q 0))

set_option maxHeartbeats 4000000 in
set_option maxRecDepth 100000 in
theorem k_X3_sumOfWord4 (l : Launch) (G : va_G) (cy : Nat → ClassId) (κ : Nat → Nat) (S : PS) (sz : Nat) (x : Nat) (hG : GX S) (ha_x : At S x 3) : Ci l yX3_sumOfWord wsX3_sumOfWord ({ frames := 1, cells := 0, slots := 0, locals := 48 }) G cy κ S sz [.ref x] (fun (r : Int32) (S9 : PS) => S = S9 ∧ (-2147483648 ≤ r.toInt ∧ r.toInt ≤ 2147483647 ∧ r = sumI (mA S x 302) (pI S 301 x).toInt.toNat)) := by
  refine ent_m (cc := cX3_sumOfWord) (maxL := 3) (ret := (some .int)) (by decide) rfl (Nat.le_of_ble_eq_true rfl) ?_
  intro p e s m below meth c ls X hr hlocks hin hw hl hsz
  subst hsz
  have X : Cx p c cX3_sumOfWord 3 s [.ref x].toArray wsX3_sumOfWord RX3 m G cy κ (AS S s.heap.size) := X
  have hl : lv_has ls 3 [(0, .ref x)] := hl
  generalize hQQ : MQ below _ _ _ _ _ _ = QQ
  replace hQQ := hQQ.symm
  obtain ⟨v_1, ev_1⟩ : ∃ v, pI S 301 x = v := ⟨_, rfl⟩
  have rg_2 := gI_3_301 hG ha_x; rw [ev_1] at rg_2
  have pz_3 : (pI S 301 x).toInt = v_1.toInt := by rw [ev_1]
  have pz_4 : (pI S 301 x).toInt = v_1.toInt := (congrArg Int32.toInt ev_1).trans rfl
  refine lv_iconst (v := 0) X.1 X.2.1 dX3_sumOfWord_0 (by decide) ?_
  refine lv_istore_n (lv' := [(1, .int 0), (0, .ref x)]) X.1 X.2.1 dX3_sumOfWord_1 rfl hl (by decide) rfl (fun ls hl => ?_)
  refine lv_iconst (v := 0) X.1 X.2.1 dX3_sumOfWord_2 (by decide) ?_
  refine lv_istore_n (lv' := [(2, .int 0), (1, .int 0), (0, .ref x)]) X.1 X.2.1 dX3_sumOfWord_3 rfl hl (by decide) rfl (fun ls hl => ?_)
  have L_5 : ∀ (n : Nat) (H : Heap) (locs : List Loc) (ls : Array Slot) (i1_6 : Int32) (i1_6_z : Int) (i2_7 : Int32) (i2_7_z : Int), ((8 - i2_7_z).toNat = n) → (Wd G cy (AS S s.heap.size) s.heap S H locs) → (i1_6.toInt = i1_6_z) → (i2_7.toInt = i2_7_z) → (0 ≤ i2_7_z ∧ i2_7_z ≤ 8) → (i1_6_z = (sumI (mA S x 302) (i2_7_z).toNat).toInt) → (i2_7_z ≤ (pI S 301 x).toInt) → (lv_has ls 3 [(1, .int (i1_6)), (2, .int (i2_7)), (0, .ref x)]) → W p l e ({ frames := 1, cells := 0, slots := 0, locals := 48 }) s m [.ref x].toArray below meth c H locs 0 0 QQ (F0 m 4 ls []) := by
    intro n
    induction n using Nat.strongRecOn with
    | ind n ih =>
    intro H locs ls i1_6 i1_6_z i2_7 i2_7_z hn hw hz_i1_6 hz_i2_7 hr_i2_7 iv_8 iv_9 hl
    have rg_10 : (-2147483648) ≤ i1_6_z ∧ i1_6_z ≤ 2147483647 := by rw [← hz_i1_6]; exact ⟨z_lo _, z_hi _⟩
    have rg_11 : (-2147483648) ≤ i2_7_z ∧ i2_7_z ≤ 2147483647 := by rw [← hz_i2_7]; exact ⟨z_lo _, z_hi _⟩
    refine lv_iload_n X.1 X.2.1 dX3_sumOfWord_4 rfl (lv_at hl 1 rfl) ?_
    refine lv_aload_n X.1 X.2.1 dX3_sumOfWord_5 rfl (lv_at hl 2 rfl) ?_
    refine r_getI (g := 301) (x := v_1) X hw ha_x rfl 1 ev_1 (by decide) rfl inn_X3_sumOfWord_3 (by decide) (X.2.2.2.1 (.fieldLink RX3 19 "SilkMill$Place" "wordSize" "I") (by decide +kernel)) rfl (gv_301 _ _) dX3_sumOfWord_6 ?_
    refine lv_icmp_ge (tgt := 33) X.1 X.2.1 dX3_sumOfWord_9 (by decide) (fun c_12 => ?_) (fun c_12 => ?_)
    · have z_b_13 := trivial
      have k_14 : i2_7_z ≥ v_1.toInt := z_le rfl hz_i2_7 c_12
      refine lv_iload_n X.1 X.2.1 dX3_sumOfWord_33 rfl (lv_at hl 0 rfl) ?_
      have pz_15 : (pI S 301 x).toInt = v_1.toInt := (congrArg Int32.toInt ev_1).trans rfl
      rw [hQQ]
      exact ret_i X hw hr hlocks (Nat.le_of_ble_eq_true rfl) (Nat.le_of_ble_eq_true rfl) ⟨rfl, ⟨z_lo _, z_hi _, Int32.toInt_inj.mp (by rw [hz_i1_6, iv_8, show (i2_7_z).toNat = (pI S 301 x).toInt.toNat by omega])⟩⟩ dX3_sumOfWord_34
    · have z_b_16 := trivial
      have k_17 : i2_7_z < v_1.toInt := z_nle rfl hz_i2_7 c_12
      refine lv_iload_n X.1 X.2.1 dX3_sumOfWord_12 rfl (lv_at hl 1 rfl) ?_
      refine lv_bipush (v := 8) X.1 X.2.1 dX3_sumOfWord_13 (by decide) ?_
      refine lv_icmp_ge (tgt := 33) X.1 X.2.1 dX3_sumOfWord_15 (by decide) (fun c_18 => ?_) (fun c_18 => ?_)
      · have z_b_19 := trivial
        have k_20 : i2_7_z ≥ 8 := z_le ti_8 hz_i2_7 c_18
        refine lv_iload_n X.1 X.2.1 dX3_sumOfWord_33 rfl (lv_at hl 0 rfl) ?_
        have pz_21 : (pI S 301 x).toInt = v_1.toInt := (congrArg Int32.toInt ev_1).trans rfl
        rw [hQQ]
        exact ret_i X hw hr hlocks (Nat.le_of_ble_eq_true rfl) (Nat.le_of_ble_eq_true rfl) ⟨rfl, ⟨z_lo _, z_hi _, Int32.toInt_inj.mp (by rw [hz_i1_6, iv_8, show (i2_7_z).toNat = (pI S 301 x).toInt.toNat by omega])⟩⟩ dX3_sumOfWord_34
      · have z_b_22 := trivial
        have k_23 : i2_7_z < 8 := z_nle ti_8 hz_i2_7 c_18
        refine lv_iload_n X.1 X.2.1 dX3_sumOfWord_18 rfl (lv_at hl 0 rfl) ?_
        refine lv_aload_n X.1 X.2.1 dX3_sumOfWord_19 rfl (lv_at hl 2 rfl) ?_
        obtain ⟨q_24, h_25, h_26, h_27⟩ := gQ_3_302 hG ha_x
        refine r_getR (g := 302) X hw ha_x rfl 2 h_25 (by decide) rfl inn_X3_sumOfWord_3 (by decide) (X.2.2.2.1 (.fieldLink RX3 15 "SilkMill$Place" "word" "[I") (by decide +kernel)) rfl (gv_302 _ _) dX3_sumOfWord_20 ?_
        refine lv_iload_n X.1 X.2.1 dX3_sumOfWord_23 rfl (lv_at hl 1 rfl) ?_
        refine r_iald X hw h_26 rfl (by rw [h_27]; exact z_ix hz_i2_7 (by omega) (by omega)) dX3_sumOfWord_24 ?_
        refine lv_topi (fun v_28 ev_28 => ?_)
        have rg_29 := And.intro (z_lo v_28) (z_hi v_28)
        have ev_28 := ev_28.symm
        refine lv_iadd X.1 X.2.1 dX3_sumOfWord_25 ?_
        refine lv_topi (fun v_30 ev_30 => ?_)
        have rg_31 := And.intro (z_lo v_30) (z_hi v_30)
        refine lv_istore_n (lv' := [(1, .int (v_30)), (2, .int (i2_7)), (0, .ref x)]) X.1 X.2.1 dX3_sumOfWord_26 rfl hl (by decide) rfl (fun ls hl => ?_)
        obtain ⟨x_32, ex_32⟩ : ∃ y : Int32, y = i2_7 + 1 := ⟨_, rfl⟩
        have z_33 : x_32.toInt = i2_7_z + 1 := z_add ex_32 hz_i2_7 ti_1 (by omega) (by omega)
        refine lv_iinc (v := x_32) (lv' := [(2, .int (x_32)), (1, .int (v_30)), (0, .ref x)]) X.1 X.2.1 dX3_sumOfWord_27 hl (k := 1) rfl (by rw [ex_32]; rfl) (by decide) rfl (fun ls hl => ?_)
        refine lv_goto (tgt := 4) X.1 X.2.1 dX3_sumOfWord_30 (by decide) ?_
        exact ih _ (by omega) _ _ _ (v_30) (v_30.toInt) (x_32) (x_32.toInt) rfl hw rfl rfl (by omega) (by rw [show (x_32.toInt).toNat = (i2_7_z).toNat + 1 by omega]; show v_30.toInt = (sumI (mA S x 302) (i2_7_z).toNat + mA S x 302 (i2_7_z).toNat).toInt; rw [← (Int32.toInt_inj.mp (hz_i1_6.trans iv_8) : i1_6 = _), mA_eq h_25, show (i2_7_z).toNat = (Int32.toNatClampNeg (i2_7)) from (z_nc hz_i2_7 (by omega)).symm, ev_28, ← ev_30]) (by omega) (lv_sub hl [1, 0, 2] rfl)
  exact L_5 _ _ _ _ (0) (0) (0) (0) rfl hw ti_0 ti_0 (by omega) (by rw [show (0 : Int).toNat = 0 from rfl]; exact ti_0.symm) (by omega) (lv_sub hl [1, 0, 2] rfl)
set_option maxHeartbeats 4000000 in
set_option maxRecDepth 100000 in
theorem k_X3_giveUp4 (l : Launch) (G : va_G) (cy : Nat → ClassId) (κ : Nat → Nat) (S : PS) (sz : Nat) (x : Nat) (hG : GX S) (ha_x : At S x 3) : Ci l yX3_giveUp wsX3_giveUp ({ frames := 3, cells := 0, slots := 0, locals := 144 }) G cy κ S sz [.ref x] (fun (r : Int32) (S9 : PS) => Ok eT0 S S9 ∧ (-2147483648 ≤ r.toInt ∧ r.toInt ≤ 2147483647 ∧ (((pI S 300 x).toInt = 1 ∧ r = pI S 304 x ∧ S9 = sI S 300 x (-1)) ∨ ((pI S 300 x).toInt = 2 ∧ r = sumI (mA S x 302) (pI S 301 x).toInt.toNat ∧ S9 = sI S 300 x (-1)) ∨ ((pI S 300 x).toInt ≠ 1 ∧ (pI S 300 x).toInt ≠ 2 ∧ ((pR S 303 x = none ∧ S9 = sI S 300 x (-1)) ∨ ∃ q, pR S 303 x = some q ∧ r = pI S 0 q * 100 + pI S 1 q ∧ S9 = sI (sI S 300 x (-1)) 3 q 0))))) := by
  refine ent_m (cc := cX3_giveUp) (maxL := 2) (ret := (some .int)) (by decide) rfl (Nat.le_of_ble_eq_true rfl) ?_
  intro p e s m below meth c ls X hr hlocks hin hw hl hsz
  subst hsz
  have X : Cx p c cX3_giveUp 2 s [.ref x].toArray wsX3_giveUp RX3 m G cy κ (AS S s.heap.size) := X
  have hl : lv_has ls 2 [(0, .ref x)] := hl
  have hO : Ok eT0 S S := Ok.rf hG
  obtain ⟨v_1, ev_1⟩ : ∃ v, pI S 300 x = v := ⟨_, rfl⟩
  have rg_3 := And.intro (z_lo v_1) (z_hi v_1)
  have pz_4 : (pI S 300 x).toInt = v_1.toInt := by rw [ev_1]
  have pz_5 : (pI S 300 x).toInt = v_1.toInt := (congrArg Int32.toInt ev_1).trans rfl
  refine lv_aload_n X.1 X.2.1 dX3_giveUp_0 rfl (lv_at hl 0 rfl) ?_
  refine r_getI (g := 300) (x := v_1) X hw ha_x rfl 0 ev_1 (by decide) rfl inn_X3_giveUp_3 (by decide) (X.2.2.2.1 (.fieldLink RX3 9 "SilkMill$Place" "kind" "I") (by decide +kernel)) rfl (gv_300 _ _) dX3_giveUp_1 ?_
  refine lv_istore_n (lv' := [(1, .int (v_1)), (0, .ref x)]) X.1 X.2.1 dX3_giveUp_4 rfl hl (by decide) rfl (fun ls hl => ?_)
  refine lv_aload_n X.1 X.2.1 dX3_giveUp_5 rfl (lv_at hl 1 rfl) ?_
  refine lv_iconst (v := (-1)) X.1 X.2.1 dX3_giveUp_6 (by decide) ?_
  refine r_putI (v := (-1)) X hw ha_x rfl 0 300 tyX3 (by decide) rfl inn_X3_giveUp_3 tyX3_ok nmX3 (by decide) (X.2.2.2.1 (.fieldLink RX3 9 "SilkMill$Place" "kind" "I") (by decide +kernel)) rfl (Or.inl rfl) rfl rfl (Nat.le_of_ble_eq_true rfl) (st_300 _ _) dX3_giveUp_7 (fun H locs hw => ?_)
  obtain ⟨S_6, eS_6⟩ : ∃ T, T = sI S 300 x ((-1)) := ⟨_, rfl⟩
  rw [← eS_6] at hw
  have hO_7 : Ok eT0 S S_6 := hO.sI eS_6 (by decide +kernel) (uI_3_300 hO.1 ha_x)
  have h_8 : pI S_6 300 x = (-1) := tI_sIs eS_6
  refine lv_iload_n X.1 X.2.1 dX3_giveUp_10 rfl (lv_at hl 0 rfl) ?_
  refine lv_iconst (v := 1) X.1 X.2.1 dX3_giveUp_11 (by decide) ?_
  refine lv_icmp_ne (tgt := 20) X.1 X.2.1 dX3_giveUp_12 (by decide) (fun c_9 => ?_) (fun c_9 => ?_)
  · have z_b_10 := trivial
    have k_11 : v_1.toInt ≠ 1 := z_ne rfl ti_1 c_9
    refine lv_iload_n X.1 X.2.1 dX3_giveUp_20 rfl (lv_at hl 0 rfl) ?_
    refine lv_iconst (v := 2) X.1 X.2.1 dX3_giveUp_21 (by decide) ?_
    refine lv_icmp_ne (tgt := 32) X.1 X.2.1 dX3_giveUp_22 (by decide) (fun c_12 => ?_) (fun c_12 => ?_)
    · have z_b_13 := trivial
      have k_14 : v_1.toInt ≠ 2 := z_ne rfl ti_2 c_12
      refine lv_aload_n X.1 X.2.1 dX3_giveUp_32 rfl (lv_at hl 1 rfl) ?_
      have t_15 : At S_6 x 3 := tAt_sI eS_6 ha_x
      refine k_i (rm := { frames := 2, cells := 0, slots := 0, locals := 96 }) (av := [.ref x]) X hw (va_runV (As := []) (rest := []) (cfix X) (k_X3_returnCocoon3 l G cy κ S_6 _ x hO_7.1 t_15) (cwV 0 X.2.2.2.1 gX3_giveUp_X3_returnCocoon rfl rfl rfl (by decide +kernel) ⟨Nat.le_of_ble_eq_true rfl, Nat.le_of_ble_eq_true rfl⟩) (pre_V X hw _ t_15 rfl (by decide) rfl) rfl rfl hl.1 rfl (lv_room (Nat.le_of_ble_eq_true rfl)) dX3_giveUp_33 ⟨Nat.le_of_ble_eq_true rfl, Nat.le_of_ble_eq_true rfl⟩) 0 0 (Nat.le_of_ble_eq_true rfl) (Nat.le_of_ble_eq_true rfl) (fun rr_16 S_17 H locs hp hw hfr hnw => ?_)
      obtain ⟨hk_18, hp⟩ := hp
      have hO_19 : Ok eT0 S S_17 := hO_7.call hk_18 (by decide +kernel)
      obtain ⟨rc_20, rc_21, rc_22⟩ := hp
      exact ret_i X hw hr hlocks (Nat.le_of_ble_eq_true rfl) (Nat.le_of_ble_eq_true rfl) ⟨hO_19, ⟨z_lo _, z_hi _, Or.inr (Or.inr ⟨by omega, by omega, by rcases rc_22 with ⟨h1, h2⟩ | ⟨q, h1, h2, h3⟩; exact Or.inl ⟨by rw [eS_6, pR_sI] at h1; exact h1, by rw [h2, eS_6]⟩; exact Or.inr ⟨q, by rw [eS_6, pR_sI] at h1; exact h1, by rw [h2, eS_6, pI_sI_nf (by decide), pI_sI_nf (by decide)], by rw [h3, eS_6]⟩⟩)⟩⟩ dX3_giveUp_36
    · have z_b_23 := trivial
      have k_24 : v_1.toInt = 2 := z_eq rfl ti_2 c_12
      refine lv_aload_n X.1 X.2.1 dX3_giveUp_25 rfl (lv_at hl 1 rfl) ?_
      have t_25 : At S_6 x 3 := tAt_sI eS_6 ha_x
      refine k_i (rm := { frames := 1, cells := 0, slots := 0, locals := 48 }) (av := [.ref x]) X hw (va_runV (As := []) (rest := []) (cfix X) (k_X3_sumOfWord4 l G cy κ S_6 _ x hO_7.1 t_25) (cwV 0 X.2.2.2.1 gX3_giveUp_X3_sumOfWord rfl rfl rfl (by decide +kernel) ⟨Nat.le_of_ble_eq_true rfl, Nat.le_of_ble_eq_true rfl⟩) (pre_V X hw _ t_25 rfl (by decide) rfl) rfl rfl hl.1 rfl (lv_room (Nat.le_of_ble_eq_true rfl)) dX3_giveUp_26 ⟨Nat.le_of_ble_eq_true rfl, Nat.le_of_ble_eq_true rfl⟩) 0 0 (Nat.le_of_ble_eq_true rfl) (Nat.le_of_ble_eq_true rfl) (fun rr_26 S_27 H locs hp hw hfr hnw => ?_)
      obtain ⟨e2, hp⟩ := hp
      subst e2
      obtain ⟨sm_28, sm_29, sm_30⟩ := hp
      refine lv_goto (tgt := 36) X.1 X.2.1 dX3_giveUp_29 (by decide) ?_
      exact ret_i X hw hr hlocks (Nat.le_of_ble_eq_true rfl) (Nat.le_of_ble_eq_true rfl) ⟨hO_7, ⟨z_lo _, z_hi _, Or.inr (Or.inl ⟨by omega, by rw [sm_30, eS_6, pI_sI_nf (by decide), mA_sI rfl], eS_6⟩)⟩⟩ dX3_giveUp_36
  · have z_b_31 := trivial
    have k_32 : v_1.toInt = 1 := z_eq rfl ti_1 c_9
    refine lv_aload_n X.1 X.2.1 dX3_giveUp_15 rfl (lv_at hl 1 rfl) ?_
    have t_33 : At S_6 x 3 := tAt_sI eS_6 ha_x
    obtain ⟨v_34, ev_34⟩ : ∃ v, pI S_6 304 x = v := ⟨_, rfl⟩
    have rg_36 := And.intro (z_lo v_34) (z_hi v_34)
    have pz_37 : (pI S_6 304 x).toInt = v_34.toInt := by rw [ev_34]
    refine r_getI (g := 304) (x := v_34) X hw t_33 rfl 4 ev_34 (by decide) rfl inn_X3_giveUp_3 (by decide) (X.2.2.2.1 (.fieldLink RX3 31 "SilkMill$Place" "number" "I") (by decide +kernel)) rfl (gv_304 _ _) dX3_giveUp_16 ?_
    exact ret_i X hw hr hlocks (Nat.le_of_ble_eq_true rfl) (Nat.le_of_ble_eq_true rfl) ⟨hO_7, ⟨z_lo _, z_hi _, Or.inl ⟨by omega, by have h := ev_34; rw [eS_6, pI_sI_nf (by decide)] at h; exact h.symm, eS_6⟩⟩⟩ dX3_giveUp_19
set_option maxHeartbeats 4000000 in
set_option maxRecDepth 100000 in
theorem k_X11_take4 (l : Launch) (G : va_G) (cy : Nat → ClassId) (κ : Nat → Nat) (S : PS) (sz : Nat) (x : Nat) (a1 : Int32) (a1_z : Int) (a2 : Int32) (a2_z : Int) (hG : GX S) (ha_x : At S x 11) (hz_a1 : a1.toInt = a1_z) (hz_a2 : a2.toInt = a2_z) : Ci l yX11_take wsX11_take ({ frames := 4, cells := 0, slots := 0, locals := 192 }) G cy κ S sz [.ref x, .int (a1), .int (a2)] (fun (r : Int32) (S9 : PS) => Ok eTA S S9 ∧ (-2147483648 ≤ r.toInt ∧ r.toInt ≤ 2147483647 ∧ (¬ (0 ≤ a1_z ∧ a1_z ≤ 15 ∧ 0 ≤ a2_z ∧ a2_z ≤ 2) → r.toInt = -1 ∧ S9 = S) ∧ (0 ≤ a1_z ∧ a1_z ≤ 15 ∧ 0 ≤ a2_z ∧ a2_z ≤ 2 → ∀ P, mB S x 1109 a1_z.toNat = some P → TkP S S9 x P a2_z r.toInt))) := by
  refine ent_m (cc := cX11_take) (maxL := 4) (ret := (some .int)) (by decide) rfl (Nat.le_of_ble_eq_true rfl) ?_
  intro p e s m below meth c ls X hr hlocks hin hw hl hsz
  subst hsz
  have X : Cx p c cX11_take 4 s [.ref x, .int (a1), .int (a2)].toArray wsX11_take RX11 m G cy κ (AS S s.heap.size) := X
  have hl : lv_has ls 4 [(0, .ref x), (1, .int (a1)), (2, .int (a2))] := hl
  have rg_a1 : (-2147483648) ≤ a1_z ∧ a1_z ≤ 2147483647 := by rw [← hz_a1]; exact ⟨z_lo _, z_hi _⟩
  have rg_a2 : (-2147483648) ≤ a2_z ∧ a2_z ≤ 2147483647 := by rw [← hz_a2]; exact ⟨z_lo _, z_hi _⟩
  have hO : Ok eTA S S := Ok.rf hG
  refine lv_aload_n X.1 X.2.1 dX11_take_0 rfl (lv_at hl 0 rfl) ?_
  refine lv_iload_n X.1 X.2.1 dX11_take_1 rfl (lv_at hl 1 rfl) ?_
  refine k_q (rm := { frames := 1, cells := 0, slots := 0, locals := 48 }) (av := [.ref x, .int (a1)]) X hw (va_runV (As := [.int (a1)]) (rest := []) (cfix X) (k_X11_shelfAt3 l G cy κ S _ x (a1) (a1_z) hO.1 ha_x hz_a1) (cwV 1 X.2.2.2.1 gX11_take_X11_shelfAt rfl rfl rfl (by decide +kernel) ⟨Nat.le_of_ble_eq_true rfl, Nat.le_of_ble_eq_true rfl⟩) (pre_V X hw _ ha_x rfl (by decide) rfl) rfl rfl hl.1 rfl (lv_room (Nat.le_of_ble_eq_true rfl)) dX11_take_2 ⟨Nat.le_of_ble_eq_true rfl, Nat.le_of_ble_eq_true rfl⟩) 0 0 (Nat.le_of_ble_eq_true rfl) (Nat.le_of_ble_eq_true rfl) (fun rr_1 S_2 H locs hp hw hfr hnw => ?_)
  obtain ⟨e2, hp⟩ := hp
  subst e2
  obtain ⟨hq_3, hnf_4⟩ := hp
  rcases rr_1 with _ | q_5
  · refine W.eq (g2 := F0 m 5 ls (.null :: [])) rfl ?_
    have nf_6 := hnf_4 rfl
    refine lv_astore_nN (lv' := [(3, .null), (0, .ref x), (1, .int (a1)), (2, .int (a2))]) X.1 X.2.1 dX11_take_5 rfl hl (by decide) rfl (fun ls hl => ?_)
    refine lv_aload_nN X.1 X.2.1 dX11_take_6 rfl (lv_at hl 0 rfl) ?_
    refine lv_ifnullN (tgt := 19) X.1 X.2.1 dX11_take_7 (by decide) ?_
    refine lv_iconst (v := (-1)) X.1 X.2.1 dX11_take_19 (by decide) ?_
    exact ret_i X hw hr hlocks (Nat.le_of_ble_eq_true rfl) (Nat.le_of_ble_eq_true rfl) ⟨hO, ⟨z_lo _, z_hi _, fun _ => ⟨by decide, rfl⟩, fun h P hP => by rw [nf_6 ⟨h.1, h.2.1⟩] at hP; cases hP⟩⟩ dX11_take_20
  · refine W.eq (g2 := F0 m 5 ls (.ref q_5 :: [])) rfl ?_
    obtain ⟨ha_7, f_8, f_9, f_10⟩ := hq_3 _ rfl
    refine lv_astore_n (lv' := [(3, .ref q_5), (0, .ref x), (1, .int (a1)), (2, .int (a2))]) X.1 X.2.1 dX11_take_5 rfl hl (by decide) rfl (fun ls hl => ?_)
    refine lv_aload_n X.1 X.2.1 dX11_take_6 rfl (lv_at hl 0 rfl) ?_
    refine lv_ifnull X.1 X.2.1 dX11_take_7 ?_
    refine lv_iload_n X.1 X.2.1 dX11_take_10 rfl (lv_at hl 3 rfl) ?_
    refine lv_iconst (v := 0) X.1 X.2.1 dX11_take_11 (by decide) ?_
    refine lv_iconst (v := 2) X.1 X.2.1 dX11_take_12 (by decide) ?_
    refine k_i (rm := { frames := 1, cells := 0, slots := 0, locals := 48 }) (av := [.int (a2), .int 0, .int 2]) X hw (va_runS (As := [.int (a2), .int 0, .int 2]) (rest := []) (cfix X) (k_X11_isWithin l G cy κ S _ (a2) (a2_z) (0) (0) (2) (2) hO.1 hz_a2 ti_0 ti_2) (cwS 3 X.2.2.2.1 gX11_take_X11_isWithin rfl rfl rfl (by decide +kernel) ⟨Nat.le_of_ble_eq_true rfl, Nat.le_of_ble_eq_true rfl⟩) (pre_S X hw _) rfl rfl hl.1 rfl (lv_room (Nat.le_of_ble_eq_true rfl)) dX11_take_13 ⟨Nat.le_of_ble_eq_true rfl, Nat.le_of_ble_eq_true rfl⟩) 0 0 (Nat.le_of_ble_eq_true rfl) (Nat.le_of_ble_eq_true rfl) (fun rr_11 S_12 H locs hp hw hfr hnw => ?_)
    obtain ⟨e2, hp⟩ := hp
    subst e2
    rcases hp with ⟨f_13, er_14⟩ | ⟨f_13, er_14⟩ <;> subst er_14
    · have z_b_15 := trivial
      refine lv_if_ne (tgt := 21) X.1 X.2.1 dX11_take_16 (by decide) (fun c_16 => ?_) (fun c_16 => absurd c_16 (by decide))
      refine lv_aload_n X.1 X.2.1 dX11_take_21 rfl (lv_at hl 0 rfl) ?_
      obtain ⟨v_17, ev_17⟩ : ∃ v, pI S 300 q_5 = v := ⟨_, rfl⟩
      have rg_19 := And.intro (z_lo v_17) (z_hi v_17)
      have pz_20 : (pI S 300 q_5).toInt = v_17.toInt := by rw [ev_17]
      obtain ⟨v_21, ev_21⟩ : ∃ v, pI S 301 q_5 = v := ⟨_, rfl⟩
      have rg_22 := gI_3_301 hO.1 ha_7; rw [ev_21] at rg_22
      have pz_23 : (pI S 301 q_5).toInt = v_21.toInt := by rw [ev_21]
      refine r_getI (g := 300) (x := v_17) X hw ha_7 rfl 0 ev_17 (by decide) rfl inn_X11_take_3 (by decide) (X.2.2.2.1 (.fieldLink RX11 307 "SilkMill$Place" "kind" "I") (by decide +kernel)) rfl (gv_300 _ _) dX11_take_22 ?_
      refine lv_iconst (v := (-1)) X.1 X.2.1 dX11_take_25 (by decide) ?_
      refine lv_icmp_ne (tgt := 32) X.1 X.2.1 dX11_take_26 (by decide) (fun c_24 => ?_) (fun c_24 => ?_)
      · have z_b_25 := trivial
        have k_26 : v_17.toInt ≠ (-1) := z_ne rfl ti_m1 c_24
        refine lv_aload_n X.1 X.2.1 dX11_take_32 rfl (lv_at hl 0 rfl) ?_
        refine r_getI (g := 300) (x := v_17) X hw ha_7 rfl 0 ev_17 (by decide) rfl inn_X11_take_3 (by decide) (X.2.2.2.1 (.fieldLink RX11 307 "SilkMill$Place" "kind" "I") (by decide +kernel)) rfl (gv_300 _ _) dX11_take_33 ?_
        refine lv_iload_n X.1 X.2.1 dX11_take_36 rfl (lv_at hl 3 rfl) ?_
        refine lv_icmp_eq (tgt := 43) X.1 X.2.1 dX11_take_37 (by decide) (fun c_27 => ?_) (fun c_27 => ?_)
        · have z_b_28 := trivial
          have k_29 : v_17.toInt = a2_z := z_eq rfl hz_a2 c_27
          refine lv_iload_n X.1 X.2.1 dX11_take_43 rfl (lv_at hl 3 rfl) ?_
          refine lv_iconst (v := 2) X.1 X.2.1 dX11_take_44 (by decide) ?_
          refine lv_icmp_ne (tgt := 58) X.1 X.2.1 dX11_take_45 (by decide) (fun c_30 => ?_) (fun c_30 => ?_)
          · have z_b_31 := trivial
            have k_32 : a2_z ≠ 2 := z_ne hz_a2 ti_2 c_30
            refine lv_aload_n X.1 X.2.1 dX11_take_58 rfl (lv_at hl 1 rfl) ?_
            refine lv_dup X.1 X.2.1 dX11_take_59 rfl ?_
            obtain ⟨v_33, ev_33⟩ : ∃ v, pI S 1110 x = v := ⟨_, rfl⟩
            have rg_35 := And.intro (z_lo v_33) (z_hi v_33)
            have pz_36 : (pI S 1110 x).toInt = v_33.toInt := by rw [ev_33]
            refine r_getI (g := 1110) (x := v_33) X hw ha_x rfl 10 ev_33 (by decide) rfl inn_X11_take_11 (by decide) (X.2.2.2.1 (.fieldLink RX11 321 "SilkMill" "shelved" "I") (by decide +kernel)) rfl (gv_1110 _ _) dX11_take_60 ?_
            refine lv_iconst (v := 1) X.1 X.2.1 dX11_take_63 (by decide) ?_
            refine lv_isub X.1 X.2.1 dX11_take_64 ?_
            refine lv_topi (fun v_37 ev_37 => ?_)
            have rg_38 := And.intro (z_lo v_37) (z_hi v_37)
            refine r_putI (v := v_37) X hw ha_x rfl 10 1110 tyX11 (by decide) rfl inn_X11_take_11 tyX11_ok nmX11 (by decide) (X.2.2.2.1 (.fieldLink RX11 321 "SilkMill" "shelved" "I") (by decide +kernel)) rfl (Or.inl rfl) rfl rfl (Nat.le_of_ble_eq_true rfl) (st_1110 _ _) dX11_take_65 (fun H locs hw => ?_)
            obtain ⟨S_39, eS_39⟩ : ∃ T, T = sI S 1110 x (v_37) := ⟨_, rfl⟩
            rw [← eS_39] at hw
            have hO_40 : Ok eTA S S_39 := hO.sI eS_39 (by decide +kernel) (uI_11_1110 hO.1 ha_x)
            have h_41 : pI S_39 1110 x = v_37 := tI_sIs eS_39
            refine lv_aload_n X.1 X.2.1 dX11_take_68 rfl (lv_at hl 0 rfl) ?_
            have t_42 : At S_39 q_5 3 := tAt_sI eS_39 ha_7
            refine k_i (rm := { frames := 3, cells := 0, slots := 0, locals := 144 }) (av := [.ref q_5]) X hw (va_runV (As := []) (rest := []) (cfix X) (k_X3_giveUp4 l G cy κ S_39 _ q_5 hO_40.1 t_42) (cwV 0 X.2.2.2.1 gX11_take_X3_giveUp rfl rfl rfl (by decide +kernel) ⟨Nat.le_of_ble_eq_true rfl, Nat.le_of_ble_eq_true rfl⟩) (pre_V X hw _ t_42 rfl (by decide) rfl) rfl rfl hl.1 rfl (lv_room (Nat.le_of_ble_eq_true rfl)) dX11_take_69 ⟨Nat.le_of_ble_eq_true rfl, Nat.le_of_ble_eq_true rfl⟩) 0 0 (Nat.le_of_ble_eq_true rfl) (Nat.le_of_ble_eq_true rfl) (fun rr_43 S_44 H locs hp hw hfr hnw => ?_)
            obtain ⟨hk_45, hp⟩ := hp
            have hO_46 : Ok eTA S S_44 := hO_40.call hk_45 (by decide +kernel)
            obtain ⟨gu_47, gu_48, gu_49⟩ := hp
            exact ret_i X hw hr hlocks (Nat.le_of_ble_eq_true rfl) (Nat.le_of_ble_eq_true rfl) ⟨hO_46, ⟨z_lo _, z_hi _, fun h => by exfalso; omega, fun _ P hP => by rw [f_10] at hP; cases hP; rw [eS_39, pI_sI_nf (by decide), pR_sI, pI_sI_nf (by decide)] at gu_49; rw [ev_17] at gu_49; rcases gu_49 with ⟨h0, h1, h2⟩ | ⟨h0, h1s, h1⟩ | ⟨h0, h1, h2⟩; exact Or.inr (Or.inr (Or.inr (Or.inr (Or.inl ⟨by rw [ev_17]; omega, by omega, by rw [h1], _, h2⟩)))); exact Or.inr (Or.inr (Or.inr (Or.inl ⟨by rw [ev_17]; omega, by omega, by rw [ev_21]; omega, by rw [h1s, pI_sI_nf (by decide), mA_sI rfl], _, h1⟩))); refine Or.inr (Or.inr (Or.inr (Or.inr (Or.inr ⟨by rw [ev_17]; omega, by omega, ?_⟩)))); rcases h2 with ⟨h3, h4⟩ | ⟨q, h3, h4, h5⟩; exact Or.inl ⟨h3, _, h4⟩; exact Or.inr ⟨q, _, h3, by rw [h4, pI_sI_nf (by decide), pI_sI_nf (by decide)], h5⟩⟩⟩ dX11_take_72
          · have z_b_50 := trivial
            have k_51 : a2_z = 2 := z_eq hz_a2 ti_2 c_30
            refine lv_aload_n X.1 X.2.1 dX11_take_48 rfl (lv_at hl 0 rfl) ?_
            refine r_getI (g := 301) (x := v_21) X hw ha_7 rfl 1 ev_21 (by decide) rfl inn_X11_take_3 (by decide) (X.2.2.2.1 (.fieldLink RX11 324 "SilkMill$Place" "wordSize" "I") (by decide +kernel)) rfl (gv_301 _ _) dX11_take_49 ?_
            refine lv_if_ne (tgt := 58) X.1 X.2.1 dX11_take_52 (by decide) (fun c_52 => ?_) (fun c_52 => ?_)
            · have z_b_53 := trivial
              have k_54 : v_21.toInt ≠ 0 := z_ne rfl ti_0 c_52
              refine lv_aload_n X.1 X.2.1 dX11_take_58 rfl (lv_at hl 1 rfl) ?_
              refine lv_dup X.1 X.2.1 dX11_take_59 rfl ?_
              obtain ⟨v_55, ev_55⟩ : ∃ v, pI S 1110 x = v := ⟨_, rfl⟩
              have rg_57 := And.intro (z_lo v_55) (z_hi v_55)
              have pz_58 : (pI S 1110 x).toInt = v_55.toInt := by rw [ev_55]
              refine r_getI (g := 1110) (x := v_55) X hw ha_x rfl 10 ev_55 (by decide) rfl inn_X11_take_11 (by decide) (X.2.2.2.1 (.fieldLink RX11 321 "SilkMill" "shelved" "I") (by decide +kernel)) rfl (gv_1110 _ _) dX11_take_60 ?_
              refine lv_iconst (v := 1) X.1 X.2.1 dX11_take_63 (by decide) ?_
              refine lv_isub X.1 X.2.1 dX11_take_64 ?_
              refine lv_topi (fun v_59 ev_59 => ?_)
              have rg_60 := And.intro (z_lo v_59) (z_hi v_59)
              refine r_putI (v := v_59) X hw ha_x rfl 10 1110 tyX11 (by decide) rfl inn_X11_take_11 tyX11_ok nmX11 (by decide) (X.2.2.2.1 (.fieldLink RX11 321 "SilkMill" "shelved" "I") (by decide +kernel)) rfl (Or.inl rfl) rfl rfl (Nat.le_of_ble_eq_true rfl) (st_1110 _ _) dX11_take_65 (fun H locs hw => ?_)
              obtain ⟨S_61, eS_61⟩ : ∃ T, T = sI S 1110 x (v_59) := ⟨_, rfl⟩
              rw [← eS_61] at hw
              have hO_62 : Ok eTA S S_61 := hO.sI eS_61 (by decide +kernel) (uI_11_1110 hO.1 ha_x)
              have h_63 : pI S_61 1110 x = v_59 := tI_sIs eS_61
              refine lv_aload_n X.1 X.2.1 dX11_take_68 rfl (lv_at hl 0 rfl) ?_
              have t_64 : At S_61 q_5 3 := tAt_sI eS_61 ha_7
              refine k_i (rm := { frames := 3, cells := 0, slots := 0, locals := 144 }) (av := [.ref q_5]) X hw (va_runV (As := []) (rest := []) (cfix X) (k_X3_giveUp4 l G cy κ S_61 _ q_5 hO_62.1 t_64) (cwV 0 X.2.2.2.1 gX11_take_X3_giveUp rfl rfl rfl (by decide +kernel) ⟨Nat.le_of_ble_eq_true rfl, Nat.le_of_ble_eq_true rfl⟩) (pre_V X hw _ t_64 rfl (by decide) rfl) rfl rfl hl.1 rfl (lv_room (Nat.le_of_ble_eq_true rfl)) dX11_take_69 ⟨Nat.le_of_ble_eq_true rfl, Nat.le_of_ble_eq_true rfl⟩) 0 0 (Nat.le_of_ble_eq_true rfl) (Nat.le_of_ble_eq_true rfl) (fun rr_65 S_66 H locs hp hw hfr hnw => ?_)
              obtain ⟨hk_67, hp⟩ := hp
              have hO_68 : Ok eTA S S_66 := hO_62.call hk_67 (by decide +kernel)
              obtain ⟨gu_69, gu_70, gu_71⟩ := hp
              exact ret_i X hw hr hlocks (Nat.le_of_ble_eq_true rfl) (Nat.le_of_ble_eq_true rfl) ⟨hO_68, ⟨z_lo _, z_hi _, fun h => by exfalso; omega, fun _ P hP => by rw [f_10] at hP; cases hP; rw [eS_61, pI_sI_nf (by decide), pR_sI, pI_sI_nf (by decide)] at gu_71; rw [ev_17] at gu_71; rcases gu_71 with ⟨h0, h1, h2⟩ | ⟨h0, h1s, h1⟩ | ⟨h0, h1, h2⟩; exact Or.inr (Or.inr (Or.inr (Or.inr (Or.inl ⟨by rw [ev_17]; omega, by omega, by rw [h1], _, h2⟩)))); exact Or.inr (Or.inr (Or.inr (Or.inl ⟨by rw [ev_17]; omega, by omega, by rw [ev_21]; omega, by rw [h1s, pI_sI_nf (by decide), mA_sI rfl], _, h1⟩))); refine Or.inr (Or.inr (Or.inr (Or.inr (Or.inr ⟨by rw [ev_17]; omega, by omega, ?_⟩)))); rcases h2 with ⟨h3, h4⟩ | ⟨q, h3, h4, h5⟩; exact Or.inl ⟨h3, _, h4⟩; exact Or.inr ⟨q, _, h3, by rw [h4, pI_sI_nf (by decide), pI_sI_nf (by decide)], h5⟩⟩⟩ dX11_take_72
            · have z_b_72 := trivial
              have k_73 : v_21.toInt = 0 := z_eq rfl ti_0 c_52
              refine lv_bipush (v := (-4)) X.1 X.2.1 dX11_take_55 (by decide) ?_
              exact ret_i X hw hr hlocks (Nat.le_of_ble_eq_true rfl) (Nat.le_of_ble_eq_true rfl) ⟨hO, ⟨z_lo _, z_hi _, fun h => by exfalso; omega, fun _ P hP => by rw [f_10] at hP; cases hP; exact Or.inr (Or.inr (Or.inl ⟨by rw [ev_17]; omega, by omega, by rw [ev_21]; omega, by decide, rfl⟩))⟩⟩ dX11_take_57
        · have z_b_74 := trivial
          have k_75 : v_17.toInt ≠ a2_z := z_ne rfl hz_a2 c_27
          refine lv_bipush (v := (-3)) X.1 X.2.1 dX11_take_40 (by decide) ?_
          exact ret_i X hw hr hlocks (Nat.le_of_ble_eq_true rfl) (Nat.le_of_ble_eq_true rfl) ⟨hO, ⟨z_lo _, z_hi _, fun h => by exfalso; omega, fun _ P hP => by rw [f_10] at hP; cases hP; exact Or.inr (Or.inl ⟨by rw [ev_17]; omega, by rw [ev_17]; omega, by decide, rfl⟩)⟩⟩ dX11_take_42
      · have z_b_76 := trivial
        have k_77 : v_17.toInt = (-1) := z_eq rfl ti_m1 c_24
        refine lv_bipush (v := (-2)) X.1 X.2.1 dX11_take_29 (by decide) ?_
        exact ret_i X hw hr hlocks (Nat.le_of_ble_eq_true rfl) (Nat.le_of_ble_eq_true rfl) ⟨hO, ⟨z_lo _, z_hi _, fun h => by exfalso; omega, fun _ P hP => by rw [f_10] at hP; cases hP; exact Or.inl ⟨by rw [ev_17]; omega, by decide, rfl⟩⟩⟩ dX11_take_31
    · have z_b_78 := trivial
      refine lv_if_ne (tgt := 21) X.1 X.2.1 dX11_take_16 (by decide) (fun c_79 => absurd c_79 (by decide)) (fun c_79 => ?_)
      refine lv_iconst (v := (-1)) X.1 X.2.1 dX11_take_19 (by decide) ?_
      exact ret_i X hw hr hlocks (Nat.le_of_ble_eq_true rfl) (Nat.le_of_ble_eq_true rfl) ⟨hO, ⟨z_lo _, z_hi _, fun _ => ⟨by decide, rfl⟩, fun h => by exfalso; omega⟩⟩ dX11_take_20
