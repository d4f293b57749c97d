def MKt : List Nat := [1231, 1232, 1233, 1234]
/-! ===== the reference's tape, its tokens ===== -/
theorem rB_ex (S : PS) (x : Nat) : ∃ f : Nat → Int, f = fun (i : Nat) => if (i : Int) < (pI S 1228 x).toInt then (mA S x 1227 i).toInt else 0 := ⟨_, rfl⟩
noncomputable def rB (S : PS) (x : Nat) : Nat → Int := Classical.choose (rB_ex S x)
theorem rB_eq (S : PS) (x i : Nat) : rB S x i = if (i : Int) < (pI S 1228 x).toInt then (mA S x 1227 i).toInt else 0 := congrFun (Classical.choose_spec (rB_ex S x)) i
theorem rB_rng {S : PS} {x : Nat} (hG : GX S) (ha : At S x 12) (i : Nat) : -128 ≤ rB S x i ∧ rB S x i ≤ 127 := by
  rw [rB_eq]
  obtain ⟨q, h1, h2, -⟩ := gQ_12_1227 hG ha
  split
  · rw [mA_eq h1]; exact gE_753 hG h2 i
  · omega
theorem rB_in {S : PS} {x q : Nat} {i u : Int32} {z : Int} (hR : pR S 1227 x = some q) (zp : i.toInt = z) (h0 : 0 ≤ z) (h1 : z < (pI S 1228 x).toInt) (ha : pA S q i.toNatClampNeg = u) : rB S x z.toNat = u.toInt := by
  rw [rB_eq, if_pos (by omega), mA_eq hR, ← z_nc zp h0, ha]
theorem rB_out {S : PS} {x : Nat} {z : Int} (h0 : 0 ≤ z) (h1 : (pI S 1228 x).toInt ≤ z) : rB S x z.toNat = 0 := by
  rw [rB_eq, if_neg (by omega)]
theorem rB_fr {M : List Nat} {S S' : PS} {x : Nat} (hG : GX S) (ha : At S x 12) (hF : Fr M S S') (hM : ([1228, 1227, 10753] : List Nat).all (fun g => !M.contains g) = true) : rB S' x = rB S x := by
  funext i
  rw [rB_eq, rB_eq, hF.I' (g := 1228) (allc hM (by decide)) ha rfl, mA_frc hF ha (ex3 (gQ_12_1227 hG ha)) (allc hM (by decide)) (allc hM (by decide))]
def RTok (S : PS) (x : Nat) (t : Tk) : Prop := (pI S 1231 x).toInt = (t.1 : Int) ∧ (pI S 1232 x).toInt = (t.2.1 : Int) ∧ (pI S 1233 x).toInt = (t.2.2 : Int)
theorem RTok_mk {S : PS} {x k s e : Nat} (h1 : (pI S 1231 x).toInt = (k : Int)) (h2 : (pI S 1232 x).toInt = (s : Int)) (h3 : (pI S 1233 x).toInt = (e : Int)) : RTok S x (k, s, e) := ⟨h1, h2, h3⟩
/-- a byte, as the reference reads it -/
theorem P_bla {b : Int} (h : -128 ≤ b ∧ b ≤ 127) : (b % 256 = 32 ∨ b % 256 = 10) ↔ (b = 32 ∨ b = 10) := by omega
theorem P_let {b : Int} (h : -128 ≤ b ∧ b ≤ 127) : (97 ≤ b % 256 ∧ b % 256 ≤ 122) ↔ (97 ≤ b ∧ b ≤ 122) := by omega
theorem P_dig {b : Int} (h : -128 ≤ b ∧ b ≤ 127) : (48 ≤ b % 256 ∧ b % 256 ≤ 57) ↔ (48 ≤ b ∧ b ≤ 57) := by omega
theorem P_sgn {b : Int} (h : -128 ≤ b ∧ b ≤ 127) : (b % 256 = 60 ∨ b % 256 = 61 ∨ b % 256 = 62 ∨ b % 256 = 58 ∨ b % 256 = 59) ↔ (b = 60 ∨ b = 61 ∨ b = 62 ∨ b = 58 ∨ b = 59) := by omega
/-- of a token with a first byte: its kind -/
theorem tok_kind {B : Nat → Int} {n a : Nat} (hB : ∀ j, n ≤ j → B j = 0) (hl : (tokF B n a).2.2 - (tokF B n a).2.1 ≠ 0) : (letP (B (tokF B n a).2.1) = true → (tokF B n a).2.2 - (tokF B n a).2.1 ≤ 8 → (tokF B n a).1 = 1) ∧ (letP (B (tokF B n a).2.1) = false → digP (B (tokF B n a).2.1) = false → sgnP (B (tokF B n a).2.1) = true → (tokF B n a).1 = 3) := by
  unfold tokF at hl ⊢
  generalize runP blaP B 400 a = s at hl ⊢
  unfold tokS at hl ⊢
  by_cases e1 : n ≤ s
  · rw [if_pos e1] at hl; exact absurd (Nat.sub_self s) hl
  rw [if_neg e1] at hl ⊢
  by_cases e2 : letP (B s) = true
  · rw [if_pos e2]
    refine ⟨fun _ h => if_pos h, fun h => ?_⟩
    have h : letP (B s) = false := h
    rw [e2] at h; cases h
  rw [if_neg e2]
  by_cases e3 : digP (B s) = true
  · rw [if_pos e3]
    refine ⟨fun h => absurd h e2, fun _ h => ?_⟩
    have h : digP (B s) = false := h
    rw [e3] at h; cases h
  rw [if_neg e3]
  exact ⟨fun h => absurd h e2, fun _ _ h => if_pos h⟩
theorem tok_sg1 {B : Nat → Int} {n a : Nat} (h : (tokF B n a).1 = 3) : (tokF B n a).2.2 - (tokF B n a).2.1 = 1 := by
  unfold tokF at h ⊢
  generalize runP blaP B 400 a = s at h ⊢
  unfold tokS at h ⊢
  by_cases e1 : n ≤ s
  · rw [if_pos e1] at h; exact absurd (show (0 : Nat) = 3 from h) (by decide)
  rw [if_neg e1] at h ⊢
  by_cases e2 : letP (B s) = true
  · rw [if_pos e2] at h
    have h : (if runP letP B 400 s - s ≤ 8 then 1 else 4) = 3 := h
    split at h <;> omega
  rw [if_neg e2] at h ⊢
  by_cases e3 : digP (B s) = true
  · rw [if_pos e3] at h
    have h : (if runP digP B 400 s - s ≤ 4 then 2 else 4) = 3 := h
    split at h <;> omega
  rw [if_neg e3]
  show s + 1 - s = 1
  omega

set_option maxHeartbeats 4000000 in
set_option maxRecDepth 100000 in
theorem k_X12_byteAt2 (l : Launch) (G : va_G) (cy : Nat → ClassId) (κ : Nat → Nat) (S : PS) (sz : Nat) (x : Nat) (a1 : Int32) (a1_z : Int) (hG : GX S) (ha_x : At S x 12) (hz_a1 : a1.toInt = a1_z) (hp_0 : 0 ≤ a1_z) : Ci l yX12_byteAt wsX12_byteAt ({ frames := 1, cells := 0, slots := 0, locals := 48 }) G cy κ S sz [.ref x, .int (a1)] (fun (r : Int32) (S9 : PS) => S = S9 ∧ (0 ≤ r.toInt ∧ r.toInt ≤ 255 ∧ r.toInt = rB S x a1_z.toNat % 256 ∧ (-128 ≤ rB S x a1_z.toNat ∧ rB S x a1_z.toNat ≤ 127) ∧ (r.toInt ≠ 0 → a1_z < (pI S 1228 x).toInt))) := by
  refine ent_m (cc := cX12_byteAt) (maxL := 2) (ret := (some .int)) (by decide) rfl (Nat.le_of_ble_eq_true rfl) ?_
  intro p e s m below meth c ls X hr hlocks hin hw hl hsz
  subst hsz
  have X : Cx p c cX12_byteAt 2 s [.ref x, .int (a1)].toArray wsX12_byteAt RX12 m G cy κ (AS S s.heap.size) := X
  have hl : lv_has ls 2 [(0, .ref x), (1, .int (a1))] := hl
  have rg_a1 : (-2147483648) ≤ a1_z ∧ a1_z ≤ 2147483647 := by rw [← hz_a1]; exact ⟨z_lo _, z_hi _⟩
  refine lv_iload_n X.1 X.2.1 dX12_byteAt_0 rfl (lv_at hl 1 rfl) ?_
  refine lv_aload_n X.1 X.2.1 dX12_byteAt_1 rfl (lv_at hl 0 rfl) ?_
  obtain ⟨v_1, ev_1⟩ : ∃ v, pI S 1228 x = v := ⟨_, rfl⟩
  have rg_2 := gI_12_1228 hG ha_x; rw [ev_1] at rg_2
  have pz_3 : (pI S 1228 x).toInt = v_1.toInt := by rw [ev_1]
  refine r_getI (g := 1228) (x := v_1) X hw ha_x rfl 28 ev_1 (by decide) rfl inn_X12_byteAt_12 (by decide) (X.2.2.2.1 (.fieldLink RX12 211 "SilkMillModel" "taped" "I") (by decide +kernel)) rfl (gv_1228 _ _) dX12_byteAt_2 ?_
  refine lv_icmp_ge (tgt := 21) X.1 X.2.1 dX12_byteAt_5 (by decide) (fun c_4 => ?_) (fun c_4 => ?_)
  · have z_b_5 := trivial
    have k_6 : a1_z ≥ v_1.toInt := z_le rfl hz_a1 c_4
    refine lv_iconst (v := 0) X.1 X.2.1 dX12_byteAt_21 (by decide) ?_
    exact ret_i X hw hr hlocks (Nat.le_of_ble_eq_true rfl) (Nat.le_of_ble_eq_true rfl) ⟨rfl, ⟨by decide, by decide, by rw [rB_out (S := S) (x := x) (by omega) (by omega)]; decide, rB_rng hG ha_x _, fun h => absurd rfl h⟩⟩ dX12_byteAt_22
  · have z_b_7 := trivial
    have k_8 : a1_z < v_1.toInt := z_nle rfl hz_a1 c_4
    refine lv_aload_n X.1 X.2.1 dX12_byteAt_8 rfl (lv_at hl 0 rfl) ?_
    obtain ⟨q_9, h_10, h_11, h_12⟩ := gQ_12_1227 hG ha_x
    refine r_getR (g := 1227) X hw ha_x rfl 27 h_10 (by decide) rfl inn_X12_byteAt_12 (by decide) (X.2.2.2.1 (.fieldLink RX12 82 "SilkMillModel" "tape" "[B") (by decide +kernel)) rfl (gv_1227 _ _) dX12_byteAt_9 ?_
    refine lv_iload_n X.1 X.2.1 dX12_byteAt_12 rfl (lv_at hl 1 rfl) ?_
    refine r_bald X hw h_11 rfl (by rw [h_12]; exact z_ix hz_a1 (by omega) (by omega)) dX12_byteAt_13 ?_
    refine lv_topi (fun v_13 ev_13 => ?_)
    have z_14 := gE_753 hG h_11 (Int32.toNatClampNeg (a1)); rw [← ev_13] at z_14
    have ev_13 := ev_13.symm
    refine lv_sipush (v := 255) X.1 X.2.1 dX12_byteAt_14 (by decide) ?_
    refine lv_iand X.1 X.2.1 dX12_byteAt_17 ?_
    refine lv_topi (fun v_15 ev_15 => ?_)
    have z_16 : 0 ≤ v_15.toInt ∧ v_15.toInt ≤ 255 := z_and255 ev_15
    refine lv_goto (tgt := 22) X.1 X.2.1 dX12_byteAt_18 (by decide) ?_
    exact ret_i X hw hr hlocks (Nat.le_of_ble_eq_true rfl) (Nat.le_of_ble_eq_true rfl) ⟨rfl, ⟨by omega, by omega, by rw [rB_in h_10 hz_a1 (by omega) (by omega) ev_13]; exact z_and255e ev_15, rB_rng hG ha_x _, by omega⟩⟩ dX12_byteAt_22
set_option maxHeartbeats 4000000 in
set_option maxRecDepth 100000 in
theorem k_X12_token2 (l : Launch) (G : va_G) (cy : Nat → ClassId) (κ : Nat → Nat) (S : PS) (sz : Nat) (x : Nat) (hG : GX S) (ha_x : At S x 12) : Cv l yX12_token wsX12_token ({ frames := 2, cells := 0, slots := 0, locals := 96 }) G cy κ S sz [.ref x] (fun (S9 : PS) => Ok MKt S S9 ∧ (RTok S9 x (tokF (rB S x) (pI S 1228 x).toInt.toNat (pI S 1233 x).toInt.toNat) ∧ ((tokF (rB S x) (pI S 1228 x).toInt.toNat (pI S 1233 x).toInt.toNat).1 = 2 → (pI S9 1234 x).toInt = numF (rB S x) (tokF (rB S x) (pI S 1228 x).toInt.toNat (pI S 1233 x).toInt.toNat).2.1 ((tokF (rB S x) (pI S 1228 x).toInt.toNat (pI S 1233 x).toInt.toNat).2.2 - (tokF (rB S x) (pI S 1228 x).toInt.toNat (pI S 1233 x).toInt.toNat).2.1)))) := by
  refine ent_m (cc := cX12_token) (maxL := 2) (ret := none) (by decide) rfl (Nat.le_of_ble_eq_true rfl) ?_
  intro p e s m below meth c ls X hr hlocks hin hw hl hsz
  subst hsz
  have X : Cx p c cX12_token 2 s [.ref x].toArray wsX12_token RX12 m G cy κ (AS S s.heap.size) := X
  have hl : lv_has ls 2 [(0, .ref x)] := hl
  have hO : Ok MKt S S := Ok.rf hG
  generalize hQQ : MQ below _ _ _ _ _ _ = QQ
  replace hQQ := hQQ.symm
  obtain ⟨v_1, ev_1⟩ : ∃ v, pI S 1233 x = v := ⟨_, rfl⟩
  have rg_2 := gI_12_1233 hO.1 ha_x; rw [ev_1] at rg_2
  have pz_3 : (pI S 1233 x).toInt = v_1.toInt := by rw [ev_1]
  have pz_4 : (pI S 1233 x).toInt = v_1.toInt := (congrArg Int32.toInt ev_1).trans rfl
  obtain ⟨v_5, ev_5⟩ : ∃ v, pI S 1228 x = v := ⟨_, rfl⟩
  have rg_6 := gI_12_1228 hO.1 ha_x; rw [ev_5] at rg_6
  have pz_7 : (pI S 1228 x).toInt = v_5.toInt := by rw [ev_5]
  have pz_8 : (pI S 1228 x).toInt = v_5.toInt := (congrArg Int32.toInt ev_5).trans rfl
  refine lv_aload_n X.1 X.2.1 dX12_token_0 rfl (lv_at hl 0 rfl) ?_
  refine lv_aload_n X.1 X.2.1 dX12_token_1 rfl (lv_at hl 0 rfl) ?_
  refine r_getI (g := 1233) (x := v_1) X hw ha_x rfl 33 ev_1 (by decide) rfl inn_X12_token_12 (by decide) (X.2.2.2.1 (.fieldLink RX12 214 "SilkMillModel" "to" "I") (by decide +kernel)) rfl (gv_1233 _ _) dX12_token_2 ?_
  refine r_putI (v := v_1) X hw ha_x rfl 32 1232 tyX12 (by decide) rfl inn_X12_token_12 tyX12_ok nmX12 (by decide) (X.2.2.2.1 (.fieldLink RX12 217 "SilkMillModel" "from" "I") (by decide +kernel)) rfl (Or.inl rfl) rfl rfl (Nat.le_of_ble_eq_true rfl) (st_1232 _ _) dX12_token_5 (fun H locs hw => ?_)
  obtain ⟨S_9, eS_9⟩ : ∃ T, T = sI S 1232 x (v_1) := ⟨_, rfl⟩
  rw [← eS_9] at hw
  have hO_10 : Ok MKt S S_9 := hO.sI eS_9 (by decide +kernel) (uI_12_1232 hO.1 ha_x (by omega) (by omega))
  have h_11 : pI S_9 1232 x = v_1 := tI_sIs eS_9
  have t_18 : pI S_9 1228 x = v_5 := tI_sI eS_9 rfl ev_5
  have L_12 : ∀ (n : Nat) (T_13 : PS) (H : Heap) (locs : List Loc) (ls : Array Slot) , ((400 - (pI T_13 1232 x).toInt).toNat = n) → (Wd G cy (AS S s.heap.size) s.heap T_13 H locs) → (At T_13 x 12) → (Ok MKt S T_13) → (0 ≤ (pI T_13 1232 x).toInt ∧ (pI T_13 1232 x).toInt ≤ 400) → ((pI S 1233 x).toInt ≤ (pI T_13 1232 x).toInt) → ((∀ j : Nat, (pI S 1233 x).toInt ≤ (j : Int) → (j : Int) < (pI T_13 1232 x).toInt → blaP (rB S x j) = true)) → (pI T_13 1228 x = v_5) → (lv_has ls 2 [(0, .ref x)]) → W p l e ({ frames := 2, cells := 0, slots := 0, locals := 96 }) s m [.ref x].toArray below meth c H locs 0 0 QQ (F0 m 8 ls []) := by
    intro n
    induction n using Nat.strongRecOn with
    | ind n ih_L_12 =>
    intro T_13 H locs ls  hn hw ha_x_L_14 hO_T_13 iv_15 iv_16 iv_17 ik_19 hl
    obtain ⟨v_20, ev_20⟩ : ∃ v, pI T_13 1232 x = v := ⟨_, rfl⟩
    have rg_21 := gI_12_1232 hO_T_13.1 ha_x_L_14; rw [ev_20] at rg_21
    have pz_22 : (pI T_13 1232 x).toInt = v_20.toInt := by rw [ev_20]
    have pz_23 : (pI T_13 1232 x).toInt = v_20.toInt := (congrArg Int32.toInt ev_20).trans rfl
    have pz_24 : (pI T_13 1228 x).toInt = v_5.toInt := (congrArg Int32.toInt ik_19).trans rfl
    refine lv_aload_n X.1 X.2.1 dX12_token_8 rfl (lv_at hl 0 rfl) ?_
    refine lv_aload_n X.1 X.2.1 dX12_token_9 rfl (lv_at hl 0 rfl) ?_
    refine r_getI (g := 1232) (x := v_20) X hw ha_x_L_14 rfl 32 ev_20 (by decide) rfl inn_X12_token_12 (by decide) (X.2.2.2.1 (.fieldLink RX12 217 "SilkMillModel" "from" "I") (by decide +kernel)) rfl (gv_1232 _ _) dX12_token_10 ?_
    refine k_i (rm := { frames := 1, cells := 0, slots := 0, locals := 48 }) (av := [.ref x, .int (v_20)]) X hw (va_runV (As := [.int (v_20)]) (rest := []) (cfix X) (k_X12_byteAt2 l G cy κ T_13 _ x (v_20) (v_20.toInt) hO_T_13.1 ha_x_L_14 rfl (by first | assumption | omega)) (cwV 1 X.2.2.2.1 gX12_token_X12_byteAt rfl rfl rfl (by decide +kernel) ⟨Nat.le_of_ble_eq_true rfl, Nat.le_of_ble_eq_true rfl⟩) (pre_V X hw _ ha_x_L_14 rfl (by decide) rfl) rfl rfl hl.1 rfl (lv_room (Nat.le_of_ble_eq_true rfl)) dX12_token_13 ⟨Nat.le_of_ble_eq_true rfl, Nat.le_of_ble_eq_true rfl⟩) 0 0 (Nat.le_of_ble_eq_true rfl) (Nat.le_of_ble_eq_true rfl) (fun rr_25 S_26 H locs hp hw hfr hnw => ?_)
    obtain ⟨e2, hp⟩ := hp
    subst e2
    obtain ⟨by_27, by_28, by_29, by_30, by_31⟩ := hp
    rw [rB_fr hG ha_x hO_T_13.fr (by decide +kernel)] at by_29 by_30
    have pz_32 : (pI T_13 1228 x).toInt = v_5.toInt := (congrArg Int32.toInt ik_19).trans rfl
    refine lv_bipush (v := 32) X.1 X.2.1 dX12_token_16 (by decide) ?_
    refine lv_icmp_eq (tgt := 34) X.1 X.2.1 dX12_token_18 (by decide) (fun c_33 => ?_) (fun c_33 => ?_)
    · have z_b_34 := trivial
      have k_35 : rr_25.toInt = 32 := z_eq rfl ti_32 c_33
      refine lv_aload_n X.1 X.2.1 dX12_token_34 rfl (lv_at hl 0 rfl) ?_
      refine lv_dup X.1 X.2.1 dX12_token_35 rfl ?_
      refine r_getI (g := 1232) (x := v_20) X hw ha_x_L_14 rfl 32 ev_20 (by decide) rfl inn_X12_token_12 (by decide) (X.2.2.2.1 (.fieldLink RX12 217 "SilkMillModel" "from" "I") (by decide +kernel)) rfl (gv_1232 _ _) dX12_token_36 ?_
      refine lv_iconst (v := 1) X.1 X.2.1 dX12_token_39 (by decide) ?_
      refine lv_iadd X.1 X.2.1 dX12_token_40 ?_
      refine lv_topi (fun v_36 ev_36 => ?_)
      have z_37 : v_36.toInt = v_20.toInt + 1 := z_add ev_36 rfl ti_1 (by omega) (by omega)
      refine r_putI (v := v_36) X hw ha_x_L_14 rfl 32 1232 tyX12 (by decide) rfl inn_X12_token_12 tyX12_ok nmX12 (by decide) (X.2.2.2.1 (.fieldLink RX12 217 "SilkMillModel" "from" "I") (by decide +kernel)) rfl (Or.inl rfl) rfl rfl (Nat.le_of_ble_eq_true rfl) (st_1232 _ _) dX12_token_41 (fun H locs hw => ?_)
      obtain ⟨S_38, eS_38⟩ : ∃ T, T = sI T_13 1232 x (v_36) := ⟨_, rfl⟩
      rw [← eS_38] at hw
      have hO_39 : Ok MKt S S_38 := hO_T_13.sI eS_38 (by decide +kernel) (uI_12_1232 hO_T_13.1 ha_x_L_14 (by omega) (by omega))
      have h_40 : pI S_38 1232 x = v_36 := tI_sIs eS_38
      refine lv_goto (tgt := 8) X.1 X.2.1 dX12_token_44 (by decide) ?_
      have pz_41 : (pI S_38 1232 x).toInt = (v_20.toInt + 1) := (congrArg Int32.toInt h_40).trans z_37
      have t_42 : At S_38 x 12 := tAt_sI eS_38 ha_x_L_14
      have t_43 : pI S_38 1228 x = v_5 := tI_sI eS_38 rfl ik_19
      exact ih_L_12 _ (by omega) _ _ _ _  rfl hw t_42 hO_39 (by omega) (by omega) (fun j h1 h2 => all_ext (q := v_20.toInt) (fun j h1 h2 => iv_17 j h1 (by omega)) (blaP_t (by omega)) (by omega) j h1 (by omega)) t_43 (lv_sub hl [0] rfl)
    · have z_b_44 := trivial
      have k_45 : rr_25.toInt ≠ 32 := z_ne rfl ti_32 c_33
      refine lv_aload_n X.1 X.2.1 dX12_token_21 rfl (lv_at hl 0 rfl) ?_
      refine lv_aload_n X.1 X.2.1 dX12_token_22 rfl (lv_at hl 0 rfl) ?_
      refine r_getI (g := 1232) (x := v_20) X hw ha_x_L_14 rfl 32 ev_20 (by decide) rfl inn_X12_token_12 (by decide) (X.2.2.2.1 (.fieldLink RX12 217 "SilkMillModel" "from" "I") (by decide +kernel)) rfl (gv_1232 _ _) dX12_token_23 ?_
      refine k_i (rm := { frames := 1, cells := 0, slots := 0, locals := 48 }) (av := [.ref x, .int (v_20)]) X hw (va_runV (As := [.int (v_20)]) (rest := []) (cfix X) (k_X12_byteAt2 l G cy κ T_13 _ x (v_20) (v_20.toInt) hO_T_13.1 ha_x_L_14 rfl (by first | assumption | omega)) (cwV 1 X.2.2.2.1 gX12_token_X12_byteAt rfl rfl rfl (by decide +kernel) ⟨Nat.le_of_ble_eq_true rfl, Nat.le_of_ble_eq_true rfl⟩) (pre_V X hw _ ha_x_L_14 rfl (by decide) rfl) rfl rfl hl.1 rfl (lv_room (Nat.le_of_ble_eq_true rfl)) dX12_token_26 ⟨Nat.le_of_ble_eq_true rfl, Nat.le_of_ble_eq_true rfl⟩) 0 0 (Nat.le_of_ble_eq_true rfl) (Nat.le_of_ble_eq_true rfl) (fun rr_46 S_47 H locs hp hw hfr hnw => ?_)
      obtain ⟨e2, hp⟩ := hp
      subst e2
      obtain ⟨by_48, by_49, by_50, by_51, by_52⟩ := hp
      rw [rB_fr hG ha_x hO_T_13.fr (by decide +kernel)] at by_50 by_51
      have pz_53 : (pI T_13 1228 x).toInt = v_5.toInt := (congrArg Int32.toInt ik_19).trans rfl
      refine lv_bipush (v := 10) X.1 X.2.1 dX12_token_29 (by decide) ?_
      refine lv_icmp_ne (tgt := 47) X.1 X.2.1 dX12_token_31 (by decide) (fun c_54 => ?_) (fun c_54 => ?_)
      · have z_b_55 := trivial
        have k_56 : rr_46.toInt ≠ 10 := z_ne rfl ti_10 c_54
        have hT_57 : tokF (rB S x) (pI S 1228 x).toInt.toNat (pI S 1233 x).toInt.toNat = tokS (rB S x) (pI S 1228 x).toInt.toNat (v_20.toInt).toNat := tokF_at (by omega) (by omega) (all_nat (q := v_20.toInt) (fun j h1 h2 => iv_17 j h1 (by omega)) (by omega)) (blaP_f (by omega))
        refine lv_aload_n X.1 X.2.1 dX12_token_47 rfl (lv_at hl 0 rfl) ?_
        refine lv_aload_n X.1 X.2.1 dX12_token_48 rfl (lv_at hl 0 rfl) ?_
        refine r_getI (g := 1232) (x := v_20) X hw ha_x_L_14 rfl 32 ev_20 (by decide) rfl inn_X12_token_12 (by decide) (X.2.2.2.1 (.fieldLink RX12 217 "SilkMillModel" "from" "I") (by decide +kernel)) rfl (gv_1232 _ _) dX12_token_49 ?_
        refine r_putI (v := v_20) X hw ha_x_L_14 rfl 33 1233 tyX12 (by decide) rfl inn_X12_token_12 tyX12_ok nmX12 (by decide) (X.2.2.2.1 (.fieldLink RX12 214 "SilkMillModel" "to" "I") (by decide +kernel)) rfl (Or.inl rfl) rfl rfl (Nat.le_of_ble_eq_true rfl) (st_1233 _ _) dX12_token_52 (fun H locs hw => ?_)
        obtain ⟨S_58, eS_58⟩ : ∃ T, T = sI T_13 1233 x (v_20) := ⟨_, rfl⟩
        rw [← eS_58] at hw
        have hO_59 : Ok MKt S S_58 := hO_T_13.sI eS_58 (by decide +kernel) (uI_12_1233 hO_T_13.1 ha_x_L_14 (by omega) (by omega))
        have h_60 : pI S_58 1233 x = v_20 := tI_sIs eS_58
        refine lv_aload_n X.1 X.2.1 dX12_token_55 rfl (lv_at hl 0 rfl) ?_
        refine lv_aload_n X.1 X.2.1 dX12_token_56 rfl (lv_at hl 0 rfl) ?_
        have t_61 : At S_58 x 12 := tAt_sI eS_58 ha_x_L_14
        have t_62 : pI S_58 1232 x = v_20 := tI_sI eS_58 rfl ev_20
        refine r_getI (g := 1232) (x := v_20) X hw t_61 rfl 32 t_62 (by decide) rfl inn_X12_token_12 (by decide) (X.2.2.2.1 (.fieldLink RX12 217 "SilkMillModel" "from" "I") (by decide +kernel)) rfl (gv_1232 _ _) dX12_token_57 ?_
        refine k_i (rm := { frames := 1, cells := 0, slots := 0, locals := 48 }) (av := [.ref x, .int (v_20)]) X hw (va_runV (As := [.int (v_20)]) (rest := []) (cfix X) (k_X12_byteAt2 l G cy κ S_58 _ x (v_20) (v_20.toInt) hO_59.1 t_61 rfl (by first | assumption | omega)) (cwV 1 X.2.2.2.1 gX12_token_X12_byteAt rfl rfl rfl (by decide +kernel) ⟨Nat.le_of_ble_eq_true rfl, Nat.le_of_ble_eq_true rfl⟩) (pre_V X hw _ t_61 rfl (by decide) rfl) rfl rfl hl.1 rfl (lv_room (Nat.le_of_ble_eq_true rfl)) dX12_token_60 ⟨Nat.le_of_ble_eq_true rfl, Nat.le_of_ble_eq_true rfl⟩) 0 0 (Nat.le_of_ble_eq_true rfl) (Nat.le_of_ble_eq_true rfl) (fun rr_63 S_64 H locs hp hw hfr hnw => ?_)
        obtain ⟨e2, hp⟩ := hp
        subst e2
        obtain ⟨by_65, by_66, by_67, by_68, by_69⟩ := hp
        rw [rB_fr hG ha_x hO_59.fr (by decide +kernel)] at by_67 by_68
        have t_70 : pI S_58 1228 x = v_5 := tI_sI eS_58 rfl ik_19
        have pz_71 : (pI S_58 1228 x).toInt = v_5.toInt := (congrArg Int32.toInt t_70).trans rfl
        refine lv_istore_n (lv' := [(1, .int (rr_63)), (0, .ref x)]) X.1 X.2.1 dX12_token_63 rfl hl (by decide) rfl (fun ls hl => ?_)
        refine lv_aload_n X.1 X.2.1 dX12_token_64 rfl (lv_at hl 1 rfl) ?_
        refine r_getI (g := 1232) (x := v_20) X hw t_61 rfl 32 t_62 (by decide) rfl inn_X12_token_12 (by decide) (X.2.2.2.1 (.fieldLink RX12 217 "SilkMillModel" "from" "I") (by decide +kernel)) rfl (gv_1232 _ _) dX12_token_65 ?_
        refine lv_aload_n X.1 X.2.1 dX12_token_68 rfl (lv_at hl 1 rfl) ?_
        refine r_getI (g := 1228) (x := v_5) X hw t_61 rfl 28 t_70 (by decide) rfl inn_X12_token_12 (by decide) (X.2.2.2.1 (.fieldLink RX12 211 "SilkMillModel" "taped" "I") (by decide +kernel)) rfl (gv_1228 _ _) dX12_token_69 ?_
        refine lv_icmp_lt (tgt := 83) X.1 X.2.1 dX12_token_72 (by decide) (fun c_72 => ?_) (fun c_72 => ?_)
        · have z_b_73 := trivial
          have k_74 : v_20.toInt < v_5.toInt := z_lt rfl rfl c_72
          refine lv_iload_n X.1 X.2.1 dX12_token_83 rfl (lv_at hl 0 rfl) ?_
          refine lv_bipush (v := 97) X.1 X.2.1 dX12_token_84 (by decide) ?_
          refine lv_bipush (v := 122) X.1 X.2.1 dX12_token_86 (by decide) ?_
          refine k_i (rm := { frames := 1, cells := 0, slots := 0, locals := 48 }) (av := [.int (rr_63), .int 97, .int 122]) X hw (va_runS (As := [.int (rr_63), .int 97, .int 122]) (rest := []) (cfix X) (k_X12_within l G cy κ S_58 _ (rr_63) (rr_63.toInt) (97) (97) (122) (122) hO_59.1 rfl ti_97 ti_122) (cwS 3 X.2.2.2.1 gX12_token_X12_within rfl rfl rfl (by decide +kernel) ⟨Nat.le_of_ble_eq_true rfl, Nat.le_of_ble_eq_true rfl⟩) (pre_S X hw _) rfl rfl hl.1 rfl (lv_room (Nat.le_of_ble_eq_true rfl)) dX12_token_88 ⟨Nat.le_of_ble_eq_true rfl, Nat.le_of_ble_eq_true rfl⟩) 0 0 (Nat.le_of_ble_eq_true rfl) (Nat.le_of_ble_eq_true rfl) (fun rr_75 S_76 H locs hp hw hfr hnw => ?_)
          obtain ⟨e2, hp⟩ := hp
          subst e2
          rcases hp with ⟨f_77, er_78⟩ | ⟨f_77, er_78⟩ <;> subst er_78
          · have z_b_79 := trivial
            refine lv_if_eq (tgt := 151) X.1 X.2.1 dX12_token_91 (by decide) (fun c_80 => absurd c_80 (by decide)) (fun c_80 => ?_)
            have L_81 : ∀ (n : Nat) (T_82 : PS) (H : Heap) (locs : List Loc) (ls : Array Slot) , ((400 - (pI T_82 1233 x).toInt).toNat = n) → (Wd G cy (AS S s.heap.size) s.heap T_82 H locs) → (At T_82 x 12) → (Ok MKt S T_82) → (0 ≤ (pI T_82 1233 x).toInt ∧ (pI T_82 1233 x).toInt ≤ 400) → (v_20.toInt ≤ (pI T_82 1233 x).toInt) → ((∀ j : Nat, v_20.toInt ≤ (j : Int) → (j : Int) < (pI T_82 1233 x).toInt → letP (rB S x j) = true)) → (pI T_82 1228 x = v_5) → (pI T_82 1232 x = v_20) → (lv_has ls 2 [(1, .int (rr_63)), (0, .ref x)]) → W p l e ({ frames := 2, cells := 0, slots := 0, locals := 96 }) s m [.ref x].toArray below meth c H locs 0 0 QQ (F0 m 94 ls []) := by
              intro n
              induction n using Nat.strongRecOn with
              | ind n ih_L_81 =>
              intro T_82 H locs ls  hn hw ha_x_L_83 hO_T_82 iv_84 iv_85 iv_86 ik_87 ik_88 hl
              obtain ⟨v_89, ev_89⟩ : ∃ v, pI T_82 1233 x = v := ⟨_, rfl⟩
              have rg_90 := gI_12_1233 hO_T_82.1 ha_x_L_83; rw [ev_89] at rg_90
              have pz_91 : (pI T_82 1233 x).toInt = v_89.toInt := by rw [ev_89]
              have pz_92 : (pI T_82 1233 x).toInt = v_89.toInt := (congrArg Int32.toInt ev_89).trans rfl
              have pz_93 : (pI T_82 1228 x).toInt = v_5.toInt := (congrArg Int32.toInt ik_87).trans rfl
              have pz_94 : (pI T_82 1232 x).toInt = v_20.toInt := (congrArg Int32.toInt ik_88).trans rfl
              have pz_95 : (pI T_82 1228 x).toInt = v_5.toInt := (congrArg Int32.toInt ik_87).trans rfl
              refine lv_aload_n X.1 X.2.1 dX12_token_94 rfl (lv_at hl 1 rfl) ?_
              refine lv_aload_n X.1 X.2.1 dX12_token_95 rfl (lv_at hl 1 rfl) ?_
              refine r_getI (g := 1233) (x := v_89) X hw ha_x_L_83 rfl 33 ev_89 (by decide) rfl inn_X12_token_12 (by decide) (X.2.2.2.1 (.fieldLink RX12 214 "SilkMillModel" "to" "I") (by decide +kernel)) rfl (gv_1233 _ _) dX12_token_96 ?_
              refine k_i (rm := { frames := 1, cells := 0, slots := 0, locals := 48 }) (av := [.ref x, .int (v_89)]) X hw (va_runV (As := [.int (v_89)]) (rest := []) (cfix X) (k_X12_byteAt2 l G cy κ T_82 _ x (v_89) (v_89.toInt) hO_T_82.1 ha_x_L_83 rfl (by first | assumption | omega)) (cwV 1 X.2.2.2.1 gX12_token_X12_byteAt rfl rfl rfl (by decide +kernel) ⟨Nat.le_of_ble_eq_true rfl, Nat.le_of_ble_eq_true rfl⟩) (pre_V X hw _ ha_x_L_83 rfl (by decide) rfl) rfl rfl hl.1 rfl (lv_room (Nat.le_of_ble_eq_true rfl)) dX12_token_99 ⟨Nat.le_of_ble_eq_true rfl, Nat.le_of_ble_eq_true rfl⟩) 0 0 (Nat.le_of_ble_eq_true rfl) (Nat.le_of_ble_eq_true rfl) (fun rr_96 S_97 H locs hp hw hfr hnw => ?_)
              obtain ⟨e2, hp⟩ := hp
              subst e2
              obtain ⟨by_98, by_99, by_100, by_101, by_102⟩ := hp
              rw [rB_fr hG ha_x hO_T_82.fr (by decide +kernel)] at by_100 by_101
              have pz_103 : (pI T_82 1228 x).toInt = v_5.toInt := (congrArg Int32.toInt ik_87).trans rfl
              refine lv_bipush (v := 97) X.1 X.2.1 dX12_token_102 (by decide) ?_
              refine lv_bipush (v := 122) X.1 X.2.1 dX12_token_104 (by decide) ?_
              refine k_i (rm := { frames := 1, cells := 0, slots := 0, locals := 48 }) (av := [.int (rr_96), .int 97, .int 122]) X hw (va_runS (As := [.int (rr_96), .int 97, .int 122]) (rest := []) (cfix X) (k_X12_within l G cy κ T_82 _ (rr_96) (rr_96.toInt) (97) (97) (122) (122) hO_T_82.1 rfl ti_97 ti_122) (cwS 3 X.2.2.2.1 gX12_token_X12_within rfl rfl rfl (by decide +kernel) ⟨Nat.le_of_ble_eq_true rfl, Nat.le_of_ble_eq_true rfl⟩) (pre_S X hw _) rfl rfl hl.1 rfl (lv_room (Nat.le_of_ble_eq_true rfl)) dX12_token_106 ⟨Nat.le_of_ble_eq_true rfl, Nat.le_of_ble_eq_true rfl⟩) 0 0 (Nat.le_of_ble_eq_true rfl) (Nat.le_of_ble_eq_true rfl) (fun rr_104 S_105 H locs hp hw hfr hnw => ?_)
              obtain ⟨e2, hp⟩ := hp
              subst e2
              rcases hp with ⟨f_106, er_107⟩ | ⟨f_106, er_107⟩ <;> subst er_107
              · have z_b_108 := trivial
                refine lv_if_eq (tgt := 125) X.1 X.2.1 dX12_token_109 (by decide) (fun c_109 => absurd c_109 (by decide)) (fun c_109 => ?_)
                refine lv_aload_n X.1 X.2.1 dX12_token_112 rfl (lv_at hl 1 rfl) ?_
                refine lv_dup X.1 X.2.1 dX12_token_113 rfl ?_
                refine r_getI (g := 1233) (x := v_89) X hw ha_x_L_83 rfl 33 ev_89 (by decide) rfl inn_X12_token_12 (by decide) (X.2.2.2.1 (.fieldLink RX12 214 "SilkMillModel" "to" "I") (by decide +kernel)) rfl (gv_1233 _ _) dX12_token_114 ?_
                refine lv_iconst (v := 1) X.1 X.2.1 dX12_token_117 (by decide) ?_
                refine lv_iadd X.1 X.2.1 dX12_token_118 ?_
                refine lv_topi (fun v_110 ev_110 => ?_)
                have z_111 : v_110.toInt = v_89.toInt + 1 := z_add ev_110 rfl ti_1 (by omega) (by omega)
                refine r_putI (v := v_110) X hw ha_x_L_83 rfl 33 1233 tyX12 (by decide) rfl inn_X12_token_12 tyX12_ok nmX12 (by decide) (X.2.2.2.1 (.fieldLink RX12 214 "SilkMillModel" "to" "I") (by decide +kernel)) rfl (Or.inl rfl) rfl rfl (Nat.le_of_ble_eq_true rfl) (st_1233 _ _) dX12_token_119 (fun H locs hw => ?_)
                obtain ⟨S_112, eS_112⟩ : ∃ T, T = sI T_82 1233 x (v_110) := ⟨_, rfl⟩
                rw [← eS_112] at hw
                have hO_113 : Ok MKt S S_112 := hO_T_82.sI eS_112 (by decide +kernel) (uI_12_1233 hO_T_82.1 ha_x_L_83 (by omega) (by omega))
                have h_114 : pI S_112 1233 x = v_110 := tI_sIs eS_112
                refine lv_goto (tgt := 94) X.1 X.2.1 dX12_token_122 (by decide) ?_
                have pz_115 : (pI S_112 1233 x).toInt = (v_89.toInt + 1) := (congrArg Int32.toInt h_114).trans z_111
                have t_116 : At S_112 x 12 := tAt_sI eS_112 ha_x_L_83
                have t_117 : pI S_112 1228 x = v_5 := tI_sI eS_112 rfl ik_87
                have t_118 : pI S_112 1232 x = v_20 := tI_sI eS_112 rfl ik_88
                exact ih_L_81 _ (by omega) _ _ _ _  rfl hw t_116 hO_113 (by omega) (by omega) (fun j h1 h2 => all_ext (q := v_89.toInt) (fun j h1 h2 => iv_86 j h1 (by omega)) (letP_t (by omega)) (by omega) j h1 (by omega)) t_117 t_118 (lv_sub hl [0, 1] rfl)
              · have z_b_119 := trivial
                refine lv_if_eq (tgt := 125) X.1 X.2.1 dX12_token_109 (by decide) (fun c_120 => ?_) (fun c_120 => absurd c_120 (by decide))
                refine lv_aload_n X.1 X.2.1 dX12_token_125 rfl (lv_at hl 1 rfl) ?_
                refine lv_aload_n X.1 X.2.1 dX12_token_126 rfl (lv_at hl 1 rfl) ?_
                refine r_getI (g := 1233) (x := v_89) X hw ha_x_L_83 rfl 33 ev_89 (by decide) rfl inn_X12_token_12 (by decide) (X.2.2.2.1 (.fieldLink RX12 214 "SilkMillModel" "to" "I") (by decide +kernel)) rfl (gv_1233 _ _) dX12_token_127 ?_
                refine lv_aload_n X.1 X.2.1 dX12_token_130 rfl (lv_at hl 1 rfl) ?_
                refine r_getI (g := 1232) (x := v_20) X hw ha_x_L_83 rfl 32 ik_88 (by decide) rfl inn_X12_token_12 (by decide) (X.2.2.2.1 (.fieldLink RX12 217 "SilkMillModel" "from" "I") (by decide +kernel)) rfl (gv_1232 _ _) dX12_token_131 ?_
                refine lv_isub X.1 X.2.1 dX12_token_134 ?_
                refine lv_topi (fun v_121 ev_121 => ?_)
                have z_122 : v_121.toInt = v_89.toInt - v_20.toInt := z_sub ev_121 rfl rfl (by omega) (by omega)
                refine lv_bipush (v := 8) X.1 X.2.1 dX12_token_135 (by decide) ?_
                refine lv_icmp_le (tgt := 144) X.1 X.2.1 dX12_token_137 (by decide) (fun c_123 => ?_) (fun c_123 => ?_)
                · have z_b_124 := trivial
                  have k_125 : (v_89.toInt - v_20.toInt) ≤ 8 := z_le z_122 ti_8 c_123
                  refine lv_iconst (v := 1) X.1 X.2.1 dX12_token_144 (by decide) ?_
                  refine r_putI (v := 1) X hw ha_x_L_83 rfl 31 1231 tyX12 (by decide) rfl inn_X12_token_12 tyX12_ok nmX12 (by decide) (X.2.2.2.1 (.fieldLink RX12 223 "SilkMillModel" "kind" "I") (by decide +kernel)) rfl (Or.inl rfl) rfl rfl (Nat.le_of_ble_eq_true rfl) (st_1231 _ _) dX12_token_145 (fun H locs hw => ?_)
                  obtain ⟨S_126, eS_126⟩ : ∃ T, T = sI T_82 1231 x (1) := ⟨_, rfl⟩
                  rw [← eS_126] at hw
                  have hO_127 : Ok MKt S S_126 := hO_T_82.sI eS_126 (by decide +kernel) (uI_12_1231 hO_T_82.1 ha_x_L_83)
                  have h_128 : pI S_126 1231 x = 1 := tI_sIs eS_126
                  refine lv_goto (tgt := 308) X.1 X.2.1 dX12_token_148 (by decide) ?_
                  have pz_129 : (pI S_126 1231 x).toInt = 1 := (congrArg Int32.toInt h_128).trans ti_1
                  have t_130 : pI S_126 1232 x = v_20 := tI_sI eS_126 rfl ik_88
                  have pz_131 : (pI S_126 1232 x).toInt = v_20.toInt := (congrArg Int32.toInt t_130).trans rfl
                  have t_132 : pI S_126 1233 x = v_89 := tI_sI eS_126 rfl ev_89
                  have pz_133 : (pI S_126 1233 x).toInt = v_89.toInt := (congrArg Int32.toInt t_132).trans rfl
                  obtain ⟨v_134, ev_134⟩ : ∃ v, pI S_126 1234 x = v := ⟨_, rfl⟩
                  have rg_136 := And.intro (z_lo v_134) (z_hi v_134)
                  have pz_137 : (pI S_126 1234 x).toInt = v_134.toInt := by rw [ev_134]
                  have pz_138 : (pI S_126 1234 x).toInt = v_134.toInt := (congrArg Int32.toInt ev_134).trans rfl
                  rw [hQQ]
                  exact ret_v X hw hr hlocks (Nat.le_of_ble_eq_true rfl) (Nat.le_of_ble_eq_true rfl) ⟨hO_127, (by rw [hT_57, tokS_let (e := (v_89.toInt).toNat) (by omega) (letP_t (by omega)) (by omega) (by omega) (all_nat (q := v_89.toInt) (fun j h1 h2 => iv_86 j h1 (by omega)) (by omega)) (letP_f (by omega)), if_pos (by omega)]; exact ⟨RTok_mk (by omega) (by omega) (by omega), fun h => absurd (show (1 : Nat) = 2 from h) (by decide)⟩)⟩ dX12_token_308
                · have z_b_139 := trivial
                  have k_140 : (v_89.toInt - v_20.toInt) > 8 := z_nle z_122 ti_8 c_123
                  refine lv_iconst (v := 4) X.1 X.2.1 dX12_token_140 (by decide) ?_
                  refine lv_goto (tgt := 145) X.1 X.2.1 dX12_token_141 (by decide) ?_
                  refine r_putI (v := 4) X hw ha_x_L_83 rfl 31 1231 tyX12 (by decide) rfl inn_X12_token_12 tyX12_ok nmX12 (by decide) (X.2.2.2.1 (.fieldLink RX12 223 "SilkMillModel" "kind" "I") (by decide +kernel)) rfl (Or.inl rfl) rfl rfl (Nat.le_of_ble_eq_true rfl) (st_1231 _ _) dX12_token_145 (fun H locs hw => ?_)
                  obtain ⟨S_141, eS_141⟩ : ∃ T, T = sI T_82 1231 x (4) := ⟨_, rfl⟩
                  rw [← eS_141] at hw
                  have hO_142 : Ok MKt S S_141 := hO_T_82.sI eS_141 (by decide +kernel) (uI_12_1231 hO_T_82.1 ha_x_L_83)
                  have h_143 : pI S_141 1231 x = 4 := tI_sIs eS_141
                  refine lv_goto (tgt := 308) X.1 X.2.1 dX12_token_148 (by decide) ?_
                  have pz_144 : (pI S_141 1231 x).toInt = 4 := (congrArg Int32.toInt h_143).trans ti_4
                  have t_145 : pI S_141 1232 x = v_20 := tI_sI eS_141 rfl ik_88
                  have pz_146 : (pI S_141 1232 x).toInt = v_20.toInt := (congrArg Int32.toInt t_145).trans rfl
                  have t_147 : pI S_141 1233 x = v_89 := tI_sI eS_141 rfl ev_89
                  have pz_148 : (pI S_141 1233 x).toInt = v_89.toInt := (congrArg Int32.toInt t_147).trans rfl
                  obtain ⟨v_149, ev_149⟩ : ∃ v, pI S_141 1234 x = v := ⟨_, rfl⟩
                  have rg_151 := And.intro (z_lo v_149) (z_hi v_149)
                  have pz_152 : (pI S_141 1234 x).toInt = v_149.toInt := by rw [ev_149]
                  have pz_153 : (pI S_141 1234 x).toInt = v_149.toInt := (congrArg Int32.toInt ev_149).trans rfl
                  rw [hQQ]
                  exact ret_v X hw hr hlocks (Nat.le_of_ble_eq_true rfl) (Nat.le_of_ble_eq_true rfl) ⟨hO_142, (by rw [hT_57, tokS_let (e := (v_89.toInt).toNat) (by omega) (letP_t (by omega)) (by omega) (by omega) (all_nat (q := v_89.toInt) (fun j h1 h2 => iv_86 j h1 (by omega)) (by omega)) (letP_f (by omega)), if_neg (by omega)]; exact ⟨RTok_mk (by omega) (by omega) (by omega), fun h => absurd (show (4 : Nat) = 2 from h) (by decide)⟩)⟩ dX12_token_308
            have pz_154 : (pI S_58 1233 x).toInt = v_20.toInt := (congrArg Int32.toInt h_60).trans rfl
            exact L_81 _ _ _ _ _  rfl hw t_61 hO_59 (by omega) (by omega) (fun j h1 h2 => absurd h2 (by omega)) t_70 t_62 (lv_sub hl [0, 1] rfl)
          · have z_b_155 := trivial
            refine lv_if_eq (tgt := 151) X.1 X.2.1 dX12_token_91 (by decide) (fun c_156 => ?_) (fun c_156 => absurd c_156 (by decide))
            refine lv_iload_n X.1 X.2.1 dX12_token_151 rfl (lv_at hl 0 rfl) ?_
            refine lv_bipush (v := 48) X.1 X.2.1 dX12_token_152 (by decide) ?_
            refine lv_bipush (v := 57) X.1 X.2.1 dX12_token_154 (by decide) ?_
            refine k_i (rm := { frames := 1, cells := 0, slots := 0, locals := 48 }) (av := [.int (rr_63), .int 48, .int 57]) X hw (va_runS (As := [.int (rr_63), .int 48, .int 57]) (rest := []) (cfix X) (k_X12_within l G cy κ S_58 _ (rr_63) (rr_63.toInt) (48) (48) (57) (57) hO_59.1 rfl ti_48 ti_57) (cwS 3 X.2.2.2.1 gX12_token_X12_within rfl rfl rfl (by decide +kernel) ⟨Nat.le_of_ble_eq_true rfl, Nat.le_of_ble_eq_true rfl⟩) (pre_S X hw _) rfl rfl hl.1 rfl (lv_room (Nat.le_of_ble_eq_true rfl)) dX12_token_156 ⟨Nat.le_of_ble_eq_true rfl, Nat.le_of_ble_eq_true rfl⟩) 0 0 (Nat.le_of_ble_eq_true rfl) (Nat.le_of_ble_eq_true rfl) (fun rr_157 S_158 H locs hp hw hfr hnw => ?_)
            obtain ⟨e2, hp⟩ := hp
            subst e2
            rcases hp with ⟨f_159, er_160⟩ | ⟨f_159, er_160⟩ <;> subst er_160
            · have z_b_161 := trivial
              refine lv_if_eq (tgt := 259) X.1 X.2.1 dX12_token_159 (by decide) (fun c_162 => absurd c_162 (by decide)) (fun c_162 => ?_)
              refine lv_aload_n X.1 X.2.1 dX12_token_162 rfl (lv_at hl 1 rfl) ?_
              refine lv_iconst (v := 0) X.1 X.2.1 dX12_token_163 (by decide) ?_
              refine r_putI (v := 0) X hw t_61 rfl 34 1234 tyX12 (by decide) rfl inn_X12_token_12 tyX12_ok nmX12 (by decide) (X.2.2.2.1 (.fieldLink RX12 226 "SilkMillModel" "value" "I") (by decide +kernel)) rfl (Or.inl rfl) rfl rfl (Nat.le_of_ble_eq_true rfl) (st_1234 _ _) dX12_token_164 (fun H locs hw => ?_)
              obtain ⟨S_163, eS_163⟩ : ∃ T, T = sI S_58 1234 x (0) := ⟨_, rfl⟩
              rw [← eS_163] at hw
              have hO_164 : Ok MKt S S_163 := hO_59.sI eS_163 (by decide +kernel) (uI_12_1234 hO_59.1 t_61)
              have h_165 : pI S_163 1234 x = 0 := tI_sIs eS_163
              have t_173 : pI S_163 1228 x = v_5 := tI_sI eS_163 rfl t_70
              have t_175 : pI S_163 1232 x = v_20 := tI_sI eS_163 rfl t_62
              have L_166 : ∀ (n : Nat) (T_167 : PS) (H : Heap) (locs : List Loc) (ls : Array Slot) , ((400 - (pI T_167 1233 x).toInt).toNat = n) → (Wd G cy (AS S s.heap.size) s.heap T_167 H locs) → (At T_167 x 12) → (Ok MKt S T_167) → (0 ≤ (pI T_167 1233 x).toInt ∧ (pI T_167 1233 x).toInt ≤ 400) → (v_20.toInt ≤ (pI T_167 1233 x).toInt) → ((∀ j : Nat, v_20.toInt ≤ (j : Int) → (j : Int) < (pI T_167 1233 x).toInt → digP (rB S x j) = true)) → ((pI T_167 1234 x).toInt = numF (rB S x) (v_20.toInt).toNat (min 4 ((pI T_167 1233 x).toInt - v_20.toInt).toNat)) → (pI T_167 1228 x = v_5) → (pI T_167 1232 x = v_20) → (lv_has ls 2 [(1, .int (rr_63)), (0, .ref x)]) → W p l e ({ frames := 2, cells := 0, slots := 0, locals := 96 }) s m [.ref x].toArray below meth c H locs 0 0 QQ (F0 m 167 ls []) := by
                intro n
                induction n using Nat.strongRecOn with
                | ind n ih_L_166 =>
                intro T_167 H locs ls  hn hw ha_x_L_168 hO_T_167 iv_169 iv_170 iv_171 iv_172 ik_174 ik_176 hl
                obtain ⟨v_177, ev_177⟩ : ∃ v, pI T_167 1233 x = v := ⟨_, rfl⟩
                have rg_178 := gI_12_1233 hO_T_167.1 ha_x_L_168; rw [ev_177] at rg_178
                have pz_179 : (pI T_167 1233 x).toInt = v_177.toInt := by rw [ev_177]
                have pz_180 : (pI T_167 1233 x).toInt = v_177.toInt := (congrArg Int32.toInt ev_177).trans rfl
                have pz_181 : (pI T_167 1228 x).toInt = v_5.toInt := (congrArg Int32.toInt ik_174).trans rfl
                have pz_182 : (pI T_167 1232 x).toInt = v_20.toInt := (congrArg Int32.toInt ik_176).trans rfl
                have pz_183 : (pI T_167 1228 x).toInt = v_5.toInt := (congrArg Int32.toInt ik_174).trans rfl
                obtain ⟨v_184, ev_184⟩ : ∃ v, pI T_167 1234 x = v := ⟨_, rfl⟩
                have rg_186 := And.intro (z_lo v_184) (z_hi v_184)
                have pz_187 : (pI T_167 1234 x).toInt = v_184.toInt := by rw [ev_184]
                have pz_188 : (pI T_167 1234 x).toInt = v_184.toInt := (congrArg Int32.toInt ev_184).trans rfl
                refine lv_aload_n X.1 X.2.1 dX12_token_167 rfl (lv_at hl 1 rfl) ?_
                refine lv_aload_n X.1 X.2.1 dX12_token_168 rfl (lv_at hl 1 rfl) ?_
                refine r_getI (g := 1233) (x := v_177) X hw ha_x_L_168 rfl 33 ev_177 (by decide) rfl inn_X12_token_12 (by decide) (X.2.2.2.1 (.fieldLink RX12 214 "SilkMillModel" "to" "I") (by decide +kernel)) rfl (gv_1233 _ _) dX12_token_169 ?_
                refine k_i (rm := { frames := 1, cells := 0, slots := 0, locals := 48 }) (av := [.ref x, .int (v_177)]) X hw (va_runV (As := [.int (v_177)]) (rest := []) (cfix X) (k_X12_byteAt2 l G cy κ T_167 _ x (v_177) (v_177.toInt) hO_T_167.1 ha_x_L_168 rfl (by first | assumption | omega)) (cwV 1 X.2.2.2.1 gX12_token_X12_byteAt rfl rfl rfl (by decide +kernel) ⟨Nat.le_of_ble_eq_true rfl, Nat.le_of_ble_eq_true rfl⟩) (pre_V X hw _ ha_x_L_168 rfl (by decide) rfl) rfl rfl hl.1 rfl (lv_room (Nat.le_of_ble_eq_true rfl)) dX12_token_172 ⟨Nat.le_of_ble_eq_true rfl, Nat.le_of_ble_eq_true rfl⟩) 0 0 (Nat.le_of_ble_eq_true rfl) (Nat.le_of_ble_eq_true rfl) (fun rr_189 S_190 H locs hp hw hfr hnw => ?_)
                obtain ⟨e2, hp⟩ := hp
                subst e2
                obtain ⟨by_191, by_192, by_193, by_194, by_195⟩ := hp
                rw [rB_fr hG ha_x hO_T_167.fr (by decide +kernel)] at by_193 by_194
                have pz_196 : (pI T_167 1228 x).toInt = v_5.toInt := (congrArg Int32.toInt ik_174).trans rfl
                refine lv_bipush (v := 48) X.1 X.2.1 dX12_token_175 (by decide) ?_
                refine lv_bipush (v := 57) X.1 X.2.1 dX12_token_177 (by decide) ?_
                refine k_i (rm := { frames := 1, cells := 0, slots := 0, locals := 48 }) (av := [.int (rr_189), .int 48, .int 57]) X hw (va_runS (As := [.int (rr_189), .int 48, .int 57]) (rest := []) (cfix X) (k_X12_within l G cy κ T_167 _ (rr_189) (rr_189.toInt) (48) (48) (57) (57) hO_T_167.1 rfl ti_48 ti_57) (cwS 3 X.2.2.2.1 gX12_token_X12_within rfl rfl rfl (by decide +kernel) ⟨Nat.le_of_ble_eq_true rfl, Nat.le_of_ble_eq_true rfl⟩) (pre_S X hw _) rfl rfl hl.1 rfl (lv_room (Nat.le_of_ble_eq_true rfl)) dX12_token_179 ⟨Nat.le_of_ble_eq_true rfl, Nat.le_of_ble_eq_true rfl⟩) 0 0 (Nat.le_of_ble_eq_true rfl) (Nat.le_of_ble_eq_true rfl) (fun rr_197 S_198 H locs hp hw hfr hnw => ?_)
                obtain ⟨e2, hp⟩ := hp
                subst e2
                rcases hp with ⟨f_199, er_200⟩ | ⟨f_199, er_200⟩ <;> subst er_200
                · have z_b_201 := trivial
                  refine lv_if_eq (tgt := 234) X.1 X.2.1 dX12_token_182 (by decide) (fun c_202 => absurd c_202 (by decide)) (fun c_202 => ?_)
                  refine lv_aload_n X.1 X.2.1 dX12_token_185 rfl (lv_at hl 1 rfl) ?_
                  refine r_getI (g := 1233) (x := v_177) X hw ha_x_L_168 rfl 33 ev_177 (by decide) rfl inn_X12_token_12 (by decide) (X.2.2.2.1 (.fieldLink RX12 214 "SilkMillModel" "to" "I") (by decide +kernel)) rfl (gv_1233 _ _) dX12_token_186 ?_
                  refine lv_aload_n X.1 X.2.1 dX12_token_189 rfl (lv_at hl 1 rfl) ?_
                  refine r_getI (g := 1232) (x := v_20) X hw ha_x_L_168 rfl 32 ik_176 (by decide) rfl inn_X12_token_12 (by decide) (X.2.2.2.1 (.fieldLink RX12 217 "SilkMillModel" "from" "I") (by decide +kernel)) rfl (gv_1232 _ _) dX12_token_190 ?_
                  refine lv_isub X.1 X.2.1 dX12_token_193 ?_
                  refine lv_topi (fun v_203 ev_203 => ?_)
                  have z_204 : v_203.toInt = v_177.toInt - v_20.toInt := z_sub ev_203 rfl rfl (by omega) (by omega)
                  refine lv_iconst (v := 4) X.1 X.2.1 dX12_token_194 (by decide) ?_
                  refine lv_icmp_ge (tgt := 221) X.1 X.2.1 dX12_token_195 (by decide) (fun c_205 => ?_) (fun c_205 => ?_)
                  · have z_b_206 := trivial
                    have k_207 : (v_177.toInt - v_20.toInt) ≥ 4 := z_le ti_4 z_204 c_205
                    refine lv_aload_n X.1 X.2.1 dX12_token_221 rfl (lv_at hl 1 rfl) ?_
                    refine lv_dup X.1 X.2.1 dX12_token_222 rfl ?_
                    refine r_getI (g := 1233) (x := v_177) X hw ha_x_L_168 rfl 33 ev_177 (by decide) rfl inn_X12_token_12 (by decide) (X.2.2.2.1 (.fieldLink RX12 214 "SilkMillModel" "to" "I") (by decide +kernel)) rfl (gv_1233 _ _) dX12_token_223 ?_
                    refine lv_iconst (v := 1) X.1 X.2.1 dX12_token_226 (by decide) ?_
                    refine lv_iadd X.1 X.2.1 dX12_token_227 ?_
                    refine lv_topi (fun v_208 ev_208 => ?_)
                    have z_209 : v_208.toInt = v_177.toInt + 1 := z_add ev_208 rfl ti_1 (by omega) (by omega)
                    refine r_putI (v := v_208) X hw ha_x_L_168 rfl 33 1233 tyX12 (by decide) rfl inn_X12_token_12 tyX12_ok nmX12 (by decide) (X.2.2.2.1 (.fieldLink RX12 214 "SilkMillModel" "to" "I") (by decide +kernel)) rfl (Or.inl rfl) rfl rfl (Nat.le_of_ble_eq_true rfl) (st_1233 _ _) dX12_token_228 (fun H locs hw => ?_)
                    obtain ⟨S_210, eS_210⟩ : ∃ T, T = sI T_167 1233 x (v_208) := ⟨_, rfl⟩
                    rw [← eS_210] at hw
                    have hO_211 : Ok MKt S S_210 := hO_T_167.sI eS_210 (by decide +kernel) (uI_12_1233 hO_T_167.1 ha_x_L_168 (by omega) (by omega))
                    have h_212 : pI S_210 1233 x = v_208 := tI_sIs eS_210
                    refine lv_goto (tgt := 167) X.1 X.2.1 dX12_token_231 (by decide) ?_
                    have pz_213 : (pI S_210 1233 x).toInt = (v_177.toInt + 1) := (congrArg Int32.toInt h_212).trans z_209
                    have t_214 : At S_210 x 12 := tAt_sI eS_210 ha_x_L_168
                    have t_215 : pI S_210 1234 x = v_184 := tI_sI eS_210 rfl ev_184
                    have pz_216 : (pI S_210 1234 x).toInt = v_184.toInt := (congrArg Int32.toInt t_215).trans rfl
                    have t_217 : pI S_210 1228 x = v_5 := tI_sI eS_210 rfl ik_174
                    have t_218 : pI S_210 1232 x = v_20 := tI_sI eS_210 rfl ik_176
                    exact ih_L_166 _ (by omega) _ _ _ _  rfl hw t_214 hO_211 (by omega) (by omega) (fun j h1 h2 => all_ext (q := v_177.toInt) (fun j h1 h2 => iv_171 j h1 (by omega)) (digP_t (by omega)) (by omega) j h1 (by omega)) (by rw [show min 4 ((pI S_210 1233 x).toInt - v_20.toInt).toNat = min 4 (v_177.toInt - v_20.toInt).toNat by omega]; have h := iv_172; rw [show (pI T_167 1233 x).toInt = v_177.toInt by omega] at h; omega) t_217 t_218 (lv_sub hl [0, 1] rfl)
                  · have z_b_219 := trivial
                    have k_220 : (v_177.toInt - v_20.toInt) < 4 := z_nle ti_4 z_204 c_205
                    refine lv_aload_n X.1 X.2.1 dX12_token_198 rfl (lv_at hl 1 rfl) ?_
                    refine lv_bipush (v := 10) X.1 X.2.1 dX12_token_199 (by decide) ?_
                    refine lv_aload_n X.1 X.2.1 dX12_token_201 rfl (lv_at hl 1 rfl) ?_
                    refine r_getI (g := 1234) (x := v_184) X hw ha_x_L_168 rfl 34 ev_184 (by decide) rfl inn_X12_token_12 (by decide) (X.2.2.2.1 (.fieldLink RX12 226 "SilkMillModel" "value" "I") (by decide +kernel)) rfl (gv_1234 _ _) dX12_token_202 ?_
                    have pz_222 : (pI T_167 1234 x).toInt = v_184.toInt := (congrArg Int32.toInt ev_184).trans rfl
                    have vr_221 := numF_rng (B := rB S x) (s := (v_20.toInt).toNat) (k := min 4 (v_177.toInt - v_20.toInt).toNat) (fun j hj => of_decide_eq_true (iv_171 ((v_20.toInt).toNat + j) (by omega) (by omega))) (by omega)
                    have vv_223 := iv_172; rw [show (pI T_167 1233 x).toInt = v_177.toInt by omega] at vv_223
                    refine lv_imul X.1 X.2.1 dX12_token_205 ?_
                    refine lv_topi (fun v_224 ev_224 => ?_)
                    have z_225 : v_224.toInt = 10 * v_184.toInt := z_mul ev_224 ti_10 rfl (by omega) (by omega)
                    refine lv_aload_n X.1 X.2.1 dX12_token_206 rfl (lv_at hl 1 rfl) ?_
                    refine lv_aload_n X.1 X.2.1 dX12_token_207 rfl (lv_at hl 1 rfl) ?_
                    refine r_getI (g := 1233) (x := v_177) X hw ha_x_L_168 rfl 33 ev_177 (by decide) rfl inn_X12_token_12 (by decide) (X.2.2.2.1 (.fieldLink RX12 214 "SilkMillModel" "to" "I") (by decide +kernel)) rfl (gv_1233 _ _) dX12_token_208 ?_
                    refine k_i (rm := { frames := 1, cells := 0, slots := 0, locals := 48 }) (av := [.ref x, .int (v_177)]) X hw (va_runV (As := [.int (v_177)]) (rest := [.int (v_224), .ref x]) (cfix X) (k_X12_byteAt2 l G cy κ T_167 _ x (v_177) (v_177.toInt) hO_T_167.1 ha_x_L_168 rfl (by first | assumption | omega)) (cwV 1 X.2.2.2.1 gX12_token_X12_byteAt rfl rfl rfl (by decide +kernel) ⟨Nat.le_of_ble_eq_true rfl, Nat.le_of_ble_eq_true rfl⟩) (pre_V X hw _ ha_x_L_168 rfl (by decide) rfl) rfl rfl hl.1 rfl (lv_room (Nat.le_of_ble_eq_true rfl)) dX12_token_211 ⟨Nat.le_of_ble_eq_true rfl, Nat.le_of_ble_eq_true rfl⟩) 0 0 (Nat.le_of_ble_eq_true rfl) (Nat.le_of_ble_eq_true rfl) (fun rr_226 S_227 H locs hp hw hfr hnw => ?_)
                    obtain ⟨e2, hp⟩ := hp
                    subst e2
                    obtain ⟨by_228, by_229, by_230, by_231, by_232⟩ := hp
                    rw [rB_fr hG ha_x hO_T_167.fr (by decide +kernel)] at by_230 by_231
                    have pz_233 : (pI T_167 1228 x).toInt = v_5.toInt := (congrArg Int32.toInt ik_174).trans rfl
                    refine lv_iadd X.1 X.2.1 dX12_token_214 ?_
                    refine lv_topi (fun v_234 ev_234 => ?_)
                    have z_235 : v_234.toInt = (10 * v_184.toInt) + rr_226.toInt := z_add ev_234 z_225 rfl (by omega) (by omega)
                    refine lv_bipush (v := 48) X.1 X.2.1 dX12_token_215 (by decide) ?_
                    refine lv_isub X.1 X.2.1 dX12_token_217 ?_
                    refine lv_topi (fun v_236 ev_236 => ?_)
                    have z_237 : v_236.toInt = ((10 * v_184.toInt) + rr_226.toInt) - 48 := z_sub ev_236 z_235 ti_48 (by omega) (by omega)
                    refine r_putI (v := v_236) X hw ha_x_L_168 rfl 34 1234 tyX12 (by decide) rfl inn_X12_token_12 tyX12_ok nmX12 (by decide) (X.2.2.2.1 (.fieldLink RX12 226 "SilkMillModel" "value" "I") (by decide +kernel)) rfl (Or.inl rfl) rfl rfl (Nat.le_of_ble_eq_true rfl) (st_1234 _ _) dX12_token_218 (fun H locs hw => ?_)
                    obtain ⟨S_238, eS_238⟩ : ∃ T, T = sI T_167 1234 x (v_236) := ⟨_, rfl⟩
                    rw [← eS_238] at hw
                    have hO_239 : Ok MKt S S_238 := hO_T_167.sI eS_238 (by decide +kernel) (uI_12_1234 hO_T_167.1 ha_x_L_168)
                    have h_240 : pI S_238 1234 x = v_236 := tI_sIs eS_238
                    refine lv_aload_n X.1 X.2.1 dX12_token_221 rfl (lv_at hl 1 rfl) ?_
                    refine lv_dup X.1 X.2.1 dX12_token_222 rfl ?_
                    have t_241 : At S_238 x 12 := tAt_sI eS_238 ha_x_L_168
                    have t_242 : pI S_238 1233 x = v_177 := tI_sI eS_238 rfl ev_177
                    refine r_getI (g := 1233) (x := v_177) X hw t_241 rfl 33 t_242 (by decide) rfl inn_X12_token_12 (by decide) (X.2.2.2.1 (.fieldLink RX12 214 "SilkMillModel" "to" "I") (by decide +kernel)) rfl (gv_1233 _ _) dX12_token_223 ?_
                    refine lv_iconst (v := 1) X.1 X.2.1 dX12_token_226 (by decide) ?_
                    refine lv_iadd X.1 X.2.1 dX12_token_227 ?_
                    refine lv_topi (fun v_243 ev_243 => ?_)
                    have z_244 : v_243.toInt = v_177.toInt + 1 := z_add ev_243 rfl ti_1 (by omega) (by omega)
                    refine r_putI (v := v_243) X hw t_241 rfl 33 1233 tyX12 (by decide) rfl inn_X12_token_12 tyX12_ok nmX12 (by decide) (X.2.2.2.1 (.fieldLink RX12 214 "SilkMillModel" "to" "I") (by decide +kernel)) rfl (Or.inl rfl) rfl rfl (Nat.le_of_ble_eq_true rfl) (st_1233 _ _) dX12_token_228 (fun H locs hw => ?_)
                    obtain ⟨S_245, eS_245⟩ : ∃ T, T = sI S_238 1233 x (v_243) := ⟨_, rfl⟩
                    rw [← eS_245] at hw
                    have hO_246 : Ok MKt S S_245 := hO_239.sI eS_245 (by decide +kernel) (uI_12_1233 hO_239.1 t_241 (by omega) (by omega))
                    have h_247 : pI S_245 1233 x = v_243 := tI_sIs eS_245
                    refine lv_goto (tgt := 167) X.1 X.2.1 dX12_token_231 (by decide) ?_
                    have pz_248 : (pI S_245 1233 x).toInt = (v_177.toInt + 1) := (congrArg Int32.toInt h_247).trans z_244
                    have t_249 : At S_245 x 12 := tAt_sI eS_245 t_241
                    have t_250 : pI S_245 1234 x = v_236 := tI_sI eS_245 rfl h_240
                    have pz_251 : (pI S_245 1234 x).toInt = (((10 * v_184.toInt) + rr_226.toInt) - 48) := (congrArg Int32.toInt t_250).trans z_237
                    have t_252 : pI S_238 1228 x = v_5 := tI_sI eS_238 rfl ik_174
                    have t_253 : pI S_245 1228 x = v_5 := tI_sI eS_245 rfl t_252
                    have t_254 : pI S_238 1232 x = v_20 := tI_sI eS_238 rfl ik_176
                    have t_255 : pI S_245 1232 x = v_20 := tI_sI eS_245 rfl t_254
                    exact ih_L_166 _ (by omega) _ _ _ _  rfl hw t_249 hO_246 (by omega) (by omega) (fun j h1 h2 => all_ext (q := v_177.toInt) (fun j h1 h2 => iv_171 j h1 (by omega)) (digP_t (by omega)) (by omega) j h1 (by omega)) (by rw [show min 4 ((pI S_245 1233 x).toInt - v_20.toInt).toNat = min 4 (v_177.toInt - v_20.toInt).toNat + 1 by omega, numF_s, show (v_20.toInt).toNat + min 4 (v_177.toInt - v_20.toInt).toNat = (v_177.toInt).toNat by omega]; have h := iv_172; rw [show (pI T_167 1233 x).toInt = v_177.toInt by omega] at h; omega) t_253 t_255 (lv_sub hl [0, 1] rfl)
                · have z_b_256 := trivial
                  refine lv_if_eq (tgt := 234) X.1 X.2.1 dX12_token_182 (by decide) (fun c_257 => ?_) (fun c_257 => absurd c_257 (by decide))
                  refine lv_aload_n X.1 X.2.1 dX12_token_234 rfl (lv_at hl 1 rfl) ?_
                  refine lv_aload_n X.1 X.2.1 dX12_token_235 rfl (lv_at hl 1 rfl) ?_
                  refine r_getI (g := 1233) (x := v_177) X hw ha_x_L_168 rfl 33 ev_177 (by decide) rfl inn_X12_token_12 (by decide) (X.2.2.2.1 (.fieldLink RX12 214 "SilkMillModel" "to" "I") (by decide +kernel)) rfl (gv_1233 _ _) dX12_token_236 ?_
                  refine lv_aload_n X.1 X.2.1 dX12_token_239 rfl (lv_at hl 1 rfl) ?_
                  refine r_getI (g := 1232) (x := v_20) X hw ha_x_L_168 rfl 32 ik_176 (by decide) rfl inn_X12_token_12 (by decide) (X.2.2.2.1 (.fieldLink RX12 217 "SilkMillModel" "from" "I") (by decide +kernel)) rfl (gv_1232 _ _) dX12_token_240 ?_
                  refine lv_isub X.1 X.2.1 dX12_token_243 ?_
                  refine lv_topi (fun v_258 ev_258 => ?_)
                  have z_259 : v_258.toInt = v_177.toInt - v_20.toInt := z_sub ev_258 rfl rfl (by omega) (by omega)
                  refine lv_iconst (v := 4) X.1 X.2.1 dX12_token_244 (by decide) ?_
                  refine lv_icmp_le (tgt := 252) X.1 X.2.1 dX12_token_245 (by decide) (fun c_260 => ?_) (fun c_260 => ?_)
                  · have z_b_261 := trivial
                    have k_262 : (v_177.toInt - v_20.toInt) ≤ 4 := z_le z_259 ti_4 c_260
                    refine lv_iconst (v := 2) X.1 X.2.1 dX12_token_252 (by decide) ?_
                    refine r_putI (v := 2) X hw ha_x_L_168 rfl 31 1231 tyX12 (by decide) rfl inn_X12_token_12 tyX12_ok nmX12 (by decide) (X.2.2.2.1 (.fieldLink RX12 223 "SilkMillModel" "kind" "I") (by decide +kernel)) rfl (Or.inl rfl) rfl rfl (Nat.le_of_ble_eq_true rfl) (st_1231 _ _) dX12_token_253 (fun H locs hw => ?_)
                    obtain ⟨S_263, eS_263⟩ : ∃ T, T = sI T_167 1231 x (2) := ⟨_, rfl⟩
                    rw [← eS_263] at hw
                    have hO_264 : Ok MKt S S_263 := hO_T_167.sI eS_263 (by decide +kernel) (uI_12_1231 hO_T_167.1 ha_x_L_168)
                    have h_265 : pI S_263 1231 x = 2 := tI_sIs eS_263
                    refine lv_goto (tgt := 308) X.1 X.2.1 dX12_token_256 (by decide) ?_
                    have pz_266 : (pI S_263 1231 x).toInt = 2 := (congrArg Int32.toInt h_265).trans ti_2
                    have t_267 : pI S_263 1232 x = v_20 := tI_sI eS_263 rfl ik_176
                    have pz_268 : (pI S_263 1232 x).toInt = v_20.toInt := (congrArg Int32.toInt t_267).trans rfl
                    have t_269 : pI S_263 1233 x = v_177 := tI_sI eS_263 rfl ev_177
                    have pz_270 : (pI S_263 1233 x).toInt = v_177.toInt := (congrArg Int32.toInt t_269).trans rfl
                    have t_271 : pI S_263 1234 x = v_184 := tI_sI eS_263 rfl ev_184
                    have pz_272 : (pI S_263 1234 x).toInt = v_184.toInt := (congrArg Int32.toInt t_271).trans rfl
                    rw [hQQ]
                    exact ret_v X hw hr hlocks (Nat.le_of_ble_eq_true rfl) (Nat.le_of_ble_eq_true rfl) ⟨hO_264, (by rw [hT_57, tokS_dig (e := (v_177.toInt).toNat) (by omega) (letP_f (by omega)) (digP_t (by omega)) (by omega) (by omega) (all_nat (q := v_177.toInt) (fun j h1 h2 => iv_171 j h1 (by omega)) (by omega)) (digP_f (by omega)), if_pos (by omega)]; exact ⟨RTok_mk (by omega) (by omega) (by omega), fun _ => by show _ = numF (rB S x) (v_20.toInt).toNat ((v_177.toInt).toNat - (v_20.toInt).toNat); have h := iv_172; rw [show min 4 ((pI T_167 1233 x).toInt - v_20.toInt).toNat = (v_177.toInt).toNat - (v_20.toInt).toNat by omega] at h; omega⟩)⟩ dX12_token_308
                  · have z_b_273 := trivial
                    have k_274 : (v_177.toInt - v_20.toInt) > 4 := z_nle z_259 ti_4 c_260
                    refine lv_iconst (v := 4) X.1 X.2.1 dX12_token_248 (by decide) ?_
                    refine lv_goto (tgt := 253) X.1 X.2.1 dX12_token_249 (by decide) ?_
                    refine r_putI (v := 4) X hw ha_x_L_168 rfl 31 1231 tyX12 (by decide) rfl inn_X12_token_12 tyX12_ok nmX12 (by decide) (X.2.2.2.1 (.fieldLink RX12 223 "SilkMillModel" "kind" "I") (by decide +kernel)) rfl (Or.inl rfl) rfl rfl (Nat.le_of_ble_eq_true rfl) (st_1231 _ _) dX12_token_253 (fun H locs hw => ?_)
                    obtain ⟨S_275, eS_275⟩ : ∃ T, T = sI T_167 1231 x (4) := ⟨_, rfl⟩
                    rw [← eS_275] at hw
                    have hO_276 : Ok MKt S S_275 := hO_T_167.sI eS_275 (by decide +kernel) (uI_12_1231 hO_T_167.1 ha_x_L_168)
                    have h_277 : pI S_275 1231 x = 4 := tI_sIs eS_275
                    refine lv_goto (tgt := 308) X.1 X.2.1 dX12_token_256 (by decide) ?_
                    have pz_278 : (pI S_275 1231 x).toInt = 4 := (congrArg Int32.toInt h_277).trans ti_4
                    have t_279 : pI S_275 1232 x = v_20 := tI_sI eS_275 rfl ik_176
                    have pz_280 : (pI S_275 1232 x).toInt = v_20.toInt := (congrArg Int32.toInt t_279).trans rfl
                    have t_281 : pI S_275 1233 x = v_177 := tI_sI eS_275 rfl ev_177
                    have pz_282 : (pI S_275 1233 x).toInt = v_177.toInt := (congrArg Int32.toInt t_281).trans rfl
                    have t_283 : pI S_275 1234 x = v_184 := tI_sI eS_275 rfl ev_184
                    have pz_284 : (pI S_275 1234 x).toInt = v_184.toInt := (congrArg Int32.toInt t_283).trans rfl
                    rw [hQQ]
                    exact ret_v X hw hr hlocks (Nat.le_of_ble_eq_true rfl) (Nat.le_of_ble_eq_true rfl) ⟨hO_276, (by rw [hT_57, tokS_dig (e := (v_177.toInt).toNat) (by omega) (letP_f (by omega)) (digP_t (by omega)) (by omega) (by omega) (all_nat (q := v_177.toInt) (fun j h1 h2 => iv_171 j h1 (by omega)) (by omega)) (digP_f (by omega)), if_neg (by omega)]; exact ⟨RTok_mk (by omega) (by omega) (by omega), fun h => absurd (show (4 : Nat) = 2 from h) (by decide)⟩)⟩ dX12_token_308
              have t_285 : pI S_163 1233 x = v_20 := tI_sI eS_163 rfl h_60
              have pz_286 : (pI S_163 1233 x).toInt = v_20.toInt := (congrArg Int32.toInt t_285).trans rfl
              have t_287 : At S_163 x 12 := tAt_sI eS_163 t_61
              have pz_288 : (pI S_163 1234 x).toInt = 0 := (congrArg Int32.toInt h_165).trans ti_0
              exact L_166 _ _ _ _ _  rfl hw t_287 hO_164 (by omega) (by omega) (fun j h1 h2 => absurd h2 (by omega)) (by rw [show min 4 ((pI S_163 1233 x).toInt - v_20.toInt).toNat = 0 by omega]; show _ = (0 : Int); omega) t_173 t_175 (lv_sub hl [0, 1] rfl)
            · have z_b_289 := trivial
              refine lv_if_eq (tgt := 259) X.1 X.2.1 dX12_token_159 (by decide) (fun c_290 => ?_) (fun c_290 => absurd c_290 (by decide))
              refine lv_aload_n X.1 X.2.1 dX12_token_259 rfl (lv_at hl 1 rfl) ?_
              refine lv_dup X.1 X.2.1 dX12_token_260 rfl ?_
              refine r_getI (g := 1233) (x := v_20) X hw t_61 rfl 33 h_60 (by decide) rfl inn_X12_token_12 (by decide) (X.2.2.2.1 (.fieldLink RX12 214 "SilkMillModel" "to" "I") (by decide +kernel)) rfl (gv_1233 _ _) dX12_token_261 ?_
              refine lv_iconst (v := 1) X.1 X.2.1 dX12_token_264 (by decide) ?_
              refine lv_iadd X.1 X.2.1 dX12_token_265 ?_
              refine lv_topi (fun v_291 ev_291 => ?_)
              have z_292 : v_291.toInt = v_20.toInt + 1 := z_add ev_291 rfl ti_1 (by omega) (by omega)
              refine r_putI (v := v_291) X hw t_61 rfl 33 1233 tyX12 (by decide) rfl inn_X12_token_12 tyX12_ok nmX12 (by decide) (X.2.2.2.1 (.fieldLink RX12 214 "SilkMillModel" "to" "I") (by decide +kernel)) rfl (Or.inl rfl) rfl rfl (Nat.le_of_ble_eq_true rfl) (st_1233 _ _) dX12_token_266 (fun H locs hw => ?_)
              obtain ⟨S_293, eS_293⟩ : ∃ T, T = sI S_58 1233 x (v_291) := ⟨_, rfl⟩
              rw [← eS_293] at hw
              have hO_294 : Ok MKt S S_293 := hO_59.sI eS_293 (by decide +kernel) (uI_12_1233 hO_59.1 t_61 (by omega) (by omega))
              have h_295 : pI S_293 1233 x = v_291 := tI_sIs eS_293
              refine lv_aload_n X.1 X.2.1 dX12_token_269 rfl (lv_at hl 1 rfl) ?_
              refine lv_iload_n X.1 X.2.1 dX12_token_270 rfl (lv_at hl 0 rfl) ?_
              refine lv_bipush (v := 60) X.1 X.2.1 dX12_token_271 (by decide) ?_
              refine lv_icmp_eq (tgt := 300) X.1 X.2.1 dX12_token_273 (by decide) (fun c_296 => ?_) (fun c_296 => ?_)
              · have z_b_297 := trivial
                have k_298 : rr_63.toInt = 60 := z_eq rfl ti_60 c_296
                refine lv_iconst (v := 3) X.1 X.2.1 dX12_token_300 (by decide) ?_
                refine lv_goto (tgt := 305) X.1 X.2.1 dX12_token_301 (by decide) ?_
                have t_299 : At S_293 x 12 := tAt_sI eS_293 t_61
                refine r_putI (v := 3) X hw t_299 rfl 31 1231 tyX12 (by decide) rfl inn_X12_token_12 tyX12_ok nmX12 (by decide) (X.2.2.2.1 (.fieldLink RX12 223 "SilkMillModel" "kind" "I") (by decide +kernel)) rfl (Or.inl rfl) rfl rfl (Nat.le_of_ble_eq_true rfl) (st_1231 _ _) dX12_token_305 (fun H locs hw => ?_)
                obtain ⟨S_300, eS_300⟩ : ∃ T, T = sI S_293 1231 x (3) := ⟨_, rfl⟩
                rw [← eS_300] at hw
                have hO_301 : Ok MKt S S_300 := hO_294.sI eS_300 (by decide +kernel) (uI_12_1231 hO_294.1 t_299)
                have h_302 : pI S_300 1231 x = 3 := tI_sIs eS_300
                have pz_303 : (pI S_300 1231 x).toInt = 3 := (congrArg Int32.toInt h_302).trans ti_3
                have t_304 : pI S_293 1232 x = v_20 := tI_sI eS_293 rfl t_62
                have t_305 : pI S_300 1232 x = v_20 := tI_sI eS_300 rfl t_304
                have pz_306 : (pI S_300 1232 x).toInt = v_20.toInt := (congrArg Int32.toInt t_305).trans rfl
                have t_307 : pI S_300 1233 x = v_291 := tI_sI eS_300 rfl h_295
                have pz_308 : (pI S_300 1233 x).toInt = (v_20.toInt + 1) := (congrArg Int32.toInt t_307).trans z_292
                obtain ⟨v_309, ev_309⟩ : ∃ v, pI S_300 1234 x = v := ⟨_, rfl⟩
                have rg_311 := And.intro (z_lo v_309) (z_hi v_309)
                have pz_312 : (pI S_300 1234 x).toInt = v_309.toInt := by rw [ev_309]
                have pz_313 : (pI S_300 1234 x).toInt = v_309.toInt := (congrArg Int32.toInt ev_309).trans rfl
                rw [hQQ]
                exact ret_v X hw hr hlocks (Nat.le_of_ble_eq_true rfl) (Nat.le_of_ble_eq_true rfl) ⟨hO_301, (by rw [hT_57, tokS_sgn (by omega) (letP_f (by omega)) (digP_f (by omega)), if_pos (sgnP_t (by omega))]; exact ⟨RTok_mk (by omega) (by omega) (by omega), fun h => absurd (show (3 : Nat) = 2 from h) (by decide)⟩)⟩ dX12_token_308
              · have z_b_314 := trivial
                have k_315 : rr_63.toInt ≠ 60 := z_ne rfl ti_60 c_296
                refine lv_iload_n X.1 X.2.1 dX12_token_276 rfl (lv_at hl 0 rfl) ?_
                refine lv_bipush (v := 61) X.1 X.2.1 dX12_token_277 (by decide) ?_
                refine lv_icmp_eq (tgt := 300) X.1 X.2.1 dX12_token_279 (by decide) (fun c_316 => ?_) (fun c_316 => ?_)
                · have z_b_317 := trivial
                  have k_318 : rr_63.toInt = 61 := z_eq rfl ti_61 c_316
                  refine lv_iconst (v := 3) X.1 X.2.1 dX12_token_300 (by decide) ?_
                  refine lv_goto (tgt := 305) X.1 X.2.1 dX12_token_301 (by decide) ?_
                  have t_319 : At S_293 x 12 := tAt_sI eS_293 t_61
                  refine r_putI (v := 3) X hw t_319 rfl 31 1231 tyX12 (by decide) rfl inn_X12_token_12 tyX12_ok nmX12 (by decide) (X.2.2.2.1 (.fieldLink RX12 223 "SilkMillModel" "kind" "I") (by decide +kernel)) rfl (Or.inl rfl) rfl rfl (Nat.le_of_ble_eq_true rfl) (st_1231 _ _) dX12_token_305 (fun H locs hw => ?_)
                  obtain ⟨S_320, eS_320⟩ : ∃ T, T = sI S_293 1231 x (3) := ⟨_, rfl⟩
                  rw [← eS_320] at hw
                  have hO_321 : Ok MKt S S_320 := hO_294.sI eS_320 (by decide +kernel) (uI_12_1231 hO_294.1 t_319)
                  have h_322 : pI S_320 1231 x = 3 := tI_sIs eS_320
                  have pz_323 : (pI S_320 1231 x).toInt = 3 := (congrArg Int32.toInt h_322).trans ti_3
                  have t_324 : pI S_293 1232 x = v_20 := tI_sI eS_293 rfl t_62
                  have t_325 : pI S_320 1232 x = v_20 := tI_sI eS_320 rfl t_324
                  have pz_326 : (pI S_320 1232 x).toInt = v_20.toInt := (congrArg Int32.toInt t_325).trans rfl
                  have t_327 : pI S_320 1233 x = v_291 := tI_sI eS_320 rfl h_295
                  have pz_328 : (pI S_320 1233 x).toInt = (v_20.toInt + 1) := (congrArg Int32.toInt t_327).trans z_292
                  obtain ⟨v_329, ev_329⟩ : ∃ v, pI S_320 1234 x = v := ⟨_, rfl⟩
                  have rg_331 := And.intro (z_lo v_329) (z_hi v_329)
                  have pz_332 : (pI S_320 1234 x).toInt = v_329.toInt := by rw [ev_329]
                  have pz_333 : (pI S_320 1234 x).toInt = v_329.toInt := (congrArg Int32.toInt ev_329).trans rfl
                  rw [hQQ]
                  exact ret_v X hw hr hlocks (Nat.le_of_ble_eq_true rfl) (Nat.le_of_ble_eq_true rfl) ⟨hO_321, (by rw [hT_57, tokS_sgn (by omega) (letP_f (by omega)) (digP_f (by omega)), if_pos (sgnP_t (by omega))]; exact ⟨RTok_mk (by omega) (by omega) (by omega), fun h => absurd (show (3 : Nat) = 2 from h) (by decide)⟩)⟩ dX12_token_308
                · have z_b_334 := trivial
                  have k_335 : rr_63.toInt ≠ 61 := z_ne rfl ti_61 c_316
                  refine lv_iload_n X.1 X.2.1 dX12_token_282 rfl (lv_at hl 0 rfl) ?_
                  refine lv_bipush (v := 62) X.1 X.2.1 dX12_token_283 (by decide) ?_
                  refine lv_icmp_eq (tgt := 300) X.1 X.2.1 dX12_token_285 (by decide) (fun c_336 => ?_) (fun c_336 => ?_)
                  · have z_b_337 := trivial
                    have k_338 : rr_63.toInt = 62 := z_eq rfl ti_62 c_336
                    refine lv_iconst (v := 3) X.1 X.2.1 dX12_token_300 (by decide) ?_
                    refine lv_goto (tgt := 305) X.1 X.2.1 dX12_token_301 (by decide) ?_
                    have t_339 : At S_293 x 12 := tAt_sI eS_293 t_61
                    refine r_putI (v := 3) X hw t_339 rfl 31 1231 tyX12 (by decide) rfl inn_X12_token_12 tyX12_ok nmX12 (by decide) (X.2.2.2.1 (.fieldLink RX12 223 "SilkMillModel" "kind" "I") (by decide +kernel)) rfl (Or.inl rfl) rfl rfl (Nat.le_of_ble_eq_true rfl) (st_1231 _ _) dX12_token_305 (fun H locs hw => ?_)
                    obtain ⟨S_340, eS_340⟩ : ∃ T, T = sI S_293 1231 x (3) := ⟨_, rfl⟩
                    rw [← eS_340] at hw
                    have hO_341 : Ok MKt S S_340 := hO_294.sI eS_340 (by decide +kernel) (uI_12_1231 hO_294.1 t_339)
                    have h_342 : pI S_340 1231 x = 3 := tI_sIs eS_340
                    have pz_343 : (pI S_340 1231 x).toInt = 3 := (congrArg Int32.toInt h_342).trans ti_3
                    have t_344 : pI S_293 1232 x = v_20 := tI_sI eS_293 rfl t_62
                    have t_345 : pI S_340 1232 x = v_20 := tI_sI eS_340 rfl t_344
                    have pz_346 : (pI S_340 1232 x).toInt = v_20.toInt := (congrArg Int32.toInt t_345).trans rfl
                    have t_347 : pI S_340 1233 x = v_291 := tI_sI eS_340 rfl h_295
                    have pz_348 : (pI S_340 1233 x).toInt = (v_20.toInt + 1) := (congrArg Int32.toInt t_347).trans z_292
                    obtain ⟨v_349, ev_349⟩ : ∃ v, pI S_340 1234 x = v := ⟨_, rfl⟩
                    have rg_351 := And.intro (z_lo v_349) (z_hi v_349)
                    have pz_352 : (pI S_340 1234 x).toInt = v_349.toInt := by rw [ev_349]
                    have pz_353 : (pI S_340 1234 x).toInt = v_349.toInt := (congrArg Int32.toInt ev_349).trans rfl
                    rw [hQQ]
                    exact ret_v X hw hr hlocks (Nat.le_of_ble_eq_true rfl) (Nat.le_of_ble_eq_true rfl) ⟨hO_341, (by rw [hT_57, tokS_sgn (by omega) (letP_f (by omega)) (digP_f (by omega)), if_pos (sgnP_t (by omega))]; exact ⟨RTok_mk (by omega) (by omega) (by omega), fun h => absurd (show (3 : Nat) = 2 from h) (by decide)⟩)⟩ dX12_token_308
                  · have z_b_354 := trivial
                    have k_355 : rr_63.toInt ≠ 62 := z_ne rfl ti_62 c_336
                    refine lv_iload_n X.1 X.2.1 dX12_token_288 rfl (lv_at hl 0 rfl) ?_
                    refine lv_bipush (v := 58) X.1 X.2.1 dX12_token_289 (by decide) ?_
                    refine lv_icmp_eq (tgt := 300) X.1 X.2.1 dX12_token_291 (by decide) (fun c_356 => ?_) (fun c_356 => ?_)
                    · have z_b_357 := trivial
                      have k_358 : rr_63.toInt = 58 := z_eq rfl ti_58 c_356
                      refine lv_iconst (v := 3) X.1 X.2.1 dX12_token_300 (by decide) ?_
                      refine lv_goto (tgt := 305) X.1 X.2.1 dX12_token_301 (by decide) ?_
                      have t_359 : At S_293 x 12 := tAt_sI eS_293 t_61
                      refine r_putI (v := 3) X hw t_359 rfl 31 1231 tyX12 (by decide) rfl inn_X12_token_12 tyX12_ok nmX12 (by decide) (X.2.2.2.1 (.fieldLink RX12 223 "SilkMillModel" "kind" "I") (by decide +kernel)) rfl (Or.inl rfl) rfl rfl (Nat.le_of_ble_eq_true rfl) (st_1231 _ _) dX12_token_305 (fun H locs hw => ?_)
                      obtain ⟨S_360, eS_360⟩ : ∃ T, T = sI S_293 1231 x (3) := ⟨_, rfl⟩
                      rw [← eS_360] at hw
                      have hO_361 : Ok MKt S S_360 := hO_294.sI eS_360 (by decide +kernel) (uI_12_1231 hO_294.1 t_359)
                      have h_362 : pI S_360 1231 x = 3 := tI_sIs eS_360
                      have pz_363 : (pI S_360 1231 x).toInt = 3 := (congrArg Int32.toInt h_362).trans ti_3
                      have t_364 : pI S_293 1232 x = v_20 := tI_sI eS_293 rfl t_62
                      have t_365 : pI S_360 1232 x = v_20 := tI_sI eS_360 rfl t_364
                      have pz_366 : (pI S_360 1232 x).toInt = v_20.toInt := (congrArg Int32.toInt t_365).trans rfl
                      have t_367 : pI S_360 1233 x = v_291 := tI_sI eS_360 rfl h_295
                      have pz_368 : (pI S_360 1233 x).toInt = (v_20.toInt + 1) := (congrArg Int32.toInt t_367).trans z_292
                      obtain ⟨v_369, ev_369⟩ : ∃ v, pI S_360 1234 x = v := ⟨_, rfl⟩
                      have rg_371 := And.intro (z_lo v_369) (z_hi v_369)
                      have pz_372 : (pI S_360 1234 x).toInt = v_369.toInt := by rw [ev_369]
                      have pz_373 : (pI S_360 1234 x).toInt = v_369.toInt := (congrArg Int32.toInt ev_369).trans rfl
                      rw [hQQ]
                      exact ret_v X hw hr hlocks (Nat.le_of_ble_eq_true rfl) (Nat.le_of_ble_eq_true rfl) ⟨hO_361, (by rw [hT_57, tokS_sgn (by omega) (letP_f (by omega)) (digP_f (by omega)), if_pos (sgnP_t (by omega))]; exact ⟨RTok_mk (by omega) (by omega) (by omega), fun h => absurd (show (3 : Nat) = 2 from h) (by decide)⟩)⟩ dX12_token_308
                    · have z_b_374 := trivial
                      have k_375 : rr_63.toInt ≠ 58 := z_ne rfl ti_58 c_356
                      refine lv_iload_n X.1 X.2.1 dX12_token_294 rfl (lv_at hl 0 rfl) ?_
                      refine lv_bipush (v := 59) X.1 X.2.1 dX12_token_295 (by decide) ?_
                      refine lv_icmp_ne (tgt := 304) X.1 X.2.1 dX12_token_297 (by decide) (fun c_376 => ?_) (fun c_376 => ?_)
                      · have z_b_377 := trivial
                        have k_378 : rr_63.toInt ≠ 59 := z_ne rfl ti_59 c_376
                        refine lv_iconst (v := 4) X.1 X.2.1 dX12_token_304 (by decide) ?_
                        have t_379 : At S_293 x 12 := tAt_sI eS_293 t_61
                        refine r_putI (v := 4) X hw t_379 rfl 31 1231 tyX12 (by decide) rfl inn_X12_token_12 tyX12_ok nmX12 (by decide) (X.2.2.2.1 (.fieldLink RX12 223 "SilkMillModel" "kind" "I") (by decide +kernel)) rfl (Or.inl rfl) rfl rfl (Nat.le_of_ble_eq_true rfl) (st_1231 _ _) dX12_token_305 (fun H locs hw => ?_)
                        obtain ⟨S_380, eS_380⟩ : ∃ T, T = sI S_293 1231 x (4) := ⟨_, rfl⟩
                        rw [← eS_380] at hw
                        have hO_381 : Ok MKt S S_380 := hO_294.sI eS_380 (by decide +kernel) (uI_12_1231 hO_294.1 t_379)
                        have h_382 : pI S_380 1231 x = 4 := tI_sIs eS_380
                        have pz_383 : (pI S_380 1231 x).toInt = 4 := (congrArg Int32.toInt h_382).trans ti_4
                        have t_384 : pI S_293 1232 x = v_20 := tI_sI eS_293 rfl t_62
                        have t_385 : pI S_380 1232 x = v_20 := tI_sI eS_380 rfl t_384
                        have pz_386 : (pI S_380 1232 x).toInt = v_20.toInt := (congrArg Int32.toInt t_385).trans rfl
                        have t_387 : pI S_380 1233 x = v_291 := tI_sI eS_380 rfl h_295
                        have pz_388 : (pI S_380 1233 x).toInt = (v_20.toInt + 1) := (congrArg Int32.toInt t_387).trans z_292
                        obtain ⟨v_389, ev_389⟩ : ∃ v, pI S_380 1234 x = v := ⟨_, rfl⟩
                        have rg_391 := And.intro (z_lo v_389) (z_hi v_389)
                        have pz_392 : (pI S_380 1234 x).toInt = v_389.toInt := by rw [ev_389]
                        have pz_393 : (pI S_380 1234 x).toInt = v_389.toInt := (congrArg Int32.toInt ev_389).trans rfl
                        rw [hQQ]
                        exact ret_v X hw hr hlocks (Nat.le_of_ble_eq_true rfl) (Nat.le_of_ble_eq_true rfl) ⟨hO_381, (by rw [hT_57, tokS_sgn (by omega) (letP_f (by omega)) (digP_f (by omega)), if_neg (by rw [sgnP_f (by omega)]; decide)]; exact ⟨RTok_mk (by omega) (by omega) (by omega), fun h => absurd (show (4 : Nat) = 2 from h) (by decide)⟩)⟩ dX12_token_308
                      · have z_b_394 := trivial
                        have k_395 : rr_63.toInt = 59 := z_eq rfl ti_59 c_376
                        refine lv_iconst (v := 3) X.1 X.2.1 dX12_token_300 (by decide) ?_
                        refine lv_goto (tgt := 305) X.1 X.2.1 dX12_token_301 (by decide) ?_
                        have t_396 : At S_293 x 12 := tAt_sI eS_293 t_61
                        refine r_putI (v := 3) X hw t_396 rfl 31 1231 tyX12 (by decide) rfl inn_X12_token_12 tyX12_ok nmX12 (by decide) (X.2.2.2.1 (.fieldLink RX12 223 "SilkMillModel" "kind" "I") (by decide +kernel)) rfl (Or.inl rfl) rfl rfl (Nat.le_of_ble_eq_true rfl) (st_1231 _ _) dX12_token_305 (fun H locs hw => ?_)
                        obtain ⟨S_397, eS_397⟩ : ∃ T, T = sI S_293 1231 x (3) := ⟨_, rfl⟩
                        rw [← eS_397] at hw
                        have hO_398 : Ok MKt S S_397 := hO_294.sI eS_397 (by decide +kernel) (uI_12_1231 hO_294.1 t_396)
                        have h_399 : pI S_397 1231 x = 3 := tI_sIs eS_397
                        have pz_400 : (pI S_397 1231 x).toInt = 3 := (congrArg Int32.toInt h_399).trans ti_3
                        have t_401 : pI S_293 1232 x = v_20 := tI_sI eS_293 rfl t_62
                        have t_402 : pI S_397 1232 x = v_20 := tI_sI eS_397 rfl t_401
                        have pz_403 : (pI S_397 1232 x).toInt = v_20.toInt := (congrArg Int32.toInt t_402).trans rfl
                        have t_404 : pI S_397 1233 x = v_291 := tI_sI eS_397 rfl h_295
                        have pz_405 : (pI S_397 1233 x).toInt = (v_20.toInt + 1) := (congrArg Int32.toInt t_404).trans z_292
                        obtain ⟨v_406, ev_406⟩ : ∃ v, pI S_397 1234 x = v := ⟨_, rfl⟩
                        have rg_408 := And.intro (z_lo v_406) (z_hi v_406)
                        have pz_409 : (pI S_397 1234 x).toInt = v_406.toInt := by rw [ev_406]
                        have pz_410 : (pI S_397 1234 x).toInt = v_406.toInt := (congrArg Int32.toInt ev_406).trans rfl
                        rw [hQQ]
                        exact ret_v X hw hr hlocks (Nat.le_of_ble_eq_true rfl) (Nat.le_of_ble_eq_true rfl) ⟨hO_398, (by rw [hT_57, tokS_sgn (by omega) (letP_f (by omega)) (digP_f (by omega)), if_pos (sgnP_t (by omega))]; exact ⟨RTok_mk (by omega) (by omega) (by omega), fun h => absurd (show (3 : Nat) = 2 from h) (by decide)⟩)⟩ dX12_token_308
        · have z_b_411 := trivial
          have k_412 : v_20.toInt ≥ v_5.toInt := z_nlt rfl rfl c_72
          refine lv_aload_n X.1 X.2.1 dX12_token_75 rfl (lv_at hl 1 rfl) ?_
          refine lv_iconst (v := 0) X.1 X.2.1 dX12_token_76 (by decide) ?_
          refine r_putI (v := 0) X hw t_61 rfl 31 1231 tyX12 (by decide) rfl inn_X12_token_12 tyX12_ok nmX12 (by decide) (X.2.2.2.1 (.fieldLink RX12 223 "SilkMillModel" "kind" "I") (by decide +kernel)) rfl (Or.inl rfl) rfl rfl (Nat.le_of_ble_eq_true rfl) (st_1231 _ _) dX12_token_77 (fun H locs hw => ?_)
          obtain ⟨S_413, eS_413⟩ : ∃ T, T = sI S_58 1231 x (0) := ⟨_, rfl⟩
          rw [← eS_413] at hw
          have hO_414 : Ok MKt S S_413 := hO_59.sI eS_413 (by decide +kernel) (uI_12_1231 hO_59.1 t_61)
          have h_415 : pI S_413 1231 x = 0 := tI_sIs eS_413
          refine lv_goto (tgt := 308) X.1 X.2.1 dX12_token_80 (by decide) ?_
          have pz_416 : (pI S_413 1231 x).toInt = 0 := (congrArg Int32.toInt h_415).trans ti_0
          have t_417 : pI S_413 1232 x = v_20 := tI_sI eS_413 rfl t_62
          have pz_418 : (pI S_413 1232 x).toInt = v_20.toInt := (congrArg Int32.toInt t_417).trans rfl
          have t_419 : pI S_413 1233 x = v_20 := tI_sI eS_413 rfl h_60
          have pz_420 : (pI S_413 1233 x).toInt = v_20.toInt := (congrArg Int32.toInt t_419).trans rfl
          obtain ⟨v_421, ev_421⟩ : ∃ v, pI S_413 1234 x = v := ⟨_, rfl⟩
          have rg_423 := And.intro (z_lo v_421) (z_hi v_421)
          have pz_424 : (pI S_413 1234 x).toInt = v_421.toInt := by rw [ev_421]
          have pz_425 : (pI S_413 1234 x).toInt = v_421.toInt := (congrArg Int32.toInt ev_421).trans rfl
          rw [hQQ]
          exact ret_v X hw hr hlocks (Nat.le_of_ble_eq_true rfl) (Nat.le_of_ble_eq_true rfl) ⟨hO_414, (by rw [hT_57, tokS_end (by omega)]; exact ⟨RTok_mk (by omega) (by omega) (by omega), fun h => absurd (show (0 : Nat) = 2 from h) (by decide)⟩)⟩ dX12_token_308
      · have z_b_426 := trivial
        have k_427 : rr_46.toInt = 10 := z_eq rfl ti_10 c_54
        refine lv_aload_n X.1 X.2.1 dX12_token_34 rfl (lv_at hl 0 rfl) ?_
        refine lv_dup X.1 X.2.1 dX12_token_35 rfl ?_
        refine r_getI (g := 1232) (x := v_20) X hw ha_x_L_14 rfl 32 ev_20 (by decide) rfl inn_X12_token_12 (by decide) (X.2.2.2.1 (.fieldLink RX12 217 "SilkMillModel" "from" "I") (by decide +kernel)) rfl (gv_1232 _ _) dX12_token_36 ?_
        refine lv_iconst (v := 1) X.1 X.2.1 dX12_token_39 (by decide) ?_
        refine lv_iadd X.1 X.2.1 dX12_token_40 ?_
        refine lv_topi (fun v_428 ev_428 => ?_)
        have z_429 : v_428.toInt = v_20.toInt + 1 := z_add ev_428 rfl ti_1 (by omega) (by omega)
        refine r_putI (v := v_428) X hw ha_x_L_14 rfl 32 1232 tyX12 (by decide) rfl inn_X12_token_12 tyX12_ok nmX12 (by decide) (X.2.2.2.1 (.fieldLink RX12 217 "SilkMillModel" "from" "I") (by decide +kernel)) rfl (Or.inl rfl) rfl rfl (Nat.le_of_ble_eq_true rfl) (st_1232 _ _) dX12_token_41 (fun H locs hw => ?_)
        obtain ⟨S_430, eS_430⟩ : ∃ T, T = sI T_13 1232 x (v_428) := ⟨_, rfl⟩
        rw [← eS_430] at hw
        have hO_431 : Ok MKt S S_430 := hO_T_13.sI eS_430 (by decide +kernel) (uI_12_1232 hO_T_13.1 ha_x_L_14 (by omega) (by omega))
        have h_432 : pI S_430 1232 x = v_428 := tI_sIs eS_430
        refine lv_goto (tgt := 8) X.1 X.2.1 dX12_token_44 (by decide) ?_
        have pz_433 : (pI S_430 1232 x).toInt = (v_20.toInt + 1) := (congrArg Int32.toInt h_432).trans z_429
        have t_434 : At S_430 x 12 := tAt_sI eS_430 ha_x_L_14
        have t_435 : pI S_430 1228 x = v_5 := tI_sI eS_430 rfl ik_19
        exact ih_L_12 _ (by omega) _ _ _ _  rfl hw t_434 hO_431 (by omega) (by omega) (fun j h1 h2 => all_ext (q := v_20.toInt) (fun j h1 h2 => iv_17 j h1 (by omega)) (blaP_t (by omega)) (by omega) j h1 (by omega)) t_435 (lv_sub hl [0] rfl)
  have pz_436 : (pI S_9 1232 x).toInt = v_1.toInt := (congrArg Int32.toInt h_11).trans rfl
  have t_437 : At S_9 x 12 := tAt_sI eS_9 ha_x
  exact L_12 _ _ _ _ _  rfl hw t_437 hO_10 (by omega) (by omega) (fun j h1 h2 => absurd h2 (by omega)) t_18 (lv_sub hl [0] rfl)
