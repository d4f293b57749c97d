/-! ===== what strands show ===== -/
def SN (S : PS) (x : Nat) : Prop := ∀ k : Nat, (k : Int) < (pI S 800 x).toInt → mB S x 808 k = none → False
theorem SN_of {S : PS} {D : Nat → Prop} {K : Nat} {L : List Sk} (h : SkV S D K L) : SN S K := fun k hk hn => by
  have h1 := h.1
  obtain ⟨s, hs⟩ : ∃ s, L[k]? = some s := ⟨_, List.getElem?_eq_getElem (by omega)⟩
  obtain ⟨q, h2, -⟩ := h.2 k s hs
  rw [hn] at h2
  cases h2
def MeI (L : List Sk) (k m : Int) : Prop := ∃ s t, 0 ≤ k ∧ L[k.toNat]? = some s ∧ 0 ≤ m ∧ s.2.2.2[m.toNat]? = some t
def meF (v : Int32) (n w : Int) : Int := if w = 0 then v.toInt else if w = 1 then n else -1
theorem meF_0 {v : Int32} {n w : Int} (h : w = 0) : meF v n w = v.toInt := if_pos h
theorem meF_1 {v : Int32} {n w : Int} (h : w = 1) : meF v n w = n := (if_neg (by omega)).trans (if_pos h)
theorem meF_d {v : Int32} {n w : Int} (h : w ≠ 0) (h1 : w ≠ 1) : meF v n w = -1 := (if_neg h).trans (if_neg h1)
noncomputable def mtZ (S : PS) (x : Nat) (t : Mt) : Int32 := t.foldl (fun a z => a + Int32.ofInt (fnZ S x (z.1 : Int) z.2.toInt)) 0
theorem mtZ_s {S : PS} {x k : Nat} {t : Mt} {z : Nat × Int32} (h : t[k]? = some z) : mtZ S x (t.take (k + 1)) = mtZ S x (t.take k) + Int32.ofInt (fnZ S x (z.1 : Int) z.2.toInt) := by
  unfold mtZ
  rw [List.take_succ, h, List.foldl_append]
  rfl
theorem oi_of {v : Int32} {z : Int} (h : v.toInt = z) : v = Int32.ofInt z := by
  rw [← h]
  exact (Int32.ofInt_toInt v).symm
theorem mtZ_eq {S T : PS} {x : Nat} {t : Mt} (h : fnZ T x = fnZ S x) : mtZ T x t = mtZ S x t := by
  unfold mtZ
  rw [h]

set_option maxHeartbeats 4000000 in
set_option maxRecDepth 100000 in
theorem k_X8_skeinAt7 (l : Launch) (G : va_G) (cy : Nat → ClassId) (κ : Nat → Nat) (S : PS) (sz : Nat) (x : Nat) (a1 : Int32) (a1_z : Int) (hG : GX S) (ha_x : At S x 8) (hz_a1 : a1.toInt = a1_z) : Cq l yX8_skeinAt wsX8_skeinAt ({ frames := 1, cells := 0, slots := 0, locals := 48 }) G cy κ S sz [.ref x, .int (a1)] (fun (r : Option Nat) (S9 : PS) => S = S9 ∧ ((∀ q, r = some q → At S9 q 7 ∧ 0 ≤ a1_z ∧ a1_z < (pI S 800 x).toInt ∧ mB S x 808 a1_z.toNat = some q) ∧ (r = none → SN S x → ¬ (0 ≤ a1_z ∧ a1_z < (pI S 800 x).toInt)))) := by
  refine ent_m (cc := cX8_skeinAt) (maxL := 2) (ret := (some (.object "SilkMill$Skein"))) (by decide) rfl (Nat.le_of_ble_eq_true rfl) ?_
  intro p e s m below meth c ls X hr hlocks hin hw hl hsz
  subst hsz
  have X : Cx p c cX8_skeinAt 2 s [.ref x, .int (a1)].toArray wsX8_skeinAt RX8 m G cy κ (AS S s.heap.size) := X
  have hl : lv_has ls 2 [(0, .ref x), (1, .int (a1))] := hl
  have rg_a1 : (-2147483648) ≤ a1_z ∧ a1_z ≤ 2147483647 := by rw [← hz_a1]; exact ⟨z_lo _, z_hi _⟩
  refine lv_iload_n X.1 X.2.1 dX8_skeinAt_0 rfl (lv_at hl 1 rfl) ?_
  refine lv_if_lt (tgt := 12) X.1 X.2.1 dX8_skeinAt_1 (by decide) (fun c_1 => ?_) (fun c_1 => ?_)
  · have z_b_2 := trivial
    have k_3 : a1_z < 0 := z_lt hz_a1 ti_0 c_1
    refine lv_null X.1 X.2.1 dX8_skeinAt_12 ?_
    refine lv_goto (tgt := 22) X.1 X.2.1 dX8_skeinAt_13 (by decide) ?_
    exact ret_q none rfl X hw hr hlocks (Nat.le_of_ble_eq_true rfl) (Nat.le_of_ble_eq_true rfl) ⟨rfl, ⟨fun q h => (by cases h), fun _ _ h => by omega⟩⟩ dX8_skeinAt_22
  · have z_b_4 := trivial
    have k_5 : a1_z ≥ 0 := z_nlt hz_a1 ti_0 c_1
    refine lv_iload_n X.1 X.2.1 dX8_skeinAt_4 rfl (lv_at hl 1 rfl) ?_
    refine lv_aload_n X.1 X.2.1 dX8_skeinAt_5 rfl (lv_at hl 0 rfl) ?_
    obtain ⟨v_6, ev_6⟩ : ∃ v, pI S 800 x = v := ⟨_, rfl⟩
    have rg_7 := gI_8_800 hG ha_x; rw [ev_6] at rg_7
    have pz_8 : (pI S 800 x).toInt = v_6.toInt := by rw [ev_6]
    refine r_getI (g := 800) (x := v_6) X hw ha_x rfl 0 ev_6 (by decide) rfl inn_X8_skeinAt_8 (by decide) (X.2.2.2.1 (.fieldLink RX8 37 "SilkMill$Store" "kept" "I") (by decide +kernel)) rfl (gv_800 _ _) dX8_skeinAt_6 ?_
    refine lv_icmp_lt (tgt := 16) X.1 X.2.1 dX8_skeinAt_9 (by decide) (fun c_9 => ?_) (fun c_9 => ?_)
    · have z_b_10 := trivial
      have k_11 : a1_z < v_6.toInt := z_lt hz_a1 rfl c_9
      refine lv_aload_n X.1 X.2.1 dX8_skeinAt_16 rfl (lv_at hl 0 rfl) ?_
      obtain ⟨q_12, h_13, h_14, h_15⟩ := gQ_8_808 hG ha_x
      refine r_getR (g := 808) X hw ha_x rfl 8 h_13 (by decide) rfl inn_X8_skeinAt_8 (by decide) (X.2.2.2.1 (.fieldLink RX8 17 "SilkMill$Store" "skeins" "[LSilkMill$Skein;") (by decide +kernel)) rfl (gv_808 _ _) dX8_skeinAt_17 ?_
      refine lv_iload_n X.1 X.2.1 dX8_skeinAt_20 rfl (lv_at hl 1 rfl) ?_
      refine r_aald X hw h_14 rfl (by decide) rfl (by rw [h_15]; exact z_ix hz_a1 (by omega) (by omega)) dX8_skeinAt_21 ?_
      rcases ho_16 : pB S q_12 (Int32.toNatClampNeg (a1)) with _ | q_17
      · refine W.eq (g2 := F0 m 22 ls (.null :: [])) rfl ?_
        exact ret_q none rfl X hw hr hlocks (Nat.le_of_ble_eq_true rfl) (Nat.le_of_ble_eq_true rfl) ⟨rfl, ⟨fun q h => (by cases h), fun _ hSN h => hSN a1_z.toNat (by omega) (by rw [mB_eq h_13, ← z_nc hz_a1 (by omega)]; exact ho_16)⟩⟩ dX8_skeinAt_22
      · refine W.eq (g2 := F0 m 22 ls (.ref q_17 :: [])) rfl ?_
        have ha_18 : At S q_17 7 := gEl_19 hG h_14 _ _ ho_16
        exact ret_q (some q_17) rfl X hw hr hlocks (Nat.le_of_ble_eq_true rfl) (Nat.le_of_ble_eq_true rfl) ⟨rfl, ⟨fun q h => (by cases h; exact ⟨ha_18, by omega, by omega, by rw [mB_eq h_13, ← z_nc hz_a1 (by omega)]; exact ho_16⟩), fun h => (by cases h)⟩⟩ dX8_skeinAt_22
    · have z_b_19 := trivial
      have k_20 : a1_z ≥ v_6.toInt := z_nlt hz_a1 rfl c_9
      refine lv_null X.1 X.2.1 dX8_skeinAt_12 ?_
      refine lv_goto (tgt := 22) X.1 X.2.1 dX8_skeinAt_13 (by decide) ?_
      exact ret_q none rfl X hw hr hlocks (Nat.le_of_ble_eq_true rfl) (Nat.le_of_ble_eq_true rfl) ⟨rfl, ⟨fun q h => (by cases h), fun _ _ h => by omega⟩⟩ dX8_skeinAt_22
set_option maxHeartbeats 4000000 in
set_option maxRecDepth 100000 in
theorem k_X8_tellFault7 (l : Launch) (G : va_G) (cy : Nat → ClassId) (κ : Nat → Nat) (S : PS) (sz : Nat) (x : Nat) (a1 : Int32) (a1_z : Int) (a2 : Int32) (a2_z : Int) (hG : GX S) (ha_x : At S x 8) (hz_a1 : a1.toInt = a1_z) (hz_a2 : a2.toInt = a2_z) : Ci l yX8_tellFault wsX8_tellFault ({ frames := 1, cells := 0, slots := 0, locals := 48 }) G cy κ S sz [.ref x, .int (a1), .int (a2)] (fun (r : Int32) (S9 : PS) => Ok eFA S S9 ∧ ((((pI S 806 x).toInt < 40 ∧ (pI S9 806 x).toInt = (pI S 806 x).toInt + 1) ∧ r = 1) ∨ ((¬ (pI S 806 x).toInt < 40 ∧ S9 = S) ∧ r = 0))) := by
  refine ent_m (cc := cX8_tellFault) (maxL := 3) (ret := (some .boolean)) (by decide) rfl (Nat.le_of_ble_eq_true rfl) ?_
  intro p e s m below meth c ls X hr hlocks hin hw hl hsz
  subst hsz
  have X : Cx p c cX8_tellFault 3 s [.ref x, .int (a1), .int (a2)].toArray wsX8_tellFault RX8 m G cy κ (AS S s.heap.size) := X
  have hl : lv_has ls 3 [(0, .ref x), (1, .int (a1)), (2, .int (a2))] := hl
  have rg_a1 : (-2147483648) ≤ a1_z ∧ a1_z ≤ 2147483647 := by rw [← hz_a1]; exact ⟨z_lo _, z_hi _⟩
  have rg_a2 : (-2147483648) ≤ a2_z ∧ a2_z ≤ 2147483647 := by rw [← hz_a2]; exact ⟨z_lo _, z_hi _⟩
  have hO : Ok eFA S S := Ok.rf hG
  obtain ⟨v_1, ev_1⟩ : ∃ v, pI S 806 x = v := ⟨_, rfl⟩
  have rg_2 := gI_8_806 hO.1 ha_x; rw [ev_1] at rg_2
  have pz_3 : (pI S 806 x).toInt = v_1.toInt := by rw [ev_1]
  have pz_4 : (pI S 806 x).toInt = v_1.toInt := (congrArg Int32.toInt ev_1).trans rfl
  refine lv_aload_n X.1 X.2.1 dX8_tellFault_0 rfl (lv_at hl 0 rfl) ?_
  refine r_getI (g := 806) (x := v_1) X hw ha_x rfl 6 ev_1 (by decide) rfl inn_X8_tellFault_8 (by decide) (X.2.2.2.1 (.fieldLink RX8 113 "SilkMill$Store" "faults" "I") (by decide +kernel)) rfl (gv_806 _ _) dX8_tellFault_1 ?_
  refine lv_bipush (v := 40) X.1 X.2.1 dX8_tellFault_4 (by decide) ?_
  refine lv_icmp_lt (tgt := 11) X.1 X.2.1 dX8_tellFault_6 (by decide) (fun c_5 => ?_) (fun c_5 => ?_)
  · have z_b_6 := trivial
    have k_7 : v_1.toInt < 40 := z_lt rfl ti_40 c_5
    refine lv_aload_n X.1 X.2.1 dX8_tellFault_11 rfl (lv_at hl 0 rfl) ?_
    obtain ⟨q_8, h_9, h_10, h_11⟩ := gQ_8_809 hO.1 ha_x
    refine r_getR (g := 809) X hw ha_x rfl 9 h_9 (by decide) rfl inn_X8_tellFault_8 (by decide) (X.2.2.2.1 (.fieldLink RX8 21 "SilkMill$Store" "faultSkeins" "[I") (by decide +kernel)) rfl (gv_809 _ _) dX8_tellFault_12 ?_
    refine lv_aload_n X.1 X.2.1 dX8_tellFault_15 rfl (lv_at hl 0 rfl) ?_
    refine r_getI (g := 806) (x := v_1) X hw ha_x rfl 6 ev_1 (by decide) rfl inn_X8_tellFault_8 (by decide) (X.2.2.2.1 (.fieldLink RX8 113 "SilkMill$Store" "faults" "I") (by decide +kernel)) rfl (gv_806 _ _) dX8_tellFault_16 ?_
    refine lv_iload_n X.1 X.2.1 dX8_tellFault_19 rfl (lv_at hl 1 rfl) ?_
    refine r_iast X hw h_10 rfl (by rw [h_11]; exact z_ix rfl (by omega) (by omega)) dX8_tellFault_20 (fun H locs hw => ?_)
    obtain ⟨S_12, eS_12⟩ : ∃ T, T = sA S q_8 (upd (pA S q_8) (Int32.toNatClampNeg (v_1)) (a1)) := ⟨_, rfl⟩
    rw [← eS_12] at hw
    have hO_13 : Ok eFA S S_12 := hO.sA eS_12 h_10 (by decide +kernel) (uA_1674 hO.1 h_10)
    have h_14 : pA S_12 q_8 (Int32.toNatClampNeg (v_1)) = a1 := tA_sAs eS_12
    refine lv_aload_n X.1 X.2.1 dX8_tellFault_21 rfl (lv_at hl 0 rfl) ?_
    have t_15 : At S_12 x 8 := tAt_sA eS_12 ha_x
    obtain ⟨q_16, h_17, h_18, h_19⟩ := gQ_8_810 hO_13.1 t_15
    refine r_getR (g := 810) X hw t_15 rfl 10 h_17 (by decide) rfl inn_X8_tellFault_8 (by decide) (X.2.2.2.1 (.fieldLink RX8 24 "SilkMill$Store" "faultDays" "[I") (by decide +kernel)) rfl (gv_810 _ _) dX8_tellFault_22 ?_
    refine lv_aload_n X.1 X.2.1 dX8_tellFault_25 rfl (lv_at hl 0 rfl) ?_
    have t_20 : pI S_12 806 x = v_1 := tI_sA eS_12 ev_1
    refine r_getI (g := 806) (x := v_1) X hw t_15 rfl 6 t_20 (by decide) rfl inn_X8_tellFault_8 (by decide) (X.2.2.2.1 (.fieldLink RX8 113 "SilkMill$Store" "faults" "I") (by decide +kernel)) rfl (gv_806 _ _) dX8_tellFault_26 ?_
    refine lv_aload_n X.1 X.2.1 dX8_tellFault_29 rfl (lv_at hl 0 rfl) ?_
    obtain ⟨v_21, ev_21⟩ : ∃ v, pI S_12 801 x = v := ⟨_, rfl⟩
    have rg_23 := And.intro (z_lo v_21) (z_hi v_21)
    have pz_24 : (pI S_12 801 x).toInt = v_21.toInt := by rw [ev_21]
    refine r_getI (g := 801) (x := v_21) X hw t_15 rfl 1 ev_21 (by decide) rfl inn_X8_tellFault_8 (by decide) (X.2.2.2.1 (.fieldLink RX8 52 "SilkMill$Store" "today" "I") (by decide +kernel)) rfl (gv_801 _ _) dX8_tellFault_30 ?_
    refine r_iast X hw h_18 rfl (by rw [h_19]; exact z_ix rfl (by omega) (by omega)) dX8_tellFault_33 (fun H locs hw => ?_)
    obtain ⟨S_25, eS_25⟩ : ∃ T, T = sA S_12 q_16 (upd (pA S_12 q_16) (Int32.toNatClampNeg (v_1)) (v_21)) := ⟨_, rfl⟩
    rw [← eS_25] at hw
    have hO_26 : Ok eFA S S_25 := hO_13.sA eS_25 h_18 (by decide +kernel) (uA_1694 hO_13.1 h_18)
    have h_27 : pA S_25 q_16 (Int32.toNatClampNeg (v_1)) = v_21 := tA_sAs eS_25
    refine lv_aload_n X.1 X.2.1 dX8_tellFault_34 rfl (lv_at hl 0 rfl) ?_
    have t_28 : At S_25 x 8 := tAt_sA eS_25 t_15
    obtain ⟨q_29, h_30, h_31, h_32⟩ := gQ_8_811 hO_26.1 t_28
    refine r_getR (g := 811) X hw t_28 rfl 11 h_30 (by decide) rfl inn_X8_tellFault_8 (by decide) (X.2.2.2.1 (.fieldLink RX8 27 "SilkMill$Store" "faultAmounts" "[I") (by decide +kernel)) rfl (gv_811 _ _) dX8_tellFault_35 ?_
    refine lv_aload_n X.1 X.2.1 dX8_tellFault_38 rfl (lv_at hl 0 rfl) ?_
    have t_33 : pI S_25 806 x = v_1 := tI_sA eS_25 t_20
    refine r_getI (g := 806) (x := v_1) X hw t_28 rfl 6 t_33 (by decide) rfl inn_X8_tellFault_8 (by decide) (X.2.2.2.1 (.fieldLink RX8 113 "SilkMill$Store" "faults" "I") (by decide +kernel)) rfl (gv_806 _ _) dX8_tellFault_39 ?_
    refine lv_iload_n X.1 X.2.1 dX8_tellFault_42 rfl (lv_at hl 2 rfl) ?_
    refine r_iast X hw h_31 rfl (by rw [h_32]; exact z_ix rfl (by omega) (by omega)) dX8_tellFault_43 (fun H locs hw => ?_)
    obtain ⟨S_34, eS_34⟩ : ∃ T, T = sA S_25 q_29 (upd (pA S_25 q_29) (Int32.toNatClampNeg (v_1)) (a2)) := ⟨_, rfl⟩
    rw [← eS_34] at hw
    have hO_35 : Ok eFA S S_34 := hO_26.sA eS_34 h_31 (by decide +kernel) (uA_1714 hO_26.1 h_31)
    have h_36 : pA S_34 q_29 (Int32.toNatClampNeg (v_1)) = a2 := tA_sAs eS_34
    refine lv_aload_n X.1 X.2.1 dX8_tellFault_44 rfl (lv_at hl 0 rfl) ?_
    refine lv_dup X.1 X.2.1 dX8_tellFault_45 rfl ?_
    have t_37 : At S_34 x 8 := tAt_sA eS_34 t_28
    have t_38 : pI S_34 806 x = v_1 := tI_sA eS_34 t_33
    refine r_getI (g := 806) (x := v_1) X hw t_37 rfl 6 t_38 (by decide) rfl inn_X8_tellFault_8 (by decide) (X.2.2.2.1 (.fieldLink RX8 113 "SilkMill$Store" "faults" "I") (by decide +kernel)) rfl (gv_806 _ _) dX8_tellFault_46 ?_
    refine lv_iconst (v := 1) X.1 X.2.1 dX8_tellFault_49 (by decide) ?_
    refine lv_iadd X.1 X.2.1 dX8_tellFault_50 ?_
    refine lv_topi (fun v_39 ev_39 => ?_)
    have z_40 : v_39.toInt = v_1.toInt + 1 := z_add ev_39 rfl ti_1 (by omega) (by omega)
    refine r_putI (v := v_39) X hw t_37 rfl 6 806 tyX8 (by decide) rfl inn_X8_tellFault_8 tyX8_ok nmX8 (by decide) (X.2.2.2.1 (.fieldLink RX8 113 "SilkMill$Store" "faults" "I") (by decide +kernel)) rfl (Or.inl rfl) rfl rfl (Nat.le_of_ble_eq_true rfl) (st_806 _ _) dX8_tellFault_51 (fun H locs hw => ?_)
    obtain ⟨S_41, eS_41⟩ : ∃ T, T = sI S_34 806 x (v_39) := ⟨_, rfl⟩
    rw [← eS_41] at hw
    have hO_42 : Ok eFA S S_41 := hO_35.sI eS_41 (by decide +kernel) (uI_8_806 hO_35.1 t_37 (by omega) (by omega))
    have h_43 : pI S_41 806 x = v_39 := tI_sIs eS_41
    refine lv_iconst (v := 1) X.1 X.2.1 dX8_tellFault_54 (by decide) ?_
    have pz_44 : (pI S_41 806 x).toInt = v_39.toInt := (congrArg Int32.toInt h_43).trans rfl
    exact ret_z X hw hr hlocks (Nat.le_of_ble_eq_true rfl) (Nat.le_of_ble_eq_true rfl) (by decide) ⟨hO_42, Or.inl ⟨⟨by omega, by omega⟩, rfl⟩⟩ dX8_tellFault_55
  · have z_b_45 := trivial
    have k_46 : v_1.toInt ≥ 40 := z_nlt rfl ti_40 c_5
    refine lv_iconst (v := 0) X.1 X.2.1 dX8_tellFault_9 (by decide) ?_
    have pz_47 : (pI S 806 x).toInt = v_1.toInt := (congrArg Int32.toInt ev_1).trans rfl
    exact ret_z X hw hr hlocks (Nat.le_of_ble_eq_true rfl) (Nat.le_of_ble_eq_true rfl) (by decide) ⟨hO, Or.inr ⟨⟨by omega, rfl⟩, rfl⟩⟩ dX8_tellFault_10
set_option maxHeartbeats 4000000 in
set_option maxRecDepth 100000 in
theorem k_X11_fault7 (l : Launch) (G : va_G) (cy : Nat → ClassId) (κ : Nat → Nat) (S : PS) (sz : Nat) (x : Nat) (a1 : Int32) (a1_z : Int) (a2 : Int32) (a2_z : Int) (K : Nat) (hG : GX S) (ha_x : At S x 11) (hz_a1 : a1.toInt = a1_z) (hz_a2 : a2.toInt = a2_z) (hp_0 : pR S 1107 x = some K) : Ci l yX11_fault wsX11_fault ({ frames := 2, cells := 0, slots := 0, locals := 96 }) G cy κ S sz [.ref x, .int (a1), .int (a2)] (fun (r : Int32) (S9 : PS) => Ok eFA S S9 ∧ (((((0 ≤ a1_z ∧ a1_z < (pI S 800 K).toInt) ∧ 1 ≤ a2_z ∧ a2_z ≤ 10000 ∧ (pI S 806 K).toInt < 40) ∧ (pI S9 806 K).toInt = (pI S 806 K).toInt + 1) ∧ r = 1) ∨ (((SN S K → ¬ ((0 ≤ a1_z ∧ a1_z < (pI S 800 K).toInt) ∧ 1 ≤ a2_z ∧ a2_z ≤ 10000 ∧ (pI S 806 K).toInt < 40)) ∧ S9 = S) ∧ r = 0))) := by
  refine ent_m (cc := cX11_fault) (maxL := 3) (ret := (some .boolean)) (by decide) rfl (Nat.le_of_ble_eq_true rfl) ?_
  intro p e s m below meth c ls X hr hlocks hin hw hl hsz
  subst hsz
  have X : Cx p c cX11_fault 3 s [.ref x, .int (a1), .int (a2)].toArray wsX11_fault RX11 m G cy κ (AS S s.heap.size) := X
  have hl : lv_has ls 3 [(0, .ref x), (1, .int (a1)), (2, .int (a2))] := hl
  have rg_a1 : (-2147483648) ≤ a1_z ∧ a1_z ≤ 2147483647 := by rw [← hz_a1]; exact ⟨z_lo _, z_hi _⟩
  have rg_a2 : (-2147483648) ≤ a2_z ∧ a2_z ≤ 2147483647 := by rw [← hz_a2]; exact ⟨z_lo _, z_hi _⟩
  have hO : Ok eFA S S := Ok.rf hG
  have haK := st_at hG ha_x hp_0
  obtain ⟨v_1, ev_1⟩ : ∃ v, pI S 800 K = v := ⟨_, rfl⟩
  have rg_2 := gI_8_800 hO.1 haK; rw [ev_1] at rg_2
  have pz_3 : (pI S 800 K).toInt = v_1.toInt := by rw [ev_1]
  have pz_4 : (pI S 800 K).toInt = v_1.toInt := (congrArg Int32.toInt ev_1).trans rfl
  obtain ⟨v_5, ev_5⟩ : ∃ v, pI S 806 K = v := ⟨_, rfl⟩
  have rg_6 := gI_8_806 hO.1 haK; rw [ev_5] at rg_6
  have pz_7 : (pI S 806 K).toInt = v_5.toInt := by rw [ev_5]
  have pz_8 : (pI S 806 K).toInt = v_5.toInt := (congrArg Int32.toInt ev_5).trans rfl
  refine lv_aload_n X.1 X.2.1 dX11_fault_0 rfl (lv_at hl 0 rfl) ?_
  refine r_getR (g := 1107) X hw ha_x rfl 7 hp_0 (by decide) rfl inn_X11_fault_11 (by decide) (X.2.2.2.1 (.fieldLink RX11 42 "SilkMill" "store" "LSilkMill$Store;") (by decide +kernel)) rfl (gv_1107 _ _) dX11_fault_1 ?_
  refine lv_iload_n X.1 X.2.1 dX11_fault_4 rfl (lv_at hl 1 rfl) ?_
  refine k_q (rm := { frames := 1, cells := 0, slots := 0, locals := 48 }) (av := [.ref K, .int (a1)]) X hw (va_runV (As := [.int (a1)]) (rest := []) (cfix X) (k_X8_skeinAt7 l G cy κ S _ K (a1) (a1_z) hO.1 haK hz_a1) (cwV 1 X.2.2.2.1 gX11_fault_X8_skeinAt rfl rfl rfl (by decide +kernel) ⟨Nat.le_of_ble_eq_true rfl, Nat.le_of_ble_eq_true rfl⟩) (pre_V X hw _ haK rfl (by decide) rfl) rfl rfl hl.1 rfl (lv_room (Nat.le_of_ble_eq_true rfl)) dX11_fault_5 ⟨Nat.le_of_ble_eq_true rfl, Nat.le_of_ble_eq_true rfl⟩) 0 0 (Nat.le_of_ble_eq_true rfl) (Nat.le_of_ble_eq_true rfl) (fun rr_9 S_10 H locs hp hw hfr hnw => ?_)
  obtain ⟨e2, hp⟩ := hp
  subst e2
  obtain ⟨hq_11, hnf_12⟩ := hp
  rcases rr_9 with _ | q_13
  · refine W.eq (g2 := F0 m 8 ls (.null :: [])) rfl ?_
    have nf_14 := hnf_12 rfl
    refine lv_ifnullN (tgt := 38) X.1 X.2.1 dX11_fault_8 (by decide) ?_
    refine lv_iconst (v := 0) X.1 X.2.1 dX11_fault_38 (by decide) ?_
    exact ret_z X hw hr hlocks (Nat.le_of_ble_eq_true rfl) (Nat.le_of_ble_eq_true rfl) (by decide) ⟨hO, Or.inr ⟨⟨fun hSN h => nf_14 hSN h.1, rfl⟩, rfl⟩⟩ dX11_fault_39
  · refine W.eq (g2 := F0 m 8 ls (.ref q_13 :: [])) rfl ?_
    obtain ⟨ha_15, f_16, f_17, f_18⟩ := hq_11 _ rfl
    refine lv_ifnull X.1 X.2.1 dX11_fault_8 ?_
    refine lv_iload_n X.1 X.2.1 dX11_fault_11 rfl (lv_at hl 2 rfl) ?_
    refine lv_iconst (v := 1) X.1 X.2.1 dX11_fault_12 (by decide) ?_
    refine lv_sipush (v := 10000) X.1 X.2.1 dX11_fault_13 (by decide) ?_
    refine k_i (rm := { frames := 1, cells := 0, slots := 0, locals := 48 }) (av := [.int (a2), .int 1, .int 10000]) X hw (va_runS (As := [.int (a2), .int 1, .int 10000]) (rest := []) (cfix X) (k_X11_isWithin l G cy κ S _ (a2) (a2_z) (1) (1) (10000) (10000) hO.1 hz_a2 ti_1 ti_10000) (cwS 3 X.2.2.2.1 gX11_fault_X11_isWithin rfl rfl rfl (by decide +kernel) ⟨Nat.le_of_ble_eq_true rfl, Nat.le_of_ble_eq_true rfl⟩) (pre_S X hw _) rfl rfl hl.1 rfl (lv_room (Nat.le_of_ble_eq_true rfl)) dX11_fault_16 ⟨Nat.le_of_ble_eq_true rfl, Nat.le_of_ble_eq_true rfl⟩) 0 0 (Nat.le_of_ble_eq_true rfl) (Nat.le_of_ble_eq_true rfl) (fun rr_19 S_20 H locs hp hw hfr hnw => ?_)
    obtain ⟨e2, hp⟩ := hp
    subst e2
    rcases hp with ⟨f_21, er_22⟩ | ⟨f_21, er_22⟩ <;> subst er_22
    · have z_b_23 := trivial
      refine lv_if_eq (tgt := 38) X.1 X.2.1 dX11_fault_19 (by decide) (fun c_24 => absurd c_24 (by decide)) (fun c_24 => ?_)
      refine lv_aload_n X.1 X.2.1 dX11_fault_22 rfl (lv_at hl 0 rfl) ?_
      refine r_getR (g := 1107) X hw ha_x rfl 7 hp_0 (by decide) rfl inn_X11_fault_11 (by decide) (X.2.2.2.1 (.fieldLink RX11 42 "SilkMill" "store" "LSilkMill$Store;") (by decide +kernel)) rfl (gv_1107 _ _) dX11_fault_23 ?_
      refine lv_iload_n X.1 X.2.1 dX11_fault_26 rfl (lv_at hl 1 rfl) ?_
      refine lv_iload_n X.1 X.2.1 dX11_fault_27 rfl (lv_at hl 2 rfl) ?_
      refine k_i (rm := { frames := 1, cells := 0, slots := 0, locals := 48 }) (av := [.ref K, .int (a1), .int (a2)]) X hw (va_runV (As := [.int (a1), .int (a2)]) (rest := []) (cfix X) (k_X8_tellFault7 l G cy κ S _ K (a1) (a1_z) (a2) (a2_z) hO.1 haK hz_a1 hz_a2) (cwV 2 X.2.2.2.1 gX11_fault_X8_tellFault rfl rfl rfl (by decide +kernel) ⟨Nat.le_of_ble_eq_true rfl, Nat.le_of_ble_eq_true rfl⟩) (pre_V X hw _ haK rfl (by decide) rfl) rfl rfl hl.1 rfl (lv_room (Nat.le_of_ble_eq_true rfl)) dX11_fault_28 ⟨Nat.le_of_ble_eq_true rfl, Nat.le_of_ble_eq_true rfl⟩) 0 0 (Nat.le_of_ble_eq_true rfl) (Nat.le_of_ble_eq_true rfl) (fun rr_25 S_26 H locs hp hw hfr hnw => ?_)
      obtain ⟨hk_27, hp⟩ := hp
      have hO_28 : Ok eFA S S_26 := hO.call hk_27 (by decide +kernel)
      rcases hp with ⟨f_29, er_30⟩ | ⟨f_29, er_30⟩ <;> subst er_30
      · have z_b_31 := trivial
        refine lv_if_eq (tgt := 38) X.1 X.2.1 dX11_fault_31 (by decide) (fun c_32 => absurd c_32 (by decide)) (fun c_32 => ?_)
        refine lv_iconst (v := 1) X.1 X.2.1 dX11_fault_34 (by decide) ?_
        refine lv_goto (tgt := 39) X.1 X.2.1 dX11_fault_35 (by decide) ?_
        exact ret_z X hw hr hlocks (Nat.le_of_ble_eq_true rfl) (Nat.le_of_ble_eq_true rfl) (by decide) ⟨hO_28, Or.inl ⟨⟨⟨⟨f_16, f_17⟩, by omega, by omega, f_29.1⟩, f_29.2⟩, rfl⟩⟩ dX11_fault_39
      · have z_b_33 := trivial
        refine lv_if_eq (tgt := 38) X.1 X.2.1 dX11_fault_31 (by decide) (fun c_34 => ?_) (fun c_34 => absurd c_34 (by decide))
        refine lv_iconst (v := 0) X.1 X.2.1 dX11_fault_38 (by decide) ?_
        exact ret_z X hw hr hlocks (Nat.le_of_ble_eq_true rfl) (Nat.le_of_ble_eq_true rfl) (by decide) ⟨hO_28, Or.inr ⟨⟨fun _ h => f_29.1 h.2.2.2, f_29.2⟩, rfl⟩⟩ dX11_fault_39
    · have z_b_35 := trivial
      refine lv_if_eq (tgt := 38) X.1 X.2.1 dX11_fault_19 (by decide) (fun c_36 => ?_) (fun c_36 => absurd c_36 (by decide))
      refine lv_iconst (v := 0) X.1 X.2.1 dX11_fault_38 (by decide) ?_
      exact ret_z X hw hr hlocks (Nat.le_of_ble_eq_true rfl) (Nat.le_of_ble_eq_true rfl) (by decide) ⟨hO, Or.inr ⟨⟨fun _ h => by omega, rfl⟩, rfl⟩⟩ dX11_fault_39
set_option maxHeartbeats 4000000 in
set_option maxRecDepth 100000 in
theorem k_X12_isSkein7 (l : Launch) (G : va_G) (cy : Nat → ClassId) (κ : Nat → Nat) (S : PS) (sz : Nat) (x : Nat) (a1 : Int32) (a1_z : Int) (hG : GX S) (ha_x : At S x 12) (hz_a1 : a1.toInt = a1_z) : Ci l yX12_isSkein wsX12_isSkein ({ frames := 2, cells := 0, slots := 0, locals := 96 }) G cy κ S sz [.ref x, .int (a1)] (fun (r : Int32) (S9 : PS) => S = S9 ∧ (((0 ≤ a1_z ∧ a1_z < (pI S 1238 x).toInt ∧ a1_z ≤ 39) ∧ r = 1) ∨ ((¬ (0 ≤ a1_z ∧ a1_z < (pI S 1238 x).toInt)) ∧ r = 0))) := by
  refine ent_m (cc := cX12_isSkein) (maxL := 2) (ret := (some .boolean)) (by decide) rfl (Nat.le_of_ble_eq_true rfl) ?_
  intro p e s m below meth c ls X hr hlocks hin hw hl hsz
  subst hsz
  have X : Cx p c cX12_isSkein 2 s [.ref x, .int (a1)].toArray wsX12_isSkein RX12 m G cy κ (AS S s.heap.size) := X
  have hl : lv_has ls 2 [(0, .ref x), (1, .int (a1))] := hl
  have rg_a1 : (-2147483648) ≤ a1_z ∧ a1_z ≤ 2147483647 := by rw [← hz_a1]; exact ⟨z_lo _, z_hi _⟩
  refine lv_iload_n X.1 X.2.1 dX12_isSkein_0 rfl (lv_at hl 1 rfl) ?_
  refine lv_iconst (v := 0) X.1 X.2.1 dX12_isSkein_1 (by decide) ?_
  refine lv_aload_n X.1 X.2.1 dX12_isSkein_2 rfl (lv_at hl 0 rfl) ?_
  obtain ⟨v_1, ev_1⟩ : ∃ v, pI S 1238 x = v := ⟨_, rfl⟩
  have rg_2 := gI_12_1238 hG ha_x; rw [ev_1] at rg_2
  have pz_3 : (pI S 1238 x).toInt = v_1.toInt := by rw [ev_1]
  refine r_getI (g := 1238) (x := v_1) X hw ha_x rfl 38 ev_1 (by decide) rfl inn_X12_isSkein_12 (by decide) (X.2.2.2.1 (.fieldLink RX12 290 "SilkMillModel" "skeins" "I") (by decide +kernel)) rfl (gv_1238 _ _) dX12_isSkein_3 ?_
  refine lv_iconst (v := 1) X.1 X.2.1 dX12_isSkein_6 (by decide) ?_
  refine lv_isub X.1 X.2.1 dX12_isSkein_7 ?_
  refine lv_topi (fun v_4 ev_4 => ?_)
  have z_5 : v_4.toInt = v_1.toInt - 1 := z_sub ev_4 rfl ti_1 (by omega) (by omega)
  refine k_i (rm := { frames := 1, cells := 0, slots := 0, locals := 48 }) (av := [.int (a1), .int 0, .int (v_4)]) X hw (va_runS (As := [.int (a1), .int 0, .int (v_4)]) (rest := []) (cfix X) (k_X12_within l G cy κ S _ (a1) (a1_z) (0) (0) (v_4) ((v_1.toInt - 1)) hG hz_a1 ti_0 z_5) (cwS 3 X.2.2.2.1 gX12_isSkein_X12_within rfl rfl rfl (by decide +kernel) ⟨Nat.le_of_ble_eq_true rfl, Nat.le_of_ble_eq_true rfl⟩) (pre_S X hw _) rfl rfl hl.1 rfl (lv_room (Nat.le_of_ble_eq_true rfl)) dX12_isSkein_8 ⟨Nat.le_of_ble_eq_true rfl, Nat.le_of_ble_eq_true rfl⟩) 0 0 (Nat.le_of_ble_eq_true rfl) (Nat.le_of_ble_eq_true rfl) (fun rr_6 S_7 H locs hp hw hfr hnw => ?_)
  obtain ⟨e2, hp⟩ := hp
  subst e2
  rcases hp with ⟨f_8, er_9⟩ | ⟨f_8, er_9⟩ <;> subst er_9
  · have z_b_10 := trivial
    exact ret_z X hw hr hlocks (Nat.le_of_ble_eq_true rfl) (Nat.le_of_ble_eq_true rfl) (by decide) ⟨rfl, Or.inl ⟨by omega, rfl⟩⟩ dX12_isSkein_11
  · have z_b_11 := trivial
    exact ret_z X hw hr hlocks (Nat.le_of_ble_eq_true rfl) (Nat.le_of_ble_eq_true rfl) (by decide) ⟨rfl, Or.inr ⟨by omega, rfl⟩⟩ dX12_isSkein_11
set_option maxHeartbeats 4000000 in
set_option maxRecDepth 100000 in
theorem k_X12_fault7 (l : Launch) (G : va_G) (cy : Nat → ClassId) (κ : Nat → Nat) (S : PS) (sz : Nat) (x : Nat) (a1 : Int32) (a1_z : Int) (a2 : Int32) (a2_z : Int) (hG : GX S) (ha_x : At S x 12) (hz_a1 : a1.toInt = a1_z) (hz_a2 : a2.toInt = a2_z) : Ci l yX12_fault wsX12_fault ({ frames := 3, cells := 0, slots := 0, locals := 144 }) G cy κ S sz [.ref x, .int (a1), .int (a2)] (fun (r : Int32) (S9 : PS) => Ok Mfa S S9 ∧ (((((0 ≤ a1_z ∧ a1_z < (pI S 1238 x).toInt) ∧ 1 ≤ a2_z ∧ a2_z ≤ 10000 ∧ (pI S 1262 x).toInt < 40) ∧ (pI S9 1262 x).toInt = (pI S 1262 x).toInt + 1) ∧ r = 1) ∨ ((¬ ((0 ≤ a1_z ∧ a1_z < (pI S 1238 x).toInt) ∧ 1 ≤ a2_z ∧ a2_z ≤ 10000 ∧ (pI S 1262 x).toInt < 40) ∧ S9 = sI S 1200 x 0) ∧ r = 0))) := by
  refine ent_m (cc := cX12_fault) (maxL := 3) (ret := (some .boolean)) (by decide) rfl (Nat.le_of_ble_eq_true rfl) ?_
  intro p e s m below meth c ls X hr hlocks hin hw hl hsz
  subst hsz
  have X : Cx p c cX12_fault 3 s [.ref x, .int (a1), .int (a2)].toArray wsX12_fault RX12 m G cy κ (AS S s.heap.size) := X
  have hl : lv_has ls 3 [(0, .ref x), (1, .int (a1)), (2, .int (a2))] := hl
  have rg_a1 : (-2147483648) ≤ a1_z ∧ a1_z ≤ 2147483647 := by rw [← hz_a1]; exact ⟨z_lo _, z_hi _⟩
  have rg_a2 : (-2147483648) ≤ a2_z ∧ a2_z ≤ 2147483647 := by rw [← hz_a2]; exact ⟨z_lo _, z_hi _⟩
  have hO : Ok Mfa S S := Ok.rf hG
  obtain ⟨v_1, ev_1⟩ : ∃ v, pI S 1238 x = v := ⟨_, rfl⟩
  have rg_2 := gI_12_1238 hO.1 ha_x; rw [ev_1] at rg_2
  have pz_3 : (pI S 1238 x).toInt = v_1.toInt := by rw [ev_1]
  have pz_4 : (pI S 1238 x).toInt = v_1.toInt := (congrArg Int32.toInt ev_1).trans rfl
  obtain ⟨v_5, ev_5⟩ : ∃ v, pI S 1262 x = v := ⟨_, rfl⟩
  have rg_6 := gI_12_1262 hO.1 ha_x; rw [ev_5] at rg_6
  have pz_7 : (pI S 1262 x).toInt = v_5.toInt := by rw [ev_5]
  have pz_8 : (pI S 1262 x).toInt = v_5.toInt := (congrArg Int32.toInt ev_5).trans rfl
  refine lv_aload_n X.1 X.2.1 dX12_fault_0 rfl (lv_at hl 0 rfl) ?_
  refine lv_iconst (v := 0) X.1 X.2.1 dX12_fault_1 (by decide) ?_
  refine r_putI (v := 0) X hw ha_x rfl 0 1200 tyX12 (by decide) rfl inn_X12_fault_12 tyX12_ok nmX12 (by decide) (X.2.2.2.1 (.fieldLink RX12 161 "SilkMillModel" "thrown" "I") (by decide +kernel)) rfl (Or.inl rfl) rfl rfl (Nat.le_of_ble_eq_true rfl) (st_1200 _ _) dX12_fault_2 (fun H locs hw => ?_)
  obtain ⟨S_9, eS_9⟩ : ∃ T, T = sI S 1200 x (0) := ⟨_, rfl⟩
  rw [← eS_9] at hw
  have hO_10 : Ok Mfa S S_9 := hO.sI eS_9 (by decide +kernel) (uI_12_1200 hO.1 ha_x)
  have h_11 : pI S_9 1200 x = 0 := tI_sIs eS_9
  refine lv_aload_n X.1 X.2.1 dX12_fault_5 rfl (lv_at hl 0 rfl) ?_
  refine lv_iload_n X.1 X.2.1 dX12_fault_6 rfl (lv_at hl 1 rfl) ?_
  have t_12 : pI S_9 1238 x = v_1 := tI_sI eS_9 rfl ev_1
  have pz_13 : (pI S_9 1238 x).toInt = v_1.toInt := (congrArg Int32.toInt t_12).trans rfl
  have t_14 : At S_9 x 12 := tAt_sI eS_9 ha_x
  refine k_i (rm := { frames := 2, cells := 0, slots := 0, locals := 96 }) (av := [.ref x, .int (a1)]) X hw (va_runV (As := [.int (a1)]) (rest := []) (cfix X) (k_X12_isSkein7 l G cy κ S_9 _ x (a1) (a1_z) hO_10.1 t_14 hz_a1) (cwV 1 X.2.2.2.1 gX12_fault_X12_isSkein rfl rfl rfl (by decide +kernel) ⟨Nat.le_of_ble_eq_true rfl, Nat.le_of_ble_eq_true rfl⟩) (pre_V X hw _ t_14 rfl (by decide) rfl) rfl rfl hl.1 rfl (lv_room (Nat.le_of_ble_eq_true rfl)) dX12_fault_7 ⟨Nat.le_of_ble_eq_true rfl, Nat.le_of_ble_eq_true rfl⟩) 0 0 (Nat.le_of_ble_eq_true rfl) (Nat.le_of_ble_eq_true rfl) (fun rr_15 S_16 H locs hp hw hfr hnw => ?_)
  obtain ⟨e2, hp⟩ := hp
  subst e2
  rcases hp with ⟨f_17, er_18⟩ | ⟨f_17, er_18⟩ <;> subst er_18
  · have z_b_19 := trivial
    refine lv_if_eq (tgt := 33) X.1 X.2.1 dX12_fault_10 (by decide) (fun c_20 => absurd c_20 (by decide)) (fun c_20 => ?_)
    refine lv_iload_n X.1 X.2.1 dX12_fault_13 rfl (lv_at hl 2 rfl) ?_
    refine lv_iconst (v := 1) X.1 X.2.1 dX12_fault_14 (by decide) ?_
    refine lv_sipush (v := 10000) X.1 X.2.1 dX12_fault_15 (by decide) ?_
    refine k_i (rm := { frames := 1, cells := 0, slots := 0, locals := 48 }) (av := [.int (a2), .int 1, .int 10000]) X hw (va_runS (As := [.int (a2), .int 1, .int 10000]) (rest := []) (cfix X) (k_X12_within l G cy κ S_9 _ (a2) (a2_z) (1) (1) (10000) (10000) hO_10.1 hz_a2 ti_1 ti_10000) (cwS 3 X.2.2.2.1 gX12_fault_X12_within rfl rfl rfl (by decide +kernel) ⟨Nat.le_of_ble_eq_true rfl, Nat.le_of_ble_eq_true rfl⟩) (pre_S X hw _) rfl rfl hl.1 rfl (lv_room (Nat.le_of_ble_eq_true rfl)) dX12_fault_18 ⟨Nat.le_of_ble_eq_true rfl, Nat.le_of_ble_eq_true rfl⟩) 0 0 (Nat.le_of_ble_eq_true rfl) (Nat.le_of_ble_eq_true rfl) (fun rr_21 S_22 H locs hp hw hfr hnw => ?_)
    obtain ⟨e2, hp⟩ := hp
    subst e2
    rcases hp with ⟨f_23, er_24⟩ | ⟨f_23, er_24⟩ <;> subst er_24
    · have z_b_25 := trivial
      refine lv_if_eq (tgt := 33) X.1 X.2.1 dX12_fault_21 (by decide) (fun c_26 => absurd c_26 (by decide)) (fun c_26 => ?_)
      refine lv_aload_n X.1 X.2.1 dX12_fault_24 rfl (lv_at hl 0 rfl) ?_
      have t_27 : pI S_9 1262 x = v_5 := tI_sI eS_9 rfl ev_5
      refine r_getI (g := 1262) (x := v_5) X hw t_14 rfl 62 t_27 (by decide) rfl inn_X12_fault_12 (by decide) (X.2.2.2.1 (.fieldLink RX12 403 "SilkMillModel" "faults" "I") (by decide +kernel)) rfl (gv_1262 _ _) dX12_fault_25 ?_
      refine lv_bipush (v := 40) X.1 X.2.1 dX12_fault_28 (by decide) ?_
      refine lv_icmp_ne (tgt := 35) X.1 X.2.1 dX12_fault_30 (by decide) (fun c_28 => ?_) (fun c_28 => ?_)
      · have z_b_29 := trivial
        have k_30 : v_5.toInt ≠ 40 := z_ne rfl ti_40 c_28
        refine lv_aload_n X.1 X.2.1 dX12_fault_35 rfl (lv_at hl 0 rfl) ?_
        obtain ⟨q_31, h_32, h_33, h_34⟩ := gQ_12_1263 hO_10.1 t_14
        refine r_getR (g := 1263) X hw t_14 rfl 63 h_32 (by decide) rfl inn_X12_fault_12 (by decide) (X.2.2.2.1 (.fieldLink RX12 152 "SilkMillModel" "faultOf" "[I") (by decide +kernel)) rfl (gv_1263 _ _) dX12_fault_36 ?_
        refine lv_aload_n X.1 X.2.1 dX12_fault_39 rfl (lv_at hl 0 rfl) ?_
        refine r_getI (g := 1262) (x := v_5) X hw t_14 rfl 62 t_27 (by decide) rfl inn_X12_fault_12 (by decide) (X.2.2.2.1 (.fieldLink RX12 403 "SilkMillModel" "faults" "I") (by decide +kernel)) rfl (gv_1262 _ _) dX12_fault_40 ?_
        refine lv_iload_n X.1 X.2.1 dX12_fault_43 rfl (lv_at hl 1 rfl) ?_
        refine r_iast X hw h_33 rfl (by rw [h_34]; exact z_ix rfl (by omega) (by omega)) dX12_fault_44 (fun H locs hw => ?_)
        obtain ⟨S_35, eS_35⟩ : ∃ T, T = sA S_9 q_31 (upd (pA S_9 q_31) (Int32.toNatClampNeg (v_5)) (a1)) := ⟨_, rfl⟩
        rw [← eS_35] at hw
        have hO_36 : Ok Mfa S S_35 := hO_10.sA eS_35 h_33 (by decide +kernel) (uA_1474 hO_10.1 h_33 (by omega) (by omega))
        have h_37 : pA S_35 q_31 (Int32.toNatClampNeg (v_5)) = a1 := tA_sAs eS_35
        refine lv_aload_n X.1 X.2.1 dX12_fault_45 rfl (lv_at hl 0 rfl) ?_
        have t_38 : At S_35 x 12 := tAt_sA eS_35 t_14
        obtain ⟨q_39, h_40, h_41, h_42⟩ := gQ_12_1264 hO_36.1 t_38
        refine r_getR (g := 1264) X hw t_38 rfl 64 h_40 (by decide) rfl inn_X12_fault_12 (by decide) (X.2.2.2.1 (.fieldLink RX12 155 "SilkMillModel" "faultAmount" "[I") (by decide +kernel)) rfl (gv_1264 _ _) dX12_fault_46 ?_
        refine lv_aload_n X.1 X.2.1 dX12_fault_49 rfl (lv_at hl 0 rfl) ?_
        have t_43 : pI S_35 1262 x = v_5 := tI_sA eS_35 t_27
        refine r_getI (g := 1262) (x := v_5) X hw t_38 rfl 62 t_43 (by decide) rfl inn_X12_fault_12 (by decide) (X.2.2.2.1 (.fieldLink RX12 403 "SilkMillModel" "faults" "I") (by decide +kernel)) rfl (gv_1262 _ _) dX12_fault_50 ?_
        refine lv_iload_n X.1 X.2.1 dX12_fault_53 rfl (lv_at hl 2 rfl) ?_
        refine r_iast X hw h_41 rfl (by rw [h_42]; exact z_ix rfl (by omega) (by omega)) dX12_fault_54 (fun H locs hw => ?_)
        obtain ⟨S_44, eS_44⟩ : ∃ T, T = sA S_35 q_39 (upd (pA S_35 q_39) (Int32.toNatClampNeg (v_5)) (a2)) := ⟨_, rfl⟩
        rw [← eS_44] at hw
        have hO_45 : Ok Mfa S S_44 := hO_36.sA eS_44 h_41 (by decide +kernel) (uA_1494 hO_36.1 h_41)
        have h_46 : pA S_44 q_39 (Int32.toNatClampNeg (v_5)) = a2 := tA_sAs eS_44
        refine lv_aload_n X.1 X.2.1 dX12_fault_55 rfl (lv_at hl 0 rfl) ?_
        have t_47 : At S_44 x 12 := tAt_sA eS_44 t_38
        obtain ⟨q_48, h_49, h_50, h_51⟩ := gQ_12_1265 hO_45.1 t_47
        refine r_getR (g := 1265) X hw t_47 rfl 65 h_49 (by decide) rfl inn_X12_fault_12 (by decide) (X.2.2.2.1 (.fieldLink RX12 158 "SilkMillModel" "faultDay" "[I") (by decide +kernel)) rfl (gv_1265 _ _) dX12_fault_56 ?_
        refine lv_aload_n X.1 X.2.1 dX12_fault_59 rfl (lv_at hl 0 rfl) ?_
        have t_52 : pI S_44 1262 x = v_5 := tI_sA eS_44 t_43
        refine r_getI (g := 1262) (x := v_5) X hw t_47 rfl 62 t_52 (by decide) rfl inn_X12_fault_12 (by decide) (X.2.2.2.1 (.fieldLink RX12 403 "SilkMillModel" "faults" "I") (by decide +kernel)) rfl (gv_1262 _ _) dX12_fault_60 ?_
        refine lv_aload_n X.1 X.2.1 dX12_fault_63 rfl (lv_at hl 0 rfl) ?_
        obtain ⟨v_53, ev_53⟩ : ∃ v, pI S_44 1245 x = v := ⟨_, rfl⟩
        have rg_55 := And.intro (z_lo v_53) (z_hi v_53)
        have pz_56 : (pI S_44 1245 x).toInt = v_53.toInt := by rw [ev_53]
        refine r_getI (g := 1245) (x := v_53) X hw t_47 rfl 45 ev_53 (by decide) rfl inn_X12_fault_12 (by decide) (X.2.2.2.1 (.fieldLink RX12 302 "SilkMillModel" "today" "I") (by decide +kernel)) rfl (gv_1245 _ _) dX12_fault_64 ?_
        refine r_iast X hw h_50 rfl (by rw [h_51]; exact z_ix rfl (by omega) (by omega)) dX12_fault_67 (fun H locs hw => ?_)
        obtain ⟨S_57, eS_57⟩ : ∃ T, T = sA S_44 q_48 (upd (pA S_44 q_48) (Int32.toNatClampNeg (v_5)) (v_53)) := ⟨_, rfl⟩
        rw [← eS_57] at hw
        have hO_58 : Ok Mfa S S_57 := hO_45.sA eS_57 h_50 (by decide +kernel) (uA_1514 hO_45.1 h_50)
        have h_59 : pA S_57 q_48 (Int32.toNatClampNeg (v_5)) = v_53 := tA_sAs eS_57
        refine lv_aload_n X.1 X.2.1 dX12_fault_68 rfl (lv_at hl 0 rfl) ?_
        refine lv_dup X.1 X.2.1 dX12_fault_69 rfl ?_
        have t_60 : At S_57 x 12 := tAt_sA eS_57 t_47
        have t_61 : pI S_57 1262 x = v_5 := tI_sA eS_57 t_52
        refine r_getI (g := 1262) (x := v_5) X hw t_60 rfl 62 t_61 (by decide) rfl inn_X12_fault_12 (by decide) (X.2.2.2.1 (.fieldLink RX12 403 "SilkMillModel" "faults" "I") (by decide +kernel)) rfl (gv_1262 _ _) dX12_fault_70 ?_
        refine lv_iconst (v := 1) X.1 X.2.1 dX12_fault_73 (by decide) ?_
        refine lv_iadd X.1 X.2.1 dX12_fault_74 ?_
        refine lv_topi (fun v_62 ev_62 => ?_)
        have z_63 : v_62.toInt = v_5.toInt + 1 := z_add ev_62 rfl ti_1 (by omega) (by omega)
        refine r_putI (v := v_62) X hw t_60 rfl 62 1262 tyX12 (by decide) rfl inn_X12_fault_12 tyX12_ok nmX12 (by decide) (X.2.2.2.1 (.fieldLink RX12 403 "SilkMillModel" "faults" "I") (by decide +kernel)) rfl (Or.inl rfl) rfl rfl (Nat.le_of_ble_eq_true rfl) (st_1262 _ _) dX12_fault_75 (fun H locs hw => ?_)
        obtain ⟨S_64, eS_64⟩ : ∃ T, T = sI S_57 1262 x (v_62) := ⟨_, rfl⟩
        rw [← eS_64] at hw
        have hO_65 : Ok Mfa S S_64 := hO_58.sI eS_64 (by decide +kernel) (uI_12_1262 hO_58.1 t_60 (by omega) (by omega))
        have h_66 : pI S_64 1262 x = v_62 := tI_sIs eS_64
        refine lv_iconst (v := 1) X.1 X.2.1 dX12_fault_78 (by decide) ?_
        have pz_67 : (pI S_64 1262 x).toInt = (v_5.toInt + 1) := (congrArg Int32.toInt h_66).trans z_63
        exact ret_z X hw hr hlocks (Nat.le_of_ble_eq_true rfl) (Nat.le_of_ble_eq_true rfl) (by decide) ⟨hO_65, Or.inl ⟨⟨by omega, by omega⟩, rfl⟩⟩ dX12_fault_79
      · have z_b_68 := trivial
        have k_69 : v_5.toInt = 40 := z_eq rfl ti_40 c_28
        refine lv_iconst (v := 0) X.1 X.2.1 dX12_fault_33 (by decide) ?_
        have pz_70 : (pI S_9 1262 x).toInt = v_5.toInt := (congrArg Int32.toInt t_27).trans rfl
        exact ret_z X hw hr hlocks (Nat.le_of_ble_eq_true rfl) (Nat.le_of_ble_eq_true rfl) (by decide) ⟨hO_10, Or.inr ⟨⟨by omega, eS_9⟩, rfl⟩⟩ dX12_fault_34
    · have z_b_71 := trivial
      refine lv_if_eq (tgt := 33) X.1 X.2.1 dX12_fault_21 (by decide) (fun c_72 => ?_) (fun c_72 => absurd c_72 (by decide))
      refine lv_iconst (v := 0) X.1 X.2.1 dX12_fault_33 (by decide) ?_
      have t_73 : pI S_9 1262 x = v_5 := tI_sI eS_9 rfl ev_5
      have pz_74 : (pI S_9 1262 x).toInt = v_5.toInt := (congrArg Int32.toInt t_73).trans rfl
      exact ret_z X hw hr hlocks (Nat.le_of_ble_eq_true rfl) (Nat.le_of_ble_eq_true rfl) (by decide) ⟨hO_10, Or.inr ⟨⟨by omega, eS_9⟩, rfl⟩⟩ dX12_fault_34
  · have z_b_75 := trivial
    refine lv_if_eq (tgt := 33) X.1 X.2.1 dX12_fault_10 (by decide) (fun c_76 => ?_) (fun c_76 => absurd c_76 (by decide))
    refine lv_iconst (v := 0) X.1 X.2.1 dX12_fault_33 (by decide) ?_
    have t_77 : pI S_9 1262 x = v_5 := tI_sI eS_9 rfl ev_5
    have pz_78 : (pI S_9 1262 x).toInt = v_5.toInt := (congrArg Int32.toInt t_77).trans rfl
    exact ret_z X hw hr hlocks (Nat.le_of_ble_eq_true rfl) (Nat.le_of_ble_eq_true rfl) (by decide) ⟨hO_10, Or.inr ⟨⟨by omega, eS_9⟩, rfl⟩⟩ dX12_fault_34
