/-! ===== what strands show ===== -/
def SN (S : PS) (x : Nat) : Prop := ∀ k : Nat, (k : Int) < (pI S 800 x).toInt → mB S x 808 k = none → False
theorem SN_of {S : PS} {D : Nat → Prop} {K : Nat} {L : List Sk} (h : SkV S D K L) : SN S K := fun k hk hn => by
  have h1 := h.1
  obtain ⟨s, hs⟩ : ∃ s, L[k]? = some s := ⟨_, List.getElem?_eq_getElem (by omega)⟩
  obtain ⟨q, h2, -⟩ := h.2 k s hs
  rw [hn] at h2
  cases h2
def MeI (L : List Sk) (k m : Int) : Prop := ∃ s t, 0 ≤ k ∧ L[k.toNat]? = some s ∧ 0 ≤ m ∧ s.2.2.2[m.toNat]? = some t
def meF (v : Int32) (n w : Int) : Int := if w = 0 then v.toInt else if w = 1 then n else -1
theorem meF_0 {v : Int32} {n w : Int} (h : w = 0) : meF v n w = v.toInt := if_pos h
theorem meF_1 {v : Int32} {n w : Int} (h : w = 1) : meF v n w = n := (if_neg (by omega)).trans (if_pos h)
theorem meF_d {v : Int32} {n w : Int} (h : w ≠ 0) (h1 : w ≠ 1) : meF v n w = -1 := (if_neg h).trans (if_neg h1)
noncomputable def mtZ (S : PS) (x : Nat) (t : Mt) : Int32 := t.foldl (fun a z => a + Int32.ofInt (fnZ S x (z.1 : Int) z.2.toInt)) 0
theorem mtZ_s {S : PS} {x k : Nat} {t : Mt} {z : Nat × Int32} (h : t[k]? = some z) : mtZ S x (t.take (k + 1)) = mtZ S x (t.take k) + Int32.ofInt (fnZ S x (z.1 : Int) z.2.toInt) := by
  unfold mtZ
  rw [List.take_succ, h, List.foldl_append]
  rfl
theorem oi_of {v : Int32} {z : Int} (h : v.toInt = z) : v = Int32.ofInt z := by
  rw [← h]
  exact (Int32.ofInt_toInt v).symm
theorem mtZ_eq {S T : PS} {x : Nat} {t : Mt} (h : fnZ T x = fnZ S x) : mtZ T x t = mtZ S x t := by
  unfold mtZ
  rw [h]
def FlC (S T : PS) (K : Nat) (k a : Int) : Prop := (pI T 806 K).toInt = (pI S 806 K).toInt + 1 ∧ (∀ j, zA T K 809 j = if j = (pI S 806 K).toInt.toNat then k else zA S K 809 j) ∧ (∀ j, zA T K 810 j = if j = (pI S 806 K).toInt.toNat then (pI S 801 K).toInt else zA S K 810 j) ∧ ∀ j, zA T K 811 j = if j = (pI S 806 K).toInt.toNat then a else zA S K 811 j
def FlR (S T : PS) (x : Nat) (k a : Int) : Prop := (pI T 1262 x).toInt = (pI S 1262 x).toInt + 1 ∧ (∀ j, zA T x 1263 j = if j = (pI S 1262 x).toInt.toNat then k else zA S x 1263 j) ∧ (∀ j, zA T x 1265 j = if j = (pI S 1262 x).toInt.toNat then (pI S 1245 x).toInt else zA S x 1265 j) ∧ ∀ j, zA T x 1264 j = if j = (pI S 1262 x).toInt.toNat then a else zA S x 1264 j

set_option maxHeartbeats 4000000 in
set_option maxRecDepth 100000 in
theorem k_X8_skeinAt7 (l : Launch) (G : va_G) (cy : Nat → ClassId) (κ : Nat → Nat) (S : PS) (sz : Nat) (x : Nat) (a1 : Int32) (a1_z : Int) (hG : GX S) (ha_x : At S x 8) (hz_a1 : a1.toInt = a1_z) : Cq l yX8_skeinAt wsX8_skeinAt ({ frames := 1, cells := 0, slots := 0, locals := 48 }) G cy κ S sz [.ref x, .int (a1)] (fun (r : Option Nat) (S9 : PS) => S = S9 ∧ ((∀ q, r = some q → At S9 q 7 ∧ 0 ≤ a1_z ∧ a1_z < (pI S 800 x).toInt ∧ mB S x 808 a1_z.toNat = some q) ∧ (r = none → SN S x → ¬ (0 ≤ a1_z ∧ a1_z < (pI S 800 x).toInt)))) := by
  refine ent_m (cc := cX8_skeinAt) (maxL := 2) (ret := (some (.object "SilkMill$Skein"))) (by decide) rfl (Nat.le_of_ble_eq_true rfl) ?_
  intro p e s m below meth c ls X hr hlocks hin hw hl hsz
  subst hsz
  have X : Cx p c cX8_skeinAt 2 s [.ref x, .int (a1)].toArray wsX8_skeinAt RX8 m G cy κ (AS S s.heap.size) := X
  have hl : lv_has ls 2 [(0, .ref x), (1, .int (a1))] := hl
  have rg_a1 : (-2147483648) ≤ a1_z ∧ a1_z ≤ 2147483647 := by rw [← hz_a1]; exact ⟨z_lo _, z_hi _⟩
  refine lv_iload_n X.1 X.2.1 dX8_skeinAt_0 rfl (lv_at hl 1 rfl) ?_
  refine lv_if_lt (tgt := 12) X.1 X.2.1 dX8_skeinAt_1 (by decide) (fun c_1 => ?_) (fun c_1 => ?_)
  · have z_b_2 := trivial
    have k_3 : a1_z < 0 := z_lt hz_a1 ti_0 c_1
    refine lv_null X.1 X.2.1 dX8_skeinAt_12 ?_
    refine lv_goto (tgt := 22) X.1 X.2.1 dX8_skeinAt_13 (by decide) ?_
    exact ret_q none rfl X hw hr hlocks (Nat.le_of_ble_eq_true rfl) (Nat.le_of_ble_eq_true rfl) ⟨rfl, ⟨fun q h => (by cases h), fun _ _ h => by omega⟩⟩ dX8_skeinAt_22
  · have z_b_4 := trivial
    have k_5 : a1_z ≥ 0 := z_nlt hz_a1 ti_0 c_1
    refine lv_iload_n X.1 X.2.1 dX8_skeinAt_4 rfl (lv_at hl 1 rfl) ?_
    refine lv_aload_n X.1 X.2.1 dX8_skeinAt_5 rfl (lv_at hl 0 rfl) ?_
    obtain ⟨v_6, ev_6⟩ : ∃ v, pI S 800 x = v := ⟨_, rfl⟩
    have rg_7 := gI_8_800 hG ha_x; rw [ev_6] at rg_7
    have pz_8 : (pI S 800 x).toInt = v_6.toInt := by rw [ev_6]
    refine r_getI (g := 800) (x := v_6) X hw ha_x rfl 0 ev_6 (by decide) rfl inn_X8_skeinAt_8 (by decide) (X.2.2.2.1 (.fieldLink RX8 37 "SilkMill$Store" "kept" "I") (by decide +kernel)) rfl (gv_800 _ _) dX8_skeinAt_6 ?_
    refine lv_icmp_lt (tgt := 16) X.1 X.2.1 dX8_skeinAt_9 (by decide) (fun c_9 => ?_) (fun c_9 => ?_)
    · have z_b_10 := trivial
      have k_11 : a1_z < v_6.toInt := z_lt hz_a1 rfl c_9
      refine lv_aload_n X.1 X.2.1 dX8_skeinAt_16 rfl (lv_at hl 0 rfl) ?_
      obtain ⟨q_12, h_13, h_14, h_15⟩ := gQ_8_808 hG ha_x
      refine r_getR (g := 808) X hw ha_x rfl 8 h_13 (by decide) rfl inn_X8_skeinAt_8 (by decide) (X.2.2.2.1 (.fieldLink RX8 17 "SilkMill$Store" "skeins" "[LSilkMill$Skein;") (by decide +kernel)) rfl (gv_808 _ _) dX8_skeinAt_17 ?_
      refine lv_iload_n X.1 X.2.1 dX8_skeinAt_20 rfl (lv_at hl 1 rfl) ?_
      refine r_aald X hw h_14 rfl (by decide) rfl (by rw [h_15]; exact z_ix hz_a1 (by omega) (by omega)) dX8_skeinAt_21 ?_
      rcases ho_16 : pB S q_12 (Int32.toNatClampNeg (a1)) with _ | q_17
      · refine W.eq (g2 := F0 m 22 ls (.null :: [])) rfl ?_
        exact ret_q none rfl X hw hr hlocks (Nat.le_of_ble_eq_true rfl) (Nat.le_of_ble_eq_true rfl) ⟨rfl, ⟨fun q h => (by cases h), fun _ hSN h => hSN a1_z.toNat (by omega) (by rw [mB_eq h_13, ← z_nc hz_a1 (by omega)]; exact ho_16)⟩⟩ dX8_skeinAt_22
      · refine W.eq (g2 := F0 m 22 ls (.ref q_17 :: [])) rfl ?_
        have ha_18 : At S q_17 7 := gEl_19 hG h_14 _ _ ho_16
        exact ret_q (some q_17) rfl X hw hr hlocks (Nat.le_of_ble_eq_true rfl) (Nat.le_of_ble_eq_true rfl) ⟨rfl, ⟨fun q h => (by cases h; exact ⟨ha_18, by omega, by omega, by rw [mB_eq h_13, ← z_nc hz_a1 (by omega)]; exact ho_16⟩), fun h => (by cases h)⟩⟩ dX8_skeinAt_22
    · have z_b_19 := trivial
      have k_20 : a1_z ≥ v_6.toInt := z_nlt hz_a1 rfl c_9
      refine lv_null X.1 X.2.1 dX8_skeinAt_12 ?_
      refine lv_goto (tgt := 22) X.1 X.2.1 dX8_skeinAt_13 (by decide) ?_
      exact ret_q none rfl X hw hr hlocks (Nat.le_of_ble_eq_true rfl) (Nat.le_of_ble_eq_true rfl) ⟨rfl, ⟨fun q h => (by cases h), fun _ _ h => by omega⟩⟩ dX8_skeinAt_22
set_option maxHeartbeats 4000000 in
set_option maxRecDepth 100000 in
theorem k_X8_tellFault7 (l : Launch) (G : va_G) (cy : Nat → ClassId) (κ : Nat → Nat) (S : PS) (sz : Nat) (x : Nat) (a1 : Int32) (a1_z : Int) (a2 : Int32) (a2_z : Int) (hG : GX S) (ha_x : At S x 8) (hz_a1 : a1.toInt = a1_z) (hz_a2 : a2.toInt = a2_z) : Ci l yX8_tellFault wsX8_tellFault ({ frames := 1, cells := 0, slots := 0, locals := 48 }) G cy κ S sz [.ref x, .int (a1), .int (a2)] (fun (r : Int32) (S9 : PS) => Ok eFA S S9 ∧ ((((pI S 806 x).toInt < 40 ∧ FlC S S9 x a1_z a2_z) ∧ r = 1) ∨ ((¬ (pI S 806 x).toInt < 40 ∧ S9 = S) ∧ r = 0))) := by
  refine ent_m (cc := cX8_tellFault) (maxL := 3) (ret := (some .boolean)) (by decide) rfl (Nat.le_of_ble_eq_true rfl) ?_
  intro p e s m below meth c ls X hr hlocks hin hw hl hsz
  subst hsz
  have X : Cx p c cX8_tellFault 3 s [.ref x, .int (a1), .int (a2)].toArray wsX8_tellFault RX8 m G cy κ (AS S s.heap.size) := X
  have hl : lv_has ls 3 [(0, .ref x), (1, .int (a1)), (2, .int (a2))] := hl
  have rg_a1 : (-2147483648) ≤ a1_z ∧ a1_z ≤ 2147483647 := by rw [← hz_a1]; exact ⟨z_lo _, z_hi _⟩
  have rg_a2 : (-2147483648) ≤ a2_z ∧ a2_z ≤ 2147483647 := by rw [← hz_a2]; exact ⟨z_lo _, z_hi _⟩
  have hO : Ok eFA S S := Ok.rf hG
  obtain ⟨v_1, ev_1⟩ : ∃ v, pI S 806 x = v := ⟨_, rfl⟩
  have rg_2 := gI_8_806 hO.1 ha_x; rw [ev_1] at rg_2
  have pz_3 : (pI S 806 x).toInt = v_1.toInt := by rw [ev_1]
  have pz_4 : (pI S 806 x).toInt = v_1.toInt := (congrArg Int32.toInt ev_1).trans rfl
  obtain ⟨v_5, ev_5⟩ : ∃ v, pI S 801 x = v := ⟨_, rfl⟩
  have rg_7 := And.intro (z_lo v_5) (z_hi v_5)
  have pz_8 : (pI S 801 x).toInt = v_5.toInt := by rw [ev_5]
  have pz_9 : (pI S 801 x).toInt = v_5.toInt := (congrArg Int32.toInt ev_5).trans rfl
  refine lv_aload_n X.1 X.2.1 dX8_tellFault_0 rfl (lv_at hl 0 rfl) ?_
  refine r_getI (g := 806) (x := v_1) X hw ha_x rfl 6 ev_1 (by decide) rfl inn_X8_tellFault_8 (by decide) (X.2.2.2.1 (.fieldLink RX8 113 "SilkMill$Store" "faults" "I") (by decide +kernel)) rfl (gv_806 _ _) dX8_tellFault_1 ?_
  refine lv_bipush (v := 40) X.1 X.2.1 dX8_tellFault_4 (by decide) ?_
  refine lv_icmp_lt (tgt := 11) X.1 X.2.1 dX8_tellFault_6 (by decide) (fun c_10 => ?_) (fun c_10 => ?_)
  · have z_b_11 := trivial
    have k_12 : v_1.toInt < 40 := z_lt rfl ti_40 c_10
    refine lv_aload_n X.1 X.2.1 dX8_tellFault_11 rfl (lv_at hl 0 rfl) ?_
    obtain ⟨q_13, h_14, h_15, h_16⟩ := gQ_8_809 hO.1 ha_x
    refine r_getR (g := 809) X hw ha_x rfl 9 h_14 (by decide) rfl inn_X8_tellFault_8 (by decide) (X.2.2.2.1 (.fieldLink RX8 21 "SilkMill$Store" "faultSkeins" "[I") (by decide +kernel)) rfl (gv_809 _ _) dX8_tellFault_12 ?_
    refine lv_aload_n X.1 X.2.1 dX8_tellFault_15 rfl (lv_at hl 0 rfl) ?_
    refine r_getI (g := 806) (x := v_1) X hw ha_x rfl 6 ev_1 (by decide) rfl inn_X8_tellFault_8 (by decide) (X.2.2.2.1 (.fieldLink RX8 113 "SilkMill$Store" "faults" "I") (by decide +kernel)) rfl (gv_806 _ _) dX8_tellFault_16 ?_
    refine lv_iload_n X.1 X.2.1 dX8_tellFault_19 rfl (lv_at hl 1 rfl) ?_
    refine r_iast X hw h_15 rfl (by rw [h_16]; exact z_ix rfl (by omega) (by omega)) dX8_tellFault_20 (fun H locs hw => ?_)
    obtain ⟨S_17, eS_17⟩ : ∃ T, T = sA S q_13 (upd (pA S q_13) (Int32.toNatClampNeg (v_1)) (a1)) := ⟨_, rfl⟩
    rw [← eS_17] at hw
    have hO_18 : Ok eFA S S_17 := hO.sA eS_17 h_15 (by decide +kernel) (uA_1674 hO.1 h_15)
    have h_19 : pA S_17 q_13 (Int32.toNatClampNeg (v_1)) = a1 := tA_sAs eS_17
    have t_20 : pR S_17 809 x = some q_13 := tR_sA eS_17 h_14
    have t_21 : pR S 809 x = some q_13 := by have h := t_20; rw [eS_17, pR_sA] at h; exact h
    have zs_22 : ∀ j, zA S_17 x 809 j = if j = (v_1.toInt).toNat then a1_z else zA S x 809 j := by have h := zA_sAs eS_17 t_21 hz_a1; rw [z_nc rfl (by omega)] at h; exact h
    refine lv_aload_n X.1 X.2.1 dX8_tellFault_21 rfl (lv_at hl 0 rfl) ?_
    have t_23 : At S_17 x 8 := tAt_sA eS_17 ha_x
    obtain ⟨q_24, h_25, h_26, h_27⟩ := gQ_8_810 hO_18.1 t_23
    refine r_getR (g := 810) X hw t_23 rfl 10 h_25 (by decide) rfl inn_X8_tellFault_8 (by decide) (X.2.2.2.1 (.fieldLink RX8 24 "SilkMill$Store" "faultDays" "[I") (by decide +kernel)) rfl (gv_810 _ _) dX8_tellFault_22 ?_
    refine lv_aload_n X.1 X.2.1 dX8_tellFault_25 rfl (lv_at hl 0 rfl) ?_
    have t_28 : pI S_17 806 x = v_1 := tI_sA eS_17 ev_1
    refine r_getI (g := 806) (x := v_1) X hw t_23 rfl 6 t_28 (by decide) rfl inn_X8_tellFault_8 (by decide) (X.2.2.2.1 (.fieldLink RX8 113 "SilkMill$Store" "faults" "I") (by decide +kernel)) rfl (gv_806 _ _) dX8_tellFault_26 ?_
    refine lv_aload_n X.1 X.2.1 dX8_tellFault_29 rfl (lv_at hl 0 rfl) ?_
    have t_29 : pI S_17 801 x = v_5 := tI_sA eS_17 ev_5
    refine r_getI (g := 801) (x := v_5) X hw t_23 rfl 1 t_29 (by decide) rfl inn_X8_tellFault_8 (by decide) (X.2.2.2.1 (.fieldLink RX8 52 "SilkMill$Store" "today" "I") (by decide +kernel)) rfl (gv_801 _ _) dX8_tellFault_30 ?_
    refine r_iast X hw h_26 rfl (by rw [h_27]; exact z_ix rfl (by omega) (by omega)) dX8_tellFault_33 (fun H locs hw => ?_)
    obtain ⟨S_30, eS_30⟩ : ∃ T, T = sA S_17 q_24 (upd (pA S_17 q_24) (Int32.toNatClampNeg (v_1)) (v_5)) := ⟨_, rfl⟩
    rw [← eS_30] at hw
    have hO_31 : Ok eFA S S_30 := hO_18.sA eS_30 h_26 (by decide +kernel) (uA_1694 hO_18.1 h_26)
    have h_32 : pA S_30 q_24 (Int32.toNatClampNeg (v_1)) = v_5 := tA_sAs eS_30
    have t_33 : pR S_30 810 x = some q_24 := tR_sA eS_30 h_25
    have t_34 : pR S_17 810 x = some q_24 := by have h := t_33; rw [eS_30, pR_sA] at h; exact h
    have zs_35 : ∀ j, zA S_30 x 810 j = if j = (v_1.toInt).toNat then v_5.toInt else zA S_17 x 810 j := by have h := zA_sAs eS_30 t_34 rfl; rw [z_nc rfl (by omega)] at h; exact h
    refine lv_aload_n X.1 X.2.1 dX8_tellFault_34 rfl (lv_at hl 0 rfl) ?_
    have t_36 : At S_30 x 8 := tAt_sA eS_30 t_23
    obtain ⟨q_37, h_38, h_39, h_40⟩ := gQ_8_811 hO_31.1 t_36
    refine r_getR (g := 811) X hw t_36 rfl 11 h_38 (by decide) rfl inn_X8_tellFault_8 (by decide) (X.2.2.2.1 (.fieldLink RX8 27 "SilkMill$Store" "faultAmounts" "[I") (by decide +kernel)) rfl (gv_811 _ _) dX8_tellFault_35 ?_
    refine lv_aload_n X.1 X.2.1 dX8_tellFault_38 rfl (lv_at hl 0 rfl) ?_
    have t_41 : pI S_30 806 x = v_1 := tI_sA eS_30 t_28
    refine r_getI (g := 806) (x := v_1) X hw t_36 rfl 6 t_41 (by decide) rfl inn_X8_tellFault_8 (by decide) (X.2.2.2.1 (.fieldLink RX8 113 "SilkMill$Store" "faults" "I") (by decide +kernel)) rfl (gv_806 _ _) dX8_tellFault_39 ?_
    refine lv_iload_n X.1 X.2.1 dX8_tellFault_42 rfl (lv_at hl 2 rfl) ?_
    refine r_iast X hw h_39 rfl (by rw [h_40]; exact z_ix rfl (by omega) (by omega)) dX8_tellFault_43 (fun H locs hw => ?_)
    obtain ⟨S_42, eS_42⟩ : ∃ T, T = sA S_30 q_37 (upd (pA S_30 q_37) (Int32.toNatClampNeg (v_1)) (a2)) := ⟨_, rfl⟩
    rw [← eS_42] at hw
    have hO_43 : Ok eFA S S_42 := hO_31.sA eS_42 h_39 (by decide +kernel) (uA_1714 hO_31.1 h_39)
    have h_44 : pA S_42 q_37 (Int32.toNatClampNeg (v_1)) = a2 := tA_sAs eS_42
    have t_45 : pR S_42 811 x = some q_37 := tR_sA eS_42 h_38
    have t_46 : pR S_30 811 x = some q_37 := by have h := t_45; rw [eS_42, pR_sA] at h; exact h
    have zs_47 : ∀ j, zA S_42 x 811 j = if j = (v_1.toInt).toNat then a2_z else zA S_30 x 811 j := by have h := zA_sAs eS_42 t_46 hz_a2; rw [z_nc rfl (by omega)] at h; exact h
    refine lv_aload_n X.1 X.2.1 dX8_tellFault_44 rfl (lv_at hl 0 rfl) ?_
    refine lv_dup X.1 X.2.1 dX8_tellFault_45 rfl ?_
    have t_48 : At S_42 x 8 := tAt_sA eS_42 t_36
    have t_49 : pI S_42 806 x = v_1 := tI_sA eS_42 t_41
    refine r_getI (g := 806) (x := v_1) X hw t_48 rfl 6 t_49 (by decide) rfl inn_X8_tellFault_8 (by decide) (X.2.2.2.1 (.fieldLink RX8 113 "SilkMill$Store" "faults" "I") (by decide +kernel)) rfl (gv_806 _ _) dX8_tellFault_46 ?_
    refine lv_iconst (v := 1) X.1 X.2.1 dX8_tellFault_49 (by decide) ?_
    refine lv_iadd X.1 X.2.1 dX8_tellFault_50 ?_
    refine lv_topi (fun v_50 ev_50 => ?_)
    have z_51 : v_50.toInt = v_1.toInt + 1 := z_add ev_50 rfl ti_1 (by omega) (by omega)
    refine r_putI (v := v_50) X hw t_48 rfl 6 806 tyX8 (by decide) rfl inn_X8_tellFault_8 tyX8_ok nmX8 (by decide) (X.2.2.2.1 (.fieldLink RX8 113 "SilkMill$Store" "faults" "I") (by decide +kernel)) rfl (Or.inl rfl) rfl rfl (Nat.le_of_ble_eq_true rfl) (st_806 _ _) dX8_tellFault_51 (fun H locs hw => ?_)
    obtain ⟨S_52, eS_52⟩ : ∃ T, T = sI S_42 806 x (v_50) := ⟨_, rfl⟩
    rw [← eS_52] at hw
    have hO_53 : Ok eFA S S_52 := hO_43.sI eS_52 (by decide +kernel) (uI_8_806 hO_43.1 t_48 (by omega) (by omega))
    have h_54 : pI S_52 806 x = v_50 := tI_sIs eS_52
    refine lv_iconst (v := 1) X.1 X.2.1 dX8_tellFault_54 (by decide) ?_
    have pz_55 : (pI S_52 806 x).toInt = v_50.toInt := (congrArg Int32.toInt h_54).trans rfl
    have zc_56 : zA S_30 x 809 = zA S_17 x 809 := zA_sAn eS_30 (ex3 (gQ_8_809 hO_18.1 t_23)) h_26 rfl
    have zc_57 : zA S_42 x 809 = zA S_17 x 809 := (zA_sAn eS_42 (ex3 (gQ_8_809 hO_31.1 t_36)) h_39 rfl).trans zc_56
    have zc_58 : zA S_52 x 809 = zA S_17 x 809 := (zA_sI eS_52).trans zc_57
    have zc_59 : zA S_17 x 810 = zA S x 810 := zA_sAn eS_17 (ex3 (gQ_8_810 hO.1 ha_x)) h_15 rfl
    have zc_60 : zA S_42 x 810 = zA S_30 x 810 := zA_sAn eS_42 (ex3 (gQ_8_810 hO_31.1 t_36)) h_39 rfl
    have zc_61 : zA S_52 x 810 = zA S_30 x 810 := (zA_sI eS_52).trans zc_60
    have zc_62 : zA S_17 x 811 = zA S x 811 := zA_sAn eS_17 (ex3 (gQ_8_811 hO.1 ha_x)) h_15 rfl
    have zc_63 : zA S_30 x 811 = zA S x 811 := (zA_sAn eS_30 (ex3 (gQ_8_811 hO_18.1 t_23)) h_26 rfl).trans zc_62
    have zc_64 : zA S_52 x 811 = zA S_42 x 811 := zA_sI eS_52
    exact ret_z X hw hr hlocks (Nat.le_of_ble_eq_true rfl) (Nat.le_of_ble_eq_true rfl) (by decide) ⟨hO_53, Or.inl ⟨⟨by omega, by omega, fun j => (by rw [zc_58, zs_22 j, show (v_1.toInt).toNat = (pI S 806 x).toInt.toNat by omega]), fun j => (by rw [zc_61, zs_35 j, zc_59, show (v_1.toInt).toNat = (pI S 806 x).toInt.toNat by omega, show (v_5.toInt : Int) = (pI S 801 x).toInt by omega]), fun j => (by rw [zc_64, zs_47 j, zc_63, show (v_1.toInt).toNat = (pI S 806 x).toInt.toNat by omega])⟩, rfl⟩⟩ dX8_tellFault_55
  · have z_b_65 := trivial
    have k_66 : v_1.toInt ≥ 40 := z_nlt rfl ti_40 c_10
    refine lv_iconst (v := 0) X.1 X.2.1 dX8_tellFault_9 (by decide) ?_
    have pz_67 : (pI S 806 x).toInt = v_1.toInt := (congrArg Int32.toInt ev_1).trans rfl
    exact ret_z X hw hr hlocks (Nat.le_of_ble_eq_true rfl) (Nat.le_of_ble_eq_true rfl) (by decide) ⟨hO, Or.inr ⟨⟨by omega, rfl⟩, rfl⟩⟩ dX8_tellFault_10
set_option maxHeartbeats 4000000 in
set_option maxRecDepth 100000 in
theorem k_X11_fault7 (l : Launch) (G : va_G) (cy : Nat → ClassId) (κ : Nat → Nat) (S : PS) (sz : Nat) (x : Nat) (a1 : Int32) (a1_z : Int) (a2 : Int32) (a2_z : Int) (K : Nat) (hG : GX S) (ha_x : At S x 11) (hz_a1 : a1.toInt = a1_z) (hz_a2 : a2.toInt = a2_z) (hp_0 : pR S 1107 x = some K) : Ci l yX11_fault wsX11_fault ({ frames := 2, cells := 0, slots := 0, locals := 96 }) G cy κ S sz [.ref x, .int (a1), .int (a2)] (fun (r : Int32) (S9 : PS) => Ok eFA S S9 ∧ (((((0 ≤ a1_z ∧ a1_z < (pI S 800 K).toInt) ∧ 1 ≤ a2_z ∧ a2_z ≤ 10000 ∧ (pI S 806 K).toInt < 40) ∧ FlC S S9 K a1_z a2_z) ∧ r = 1) ∨ (((SN S K → ¬ ((0 ≤ a1_z ∧ a1_z < (pI S 800 K).toInt) ∧ 1 ≤ a2_z ∧ a2_z ≤ 10000 ∧ (pI S 806 K).toInt < 40)) ∧ S9 = S) ∧ r = 0))) := by
  refine ent_m (cc := cX11_fault) (maxL := 3) (ret := (some .boolean)) (by decide) rfl (Nat.le_of_ble_eq_true rfl) ?_
  intro p e s m below meth c ls X hr hlocks hin hw hl hsz
  subst hsz
  have X : Cx p c cX11_fault 3 s [.ref x, .int (a1), .int (a2)].toArray wsX11_fault RX11 m G cy κ (AS S s.heap.size) := X
  have hl : lv_has ls 3 [(0, .ref x), (1, .int (a1)), (2, .int (a2))] := hl
  have rg_a1 : (-2147483648) ≤ a1_z ∧ a1_z ≤ 2147483647 := by rw [← hz_a1]; exact ⟨z_lo _, z_hi _⟩
  have rg_a2 : (-2147483648) ≤ a2_z ∧ a2_z ≤ 2147483647 := by rw [← hz_a2]; exact ⟨z_lo _, z_hi _⟩
  have hO : Ok eFA S S := Ok.rf hG
  have haK := st_at hG ha_x hp_0
  obtain ⟨v_1, ev_1⟩ : ∃ v, pI S 800 K = v := ⟨_, rfl⟩
  have rg_2 := gI_8_800 hO.1 haK; rw [ev_1] at rg_2
  have pz_3 : (pI S 800 K).toInt = v_1.toInt := by rw [ev_1]
  have pz_4 : (pI S 800 K).toInt = v_1.toInt := (congrArg Int32.toInt ev_1).trans rfl
  obtain ⟨v_5, ev_5⟩ : ∃ v, pI S 806 K = v := ⟨_, rfl⟩
  have rg_6 := gI_8_806 hO.1 haK; rw [ev_5] at rg_6
  have pz_7 : (pI S 806 K).toInt = v_5.toInt := by rw [ev_5]
  have pz_8 : (pI S 806 K).toInt = v_5.toInt := (congrArg Int32.toInt ev_5).trans rfl
  refine lv_aload_n X.1 X.2.1 dX11_fault_0 rfl (lv_at hl 0 rfl) ?_
  refine r_getR (g := 1107) X hw ha_x rfl 7 hp_0 (by decide) rfl inn_X11_fault_11 (by decide) (X.2.2.2.1 (.fieldLink RX11 42 "SilkMill" "store" "LSilkMill$Store;") (by decide +kernel)) rfl (gv_1107 _ _) dX11_fault_1 ?_
  refine lv_iload_n X.1 X.2.1 dX11_fault_4 rfl (lv_at hl 1 rfl) ?_
  refine k_q (rm := { frames := 1, cells := 0, slots := 0, locals := 48 }) (av := [.ref K, .int (a1)]) X hw (va_runV (As := [.int (a1)]) (rest := []) (cfix X) (k_X8_skeinAt7 l G cy κ S _ K (a1) (a1_z) hO.1 haK hz_a1) (cwV 1 X.2.2.2.1 gX11_fault_X8_skeinAt rfl rfl rfl (by decide +kernel) ⟨Nat.le_of_ble_eq_true rfl, Nat.le_of_ble_eq_true rfl⟩) (pre_V X hw _ haK rfl (by decide) rfl) rfl rfl hl.1 rfl (lv_room (Nat.le_of_ble_eq_true rfl)) dX11_fault_5 ⟨Nat.le_of_ble_eq_true rfl, Nat.le_of_ble_eq_true rfl⟩) 0 0 (Nat.le_of_ble_eq_true rfl) (Nat.le_of_ble_eq_true rfl) (fun rr_9 S_10 H locs hp hw hfr hnw => ?_)
  obtain ⟨e2, hp⟩ := hp
  subst e2
  obtain ⟨hq_11, hnf_12⟩ := hp
  rcases rr_9 with _ | q_13
  · refine W.eq (g2 := F0 m 8 ls (.null :: [])) rfl ?_
    have nf_14 := hnf_12 rfl
    refine lv_ifnullN (tgt := 38) X.1 X.2.1 dX11_fault_8 (by decide) ?_
    refine lv_iconst (v := 0) X.1 X.2.1 dX11_fault_38 (by decide) ?_
    exact ret_z X hw hr hlocks (Nat.le_of_ble_eq_true rfl) (Nat.le_of_ble_eq_true rfl) (by decide) ⟨hO, Or.inr ⟨⟨fun hSN h => nf_14 hSN h.1, rfl⟩, rfl⟩⟩ dX11_fault_39
  · refine W.eq (g2 := F0 m 8 ls (.ref q_13 :: [])) rfl ?_
    obtain ⟨ha_15, f_16, f_17, f_18⟩ := hq_11 _ rfl
    refine lv_ifnull X.1 X.2.1 dX11_fault_8 ?_
    refine lv_iload_n X.1 X.2.1 dX11_fault_11 rfl (lv_at hl 2 rfl) ?_
    refine lv_iconst (v := 1) X.1 X.2.1 dX11_fault_12 (by decide) ?_
    refine lv_sipush (v := 10000) X.1 X.2.1 dX11_fault_13 (by decide) ?_
    refine k_i (rm := { frames := 1, cells := 0, slots := 0, locals := 48 }) (av := [.int (a2), .int 1, .int 10000]) X hw (va_runS (As := [.int (a2), .int 1, .int 10000]) (rest := []) (cfix X) (k_X11_isWithin l G cy κ S _ (a2) (a2_z) (1) (1) (10000) (10000) hO.1 hz_a2 ti_1 ti_10000) (cwS 3 X.2.2.2.1 gX11_fault_X11_isWithin rfl rfl rfl (by decide +kernel) ⟨Nat.le_of_ble_eq_true rfl, Nat.le_of_ble_eq_true rfl⟩) (pre_S X hw _) rfl rfl hl.1 rfl (lv_room (Nat.le_of_ble_eq_true rfl)) dX11_fault_16 ⟨Nat.le_of_ble_eq_true rfl, Nat.le_of_ble_eq_true rfl⟩) 0 0 (Nat.le_of_ble_eq_true rfl) (Nat.le_of_ble_eq_true rfl) (fun rr_19 S_20 H locs hp hw hfr hnw => ?_)
    obtain ⟨e2, hp⟩ := hp
    subst e2
    rcases hp with ⟨f_21, er_22⟩ | ⟨f_21, er_22⟩ <;> subst er_22
    · have z_b_23 := trivial
      refine lv_if_eq (tgt := 38) X.1 X.2.1 dX11_fault_19 (by decide) (fun c_24 => absurd c_24 (by decide)) (fun c_24 => ?_)
      refine lv_aload_n X.1 X.2.1 dX11_fault_22 rfl (lv_at hl 0 rfl) ?_
      refine r_getR (g := 1107) X hw ha_x rfl 7 hp_0 (by decide) rfl inn_X11_fault_11 (by decide) (X.2.2.2.1 (.fieldLink RX11 42 "SilkMill" "store" "LSilkMill$Store;") (by decide +kernel)) rfl (gv_1107 _ _) dX11_fault_23 ?_
      refine lv_iload_n X.1 X.2.1 dX11_fault_26 rfl (lv_at hl 1 rfl) ?_
      refine lv_iload_n X.1 X.2.1 dX11_fault_27 rfl (lv_at hl 2 rfl) ?_
      refine k_i (rm := { frames := 1, cells := 0, slots := 0, locals := 48 }) (av := [.ref K, .int (a1), .int (a2)]) X hw (va_runV (As := [.int (a1), .int (a2)]) (rest := []) (cfix X) (k_X8_tellFault7 l G cy κ S _ K (a1) (a1_z) (a2) (a2_z) hO.1 haK hz_a1 hz_a2) (cwV 2 X.2.2.2.1 gX11_fault_X8_tellFault rfl rfl rfl (by decide +kernel) ⟨Nat.le_of_ble_eq_true rfl, Nat.le_of_ble_eq_true rfl⟩) (pre_V X hw _ haK rfl (by decide) rfl) rfl rfl hl.1 rfl (lv_room (Nat.le_of_ble_eq_true rfl)) dX11_fault_28 ⟨Nat.le_of_ble_eq_true rfl, Nat.le_of_ble_eq_true rfl⟩) 0 0 (Nat.le_of_ble_eq_true rfl) (Nat.le_of_ble_eq_true rfl) (fun rr_25 S_26 H locs hp hw hfr hnw => ?_)
      obtain ⟨hk_27, hp⟩ := hp
      have hO_28 : Ok eFA S S_26 := hO.call hk_27 (by decide +kernel)
      rcases hp with ⟨f_29, er_30⟩ | ⟨f_29, er_30⟩ <;> subst er_30
      · have z_b_31 := trivial
        refine lv_if_eq (tgt := 38) X.1 X.2.1 dX11_fault_31 (by decide) (fun c_32 => absurd c_32 (by decide)) (fun c_32 => ?_)
        refine lv_iconst (v := 1) X.1 X.2.1 dX11_fault_34 (by decide) ?_
        refine lv_goto (tgt := 39) X.1 X.2.1 dX11_fault_35 (by decide) ?_
        exact ret_z X hw hr hlocks (Nat.le_of_ble_eq_true rfl) (Nat.le_of_ble_eq_true rfl) (by decide) ⟨hO_28, Or.inl ⟨⟨⟨⟨f_16, f_17⟩, by omega, by omega, f_29.1⟩, f_29.2⟩, rfl⟩⟩ dX11_fault_39
      · have z_b_33 := trivial
        refine lv_if_eq (tgt := 38) X.1 X.2.1 dX11_fault_31 (by decide) (fun c_34 => ?_) (fun c_34 => absurd c_34 (by decide))
        refine lv_iconst (v := 0) X.1 X.2.1 dX11_fault_38 (by decide) ?_
        exact ret_z X hw hr hlocks (Nat.le_of_ble_eq_true rfl) (Nat.le_of_ble_eq_true rfl) (by decide) ⟨hO_28, Or.inr ⟨⟨fun _ h => f_29.1 h.2.2.2, f_29.2⟩, rfl⟩⟩ dX11_fault_39
    · have z_b_35 := trivial
      refine lv_if_eq (tgt := 38) X.1 X.2.1 dX11_fault_19 (by decide) (fun c_36 => ?_) (fun c_36 => absurd c_36 (by decide))
      refine lv_iconst (v := 0) X.1 X.2.1 dX11_fault_38 (by decide) ?_
      exact ret_z X hw hr hlocks (Nat.le_of_ble_eq_true rfl) (Nat.le_of_ble_eq_true rfl) (by decide) ⟨hO, Or.inr ⟨⟨fun _ h => by omega, rfl⟩, rfl⟩⟩ dX11_fault_39
set_option maxHeartbeats 4000000 in
set_option maxRecDepth 100000 in
theorem k_X12_isSkein7 (l : Launch) (G : va_G) (cy : Nat → ClassId) (κ : Nat → Nat) (S : PS) (sz : Nat) (x : Nat) (a1 : Int32) (a1_z : Int) (hG : GX S) (ha_x : At S x 12) (hz_a1 : a1.toInt = a1_z) : Ci l yX12_isSkein wsX12_isSkein ({ frames := 2, cells := 0, slots := 0, locals := 96 }) G cy κ S sz [.ref x, .int (a1)] (fun (r : Int32) (S9 : PS) => S = S9 ∧ (((0 ≤ a1_z ∧ a1_z < (pI S 1238 x).toInt ∧ a1_z ≤ 39) ∧ r = 1) ∨ ((¬ (0 ≤ a1_z ∧ a1_z < (pI S 1238 x).toInt)) ∧ r = 0))) := by
  refine ent_m (cc := cX12_isSkein) (maxL := 2) (ret := (some .boolean)) (by decide) rfl (Nat.le_of_ble_eq_true rfl) ?_
  intro p e s m below meth c ls X hr hlocks hin hw hl hsz
  subst hsz
  have X : Cx p c cX12_isSkein 2 s [.ref x, .int (a1)].toArray wsX12_isSkein RX12 m G cy κ (AS S s.heap.size) := X
  have hl : lv_has ls 2 [(0, .ref x), (1, .int (a1))] := hl
  have rg_a1 : (-2147483648) ≤ a1_z ∧ a1_z ≤ 2147483647 := by rw [← hz_a1]; exact ⟨z_lo _, z_hi _⟩
  refine lv_iload_n X.1 X.2.1 dX12_isSkein_0 rfl (lv_at hl 1 rfl) ?_
  refine lv_iconst (v := 0) X.1 X.2.1 dX12_isSkein_1 (by decide) ?_
  refine lv_aload_n X.1 X.2.1 dX12_isSkein_2 rfl (lv_at hl 0 rfl) ?_
  obtain ⟨v_1, ev_1⟩ : ∃ v, pI S 1238 x = v := ⟨_, rfl⟩
  have rg_2 := gI_12_1238 hG ha_x; rw [ev_1] at rg_2
  have pz_3 : (pI S 1238 x).toInt = v_1.toInt := by rw [ev_1]
  refine r_getI (g := 1238) (x := v_1) X hw ha_x rfl 38 ev_1 (by decide) rfl inn_X12_isSkein_12 (by decide) (X.2.2.2.1 (.fieldLink RX12 290 "SilkMillModel" "skeins" "I") (by decide +kernel)) rfl (gv_1238 _ _) dX12_isSkein_3 ?_
  refine lv_iconst (v := 1) X.1 X.2.1 dX12_isSkein_6 (by decide) ?_
  refine lv_isub X.1 X.2.1 dX12_isSkein_7 ?_
  refine lv_topi (fun v_4 ev_4 => ?_)
  have z_5 : v_4.toInt = v_1.toInt - 1 := z_sub ev_4 rfl ti_1 (by omega) (by omega)
  refine k_i (rm := { frames := 1, cells := 0, slots := 0, locals := 48 }) (av := [.int (a1), .int 0, .int (v_4)]) X hw (va_runS (As := [.int (a1), .int 0, .int (v_4)]) (rest := []) (cfix X) (k_X12_within l G cy κ S _ (a1) (a1_z) (0) (0) (v_4) ((v_1.toInt - 1)) hG hz_a1 ti_0 z_5) (cwS 3 X.2.2.2.1 gX12_isSkein_X12_within rfl rfl rfl (by decide +kernel) ⟨Nat.le_of_ble_eq_true rfl, Nat.le_of_ble_eq_true rfl⟩) (pre_S X hw _) rfl rfl hl.1 rfl (lv_room (Nat.le_of_ble_eq_true rfl)) dX12_isSkein_8 ⟨Nat.le_of_ble_eq_true rfl, Nat.le_of_ble_eq_true rfl⟩) 0 0 (Nat.le_of_ble_eq_true rfl) (Nat.le_of_ble_eq_true rfl) (fun rr_6 S_7 H locs hp hw hfr hnw => ?_)
  obtain ⟨e2, hp⟩ := hp
  subst e2
  rcases hp with ⟨f_8, er_9⟩ | ⟨f_8, er_9⟩ <;> subst er_9
  · have z_b_10 := trivial
    exact ret_z X hw hr hlocks (Nat.le_of_ble_eq_true rfl) (Nat.le_of_ble_eq_true rfl) (by decide) ⟨rfl, Or.inl ⟨by omega, rfl⟩⟩ dX12_isSkein_11
  · have z_b_11 := trivial
    exact ret_z X hw hr hlocks (Nat.le_of_ble_eq_true rfl) (Nat.le_of_ble_eq_true rfl) (by decide) ⟨rfl, Or.inr ⟨by omega, rfl⟩⟩ dX12_isSkein_11
set_option maxHeartbeats 4000000 in
set_option maxRecDepth 100000 in
theorem k_X12_fault7 (l : Launch) (G : va_G) (cy : Nat → ClassId) (κ : Nat → Nat) (S : PS) (sz : Nat) (x : Nat) (a1 : Int32) (a1_z : Int) (a2 : Int32) (a2_z : Int) (hG : GX S) (ha_x : At S x 12) (hz_a1 : a1.toInt = a1_z) (hz_a2 : a2.toInt = a2_z) : Ci l yX12_fault wsX12_fault ({ frames := 3, cells := 0, slots := 0, locals := 144 }) G cy κ S sz [.ref x, .int (a1), .int (a2)] (fun (r : Int32) (S9 : PS) => Ok Mfa S S9 ∧ (((((0 ≤ a1_z ∧ a1_z < (pI S 1238 x).toInt) ∧ 1 ≤ a2_z ∧ a2_z ≤ 10000 ∧ (pI S 1262 x).toInt < 40) ∧ FlR S S9 x a1_z a2_z) ∧ r = 1) ∨ ((¬ ((0 ≤ a1_z ∧ a1_z < (pI S 1238 x).toInt) ∧ 1 ≤ a2_z ∧ a2_z ≤ 10000 ∧ (pI S 1262 x).toInt < 40) ∧ S9 = sI S 1200 x 0) ∧ r = 0))) := by
  refine ent_m (cc := cX12_fault) (maxL := 3) (ret := (some .boolean)) (by decide) rfl (Nat.le_of_ble_eq_true rfl) ?_
  intro p e s m below meth c ls X hr hlocks hin hw hl hsz
  subst hsz
  have X : Cx p c cX12_fault 3 s [.ref x, .int (a1), .int (a2)].toArray wsX12_fault RX12 m G cy κ (AS S s.heap.size) := X
  have hl : lv_has ls 3 [(0, .ref x), (1, .int (a1)), (2, .int (a2))] := hl
  have rg_a1 : (-2147483648) ≤ a1_z ∧ a1_z ≤ 2147483647 := by rw [← hz_a1]; exact ⟨z_lo _, z_hi _⟩
  have rg_a2 : (-2147483648) ≤ a2_z ∧ a2_z ≤ 2147483647 := by rw [← hz_a2]; exact ⟨z_lo _, z_hi _⟩
  have hO : Ok Mfa S S := Ok.rf hG
  obtain ⟨v_1, ev_1⟩ : ∃ v, pI S 1238 x = v := ⟨_, rfl⟩
  have rg_2 := gI_12_1238 hO.1 ha_x; rw [ev_1] at rg_2
  have pz_3 : (pI S 1238 x).toInt = v_1.toInt := by rw [ev_1]
  have pz_4 : (pI S 1238 x).toInt = v_1.toInt := (congrArg Int32.toInt ev_1).trans rfl
  obtain ⟨v_5, ev_5⟩ : ∃ v, pI S 1262 x = v := ⟨_, rfl⟩
  have rg_6 := gI_12_1262 hO.1 ha_x; rw [ev_5] at rg_6
  have pz_7 : (pI S 1262 x).toInt = v_5.toInt := by rw [ev_5]
  have pz_8 : (pI S 1262 x).toInt = v_5.toInt := (congrArg Int32.toInt ev_5).trans rfl
  obtain ⟨v_9, ev_9⟩ : ∃ v, pI S 1245 x = v := ⟨_, rfl⟩
  have rg_11 := And.intro (z_lo v_9) (z_hi v_9)
  have pz_12 : (pI S 1245 x).toInt = v_9.toInt := by rw [ev_9]
  have pz_13 : (pI S 1245 x).toInt = v_9.toInt := (congrArg Int32.toInt ev_9).trans rfl
  refine lv_aload_n X.1 X.2.1 dX12_fault_0 rfl (lv_at hl 0 rfl) ?_
  refine lv_iconst (v := 0) X.1 X.2.1 dX12_fault_1 (by decide) ?_
  refine r_putI (v := 0) X hw ha_x rfl 0 1200 tyX12 (by decide) rfl inn_X12_fault_12 tyX12_ok nmX12 (by decide) (X.2.2.2.1 (.fieldLink RX12 161 "SilkMillModel" "thrown" "I") (by decide +kernel)) rfl (Or.inl rfl) rfl rfl (Nat.le_of_ble_eq_true rfl) (st_1200 _ _) dX12_fault_2 (fun H locs hw => ?_)
  obtain ⟨S_14, eS_14⟩ : ∃ T, T = sI S 1200 x (0) := ⟨_, rfl⟩
  rw [← eS_14] at hw
  have hO_15 : Ok Mfa S S_14 := hO.sI eS_14 (by decide +kernel) (uI_12_1200 hO.1 ha_x)
  have h_16 : pI S_14 1200 x = 0 := tI_sIs eS_14
  refine lv_aload_n X.1 X.2.1 dX12_fault_5 rfl (lv_at hl 0 rfl) ?_
  refine lv_iload_n X.1 X.2.1 dX12_fault_6 rfl (lv_at hl 1 rfl) ?_
  have t_17 : pI S_14 1238 x = v_1 := tI_sI eS_14 rfl ev_1
  have pz_18 : (pI S_14 1238 x).toInt = v_1.toInt := (congrArg Int32.toInt t_17).trans rfl
  have t_19 : At S_14 x 12 := tAt_sI eS_14 ha_x
  refine k_i (rm := { frames := 2, cells := 0, slots := 0, locals := 96 }) (av := [.ref x, .int (a1)]) X hw (va_runV (As := [.int (a1)]) (rest := []) (cfix X) (k_X12_isSkein7 l G cy κ S_14 _ x (a1) (a1_z) hO_15.1 t_19 hz_a1) (cwV 1 X.2.2.2.1 gX12_fault_X12_isSkein rfl rfl rfl (by decide +kernel) ⟨Nat.le_of_ble_eq_true rfl, Nat.le_of_ble_eq_true rfl⟩) (pre_V X hw _ t_19 rfl (by decide) rfl) rfl rfl hl.1 rfl (lv_room (Nat.le_of_ble_eq_true rfl)) dX12_fault_7 ⟨Nat.le_of_ble_eq_true rfl, Nat.le_of_ble_eq_true rfl⟩) 0 0 (Nat.le_of_ble_eq_true rfl) (Nat.le_of_ble_eq_true rfl) (fun rr_20 S_21 H locs hp hw hfr hnw => ?_)
  obtain ⟨e2, hp⟩ := hp
  subst e2
  rcases hp with ⟨f_22, er_23⟩ | ⟨f_22, er_23⟩ <;> subst er_23
  · have z_b_24 := trivial
    refine lv_if_eq (tgt := 33) X.1 X.2.1 dX12_fault_10 (by decide) (fun c_25 => absurd c_25 (by decide)) (fun c_25 => ?_)
    refine lv_iload_n X.1 X.2.1 dX12_fault_13 rfl (lv_at hl 2 rfl) ?_
    refine lv_iconst (v := 1) X.1 X.2.1 dX12_fault_14 (by decide) ?_
    refine lv_sipush (v := 10000) X.1 X.2.1 dX12_fault_15 (by decide) ?_
    refine k_i (rm := { frames := 1, cells := 0, slots := 0, locals := 48 }) (av := [.int (a2), .int 1, .int 10000]) X hw (va_runS (As := [.int (a2), .int 1, .int 10000]) (rest := []) (cfix X) (k_X12_within l G cy κ S_14 _ (a2) (a2_z) (1) (1) (10000) (10000) hO_15.1 hz_a2 ti_1 ti_10000) (cwS 3 X.2.2.2.1 gX12_fault_X12_within rfl rfl rfl (by decide +kernel) ⟨Nat.le_of_ble_eq_true rfl, Nat.le_of_ble_eq_true rfl⟩) (pre_S X hw _) rfl rfl hl.1 rfl (lv_room (Nat.le_of_ble_eq_true rfl)) dX12_fault_18 ⟨Nat.le_of_ble_eq_true rfl, Nat.le_of_ble_eq_true rfl⟩) 0 0 (Nat.le_of_ble_eq_true rfl) (Nat.le_of_ble_eq_true rfl) (fun rr_26 S_27 H locs hp hw hfr hnw => ?_)
    obtain ⟨e2, hp⟩ := hp
    subst e2
    rcases hp with ⟨f_28, er_29⟩ | ⟨f_28, er_29⟩ <;> subst er_29
    · have z_b_30 := trivial
      refine lv_if_eq (tgt := 33) X.1 X.2.1 dX12_fault_21 (by decide) (fun c_31 => absurd c_31 (by decide)) (fun c_31 => ?_)
      refine lv_aload_n X.1 X.2.1 dX12_fault_24 rfl (lv_at hl 0 rfl) ?_
      have t_32 : pI S_14 1262 x = v_5 := tI_sI eS_14 rfl ev_5
      refine r_getI (g := 1262) (x := v_5) X hw t_19 rfl 62 t_32 (by decide) rfl inn_X12_fault_12 (by decide) (X.2.2.2.1 (.fieldLink RX12 403 "SilkMillModel" "faults" "I") (by decide +kernel)) rfl (gv_1262 _ _) dX12_fault_25 ?_
      refine lv_bipush (v := 40) X.1 X.2.1 dX12_fault_28 (by decide) ?_
      refine lv_icmp_ne (tgt := 35) X.1 X.2.1 dX12_fault_30 (by decide) (fun c_33 => ?_) (fun c_33 => ?_)
      · have z_b_34 := trivial
        have k_35 : v_5.toInt ≠ 40 := z_ne rfl ti_40 c_33
        refine lv_aload_n X.1 X.2.1 dX12_fault_35 rfl (lv_at hl 0 rfl) ?_
        obtain ⟨q_36, h_37, h_38, h_39⟩ := gQ_12_1263 hO_15.1 t_19
        refine r_getR (g := 1263) X hw t_19 rfl 63 h_37 (by decide) rfl inn_X12_fault_12 (by decide) (X.2.2.2.1 (.fieldLink RX12 152 "SilkMillModel" "faultOf" "[I") (by decide +kernel)) rfl (gv_1263 _ _) dX12_fault_36 ?_
        refine lv_aload_n X.1 X.2.1 dX12_fault_39 rfl (lv_at hl 0 rfl) ?_
        refine r_getI (g := 1262) (x := v_5) X hw t_19 rfl 62 t_32 (by decide) rfl inn_X12_fault_12 (by decide) (X.2.2.2.1 (.fieldLink RX12 403 "SilkMillModel" "faults" "I") (by decide +kernel)) rfl (gv_1262 _ _) dX12_fault_40 ?_
        refine lv_iload_n X.1 X.2.1 dX12_fault_43 rfl (lv_at hl 1 rfl) ?_
        refine r_iast X hw h_38 rfl (by rw [h_39]; exact z_ix rfl (by omega) (by omega)) dX12_fault_44 (fun H locs hw => ?_)
        obtain ⟨S_40, eS_40⟩ : ∃ T, T = sA S_14 q_36 (upd (pA S_14 q_36) (Int32.toNatClampNeg (v_5)) (a1)) := ⟨_, rfl⟩
        rw [← eS_40] at hw
        have hO_41 : Ok Mfa S S_40 := hO_15.sA eS_40 h_38 (by decide +kernel) (uA_1474 hO_15.1 h_38 (by omega) (by omega))
        have h_42 : pA S_40 q_36 (Int32.toNatClampNeg (v_5)) = a1 := tA_sAs eS_40
        have zc_43 : zA S_14 x 1263 = zA S x 1263 := zA_sI eS_14
        have t_44 : pR S_40 1263 x = some q_36 := tR_sA eS_40 h_37
        have t_46 : pR S_14 1263 x = some q_36 := by have h := t_44; rw [eS_40, pR_sA] at h; exact h
        have zs_45 : ∀ j, zA S_40 x 1263 j = if j = (v_5.toInt).toNat then a1_z else zA S_14 x 1263 j := by have h := zA_sAs eS_40 t_46 hz_a1; rw [z_nc rfl (by omega)] at h; exact h
        have zs_47 : ∀ j, zA S_40 x 1263 j = if j = (v_5.toInt).toNat then a1_z else zA S x 1263 j := fun j => by rw [zs_45 j, zc_43]
        refine lv_aload_n X.1 X.2.1 dX12_fault_45 rfl (lv_at hl 0 rfl) ?_
        have t_48 : At S_40 x 12 := tAt_sA eS_40 t_19
        obtain ⟨q_49, h_50, h_51, h_52⟩ := gQ_12_1264 hO_41.1 t_48
        refine r_getR (g := 1264) X hw t_48 rfl 64 h_50 (by decide) rfl inn_X12_fault_12 (by decide) (X.2.2.2.1 (.fieldLink RX12 155 "SilkMillModel" "faultAmount" "[I") (by decide +kernel)) rfl (gv_1264 _ _) dX12_fault_46 ?_
        refine lv_aload_n X.1 X.2.1 dX12_fault_49 rfl (lv_at hl 0 rfl) ?_
        have t_53 : pI S_40 1262 x = v_5 := tI_sA eS_40 t_32
        refine r_getI (g := 1262) (x := v_5) X hw t_48 rfl 62 t_53 (by decide) rfl inn_X12_fault_12 (by decide) (X.2.2.2.1 (.fieldLink RX12 403 "SilkMillModel" "faults" "I") (by decide +kernel)) rfl (gv_1262 _ _) dX12_fault_50 ?_
        refine lv_iload_n X.1 X.2.1 dX12_fault_53 rfl (lv_at hl 2 rfl) ?_
        refine r_iast X hw h_51 rfl (by rw [h_52]; exact z_ix rfl (by omega) (by omega)) dX12_fault_54 (fun H locs hw => ?_)
        obtain ⟨S_54, eS_54⟩ : ∃ T, T = sA S_40 q_49 (upd (pA S_40 q_49) (Int32.toNatClampNeg (v_5)) (a2)) := ⟨_, rfl⟩
        rw [← eS_54] at hw
        have hO_55 : Ok Mfa S S_54 := hO_41.sA eS_54 h_51 (by decide +kernel) (uA_1494 hO_41.1 h_51)
        have h_56 : pA S_54 q_49 (Int32.toNatClampNeg (v_5)) = a2 := tA_sAs eS_54
        have zc_57 : zA S_14 x 1264 = zA S x 1264 := zA_sI eS_14
        have zc_58 : zA S_40 x 1264 = zA S x 1264 := (zA_sAn eS_40 (ex3 (gQ_12_1264 hO_15.1 t_19)) h_38 rfl).trans zc_57
        have t_59 : pR S_54 1264 x = some q_49 := tR_sA eS_54 h_50
        have t_61 : pR S_40 1264 x = some q_49 := by have h := t_59; rw [eS_54, pR_sA] at h; exact h
        have zs_60 : ∀ j, zA S_54 x 1264 j = if j = (v_5.toInt).toNat then a2_z else zA S_40 x 1264 j := by have h := zA_sAs eS_54 t_61 hz_a2; rw [z_nc rfl (by omega)] at h; exact h
        have zs_62 : ∀ j, zA S_54 x 1264 j = if j = (v_5.toInt).toNat then a2_z else zA S x 1264 j := fun j => by rw [zs_60 j, zc_58]
        refine lv_aload_n X.1 X.2.1 dX12_fault_55 rfl (lv_at hl 0 rfl) ?_
        have t_63 : At S_54 x 12 := tAt_sA eS_54 t_48
        obtain ⟨q_64, h_65, h_66, h_67⟩ := gQ_12_1265 hO_55.1 t_63
        refine r_getR (g := 1265) X hw t_63 rfl 65 h_65 (by decide) rfl inn_X12_fault_12 (by decide) (X.2.2.2.1 (.fieldLink RX12 158 "SilkMillModel" "faultDay" "[I") (by decide +kernel)) rfl (gv_1265 _ _) dX12_fault_56 ?_
        refine lv_aload_n X.1 X.2.1 dX12_fault_59 rfl (lv_at hl 0 rfl) ?_
        have t_68 : pI S_54 1262 x = v_5 := tI_sA eS_54 t_53
        refine r_getI (g := 1262) (x := v_5) X hw t_63 rfl 62 t_68 (by decide) rfl inn_X12_fault_12 (by decide) (X.2.2.2.1 (.fieldLink RX12 403 "SilkMillModel" "faults" "I") (by decide +kernel)) rfl (gv_1262 _ _) dX12_fault_60 ?_
        refine lv_aload_n X.1 X.2.1 dX12_fault_63 rfl (lv_at hl 0 rfl) ?_
        have t_69 : pI S_14 1245 x = v_9 := tI_sI eS_14 rfl ev_9
        have t_70 : pI S_40 1245 x = v_9 := tI_sA eS_40 t_69
        have t_71 : pI S_54 1245 x = v_9 := tI_sA eS_54 t_70
        refine r_getI (g := 1245) (x := v_9) X hw t_63 rfl 45 t_71 (by decide) rfl inn_X12_fault_12 (by decide) (X.2.2.2.1 (.fieldLink RX12 302 "SilkMillModel" "today" "I") (by decide +kernel)) rfl (gv_1245 _ _) dX12_fault_64 ?_
        refine r_iast X hw h_66 rfl (by rw [h_67]; exact z_ix rfl (by omega) (by omega)) dX12_fault_67 (fun H locs hw => ?_)
        obtain ⟨S_72, eS_72⟩ : ∃ T, T = sA S_54 q_64 (upd (pA S_54 q_64) (Int32.toNatClampNeg (v_5)) (v_9)) := ⟨_, rfl⟩
        rw [← eS_72] at hw
        have hO_73 : Ok Mfa S S_72 := hO_55.sA eS_72 h_66 (by decide +kernel) (uA_1514 hO_55.1 h_66)
        have h_74 : pA S_72 q_64 (Int32.toNatClampNeg (v_5)) = v_9 := tA_sAs eS_72
        have zc_75 : zA S_14 x 1265 = zA S x 1265 := zA_sI eS_14
        have zc_76 : zA S_40 x 1265 = zA S x 1265 := (zA_sAn eS_40 (ex3 (gQ_12_1265 hO_15.1 t_19)) h_38 rfl).trans zc_75
        have zc_77 : zA S_54 x 1265 = zA S x 1265 := (zA_sAn eS_54 (ex3 (gQ_12_1265 hO_41.1 t_48)) h_51 rfl).trans zc_76
        have t_78 : pR S_72 1265 x = some q_64 := tR_sA eS_72 h_65
        have t_80 : pR S_54 1265 x = some q_64 := by have h := t_78; rw [eS_72, pR_sA] at h; exact h
        have zs_79 : ∀ j, zA S_72 x 1265 j = if j = (v_5.toInt).toNat then v_9.toInt else zA S_54 x 1265 j := by have h := zA_sAs eS_72 t_80 rfl; rw [z_nc rfl (by omega)] at h; exact h
        have zs_81 : ∀ j, zA S_72 x 1265 j = if j = (v_5.toInt).toNat then v_9.toInt else zA S x 1265 j := fun j => by rw [zs_79 j, zc_77]
        refine lv_aload_n X.1 X.2.1 dX12_fault_68 rfl (lv_at hl 0 rfl) ?_
        refine lv_dup X.1 X.2.1 dX12_fault_69 rfl ?_
        have t_82 : At S_72 x 12 := tAt_sA eS_72 t_63
        have t_83 : pI S_72 1262 x = v_5 := tI_sA eS_72 t_68
        refine r_getI (g := 1262) (x := v_5) X hw t_82 rfl 62 t_83 (by decide) rfl inn_X12_fault_12 (by decide) (X.2.2.2.1 (.fieldLink RX12 403 "SilkMillModel" "faults" "I") (by decide +kernel)) rfl (gv_1262 _ _) dX12_fault_70 ?_
        refine lv_iconst (v := 1) X.1 X.2.1 dX12_fault_73 (by decide) ?_
        refine lv_iadd X.1 X.2.1 dX12_fault_74 ?_
        refine lv_topi (fun v_84 ev_84 => ?_)
        have z_85 : v_84.toInt = v_5.toInt + 1 := z_add ev_84 rfl ti_1 (by omega) (by omega)
        refine r_putI (v := v_84) X hw t_82 rfl 62 1262 tyX12 (by decide) rfl inn_X12_fault_12 tyX12_ok nmX12 (by decide) (X.2.2.2.1 (.fieldLink RX12 403 "SilkMillModel" "faults" "I") (by decide +kernel)) rfl (Or.inl rfl) rfl rfl (Nat.le_of_ble_eq_true rfl) (st_1262 _ _) dX12_fault_75 (fun H locs hw => ?_)
        obtain ⟨S_86, eS_86⟩ : ∃ T, T = sI S_72 1262 x (v_84) := ⟨_, rfl⟩
        rw [← eS_86] at hw
        have hO_87 : Ok Mfa S S_86 := hO_73.sI eS_86 (by decide +kernel) (uI_12_1262 hO_73.1 t_82 (by omega) (by omega))
        have h_88 : pI S_86 1262 x = v_84 := tI_sIs eS_86
        refine lv_iconst (v := 1) X.1 X.2.1 dX12_fault_78 (by decide) ?_
        have pz_89 : (pI S_86 1262 x).toInt = (v_5.toInt + 1) := (congrArg Int32.toInt h_88).trans z_85
        have zc_90 : zA S_14 x 1263 = zA S x 1263 := zA_sI eS_14
        have zc_91 : zA S_54 x 1263 = zA S_40 x 1263 := zA_sAn eS_54 (ex3 (gQ_12_1263 hO_41.1 t_48)) h_51 rfl
        have zc_92 : zA S_72 x 1263 = zA S_40 x 1263 := (zA_sAn eS_72 (ex3 (gQ_12_1263 hO_55.1 t_63)) h_66 rfl).trans zc_91
        have zc_93 : zA S_86 x 1263 = zA S_40 x 1263 := (zA_sI eS_86).trans zc_92
        have zs_94 : ∀ j, zA S_86 x 1263 j = if j = (v_5.toInt).toNat then a1_z else zA S x 1263 j := fun j => by rw [zc_93]; exact zs_47 j
        have zc_95 : zA S_14 x 1265 = zA S x 1265 := zA_sI eS_14
        have zc_96 : zA S_40 x 1265 = zA S x 1265 := (zA_sAn eS_40 (ex3 (gQ_12_1265 hO_15.1 t_19)) h_38 rfl).trans zc_95
        have zc_97 : zA S_54 x 1265 = zA S x 1265 := (zA_sAn eS_54 (ex3 (gQ_12_1265 hO_41.1 t_48)) h_51 rfl).trans zc_96
        have zc_98 : zA S_86 x 1265 = zA S_72 x 1265 := zA_sI eS_86
        have zs_99 : ∀ j, zA S_86 x 1265 j = if j = (v_5.toInt).toNat then v_9.toInt else zA S x 1265 j := fun j => by rw [zc_98]; exact zs_81 j
        have zc_100 : zA S_14 x 1264 = zA S x 1264 := zA_sI eS_14
        have zc_101 : zA S_40 x 1264 = zA S x 1264 := (zA_sAn eS_40 (ex3 (gQ_12_1264 hO_15.1 t_19)) h_38 rfl).trans zc_100
        have zc_102 : zA S_72 x 1264 = zA S_54 x 1264 := zA_sAn eS_72 (ex3 (gQ_12_1264 hO_55.1 t_63)) h_66 rfl
        have zc_103 : zA S_86 x 1264 = zA S_54 x 1264 := (zA_sI eS_86).trans zc_102
        have zs_104 : ∀ j, zA S_86 x 1264 j = if j = (v_5.toInt).toNat then a2_z else zA S x 1264 j := fun j => by rw [zc_103]; exact zs_62 j
        exact ret_z X hw hr hlocks (Nat.le_of_ble_eq_true rfl) (Nat.le_of_ble_eq_true rfl) (by decide) ⟨hO_87, Or.inl ⟨⟨by omega, by omega, fun j => (by rw [zs_94 j, show (v_5.toInt).toNat = (pI S 1262 x).toInt.toNat by omega]), fun j => (by rw [zs_99 j, show (v_5.toInt).toNat = (pI S 1262 x).toInt.toNat by omega, show (v_9.toInt : Int) = (pI S 1245 x).toInt by omega]), fun j => (by rw [zs_104 j, show (v_5.toInt).toNat = (pI S 1262 x).toInt.toNat by omega])⟩, rfl⟩⟩ dX12_fault_79
      · have z_b_105 := trivial
        have k_106 : v_5.toInt = 40 := z_eq rfl ti_40 c_33
        refine lv_iconst (v := 0) X.1 X.2.1 dX12_fault_33 (by decide) ?_
        have pz_107 : (pI S_14 1262 x).toInt = v_5.toInt := (congrArg Int32.toInt t_32).trans rfl
        have pz_108 : (pI S_14 1262 x).toInt = v_5.toInt := (congrArg Int32.toInt t_32).trans rfl
        exact ret_z X hw hr hlocks (Nat.le_of_ble_eq_true rfl) (Nat.le_of_ble_eq_true rfl) (by decide) ⟨hO_15, Or.inr ⟨⟨by omega, eS_14⟩, rfl⟩⟩ dX12_fault_34
    · have z_b_109 := trivial
      refine lv_if_eq (tgt := 33) X.1 X.2.1 dX12_fault_21 (by decide) (fun c_110 => ?_) (fun c_110 => absurd c_110 (by decide))
      refine lv_iconst (v := 0) X.1 X.2.1 dX12_fault_33 (by decide) ?_
      have t_111 : pI S_14 1262 x = v_5 := tI_sI eS_14 rfl ev_5
      have pz_112 : (pI S_14 1262 x).toInt = v_5.toInt := (congrArg Int32.toInt t_111).trans rfl
      have pz_113 : (pI S_14 1262 x).toInt = v_5.toInt := (congrArg Int32.toInt t_111).trans rfl
      exact ret_z X hw hr hlocks (Nat.le_of_ble_eq_true rfl) (Nat.le_of_ble_eq_true rfl) (by decide) ⟨hO_15, Or.inr ⟨⟨by omega, eS_14⟩, rfl⟩⟩ dX12_fault_34
  · have z_b_114 := trivial
    refine lv_if_eq (tgt := 33) X.1 X.2.1 dX12_fault_10 (by decide) (fun c_115 => ?_) (fun c_115 => absurd c_115 (by decide))
    refine lv_iconst (v := 0) X.1 X.2.1 dX12_fault_33 (by decide) ?_
    have t_116 : pI S_14 1262 x = v_5 := tI_sI eS_14 rfl ev_5
    have pz_117 : (pI S_14 1262 x).toInt = v_5.toInt := (congrArg Int32.toInt t_116).trans rfl
    have pz_118 : (pI S_14 1262 x).toInt = v_5.toInt := (congrArg Int32.toInt t_116).trans rfl
    exact ret_z X hw hr hlocks (Nat.le_of_ble_eq_true rfl) (Nat.le_of_ble_eq_true rfl) (by decide) ⟨hO_15, Or.inr ⟨⟨by omega, eS_14⟩, rfl⟩⟩ dX12_fault_34
