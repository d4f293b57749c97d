def MPr : List Nat := [1200, 1228, 1229, 1230, 1231, 1232, 1233, 1234, 10614, 10634, 10654, 10674, 10694, 10714, 10734]
theorem rB_fr2 {M : List Nat} {S S' : PS} {x : Nat} (hG : GX S) (ha : At S x 12) (hF : Fr M S S') (hM : ([1227, 10753] : List Nat).all (fun g => !M.contains g) = true) (h8 : pI S' 1228 x = pI S 1228 x) : rB S' x = rB S x := by
  funext i
  rw [rB_eq, rB_eq, h8, mA_fr hF ha (ex3 (gQ_12_1227 hG ha)) (allc hM (by decide)) (allc hM (by decide))]
/-! ===== the copying of rules to a pot ===== -/
theorem ce_o {S T : PS} {x g n k j : Nat} {v : Int} (hc : CeX S T x g n v) (hk : k ∈ rgG) (hj : k = g → j ≠ n) : zA T x k j = zA S x k j := by
  by_cases e : k = g
  · subst e
    rw [hc.1 j, if_neg (hj rfl)]
  · rw [hc.2 k hk e]
theorem CpI_0 {S T : PS} {x p : Nat} {R : List Ru} (hr : RrIs T x R) (hl : RrL S T x) : CpI S T x p R 0 0 0 := ⟨hr, fun i r hi => absurd hi (Nat.not_lt_zero _), fun h => absurd h (by decide), fun i hi _ => hl.1 i hi, fun i hi _ => hl.2.1 i hi⟩
theorem CpI_to {S T U : PS} {x p k j w : Nat} {R : List Ru} (hA : ∀ g, g ∈ rgG → zA U x g = zA T x g) (h : CpI S T x p R k j w) : CpI S U x p R k j w := by
  obtain ⟨h1, h2, h3, h4, h5⟩ := h
  refine ⟨RrIs_to hA h1, fun i r hi hr => RxN_to hA (h2 i r hi hr), fun hw r hr => ?_, fun i hi hn => ?_, fun i hi hn => ?_⟩
  · rw [hA 1221 (by decide), hA 1222 (by decide), hA 1223 (by decide), hA 1224 (by decide), hA 1225 (by decide), hA 1226 (by decide)]
    exact h3 hw r hr
  · rw [hA 1221 (by decide), hA 1222 (by decide), hA 1223 (by decide)]; exact h4 i hi hn
  · rw [hA 1224 (by decide), hA 1225 (by decide), hA 1226 (by decide)]; exact h5 i hi hn
/-- what a store within the pot's own rows keeps -/
theorem CpI_ce {S T U : PS} {x p k j g n : Nat} {v : Int} {R : List Ru} (hG : GX T) (hx : At T x 12) (hp : p ≤ 3) (hk : k < 12) (hj : j < 4) (h : CpI S T x p R k 0 0) (hc : CeX T U x g n v) (hn : (g = 1221 ∨ g = 1222 ∨ g = 1223) ∧ n = 12 * p + k ∨ (g = 1224 ∨ g = 1225 ∨ g = 1226) ∧ n = 4 * (12 * p + k) + j) : CpI S U x p R k 0 0 := by
  obtain ⟨h1, h2, -, h4, h5⟩ := h
  refine ⟨RrIs_ce hG hx hc (Nat.le_refl _) (by omega) h1, fun i r hi hr => RxN_ce hG hx hc (by omega) (h2 i r hi hr), fun h => absurd h (by decide), fun i hi hn2 => ?_, fun i hi hn2 => ?_⟩
  · rw [ce_o hc (k := 1221) (by decide) (fun e => by omega), ce_o hc (k := 1222) (by decide) (fun e => by omega), ce_o hc (k := 1223) (by decide) (fun e => by omega)]
    exact h4 i hi hn2
  · rw [ce_o hc (k := 1224) (by decide) (fun e => by omega), ce_o hc (k := 1225) (by decide) (fun e => by omega), ce_o hc (k := 1226) (by decide) (fun e => by omega)]
    exact h5 i hi hn2
theorem CpI_w0 {S T : PS} {x p k j w : Nat} {R : List Ru} (h : CpI S T x p R k j w) : CpI S T x p R k 0 0 := ⟨h.1, h.2.1, fun z => absurd z (by decide), h.2.2.2.1, h.2.2.2.2⟩
theorem CpI_h {S T U1 U2 U3 : PS} {x p k : Nat} {v1 v2 v3 : Int} {R : List Ru} (g0 : GX T) (a0 : At T x 12) (g1 : GX U1) (a1 : At U1 x 12) (g2 : GX U2) (a2 : At U2 x 12) (hp : p ≤ 3) (hk : k < 12) (h : CpI S T x p R k 0 0) (c1 : CeX T U1 x 1221 (12 * p + k) v1) (c2 : CeX U1 U2 x 1222 (12 * p + k) v2) (c3 : CeX U2 U3 x 1223 (12 * p + k) v3) (e1 : v1 = zA T x 1221 (48 + k)) (e2 : v2 = zA U1 x 1222 (48 + k)) (e3 : v3 = zA U2 x 1223 (48 + k)) : CpI S U3 x p R k 0 1 := by
  have hA := CpI_ce g0 a0 hp hk (j := 0) (by decide) h c1 (Or.inl ⟨Or.inl rfl, rfl⟩)
  have hB := CpI_ce g1 a1 hp hk (j := 0) (by decide) hA c2 (Or.inl ⟨Or.inr (Or.inl rfl), rfl⟩)
  have hC := CpI_ce g2 a2 hp hk (j := 0) (by decide) hB c3 (Or.inl ⟨Or.inr (Or.inr rfl), rfl⟩)
  refine ⟨hC.1, hC.2.1, fun _ r hr => ⟨?_, ?_, ?_, fun i c hi => absurd hi (Nat.not_lt_zero _)⟩, hC.2.2.2.1, hC.2.2.2.2⟩
  · rw [ce_o c3 (k := 1221) (by decide) (fun e => absurd e (by decide)), ce_o c2 (k := 1221) (by decide) (fun e => absurd e (by decide)), c1.1, if_pos rfl, e1]
    exact (h.1 k r hr).1
  · rw [ce_o c3 (k := 1222) (by decide) (fun e => absurd e (by decide)), c2.1, if_pos rfl, e2]
    exact (hA.1 k r hr).2.1
  · rw [c3.1, if_pos rfl, e3]
    exact (hB.1 k r hr).2.2.1
theorem CpI_n {S T U1 U2 U3 : PS} {x p k j : Nat} {v1 v2 v3 : Int} {R : List Ru} (g0 : GX T) (a0 : At T x 12) (g1 : GX U1) (a1 : At U1 x 12) (g2 : GX U2) (a2 : At U2 x 12) (hp : p ≤ 3) (hk : k < 12) (hj : j < 4) (h : CpI S T x p R k j 1) (c1 : CeX T U1 x 1224 (4 * (12 * p + k) + j) v1) (c2 : CeX U1 U2 x 1225 (4 * (12 * p + k) + j) v2) (c3 : CeX U2 U3 x 1226 (4 * (12 * p + k) + j) v3) (e1 : v1 = zA T x 1224 (4 * (48 + k) + j)) (e2 : v2 = zA U1 x 1225 (4 * (48 + k) + j)) (e3 : v3 = zA U2 x 1226 (4 * (48 + k) + j)) : CpI S U3 x p R k (j + 1) 1 := by
  have hA := CpI_ce g0 a0 hp hk hj (CpI_w0 h) c1 (Or.inr ⟨Or.inl rfl, rfl⟩)
  have hB := CpI_ce g1 a1 hp hk hj hA c2 (Or.inr ⟨Or.inr (Or.inl rfl), rfl⟩)
  have hC := CpI_ce g2 a2 hp hk hj hB c3 (Or.inr ⟨Or.inr (Or.inr rfl), rfl⟩)
  refine ⟨hC.1, hC.2.1, fun _ r hr => ?_, hC.2.2.2.1, hC.2.2.2.2⟩
  obtain ⟨k1, k2, k3, k4⟩ := h.2.2.1 rfl r hr
  have same : ∀ g i, g = 1221 ∨ g = 1222 ∨ g = 1223 → zA U3 x g i = zA T x g i := fun g i hg => by
    have hm : g ∈ rgG := by
      rcases hg with z | z | z <;> subst z <;> decide
    rw [ce_o c3 hm (fun e => by omega), ce_o c2 hm (fun e => by omega), ce_o c1 hm (fun e => by omega)]
  refine ⟨by rw [same 1221 _ (Or.inl rfl)]; exact k1, by rw [same 1222 _ (Or.inr (Or.inl rfl))]; exact k2, by rw [same 1223 _ (Or.inr (Or.inr rfl))]; exact k3, fun i c hi hc => ?_⟩
  have q4 : zA U3 x 1224 (4 * (12 * p + k) + i) = if i = j then v1 else zA T x 1224 (4 * (12 * p + k) + i) := by
    rw [ce_o c3 (k := 1224) (by decide) (fun e => absurd e (by decide)), ce_o c2 (k := 1224) (by decide) (fun e => absurd e (by decide)), c1.1]
    by_cases z : i = j
    · rw [if_pos z, if_pos (by omega)]
    · rw [if_neg z, if_neg (by omega)]
  have q5 : zA U3 x 1225 (4 * (12 * p + k) + i) = if i = j then v2 else zA T x 1225 (4 * (12 * p + k) + i) := by
    rw [ce_o c3 (k := 1225) (by decide) (fun e => absurd e (by decide)), c2.1]
    by_cases z : i = j
    · rw [if_pos z, if_pos (by omega)]
    · rw [if_neg z, if_neg (by omega), ce_o c1 (k := 1225) (by decide) (fun e => absurd e (by decide))]
  have q6 : zA U3 x 1226 (4 * (12 * p + k) + i) = if i = j then v3 else zA T x 1226 (4 * (12 * p + k) + i) := by
    rw [c3.1]
    by_cases z : i = j
    · rw [if_pos z, if_pos (by omega)]
    · rw [if_neg z, if_neg (by omega), ce_o c2 (k := 1226) (by decide) (fun e => absurd e (by decide)), ce_o c1 (k := 1226) (by decide) (fun e => absurd e (by decide))]
  rw [q4, q5, q6]
  by_cases z : i = j
  · subst z
    rw [if_pos rfl, if_pos rfl, if_pos rfl, e1, e2, e3]
    exact ⟨((h.1 k r hr).2.2.2 i c hc).1, ((hA.1 k r hr).2.2.2 i c hc).2.1, ((hB.1 k r hr).2.2.2 i c hc).2.2⟩
  · rw [if_neg z, if_neg z, if_neg z]
    exact k4 i c (by omega) hc
theorem CpI_s {S T : PS} {x p k : Nat} {R : List Ru} (hG : GX T) (hx : At T x 12) (h : CpI S T x p R k 4 1) : CpI S T x p R (k + 1) 0 0 := by
  obtain ⟨h1, h2, h3, h4, h5⟩ := h
  refine ⟨h1, fun i r hi hr => ?_, fun z => absurd z (by decide), h4, h5⟩
  by_cases e : i = k
  · subst e
    obtain ⟨k1, k2, k3, k4⟩ := h3 rfl r hr
    have hl := CnR_len hG hx (h1 i r hr).2.2
    exact ⟨k1, k2, k3, fun j c hc => k4 j c (by have := (List.getElem?_eq_some_iff.mp hc).1; omega) hc⟩
  · exact h2 i r (by omega) hr
/-- the pot p has the rules R now, the others theirs -/
def RpS (S T : PS) (x p : Nat) (R : List Ru) : Prop := zA T x 1220 p = (R.length : Int) ∧ (∀ k r, R[k]? = some r → RxN T x (12 * p + k) r) ∧ (∀ i, i < 48 → ¬ (12 * p ≤ i ∧ i < 12 * p + 12) → zA T x 1221 i = zA S x 1221 i ∧ zA T x 1222 i = zA S x 1222 i ∧ zA T x 1223 i = zA S x 1223 i) ∧ (∀ i, i < 192 → ¬ (48 * p ≤ i ∧ i < 48 * p + 48) → zA T x 1224 i = zA S x 1224 i ∧ zA T x 1225 i = zA S x 1225 i ∧ zA T x 1226 i = zA S x 1226 i) ∧ ∀ j, j < 4 → j ≠ p → zA T x 1220 j = zA S x 1220 j

set_option maxHeartbeats 4000000 in
set_option maxRecDepth 100000 in
theorem k_X12_program6 (l : Launch) (G : va_G) (cy : Nat → ClassId) (κ : Nat → Nat) (S : PS) (sz : Nat) (x : Nat) (a1 : Int32) (a1_z : Int) (hG : GX S) (ha_x : At S x 12) (hz_a1 : a1.toInt = a1_z) : Ci l yX12_program wsX12_program ({ frames := 8, cells := 0, slots := 0, locals := 384 }) G cy κ S sz [.ref x, .int (a1)] (fun (r : Int32) (S9 : PS) => Ok MPr S S9 ∧ (-2147483648 ≤ r.toInt ∧ r.toInt ≤ 2147483647 ∧ (((0 ≤ a1_z ∧ a1_z < (pI S 1211 x).toInt) ∧ (pI S9 1228 x).toInt = 0) ∨ (¬ (0 ≤ a1_z ∧ a1_z < (pI S 1211 x).toInt) ∧ (pI S9 1228 x).toInt = (pI S 1228 x).toInt)) ∧ ((0 ≤ a1_z ∧ a1_z < (pI S 1211 x).toInt) → r.toInt = prR (rB S x) (pI S 1228 x).toInt.toNat) ∧ (¬ (0 ≤ a1_z ∧ a1_z < (pI S 1211 x).toInt) → r.toInt = -1) ∧ ((0 ≤ a1_z ∧ a1_z < (pI S 1211 x).toInt) → (prF (rB S x) (pI S 1228 x).toInt.toNat 13 0 (tokF (rB S x) (pI S 1228 x).toInt.toNat 0)).1 = 0 → RpS S S9 x a1_z.toNat (prL (rB S x) (pI S 1228 x).toInt.toNat 13 0 (tokF (rB S x) (pI S 1228 x).toInt.toNat 0))) ∧ (¬ (0 ≤ a1_z ∧ a1_z < (pI S 1211 x).toInt) ∨ (prF (rB S x) (pI S 1228 x).toInt.toNat 13 0 (tokF (rB S x) (pI S 1228 x).toInt.toNat 0)).1 ≠ 0 → RrL S S9 x))) := by
  refine ent_m (cc := cX12_program) (maxL := 5) (ret := (some .int)) (by decide) rfl (Nat.le_of_ble_eq_true rfl) ?_
  intro p e s m below meth c ls X hr hlocks hin hw hl hsz
  subst hsz
  have X : Cx p c cX12_program 5 s [.ref x, .int (a1)].toArray wsX12_program RX12 m G cy κ (AS S s.heap.size) := X
  have hl : lv_has ls 5 [(0, .ref x), (1, .int (a1))] := hl
  have rg_a1 : (-2147483648) ≤ a1_z ∧ a1_z ≤ 2147483647 := by rw [← hz_a1]; exact ⟨z_lo _, z_hi _⟩
  have hO : Ok MPr S S := Ok.rf hG
  generalize hQQ : MQ below _ _ _ _ _ _ = QQ
  replace hQQ := hQQ.symm
  obtain ⟨v_1, ev_1⟩ : ∃ v, pI S 1228 x = v := ⟨_, rfl⟩
  have rg_2 := gI_12_1228 hO.1 ha_x; rw [ev_1] at rg_2
  have pz_3 : (pI S 1228 x).toInt = v_1.toInt := by rw [ev_1]
  have pz_4 : (pI S 1228 x).toInt = v_1.toInt := (congrArg Int32.toInt ev_1).trans rfl
  obtain ⟨v_5, ev_5⟩ : ∃ v, pI S 1211 x = v := ⟨_, rfl⟩
  have rg_6 := gI_12_1211 hO.1 ha_x; rw [ev_5] at rg_6
  have pz_7 : (pI S 1211 x).toInt = v_5.toInt := by rw [ev_5]
  have pz_8 : (pI S 1211 x).toInt = v_5.toInt := (congrArg Int32.toInt ev_5).trans rfl
  refine lv_aload_n X.1 X.2.1 dX12_program_0 rfl (lv_at hl 0 rfl) ?_
  refine lv_iconst (v := 0) X.1 X.2.1 dX12_program_1 (by decide) ?_
  refine r_putI (v := 0) X hw ha_x rfl 0 1200 tyX12 (by decide) rfl inn_X12_program_12 tyX12_ok nmX12 (by decide) (X.2.2.2.1 (.fieldLink RX12 161 "SilkMillModel" "thrown" "I") (by decide +kernel)) rfl (Or.inl rfl) rfl rfl (Nat.le_of_ble_eq_true rfl) (st_1200 _ _) dX12_program_2 (fun H locs hw => ?_)
  obtain ⟨S_9, eS_9⟩ : ∃ T, T = sI S 1200 x (0) := ⟨_, rfl⟩
  rw [← eS_9] at hw
  have hO_10 : Ok MPr S S_9 := hO.sI eS_9 (by decide +kernel) (uI_12_1200 hO.1 ha_x)
  have h_11 : pI S_9 1200 x = 0 := tI_sIs eS_9
  refine lv_aload_n X.1 X.2.1 dX12_program_5 rfl (lv_at hl 0 rfl) ?_
  refine lv_iload_n X.1 X.2.1 dX12_program_6 rfl (lv_at hl 1 rfl) ?_
  have t_12 : pI S_9 1211 x = v_5 := tI_sI eS_9 rfl ev_5
  have pz_13 : (pI S_9 1211 x).toInt = v_5.toInt := (congrArg Int32.toInt t_12).trans rfl
  have t_14 : At S_9 x 12 := tAt_sI eS_9 ha_x
  refine k_i (rm := { frames := 2, cells := 0, slots := 0, locals := 96 }) (av := [.ref x, .int (a1)]) X hw (va_runV (As := [.int (a1)]) (rest := []) (cfix X) (k_X12_isPot l G cy κ S_9 _ x (a1) (a1_z) hO_10.1 t_14 hz_a1) (cwV 1 X.2.2.2.1 gX12_program_X12_isPot rfl rfl rfl (by decide +kernel) ⟨Nat.le_of_ble_eq_true rfl, Nat.le_of_ble_eq_true rfl⟩) (pre_V X hw _ t_14 rfl (by decide) rfl) rfl rfl hl.1 rfl (lv_room (Nat.le_of_ble_eq_true rfl)) dX12_program_7 ⟨Nat.le_of_ble_eq_true rfl, Nat.le_of_ble_eq_true rfl⟩) 0 0 (Nat.le_of_ble_eq_true rfl) (Nat.le_of_ble_eq_true rfl) (fun rr_15 S_16 H locs hp hw hfr hnw => ?_)
  obtain ⟨e2, hp⟩ := hp
  subst e2
  rcases hp with ⟨f_17, er_18⟩ | ⟨f_17, er_18⟩ <;> subst er_18
  · have z_b_19 := trivial
    refine lv_if_ne (tgt := 15) X.1 X.2.1 dX12_program_10 (by decide) (fun c_20 => ?_) (fun c_20 => absurd c_20 (by decide))
    have L_21 : ∀ (n : Nat) (T_23 : PS) (H : Heap) (locs : List Loc) (ls : Array Slot) (i3_22 : Int32) (i3_22_z : Int), ((12 - i3_22_z).toNat = n) → (Wd G cy (AS S s.heap.size) s.heap T_23 H locs) → (i3_22.toInt = i3_22_z) → (0 ≤ i3_22_z ∧ i3_22_z ≤ 12) → (At T_23 x 12) → (Ok MPr S T_23) → ((pI T_23 1228 x).toInt = 0) → (((prF (rB S x) (pI S 1228 x).toInt.toNat 13 0 (tokF (rB S x) (pI S 1228 x).toInt.toNat 0)).1 = 0 ∧ zA T_23 x 1220 a1_z.toNat = ((prF (rB S x) (pI S 1228 x).toInt.toNat 13 0 (tokF (rB S x) (pI S 1228 x).toInt.toNat 0)).2 : Int))) → (CpI S T_23 x a1_z.toNat (prL (rB S x) (pI S 1228 x).toInt.toNat 13 0 (tokF (rB S x) (pI S 1228 x).toInt.toNat 0)) (i3_22_z).toNat 0 0) → ((∀ j, j < 4 → j ≠ a1_z.toNat → zA T_23 x 1220 j = zA S x 1220 j)) → (zA T_23 x 1220 a1_z.toNat = ((prL (rB S x) (pI S 1228 x).toInt.toNat 13 0 (tokF (rB S x) (pI S 1228 x).toInt.toNat 0)).length : Int)) → (lv_has ls 5 [(3, .int (i3_22)), (0, .ref x), (1, .int (a1))]) → W p l e ({ frames := 8, cells := 0, slots := 0, locals := 384 }) s m [.ref x, .int (a1)].toArray below meth c H locs 0 0 QQ (F0 m 96 ls []) := by
      intro n
      induction n using Nat.strongRecOn with
      | ind n ih_L_21 =>
      intro T_23 H locs ls i3_22 i3_22_z hn hw hz_i3_22 hr_i3_22 ha_x_L_24 hO_T_23 iv_25 iv_26 iv_27 iv_28 iv_29 hl
      have rg_30 : (-2147483648) ≤ i3_22_z ∧ i3_22_z ≤ 2147483647 := by rw [← hz_i3_22]; exact ⟨z_lo _, z_hi _⟩
      obtain ⟨v_31, ev_31⟩ : ∃ v, pI T_23 1228 x = v := ⟨_, rfl⟩
      have rg_32 := gI_12_1228 hO_T_23.1 ha_x_L_24; rw [ev_31] at rg_32
      have pz_33 : (pI T_23 1228 x).toInt = v_31.toInt := by rw [ev_31]
      have pz_34 : (pI T_23 1228 x).toInt = v_31.toInt := (congrArg Int32.toInt ev_31).trans rfl
      refine lv_iload_n X.1 X.2.1 dX12_program_96 rfl (lv_at hl 0 rfl) ?_
      refine lv_bipush (v := 12) X.1 X.2.1 dX12_program_97 (by decide) ?_
      refine lv_icmp_ge (tgt := 273) X.1 X.2.1 dX12_program_99 (by decide) (fun c_35 => ?_) (fun c_35 => ?_)
      · have z_b_36 := trivial
        have k_37 : i3_22_z ≥ 12 := z_le ti_12 hz_i3_22 c_35
        refine lv_aload_n X.1 X.2.1 dX12_program_273 rfl (lv_at hl 1 rfl) ?_
        obtain ⟨q_38, h_39, h_40, h_41⟩ := gQ_12_1220 hO_T_23.1 ha_x_L_24
        refine r_getR (g := 1220) X hw ha_x_L_24 rfl 20 h_39 (by decide) rfl inn_X12_program_12 (by decide) (X.2.2.2.1 (.fieldLink RX12 61 "SilkMillModel" "rules" "[I") (by decide +kernel)) rfl (gv_1220 _ _) dX12_program_274 ?_
        refine lv_iload_n X.1 X.2.1 dX12_program_277 rfl (lv_at hl 2 rfl) ?_
        refine r_iald X hw h_40 rfl (by rw [h_41]; exact z_ix hz_a1 (by omega) (by omega)) dX12_program_278 ?_
        refine lv_topi (fun v_42 ev_42 => ?_)
        have z_43 := gE_614 hO_T_23.1 h_40 (Int32.toNatClampNeg (a1)); rw [← ev_42] at z_43
        have ev_42 := ev_42.symm
        have zf_44 : zA T_23 x 1220 (a1_z).toNat = v_42.toInt := (zA_of h_39 hz_a1 (by omega) ev_42)
        have pz_45 : (pI T_23 1228 x).toInt = v_31.toInt := (congrArg Int32.toInt ev_31).trans rfl
        have zq_46 := z1220 hO_T_23.1 ha_x_L_24 a1_z.toNat
        rw [hQQ]
        exact ret_i X hw hr hlocks (Nat.le_of_ble_eq_true rfl) (Nat.le_of_ble_eq_true rfl) ⟨hO_T_23, ⟨z_lo _, z_hi _, by omega, fun _ => by unfold prR; rw [cit_y iv_26.1]; have h2 := iv_26.2; omega, fun h => by exfalso; omega, fun _ _ => ⟨iv_29, fun k r hk => iv_27.2.1 k r (by have hl := (List.getElem?_eq_some_iff.mp hk).1; omega) hk, iv_27.2.2.2.1, iv_27.2.2.2.2, iv_28⟩, fun h => (by exfalso; rcases h with h | h; exact h (by omega); exact h iv_26.1)⟩⟩ dX12_program_279
      · have z_b_47 := trivial
        have k_48 : i3_22_z < 12 := z_nle ti_12 hz_i3_22 c_35
        refine lv_aload_n X.1 X.2.1 dX12_program_102 rfl (lv_at hl 1 rfl) ?_
        obtain ⟨q_49, h_50, h_51, h_52⟩ := gQ_12_1221 hO_T_23.1 ha_x_L_24
        refine r_getR (g := 1221) X hw ha_x_L_24 rfl 21 h_50 (by decide) rfl inn_X12_program_12 (by decide) (X.2.2.2.1 (.fieldLink RX12 64 "SilkMillModel" "act" "[I") (by decide +kernel)) rfl (gv_1221 _ _) dX12_program_103 ?_
        refine lv_bipush (v := 12) X.1 X.2.1 dX12_program_106 (by decide) ?_
        refine lv_iload_n X.1 X.2.1 dX12_program_108 rfl (lv_at hl 2 rfl) ?_
        refine lv_imul X.1 X.2.1 dX12_program_109 ?_
        refine lv_topi (fun v_53 ev_53 => ?_)
        have z_54 : v_53.toInt = 12 * a1_z := z_mul ev_53 ti_12 hz_a1 (by omega) (by omega)
        refine lv_iload_n X.1 X.2.1 dX12_program_110 rfl (lv_at hl 0 rfl) ?_
        refine lv_iadd X.1 X.2.1 dX12_program_111 ?_
        refine lv_topi (fun v_55 ev_55 => ?_)
        have z_56 : v_55.toInt = (12 * a1_z) + i3_22_z := z_add ev_55 z_54 hz_i3_22 (by omega) (by omega)
        refine lv_aload_n X.1 X.2.1 dX12_program_112 rfl (lv_at hl 1 rfl) ?_
        refine r_getR (g := 1221) X hw ha_x_L_24 rfl 21 h_50 (by decide) rfl inn_X12_program_12 (by decide) (X.2.2.2.1 (.fieldLink RX12 64 "SilkMillModel" "act" "[I") (by decide +kernel)) rfl (gv_1221 _ _) dX12_program_113 ?_
        refine lv_bipush (v := 48) X.1 X.2.1 dX12_program_116 (by decide) ?_
        refine lv_iload_n X.1 X.2.1 dX12_program_118 rfl (lv_at hl 0 rfl) ?_
        refine lv_iadd X.1 X.2.1 dX12_program_119 ?_
        refine lv_topi (fun v_57 ev_57 => ?_)
        have z_58 : v_57.toInt = 48 + i3_22_z := z_add ev_57 ti_48 hz_i3_22 (by omega) (by omega)
        refine r_iald X hw h_51 rfl (by rw [h_52]; exact z_ix z_58 (by omega) (by omega)) dX12_program_120 ?_
        refine lv_topi (fun v_59 ev_59 => ?_)
        have rg_60 := And.intro (z_lo v_59) (z_hi v_59)
        have ev_59 := ev_59.symm
        have zf_61 : zA T_23 x 1221 ((48 + i3_22_z)).toNat = v_59.toInt := (zA_of h_50 z_58 (by omega) ev_59)
        refine r_iast X hw h_51 rfl (by rw [h_52]; exact z_ix z_56 (by omega) (by omega)) dX12_program_121 (fun H locs hw => ?_)
        obtain ⟨S_62, eS_62⟩ : ∃ T, T = sA T_23 q_49 (upd (pA T_23 q_49) (Int32.toNatClampNeg (v_55)) (v_59)) := ⟨_, rfl⟩
        rw [← eS_62] at hw
        have hO_63 : Ok MPr S S_62 := hO_T_23.sA eS_62 h_51 (by decide +kernel) (uA_634 hO_T_23.1 h_51)
        have h_64 : pA S_62 q_49 (Int32.toNatClampNeg (v_55)) = v_59 := tA_sAs eS_62
        have t_65 : pR S_62 1221 x = some q_49 := tR_sA eS_62 h_50
        have t_67 : pR T_23 1221 x = some q_49 := by have h := t_65; rw [eS_62, pR_sA] at h; exact h
        have zs_66 : ∀ j, zA S_62 x 1221 j = if j = (((12 * a1_z) + i3_22_z)).toNat then v_59.toInt else zA T_23 x 1221 j := by have h := zA_sAs eS_62 t_67 rfl; rw [z_nc z_56 (by omega)] at h; exact h
        have ce_68 : CeX T_23 S_62 x 1221 (((12 * a1_z) + i3_22_z)).toNat (v_59.toInt) := CeX_mk hO_T_23.1 ha_x_L_24 eS_62 h_51 (by decide) zs_66
        clear z_54
        clear z_56
        clear z_58
        refine lv_aload_n X.1 X.2.1 dX12_program_122 rfl (lv_at hl 1 rfl) ?_
        have t_69 : At S_62 x 12 := tAt_sA eS_62 ha_x_L_24
        obtain ⟨q_70, h_71, h_72, h_73⟩ := gQ_12_1222 hO_63.1 t_69
        refine r_getR (g := 1222) X hw t_69 rfl 22 h_71 (by decide) rfl inn_X12_program_12 (by decide) (X.2.2.2.1 (.fieldLink RX12 67 "SilkMillModel" "actNumber" "[I") (by decide +kernel)) rfl (gv_1222 _ _) dX12_program_123 ?_
        refine lv_bipush (v := 12) X.1 X.2.1 dX12_program_126 (by decide) ?_
        refine lv_iload_n X.1 X.2.1 dX12_program_128 rfl (lv_at hl 2 rfl) ?_
        refine lv_imul X.1 X.2.1 dX12_program_129 ?_
        refine lv_topi (fun v_74 ev_74 => ?_)
        have z_75 : v_74.toInt = 12 * a1_z := z_mul ev_74 ti_12 hz_a1 (by omega) (by omega)
        refine lv_iload_n X.1 X.2.1 dX12_program_130 rfl (lv_at hl 0 rfl) ?_
        refine lv_iadd X.1 X.2.1 dX12_program_131 ?_
        refine lv_topi (fun v_76 ev_76 => ?_)
        have z_77 : v_76.toInt = (12 * a1_z) + i3_22_z := z_add ev_76 z_75 hz_i3_22 (by omega) (by omega)
        refine lv_aload_n X.1 X.2.1 dX12_program_132 rfl (lv_at hl 1 rfl) ?_
        refine r_getR (g := 1222) X hw t_69 rfl 22 h_71 (by decide) rfl inn_X12_program_12 (by decide) (X.2.2.2.1 (.fieldLink RX12 67 "SilkMillModel" "actNumber" "[I") (by decide +kernel)) rfl (gv_1222 _ _) dX12_program_133 ?_
        refine lv_bipush (v := 48) X.1 X.2.1 dX12_program_136 (by decide) ?_
        refine lv_iload_n X.1 X.2.1 dX12_program_138 rfl (lv_at hl 0 rfl) ?_
        refine lv_iadd X.1 X.2.1 dX12_program_139 ?_
        refine lv_topi (fun v_78 ev_78 => ?_)
        have z_79 : v_78.toInt = 48 + i3_22_z := z_add ev_78 ti_48 hz_i3_22 (by omega) (by omega)
        refine r_iald X hw h_72 rfl (by rw [h_73]; exact z_ix z_79 (by omega) (by omega)) dX12_program_140 ?_
        refine lv_topi (fun v_80 ev_80 => ?_)
        have rg_81 := And.intro (z_lo v_80) (z_hi v_80)
        have ev_80 := ev_80.symm
        have zf_82 : zA S_62 x 1222 ((48 + i3_22_z)).toNat = v_80.toInt := (zA_of h_71 z_79 (by omega) ev_80)
        refine r_iast X hw h_72 rfl (by rw [h_73]; exact z_ix z_77 (by omega) (by omega)) dX12_program_141 (fun H locs hw => ?_)
        obtain ⟨S_83, eS_83⟩ : ∃ T, T = sA S_62 q_70 (upd (pA S_62 q_70) (Int32.toNatClampNeg (v_76)) (v_80)) := ⟨_, rfl⟩
        rw [← eS_83] at hw
        have hO_84 : Ok MPr S S_83 := hO_63.sA eS_83 h_72 (by decide +kernel) (uA_654 hO_63.1 h_72)
        have h_85 : pA S_83 q_70 (Int32.toNatClampNeg (v_76)) = v_80 := tA_sAs eS_83
        have t_86 : pR S_83 1222 x = some q_70 := tR_sA eS_83 h_71
        have t_88 : pR S_62 1222 x = some q_70 := by have h := t_86; rw [eS_83, pR_sA] at h; exact h
        have zs_87 : ∀ j, zA S_83 x 1222 j = if j = (((12 * a1_z) + i3_22_z)).toNat then v_80.toInt else zA S_62 x 1222 j := by have h := zA_sAs eS_83 t_88 rfl; rw [z_nc z_77 (by omega)] at h; exact h
        have ce_89 : CeX S_62 S_83 x 1222 (((12 * a1_z) + i3_22_z)).toNat (v_80.toInt) := CeX_mk hO_63.1 t_69 eS_83 h_72 (by decide) zs_87
        clear z_75
        clear z_77
        clear z_79
        refine lv_aload_n X.1 X.2.1 dX12_program_142 rfl (lv_at hl 1 rfl) ?_
        have t_90 : At S_83 x 12 := tAt_sA eS_83 t_69
        obtain ⟨q_91, h_92, h_93, h_94⟩ := gQ_12_1223 hO_84.1 t_90
        refine r_getR (g := 1223) X hw t_90 rfl 23 h_92 (by decide) rfl inn_X12_program_12 (by decide) (X.2.2.2.1 (.fieldLink RX12 70 "SilkMillModel" "conditions" "[I") (by decide +kernel)) rfl (gv_1223 _ _) dX12_program_143 ?_
        refine lv_bipush (v := 12) X.1 X.2.1 dX12_program_146 (by decide) ?_
        refine lv_iload_n X.1 X.2.1 dX12_program_148 rfl (lv_at hl 2 rfl) ?_
        refine lv_imul X.1 X.2.1 dX12_program_149 ?_
        refine lv_topi (fun v_95 ev_95 => ?_)
        have z_96 : v_95.toInt = 12 * a1_z := z_mul ev_95 ti_12 hz_a1 (by omega) (by omega)
        refine lv_iload_n X.1 X.2.1 dX12_program_150 rfl (lv_at hl 0 rfl) ?_
        refine lv_iadd X.1 X.2.1 dX12_program_151 ?_
        refine lv_topi (fun v_97 ev_97 => ?_)
        have z_98 : v_97.toInt = (12 * a1_z) + i3_22_z := z_add ev_97 z_96 hz_i3_22 (by omega) (by omega)
        refine lv_aload_n X.1 X.2.1 dX12_program_152 rfl (lv_at hl 1 rfl) ?_
        refine r_getR (g := 1223) X hw t_90 rfl 23 h_92 (by decide) rfl inn_X12_program_12 (by decide) (X.2.2.2.1 (.fieldLink RX12 70 "SilkMillModel" "conditions" "[I") (by decide +kernel)) rfl (gv_1223 _ _) dX12_program_153 ?_
        refine lv_bipush (v := 48) X.1 X.2.1 dX12_program_156 (by decide) ?_
        refine lv_iload_n X.1 X.2.1 dX12_program_158 rfl (lv_at hl 0 rfl) ?_
        refine lv_iadd X.1 X.2.1 dX12_program_159 ?_
        refine lv_topi (fun v_99 ev_99 => ?_)
        have z_100 : v_99.toInt = 48 + i3_22_z := z_add ev_99 ti_48 hz_i3_22 (by omega) (by omega)
        refine r_iald X hw h_93 rfl (by rw [h_94]; exact z_ix z_100 (by omega) (by omega)) dX12_program_160 ?_
        refine lv_topi (fun v_101 ev_101 => ?_)
        have z_102 := gE_674 hO_84.1 h_93 (Int32.toNatClampNeg (v_99)); rw [← ev_101] at z_102
        have ev_101 := ev_101.symm
        have zf_103 : zA S_83 x 1223 ((48 + i3_22_z)).toNat = v_101.toInt := (zA_of h_92 z_100 (by omega) ev_101)
        refine r_iast X hw h_93 rfl (by rw [h_94]; exact z_ix z_98 (by omega) (by omega)) dX12_program_161 (fun H locs hw => ?_)
        obtain ⟨S_104, eS_104⟩ : ∃ T, T = sA S_83 q_91 (upd (pA S_83 q_91) (Int32.toNatClampNeg (v_97)) (v_101)) := ⟨_, rfl⟩
        rw [← eS_104] at hw
        have hO_105 : Ok MPr S S_104 := hO_84.sA eS_104 h_93 (by decide +kernel) (uA_674 hO_84.1 h_93 (by omega) (by omega))
        have h_106 : pA S_104 q_91 (Int32.toNatClampNeg (v_97)) = v_101 := tA_sAs eS_104
        have t_107 : pR S_104 1223 x = some q_91 := tR_sA eS_104 h_92
        have t_109 : pR S_83 1223 x = some q_91 := by have h := t_107; rw [eS_104, pR_sA] at h; exact h
        have zs_108 : ∀ j, zA S_104 x 1223 j = if j = (((12 * a1_z) + i3_22_z)).toNat then v_101.toInt else zA S_83 x 1223 j := by have h := zA_sAs eS_104 t_109 rfl; rw [z_nc z_98 (by omega)] at h; exact h
        have ce_110 : CeX S_83 S_104 x 1223 (((12 * a1_z) + i3_22_z)).toNat (v_101.toInt) := CeX_mk hO_84.1 t_90 eS_104 h_93 (by decide) zs_108
        clear z_96
        clear z_98
        clear z_100
        refine lv_iconst (v := 0) X.1 X.2.1 dX12_program_162 (by decide) ?_
        refine lv_istore (lv' := [(4, .int 0), (3, .int (i3_22)), (0, .ref x), (1, .int (a1))]) X.1 X.2.1 dX12_program_163 hl (by decide) rfl (fun ls hl => ?_)
        have L_111 : ∀ (n : Nat) (T_113 : PS) (H : Heap) (locs : List Loc) (ls : Array Slot) (i4_112 : Int32) (i4_112_z : Int), ((4 - i4_112_z).toNat = n) → (Wd G cy (AS S s.heap.size) s.heap T_113 H locs) → (i4_112.toInt = i4_112_z) → (0 ≤ i4_112_z ∧ i4_112_z ≤ 4) → (At T_113 x 12) → (Ok MPr S T_113) → ((pI T_113 1228 x).toInt = 0) → (((prF (rB S x) (pI S 1228 x).toInt.toNat 13 0 (tokF (rB S x) (pI S 1228 x).toInt.toNat 0)).1 = 0 ∧ zA T_113 x 1220 a1_z.toNat = ((prF (rB S x) (pI S 1228 x).toInt.toNat 13 0 (tokF (rB S x) (pI S 1228 x).toInt.toNat 0)).2 : Int))) → (CpI S T_113 x a1_z.toNat (prL (rB S x) (pI S 1228 x).toInt.toNat 13 0 (tokF (rB S x) (pI S 1228 x).toInt.toNat 0)) (i3_22_z).toNat (i4_112_z).toNat 1) → ((∀ j, j < 4 → j ≠ a1_z.toNat → zA T_113 x 1220 j = zA S x 1220 j)) → (zA T_113 x 1220 a1_z.toNat = ((prL (rB S x) (pI S 1228 x).toInt.toNat 13 0 (tokF (rB S x) (pI S 1228 x).toInt.toNat 0)).length : Int)) → (lv_has ls 5 [(4, .int (i4_112)), (3, .int (i3_22)), (0, .ref x), (1, .int (a1))]) → W p l e ({ frames := 8, cells := 0, slots := 0, locals := 384 }) s m [.ref x, .int (a1)].toArray below meth c H locs 0 0 QQ (F0 m 165 ls []) := by
          intro n
          induction n using Nat.strongRecOn with
          | ind n ih_L_111 =>
          intro T_113 H locs ls i4_112 i4_112_z hn hw hz_i4_112 hr_i4_112 ha_x_L_114 hO_T_113 iv_115 iv_116 iv_117 iv_118 iv_119 hl
          have rg_120 : (-2147483648) ≤ i4_112_z ∧ i4_112_z ≤ 2147483647 := by rw [← hz_i4_112]; exact ⟨z_lo _, z_hi _⟩
          obtain ⟨v_121, ev_121⟩ : ∃ v, pI T_113 1228 x = v := ⟨_, rfl⟩
          have rg_122 := gI_12_1228 hO_T_113.1 ha_x_L_114; rw [ev_121] at rg_122
          have pz_123 : (pI T_113 1228 x).toInt = v_121.toInt := by rw [ev_121]
          have pz_124 : (pI T_113 1228 x).toInt = v_121.toInt := (congrArg Int32.toInt ev_121).trans rfl
          refine lv_iload X.1 X.2.1 dX12_program_165 (lv_at hl 0 rfl) ?_
          refine lv_iconst (v := 4) X.1 X.2.1 dX12_program_167 (by decide) ?_
          refine lv_icmp_ge (tgt := 267) X.1 X.2.1 dX12_program_168 (by decide) (fun c_125 => ?_) (fun c_125 => ?_)
          · have z_b_126 := trivial
            have k_127 : i4_112_z ≥ 4 := z_le ti_4 hz_i4_112 c_125
            obtain ⟨x_128, ex_128⟩ : ∃ y : Int32, y = i3_22 + 1 := ⟨_, rfl⟩
            have z_129 : x_128.toInt = i3_22_z + 1 := z_add ex_128 hz_i3_22 ti_1 (by omega) (by omega)
            refine lv_iinc (v := x_128) (lv' := [(3, .int (x_128)), (4, .int (i4_112)), (0, .ref x), (1, .int (a1))]) X.1 X.2.1 dX12_program_267 hl (k := 1) rfl (by rw [ex_128]; rfl) (by decide) rfl (fun ls hl => ?_)
            refine lv_goto (tgt := 96) X.1 X.2.1 dX12_program_270 (by decide) ?_
            have pz_130 : (pI T_113 1228 x).toInt = v_121.toInt := (congrArg Int32.toInt ev_121).trans rfl
            have pz_131 : (pI T_113 1228 x).toInt = v_121.toInt := (congrArg Int32.toInt ev_121).trans rfl
            exact ih_L_21 _ (by omega) _ _ _ _ (x_128) (x_128.toInt) rfl hw rfl (by omega) ha_x_L_114 hO_T_113 (by omega) iv_116 (by rw [show (x_128.toInt).toNat = (i3_22_z).toNat + 1 by omega]; exact CpI_s hO_T_113.1 ha_x_L_114 (by have h := iv_117; rw [show (i4_112_z).toNat = 4 by omega] at h; exact h)) iv_118 iv_119 (lv_sub hl [0, 2, 3] rfl)
          · have z_b_132 := trivial
            have k_133 : i4_112_z < 4 := z_nle ti_4 hz_i4_112 c_125
            refine lv_aload_n X.1 X.2.1 dX12_program_171 rfl (lv_at hl 2 rfl) ?_
            obtain ⟨q_134, h_135, h_136, h_137⟩ := gQ_12_1224 hO_T_113.1 ha_x_L_114
            refine r_getR (g := 1224) X hw ha_x_L_114 rfl 24 h_135 (by decide) rfl inn_X12_program_12 (by decide) (X.2.2.2.1 (.fieldLink RX12 73 "SilkMillModel" "field" "[I") (by decide +kernel)) rfl (gv_1224 _ _) dX12_program_172 ?_
            refine lv_iconst (v := 4) X.1 X.2.1 dX12_program_175 (by decide) ?_
            refine lv_bipush (v := 12) X.1 X.2.1 dX12_program_176 (by decide) ?_
            refine lv_iload_n X.1 X.2.1 dX12_program_178 rfl (lv_at hl 3 rfl) ?_
            refine lv_imul X.1 X.2.1 dX12_program_179 ?_
            refine lv_topi (fun v_138 ev_138 => ?_)
            have z_139 : v_138.toInt = 12 * a1_z := z_mul ev_138 ti_12 hz_a1 (by omega) (by omega)
            refine lv_iload_n X.1 X.2.1 dX12_program_180 rfl (lv_at hl 1 rfl) ?_
            refine lv_iadd X.1 X.2.1 dX12_program_181 ?_
            refine lv_topi (fun v_140 ev_140 => ?_)
            have z_141 : v_140.toInt = (12 * a1_z) + i3_22_z := z_add ev_140 z_139 hz_i3_22 (by omega) (by omega)
            refine lv_imul X.1 X.2.1 dX12_program_182 ?_
            refine lv_topi (fun v_142 ev_142 => ?_)
            have z_143 : v_142.toInt = 4 * ((12 * a1_z) + i3_22_z) := z_mul ev_142 ti_4 z_141 (by omega) (by omega)
            refine lv_iload X.1 X.2.1 dX12_program_183 (lv_at hl 0 rfl) ?_
            refine lv_iadd X.1 X.2.1 dX12_program_185 ?_
            refine lv_topi (fun v_144 ev_144 => ?_)
            have z_145 : v_144.toInt = (4 * ((12 * a1_z) + i3_22_z)) + i4_112_z := z_add ev_144 z_143 hz_i4_112 (by omega) (by omega)
            refine lv_aload_n X.1 X.2.1 dX12_program_186 rfl (lv_at hl 2 rfl) ?_
            refine r_getR (g := 1224) X hw ha_x_L_114 rfl 24 h_135 (by decide) rfl inn_X12_program_12 (by decide) (X.2.2.2.1 (.fieldLink RX12 73 "SilkMillModel" "field" "[I") (by decide +kernel)) rfl (gv_1224 _ _) dX12_program_187 ?_
            refine lv_iconst (v := 4) X.1 X.2.1 dX12_program_190 (by decide) ?_
            refine lv_bipush (v := 48) X.1 X.2.1 dX12_program_191 (by decide) ?_
            refine lv_iload_n X.1 X.2.1 dX12_program_193 rfl (lv_at hl 1 rfl) ?_
            refine lv_iadd X.1 X.2.1 dX12_program_194 ?_
            refine lv_topi (fun v_146 ev_146 => ?_)
            have z_147 : v_146.toInt = 48 + i3_22_z := z_add ev_146 ti_48 hz_i3_22 (by omega) (by omega)
            refine lv_imul X.1 X.2.1 dX12_program_195 ?_
            refine lv_topi (fun v_148 ev_148 => ?_)
            have z_149 : v_148.toInt = 4 * (48 + i3_22_z) := z_mul ev_148 ti_4 z_147 (by omega) (by omega)
            refine lv_iload X.1 X.2.1 dX12_program_196 (lv_at hl 0 rfl) ?_
            refine lv_iadd X.1 X.2.1 dX12_program_198 ?_
            refine lv_topi (fun v_150 ev_150 => ?_)
            have z_151 : v_150.toInt = (4 * (48 + i3_22_z)) + i4_112_z := z_add ev_150 z_149 hz_i4_112 (by omega) (by omega)
            refine r_iald X hw h_136 rfl (by rw [h_137]; exact z_ix z_151 (by omega) (by omega)) dX12_program_199 ?_
            refine lv_topi (fun v_152 ev_152 => ?_)
            have rg_153 := And.intro (z_lo v_152) (z_hi v_152)
            have ev_152 := ev_152.symm
            have zf_154 : zA T_113 x 1224 (((4 * (48 + i3_22_z)) + i4_112_z)).toNat = v_152.toInt := (zA_of h_135 z_151 (by omega) ev_152)
            refine r_iast X hw h_136 rfl (by rw [h_137]; exact z_ix z_145 (by omega) (by omega)) dX12_program_200 (fun H locs hw => ?_)
            obtain ⟨S_155, eS_155⟩ : ∃ T, T = sA T_113 q_134 (upd (pA T_113 q_134) (Int32.toNatClampNeg (v_144)) (v_152)) := ⟨_, rfl⟩
            rw [← eS_155] at hw
            have hO_156 : Ok MPr S S_155 := hO_T_113.sA eS_155 h_136 (by decide +kernel) (uA_694 hO_T_113.1 h_136)
            have h_157 : pA S_155 q_134 (Int32.toNatClampNeg (v_144)) = v_152 := tA_sAs eS_155
            have t_158 : pR S_155 1224 x = some q_134 := tR_sA eS_155 h_135
            have t_160 : pR T_113 1224 x = some q_134 := by have h := t_158; rw [eS_155, pR_sA] at h; exact h
            have zs_159 : ∀ j, zA S_155 x 1224 j = if j = (((4 * ((12 * a1_z) + i3_22_z)) + i4_112_z)).toNat then v_152.toInt else zA T_113 x 1224 j := by have h := zA_sAs eS_155 t_160 rfl; rw [z_nc z_145 (by omega)] at h; exact h
            have ce_161 : CeX T_113 S_155 x 1224 (((4 * ((12 * a1_z) + i3_22_z)) + i4_112_z)).toNat (v_152.toInt) := CeX_mk hO_T_113.1 ha_x_L_114 eS_155 h_136 (by decide) zs_159
            clear z_139
            clear z_141
            clear z_143
            clear z_145
            clear z_147
            clear z_149
            clear z_151
            refine lv_aload_n X.1 X.2.1 dX12_program_201 rfl (lv_at hl 2 rfl) ?_
            have t_162 : At S_155 x 12 := tAt_sA eS_155 ha_x_L_114
            obtain ⟨q_163, h_164, h_165, h_166⟩ := gQ_12_1225 hO_156.1 t_162
            refine r_getR (g := 1225) X hw t_162 rfl 25 h_164 (by decide) rfl inn_X12_program_12 (by decide) (X.2.2.2.1 (.fieldLink RX12 76 "SilkMillModel" "rel" "[I") (by decide +kernel)) rfl (gv_1225 _ _) dX12_program_202 ?_
            refine lv_iconst (v := 4) X.1 X.2.1 dX12_program_205 (by decide) ?_
            refine lv_bipush (v := 12) X.1 X.2.1 dX12_program_206 (by decide) ?_
            refine lv_iload_n X.1 X.2.1 dX12_program_208 rfl (lv_at hl 3 rfl) ?_
            refine lv_imul X.1 X.2.1 dX12_program_209 ?_
            refine lv_topi (fun v_167 ev_167 => ?_)
            have z_168 : v_167.toInt = 12 * a1_z := z_mul ev_167 ti_12 hz_a1 (by omega) (by omega)
            refine lv_iload_n X.1 X.2.1 dX12_program_210 rfl (lv_at hl 1 rfl) ?_
            refine lv_iadd X.1 X.2.1 dX12_program_211 ?_
            refine lv_topi (fun v_169 ev_169 => ?_)
            have z_170 : v_169.toInt = (12 * a1_z) + i3_22_z := z_add ev_169 z_168 hz_i3_22 (by omega) (by omega)
            refine lv_imul X.1 X.2.1 dX12_program_212 ?_
            refine lv_topi (fun v_171 ev_171 => ?_)
            have z_172 : v_171.toInt = 4 * ((12 * a1_z) + i3_22_z) := z_mul ev_171 ti_4 z_170 (by omega) (by omega)
            refine lv_iload X.1 X.2.1 dX12_program_213 (lv_at hl 0 rfl) ?_
            refine lv_iadd X.1 X.2.1 dX12_program_215 ?_
            refine lv_topi (fun v_173 ev_173 => ?_)
            have z_174 : v_173.toInt = (4 * ((12 * a1_z) + i3_22_z)) + i4_112_z := z_add ev_173 z_172 hz_i4_112 (by omega) (by omega)
            refine lv_aload_n X.1 X.2.1 dX12_program_216 rfl (lv_at hl 2 rfl) ?_
            refine r_getR (g := 1225) X hw t_162 rfl 25 h_164 (by decide) rfl inn_X12_program_12 (by decide) (X.2.2.2.1 (.fieldLink RX12 76 "SilkMillModel" "rel" "[I") (by decide +kernel)) rfl (gv_1225 _ _) dX12_program_217 ?_
            refine lv_iconst (v := 4) X.1 X.2.1 dX12_program_220 (by decide) ?_
            refine lv_bipush (v := 48) X.1 X.2.1 dX12_program_221 (by decide) ?_
            refine lv_iload_n X.1 X.2.1 dX12_program_223 rfl (lv_at hl 1 rfl) ?_
            refine lv_iadd X.1 X.2.1 dX12_program_224 ?_
            refine lv_topi (fun v_175 ev_175 => ?_)
            have z_176 : v_175.toInt = 48 + i3_22_z := z_add ev_175 ti_48 hz_i3_22 (by omega) (by omega)
            refine lv_imul X.1 X.2.1 dX12_program_225 ?_
            refine lv_topi (fun v_177 ev_177 => ?_)
            have z_178 : v_177.toInt = 4 * (48 + i3_22_z) := z_mul ev_177 ti_4 z_176 (by omega) (by omega)
            refine lv_iload X.1 X.2.1 dX12_program_226 (lv_at hl 0 rfl) ?_
            refine lv_iadd X.1 X.2.1 dX12_program_228 ?_
            refine lv_topi (fun v_179 ev_179 => ?_)
            have z_180 : v_179.toInt = (4 * (48 + i3_22_z)) + i4_112_z := z_add ev_179 z_178 hz_i4_112 (by omega) (by omega)
            refine r_iald X hw h_165 rfl (by rw [h_166]; exact z_ix z_180 (by omega) (by omega)) dX12_program_229 ?_
            refine lv_topi (fun v_181 ev_181 => ?_)
            have rg_182 := And.intro (z_lo v_181) (z_hi v_181)
            have ev_181 := ev_181.symm
            have zf_183 : zA S_155 x 1225 (((4 * (48 + i3_22_z)) + i4_112_z)).toNat = v_181.toInt := (zA_of h_164 z_180 (by omega) ev_181)
            refine r_iast X hw h_165 rfl (by rw [h_166]; exact z_ix z_174 (by omega) (by omega)) dX12_program_230 (fun H locs hw => ?_)
            obtain ⟨S_184, eS_184⟩ : ∃ T, T = sA S_155 q_163 (upd (pA S_155 q_163) (Int32.toNatClampNeg (v_173)) (v_181)) := ⟨_, rfl⟩
            rw [← eS_184] at hw
            have hO_185 : Ok MPr S S_184 := hO_156.sA eS_184 h_165 (by decide +kernel) (uA_714 hO_156.1 h_165)
            have h_186 : pA S_184 q_163 (Int32.toNatClampNeg (v_173)) = v_181 := tA_sAs eS_184
            have t_187 : pR S_184 1225 x = some q_163 := tR_sA eS_184 h_164
            have t_189 : pR S_155 1225 x = some q_163 := by have h := t_187; rw [eS_184, pR_sA] at h; exact h
            have zs_188 : ∀ j, zA S_184 x 1225 j = if j = (((4 * ((12 * a1_z) + i3_22_z)) + i4_112_z)).toNat then v_181.toInt else zA S_155 x 1225 j := by have h := zA_sAs eS_184 t_189 rfl; rw [z_nc z_174 (by omega)] at h; exact h
            have ce_190 : CeX S_155 S_184 x 1225 (((4 * ((12 * a1_z) + i3_22_z)) + i4_112_z)).toNat (v_181.toInt) := CeX_mk hO_156.1 t_162 eS_184 h_165 (by decide) zs_188
            clear z_168
            clear z_170
            clear z_172
            clear z_174
            clear z_176
            clear z_178
            clear z_180
            refine lv_aload_n X.1 X.2.1 dX12_program_231 rfl (lv_at hl 2 rfl) ?_
            have t_191 : At S_184 x 12 := tAt_sA eS_184 t_162
            obtain ⟨q_192, h_193, h_194, h_195⟩ := gQ_12_1226 hO_185.1 t_191
            refine r_getR (g := 1226) X hw t_191 rfl 26 h_193 (by decide) rfl inn_X12_program_12 (by decide) (X.2.2.2.1 (.fieldLink RX12 79 "SilkMillModel" "than" "[I") (by decide +kernel)) rfl (gv_1226 _ _) dX12_program_232 ?_
            refine lv_iconst (v := 4) X.1 X.2.1 dX12_program_235 (by decide) ?_
            refine lv_bipush (v := 12) X.1 X.2.1 dX12_program_236 (by decide) ?_
            refine lv_iload_n X.1 X.2.1 dX12_program_238 rfl (lv_at hl 3 rfl) ?_
            refine lv_imul X.1 X.2.1 dX12_program_239 ?_
            refine lv_topi (fun v_196 ev_196 => ?_)
            have z_197 : v_196.toInt = 12 * a1_z := z_mul ev_196 ti_12 hz_a1 (by omega) (by omega)
            refine lv_iload_n X.1 X.2.1 dX12_program_240 rfl (lv_at hl 1 rfl) ?_
            refine lv_iadd X.1 X.2.1 dX12_program_241 ?_
            refine lv_topi (fun v_198 ev_198 => ?_)
            have z_199 : v_198.toInt = (12 * a1_z) + i3_22_z := z_add ev_198 z_197 hz_i3_22 (by omega) (by omega)
            refine lv_imul X.1 X.2.1 dX12_program_242 ?_
            refine lv_topi (fun v_200 ev_200 => ?_)
            have z_201 : v_200.toInt = 4 * ((12 * a1_z) + i3_22_z) := z_mul ev_200 ti_4 z_199 (by omega) (by omega)
            refine lv_iload X.1 X.2.1 dX12_program_243 (lv_at hl 0 rfl) ?_
            refine lv_iadd X.1 X.2.1 dX12_program_245 ?_
            refine lv_topi (fun v_202 ev_202 => ?_)
            have z_203 : v_202.toInt = (4 * ((12 * a1_z) + i3_22_z)) + i4_112_z := z_add ev_202 z_201 hz_i4_112 (by omega) (by omega)
            refine lv_aload_n X.1 X.2.1 dX12_program_246 rfl (lv_at hl 2 rfl) ?_
            refine r_getR (g := 1226) X hw t_191 rfl 26 h_193 (by decide) rfl inn_X12_program_12 (by decide) (X.2.2.2.1 (.fieldLink RX12 79 "SilkMillModel" "than" "[I") (by decide +kernel)) rfl (gv_1226 _ _) dX12_program_247 ?_
            refine lv_iconst (v := 4) X.1 X.2.1 dX12_program_250 (by decide) ?_
            refine lv_bipush (v := 48) X.1 X.2.1 dX12_program_251 (by decide) ?_
            refine lv_iload_n X.1 X.2.1 dX12_program_253 rfl (lv_at hl 1 rfl) ?_
            refine lv_iadd X.1 X.2.1 dX12_program_254 ?_
            refine lv_topi (fun v_204 ev_204 => ?_)
            have z_205 : v_204.toInt = 48 + i3_22_z := z_add ev_204 ti_48 hz_i3_22 (by omega) (by omega)
            refine lv_imul X.1 X.2.1 dX12_program_255 ?_
            refine lv_topi (fun v_206 ev_206 => ?_)
            have z_207 : v_206.toInt = 4 * (48 + i3_22_z) := z_mul ev_206 ti_4 z_205 (by omega) (by omega)
            refine lv_iload X.1 X.2.1 dX12_program_256 (lv_at hl 0 rfl) ?_
            refine lv_iadd X.1 X.2.1 dX12_program_258 ?_
            refine lv_topi (fun v_208 ev_208 => ?_)
            have z_209 : v_208.toInt = (4 * (48 + i3_22_z)) + i4_112_z := z_add ev_208 z_207 hz_i4_112 (by omega) (by omega)
            refine r_iald X hw h_194 rfl (by rw [h_195]; exact z_ix z_209 (by omega) (by omega)) dX12_program_259 ?_
            refine lv_topi (fun v_210 ev_210 => ?_)
            have rg_211 := And.intro (z_lo v_210) (z_hi v_210)
            have ev_210 := ev_210.symm
            have zf_212 : zA S_184 x 1226 (((4 * (48 + i3_22_z)) + i4_112_z)).toNat = v_210.toInt := (zA_of h_193 z_209 (by omega) ev_210)
            refine r_iast X hw h_194 rfl (by rw [h_195]; exact z_ix z_203 (by omega) (by omega)) dX12_program_260 (fun H locs hw => ?_)
            obtain ⟨S_213, eS_213⟩ : ∃ T, T = sA S_184 q_192 (upd (pA S_184 q_192) (Int32.toNatClampNeg (v_202)) (v_210)) := ⟨_, rfl⟩
            rw [← eS_213] at hw
            have hO_214 : Ok MPr S S_213 := hO_185.sA eS_213 h_194 (by decide +kernel) (uA_734 hO_185.1 h_194)
            have h_215 : pA S_213 q_192 (Int32.toNatClampNeg (v_202)) = v_210 := tA_sAs eS_213
            have t_216 : pR S_213 1226 x = some q_192 := tR_sA eS_213 h_193
            have t_218 : pR S_184 1226 x = some q_192 := by have h := t_216; rw [eS_213, pR_sA] at h; exact h
            have zs_217 : ∀ j, zA S_213 x 1226 j = if j = (((4 * ((12 * a1_z) + i3_22_z)) + i4_112_z)).toNat then v_210.toInt else zA S_184 x 1226 j := by have h := zA_sAs eS_213 t_218 rfl; rw [z_nc z_203 (by omega)] at h; exact h
            have ce_219 : CeX S_184 S_213 x 1226 (((4 * ((12 * a1_z) + i3_22_z)) + i4_112_z)).toNat (v_210.toInt) := CeX_mk hO_185.1 t_191 eS_213 h_194 (by decide) zs_217
            clear z_197
            clear z_199
            clear z_201
            clear z_203
            clear z_205
            clear z_207
            clear z_209
            obtain ⟨x_220, ex_220⟩ : ∃ y : Int32, y = i4_112 + 1 := ⟨_, rfl⟩
            have z_221 : x_220.toInt = i4_112_z + 1 := z_add ex_220 hz_i4_112 ti_1 (by omega) (by omega)
            refine lv_iinc (v := x_220) (lv' := [(4, .int (x_220)), (3, .int (i3_22)), (0, .ref x), (1, .int (a1))]) X.1 X.2.1 dX12_program_261 hl (k := 0) rfl (by rw [ex_220]; rfl) (by decide) rfl (fun ls hl => ?_)
            refine lv_goto (tgt := 165) X.1 X.2.1 dX12_program_264 (by decide) ?_
            have t_222 : pI S_155 1228 x = v_121 := tI_sA eS_155 ev_121
            have t_223 : pI S_184 1228 x = v_121 := tI_sA eS_184 t_222
            have t_224 : pI S_213 1228 x = v_121 := tI_sA eS_213 t_223
            have pz_225 : (pI S_213 1228 x).toInt = v_121.toInt := (congrArg Int32.toInt t_224).trans rfl
            have t_226 : At S_213 x 12 := tAt_sA eS_213 t_191
            have pz_227 : (pI S_213 1228 x).toInt = v_121.toInt := (congrArg Int32.toInt t_224).trans rfl
            have zc_228 : zA S_155 x 1220 = zA T_113 x 1220 := zA_sAn eS_155 (ex3 (gQ_12_1220 hO_T_113.1 ha_x_L_114)) h_136 rfl
            have zc_229 : zA S_184 x 1220 = zA T_113 x 1220 := (zA_sAn eS_184 (ex3 (gQ_12_1220 hO_156.1 t_162)) h_165 rfl).trans zc_228
            have zc_230 : zA S_213 x 1220 = zA T_113 x 1220 := (zA_sAn eS_213 (ex3 (gQ_12_1220 hO_185.1 t_191)) h_194 rfl).trans zc_229
            have cq_231 : CeX T_113 S_155 x 1224 (4 * (12 * a1_z.toNat + (i3_22_z).toNat) + (i4_112_z).toNat) (v_152.toInt) := by have h := ce_161; rw [show (((4 * ((12 * a1_z) + i3_22_z)) + i4_112_z)).toNat = 4 * (12 * a1_z.toNat + (i3_22_z).toNat) + (i4_112_z).toNat by omega] at h; exact h
            have cq_232 : CeX S_155 S_184 x 1225 (4 * (12 * a1_z.toNat + (i3_22_z).toNat) + (i4_112_z).toNat) (v_181.toInt) := by have h := ce_190; rw [show (((4 * ((12 * a1_z) + i3_22_z)) + i4_112_z)).toNat = 4 * (12 * a1_z.toNat + (i3_22_z).toNat) + (i4_112_z).toNat by omega] at h; exact h
            have cq_233 : CeX S_184 S_213 x 1226 (4 * (12 * a1_z.toNat + (i3_22_z).toNat) + (i4_112_z).toNat) (v_210.toInt) := by have h := ce_219; rw [show (((4 * ((12 * a1_z) + i3_22_z)) + i4_112_z)).toNat = 4 * (12 * a1_z.toNat + (i3_22_z).toNat) + (i4_112_z).toNat by omega] at h; exact h
            have zt_234 : zA S_155 x 1220 = zA T_113 x 1220 := (zA_sAn eS_155 (ex3 (gQ_12_1220 hO_T_113.1 ha_x_L_114)) h_136 rfl)
            have zt_236 : zA S_184 x 1220 = zA S_155 x 1220 := (zA_sAn eS_184 (ex3 (gQ_12_1220 hO_156.1 t_162)) h_165 rfl)
            have zt_237 := zt_236.trans zt_234
            have zt_238 : zA S_213 x 1220 = zA S_184 x 1220 := (zA_sAn eS_213 (ex3 (gQ_12_1220 hO_185.1 t_191)) h_194 rfl)
            have zt_239 := zt_238.trans zt_237
            have zt_240 : zA S_155 x 1220 = zA T_113 x 1220 := (zA_sAn eS_155 (ex3 (gQ_12_1220 hO_T_113.1 ha_x_L_114)) h_136 rfl)
            have zt_242 : zA S_184 x 1220 = zA S_155 x 1220 := (zA_sAn eS_184 (ex3 (gQ_12_1220 hO_156.1 t_162)) h_165 rfl)
            have zt_243 := zt_242.trans zt_240
            have zt_244 : zA S_213 x 1220 = zA S_184 x 1220 := (zA_sAn eS_213 (ex3 (gQ_12_1220 hO_185.1 t_191)) h_194 rfl)
            have zt_245 := zt_244.trans zt_243
            exact ih_L_111 _ (by omega) _ _ _ _ (x_220) (x_220.toInt) rfl hw rfl (by omega) t_226 hO_214 (by omega) (by rw [zc_230]; exact iv_116) (by rw [show (x_220.toInt).toNat = (i4_112_z).toNat + 1 by omega]; exact CpI_n hO_T_113.1 ha_x_L_114 hO_156.1 t_162 hO_185.1 t_191 (by omega) (by omega) (by omega) iv_117 cq_231 cq_232 cq_233 (by rw [show 4 * (48 + (i3_22_z).toNat) + (i4_112_z).toNat = (((4 * (48 + i3_22_z)) + i4_112_z)).toNat by omega]; exact zf_154.symm) (by rw [show 4 * (48 + (i3_22_z).toNat) + (i4_112_z).toNat = (((4 * (48 + i3_22_z)) + i4_112_z)).toNat by omega]; exact zf_183.symm) (by rw [show 4 * (48 + (i3_22_z).toNat) + (i4_112_z).toNat = (((4 * (48 + i3_22_z)) + i4_112_z)).toNat by omega]; exact zf_212.symm)) (fun j hj hn => by rw [zt_239]; exact iv_118 j hj hn) (by rw [zt_245]; exact iv_119) (lv_sub hl [0, 1, 2, 3] rfl)
        have t_246 : pI S_62 1228 x = v_31 := tI_sA eS_62 ev_31
        have t_247 : pI S_83 1228 x = v_31 := tI_sA eS_83 t_246
        have t_248 : pI S_104 1228 x = v_31 := tI_sA eS_104 t_247
        have pz_249 : (pI S_104 1228 x).toInt = v_31.toInt := (congrArg Int32.toInt t_248).trans rfl
        have t_250 : At S_104 x 12 := tAt_sA eS_104 t_90
        have pz_251 : (pI S_104 1228 x).toInt = v_31.toInt := (congrArg Int32.toInt t_248).trans rfl
        have zc_252 : zA S_62 x 1220 = zA T_23 x 1220 := zA_sAn eS_62 (ex3 (gQ_12_1220 hO_T_23.1 ha_x_L_24)) h_51 rfl
        have zc_253 : zA S_83 x 1220 = zA T_23 x 1220 := (zA_sAn eS_83 (ex3 (gQ_12_1220 hO_63.1 t_69)) h_72 rfl).trans zc_252
        have zc_254 : zA S_104 x 1220 = zA T_23 x 1220 := (zA_sAn eS_104 (ex3 (gQ_12_1220 hO_84.1 t_90)) h_93 rfl).trans zc_253
        have cq_255 : CeX T_23 S_62 x 1221 (12 * a1_z.toNat + (i3_22_z).toNat) (v_59.toInt) := by have h := ce_68; rw [show (((12 * a1_z) + i3_22_z)).toNat = 12 * a1_z.toNat + (i3_22_z).toNat by omega] at h; exact h
        have cq_256 : CeX S_62 S_83 x 1222 (12 * a1_z.toNat + (i3_22_z).toNat) (v_80.toInt) := by have h := ce_89; rw [show (((12 * a1_z) + i3_22_z)).toNat = 12 * a1_z.toNat + (i3_22_z).toNat by omega] at h; exact h
        have cq_257 : CeX S_83 S_104 x 1223 (12 * a1_z.toNat + (i3_22_z).toNat) (v_101.toInt) := by have h := ce_110; rw [show (((12 * a1_z) + i3_22_z)).toNat = 12 * a1_z.toNat + (i3_22_z).toNat by omega] at h; exact h
        have zt_258 : zA S_62 x 1220 = zA T_23 x 1220 := (zA_sAn eS_62 (ex3 (gQ_12_1220 hO_T_23.1 ha_x_L_24)) h_51 rfl)
        have zt_260 : zA S_83 x 1220 = zA S_62 x 1220 := (zA_sAn eS_83 (ex3 (gQ_12_1220 hO_63.1 t_69)) h_72 rfl)
        have zt_261 := zt_260.trans zt_258
        have zt_262 : zA S_104 x 1220 = zA S_83 x 1220 := (zA_sAn eS_104 (ex3 (gQ_12_1220 hO_84.1 t_90)) h_93 rfl)
        have zt_263 := zt_262.trans zt_261
        have zt_264 : zA S_62 x 1220 = zA T_23 x 1220 := (zA_sAn eS_62 (ex3 (gQ_12_1220 hO_T_23.1 ha_x_L_24)) h_51 rfl)
        have zt_266 : zA S_83 x 1220 = zA S_62 x 1220 := (zA_sAn eS_83 (ex3 (gQ_12_1220 hO_63.1 t_69)) h_72 rfl)
        have zt_267 := zt_266.trans zt_264
        have zt_268 : zA S_104 x 1220 = zA S_83 x 1220 := (zA_sAn eS_104 (ex3 (gQ_12_1220 hO_84.1 t_90)) h_93 rfl)
        have zt_269 := zt_268.trans zt_267
        exact L_111 _ _ _ _ _ (0) (0) rfl hw ti_0 (by omega) t_250 hO_105 (by omega) (by rw [zc_254]; exact iv_26) (CpI_h hO_T_23.1 ha_x_L_24 hO_63.1 t_69 hO_84.1 t_90 (by omega) (by omega) iv_27 cq_255 cq_256 cq_257 (by rw [show 48 + (i3_22_z).toNat = ((48 + i3_22_z)).toNat by omega]; exact zf_61.symm) (by rw [show 48 + (i3_22_z).toNat = ((48 + i3_22_z)).toNat by omega]; exact zf_82.symm) (by rw [show 48 + (i3_22_z).toNat = ((48 + i3_22_z)).toNat by omega]; exact zf_103.symm)) (fun j hj hn => by rw [zt_263]; exact iv_28 j hj hn) (by rw [zt_269]; exact iv_29) (lv_sub hl [0, 1, 2, 3] rfl)
    refine lv_aload_n X.1 X.2.1 dX12_program_15 rfl (lv_at hl 0 rfl) ?_
    refine lv_iconst (v := 0) X.1 X.2.1 dX12_program_16 (by decide) ?_
    refine r_putI (v := 0) X hw t_14 rfl 30 1230 tyX12 (by decide) rfl inn_X12_program_12 tyX12_ok nmX12 (by decide) (X.2.2.2.1 (.fieldLink RX12 229 "SilkMillModel" "faultKind" "I") (by decide +kernel)) rfl (Or.inl rfl) rfl rfl (Nat.le_of_ble_eq_true rfl) (st_1230 _ _) dX12_program_17 (fun H locs hw => ?_)
    obtain ⟨S_270, eS_270⟩ : ∃ T, T = sI S_9 1230 x (0) := ⟨_, rfl⟩
    rw [← eS_270] at hw
    have hO_271 : Ok MPr S S_270 := hO_10.sI eS_270 (by decide +kernel) (uI_12_1230 hO_10.1 t_14)
    have h_272 : pI S_270 1230 x = 0 := tI_sIs eS_270
    refine lv_aload_n X.1 X.2.1 dX12_program_20 rfl (lv_at hl 0 rfl) ?_
    refine lv_iconst (v := (-1)) X.1 X.2.1 dX12_program_21 (by decide) ?_
    have t_273 : At S_270 x 12 := tAt_sI eS_270 t_14
    refine r_putI (v := (-1)) X hw t_273 rfl 29 1229 tyX12 (by decide) rfl inn_X12_program_12 tyX12_ok nmX12 (by decide) (X.2.2.2.1 (.fieldLink RX12 86 "SilkMillModel" "faultPlace" "I") (by decide +kernel)) rfl (Or.inl rfl) rfl rfl (Nat.le_of_ble_eq_true rfl) (st_1229 _ _) dX12_program_22 (fun H locs hw => ?_)
    obtain ⟨S_274, eS_274⟩ : ∃ T, T = sI S_270 1229 x ((-1)) := ⟨_, rfl⟩
    rw [← eS_274] at hw
    have hO_275 : Ok MPr S S_274 := hO_271.sI eS_274 (by decide +kernel) (uI_12_1229 hO_271.1 t_273)
    have h_276 : pI S_274 1229 x = (-1) := tI_sIs eS_274
    refine lv_aload_n X.1 X.2.1 dX12_program_25 rfl (lv_at hl 0 rfl) ?_
    have t_277 : At S_274 x 12 := tAt_sI eS_274 t_273
    obtain ⟨q_278, h_279, h_280, h_281⟩ := gQ_12_1220 hO_275.1 t_277
    refine r_getR (g := 1220) X hw t_277 rfl 20 h_279 (by decide) rfl inn_X12_program_12 (by decide) (X.2.2.2.1 (.fieldLink RX12 61 "SilkMillModel" "rules" "[I") (by decide +kernel)) rfl (gv_1220 _ _) dX12_program_26 ?_
    refine lv_iconst (v := 4) X.1 X.2.1 dX12_program_29 (by decide) ?_
    refine lv_iconst (v := 0) X.1 X.2.1 dX12_program_30 (by decide) ?_
    refine r_iast X hw h_280 rfl (by rw [h_281]; exact z_ix ti_4 (by omega) (by omega)) dX12_program_31 (fun H locs hw => ?_)
    obtain ⟨S_282, eS_282⟩ : ∃ T, T = sA S_274 q_278 (upd (pA S_274 q_278) (Int32.toNatClampNeg (4)) (0)) := ⟨_, rfl⟩
    rw [← eS_282] at hw
    have hO_283 : Ok MPr S S_282 := hO_275.sA eS_282 h_280 (by decide +kernel) (uA_614 hO_275.1 h_280 (by rw [ti_0]; omega) (by rw [ti_0]; omega))
    have h_284 : pA S_282 q_278 (Int32.toNatClampNeg (4)) = 0 := tA_sAs eS_282
    have t_285 : pR S_282 1220 x = some q_278 := tR_sA eS_282 h_279
    have t_287 : pR S_274 1220 x = some q_278 := by have h := t_285; rw [eS_282, pR_sA] at h; exact h
    have zs_286 : ∀ j, zA S_282 x 1220 j = if j = (4 : Int).toNat then 0 else zA S_274 x 1220 j := by have h := zA_sAs eS_282 t_287 ti_0; rw [z_nc ti_4 (by omega)] at h; exact h
    have zs_288 : zA S_282 x 1220 4 = 0 := by have h := zs_286 4; rw [if_pos (by decide)] at h; exact h
    have t_290 : pR S_274 1220 x = some q_278 := by have h := t_285; rw [eS_282, pR_sA] at h; exact h
    have zs_289 : ∀ j, zA S_282 x 1220 j = if j = (4 : Int).toNat then 0 else zA S_274 x 1220 j := by have h := zA_sAs eS_282 t_290 ti_0; rw [z_nc ti_4 (by omega)] at h; exact h
    refine lv_aload_n X.1 X.2.1 dX12_program_32 rfl (lv_at hl 0 rfl) ?_
    refine lv_iconst (v := 0) X.1 X.2.1 dX12_program_33 (by decide) ?_
    have t_291 : At S_282 x 12 := tAt_sA eS_282 t_277
    refine r_putI (v := 0) X hw t_291 rfl 33 1233 tyX12 (by decide) rfl inn_X12_program_12 tyX12_ok nmX12 (by decide) (X.2.2.2.1 (.fieldLink RX12 214 "SilkMillModel" "to" "I") (by decide +kernel)) rfl (Or.inl rfl) rfl rfl (Nat.le_of_ble_eq_true rfl) (st_1233 _ _) dX12_program_34 (fun H locs hw => ?_)
    obtain ⟨S_292, eS_292⟩ : ∃ T, T = sI S_282 1233 x (0) := ⟨_, rfl⟩
    rw [← eS_292] at hw
    have hO_293 : Ok MPr S S_292 := hO_283.sI eS_292 (by decide +kernel) (uI_12_1233 hO_283.1 t_291 (by rw [ti_0]; omega) (by rw [ti_0]; omega))
    have h_294 : pI S_292 1233 x = 0 := tI_sIs eS_292
    refine lv_aload_n X.1 X.2.1 dX12_program_37 rfl (lv_at hl 0 rfl) ?_
    have t_295 : At S_292 x 12 := tAt_sI eS_292 t_291
    have t_296 : pI S_9 1228 x = v_1 := tI_sI eS_9 rfl ev_1
    have t_297 : pI S_270 1228 x = v_1 := tI_sI eS_270 rfl t_296
    have t_298 : pI S_274 1228 x = v_1 := tI_sI eS_274 rfl t_297
    have t_299 : pI S_282 1228 x = v_1 := tI_sA eS_282 t_298
    have t_300 : pI S_292 1228 x = v_1 := tI_sI eS_292 rfl t_299
    have pz_301 : (pI S_292 1233 x).toInt = 0 := (congrArg Int32.toInt h_294).trans ti_0
    refine k_v (rm := { frames := 2, cells := 0, slots := 0, locals := 96 }) (av := [.ref x]) X hw (va_runV (As := []) (rest := []) (cfix X) (k_X12_token2 l G cy κ S_292 _ x hO_293.1 t_295) (cwV 0 X.2.2.2.1 gX12_program_X12_token rfl rfl rfl (by decide +kernel) ⟨Nat.le_of_ble_eq_true rfl, Nat.le_of_ble_eq_true rfl⟩) (pre_V X hw _ t_295 rfl (by decide) rfl) rfl rfl hl.1 rfl (lv_room (Nat.le_of_ble_eq_true rfl)) dX12_program_38 ⟨Nat.le_of_ble_eq_true rfl, Nat.le_of_ble_eq_true rfl⟩) 0 0 (Nat.le_of_ble_eq_true rfl) (Nat.le_of_ble_eq_true rfl) (fun S_303 H locs hp hw hfr hnw => ?_)
    obtain ⟨hk_304, hp⟩ := hp
    have hO_305 : Ok MPr S S_303 := hO_293.call hk_304 (by decide +kernel)
    have rg_306 : RGB (rB S x) (pI S 1228 x).toInt.toNat S_303 x (tokF (rB S x) (pI S 1228 x).toInt.toNat 0) := RGB_0 (rB_fr2 hG ha_x hO_293.fr (by decide +kernel) (t_300.trans ev_1.symm)) (by rw [(t_300.trans ev_1.symm)]) (by omega) hp
    have ok_307 := hdI (RGB_ok hG ha_x rg_306)
    have ok_308 : ((tokF (rB S x) (pI S 1228 x).toInt.toNat 0)).2.1 ≤ ((tokF (rB S x) (pI S 1228 x).toInt.toNat 0)).2.2 ∧ ((tokF (rB S x) (pI S 1228 x).toInt.toNat 0)).2.2 ≤ 400 := ⟨(hdE ok_307).1, (hdE ok_307).2.1⟩
    refine lv_iconst (v := 1) X.1 X.2.1 dX12_program_41 (by decide) ?_
    refine lv_istore_n (lv' := [(2, .int 1), (0, .ref x), (1, .int (a1))]) X.1 X.2.1 dX12_program_42 rfl hl (by decide) rfl (fun ls hl => ?_)
    have t_317 : pI S_303 1228 x = v_1 := hk_304.fr.I' (by decide +kernel) t_295 t_300
    have L_309 : ∀ (n : Nat) (T_311 : PS) (H : Heap) (locs : List Loc) (ls : Array Slot) (i2_310 : Int32) (i2_310_z : Int), ((26 * i2_310_z + (13 - zA T_311 x 1220 4)).toNat = n) → (Wd G cy (AS S s.heap.size) s.heap T_311 H locs) → (i2_310.toInt = i2_310_z) → (0 ≤ i2_310_z ∧ i2_310_z ≤ 1) → (At T_311 x 12) → (Ok MPr S T_311) → ((zA T_311 x 1220 4 ≤ 12 ∧ 0 ≤ zA T_311 x 1220 4)) → (Hd (i2_310_z = 1 → ∃ t R, RGB (rB S x) (pI S 1228 x).toInt.toNat T_311 x t ∧ (pI T_311 1230 x).toInt = 0 ∧ prF (rB S x) (pI S 1228 x).toInt.toNat (13 - zA T_311 x 1220 4).toNat (zA T_311 x 1220 4).toNat t = prF (rB S x) (pI S 1228 x).toInt.toNat 13 0 (tokF (rB S x) (pI S 1228 x).toInt.toNat 0) ∧ RrIs T_311 x R ∧ zA T_311 x 1220 4 = (R.length : Int) ∧ R ++ prL (rB S x) (pI S 1228 x).toInt.toNat (13 - zA T_311 x 1220 4).toNat (zA T_311 x 1220 4).toNat t = prL (rB S x) (pI S 1228 x).toInt.toNat 13 0 (tokF (rB S x) (pI S 1228 x).toInt.toNat 0))) → ((i2_310_z = 0 → (prF (rB S x) (pI S 1228 x).toInt.toNat 13 0 (tokF (rB S x) (pI S 1228 x).toInt.toNat 0)).1 ≠ 0 ∧ (pI T_311 1230 x).toInt = (prF (rB S x) (pI S 1228 x).toInt.toNat 13 0 (tokF (rB S x) (pI S 1228 x).toInt.toNat 0)).1)) → (RrL S T_311 x) → (pI T_311 1228 x = v_1) → (lv_has ls 5 [(2, .int (i2_310)), (0, .ref x), (1, .int (a1))]) → W p l e ({ frames := 8, cells := 0, slots := 0, locals := 384 }) s m [.ref x, .int (a1)].toArray below meth c H locs 0 0 QQ (F0 m 43 ls []) := by
      intro n
      induction n using Nat.strongRecOn with
      | ind n ih_L_309 =>
      intro T_311 H locs ls i2_310 i2_310_z hn hw hz_i2_310 hr_i2_310 ha_x_L_312 hO_T_311 iv_313 iv_314 iv_315 iv_316 ik_318 hl
      have rg_319 : (-2147483648) ≤ i2_310_z ∧ i2_310_z ≤ 2147483647 := by rw [← hz_i2_310]; exact ⟨z_lo _, z_hi _⟩
      obtain ⟨v_320, ev_320⟩ : ∃ v, pI T_311 1230 x = v := ⟨_, rfl⟩
      have rg_322 := And.intro (z_lo v_320) (z_hi v_320)
      have pz_323 : (pI T_311 1230 x).toInt = v_320.toInt := by rw [ev_320]
      have pz_324 : (pI T_311 1230 x).toInt = v_320.toInt := (congrArg Int32.toInt ev_320).trans rfl
      have pz_325 : (pI T_311 1228 x).toInt = v_1.toInt := (congrArg Int32.toInt ik_318).trans rfl
      have pz_326 : (pI T_311 1230 x).toInt = v_320.toInt := (congrArg Int32.toInt ev_320).trans rfl
      have zq_327 := z1220 hO_T_311.1 ha_x_L_312 4
      refine lv_iload_n X.1 X.2.1 dX12_program_43 rfl (lv_at hl 0 rfl) ?_
      refine lv_if_eq (tgt := 62) X.1 X.2.1 dX12_program_44 (by decide) (fun c_328 => ?_) (fun c_328 => ?_)
      · have z_b_329 := trivial
        have k_330 : i2_310_z = 0 := z_eq hz_i2_310 ti_0 c_328
        have po_331 := prF_ok (B := rB S x) (n := (pI S 1228 x).toInt.toNat) 13 0 (tokF (rB S x) (pI S 1228 x).toInt.toNat 0)
        unfold okR at po_331
        have pz_332 : (pI T_311 1230 x).toInt = v_320.toInt := (congrArg Int32.toInt ev_320).trans rfl
        have pf_333 := iv_315 (by omega)
        refine lv_aload_n X.1 X.2.1 dX12_program_62 rfl (lv_at hl 1 rfl) ?_
        refine lv_iconst (v := 0) X.1 X.2.1 dX12_program_63 (by decide) ?_
        refine r_putI (v := 0) X hw ha_x_L_312 rfl 28 1228 tyX12 (by decide) rfl inn_X12_program_12 tyX12_ok nmX12 (by decide) (X.2.2.2.1 (.fieldLink RX12 211 "SilkMillModel" "taped" "I") (by decide +kernel)) rfl (Or.inl rfl) rfl rfl (Nat.le_of_ble_eq_true rfl) (st_1228 _ _) dX12_program_64 (fun H locs hw => ?_)
        obtain ⟨S_334, eS_334⟩ : ∃ T, T = sI T_311 1228 x (0) := ⟨_, rfl⟩
        rw [← eS_334] at hw
        have hO_335 : Ok MPr S S_334 := hO_T_311.sI eS_334 (by decide +kernel) (uI_12_1228 hO_T_311.1 ha_x_L_312 (by rw [ti_0]; omega) (by rw [ti_0]; omega))
        have h_336 : pI S_334 1228 x = 0 := tI_sIs eS_334
        refine lv_aload_n X.1 X.2.1 dX12_program_67 rfl (lv_at hl 1 rfl) ?_
        have t_337 : At S_334 x 12 := tAt_sI eS_334 ha_x_L_312
        have t_338 : pI S_334 1230 x = v_320 := tI_sI eS_334 rfl ev_320
        refine r_getI (g := 1230) (x := v_320) X hw t_337 rfl 30 t_338 (by decide) rfl inn_X12_program_12 (by decide) (X.2.2.2.1 (.fieldLink RX12 229 "SilkMillModel" "faultKind" "I") (by decide +kernel)) rfl (gv_1230 _ _) dX12_program_68 ?_
        refine lv_if_le (tgt := 82) X.1 X.2.1 dX12_program_71 (by decide) (fun c_339 => ?_) (fun c_339 => ?_)
        · have z_b_340 := trivial
          have k_341 : v_320.toInt ≤ 0 := z_le rfl ti_0 c_339
          refine lv_aload_n X.1 X.2.1 dX12_program_82 rfl (lv_at hl 1 rfl) ?_
          obtain ⟨q_342, h_343, h_344, h_345⟩ := gQ_12_1220 hO_335.1 t_337
          refine r_getR (g := 1220) X hw t_337 rfl 20 h_343 (by decide) rfl inn_X12_program_12 (by decide) (X.2.2.2.1 (.fieldLink RX12 61 "SilkMillModel" "rules" "[I") (by decide +kernel)) rfl (gv_1220 _ _) dX12_program_83 ?_
          refine lv_iload_n X.1 X.2.1 dX12_program_86 rfl (lv_at hl 2 rfl) ?_
          refine lv_aload_n X.1 X.2.1 dX12_program_87 rfl (lv_at hl 1 rfl) ?_
          refine r_getR (g := 1220) X hw t_337 rfl 20 h_343 (by decide) rfl inn_X12_program_12 (by decide) (X.2.2.2.1 (.fieldLink RX12 61 "SilkMillModel" "rules" "[I") (by decide +kernel)) rfl (gv_1220 _ _) dX12_program_88 ?_
          refine lv_iconst (v := 4) X.1 X.2.1 dX12_program_91 (by decide) ?_
          refine r_iald X hw h_344 rfl (by rw [h_345]; exact z_ix ti_4 (by omega) (by omega)) dX12_program_92 ?_
          refine lv_topi (fun v_346 ev_346 => ?_)
          have z_347 := gE_614 hO_335.1 h_344 (Int32.toNatClampNeg (4)); rw [← ev_346] at z_347
          have ev_346 := ev_346.symm
          have zf_348 : zA S_334 x 1220 4 = v_346.toInt := (zA_of (z := 4) h_343 ti_4 (by omega) ev_346)
          have zc_349 : zA S_334 x 1220 = zA T_311 x 1220 := zA_sI eS_334
          have zz_350 := congrFun zc_349 4
          refine r_iast X hw h_344 rfl (by rw [h_345]; exact z_ix hz_a1 (by omega) (by omega)) dX12_program_93 (fun H locs hw => ?_)
          obtain ⟨S_351, eS_351⟩ : ∃ T, T = sA S_334 q_342 (upd (pA S_334 q_342) (Int32.toNatClampNeg (a1)) (v_346)) := ⟨_, rfl⟩
          rw [← eS_351] at hw
          have hO_352 : Ok MPr S S_351 := hO_335.sA eS_351 h_344 (by decide +kernel) (uA_614 hO_335.1 h_344 (by omega) (by omega))
          have h_353 : pA S_351 q_342 (Int32.toNatClampNeg (a1)) = v_346 := tA_sAs eS_351
          have t_354 : pR S_351 1220 x = some q_342 := tR_sA eS_351 h_343
          have t_356 : pR S_334 1220 x = some q_342 := by have h := t_354; rw [eS_351, pR_sA] at h; exact h
          have zs_355 : ∀ j, zA S_351 x 1220 j = if j = (a1_z).toNat then v_346.toInt else zA S_334 x 1220 j := by have h := zA_sAs eS_351 t_356 rfl; rw [z_nc hz_a1 (by omega)] at h; exact h
          have zs_357 : zA S_351 x 1220 a1_z.toNat = v_346.toInt := by have h := zs_355 a1_z.toNat; rw [if_pos rfl] at h; exact h
          have t_359 : pR S_334 1220 x = some q_342 := by have h := t_354; rw [eS_351, pR_sA] at h; exact h
          have zs_358 : ∀ j, zA S_351 x 1220 j = if j = (a1_z).toNat then v_346.toInt else zA S_334 x 1220 j := by have h := zA_sAs eS_351 t_359 rfl; rw [z_nc hz_a1 (by omega)] at h; exact h
          refine lv_iconst (v := 0) X.1 X.2.1 dX12_program_94 (by decide) ?_
          refine lv_istore_n (lv' := [(3, .int 0), (2, .int (i2_310)), (0, .ref x), (1, .int (a1))]) X.1 X.2.1 dX12_program_95 rfl hl (by decide) rfl (fun ls hl => ?_)
          have t_360 : pI S_351 1228 x = 0 := tI_sA eS_351 h_336
          have pz_361 : (pI S_351 1228 x).toInt = 0 := (congrArg Int32.toInt t_360).trans ti_0
          have t_362 : At S_351 x 12 := tAt_sA eS_351 t_337
          have pz_363 : (pI S_351 1228 x).toInt = 0 := (congrArg Int32.toInt t_360).trans ti_0
          exact L_21 _ _ _ _ _ (0) (0) rfl hw ti_0 (by omega) t_362 hO_352 (by omega) (by exfalso; omega) (by exfalso; omega) (by exfalso; omega) (by exfalso; omega) (lv_sub hl [0, 2, 3] rfl)
        · have z_b_364 := trivial
          have k_365 : v_320.toInt > 0 := z_nle rfl ti_0 c_339
          refine lv_aload_n X.1 X.2.1 dX12_program_74 rfl (lv_at hl 1 rfl) ?_
          refine r_getI (g := 1230) (x := v_320) X hw t_337 rfl 30 t_338 (by decide) rfl inn_X12_program_12 (by decide) (X.2.2.2.1 (.fieldLink RX12 229 "SilkMillModel" "faultKind" "I") (by decide +kernel)) rfl (gv_1230 _ _) dX12_program_75 ?_
          refine lv_bipush (v := 10) X.1 X.2.1 dX12_program_78 (by decide) ?_
          have fr_366 : 0 ≤ v_320.toInt ∧ v_320.toInt ≤ 2 := by omega
          refine lv_isub X.1 X.2.1 dX12_program_80 ?_
          refine lv_topi (fun v_367 ev_367 => ?_)
          have z_368 : v_367.toInt = v_320.toInt - 10 := z_sub ev_367 rfl ti_10 (by omega) (by omega)
          have pz_369 : (pI S_334 1228 x).toInt = 0 := (congrArg Int32.toInt h_336).trans ti_0
          have rrl_370 : RrL S S_334 x := RrL_to iv_316 (fun g _ => zA_sI eS_334) (zA_sI eS_334)
          rw [hQQ]
          exact ret_i X hw hr hlocks (Nat.le_of_ble_eq_true rfl) (Nat.le_of_ble_eq_true rfl) ⟨hO_335, ⟨z_lo _, z_hi _, by have hzr := z_368; omega, fun _ => by unfold prR; rw [cit_n pf_333.1]; omega, fun h => by exfalso; omega, fun _ h => absurd h pf_333.1, fun _ => rrl_370⟩⟩ dX12_program_81
      · have z_b_371 := trivial
        have k_372 : i2_310_z ≠ 0 := z_ne hz_i2_310 ti_0 c_328
        obtain ⟨t_373, R_374, rg_375, f0_376, ep_377, rr_378, rl_379, pl_380⟩ := (hdE iv_314) (by omega)
        have ok_381 := hdI (RGB_ok hG ha_x rg_375)
        have ok_382 : (t_373).2.1 ≤ (t_373).2.2 ∧ (t_373).2.2 ≤ 400 := ⟨(hdE ok_381).1, (hdE ok_381).2.1⟩
        obtain ⟨v_383, ev_383⟩ : ∃ v, pI T_311 1231 x = v := ⟨_, rfl⟩
        have rg_385 := And.intro (z_lo v_383) (z_hi v_383)
        have pz_386 : (pI T_311 1231 x).toInt = v_383.toInt := by rw [ev_383]
        have pz_387 : (pI T_311 1231 x).toInt = v_383.toInt := (congrArg Int32.toInt ev_383).trans rfl
        have tk_388 := rg_375.1.1
        refine lv_aload_n X.1 X.2.1 dX12_program_47 rfl (lv_at hl 1 rfl) ?_
        refine r_getI (g := 1231) (x := v_383) X hw ha_x_L_312 rfl 31 ev_383 (by decide) rfl inn_X12_program_12 (by decide) (X.2.2.2.1 (.fieldLink RX12 223 "SilkMillModel" "kind" "I") (by decide +kernel)) rfl (gv_1231 _ _) dX12_program_48 ?_
        refine lv_if_eq (tgt := 62) X.1 X.2.1 dX12_program_51 (by decide) (fun c_389 => ?_) (fun c_389 => ?_)
        · have z_b_390 := trivial
          have k_391 : v_383.toInt = 0 := z_eq rfl ti_0 c_389
          have po_392 := prF_ok (B := rB S x) (n := (pI S 1228 x).toInt.toNat) 13 0 (tokF (rB S x) (pI S 1228 x).toInt.toNat 0)
          unfold okR at po_392
          have pz_393 : (pI T_311 1230 x).toInt = v_320.toInt := (congrArg Int32.toInt ev_320).trans rfl
          have pe_394 : prF (rB S x) (pI S 1228 x).toInt.toNat 13 0 (tokF (rB S x) (pI S 1228 x).toInt.toNat 0) = (0, (zA T_311 x 1220 4).toNat) := by rw [← ep_377, show (13 - zA T_311 x 1220 4).toNat = (12 - zA T_311 x 1220 4).toNat + 1 by omega]; exact prF_e (by omega)
          have pa_395 : (prF (rB S x) (pI S 1228 x).toInt.toNat 13 0 (tokF (rB S x) (pI S 1228 x).toInt.toNat 0)).1 = 0 := by rw [pe_394]
          have pb_396 : ((prF (rB S x) (pI S 1228 x).toInt.toNat 13 0 (tokF (rB S x) (pI S 1228 x).toInt.toNat 0)).2 : Int) = zA T_311 x 1220 4 := by rw [pe_394]; show (((zA T_311 x 1220 4).toNat : Nat) : Int) = _; omega
          have el_397 : prL (rB S x) (pI S 1228 x).toInt.toNat 13 0 (tokF (rB S x) (pI S 1228 x).toInt.toNat 0) = R_374 := by have h := pl_380; rw [show (13 - zA T_311 x 1220 4).toNat = (12 - zA T_311 x 1220 4).toNat + 1 by omega, prL_e (by omega), List.append_nil] at h; exact h.symm
          refine lv_aload_n X.1 X.2.1 dX12_program_62 rfl (lv_at hl 1 rfl) ?_
          refine lv_iconst (v := 0) X.1 X.2.1 dX12_program_63 (by decide) ?_
          refine r_putI (v := 0) X hw ha_x_L_312 rfl 28 1228 tyX12 (by decide) rfl inn_X12_program_12 tyX12_ok nmX12 (by decide) (X.2.2.2.1 (.fieldLink RX12 211 "SilkMillModel" "taped" "I") (by decide +kernel)) rfl (Or.inl rfl) rfl rfl (Nat.le_of_ble_eq_true rfl) (st_1228 _ _) dX12_program_64 (fun H locs hw => ?_)
          obtain ⟨S_398, eS_398⟩ : ∃ T, T = sI T_311 1228 x (0) := ⟨_, rfl⟩
          rw [← eS_398] at hw
          have hO_399 : Ok MPr S S_398 := hO_T_311.sI eS_398 (by decide +kernel) (uI_12_1228 hO_T_311.1 ha_x_L_312 (by rw [ti_0]; omega) (by rw [ti_0]; omega))
          have h_400 : pI S_398 1228 x = 0 := tI_sIs eS_398
          refine lv_aload_n X.1 X.2.1 dX12_program_67 rfl (lv_at hl 1 rfl) ?_
          have t_401 : At S_398 x 12 := tAt_sI eS_398 ha_x_L_312
          have t_402 : pI S_398 1230 x = v_320 := tI_sI eS_398 rfl ev_320
          refine r_getI (g := 1230) (x := v_320) X hw t_401 rfl 30 t_402 (by decide) rfl inn_X12_program_12 (by decide) (X.2.2.2.1 (.fieldLink RX12 229 "SilkMillModel" "faultKind" "I") (by decide +kernel)) rfl (gv_1230 _ _) dX12_program_68 ?_
          refine lv_if_le (tgt := 82) X.1 X.2.1 dX12_program_71 (by decide) (fun c_403 => ?_) (fun c_403 => ?_)
          · have z_b_404 := trivial
            have k_405 : v_320.toInt ≤ 0 := z_le rfl ti_0 c_403
            have rr_406 : RrIs S_398 x R_374 := RrIs_to (fun g _ => zA_sI eS_398) rr_378
            have rrl_407 : RrL S S_398 x := RrL_to iv_316 (fun g _ => zA_sI eS_398) (zA_sI eS_398)
            have cp_408 : CpI S S_398 x a1_z.toNat (prL (rB S x) (pI S 1228 x).toInt.toNat 13 0 (tokF (rB S x) (pI S 1228 x).toInt.toNat 0)) 0 0 0 := by rw [el_397]; exact CpI_0 rr_406 rrl_407
            refine lv_aload_n X.1 X.2.1 dX12_program_82 rfl (lv_at hl 1 rfl) ?_
            obtain ⟨q_409, h_410, h_411, h_412⟩ := gQ_12_1220 hO_399.1 t_401
            refine r_getR (g := 1220) X hw t_401 rfl 20 h_410 (by decide) rfl inn_X12_program_12 (by decide) (X.2.2.2.1 (.fieldLink RX12 61 "SilkMillModel" "rules" "[I") (by decide +kernel)) rfl (gv_1220 _ _) dX12_program_83 ?_
            refine lv_iload_n X.1 X.2.1 dX12_program_86 rfl (lv_at hl 2 rfl) ?_
            refine lv_aload_n X.1 X.2.1 dX12_program_87 rfl (lv_at hl 1 rfl) ?_
            refine r_getR (g := 1220) X hw t_401 rfl 20 h_410 (by decide) rfl inn_X12_program_12 (by decide) (X.2.2.2.1 (.fieldLink RX12 61 "SilkMillModel" "rules" "[I") (by decide +kernel)) rfl (gv_1220 _ _) dX12_program_88 ?_
            refine lv_iconst (v := 4) X.1 X.2.1 dX12_program_91 (by decide) ?_
            refine r_iald X hw h_411 rfl (by rw [h_412]; exact z_ix ti_4 (by omega) (by omega)) dX12_program_92 ?_
            refine lv_topi (fun v_413 ev_413 => ?_)
            have z_414 := gE_614 hO_399.1 h_411 (Int32.toNatClampNeg (4)); rw [← ev_413] at z_414
            have ev_413 := ev_413.symm
            have zf_415 : zA S_398 x 1220 4 = v_413.toInt := (zA_of (z := 4) h_410 ti_4 (by omega) ev_413)
            have zc_416 : zA S_398 x 1220 = zA T_311 x 1220 := zA_sI eS_398
            have zz_417 := congrFun zc_416 4
            refine r_iast X hw h_411 rfl (by rw [h_412]; exact z_ix hz_a1 (by omega) (by omega)) dX12_program_93 (fun H locs hw => ?_)
            obtain ⟨S_418, eS_418⟩ : ∃ T, T = sA S_398 q_409 (upd (pA S_398 q_409) (Int32.toNatClampNeg (a1)) (v_413)) := ⟨_, rfl⟩
            rw [← eS_418] at hw
            have hO_419 : Ok MPr S S_418 := hO_399.sA eS_418 h_411 (by decide +kernel) (uA_614 hO_399.1 h_411 (by omega) (by omega))
            have h_420 : pA S_418 q_409 (Int32.toNatClampNeg (a1)) = v_413 := tA_sAs eS_418
            have t_421 : pR S_418 1220 x = some q_409 := tR_sA eS_418 h_410
            have t_423 : pR S_398 1220 x = some q_409 := by have h := t_421; rw [eS_418, pR_sA] at h; exact h
            have zs_422 : ∀ j, zA S_418 x 1220 j = if j = (a1_z).toNat then v_413.toInt else zA S_398 x 1220 j := by have h := zA_sAs eS_418 t_423 rfl; rw [z_nc hz_a1 (by omega)] at h; exact h
            have zs_424 : zA S_418 x 1220 a1_z.toNat = v_413.toInt := by have h := zs_422 a1_z.toNat; rw [if_pos rfl] at h; exact h
            have t_426 : pR S_398 1220 x = some q_409 := by have h := t_421; rw [eS_418, pR_sA] at h; exact h
            have zs_425 : ∀ j, zA S_418 x 1220 j = if j = (a1_z).toNat then v_413.toInt else zA S_398 x 1220 j := by have h := zA_sAs eS_418 t_426 rfl; rw [z_nc hz_a1 (by omega)] at h; exact h
            have ro_427 : ∀ j, j < 4 → j ≠ a1_z.toNat → zA S_418 x 1220 j = zA S x 1220 j := fun j hj hn => by rw [zs_425 j, if_neg (by omega)]; exact rrl_407.2.2 j hj
            refine lv_iconst (v := 0) X.1 X.2.1 dX12_program_94 (by decide) ?_
            refine lv_istore_n (lv' := [(3, .int 0), (2, .int (i2_310)), (0, .ref x), (1, .int (a1))]) X.1 X.2.1 dX12_program_95 rfl hl (by decide) rfl (fun ls hl => ?_)
            have t_429 : pI S_418 1228 x = 0 := tI_sA eS_418 h_400
            have pz_430 : (pI S_418 1228 x).toInt = 0 := (congrArg Int32.toInt t_429).trans ti_0
            have t_431 : At S_418 x 12 := tAt_sA eS_418 t_401
            have pz_432 : (pI S_418 1228 x).toInt = 0 := (congrArg Int32.toInt t_429).trans ti_0
            have cp_433 := CpI_to (rg_sAo hO_399.1 t_401 eS_418 h_411 (by decide)) cp_408
            exact L_21 _ _ _ _ _ (0) (0) rfl hw ti_0 (by omega) t_431 hO_419 (by omega) ⟨pa_395, by omega⟩ cp_433 ro_427 (by rw [el_397]; omega) (lv_sub hl [0, 2, 3] rfl)
          · have z_b_434 := trivial
            have k_435 : v_320.toInt > 0 := z_nle rfl ti_0 c_403
            refine lv_aload_n X.1 X.2.1 dX12_program_74 rfl (lv_at hl 1 rfl) ?_
            refine r_getI (g := 1230) (x := v_320) X hw t_401 rfl 30 t_402 (by decide) rfl inn_X12_program_12 (by decide) (X.2.2.2.1 (.fieldLink RX12 229 "SilkMillModel" "faultKind" "I") (by decide +kernel)) rfl (gv_1230 _ _) dX12_program_75 ?_
            refine lv_bipush (v := 10) X.1 X.2.1 dX12_program_78 (by decide) ?_
            have fr_436 : 0 ≤ v_320.toInt ∧ v_320.toInt ≤ 2 := by omega
            refine lv_isub X.1 X.2.1 dX12_program_80 ?_
            refine lv_topi (fun v_437 ev_437 => ?_)
            have z_438 : v_437.toInt = v_320.toInt - 10 := z_sub ev_437 rfl ti_10 (by omega) (by omega)
            have pz_439 : (pI S_398 1228 x).toInt = 0 := (congrArg Int32.toInt h_400).trans ti_0
            rw [hQQ]
            exact ret_i X hw hr hlocks (Nat.le_of_ble_eq_true rfl) (Nat.le_of_ble_eq_true rfl) ⟨hO_399, ⟨z_lo _, z_hi _, by have hzr := z_438; omega, fun _ => by exfalso; omega, fun h => by exfalso; omega, (by exfalso; omega), (by exfalso; omega)⟩⟩ dX12_program_81
        · have z_b_440 := trivial
          have k_441 : v_383.toInt ≠ 0 := z_ne rfl ti_0 c_389
          have hk_442 : t_373.1 ≠ 0 := by omega
          have pz_443 : (pI T_311 1230 x).toInt = v_320.toInt := (congrArg Int32.toInt ev_320).trans rfl
          refine lv_aload_n X.1 X.2.1 dX12_program_54 rfl (lv_at hl 1 rfl) ?_
          have pz_444 : (pI T_311 1230 x).toInt = v_320.toInt := (congrArg Int32.toInt ev_320).trans rfl
          refine k_i (rm := { frames := 7, cells := 0, slots := 0, locals := 336 }) (av := [.ref x]) X hw (va_runV (As := []) (rest := []) (cfix X) (k_X12_rule6 l G cy κ T_311 _ x t_373 R_374 hO_T_311.1 ha_x_L_312 (by rw [(rB_fr2 hG ha_x hO_T_311.fr (by decide +kernel) (ik_318.trans ev_1.symm)), (ik_318.trans ev_1.symm)]; exact rg_375) (by first | assumption | decide | omega) rr_378 (by omega)) (cwV 0 X.2.2.2.1 gX12_program_X12_rule rfl rfl rfl (by decide +kernel) ⟨Nat.le_of_ble_eq_true rfl, Nat.le_of_ble_eq_true rfl⟩) (pre_V X hw _ ha_x_L_312 rfl (by decide) rfl) rfl rfl hl.1 rfl (lv_room (Nat.le_of_ble_eq_true rfl)) dX12_program_55 ⟨Nat.le_of_ble_eq_true rfl, Nat.le_of_ble_eq_true rfl⟩) 0 0 (Nat.le_of_ble_eq_true rfl) (Nat.le_of_ble_eq_true rfl) (fun rr_445 S_446 H locs hp hw hfr hnw => ?_)
          obtain ⟨hk_447, hp⟩ := hp
          have hO_448 : Ok MPr S S_446 := hO_T_311.call hk_447 (by decide +kernel)
          rcases hp with ⟨f_449, er_450⟩ | ⟨f_449, er_450⟩ <;> subst er_450
          · have z_b_451 := trivial
            have t_453 : At S_446 x 12 := hk_447.fr.at ha_x_L_312
            have zq_452 := z1220 hO_448.1 t_453 4
            rw [(rB_fr2 hG ha_x hO_T_311.fr (by decide +kernel) (ik_318.trans ev_1.symm)), (ik_318.trans ev_1.symm)] at f_449
            refine lv_istore_n (lv' := [(2, .int 1), (0, .ref x), (1, .int (a1))]) X.1 X.2.1 dX12_program_58 rfl hl (by decide) rfl (fun ls hl => ?_)
            refine lv_goto (tgt := 43) X.1 X.2.1 dX12_program_59 (by decide) ?_
            obtain ⟨v_455, ev_455⟩ : ∃ v, pI S_446 1230 x = v := ⟨_, rfl⟩
            have rg_457 := And.intro (z_lo v_455) (z_hi v_455)
            have pz_458 : (pI S_446 1230 x).toInt = v_455.toInt := by rw [ev_455]
            have pz_459 : (pI S_446 1230 x).toInt = v_455.toInt := (congrArg Int32.toInt ev_455).trans rfl
            have rrl_460 : RrL S S_446 x := RrL_tr iv_316 f_449.2.2.2.2.2.2
            have t_461 : pI S_446 1228 x = v_1 := hk_447.fr.I' (by decide +kernel) ha_x_L_312 ik_318
            exact ih_L_309 _ (by omega) _ _ _ _ (1) (1) rfl hw ti_1 (by omega) t_453 hO_448 (by omega) (hdI (fun _ => ⟨_, _, f_449.2.1, f_449.2.2.1, by rw [show (13 - zA S_446 x 1220 4).toNat = (12 - zA T_311 x 1220 4).toNat by omega, show (zA S_446 x 1220 4).toNat = (zA T_311 x 1220 4).toNat + 1 by omega, ← prF_r hk_442 f_449.1, show (12 - zA T_311 x 1220 4).toNat + 1 = (13 - zA T_311 x 1220 4).toNat by omega]; exact ep_377, f_449.2.2.2.2.2.1, by rw [List.length_append]; show _ = (((R_374).length + 1 : Nat) : Int); omega, by have h := pl_380; rw [show (13 - zA T_311 x 1220 4).toNat = (12 - zA T_311 x 1220 4).toNat + 1 by omega, prL_r hk_442] at h; rw [show (13 - zA S_446 x 1220 4).toNat = (12 - zA T_311 x 1220 4).toNat by omega, show (zA S_446 x 1220 4).toNat = (zA T_311 x 1220 4).toNat + 1 by omega]; exact app_c h⟩)) (fun h => absurd h (by decide)) rrl_460 t_461 (lv_sub hl [0, 1, 2] rfl)
          · have z_b_462 := trivial
            have t_464 : At S_446 x 12 := hk_447.fr.at ha_x_L_312
            have zq_463 := z1220 hO_448.1 t_464 4
            rw [(rB_fr2 hG ha_x hO_T_311.fr (by decide +kernel) (ik_318.trans ev_1.symm)), (ik_318.trans ev_1.symm)] at f_449
            refine lv_istore_n (lv' := [(2, .int 0), (0, .ref x), (1, .int (a1))]) X.1 X.2.1 dX12_program_58 rfl hl (by decide) rfl (fun ls hl => ?_)
            refine lv_goto (tgt := 43) X.1 X.2.1 dX12_program_59 (by decide) ?_
            obtain ⟨v_466, ev_466⟩ : ∃ v, pI S_446 1230 x = v := ⟨_, rfl⟩
            have rg_468 := And.intro (z_lo v_466) (z_hi v_466)
            have pz_469 : (pI S_446 1230 x).toInt = v_466.toInt := by rw [ev_466]
            have pz_470 : (pI S_446 1230 x).toInt = v_466.toInt := (congrArg Int32.toInt ev_466).trans rfl
            have rrl_471 : RrL S S_446 x := RrL_tr iv_316 f_449.2
            have t_472 : pI S_446 1228 x = v_1 := hk_447.fr.I' (by decide +kernel) ha_x_L_312 ik_318
            exact ih_L_309 _ (by omega) _ _ _ _ (0) (0) rfl hw ti_0 (by omega) t_464 hO_448 (by omega) (hdI (fun h => absurd h (by decide))) (fun _ => by rw [← ep_377, show (13 - zA T_311 x 1220 4).toNat = (12 - zA T_311 x 1220 4).toNat + 1 by omega, prF_f hk_442 f_449.1.1]; exact f_449.1) rrl_471 t_472 (lv_sub hl [0, 1, 2] rfl)
    have t_473 : pI S_274 1230 x = 0 := tI_sI eS_274 rfl h_272
    have t_474 : pI S_282 1230 x = 0 := tI_sA eS_282 t_473
    have t_475 : pI S_292 1230 x = 0 := tI_sI eS_292 rfl t_474
    have t_476 : pI S_303 1230 x = 0 := hk_304.fr.I' (by decide +kernel) t_295 t_475
    have pz_477 : (pI S_303 1230 x).toInt = 0 := (congrArg Int32.toInt t_476).trans ti_0
    have t_478 : At S_303 x 12 := hk_304.fr.at t_295
    have zc_479 : zA S_9 x 1220 = zA S x 1220 := zA_sI eS_9
    have zc_480 : zA S_270 x 1220 = zA S x 1220 := (zA_sI eS_270).trans zc_479
    have zc_481 : zA S_274 x 1220 = zA S x 1220 := (zA_sI eS_274).trans zc_480
    have zc_482 : zA S_292 x 1220 = zA S_282 x 1220 := zA_sI eS_292
    have zc_483 : zA S_303 x 1220 = zA S_282 x 1220 := (zA_fr hk_304.fr t_295 (ex3 (gQ_12_1220 hO_293.1 t_295)) (by decide +kernel) (by decide +kernel)).trans zc_482
    have zz_484 := congrFun zc_483 (4)
    have rrl_485 : RrL S S_9 x := RrL_to (RrL_rf S x) (fun g _ => zA_sI eS_9) (zA_sI eS_9)
    have rrl_486 : RrL S S_270 x := RrL_to rrl_485 (fun g _ => zA_sI eS_270) (zA_sI eS_270)
    have rrl_487 : RrL S S_274 x := RrL_to rrl_486 (fun g _ => zA_sI eS_274) (zA_sI eS_274)
    have rrl_488 : RrL S S_282 x := RrL_tr rrl_487 ⟨fun _ _ => (by rw [(rg_sAo hO_275.1 t_277 eS_282 h_280 (by decide)) 1221 (by decide), (rg_sAo hO_275.1 t_277 eS_282 h_280 (by decide)) 1222 (by decide), (rg_sAo hO_275.1 t_277 eS_282 h_280 (by decide)) 1223 (by decide)]; exact ⟨rfl, rfl, rfl⟩), fun _ _ => (by rw [(rg_sAo hO_275.1 t_277 eS_282 h_280 (by decide)) 1224 (by decide), (rg_sAo hO_275.1 t_277 eS_282 h_280 (by decide)) 1225 (by decide), (rg_sAo hO_275.1 t_277 eS_282 h_280 (by decide)) 1226 (by decide)]; exact ⟨rfl, rfl, rfl⟩), fun j hj => (by rw [zs_289 j, if_neg (by omega)])⟩
    have rrl_489 : RrL S S_292 x := RrL_to rrl_488 (fun g _ => zA_sI eS_292) (zA_sI eS_292)
    have rrl_490 : RrL S S_303 x := RrL_to rrl_489 (rg_zA hO_293.1 t_295 hk_304.fr (by decide +kernel)) (zA_fr hk_304.fr t_295 (ex3 (gQ_12_1220 hO_293.1 t_295)) (by decide +kernel) (by decide +kernel))
    exact L_309 _ _ _ _ _ (1) (1) rfl hw ti_1 (by omega) t_478 hO_305 (by omega) (hdI (fun _ => ⟨_, [], rg_306, by omega, by rw [show (13 - zA S_303 x 1220 4).toNat = 13 by omega, show (zA S_303 x 1220 4).toNat = 0 by omega], fun k r hk => (by cases hk), by show _ = ((0 : Nat) : Int); omega, by rw [show (13 - zA S_303 x 1220 4).toNat = 13 by omega, show (zA S_303 x 1220 4).toNat = 0 by omega]; rfl⟩)) (fun h => absurd h (by decide)) rrl_490 t_317 (lv_sub hl [0, 1, 2] rfl)
  · have z_b_491 := trivial
    refine lv_if_ne (tgt := 15) X.1 X.2.1 dX12_program_10 (by decide) (fun c_492 => absurd c_492 (by decide)) (fun c_492 => ?_)
    refine lv_iconst (v := (-1)) X.1 X.2.1 dX12_program_13 (by decide) ?_
    have t_493 : pI S_9 1228 x = v_1 := tI_sI eS_9 rfl ev_1
    have pz_494 : (pI S_9 1228 x).toInt = v_1.toInt := (congrArg Int32.toInt t_493).trans rfl
    have rrl_495 : RrL S S_9 x := RrL_to (RrL_rf S x) (fun g _ => zA_sI eS_9) (zA_sI eS_9)
    rw [hQQ]
    exact ret_i X hw hr hlocks (Nat.le_of_ble_eq_true rfl) (Nat.le_of_ble_eq_true rfl) ⟨hO_10, ⟨z_lo _, z_hi _, by have hzr := ti_m1; omega, fun h => by exfalso; omega, fun _ => by decide, fun h => (by exfalso; omega), fun _ => rrl_495⟩⟩ dX12_program_14
