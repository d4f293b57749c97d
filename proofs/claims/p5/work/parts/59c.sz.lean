theorem PIn_fr {A : Nat → Prop} {M : List Nat} {S T : PS} {x : Nat} (hG : GX S) (ha : At S x 4) (hF : Fr M S T) (hM : ([400, 401, 402, 501] : List Nat).all (fun g => !M.contains g) = true) (h : PIn A S x) : PIn A T x := fun R q h1 h2 => by
  have e : ∀ g, g ∈ ([400, 401, 402, 501] : List Nat) → ∀ a ∈ pL S, pR T g a = pR S g a := fun g hg a ha => (hF.2.1 g (fun z => by have := allc hM hg; rw [List.contains_iff_mem.mpr z] at this; cases this) a ha).2
  have hR : (pR S 400 x = some R ∨ pR S 401 x = some R ∨ pR S 402 x = some R) := by
    rw [e 400 (by decide) x ha.1, e 401 (by decide) x ha.1, e 402 (by decide) x ha.1] at h1
    exact h1
  have hAt : At S R 5 := by
    rcases hR with z | z | z
    · obtain ⟨c, k1, k2⟩ := gQ_4_400 hG ha; rw [k1] at z; cases z; exact k2
    · obtain ⟨c, k1, k2⟩ := gQ_4_401 hG ha; rw [k1] at z; cases z; exact k2
    · obtain ⟨c, k1, k2⟩ := gQ_4_402 hG ha; rw [k1] at z; cases z; exact k2
  rw [e 501 (by decide) R hAt.1] at h2
  exact h R q hR h2
/-- a cocoon (or none) has come to a pot -/
def RcP (A : Nat → Prop) (S T : PS) (o : Option Nat) : Prop := (∀ d, At S d 0 → o ≠ some d → pI T 3 d = pI S 3 d) ∧ (∀ q, o = some q → pI T 3 q = 1) ∧ ∀ d, RH A T d → RH A S d ∨ o = some d
def FilP (A : Nat → Prop) (S T : PS) (x : Nat) (l f e : Int) : Prop := (∀ d, At S d 0 → pI T 3 d = pI S 3 d ∨ (pI T 3 d = 1 ∧ ∃ j, f ≤ j ∧ j < e ∧ mB S x 1100 (60 * l + j).toNat = some d)) ∧ (∀ j d, f ≤ j → j < e → mB S x 1100 (60 * l + j).toNat = some d → pI T 3 d = 1) ∧ ∀ d, RH A T d → RH A S d ∨ ∃ j, f ≤ j ∧ j < e ∧ mB S x 1100 (60 * l + j).toNat = some d
theorem FilP_0 {A : Nat → Prop} {S : PS} {x : Nat} {l f : Int} : FilP A S S x l f f := ⟨fun _ _ => Or.inl rfl, fun _ _ h1 h2 => absurd h2 (by omega), fun _ h => Or.inl h⟩
theorem mB_at {S : PS} {x j d : Nat} (hG : GX S) (hx : At S x 11) (h : mB S x 1100 j = some d) : At S d 0 := by
  obtain ⟨q, k1, k2, -⟩ := gQ_11_1100 hG hx
  rw [mB_eq k1] at h
  exact gEl_36 hG k2 j d h
theorem FilP_step {A : Nat → Prop} {S T U : PS} {x : Nat} {l f k : Int} {o : Option Nat} (hG : GX S) (hx : At S x 11) (h : FilP A S T x l f k) (hE : Ext S T) (hr : RcP A T U o) (ho : o = mB S x 1100 (60 * l + k).toNat) (hk : f ≤ k) : FilP A S U x l f (k + 1) := by
  obtain ⟨a1, a2, a3⟩ := h
  obtain ⟨b1, b2, b3⟩ := hr
  refine ⟨fun d hd => ?_, fun j d h1 h2 h3 => ?_, fun d hd => ?_⟩
  · by_cases e : o = some d
    · exact Or.inr ⟨b2 d e, k, hk, by omega, by rw [← ho]; exact e⟩
    · rw [b1 d (hE.at hd) e]
      rcases a1 d hd with h | ⟨h1, j, h2, h3, h4⟩
      · exact Or.inl h
      · exact Or.inr ⟨h1, j, h2, by omega, h4⟩
  · by_cases e : o = some d
    · exact b2 d e
    · rw [b1 d (hE.at (mB_at hG hx h3)) e]
      by_cases e2 : j = k
      · subst e2; exact absurd (ho.trans h3) e
      · exact a2 j d h1 (by omega) h3
  · rcases b3 d hd with h | h
    · rcases a3 d h with h | ⟨j, h1, h2, h3⟩
      · exact Or.inl h
      · exact Or.inr ⟨j, h1, by omega, h3⟩
    · exact Or.inr ⟨k, hk, by omega, by rw [← ho]; exact h⟩
/-- the cocoons f .. of lot l can go to a pot -/
def FilC (S : PS) (x : Nat) (p l f n : Int) : Prop := 0 ≤ p ∧ p < (pI S 1104 x).toInt ∧ 1 ≤ n ∧ n ≤ 60 ∧ 0 ≤ f ∧ ∀ j : Int, f ≤ j → j < f + n → InC S x l j ∧ ∃ c, mB S x 1100 (60 * l + j).toNat = some c ∧ pI S 3 c = 0
theorem InC_fr {M : List Nat} {S T : PS} {x : Nat} {l i : Int} (hG : GX S) (hx : At S x 11) (hF : Fr M S T) (hM : ([1101, 1102, 10054] : List Nat).all (fun g => !M.contains g) = true) : InC T x l i ↔ InC S x l i := by
  unfold InC
  rw [hF.I' (allc hM (by decide)) hx rfl, zA_of_mA (mA_frc hF hx (ex3 (gQ_11_1101 hG hx)) (allc hM (by decide)) (allc hM (by decide)))]
/-! ===== the reference: which stands a run can touch ===== -/
def nzZ (v : Int) : Prop := v ≠ 0 ∧ v ≠ 5
def ZM (S T : PS) (x : Nat) : Prop := ∀ j, zA T x 1207 j = zA S x 1207 j ∨ (nzZ (zA S x 1207 j) ∧ nzZ (zA T x 1207 j))
theorem ZM_rf (S : PS) (x : Nat) : ZM S S x := fun _ => Or.inl rfl
theorem ZM_eq {S T U : PS} {x : Nat} (h : ZM S T x) (e : zA U x 1207 = zA T x 1207) : ZM S U x := fun j => by rw [e]; exact h j
theorem ZM_set {S T U : PS} {x n : Nat} {v : Int} (h : ZM S T x) (hs : ∀ j, zA U x 1207 j = if j = n then v else zA T x 1207 j) (h1 : nzZ (zA T x 1207 n)) (h2 : nzZ v) : ZM S U x := fun j => by
  rw [hs j]
  by_cases e : j = n
  · rw [if_pos e]
    subst e
    refine Or.inr ⟨?_, h2⟩
    rcases h j with z | z
    · rw [← z]; exact h1
    · exact z.1
  · rw [if_neg e]; exact h j
theorem ZM_tr {S T U : PS} {x : Nat} (h : ZM S T x) (h' : ZM T U x) : ZM S U x := fun j => by
  rcases h' j with e | ⟨e1, e2⟩
  · rw [e]; exact h j
  · rcases h j with d | ⟨d1, d2⟩
    · exact Or.inr ⟨by rw [← d]; exact e1, e2⟩
    · exact Or.inr ⟨d1, e2⟩
theorem il60 {S : PS} {x : Nat} (hG : GX S) (hx : At S x 11) (n : Nat) : zA S x 1101 n ≤ 60 := by
  obtain ⟨q, h1, h2, -⟩ := gQ_11_1101 hG hx
  rw [zA_eq, mA_eq h1]; exact (gE_54 hG h2 n).2

set_option maxHeartbeats 4000000 in
set_option maxRecDepth 100000 in
theorem k_X11_potAt3 (l : Launch) (G : va_G) (cy : Nat → ClassId) (κ : Nat → Nat) (S : PS) (sz : Nat) (x : Nat) (a1 : Int32) (a1_z : Int) (hG : GX S) (ha_x : At S x 11) (hz_a1 : a1.toInt = a1_z) : Cq l yX11_potAt wsX11_potAt ({ frames := 1, cells := 0, slots := 0, locals := 48 }) G cy κ S sz [.ref x, .int (a1)] (fun (r : Option Nat) (S9 : PS) => S = S9 ∧ ((∀ q, r = some q → At S9 q 4 ∧ 0 ≤ a1_z ∧ a1_z < (pI S 1104 x).toInt ∧ mB S x 1103 a1_z.toNat = some q) ∧ (r = none → PN S x → ¬ (0 ≤ a1_z ∧ a1_z < (pI S 1104 x).toInt)))) := by
  refine ent_m (cc := cX11_potAt) (maxL := 2) (ret := (some (.object "SilkMill$Pot"))) (by decide) rfl (Nat.le_of_ble_eq_true rfl) ?_
  intro p e s m below meth c ls X hr hlocks hin hw hl hsz
  subst hsz
  have X : Cx p c cX11_potAt 2 s [.ref x, .int (a1)].toArray wsX11_potAt RX11 m G cy κ (AS S s.heap.size) := X
  have hl : lv_has ls 2 [(0, .ref x), (1, .int (a1))] := hl
  have rg_a1 : (-2147483648) ≤ a1_z ∧ a1_z ≤ 2147483647 := by rw [← hz_a1]; exact ⟨z_lo _, z_hi _⟩
  refine lv_iload_n X.1 X.2.1 dX11_potAt_0 rfl (lv_at hl 1 rfl) ?_
  refine lv_if_lt (tgt := 12) X.1 X.2.1 dX11_potAt_1 (by decide) (fun c_1 => ?_) (fun c_1 => ?_)
  · have z_b_2 := trivial
    have k_3 : a1_z < 0 := z_lt hz_a1 ti_0 c_1
    refine lv_null X.1 X.2.1 dX11_potAt_12 ?_
    refine lv_goto (tgt := 22) X.1 X.2.1 dX11_potAt_13 (by decide) ?_
    exact ret_q none rfl X hw hr hlocks (Nat.le_of_ble_eq_true rfl) (Nat.le_of_ble_eq_true rfl) ⟨rfl, ⟨fun q h => (by cases h), fun _ _ _ => by omega⟩⟩ dX11_potAt_22
  · have z_b_4 := trivial
    have k_5 : a1_z ≥ 0 := z_nlt hz_a1 ti_0 c_1
    refine lv_iload_n X.1 X.2.1 dX11_potAt_4 rfl (lv_at hl 1 rfl) ?_
    refine lv_aload_n X.1 X.2.1 dX11_potAt_5 rfl (lv_at hl 0 rfl) ?_
    obtain ⟨v_6, ev_6⟩ : ∃ v, pI S 1104 x = v := ⟨_, rfl⟩
    have rg_7 := gI_11_1104 hG ha_x; rw [ev_6] at rg_7
    have pz_8 : (pI S 1104 x).toInt = v_6.toInt := by rw [ev_6]
    refine r_getI (g := 1104) (x := v_6) X hw ha_x rfl 4 ev_6 (by decide) rfl inn_X11_potAt_11 (by decide) (X.2.2.2.1 (.fieldLink RX11 124 "SilkMill" "potsMade" "I") (by decide +kernel)) rfl (gv_1104 _ _) dX11_potAt_6 ?_
    refine lv_icmp_lt (tgt := 16) X.1 X.2.1 dX11_potAt_9 (by decide) (fun c_9 => ?_) (fun c_9 => ?_)
    · have z_b_10 := trivial
      have k_11 : a1_z < v_6.toInt := z_lt hz_a1 rfl c_9
      refine lv_aload_n X.1 X.2.1 dX11_potAt_16 rfl (lv_at hl 0 rfl) ?_
      obtain ⟨q_12, h_13, h_14, h_15⟩ := gQ_11_1103 hG ha_x
      refine r_getR (g := 1103) X hw ha_x rfl 3 h_13 (by decide) rfl inn_X11_potAt_11 (by decide) (X.2.2.2.1 (.fieldLink RX11 21 "SilkMill" "pots" "[LSilkMill$Pot;") (by decide +kernel)) rfl (gv_1103 _ _) dX11_potAt_17 ?_
      refine lv_iload_n X.1 X.2.1 dX11_potAt_20 rfl (lv_at hl 1 rfl) ?_
      refine r_aald X hw h_14 rfl (by decide) rfl (by rw [h_15]; exact z_ix hz_a1 (by omega) (by omega)) dX11_potAt_21 ?_
      rcases ho_16 : pB S q_12 (Int32.toNatClampNeg (a1)) with _ | q_17
      · refine W.eq (g2 := F0 m 22 ls (.null :: [])) rfl ?_
        exact ret_q none rfl X hw hr hlocks (Nat.le_of_ble_eq_true rfl) (Nat.le_of_ble_eq_true rfl) ⟨rfl, ⟨fun q h => (by cases h), fun _ hPN _ => hPN _ h_13 _ (by rw [z_nat hz_a1 (by omega)]; omega) ho_16⟩⟩ dX11_potAt_22
      · refine W.eq (g2 := F0 m 22 ls (.ref q_17 :: [])) rfl ?_
        have ha_18 : At S q_17 4 := gEl_18 hG h_14 _ _ ho_16
        exact ret_q (some q_17) rfl X hw hr hlocks (Nat.le_of_ble_eq_true rfl) (Nat.le_of_ble_eq_true rfl) ⟨rfl, ⟨fun q h => (by cases h; exact ⟨ha_18, by omega, by omega, by rw [mB_eq h_13, ← z_nc hz_a1 (by omega)]; exact ho_16⟩), fun h => (by cases h)⟩⟩ dX11_potAt_22
    · have z_b_19 := trivial
      have k_20 : a1_z ≥ v_6.toInt := z_nlt hz_a1 rfl c_9
      refine lv_null X.1 X.2.1 dX11_potAt_12 ?_
      refine lv_goto (tgt := 22) X.1 X.2.1 dX11_potAt_13 (by decide) ?_
      exact ret_q none rfl X hw hr hlocks (Nat.le_of_ble_eq_true rfl) (Nat.le_of_ble_eq_true rfl) ⟨rfl, ⟨fun q h => (by cases h), fun _ _ _ => by omega⟩⟩ dX11_potAt_22
set_option maxHeartbeats 4000000 in
set_option maxRecDepth 100000 in
theorem k_X11_run3 (l : Launch) (G : va_G) (cy : Nat → ClassId) (κ : Nat → Nat) (S : PS) (sz hz : Nat) (x : Nat) (a1 : Int32) (a1_z : Int) (a2 : Int32) (a2_z : Int) (A : Nat → Prop) (hG : GX S) (ha_x : At S x 11) (hz_a1 : a1.toInt = a1_z) (hz_a2 : a2.toInt = a2_z) (hp_0 : AO A S) (hp_1 : (∀ P, 0 ≤ a1_z → a1_z < (pI S 1104 x).toInt → mB S x 1103 a1_z.toNat = some P → PIn A S P)) : Gi l yX11_run wsX11_run ({ frames := 9, cells := Phc S + 8, slots := Phs S + 15019, locals := 432 }) G cy κ S sz hz 0 0 [.ref x, .int (a1), .int (a2)] (fun (r : Int32) (S9 : PS) => Og eTI S S9 ∧ (-2147483648 ≤ r.toInt ∧ r.toInt ≤ 2147483647 ∧ Tch A S S9)) := by
  refine ent_g (cc := cX11_run) (maxL := 6) (ret := (some .int)) (by decide) rfl (Nat.le_of_ble_eq_true rfl) ?_
  intro p e s m below meth c ls X hr hlocks hin hw hl hsz hhz
  subst hsz hhz
  have X : Cx p c cX11_run 6 s [.ref x, .int (a1), .int (a2)].toArray wsX11_run RX11 m G cy κ (AS S s.heap.size) := X
  have hl : lv_has ls 6 [(0, .ref x), (1, .int (a1)), (2, .int (a2))] := hl
  have rg_a1 : (-2147483648) ≤ a1_z ∧ a1_z ≤ 2147483647 := by rw [← hz_a1]; exact ⟨z_lo _, z_hi _⟩
  have rg_a2 : (-2147483648) ≤ a2_z ∧ a2_z ≤ 2147483647 := by rw [← hz_a2]; exact ⟨z_lo _, z_hi _⟩
  have hpc0 : 0 + Phc S ≤ Phc S + 0 := by omega
  have hps0 : 0 + Phs S ≤ Phs S + 0 := by omega
  have hO : Og eTI S S := Og.rf hG
  generalize hQQ : MQ below _ _ _ _ _ _ = QQ
  replace hQQ := hQQ.symm
  have htc0 : Tch A S S := Tch_rf A S
  refine lv_aload_n X.1 X.2.1 dX11_run_0 rfl (lv_at hl 0 rfl) ?_
  refine lv_iload_n X.1 X.2.1 dX11_run_1 rfl (lv_at hl 1 rfl) ?_
  refine k_q (rm := { frames := 1, cells := 0, slots := 0, locals := 48 }) (av := [.ref x, .int (a1)]) X hw (va_runV (As := [.int (a1)]) (rest := []) (cfix X) (k_X11_potAt3 l G cy κ S _ x (a1) (a1_z) hO.1 ha_x hz_a1) (cwV 1 X.2.2.2.1 gX11_run_X11_potAt rfl rfl rfl (by decide +kernel) ⟨Nat.le_of_ble_eq_true rfl, Nat.le_of_ble_eq_true rfl⟩) (pre_V X hw _ ha_x rfl (by decide) rfl) rfl rfl hl.1 rfl (lv_room (Nat.le_of_ble_eq_true rfl)) dX11_run_2 ⟨(by show 0 + 0 ≤ Phc S + 8; omega), (by show 0 + 0 ≤ Phs S + 15019; omega)⟩) 0 0 (by show 0 + 0 ≤ 0; omega) (by show 0 + 0 ≤ 0; omega) (fun rr_1 S_2 H locs hp hw hfr hnw => ?_)
  obtain ⟨e2, hp⟩ := hp
  subst e2
  obtain ⟨hq_3, hnf_4⟩ := hp
  rcases rr_1 with _ | q_5
  · refine W.eq (g2 := F0 m 5 ls (.null :: [])) rfl ?_
    have nf_6 := hnf_4 rfl
    refine lv_astore_nN (lv' := [(3, .null), (0, .ref x), (1, .int (a1)), (2, .int (a2))]) X.1 X.2.1 dX11_run_5 rfl hl (by decide) rfl (fun ls hl => ?_)
    refine lv_aload_nN X.1 X.2.1 dX11_run_6 rfl (lv_at hl 0 rfl) ?_
    refine lv_ifnullN (tgt := 21) X.1 X.2.1 dX11_run_7 (by decide) ?_
    refine lv_iconst (v := (-1)) X.1 X.2.1 dX11_run_21 (by decide) ?_
    rw [hQQ]
    exact ret_gi X hw hr hlocks (by show 0 ≤ Phc S + 8; omega) (by show 0 ≤ Phs S + 15019; omega) (by omega) (by omega) ⟨hO, ⟨z_lo _, z_hi _, htc0⟩⟩ dX11_run_22
  · refine W.eq (g2 := F0 m 5 ls (.ref q_5 :: [])) rfl ?_
    obtain ⟨ha_7, f_8, f_9, f_10⟩ := hq_3 _ rfl
    have pin_11 : PIn A S q_5 := hp_1 _ f_8 f_9 f_10
    refine lv_astore_n (lv' := [(3, .ref q_5), (0, .ref x), (1, .int (a1)), (2, .int (a2))]) X.1 X.2.1 dX11_run_5 rfl hl (by decide) rfl (fun ls hl => ?_)
    refine lv_aload_n X.1 X.2.1 dX11_run_6 rfl (lv_at hl 0 rfl) ?_
    refine lv_ifnull X.1 X.2.1 dX11_run_7 ?_
    refine lv_iload_n X.1 X.2.1 dX11_run_10 rfl (lv_at hl 3 rfl) ?_
    refine lv_iconst (v := 0) X.1 X.2.1 dX11_run_11 (by decide) ?_
    refine lv_sipush (v := 300) X.1 X.2.1 dX11_run_12 (by decide) ?_
    refine k_i (rm := { frames := 1, cells := 0, slots := 0, locals := 48 }) (av := [.int (a2), .int 0, .int 300]) X hw (va_runS (As := [.int (a2), .int 0, .int 300]) (rest := []) (cfix X) (k_X11_isWithin l G cy κ S _ (a2) (a2_z) (0) (0) (300) (300) hO.1 hz_a2 ti_0 ti_300) (cwS 3 X.2.2.2.1 gX11_run_X11_isWithin rfl rfl rfl (by decide +kernel) ⟨Nat.le_of_ble_eq_true rfl, Nat.le_of_ble_eq_true rfl⟩) (pre_S X hw _) rfl rfl hl.1 rfl (lv_room (Nat.le_of_ble_eq_true rfl)) dX11_run_15 ⟨(by show 0 + 0 ≤ Phc S + 8; omega), (by show 0 + 0 ≤ Phs S + 15019; omega)⟩) 0 0 (by show 0 + 0 ≤ 0; omega) (by show 0 + 0 ≤ 0; omega) (fun rr_12 S_13 H locs hp hw hfr hnw => ?_)
    obtain ⟨e2, hp⟩ := hp
    subst e2
    rcases hp with ⟨f_14, er_15⟩ | ⟨f_14, er_15⟩ <;> subst er_15
    · have z_b_16 := trivial
      refine lv_if_ne (tgt := 23) X.1 X.2.1 dX11_run_18 (by decide) (fun c_17 => ?_) (fun c_17 => absurd c_17 (by decide))
      refine lv_iconst (v := 0) X.1 X.2.1 dX11_run_23 (by decide) ?_
      refine lv_istore (lv' := [(4, .int 0), (3, .ref q_5), (0, .ref x), (1, .int (a1)), (2, .int (a2))]) X.1 X.2.1 dX11_run_24 hl (by decide) rfl (fun ls hl => ?_)
      refine lv_iconst (v := 0) X.1 X.2.1 dX11_run_26 (by decide) ?_
      refine lv_istore (lv' := [(5, .int 0), (4, .int 0), (3, .ref q_5), (0, .ref x), (1, .int (a1)), (2, .int (a2))]) X.1 X.2.1 dX11_run_27 hl (by decide) rfl (fun ls hl => ?_)
      have L_18 : ∀ (n : Nat) (T_21 : PS) (H : Heap) (locs : List Loc) (ls : Array Slot) (i4_19 : Int32) (i4_19_z : Int) (i5_20 : Int32) (i5_20_z : Int) (cc_27 nn_28 : Nat), ((a2_z - i5_20_z).toNat = n) → (Wd G cy (AS S s.heap.size) s.heap T_21 H locs) → (i4_19.toInt = i4_19_z) → (0 ≤ i4_19_z ∧ i4_19_z ≤ 300) → (i5_20.toInt = i5_20_z) → (0 ≤ i5_20_z ∧ i5_20_z ≤ 300) → (At T_21 q_5 4) → (At T_21 x 11) → (Og eTI S T_21) → (i4_19_z ≤ i5_20_z) → (Tch A S T_21) → (PIn A T_21 q_5) → (cc_27 + Phc T_21 ≤ Phc S + 0) → (nn_28 + Phs T_21 ≤ Phs S + 0) → (lv_has ls 6 [(4, .int (i4_19)), (5, .int (i5_20)), (3, .ref q_5), (0, .ref x), (1, .int (a1)), (2, .int (a2))]) → W p l e ({ frames := 9, cells := Phc S + 8, slots := Phs S + 15019, locals := 432 }) s m [.ref x, .int (a1), .int (a2)].toArray below meth c H locs cc_27 nn_28 QQ (F0 m 29 ls []) := by
        intro n
        induction n using Nat.strongRecOn with
        | ind n ih =>
        intro T_21 H locs ls i4_19 i4_19_z i5_20 i5_20_z cc_27 nn_28 hn hw hz_i4_19 hr_i4_19 hz_i5_20 hr_i5_20 ha_q_5_L_22 ha_x_L_23 hO_T_21 iv_24 iv_25 iv_26 hcc_29 hnn_30 hl
        have rg_31 : (-2147483648) ≤ i4_19_z ∧ i4_19_z ≤ 2147483647 := by rw [← hz_i4_19]; exact ⟨z_lo _, z_hi _⟩
        have rg_32 : (-2147483648) ≤ i5_20_z ∧ i5_20_z ≤ 2147483647 := by rw [← hz_i5_20]; exact ⟨z_lo _, z_hi _⟩
        refine lv_iload X.1 X.2.1 dX11_run_29 (lv_at hl 1 rfl) ?_
        refine lv_iload_n X.1 X.2.1 dX11_run_31 rfl (lv_at hl 5 rfl) ?_
        refine lv_icmp_ge (tgt := 55) X.1 X.2.1 dX11_run_32 (by decide) (fun c_33 => ?_) (fun c_33 => ?_)
        · have z_b_34 := trivial
          have k_35 : i5_20_z ≥ a2_z := z_le hz_a2 hz_i5_20 c_33
          refine lv_iload X.1 X.2.1 dX11_run_55 (lv_at hl 0 rfl) ?_
          rw [hQQ]
          exact ret_gi X hw hr hlocks (by show cc_27 ≤ Phc S + 8; omega) (by show nn_28 ≤ Phs S + 15019; omega) (by omega) (by omega) ⟨hO_T_21, ⟨z_lo _, z_hi _, iv_25⟩⟩ dX11_run_57
        · have z_b_36 := trivial
          have k_37 : i5_20_z < a2_z := z_nle hz_a2 hz_i5_20 c_33
          refine lv_aload_n X.1 X.2.1 dX11_run_35 rfl (lv_at hl 2 rfl) ?_
          refine lv_aload_n X.1 X.2.1 dX11_run_36 rfl (lv_at hl 3 rfl) ?_
          obtain ⟨q_38, h_39, h_40⟩ := gQ_11_1107 hO_T_21.1 ha_x_L_23
          refine r_getR (g := 1107) X hw ha_x_L_23 rfl 7 h_39 (by decide) rfl inn_X11_run_11 (by decide) (X.2.2.2.1 (.fieldLink RX11 42 "SilkMill" "store" "LSilkMill$Store;") (by decide +kernel)) rfl (gv_1107 _ _) dX11_run_37 ?_
          refine k_gi (kc := 0) (ks := 0) (rm := { frames := 8, cells := Phc T_21 + 8, slots := Phs T_21 + 15019, locals := 384 }) (av := [.ref q_5, .ref q_38]) X hw (va_runV (As := [.ref q_38]) (rest := []) (cfix X) (k_X4_tick3 l G cy κ T_21 _ _ q_5 q_38 A hO_T_21.1 ha_q_5_L_22 h_40 (AO_ext iv_25.1 hp_0) iv_26) (cwV 1 X.2.2.2.1 gX11_run_X4_tick rfl rfl rfl (by decide +kernel) ⟨Nat.le_of_ble_eq_true rfl, Nat.le_of_ble_eq_true rfl⟩) (pre_gV X hw _ ha_q_5_L_22 rfl (by decide) rfl) rfl rfl hl.1 rfl (lv_room (Nat.le_of_ble_eq_true rfl)) dX11_run_40 ⟨(by show cc_27 + (Phc T_21 + 8) ≤ Phc S + 8; omega), (by show nn_28 + (Phs T_21 + 15019) ≤ Phs S + 15019; omega)⟩) (fun rr_42 S_43 H locs c_44 n_45 hc_44 hn_45 hp hw => ?_)
          obtain ⟨hk_46, hp⟩ := hp
          have ph_47 : c_44 + Phc S_43 ≤ Phc S + 0 := by omega
          have ph_48 : n_45 + Phs S_43 ≤ Phs S + 0 := by omega
          clear hcc_29
          clear hnn_30
          clear hc_44
          clear hn_45
          have hO_49 : Og eTI S S_43 := hO_T_21.call hk_46 (by decide +kernel)
          rcases hp with ⟨f_50, er_51⟩ | ⟨f_50, er_51⟩ <;> subst er_51
          · have z_b_52 := trivial
            refine lv_if_eq (tgt := 49) X.1 X.2.1 dX11_run_43 (by decide) (fun c_53 => absurd c_53 (by decide)) (fun c_53 => ?_)
            obtain ⟨x_54, ex_54⟩ : ∃ y : Int32, y = i4_19 + 1 := ⟨_, rfl⟩
            have z_55 : x_54.toInt = i4_19_z + 1 := z_add ex_54 hz_i4_19 ti_1 (by omega) (by omega)
            refine lv_iinc (v := x_54) (lv' := [(4, .int (x_54)), (5, .int (i5_20)), (3, .ref q_5), (0, .ref x), (1, .int (a1)), (2, .int (a2))]) X.1 X.2.1 dX11_run_46 hl (k := 0) rfl (by rw [ex_54]; rfl) (by decide) rfl (fun ls hl => ?_)
            obtain ⟨x_56, ex_56⟩ : ∃ y : Int32, y = i5_20 + 1 := ⟨_, rfl⟩
            have z_57 : x_56.toInt = i5_20_z + 1 := z_add ex_56 hz_i5_20 ti_1 (by omega) (by omega)
            refine lv_iinc (v := x_56) (lv' := [(5, .int (x_56)), (4, .int (x_54)), (3, .ref q_5), (0, .ref x), (1, .int (a1)), (2, .int (a2))]) X.1 X.2.1 dX11_run_49 hl (k := 1) rfl (by rw [ex_56]; rfl) (by decide) rfl (fun ls hl => ?_)
            refine lv_goto (tgt := 29) X.1 X.2.1 dX11_run_52 (by decide) ?_
            have t_58 : At S_43 q_5 4 := hk_46.fr.at ha_q_5_L_22
            have t_59 : At S_43 x 11 := hk_46.fr.at ha_x_L_23
            have tc_60 : Tch A S S_43 := Tch_tr iv_25 f_50
            have pin_61 : PIn A S_43 q_5 := PIn_fr hO_T_21.1 ha_q_5_L_22 hk_46.fr (by decide +kernel) iv_26
            exact ih _ (by omega) _ _ _ _ (x_54) (x_54.toInt) (x_56) (x_56.toInt) (c_44) (n_45) rfl hw rfl (by omega) rfl (by omega) t_58 t_59 hO_49 (by omega) tc_60 pin_61 (by omega) (by omega) (lv_sub hl [1, 0, 2, 3, 4, 5] rfl)
          · have z_b_62 := trivial
            refine lv_if_eq (tgt := 49) X.1 X.2.1 dX11_run_43 (by decide) (fun c_63 => ?_) (fun c_63 => absurd c_63 (by decide))
            obtain ⟨x_64, ex_64⟩ : ∃ y : Int32, y = i5_20 + 1 := ⟨_, rfl⟩
            have z_65 : x_64.toInt = i5_20_z + 1 := z_add ex_64 hz_i5_20 ti_1 (by omega) (by omega)
            refine lv_iinc (v := x_64) (lv' := [(5, .int (x_64)), (4, .int (i4_19)), (3, .ref q_5), (0, .ref x), (1, .int (a1)), (2, .int (a2))]) X.1 X.2.1 dX11_run_49 hl (k := 1) rfl (by rw [ex_64]; rfl) (by decide) rfl (fun ls hl => ?_)
            refine lv_goto (tgt := 29) X.1 X.2.1 dX11_run_52 (by decide) ?_
            have t_66 : At S_43 q_5 4 := hk_46.fr.at ha_q_5_L_22
            have t_67 : At S_43 x 11 := hk_46.fr.at ha_x_L_23
            have tc_68 : Tch A S S_43 := Tch_tr iv_25 f_50
            have pin_69 : PIn A S_43 q_5 := PIn_fr hO_T_21.1 ha_q_5_L_22 hk_46.fr (by decide +kernel) iv_26
            exact ih _ (by omega) _ _ _ _ (i4_19) (i4_19_z) (x_64) (x_64.toInt) (c_44) (n_45) rfl hw hz_i4_19 (by omega) rfl (by omega) t_66 t_67 hO_49 (by omega) tc_68 pin_69 (by omega) (by omega) (lv_sub hl [1, 0, 2, 3, 4, 5] rfl)
      exact L_18 _ _ _ _ _ (0) (0) (0) (0) (0) (0) rfl hw ti_0 (by omega) ti_0 (by omega) ha_7 ha_x hO (by omega) htc0 pin_11 (by omega) (by omega) (lv_sub hl [1, 0, 2, 3, 4, 5] rfl)
    · have z_b_70 := trivial
      refine lv_if_ne (tgt := 23) X.1 X.2.1 dX11_run_18 (by decide) (fun c_71 => absurd c_71 (by decide)) (fun c_71 => ?_)
      refine lv_iconst (v := (-1)) X.1 X.2.1 dX11_run_21 (by decide) ?_
      rw [hQQ]
      exact ret_gi X hw hr hlocks (by show 0 ≤ Phc S + 8; omega) (by show 0 ≤ Phs S + 15019; omega) (by omega) (by omega) ⟨hO, ⟨z_lo _, z_hi _, htc0⟩⟩ dX11_run_22
set_option maxHeartbeats 4000000 in
set_option maxRecDepth 100000 in
theorem k_X4_receive3 (l : Launch) (G : va_G) (cy : Nat → ClassId) (κ : Nat → Nat) (S : PS) (sz : Nat) (x : Nat) (c1 : Option Nat) (A : Nat → Prop) (hG : GX S) (ha_x : At S x 4) (hq_c1 : ∀ q, c1 = some q → At S q 0) (hp_0 : AO A S) (hp_1 : PIn A S x) : Cv l yX4_receive wsX4_receive ({ frames := 3, cells := 0, slots := 0, locals := 144 }) G cy κ S sz [.ref x, va_rf c1] (fun (S9 : PS) => Ok eRC S S9 ∧ (RcP A S S9 c1)) := by
  rcases c1 with _ | q_c1
  · have z_b_1 := trivial
    refine ent_m (cc := cX4_receive) (maxL := 2) (ret := none) (by decide) rfl (Nat.le_of_ble_eq_true rfl) ?_
    intro p e s m below meth c ls X hr hlocks hin hw hl hsz
    subst hsz
    have X : Cx p c cX4_receive 2 s [.ref x, .null].toArray wsX4_receive RX4 m G cy κ (AS S s.heap.size) := X
    have hl : lv_has ls 2 [(0, .ref x), (1, .null)] := hl
    have hO : Ok eRC S S := Ok.rf hG
    obtain ⟨q_2, h_3, h_4⟩ := gQ_4_400 hO.1 ha_x
    obtain ⟨q_6, n_7, h_8, h_9, h_10, h_11, h_12⟩ := gRowQ hO.1 h_4
    have hA_13 : A q_6 := hp_1 _ _ (Or.inl h_3) h_8
    obtain ⟨q_14, h_15, h_16⟩ := gQ_4_401 hO.1 ha_x
    obtain ⟨q_18, n_19, h_20, h_21, h_22, h_23, h_24⟩ := gRowQ hO.1 h_16
    have hA_25 : A q_18 := hp_1 _ _ (Or.inr (Or.inl h_15)) h_20
    obtain ⟨q_26, h_27, h_28⟩ := gQ_4_402 hO.1 ha_x
    obtain ⟨q_30, n_31, h_32, h_33, h_34, h_35, h_36⟩ := gRowQ hO.1 h_28
    have hA_37 : A q_30 := hp_1 _ _ (Or.inr (Or.inr h_27)) h_32
    refine lv_aload_nN X.1 X.2.1 dX4_receive_0 rfl (lv_at hl 1 rfl) ?_
    refine lv_ifnullN (tgt := 25) X.1 X.2.1 dX4_receive_1 (by decide) ?_
    exact ret_v X hw hr hlocks (Nat.le_of_ble_eq_true rfl) (Nat.le_of_ble_eq_true rfl) ⟨hO, ⟨fun _ _ _ => rfl, fun q h => (by cases h), fun _ h => Or.inl h⟩⟩ dX4_receive_25
  · have z_b_38 := trivial
    have ha_q_c1 : At S q_c1 0 := hq_c1 _ rfl
    refine ent_m (cc := cX4_receive) (maxL := 2) (ret := none) (by decide) rfl (Nat.le_of_ble_eq_true rfl) ?_
    intro p e s m below meth c ls X hr hlocks hin hw hl hsz
    subst hsz
    have X : Cx p c cX4_receive 2 s [.ref x, .ref q_c1].toArray wsX4_receive RX4 m G cy κ (AS S s.heap.size) := X
    have hl : lv_has ls 2 [(0, .ref x), (1, .ref q_c1)] := hl
    have hO : Ok eRC S S := Ok.rf hG
    obtain ⟨q_39, h_40, h_41⟩ := gQ_4_400 hO.1 ha_x
    obtain ⟨q_43, n_44, h_45, h_46, h_47, h_48, h_49⟩ := gRowQ hO.1 h_41
    have hA_50 : A q_43 := hp_1 _ _ (Or.inl h_40) h_45
    obtain ⟨q_51, h_52, h_53⟩ := gQ_4_401 hO.1 ha_x
    obtain ⟨q_55, n_56, h_57, h_58, h_59, h_60, h_61⟩ := gRowQ hO.1 h_53
    have hA_62 : A q_55 := hp_1 _ _ (Or.inr (Or.inl h_52)) h_57
    obtain ⟨q_63, h_64, h_65⟩ := gQ_4_402 hO.1 ha_x
    obtain ⟨q_67, n_68, h_69, h_70, h_71, h_72, h_73⟩ := gRowQ hO.1 h_65
    have hA_74 : A q_67 := hp_1 _ _ (Or.inr (Or.inr h_64)) h_69
    refine lv_aload_n X.1 X.2.1 dX4_receive_0 rfl (lv_at hl 1 rfl) ?_
    refine lv_ifnull X.1 X.2.1 dX4_receive_1 ?_
    refine lv_aload_n X.1 X.2.1 dX4_receive_4 rfl (lv_at hl 1 rfl) ?_
    refine lv_aload_n X.1 X.2.1 dX4_receive_5 rfl (lv_at hl 0 rfl) ?_
    obtain ⟨v_75, ev_75⟩ : ∃ v, pI S 410 x = v := ⟨_, rfl⟩
    have rg_77 := And.intro (z_lo v_75) (z_hi v_75)
    refine r_getI (g := 410) (x := v_75) X hw ha_x rfl 10 ev_75 (by decide) rfl inn_X4_receive_4 (by decide) (X.2.2.2.1 (.fieldLink RX4 40 "SilkMill$Pot" "potNumber" "I") (by decide +kernel)) rfl (gv_410 _ _) dX4_receive_6 ?_
    refine r_putI (v := v_75) X hw ha_q_c1 rfl 5 5 tyX0 (by decide) rfl inn_X4_receive_0 tyX0_ok nmX0 (by decide) (X.2.2.2.1 (.fieldLink RX4 50 "SilkMill$Cocoon" "potNumber" "I") (by decide +kernel)) rfl (Or.inl rfl) rfl rfl (Nat.le_of_ble_eq_true rfl) (st_5 _ _) dX4_receive_9 (fun H locs hw => ?_)
    obtain ⟨S_78, eS_78⟩ : ∃ T, T = sI S 5 q_c1 (v_75) := ⟨_, rfl⟩
    rw [← eS_78] at hw
    have hO_79 : Ok eRC S S_78 := hO.sI eS_78 (by decide +kernel) (uI_0_5 hO.1 ha_q_c1)
    have h_80 : pI S_78 5 q_c1 = v_75 := tI_sIs eS_78
    refine lv_aload_n X.1 X.2.1 dX4_receive_12 rfl (lv_at hl 1 rfl) ?_
    refine lv_iconst (v := 1) X.1 X.2.1 dX4_receive_13 (by decide) ?_
    have t_81 : At S_78 q_c1 0 := tAt_sI eS_78 ha_q_c1
    refine r_putI (v := 1) X hw t_81 rfl 3 3 tyX0 (by decide) rfl inn_X4_receive_0 tyX0_ok nmX0 (by decide) (X.2.2.2.1 (.fieldLink RX4 53 "SilkMill$Cocoon" "stand" "I") (by decide +kernel)) rfl (Or.inl rfl) rfl rfl (Nat.le_of_ble_eq_true rfl) (st_3 _ _) dX4_receive_14 (fun H locs hw => ?_)
    obtain ⟨S_82, eS_82⟩ : ∃ T, T = sI S_78 3 q_c1 (1) := ⟨_, rfl⟩
    rw [← eS_82] at hw
    have hO_83 : Ok eRC S S_82 := hO_79.sI eS_82 (by decide +kernel) (uI_0_3 hO_79.1 t_81)
    have h_84 : pI S_82 3 q_c1 = 1 := tI_sIs eS_82
    refine lv_aload_n X.1 X.2.1 dX4_receive_17 rfl (lv_at hl 0 rfl) ?_
    have t_85 : At S_78 x 4 := tAt_sI eS_78 ha_x
    have t_86 : At S_82 x 4 := tAt_sI eS_82 t_85
    have t_87 : pR S_78 400 x = some q_39 := tR_sI eS_78 h_40
    have t_88 : pR S_82 400 x = some q_39 := tR_sI eS_82 t_87
    refine r_getR (g := 400) X hw t_86 rfl 0 t_88 (by decide) rfl inn_X4_receive_4 (by decide) (X.2.2.2.1 (.fieldLink RX4 14 "SilkMill$Pot" "basket" "LSilkMill$Row;") (by decide +kernel)) rfl (gv_400 _ _) dX4_receive_18 ?_
    refine lv_aload_n X.1 X.2.1 dX4_receive_21 rfl (lv_at hl 1 rfl) ?_
    have t_89 : At S_78 q_39 5 := tAt_sI eS_78 h_41
    have t_90 : At S_82 q_39 5 := tAt_sI eS_82 t_89
    have t_91 : At S_82 q_c1 0 := tAt_sI eS_82 t_81
    have t_92 : pR S_78 501 q_39 = some q_43 := tR_sI eS_78 h_45
    have t_93 : pR S_82 501 q_39 = some q_43 := tR_sI eS_82 t_92
    have t_94 : pN S_78 q_43 = n_44 := tN_sI eS_78 h_47
    clear h_47
    have t_95 : pN S_82 q_43 = n_44 := tN_sI eS_82 t_94
    clear t_94
    refine k_v (rm := { frames := 2, cells := 0, slots := 0, locals := 96 }) (av := [.ref q_39, .ref q_c1]) X hw (va_runV (As := [.ref q_c1]) (rest := []) (cfix X) (k_X5_addLast3 l G cy κ S_82 _ q_39 q_c1 A hO_83.1 t_90 t_91 (fun q hq => by rw [eS_82, eS_78]; exact hp_0 q hq) (fun q h => by rw [t_93] at h; cases h; exact hA_50)) (cwV 1 X.2.2.2.1 gX4_receive_X5_addLast rfl rfl rfl (by decide +kernel) ⟨Nat.le_of_ble_eq_true rfl, Nat.le_of_ble_eq_true rfl⟩) (pre_V X hw _ t_90 rfl (by decide) rfl) rfl rfl hl.1 rfl (lv_room (Nat.le_of_ble_eq_true rfl)) dX4_receive_22 ⟨Nat.le_of_ble_eq_true rfl, Nat.le_of_ble_eq_true rfl⟩) 0 0 (Nat.le_of_ble_eq_true rfl) (Nat.le_of_ble_eq_true rfl) (fun S_97 H locs hp hw hfr hnw => ?_)
    obtain ⟨hk_98, hp⟩ := hp
    have hO_99 : Ok eRC S S_97 := hO_83.call hk_98 (by decide +kernel)
    have hA_100 := hp
    exact ret_v X hw hr hlocks (Nat.le_of_ble_eq_true rfl) (Nat.le_of_ble_eq_true rfl) ⟨hO_99, ⟨fun d hd hn => (hk_98.fr.I' (by decide +kernel) (show At S_82 d 0 by rw [eS_82, eS_78]; exact hd) rfl).trans (by rw [eS_82, eS_78]; rw [pI_sI_ne (fun e => hn (by rw [e])), pI_sI_ne (fun e => hn (by rw [e]))]), fun q h => (by cases h; exact hk_98.fr.I' (by decide +kernel) t_91 h_84), fun d hd => (by rcases hA_100 d hd with h | h; exact Or.inl (by rw [eS_82, eS_78] at h; exact h); exact Or.inr (by rw [h]))⟩⟩ dX4_receive_25
set_option maxHeartbeats 4000000 in
set_option maxRecDepth 100000 in
theorem k_X11_cocoonAt3 (l : Launch) (G : va_G) (cy : Nat → ClassId) (κ : Nat → Nat) (S : PS) (sz : Nat) (x : Nat) (a1 : Int32) (a1_z : Int) (a2 : Int32) (a2_z : Int) (hG : GX S) (ha_x : At S x 11) (hz_a1 : a1.toInt = a1_z) (hz_a2 : a2.toInt = a2_z) : Cq l yX11_cocoonAt wsX11_cocoonAt ({ frames := 1, cells := 0, slots := 0, locals := 48 }) G cy κ S sz [.ref x, .int (a1), .int (a2)] (fun (r : Option Nat) (S9 : PS) => S = S9 ∧ ((∀ q, r = some q → At S9 q 0 ∧ InC S x a1_z a2_z ∧ mB S x 1100 (60 * a1_z + a2_z).toNat = some q) ∧ (r = none → (¬ InC S x a1_z a2_z ∨ mB S x 1100 (60 * a1_z + a2_z).toNat = none)))) := by
  refine ent_m (cc := cX11_cocoonAt) (maxL := 3) (ret := (some (.object "SilkMill$Cocoon"))) (by decide) rfl (Nat.le_of_ble_eq_true rfl) ?_
  intro p e s m below meth c ls X hr hlocks hin hw hl hsz
  subst hsz
  have X : Cx p c cX11_cocoonAt 3 s [.ref x, .int (a1), .int (a2)].toArray wsX11_cocoonAt RX11 m G cy κ (AS S s.heap.size) := X
  have hl : lv_has ls 3 [(0, .ref x), (1, .int (a1)), (2, .int (a2))] := hl
  have rg_a1 : (-2147483648) ≤ a1_z ∧ a1_z ≤ 2147483647 := by rw [← hz_a1]; exact ⟨z_lo _, z_hi _⟩
  have rg_a2 : (-2147483648) ≤ a2_z ∧ a2_z ≤ 2147483647 := by rw [← hz_a2]; exact ⟨z_lo _, z_hi _⟩
  refine lv_iload_n X.1 X.2.1 dX11_cocoonAt_0 rfl (lv_at hl 1 rfl) ?_
  refine lv_if_lt (tgt := 26) X.1 X.2.1 dX11_cocoonAt_1 (by decide) (fun c_1 => ?_) (fun c_1 => ?_)
  · have z_b_2 := trivial
    have k_3 : a1_z < 0 := z_lt hz_a1 ti_0 c_1
    refine lv_null X.1 X.2.1 dX11_cocoonAt_26 ?_
    exact ret_q none rfl X hw hr hlocks (Nat.le_of_ble_eq_true rfl) (Nat.le_of_ble_eq_true rfl) ⟨rfl, ⟨fun q h => (by cases h), fun _ => Or.inl (fun h => by obtain ⟨i1, i2, i3, i4⟩ := h; omega)⟩⟩ dX11_cocoonAt_27
  · have z_b_4 := trivial
    have k_5 : a1_z ≥ 0 := z_nlt hz_a1 ti_0 c_1
    refine lv_iload_n X.1 X.2.1 dX11_cocoonAt_4 rfl (lv_at hl 1 rfl) ?_
    refine lv_aload_n X.1 X.2.1 dX11_cocoonAt_5 rfl (lv_at hl 0 rfl) ?_
    obtain ⟨v_6, ev_6⟩ : ∃ v, pI S 1102 x = v := ⟨_, rfl⟩
    have rg_7 := gI_11_1102 hG ha_x; rw [ev_6] at rg_7
    have pz_8 : (pI S 1102 x).toInt = v_6.toInt := by rw [ev_6]
    refine r_getI (g := 1102) (x := v_6) X hw ha_x rfl 2 ev_6 (by decide) rfl inn_X11_cocoonAt_11 (by decide) (X.2.2.2.1 (.fieldLink RX11 63 "SilkMill" "lots" "I") (by decide +kernel)) rfl (gv_1102 _ _) dX11_cocoonAt_6 ?_
    refine lv_icmp_ge (tgt := 26) X.1 X.2.1 dX11_cocoonAt_9 (by decide) (fun c_9 => ?_) (fun c_9 => ?_)
    · have z_b_10 := trivial
      have k_11 : a1_z ≥ v_6.toInt := z_le rfl hz_a1 c_9
      refine lv_null X.1 X.2.1 dX11_cocoonAt_26 ?_
      exact ret_q none rfl X hw hr hlocks (Nat.le_of_ble_eq_true rfl) (Nat.le_of_ble_eq_true rfl) ⟨rfl, ⟨fun q h => (by cases h), fun _ => Or.inl (fun h => by obtain ⟨i1, i2, i3, i4⟩ := h; omega)⟩⟩ dX11_cocoonAt_27
    · have z_b_12 := trivial
      have k_13 : a1_z < v_6.toInt := z_nle rfl hz_a1 c_9
      refine lv_iload_n X.1 X.2.1 dX11_cocoonAt_12 rfl (lv_at hl 2 rfl) ?_
      refine lv_if_lt (tgt := 26) X.1 X.2.1 dX11_cocoonAt_13 (by decide) (fun c_14 => ?_) (fun c_14 => ?_)
      · have z_b_15 := trivial
        have k_16 : a2_z < 0 := z_lt hz_a2 ti_0 c_14
        refine lv_null X.1 X.2.1 dX11_cocoonAt_26 ?_
        exact ret_q none rfl X hw hr hlocks (Nat.le_of_ble_eq_true rfl) (Nat.le_of_ble_eq_true rfl) ⟨rfl, ⟨fun q h => (by cases h), fun _ => Or.inl (fun h => by obtain ⟨i1, i2, i3, i4⟩ := h; omega)⟩⟩ dX11_cocoonAt_27
      · have z_b_17 := trivial
        have k_18 : a2_z ≥ 0 := z_nlt hz_a2 ti_0 c_14
        refine lv_iload_n X.1 X.2.1 dX11_cocoonAt_16 rfl (lv_at hl 2 rfl) ?_
        refine lv_aload_n X.1 X.2.1 dX11_cocoonAt_17 rfl (lv_at hl 0 rfl) ?_
        obtain ⟨q_19, h_20, h_21, h_22⟩ := gQ_11_1101 hG ha_x
        refine r_getR (g := 1101) X hw ha_x rfl 1 h_20 (by decide) rfl inn_X11_cocoonAt_11 (by decide) (X.2.2.2.1 (.fieldLink RX11 15 "SilkMill" "lotSizes" "[I") (by decide +kernel)) rfl (gv_1101 _ _) dX11_cocoonAt_18 ?_
        refine lv_iload_n X.1 X.2.1 dX11_cocoonAt_21 rfl (lv_at hl 1 rfl) ?_
        refine r_iald X hw h_21 rfl (by rw [h_22]; exact z_ix hz_a1 (by omega) (by omega)) dX11_cocoonAt_22 ?_
        refine lv_topi (fun v_23 ev_23 => ?_)
        have z_24 := gE_54 hG h_21 (Int32.toNatClampNeg (a1)); rw [← ev_23] at z_24
        have ev_23 := ev_23.symm
        have zf_25 : zA S x 1101 (a1_z).toNat = v_23.toInt := (zA_of h_20 hz_a1 (by omega) ev_23)
        refine lv_icmp_lt (tgt := 28) X.1 X.2.1 dX11_cocoonAt_23 (by decide) (fun c_26 => ?_) (fun c_26 => ?_)
        · have z_b_27 := trivial
          have k_28 : a2_z < v_23.toInt := z_lt hz_a2 rfl c_26
          refine lv_aload_n X.1 X.2.1 dX11_cocoonAt_28 rfl (lv_at hl 0 rfl) ?_
          obtain ⟨q_29, h_30, h_31, h_32⟩ := gQ_11_1100 hG ha_x
          refine r_getR (g := 1100) X hw ha_x rfl 0 h_30 (by decide) rfl inn_X11_cocoonAt_11 (by decide) (X.2.2.2.1 (.fieldLink RX11 11 "SilkMill" "cocoons" "[LSilkMill$Cocoon;") (by decide +kernel)) rfl (gv_1100 _ _) dX11_cocoonAt_29 ?_
          refine lv_iload_n X.1 X.2.1 dX11_cocoonAt_32 rfl (lv_at hl 1 rfl) ?_
          refine lv_bipush (v := 60) X.1 X.2.1 dX11_cocoonAt_33 (by decide) ?_
          refine lv_imul X.1 X.2.1 dX11_cocoonAt_35 ?_
          refine lv_topi (fun v_33 ev_33 => ?_)
          have z_34 : v_33.toInt = a1_z * 60 := z_mul ev_33 hz_a1 ti_60 (by omega) (by omega)
          refine lv_iload_n X.1 X.2.1 dX11_cocoonAt_36 rfl (lv_at hl 2 rfl) ?_
          refine lv_iadd X.1 X.2.1 dX11_cocoonAt_37 ?_
          refine lv_topi (fun v_35 ev_35 => ?_)
          have z_36 : v_35.toInt = v_33.toInt + a2_z := z_add ev_35 rfl hz_a2 (by omega) (by omega)
          refine r_aald X hw h_31 rfl (by decide) rfl (by rw [h_32]; exact z_ix rfl (by omega) (by omega)) dX11_cocoonAt_38 ?_
          rcases ho_37 : pB S q_29 (Int32.toNatClampNeg (v_35)) with _ | q_38
          · refine W.eq (g2 := F0 m 39 ls (.null :: [])) rfl ?_
            exact ret_q none rfl X hw hr hlocks (Nat.le_of_ble_eq_true rfl) (Nat.le_of_ble_eq_true rfl) ⟨rfl, ⟨fun q h => (by cases h), fun _ => Or.inr (by rw [mB_eq h_30, show (60 * a1_z + a2_z).toNat = Int32.toNatClampNeg (v_35) from by have hzn := z_nat (x := v_35) rfl (by omega); omega]; exact ho_37)⟩⟩ dX11_cocoonAt_39
          · refine W.eq (g2 := F0 m 39 ls (.ref q_38 :: [])) rfl ?_
            have ha_39 : At S q_38 0 := gEl_36 hG h_31 _ _ ho_37
            exact ret_q (some q_38) rfl X hw hr hlocks (Nat.le_of_ble_eq_true rfl) (Nat.le_of_ble_eq_true rfl) ⟨rfl, ⟨fun q h => (by cases h; exact ⟨ha_39, ⟨by omega, by omega, by omega, by omega⟩, by rw [mB_eq h_30, show (60 * a1_z + a2_z).toNat = Int32.toNatClampNeg (v_35) from by have hzn := z_nat (x := v_35) rfl (by omega); omega]; exact ho_37⟩), fun h => (by cases h)⟩⟩ dX11_cocoonAt_39
        · have z_b_40 := trivial
          have k_41 : a2_z ≥ v_23.toInt := z_nlt hz_a2 rfl c_26
          refine lv_null X.1 X.2.1 dX11_cocoonAt_26 ?_
          exact ret_q none rfl X hw hr hlocks (Nat.le_of_ble_eq_true rfl) (Nat.le_of_ble_eq_true rfl) ⟨rfl, ⟨fun q h => (by cases h), fun _ => Or.inl (fun h => by obtain ⟨i1, i2, i3, i4⟩ := h; omega)⟩⟩ dX11_cocoonAt_27
set_option maxHeartbeats 4000000 in
set_option maxRecDepth 100000 in
theorem k_X11_fill3 (l : Launch) (G : va_G) (cy : Nat → ClassId) (κ : Nat → Nat) (S : PS) (sz : Nat) (x : Nat) (a1 : Int32) (a1_z : Int) (a2 : Int32) (a2_z : Int) (a3 : Int32) (a3_z : Int) (a4 : Int32) (a4_z : Int) (A : Nat → Prop) (hG : GX S) (ha_x : At S x 11) (hz_a1 : a1.toInt = a1_z) (hz_a2 : a2.toInt = a2_z) (hz_a3 : a3.toInt = a3_z) (hz_a4 : a4.toInt = a4_z) (hp_0 : AO A S) (hp_1 : (∀ P, 0 ≤ a1_z → a1_z < (pI S 1104 x).toInt → mB S x 1103 a1_z.toNat = some P → PIn A S P)) : Ci l yX11_fill wsX11_fill ({ frames := 4, cells := 0, slots := 0, locals := 192 }) G cy κ S sz [.ref x, .int (a1), .int (a2), .int (a3), .int (a4)] (fun (r : Int32) (S9 : PS) => Ok eRC S S9 ∧ (((FilC S x a1_z a2_z a3_z a4_z ∧ FilP A S S9 x a2_z a3_z (a3_z + a4_z)) ∧ r = 1) ∨ (((PN S x → ¬ FilC S x a1_z a2_z a3_z a4_z) ∧ S9 = S) ∧ r = 0))) := by
  refine ent_m (cc := cX11_fill) (maxL := 8) (ret := (some .boolean)) (by decide) rfl (Nat.le_of_ble_eq_true rfl) ?_
  intro p e s m below meth c ls X hr hlocks hin hw hl hsz
  subst hsz
  have X : Cx p c cX11_fill 8 s [.ref x, .int (a1), .int (a2), .int (a3), .int (a4)].toArray wsX11_fill RX11 m G cy κ (AS S s.heap.size) := X
  have hl : lv_has ls 8 [(0, .ref x), (1, .int (a1)), (2, .int (a2)), (3, .int (a3)), (4, .int (a4))] := hl
  have rg_a1 : (-2147483648) ≤ a1_z ∧ a1_z ≤ 2147483647 := by rw [← hz_a1]; exact ⟨z_lo _, z_hi _⟩
  have rg_a2 : (-2147483648) ≤ a2_z ∧ a2_z ≤ 2147483647 := by rw [← hz_a2]; exact ⟨z_lo _, z_hi _⟩
  have rg_a3 : (-2147483648) ≤ a3_z ∧ a3_z ≤ 2147483647 := by rw [← hz_a3]; exact ⟨z_lo _, z_hi _⟩
  have rg_a4 : (-2147483648) ≤ a4_z ∧ a4_z ≤ 2147483647 := by rw [← hz_a4]; exact ⟨z_lo _, z_hi _⟩
  have hO : Ok eRC S S := Ok.rf hG
  generalize hQQ : MQ below _ _ _ _ _ _ = QQ
  replace hQQ := hQQ.symm
  refine lv_aload_n X.1 X.2.1 dX11_fill_0 rfl (lv_at hl 0 rfl) ?_
  refine lv_iload_n X.1 X.2.1 dX11_fill_1 rfl (lv_at hl 1 rfl) ?_
  refine k_q (rm := { frames := 1, cells := 0, slots := 0, locals := 48 }) (av := [.ref x, .int (a1)]) X hw (va_runV (As := [.int (a1)]) (rest := []) (cfix X) (k_X11_potAt3 l G cy κ S _ x (a1) (a1_z) hO.1 ha_x hz_a1) (cwV 1 X.2.2.2.1 gX11_fill_X11_potAt rfl rfl rfl (by decide +kernel) ⟨Nat.le_of_ble_eq_true rfl, Nat.le_of_ble_eq_true rfl⟩) (pre_V X hw _ ha_x rfl (by decide) rfl) rfl rfl hl.1 rfl (lv_room (Nat.le_of_ble_eq_true rfl)) dX11_fill_2 ⟨Nat.le_of_ble_eq_true rfl, Nat.le_of_ble_eq_true rfl⟩) 0 0 (Nat.le_of_ble_eq_true rfl) (Nat.le_of_ble_eq_true rfl) (fun rr_1 S_2 H locs hp hw hfr hnw => ?_)
  obtain ⟨e2, hp⟩ := hp
  subst e2
  obtain ⟨hq_3, hnf_4⟩ := hp
  rcases rr_1 with _ | q_5
  · refine W.eq (g2 := F0 m 5 ls (.null :: [])) rfl ?_
    have nf_6 := hnf_4 rfl
    refine lv_astoreN (lv' := [(5, .null), (0, .ref x), (1, .int (a1)), (2, .int (a2)), (3, .int (a3)), (4, .int (a4))]) X.1 X.2.1 dX11_fill_5 hl (by decide) rfl (fun ls hl => ?_)
    refine lv_aloadN X.1 X.2.1 dX11_fill_7 (lv_at hl 0 rfl) ?_
    refine lv_ifnullN (tgt := 33) X.1 X.2.1 dX11_fill_9 (by decide) ?_
    refine lv_iconst (v := 0) X.1 X.2.1 dX11_fill_33 (by decide) ?_
    rw [hQQ]
    exact ret_z X hw hr hlocks (Nat.le_of_ble_eq_true rfl) (Nat.le_of_ble_eq_true rfl) (by decide) ⟨hO, Or.inr ⟨⟨fun hPN h => nf_6 hPN ⟨h.1, h.2.1⟩, rfl⟩, rfl⟩⟩ dX11_fill_34
  · refine W.eq (g2 := F0 m 5 ls (.ref q_5 :: [])) rfl ?_
    obtain ⟨ha_7, f_8, f_9, f_10⟩ := hq_3 _ rfl
    have pin_11 : PIn A S q_5 := hp_1 _ f_8 f_9 f_10
    refine lv_astore (lv' := [(5, .ref q_5), (0, .ref x), (1, .int (a1)), (2, .int (a2)), (3, .int (a3)), (4, .int (a4))]) X.1 X.2.1 dX11_fill_5 hl (by decide) rfl (fun ls hl => ?_)
    refine lv_aload X.1 X.2.1 dX11_fill_7 (lv_at hl 0 rfl) ?_
    refine lv_ifnull X.1 X.2.1 dX11_fill_9 ?_
    refine lv_iload X.1 X.2.1 dX11_fill_12 (lv_at hl 5 rfl) ?_
    refine lv_iconst (v := 1) X.1 X.2.1 dX11_fill_14 (by decide) ?_
    refine lv_bipush (v := 60) X.1 X.2.1 dX11_fill_15 (by decide) ?_
    refine k_i (rm := { frames := 1, cells := 0, slots := 0, locals := 48 }) (av := [.int (a4), .int 1, .int 60]) X hw (va_runS (As := [.int (a4), .int 1, .int 60]) (rest := []) (cfix X) (k_X11_isWithin l G cy κ S _ (a4) (a4_z) (1) (1) (60) (60) hO.1 hz_a4 ti_1 ti_60) (cwS 3 X.2.2.2.1 gX11_fill_X11_isWithin rfl rfl rfl (by decide +kernel) ⟨Nat.le_of_ble_eq_true rfl, Nat.le_of_ble_eq_true rfl⟩) (pre_S X hw _) rfl rfl hl.1 rfl (lv_room (Nat.le_of_ble_eq_true rfl)) dX11_fill_17 ⟨Nat.le_of_ble_eq_true rfl, Nat.le_of_ble_eq_true rfl⟩) 0 0 (Nat.le_of_ble_eq_true rfl) (Nat.le_of_ble_eq_true rfl) (fun rr_12 S_13 H locs hp hw hfr hnw => ?_)
    obtain ⟨e2, hp⟩ := hp
    subst e2
    rcases hp with ⟨f_14, er_15⟩ | ⟨f_14, er_15⟩ <;> subst er_15
    · have z_b_16 := trivial
      refine lv_if_eq (tgt := 33) X.1 X.2.1 dX11_fill_20 (by decide) (fun c_17 => absurd c_17 (by decide)) (fun c_17 => ?_)
      refine lv_iload_n X.1 X.2.1 dX11_fill_23 rfl (lv_at hl 4 rfl) ?_
      refine lv_iconst (v := 0) X.1 X.2.1 dX11_fill_24 (by decide) ?_
      refine lv_bipush (v := 59) X.1 X.2.1 dX11_fill_25 (by decide) ?_
      refine k_i (rm := { frames := 1, cells := 0, slots := 0, locals := 48 }) (av := [.int (a3), .int 0, .int 59]) X hw (va_runS (As := [.int (a3), .int 0, .int 59]) (rest := []) (cfix X) (k_X11_isWithin l G cy κ S _ (a3) (a3_z) (0) (0) (59) (59) hO.1 hz_a3 ti_0 ti_59) (cwS 3 X.2.2.2.1 gX11_fill_X11_isWithin rfl rfl rfl (by decide +kernel) ⟨Nat.le_of_ble_eq_true rfl, Nat.le_of_ble_eq_true rfl⟩) (pre_S X hw _) rfl rfl hl.1 rfl (lv_room (Nat.le_of_ble_eq_true rfl)) dX11_fill_27 ⟨Nat.le_of_ble_eq_true rfl, Nat.le_of_ble_eq_true rfl⟩) 0 0 (Nat.le_of_ble_eq_true rfl) (Nat.le_of_ble_eq_true rfl) (fun rr_18 S_19 H locs hp hw hfr hnw => ?_)
      obtain ⟨e2, hp⟩ := hp
      subst e2
      rcases hp with ⟨f_20, er_21⟩ | ⟨f_20, er_21⟩ <;> subst er_21
      · have z_b_22 := trivial
        refine lv_if_ne (tgt := 35) X.1 X.2.1 dX11_fill_30 (by decide) (fun c_23 => ?_) (fun c_23 => absurd c_23 (by decide))
        refine lv_iload_n X.1 X.2.1 dX11_fill_35 rfl (lv_at hl 4 rfl) ?_
        refine lv_istore (lv' := [(6, .int (a3)), (5, .ref q_5), (0, .ref x), (1, .int (a1)), (2, .int (a2)), (3, .int (a3)), (4, .int (a4))]) X.1 X.2.1 dX11_fill_36 hl (by decide) rfl (fun ls hl => ?_)
        have L_24 : ∀ (n : Nat) (H : Heap) (locs : List Loc) (ls : Array Slot) (i6_25 : Int32) (i6_25_z : Int), ((119 - i6_25_z).toNat = n) → (Wd G cy (AS S s.heap.size) s.heap S H locs) → (i6_25.toInt = i6_25_z) → (0 ≤ i6_25_z ∧ i6_25_z ≤ 119) → ((∀ j : Int, a3_z ≤ j → j < i6_25_z → InC S x a2_z j ∧ ∃ c, mB S x 1100 (60 * a2_z + j).toNat = some c ∧ pI S 3 c = 0)) → (a3_z ≤ i6_25_z) → (lv_has ls 8 [(6, .int (i6_25)), (5, .ref q_5), (0, .ref x), (1, .int (a1)), (2, .int (a2)), (3, .int (a3)), (4, .int (a4))]) → W p l e ({ frames := 4, cells := 0, slots := 0, locals := 192 }) s m [.ref x, .int (a1), .int (a2), .int (a3), .int (a4)].toArray below meth c H locs 0 0 QQ (F0 m 38 ls []) := by
          intro n
          induction n using Nat.strongRecOn with
          | ind n ih =>
          intro H locs ls i6_25 i6_25_z hn hw hz_i6_25 hr_i6_25 iv_26 iv_27 hl
          have rg_28 : (-2147483648) ≤ i6_25_z ∧ i6_25_z ≤ 2147483647 := by rw [← hz_i6_25]; exact ⟨z_lo _, z_hi _⟩
          refine lv_iload X.1 X.2.1 dX11_fill_38 (lv_at hl 0 rfl) ?_
          refine lv_iload_n X.1 X.2.1 dX11_fill_40 rfl (lv_at hl 5 rfl) ?_
          refine lv_iload X.1 X.2.1 dX11_fill_41 (lv_at hl 6 rfl) ?_
          refine lv_iadd X.1 X.2.1 dX11_fill_43 ?_
          refine lv_topi (fun v_29 ev_29 => ?_)
          have z_30 : v_29.toInt = a3_z + a4_z := z_add ev_29 hz_a3 hz_a4 (by omega) (by omega)
          refine lv_icmp_ge (tgt := 77) X.1 X.2.1 dX11_fill_44 (by decide) (fun c_31 => ?_) (fun c_31 => ?_)
          · have z_b_32 := trivial
            have k_33 : i6_25_z ≥ v_29.toInt := z_le rfl hz_i6_25 c_31
            refine lv_iload_n X.1 X.2.1 dX11_fill_77 rfl (lv_at hl 5 rfl) ?_
            refine lv_istore (lv' := [(6, .int (a3)), (5, .ref q_5), (0, .ref x), (1, .int (a1)), (2, .int (a2)), (3, .int (a3)), (4, .int (a4))]) X.1 X.2.1 dX11_fill_78 hl (by decide) rfl (fun ls hl => ?_)
            have L_34 : ∀ (n : Nat) (T_36 : PS) (H : Heap) (locs : List Loc) (ls : Array Slot) (i6_35 : Int32) (i6_35_z : Int), ((119 - i6_35_z).toNat = n) → (Wd G cy (AS S s.heap.size) s.heap T_36 H locs) → (i6_35.toInt = i6_35_z) → (0 ≤ i6_35_z ∧ i6_35_z ≤ 119) → (At T_36 q_5 4) → (At T_36 x 11) → (Ok eRC S T_36) → (FilP A S T_36 x a2_z a3_z i6_35_z) → (PIn A T_36 q_5) → (a3_z ≤ i6_35_z ∧ i6_35_z ≤ a3_z + a4_z) → (lv_has ls 8 [(6, .int (i6_35)), (5, .ref q_5), (0, .ref x), (1, .int (a1)), (2, .int (a2)), (3, .int (a3)), (4, .int (a4))]) → W p l e ({ frames := 4, cells := 0, slots := 0, locals := 192 }) s m [.ref x, .int (a1), .int (a2), .int (a3), .int (a4)].toArray below meth c H locs 0 0 QQ (F0 m 80 ls []) := by
              intro n
              induction n using Nat.strongRecOn with
              | ind n ih =>
              intro T_36 H locs ls i6_35 i6_35_z hn hw hz_i6_35 hr_i6_35 ha_q_5_L_37 ha_x_L_38 hO_T_36 iv_39 iv_40 iv_41 hl
              have rg_42 : (-2147483648) ≤ i6_35_z ∧ i6_35_z ≤ 2147483647 := by rw [← hz_i6_35]; exact ⟨z_lo _, z_hi _⟩
              refine lv_iload X.1 X.2.1 dX11_fill_80 (lv_at hl 0 rfl) ?_
              refine lv_iload_n X.1 X.2.1 dX11_fill_82 rfl (lv_at hl 5 rfl) ?_
              refine lv_iload X.1 X.2.1 dX11_fill_83 (lv_at hl 6 rfl) ?_
              refine lv_iadd X.1 X.2.1 dX11_fill_85 ?_
              refine lv_topi (fun v_43 ev_43 => ?_)
              have z_44 : v_43.toInt = a3_z + a4_z := z_add ev_43 hz_a3 hz_a4 (by omega) (by omega)
              refine lv_icmp_ge (tgt := 107) X.1 X.2.1 dX11_fill_86 (by decide) (fun c_45 => ?_) (fun c_45 => ?_)
              · have z_b_46 := trivial
                have k_47 : i6_35_z ≥ v_43.toInt := z_le rfl hz_i6_35 c_45
                refine lv_iconst (v := 1) X.1 X.2.1 dX11_fill_107 (by decide) ?_
                rw [hQQ]
                exact ret_z X hw hr hlocks (Nat.le_of_ble_eq_true rfl) (Nat.le_of_ble_eq_true rfl) (by decide) ⟨hO_T_36, Or.inl ⟨⟨⟨by omega, by omega, by omega, by omega, by omega, fun j h1 h2 => iv_26 j h1 (by omega)⟩, by rw [show a3_z + a4_z = i6_35_z by omega]; exact iv_39⟩, rfl⟩⟩ dX11_fill_108
              · have z_b_48 := trivial
                have k_49 : i6_35_z < v_43.toInt := z_nle rfl hz_i6_35 c_45
                refine lv_aload X.1 X.2.1 dX11_fill_89 (lv_at hl 1 rfl) ?_
                refine lv_aload_n X.1 X.2.1 dX11_fill_91 rfl (lv_at hl 2 rfl) ?_
                refine lv_iload_n X.1 X.2.1 dX11_fill_92 rfl (lv_at hl 4 rfl) ?_
                refine lv_iload X.1 X.2.1 dX11_fill_93 (lv_at hl 0 rfl) ?_
                refine k_q (rm := { frames := 1, cells := 0, slots := 0, locals := 48 }) (av := [.ref x, .int (a2), .int (i6_35)]) X hw (va_runV (As := [.int (a2), .int (i6_35)]) (rest := [.ref q_5]) (cfix X) (k_X11_cocoonAt3 l G cy κ T_36 _ x (a2) (a2_z) (i6_35) (i6_35_z) hO_T_36.1 ha_x_L_38 hz_a2 hz_i6_35) (cwV 2 X.2.2.2.1 gX11_fill_X11_cocoonAt rfl rfl rfl (by decide +kernel) ⟨Nat.le_of_ble_eq_true rfl, Nat.le_of_ble_eq_true rfl⟩) (pre_V X hw _ ha_x_L_38 rfl (by decide) rfl) rfl rfl hl.1 rfl (lv_room (Nat.le_of_ble_eq_true rfl)) dX11_fill_95 ⟨Nat.le_of_ble_eq_true rfl, Nat.le_of_ble_eq_true rfl⟩) 0 0 (Nat.le_of_ble_eq_true rfl) (Nat.le_of_ble_eq_true rfl) (fun rr_50 S_51 H locs hp hw hfr hnw => ?_)
                obtain ⟨e2, hp⟩ := hp
                subst e2
                obtain ⟨hq_52, hnf_53⟩ := hp
                rcases rr_50 with _ | q_54
                · refine W.eq (g2 := F0 m 98 ls (.null :: .ref q_5 :: [])) rfl ?_
                  have nf_55 := hnf_53 rfl
                  have ok_56 := iv_26 i6_35_z (by omega) (by omega)
                  have mb_57 : mB T_36 x 1100 = mB S x 1100 := mB_frc hO_T_36.fr ha_x (ex3 (gQ_11_1100 hG ha_x)) (by decide +kernel) (by decide +kernel)
                  exfalso
                  obtain ⟨o1, c, o2, o3⟩ := ok_56
                  rcases nf_55 with o4 | o4
                  · exact o4 ((InC_fr hG ha_x hO_T_36.fr (by decide +kernel)).mpr o1)
                  · rw [mb_57, o2] at o4; cases o4
                · refine W.eq (g2 := F0 m 98 ls (.ref q_54 :: .ref q_5 :: [])) rfl ?_
                  obtain ⟨ha_58, f_59, f_60⟩ := hq_52 _ rfl
                  have ok_61 := iv_26 i6_35_z (by omega) (by omega)
                  have mb_62 : mB T_36 x 1100 = mB S x 1100 := mB_frc hO_T_36.fr ha_x (ex3 (gQ_11_1100 hG ha_x)) (by decide +kernel) (by decide +kernel)
                  have mq_63 : some q_54 = mB S x 1100 (60 * a2_z + i6_35_z).toNat := by rw [← mb_62]; exact f_60.symm
                  refine k_v (rm := { frames := 3, cells := 0, slots := 0, locals := 144 }) (av := [.ref q_5, .ref q_54]) X hw (va_runV (As := [.ref q_54]) (rest := []) (cfix X) (k_X4_receive3 l G cy κ T_36 _ q_5 (some q_54) A hO_T_36.1 ha_q_5_L_37 (fun q h => by cases h; exact ha_58) (AO_ext hO_T_36.fr.1 hp_0) iv_40) (cwV 1 X.2.2.2.1 gX11_fill_X4_receive rfl rfl rfl (by decide +kernel) ⟨Nat.le_of_ble_eq_true rfl, Nat.le_of_ble_eq_true rfl⟩) (pre_V X hw _ ha_q_5_L_37 rfl (by decide) rfl) rfl rfl hl.1 rfl (lv_room (Nat.le_of_ble_eq_true rfl)) dX11_fill_98 ⟨Nat.le_of_ble_eq_true rfl, Nat.le_of_ble_eq_true rfl⟩) 0 0 (Nat.le_of_ble_eq_true rfl) (Nat.le_of_ble_eq_true rfl) (fun S_65 H locs hp hw hfr hnw => ?_)
                  obtain ⟨hk_66, hp⟩ := hp
                  have hO_67 : Ok eRC S S_65 := hO_T_36.call hk_66 (by decide +kernel)
                  have rc_68 := hp
                  have fl_69 : FilP A S S_65 x a2_z a3_z (i6_35_z + 1) := FilP_step hG ha_x iv_39 hO_T_36.fr.1 rc_68 mq_63 (by omega)
                  obtain ⟨x_70, ex_70⟩ : ∃ y : Int32, y = i6_35 + 1 := ⟨_, rfl⟩
                  have z_71 : x_70.toInt = i6_35_z + 1 := z_add ex_70 hz_i6_35 ti_1 (by omega) (by omega)
                  refine lv_iinc (v := x_70) (lv' := [(6, .int (x_70)), (5, .ref q_5), (0, .ref x), (1, .int (a1)), (2, .int (a2)), (3, .int (a3)), (4, .int (a4))]) X.1 X.2.1 dX11_fill_101 hl (k := 0) rfl (by rw [ex_70]; rfl) (by decide) rfl (fun ls hl => ?_)
                  refine lv_goto (tgt := 80) X.1 X.2.1 dX11_fill_104 (by decide) ?_
                  have t_72 : At S_65 q_5 4 := hk_66.fr.at ha_q_5_L_37
                  have t_73 : At S_65 x 11 := hk_66.fr.at ha_x_L_38
                  have pin_74 : PIn A S_65 q_5 := PIn_fr hO_T_36.1 ha_q_5_L_37 hk_66.fr (by decide +kernel) iv_40
                  exact ih _ (by omega) _ _ _ _ (x_70) (x_70.toInt) rfl hw rfl (by omega) t_72 t_73 hO_67 (by rw [show x_70.toInt = i6_35_z + 1 by omega]; exact fl_69) pin_74 (by omega) (lv_sub hl [0, 1, 2, 3, 4, 5, 6] rfl)
            exact L_34 _ _ _ _ _ (a3) (a3_z) rfl hw hz_a3 (by omega) ha_7 ha_x hO (FilP_0) pin_11 (by omega) (lv_sub hl [0, 1, 2, 3, 4, 5, 6] rfl)
          · have z_b_75 := trivial
            have k_76 : i6_25_z < v_29.toInt := z_nle rfl hz_i6_25 c_31
            refine lv_aload_n X.1 X.2.1 dX11_fill_47 rfl (lv_at hl 2 rfl) ?_
            refine lv_iload_n X.1 X.2.1 dX11_fill_48 rfl (lv_at hl 4 rfl) ?_
            refine lv_iload X.1 X.2.1 dX11_fill_49 (lv_at hl 0 rfl) ?_
            refine k_q (rm := { frames := 1, cells := 0, slots := 0, locals := 48 }) (av := [.ref x, .int (a2), .int (i6_25)]) X hw (va_runV (As := [.int (a2), .int (i6_25)]) (rest := []) (cfix X) (k_X11_cocoonAt3 l G cy κ S _ x (a2) (a2_z) (i6_25) (i6_25_z) hO.1 ha_x hz_a2 hz_i6_25) (cwV 2 X.2.2.2.1 gX11_fill_X11_cocoonAt rfl rfl rfl (by decide +kernel) ⟨Nat.le_of_ble_eq_true rfl, Nat.le_of_ble_eq_true rfl⟩) (pre_V X hw _ ha_x rfl (by decide) rfl) rfl rfl hl.1 rfl (lv_room (Nat.le_of_ble_eq_true rfl)) dX11_fill_51 ⟨Nat.le_of_ble_eq_true rfl, Nat.le_of_ble_eq_true rfl⟩) 0 0 (Nat.le_of_ble_eq_true rfl) (Nat.le_of_ble_eq_true rfl) (fun rr_77 S_78 H locs hp hw hfr hnw => ?_)
            obtain ⟨e2, hp⟩ := hp
            subst e2
            obtain ⟨hq_79, hnf_80⟩ := hp
            rcases rr_77 with _ | q_81
            · refine W.eq (g2 := F0 m 54 ls (.null :: [])) rfl ?_
              have nf_82 := hnf_80 rfl
              refine lv_astoreN (lv' := [(7, .null), (6, .int (i6_25)), (5, .ref q_5), (0, .ref x), (1, .int (a1)), (2, .int (a2)), (3, .int (a3)), (4, .int (a4))]) X.1 X.2.1 dX11_fill_54 hl (by decide) rfl (fun ls hl => ?_)
              refine lv_aloadN X.1 X.2.1 dX11_fill_56 (lv_at hl 0 rfl) ?_
              refine lv_ifnullN (tgt := 69) X.1 X.2.1 dX11_fill_58 (by decide) ?_
              refine lv_iconst (v := 0) X.1 X.2.1 dX11_fill_69 (by decide) ?_
              rw [hQQ]
              exact ret_z X hw hr hlocks (Nat.le_of_ble_eq_true rfl) (Nat.le_of_ble_eq_true rfl) (by decide) ⟨hO, Or.inr ⟨⟨fun _ h => (by obtain ⟨o1, c, o2, o3⟩ := h.2.2.2.2.2 i6_25_z (by omega) (by omega); rcases nf_82 with o4 | o4; exact o4 o1; rw [o2] at o4; cases o4), rfl⟩, rfl⟩⟩ dX11_fill_70
            · refine W.eq (g2 := F0 m 54 ls (.ref q_81 :: [])) rfl ?_
              obtain ⟨ha_83, f_84, f_85⟩ := hq_79 _ rfl
              refine lv_astore (lv' := [(7, .ref q_81), (6, .int (i6_25)), (5, .ref q_5), (0, .ref x), (1, .int (a1)), (2, .int (a2)), (3, .int (a3)), (4, .int (a4))]) X.1 X.2.1 dX11_fill_54 hl (by decide) rfl (fun ls hl => ?_)
              refine lv_aload X.1 X.2.1 dX11_fill_56 (lv_at hl 0 rfl) ?_
              refine lv_ifnull X.1 X.2.1 dX11_fill_58 ?_
              refine lv_aload X.1 X.2.1 dX11_fill_61 (lv_at hl 0 rfl) ?_
              obtain ⟨v_86, ev_86⟩ : ∃ v, pI S 3 q_81 = v := ⟨_, rfl⟩
              have rg_88 := And.intro (z_lo v_86) (z_hi v_86)
              have pz_89 : (pI S 3 q_81).toInt = v_86.toInt := by rw [ev_86]
              refine r_getI (g := 3) (x := v_86) X hw ha_83 rfl 3 ev_86 (by decide) rfl inn_X11_fill_0 (by decide) (X.2.2.2.1 (.fieldLink RX11 81 "SilkMill$Cocoon" "stand" "I") (by decide +kernel)) rfl (gv_3 _ _) dX11_fill_63 ?_
              refine lv_if_eq (tgt := 71) X.1 X.2.1 dX11_fill_66 (by decide) (fun c_90 => ?_) (fun c_90 => ?_)
              · have z_b_91 := trivial
                have k_92 : v_86.toInt = 0 := z_eq rfl ti_0 c_90
                obtain ⟨x_93, ex_93⟩ : ∃ y : Int32, y = i6_25 + 1 := ⟨_, rfl⟩
                have z_94 : x_93.toInt = i6_25_z + 1 := z_add ex_93 hz_i6_25 ti_1 (by omega) (by omega)
                refine lv_iinc (v := x_93) (lv' := [(6, .int (x_93)), (7, .ref q_81), (5, .ref q_5), (0, .ref x), (1, .int (a1)), (2, .int (a2)), (3, .int (a3)), (4, .int (a4))]) X.1 X.2.1 dX11_fill_71 hl (k := 1) rfl (by rw [ex_93]; rfl) (by decide) rfl (fun ls hl => ?_)
                refine lv_goto (tgt := 38) X.1 X.2.1 dX11_fill_74 (by decide) ?_
                exact ih _ (by omega) _ _ _ (x_93) (x_93.toInt) rfl hw rfl (by omega) (fun j h1 h2 => by rcases (show j < i6_25_z ∨ j = i6_25_z by omega) with e | e; exact iv_26 j h1 e; rw [e]; exact ⟨f_84, _, f_85, Int32.toInt_inj.mp (by rw [ev_86, ti_0]; omega)⟩) (by omega) (lv_sub hl [0, 2, 3, 4, 5, 6, 7] rfl)
              · have z_b_95 := trivial
                have k_96 : v_86.toInt ≠ 0 := z_ne rfl ti_0 c_90
                refine lv_iconst (v := 0) X.1 X.2.1 dX11_fill_69 (by decide) ?_
                rw [hQQ]
                exact ret_z X hw hr hlocks (Nat.le_of_ble_eq_true rfl) (Nat.le_of_ble_eq_true rfl) (by decide) ⟨hO, Or.inr ⟨⟨fun _ h => (by obtain ⟨o1, c, o2, o3⟩ := h.2.2.2.2.2 i6_25_z (by omega) (by omega); rw [f_85] at o2; cases o2; rw [ev_86] at o3; have o5 := congrArg Int32.toInt o3; rw [ti_0] at o5; omega), rfl⟩, rfl⟩⟩ dX11_fill_70
        exact L_24 _ _ _ _ (a3) (a3_z) rfl hw hz_a3 (by omega) (fun j h1 h2 => absurd h2 (by omega)) (by omega) (lv_sub hl [0, 1, 2, 3, 4, 5, 6] rfl)
      · have z_b_97 := trivial
        refine lv_if_ne (tgt := 35) X.1 X.2.1 dX11_fill_30 (by decide) (fun c_98 => absurd c_98 (by decide)) (fun c_98 => ?_)
        refine lv_iconst (v := 0) X.1 X.2.1 dX11_fill_33 (by decide) ?_
        rw [hQQ]
        exact ret_z X hw hr hlocks (Nat.le_of_ble_eq_true rfl) (Nat.le_of_ble_eq_true rfl) (by decide) ⟨hO, Or.inr ⟨⟨fun _ h => (by obtain ⟨h1, h2, h3, h4, h5, h6⟩ := h; obtain ⟨⟨i1, i2, i3, i4⟩, -⟩ := h6 a3_z (by omega) (by omega); have i5 := il60 hG ha_x a2_z.toNat; omega), rfl⟩, rfl⟩⟩ dX11_fill_34
    · have z_b_99 := trivial
      refine lv_if_eq (tgt := 33) X.1 X.2.1 dX11_fill_20 (by decide) (fun c_100 => ?_) (fun c_100 => absurd c_100 (by decide))
      refine lv_iconst (v := 0) X.1 X.2.1 dX11_fill_33 (by decide) ?_
      rw [hQQ]
      exact ret_z X hw hr hlocks (Nat.le_of_ble_eq_true rfl) (Nat.le_of_ble_eq_true rfl) (by decide) ⟨hO, Or.inr ⟨⟨fun _ h => (by obtain ⟨h1, h2, h3, h4, h5, h6⟩ := h; obtain ⟨⟨i1, i2, i3, i4⟩, -⟩ := h6 a3_z (by omega) (by omega); have i5 := il60 hG ha_x a2_z.toNat; omega), rfl⟩, rfl⟩⟩ dX11_fill_34
