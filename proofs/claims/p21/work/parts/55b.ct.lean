/-! ===== a cocoon's fineness, in both ===== -/
def fcI (bs ln p : Int32) : Int32 := if 0 ≤ p.toInt ∧ p.toInt < ln.toInt then bs * thinF (8 * p.toInt / ln.toInt).toNat / 100 else 0
def CN (S : PS) (x : Nat) : Prop := ∀ l i : Nat, (l : Int) < (pI S 1102 x).toInt → (i : Int) < zA S x 1101 l → mB S x 1100 (60 * l + i) = none → False
theorem CN_of {S : PS} {x mo : Nat} (h : CT S x mo) : CN S x := fun l i hl hi ho => by
  rw [zA_eq] at hi
  obtain ⟨c, c1, -⟩ := (h l hl).2 i hi
  rw [ho] at c1
  cases c1
def InC (S : PS) (x : Nat) (l i : Int) : Prop := 0 ≤ l ∧ l < (pI S 1102 x).toInt ∧ 0 ≤ i ∧ i < zA S x 1101 l.toNat
def FC (S : PS) (x : Nat) (l i p : Int) : Prop := InC S x l i ∧ ∃ c, mB S x 1100 (60 * l + i).toNat = some c ∧ 0 ≤ p ∧ p < (pI S 2 c).toInt
def FV (S : PS) (x : Nat) (l i : Int) (p r : Int32) : Prop := ∃ c, mB S x 1100 (60 * l + i).toNat = some c ∧ r = fcI (pI S 8 c) (pI S 2 c) p
def RC (S : PS) (mo : Nat) (l i p : Int) : Prop := 0 ≤ l ∧ l < (pI S 1201 mo).toInt ∧ 0 ≤ i ∧ i < zA S mo 1202 l.toNat ∧ 0 ≤ p ∧ p < lenZ S mo (60 * l + i)
/-- the cocoon at a place, told by the reference's rows -/
theorem CT_get {S : PS} {x mo : Nat} {l i : Int} (h : CT S x mo) (hl0 : 0 ≤ l) (hl : l < (pI S 1102 x).toInt) (hi0 : 0 ≤ i) (hi : i < zA S x 1101 l.toNat) (hi9 : i < 60) : ∃ c, mB S x 1100 (60 * l + i).toNat = some c ∧ At S c 0 ∧ pI S 0 c = Int32.ofInt l ∧ pI S 1 c = Int32.ofInt i ∧ (pI S 2 c).toInt = lenZ S mo (60 * l + i) ∧ pI S 7 c = mA S mo 1203 l.toNat ∧ pI S 8 c = bsI (mA S mo 1203 l.toNat) (mA S mo 1204 l.toNat) (Int32.ofInt i) ∧ pI S 9 c = mA S mo 1206 l.toNat := by
  rw [zA_eq] at hi
  obtain ⟨c, c1, c2, c3⟩ := (h l.toNat (by omega)).2 i.toNat (by omega)
  rw [Int.toNat_of_nonneg hl0, Int.toNat_of_nonneg hi0] at c3
  refine ⟨c, ?_, c2, c3.1, c3.2.1, ?_, c3.2.2.2.1, c3.2.2.2.2.1, c3.2.2.2.2.2⟩
  · rw [show (60 * l + i).toNat = 60 * l.toNat + i.toNat by omega]; exact c1
  · rw [c3.2.2.1, lenZ_eq, show (60 * l + i) / 60 = l by omega, show (60 * l + i) % 60 = i by omega]
theorem CT_many {S : PS} {x mo : Nat} {l : Int} (h : CT S x mo) (hl0 : 0 ≤ l) (hl : l < (pI S 1102 x).toInt) : zA S x 1101 l.toNat = zA S mo 1202 l.toNat := by
  rw [zA_eq, zA_eq, (h l.toNat (by omega)).1]
theorem FC_RC {S : PS} {x mo : Nat} {l i p : Int} (hG : GX S) (hx : At S x 11) (h : CT S x mo) (ht : (pI S 1102 x).toInt = (pI S 1201 mo).toInt) : FC S x l i p ↔ RC S mo l i p := by
  have hs : ∀ n, zA S x 1101 n ≤ 60 := fun n => by
    obtain ⟨q, h1, h2, -⟩ := gQ_11_1101 hG hx
    rw [zA_eq, mA_eq h1]; exact (gE_54 hG h2 n).2
  constructor
  · rintro ⟨⟨a, b, c, d⟩, q, q1, q2, q3⟩
    have := hs l.toNat
    obtain ⟨c', c1, c2, c3, c4, c5, -⟩ := CT_get h a b c d (by omega)
    rw [q1] at c1
    cases c1
    have hm := CT_many h a b
    exact ⟨a, by omega, c, by omega, q2, by omega⟩
  · rintro ⟨a, b, c, d, e, f⟩
    have hm := CT_many h a (by omega)
    have := hs l.toNat
    obtain ⟨c', c1, c2, c3, c4, c5, -⟩ := CT_get h a (by omega) c (by omega) (by omega)
    exact ⟨⟨a, by omega, c, by omega⟩, c', c1, e, by omega⟩
theorem fc_fn {S : PS} {x mo : Nat} {l i : Int} {p r : Int32} {p_z : Int} (hG : GX S) (hx : At S x 11) (h : CT S x mo) (ht : (pI S 1102 x).toInt = (pI S 1201 mo).toInt) (hth : mA S mo 1210 = thinF) (hp : p.toInt = p_z) (hr : RC S mo l i p_z) (hv : FV S x l i p r) : r.toInt = fnZ S mo (60 * l + i) p_z := by
  have hs : ∀ n, zA S x 1101 n ≤ 60 := fun n => by
    obtain ⟨q, h1, h2, -⟩ := gQ_11_1101 hG hx
    rw [zA_eq, mA_eq h1]; exact (gE_54 hG h2 n).2
  obtain ⟨a, b, c, d, e, f⟩ := hr
  have hm := CT_many h a (by omega)
  have := hs l.toNat
  obtain ⟨c', c1, c2, c3, c4, c5, c6, c7, c8⟩ := CT_get h a (by omega) c (by omega) (by omega)
  obtain ⟨q, q1, q2⟩ := hv
  rw [c1] at q1
  cases q1
  rw [q2, fnZ_eq, show (60 * l + i) / 60 = l by omega, show (60 * l + i) % 60 = i by omega, hth]
  unfold fcI
  rw [hp, c5, if_pos ⟨e, f⟩, c7]
  rfl
theorem fnZ_fr {M : List Nat} {S S' : PS} {x : Nat} (hG : GX S) (ha : At S x 12) (hF : Fr M S S') (hM : ([1203, 1204, 1205, 1210, 10274, 10294, 10314, 10414] : List Nat).all (fun g => !M.contains g) = true) : fnZ S' x = fnZ S x := by
  funext c p
  rw [fnZ_eq, fnZ_eq, lenZ_fr hF ha (ex3 (gQ_12_1203 hG ha)) (ex3 (gQ_12_1205 hG ha)) (allc hM (by decide)) (allc hM (by decide)) (allc hM (by decide)) (allc hM (by decide)), mA_fr hF ha (ex3 (gQ_12_1203 hG ha)) (allc hM (by decide)) (allc hM (by decide)), mA_fr hF ha (ex3 (gQ_12_1204 hG ha)) (allc hM (by decide)) (allc hM (by decide)), mA_fr hF ha (ex3 (gQ_12_1210 hG ha)) (allc hM (by decide)) (allc hM (by decide))]

set_option maxHeartbeats 4000000 in
set_option maxRecDepth 100000 in
theorem k_X0_finenessAt2 (l : Launch) (G : va_G) (cy : Nat → ClassId) (κ : Nat → Nat) (S : PS) (sz : Nat) (x : Nat) (a1 : Int32) (a1_z : Int) (hG : GX S) (ha_x : At S x 0) (hz_a1 : a1.toInt = a1_z) : Ci l yX0_finenessAt wsX0_finenessAt ({ frames := 1, cells := 0, slots := 0, locals := 48 }) G cy κ S sz [.ref x, .int (a1)] (fun (r : Int32) (S9 : PS) => S = S9 ∧ (r = fcI (pI S 8 x) (pI S 2 x) a1)) := by
  refine ent_m (cc := cX0_finenessAt) (maxL := 2) (ret := (some .int)) (by decide) rfl (Nat.le_of_ble_eq_true rfl) ?_
  intro p e s m below meth c ls X hr hlocks hin hw hl hsz
  subst hsz
  have X : Cx p c cX0_finenessAt 2 s [.ref x, .int (a1)].toArray wsX0_finenessAt RX0 m G cy κ (AS S s.heap.size) := X
  have hl : lv_has ls 2 [(0, .ref x), (1, .int (a1))] := hl
  have rg_a1 : (-2147483648) ≤ a1_z ∧ a1_z ≤ 2147483647 := by rw [← hz_a1]; exact ⟨z_lo _, z_hi _⟩
  refine lv_iload_n X.1 X.2.1 dX0_finenessAt_0 rfl (lv_at hl 1 rfl) ?_
  refine lv_if_lt (tgt := 12) X.1 X.2.1 dX0_finenessAt_1 (by decide) (fun c_1 => ?_) (fun c_1 => ?_)
  · have z_b_2 := trivial
    have k_3 : a1_z < 0 := z_lt hz_a1 ti_0 c_1
    refine lv_iconst (v := 0) X.1 X.2.1 dX0_finenessAt_12 (by decide) ?_
    exact ret_i X hw hr hlocks (Nat.le_of_ble_eq_true rfl) (Nat.le_of_ble_eq_true rfl) ⟨rfl, (by unfold fcI; rw [if_neg (by omega)])⟩ dX0_finenessAt_13
  · have z_b_4 := trivial
    have k_5 : a1_z ≥ 0 := z_nlt hz_a1 ti_0 c_1
    refine lv_iload_n X.1 X.2.1 dX0_finenessAt_4 rfl (lv_at hl 1 rfl) ?_
    refine lv_aload_n X.1 X.2.1 dX0_finenessAt_5 rfl (lv_at hl 0 rfl) ?_
    obtain ⟨v_6, ev_6⟩ : ∃ v, pI S 2 x = v := ⟨_, rfl⟩
    have rg_7 := gI_0_2 hG ha_x; rw [ev_6] at rg_7
    have pz_8 : (pI S 2 x).toInt = v_6.toInt := by rw [ev_6]
    refine r_getI (g := 2) (x := v_6) X hw ha_x rfl 2 ev_6 (by decide) rfl inn_X0_finenessAt_0 (by decide) (X.2.2.2.1 (.fieldLink RX0 40 "SilkMill$Cocoon" "length" "I") (by decide +kernel)) rfl (gv_2 _ _) dX0_finenessAt_6 ?_
    refine lv_icmp_lt (tgt := 14) X.1 X.2.1 dX0_finenessAt_9 (by decide) (fun c_9 => ?_) (fun c_9 => ?_)
    · have z_b_10 := trivial
      have k_11 : a1_z < v_6.toInt := z_lt hz_a1 rfl c_9
      refine lv_aload_n X.1 X.2.1 dX0_finenessAt_14 rfl (lv_at hl 0 rfl) ?_
      obtain ⟨v_12, ev_12⟩ : ∃ v, pI S 8 x = v := ⟨_, rfl⟩
      have rg_14 := And.intro (z_lo v_12) (z_hi v_12)
      have pz_15 : (pI S 8 x).toInt = v_12.toInt := by rw [ev_12]
      refine r_getI (g := 8) (x := v_12) X hw ha_x rfl 8 ev_12 (by decide) rfl inn_X0_finenessAt_0 (by decide) (X.2.2.2.1 (.fieldLink RX0 43 "SilkMill$Cocoon" "base" "I") (by decide +kernel)) rfl (gv_8 _ _) dX0_finenessAt_15 ?_
      refine va_getsN (host := RX11) X.1 X.2.1 X.2.2.2.2.2.2.2.2.1 hw.2.2 X.2.2.2.2.1 (va_Nw.use rfl X.2.2.2.2.2.2.2.1.2.2.2.2.1) (fun x h => h) dX0_finenessAt_18 ?_
      refine lv_bipush (v := 8) X.1 X.2.1 dX0_finenessAt_21 (by decide) ?_
      refine lv_iload_n X.1 X.2.1 dX0_finenessAt_23 rfl (lv_at hl 1 rfl) ?_
      refine lv_imul X.1 X.2.1 dX0_finenessAt_24 ?_
      refine lv_topi (fun v_16 ev_16 => ?_)
      have z_17 : v_16.toInt = 8 * a1_z := z_mul ev_16 ti_8 hz_a1 (by omega) (by omega)
      refine lv_aload_n X.1 X.2.1 dX0_finenessAt_25 rfl (lv_at hl 0 rfl) ?_
      refine r_getI (g := 2) (x := v_6) X hw ha_x rfl 2 ev_6 (by decide) rfl inn_X0_finenessAt_0 (by decide) (X.2.2.2.1 (.fieldLink RX0 40 "SilkMill$Cocoon" "length" "I") (by decide +kernel)) rfl (gv_2 _ _) dX0_finenessAt_26 ?_
      refine lv_idiv X.1 X.2.1 dX0_finenessAt_29 (z_nz rfl (by omega)) ?_
      refine lv_topi (fun v_18 ev_18 => ?_)
      have z_19 : v_18.toInt = v_16.toInt / v_6.toInt := z_div ev_18 rfl rfl (by omega) (by omega)
      have z_20 : v_18.toInt < 8 := by rw [z_19]; exact Int.ediv_lt_of_lt_mul (by omega) (by omega)
      have z_21 : 0 ≤ v_18.toInt ∧ v_18.toInt ≤ v_16.toInt := by rw [z_19]; exact ⟨Int.ediv_nonneg (by omega) (by omega), Int.ediv_le_self _ (by omega)⟩
      refine va_ti X.1 X.2.1 X.2.2.2.2.2.2.2.2.2.1 hw.2.2 (v := .int (thinF (Int32.toNatClampNeg (v_18)))) (z_ix rfl (by omega) (by omega)) rfl dX0_finenessAt_30 ?_
      refine lv_topi (fun v_22 ev_22 => ?_)
      have z_23 : 0 ≤ v_22.toInt ∧ v_22.toInt ≤ 104 := thin_rng ev_22
      refine lv_imul X.1 X.2.1 dX0_finenessAt_31 ?_
      refine lv_topi (fun v_24 ev_24 => ?_)
      have rg_25 := And.intro (z_lo v_24) (z_hi v_24)
      refine lv_bipush (v := 100) X.1 X.2.1 dX0_finenessAt_32 (by decide) ?_
      refine lv_idiv X.1 X.2.1 dX0_finenessAt_34 (by decide) ?_
      refine lv_topi (fun v_26 ev_26 => ?_)
      have rg_27 := And.intro (z_lo v_26) (z_hi v_26)
      exact ret_i X hw hr hlocks (Nat.le_of_ble_eq_true rfl) (Nat.le_of_ble_eq_true rfl) ⟨rfl, (by unfold fcI; rw [ev_12, ev_6, if_pos ⟨by omega, by omega⟩, show (8 * a1.toInt / (v_6).toInt).toNat = Int32.toNatClampNeg (v_18) from (by rw [hz_a1]; exact (z_nc (show (v_18).toInt = 8 * a1_z / (v_6).toInt by rw [‹(v_18).toInt = (v_16).toInt / (v_6).toInt›, ‹(v_16).toInt = 8 * a1_z›]) (Int.ediv_nonneg (by omega) (by omega))).symm)]; subst_vars; rfl)⟩ dX0_finenessAt_35
    · have z_b_28 := trivial
      have k_29 : a1_z ≥ v_6.toInt := z_nlt hz_a1 rfl c_9
      refine lv_iconst (v := 0) X.1 X.2.1 dX0_finenessAt_12 (by decide) ?_
      exact ret_i X hw hr hlocks (Nat.le_of_ble_eq_true rfl) (Nat.le_of_ble_eq_true rfl) ⟨rfl, (by unfold fcI; rw [if_neg (by omega)])⟩ dX0_finenessAt_13
set_option maxHeartbeats 4000000 in
set_option maxRecDepth 100000 in
theorem k_X12_isCocoon2 (l : Launch) (G : va_G) (cy : Nat → ClassId) (κ : Nat → Nat) (S : PS) (sz : Nat) (x : Nat) (a1 : Int32) (a1_z : Int) (a2 : Int32) (a2_z : Int) (hG : GX S) (ha_x : At S x 12) (hz_a1 : a1.toInt = a1_z) (hz_a2 : a2.toInt = a2_z) : Ci l yX12_isCocoon wsX12_isCocoon ({ frames := 2, cells := 0, slots := 0, locals := 96 }) G cy κ S sz [.ref x, .int (a1), .int (a2)] (fun (r : Int32) (S9 : PS) => S = S9 ∧ (((0 ≤ a1_z ∧ a1_z < (pI S 1201 x).toInt ∧ 0 ≤ a2_z ∧ a2_z < zA S x 1202 a1_z.toNat ∧ a1_z ≤ 9 ∧ a2_z ≤ 59) ∧ r = 1) ∨ ((¬ (0 ≤ a1_z ∧ a1_z < (pI S 1201 x).toInt ∧ 0 ≤ a2_z ∧ a2_z < zA S x 1202 a1_z.toNat)) ∧ r = 0))) := by
  refine ent_m (cc := cX12_isCocoon) (maxL := 3) (ret := (some .boolean)) (by decide) rfl (Nat.le_of_ble_eq_true rfl) ?_
  intro p e s m below meth c ls X hr hlocks hin hw hl hsz
  subst hsz
  have X : Cx p c cX12_isCocoon 3 s [.ref x, .int (a1), .int (a2)].toArray wsX12_isCocoon RX12 m G cy κ (AS S s.heap.size) := X
  have hl : lv_has ls 3 [(0, .ref x), (1, .int (a1)), (2, .int (a2))] := hl
  have rg_a1 : (-2147483648) ≤ a1_z ∧ a1_z ≤ 2147483647 := by rw [← hz_a1]; exact ⟨z_lo _, z_hi _⟩
  have rg_a2 : (-2147483648) ≤ a2_z ∧ a2_z ≤ 2147483647 := by rw [← hz_a2]; exact ⟨z_lo _, z_hi _⟩
  refine lv_iload_n X.1 X.2.1 dX12_isCocoon_0 rfl (lv_at hl 1 rfl) ?_
  refine lv_iconst (v := 0) X.1 X.2.1 dX12_isCocoon_1 (by decide) ?_
  refine lv_aload_n X.1 X.2.1 dX12_isCocoon_2 rfl (lv_at hl 0 rfl) ?_
  obtain ⟨v_1, ev_1⟩ : ∃ v, pI S 1201 x = v := ⟨_, rfl⟩
  have rg_2 := gI_12_1201 hG ha_x; rw [ev_1] at rg_2
  have pz_3 : (pI S 1201 x).toInt = v_1.toInt := by rw [ev_1]
  refine r_getI (g := 1201) (x := v_1) X hw ha_x rfl 1 ev_1 (by decide) rfl inn_X12_isCocoon_12 (by decide) (X.2.2.2.1 (.fieldLink RX12 165 "SilkMillModel" "lots" "I") (by decide +kernel)) rfl (gv_1201 _ _) dX12_isCocoon_3 ?_
  refine lv_iconst (v := 1) X.1 X.2.1 dX12_isCocoon_6 (by decide) ?_
  refine lv_isub X.1 X.2.1 dX12_isCocoon_7 ?_
  refine lv_topi (fun v_4 ev_4 => ?_)
  have z_5 : v_4.toInt = v_1.toInt - 1 := z_sub ev_4 rfl ti_1 (by omega) (by omega)
  refine k_i (rm := { frames := 1, cells := 0, slots := 0, locals := 48 }) (av := [.int (a1), .int 0, .int (v_4)]) X hw (va_runS (As := [.int (a1), .int 0, .int (v_4)]) (rest := []) (cfix X) (k_X12_within l G cy κ S _ (a1) (a1_z) (0) (0) (v_4) ((v_1.toInt - 1)) hG hz_a1 ti_0 z_5) (cwS 3 X.2.2.2.1 gX12_isCocoon_X12_within rfl rfl rfl (by decide +kernel) ⟨Nat.le_of_ble_eq_true rfl, Nat.le_of_ble_eq_true rfl⟩) (pre_S X hw _) rfl rfl hl.1 rfl (lv_room (Nat.le_of_ble_eq_true rfl)) dX12_isCocoon_8 ⟨Nat.le_of_ble_eq_true rfl, Nat.le_of_ble_eq_true rfl⟩) 0 0 (Nat.le_of_ble_eq_true rfl) (Nat.le_of_ble_eq_true rfl) (fun rr_6 S_7 H locs hp hw hfr hnw => ?_)
  obtain ⟨e2, hp⟩ := hp
  subst e2
  rcases hp with ⟨f_8, er_9⟩ | ⟨f_8, er_9⟩ <;> subst er_9
  · have z_b_10 := trivial
    refine lv_if_eq (tgt := 34) X.1 X.2.1 dX12_isCocoon_11 (by decide) (fun c_11 => absurd c_11 (by decide)) (fun c_11 => ?_)
    refine lv_iload_n X.1 X.2.1 dX12_isCocoon_14 rfl (lv_at hl 2 rfl) ?_
    refine lv_iconst (v := 0) X.1 X.2.1 dX12_isCocoon_15 (by decide) ?_
    refine lv_aload_n X.1 X.2.1 dX12_isCocoon_16 rfl (lv_at hl 0 rfl) ?_
    obtain ⟨q_12, h_13, h_14, h_15⟩ := gQ_12_1202 hG ha_x
    refine r_getR (g := 1202) X hw ha_x rfl 2 h_13 (by decide) rfl inn_X12_isCocoon_12 (by decide) (X.2.2.2.1 (.fieldLink RX12 7 "SilkMillModel" "lotMany" "[I") (by decide +kernel)) rfl (gv_1202 _ _) dX12_isCocoon_17 ?_
    refine lv_iload_n X.1 X.2.1 dX12_isCocoon_20 rfl (lv_at hl 1 rfl) ?_
    refine r_iald X hw h_14 rfl (by rw [h_15]; exact z_ix hz_a1 (by omega) (by omega)) dX12_isCocoon_21 ?_
    refine lv_topi (fun v_16 ev_16 => ?_)
    have z_17 := gE_254 hG h_14 (Int32.toNatClampNeg (a1)); rw [← ev_16] at z_17
    have ev_16 := ev_16.symm
    have zf_18 : zA S x 1202 (a1_z).toNat = v_16.toInt := (zA_of h_13 hz_a1 (by omega) ev_16)
    refine lv_iconst (v := 1) X.1 X.2.1 dX12_isCocoon_22 (by decide) ?_
    refine lv_isub X.1 X.2.1 dX12_isCocoon_23 ?_
    refine lv_topi (fun v_19 ev_19 => ?_)
    have z_20 : v_19.toInt = v_16.toInt - 1 := z_sub ev_19 rfl ti_1 (by omega) (by omega)
    refine k_i (rm := { frames := 1, cells := 0, slots := 0, locals := 48 }) (av := [.int (a2), .int 0, .int (v_19)]) X hw (va_runS (As := [.int (a2), .int 0, .int (v_19)]) (rest := []) (cfix X) (k_X12_within l G cy κ S _ (a2) (a2_z) (0) (0) (v_19) ((v_16.toInt - 1)) hG hz_a2 ti_0 z_20) (cwS 3 X.2.2.2.1 gX12_isCocoon_X12_within rfl rfl rfl (by decide +kernel) ⟨Nat.le_of_ble_eq_true rfl, Nat.le_of_ble_eq_true rfl⟩) (pre_S X hw _) rfl rfl hl.1 rfl (lv_room (Nat.le_of_ble_eq_true rfl)) dX12_isCocoon_24 ⟨Nat.le_of_ble_eq_true rfl, Nat.le_of_ble_eq_true rfl⟩) 0 0 (Nat.le_of_ble_eq_true rfl) (Nat.le_of_ble_eq_true rfl) (fun rr_21 S_22 H locs hp hw hfr hnw => ?_)
    obtain ⟨e2, hp⟩ := hp
    subst e2
    rcases hp with ⟨f_23, er_24⟩ | ⟨f_23, er_24⟩ <;> subst er_24
    · have z_b_25 := trivial
      refine lv_if_eq (tgt := 34) X.1 X.2.1 dX12_isCocoon_27 (by decide) (fun c_26 => absurd c_26 (by decide)) (fun c_26 => ?_)
      refine lv_iconst (v := 1) X.1 X.2.1 dX12_isCocoon_30 (by decide) ?_
      refine lv_goto (tgt := 35) X.1 X.2.1 dX12_isCocoon_31 (by decide) ?_
      exact ret_z X hw hr hlocks (Nat.le_of_ble_eq_true rfl) (Nat.le_of_ble_eq_true rfl) (by decide) ⟨rfl, Or.inl ⟨by omega, rfl⟩⟩ dX12_isCocoon_35
    · have z_b_27 := trivial
      refine lv_if_eq (tgt := 34) X.1 X.2.1 dX12_isCocoon_27 (by decide) (fun c_28 => ?_) (fun c_28 => absurd c_28 (by decide))
      refine lv_iconst (v := 0) X.1 X.2.1 dX12_isCocoon_34 (by decide) ?_
      exact ret_z X hw hr hlocks (Nat.le_of_ble_eq_true rfl) (Nat.le_of_ble_eq_true rfl) (by decide) ⟨rfl, Or.inr ⟨by omega, rfl⟩⟩ dX12_isCocoon_35
  · have z_b_29 := trivial
    refine lv_if_eq (tgt := 34) X.1 X.2.1 dX12_isCocoon_11 (by decide) (fun c_30 => ?_) (fun c_30 => absurd c_30 (by decide))
    refine lv_iconst (v := 0) X.1 X.2.1 dX12_isCocoon_34 (by decide) ?_
    exact ret_z X hw hr hlocks (Nat.le_of_ble_eq_true rfl) (Nat.le_of_ble_eq_true rfl) (by decide) ⟨rfl, Or.inr ⟨by omega, rfl⟩⟩ dX12_isCocoon_35
set_option maxHeartbeats 4000000 in
set_option maxRecDepth 100000 in
theorem k_X12_fineness2 (l : Launch) (G : va_G) (cy : Nat → ClassId) (κ : Nat → Nat) (S : PS) (sz : Nat) (x : Nat) (a1 : Int32) (a1_z : Int) (a2 : Int32) (a2_z : Int) (a3 : Int32) (a3_z : Int) (hG : GX S) (ha_x : At S x 12) (hz_a1 : a1.toInt = a1_z) (hz_a2 : a2.toInt = a2_z) (hz_a3 : a3.toInt = a3_z) (hp_0 : MI S x) : Ci l yX12_fineness wsX12_fineness ({ frames := 4, cells := 0, slots := 0, locals := 192 }) G cy κ S sz [.ref x, .int (a1), .int (a2), .int (a3)] (fun (r : Int32) (S9 : PS) => Ok MN S S9 ∧ (-2147483648 ≤ r.toInt ∧ r.toInt ≤ 2147483647 ∧ (RC S x a1_z a2_z a3_z → pI S9 1200 x = 0 ∧ r.toInt = fnZ S x (60 * a1_z + a2_z) a3_z) ∧ (¬ RC S x a1_z a2_z a3_z → pI S9 1200 x = 1 ∧ r = 0))) := by
  refine ent_m (cc := cX12_fineness) (maxL := 5) (ret := (some .int)) (by decide) rfl (Nat.le_of_ble_eq_true rfl) ?_
  intro p e s m below meth c ls X hr hlocks hin hw hl hsz
  subst hsz
  have X : Cx p c cX12_fineness 5 s [.ref x, .int (a1), .int (a2), .int (a3)].toArray wsX12_fineness RX12 m G cy κ (AS S s.heap.size) := X
  have hl : lv_has ls 5 [(0, .ref x), (1, .int (a1)), (2, .int (a2)), (3, .int (a3))] := hl
  have rg_a1 : (-2147483648) ≤ a1_z ∧ a1_z ≤ 2147483647 := by rw [← hz_a1]; exact ⟨z_lo _, z_hi _⟩
  have rg_a2 : (-2147483648) ≤ a2_z ∧ a2_z ≤ 2147483647 := by rw [← hz_a2]; exact ⟨z_lo _, z_hi _⟩
  have rg_a3 : (-2147483648) ≤ a3_z ∧ a3_z ≤ 2147483647 := by rw [← hz_a3]; exact ⟨z_lo _, z_hi _⟩
  have hO : Ok MN S S := Ok.rf hG
  refine lv_aload_n X.1 X.2.1 dX12_fineness_0 rfl (lv_at hl 0 rfl) ?_
  refine lv_iload_n X.1 X.2.1 dX12_fineness_1 rfl (lv_at hl 1 rfl) ?_
  refine lv_iload_n X.1 X.2.1 dX12_fineness_2 rfl (lv_at hl 2 rfl) ?_
  refine k_i (rm := { frames := 2, cells := 0, slots := 0, locals := 96 }) (av := [.ref x, .int (a1), .int (a2)]) X hw (va_runV (As := [.int (a1), .int (a2)]) (rest := []) (cfix X) (k_X12_isCocoon2 l G cy κ S _ x (a1) (a1_z) (a2) (a2_z) hO.1 ha_x hz_a1 hz_a2) (cwV 2 X.2.2.2.1 gX12_fineness_X12_isCocoon rfl rfl rfl (by decide +kernel) ⟨Nat.le_of_ble_eq_true rfl, Nat.le_of_ble_eq_true rfl⟩) (pre_V X hw _ ha_x rfl (by decide) rfl) rfl rfl hl.1 rfl (lv_room (Nat.le_of_ble_eq_true rfl)) dX12_fineness_3 ⟨Nat.le_of_ble_eq_true rfl, Nat.le_of_ble_eq_true rfl⟩) 0 0 (Nat.le_of_ble_eq_true rfl) (Nat.le_of_ble_eq_true rfl) (fun rr_1 S_2 H locs hp hw hfr hnw => ?_)
  obtain ⟨e2, hp⟩ := hp
  subst e2
  rcases hp with ⟨f_3, er_4⟩ | ⟨f_3, er_4⟩ <;> subst er_4
  · have z_b_5 := trivial
    refine lv_if_eq (tgt := 33) X.1 X.2.1 dX12_fineness_6 (by decide) (fun c_6 => absurd c_6 (by decide)) (fun c_6 => ?_)
    refine lv_iload_n X.1 X.2.1 dX12_fineness_9 rfl (lv_at hl 3 rfl) ?_
    refine lv_iconst (v := 0) X.1 X.2.1 dX12_fineness_10 (by decide) ?_
    refine lv_aload_n X.1 X.2.1 dX12_fineness_11 rfl (lv_at hl 0 rfl) ?_
    refine lv_bipush (v := 60) X.1 X.2.1 dX12_fineness_12 (by decide) ?_
    refine lv_iload_n X.1 X.2.1 dX12_fineness_14 rfl (lv_at hl 1 rfl) ?_
    refine lv_imul X.1 X.2.1 dX12_fineness_15 ?_
    refine lv_topi (fun v_7 ev_7 => ?_)
    have z_8 : v_7.toInt = 60 * a1_z := z_mul ev_7 ti_60 hz_a1 (by omega) (by omega)
    refine lv_iload_n X.1 X.2.1 dX12_fineness_16 rfl (lv_at hl 2 rfl) ?_
    refine lv_iadd X.1 X.2.1 dX12_fineness_17 ?_
    refine lv_topi (fun v_9 ev_9 => ?_)
    have z_10 : v_9.toInt = (60 * a1_z) + a2_z := z_add ev_9 z_8 hz_a2 (by omega) (by omega)
    refine k_i (rm := { frames := 2, cells := 0, slots := 0, locals := 96 }) (av := [.ref x, .int (v_9)]) X hw (va_runV (As := [.int (v_9)]) (rest := [.int 0, .int (a3)]) (cfix X) (k_X12_lengthOf l G cy κ S _ x (v_9) (((60 * a1_z) + a2_z)) hO.1 ha_x z_10 (by first | assumption | omega) (by first | assumption | omega)) (cwV 1 X.2.2.2.1 gX12_fineness_X12_lengthOf rfl rfl rfl (by decide +kernel) ⟨Nat.le_of_ble_eq_true rfl, Nat.le_of_ble_eq_true rfl⟩) (pre_V X hw _ ha_x rfl (by decide) rfl) rfl rfl hl.1 rfl (lv_room (Nat.le_of_ble_eq_true rfl)) dX12_fineness_18 ⟨Nat.le_of_ble_eq_true rfl, Nat.le_of_ble_eq_true rfl⟩) 0 0 (Nat.le_of_ble_eq_true rfl) (Nat.le_of_ble_eq_true rfl) (fun rr_11 S_12 H locs hp hw hfr hnw => ?_)
    obtain ⟨e2, hp⟩ := hp
    subst e2
    obtain ⟨f_13, f_14, f_15⟩ := hp
    refine lv_iconst (v := 1) X.1 X.2.1 dX12_fineness_21 (by decide) ?_
    refine lv_isub X.1 X.2.1 dX12_fineness_22 ?_
    refine lv_topi (fun v_16 ev_16 => ?_)
    have z_17 : v_16.toInt = rr_11.toInt - 1 := z_sub ev_16 rfl ti_1 (by omega) (by omega)
    refine k_i (rm := { frames := 1, cells := 0, slots := 0, locals := 48 }) (av := [.int (a3), .int 0, .int (v_16)]) X hw (va_runS (As := [.int (a3), .int 0, .int (v_16)]) (rest := []) (cfix X) (k_X12_within l G cy κ S _ (a3) (a3_z) (0) (0) (v_16) ((rr_11.toInt - 1)) hO.1 hz_a3 ti_0 z_17) (cwS 3 X.2.2.2.1 gX12_fineness_X12_within rfl rfl rfl (by decide +kernel) ⟨Nat.le_of_ble_eq_true rfl, Nat.le_of_ble_eq_true rfl⟩) (pre_S X hw _) rfl rfl hl.1 rfl (lv_room (Nat.le_of_ble_eq_true rfl)) dX12_fineness_23 ⟨Nat.le_of_ble_eq_true rfl, Nat.le_of_ble_eq_true rfl⟩) 0 0 (Nat.le_of_ble_eq_true rfl) (Nat.le_of_ble_eq_true rfl) (fun rr_18 S_19 H locs hp hw hfr hnw => ?_)
    obtain ⟨e2, hp⟩ := hp
    subst e2
    rcases hp with ⟨f_20, er_21⟩ | ⟨f_20, er_21⟩ <;> subst er_21
    · have z_b_22 := trivial
      refine lv_if_eq (tgt := 33) X.1 X.2.1 dX12_fineness_26 (by decide) (fun c_23 => absurd c_23 (by decide)) (fun c_23 => ?_)
      refine lv_iconst (v := 1) X.1 X.2.1 dX12_fineness_29 (by decide) ?_
      refine lv_goto (tgt := 34) X.1 X.2.1 dX12_fineness_30 (by decide) ?_
      refine lv_istore (lv' := [(4, .int 1), (0, .ref x), (1, .int (a1)), (2, .int (a2)), (3, .int (a3))]) X.1 X.2.1 dX12_fineness_34 hl (by decide) rfl (fun ls hl => ?_)
      refine lv_aload_n X.1 X.2.1 dX12_fineness_36 rfl (lv_at hl 1 rfl) ?_
      refine lv_iload X.1 X.2.1 dX12_fineness_37 (lv_at hl 0 rfl) ?_
      refine lv_if_eq (tgt := 46) X.1 X.2.1 dX12_fineness_39 (by decide) (fun c_24 => absurd c_24 (by decide)) (fun c_24 => ?_)
      refine lv_iconst (v := 0) X.1 X.2.1 dX12_fineness_42 (by decide) ?_
      refine lv_goto (tgt := 47) X.1 X.2.1 dX12_fineness_43 (by decide) ?_
      refine r_putI (v := 0) X hw ha_x rfl 0 1200 tyX12 (by decide) rfl inn_X12_fineness_12 tyX12_ok nmX12 (by decide) (X.2.2.2.1 (.fieldLink RX12 161 "SilkMillModel" "thrown" "I") (by decide +kernel)) rfl (Or.inl rfl) rfl rfl (Nat.le_of_ble_eq_true rfl) (st_1200 _ _) dX12_fineness_47 (fun H locs hw => ?_)
      obtain ⟨S_25, eS_25⟩ : ∃ T, T = sI S 1200 x (0) := ⟨_, rfl⟩
      rw [← eS_25] at hw
      have hO_26 : Ok MN S S_25 := hO.sI eS_25 (by decide +kernel) (uI_12_1200 hO.1 ha_x)
      have h_27 : pI S_25 1200 x = 0 := tI_sIs eS_25
      refine lv_iload X.1 X.2.1 dX12_fineness_50 (lv_at hl 0 rfl) ?_
      refine lv_if_eq (tgt := 69) X.1 X.2.1 dX12_fineness_52 (by decide) (fun c_28 => absurd c_28 (by decide)) (fun c_28 => ?_)
      refine lv_aload_n X.1 X.2.1 dX12_fineness_55 rfl (lv_at hl 1 rfl) ?_
      refine lv_bipush (v := 60) X.1 X.2.1 dX12_fineness_56 (by decide) ?_
      refine lv_iload_n X.1 X.2.1 dX12_fineness_58 rfl (lv_at hl 2 rfl) ?_
      refine lv_imul X.1 X.2.1 dX12_fineness_59 ?_
      refine lv_topi (fun v_29 ev_29 => ?_)
      have z_30 : v_29.toInt = 60 * a1_z := z_mul ev_29 ti_60 hz_a1 (by omega) (by omega)
      refine lv_iload_n X.1 X.2.1 dX12_fineness_60 rfl (lv_at hl 3 rfl) ?_
      refine lv_iadd X.1 X.2.1 dX12_fineness_61 ?_
      refine lv_topi (fun v_31 ev_31 => ?_)
      have z_32 : v_31.toInt = (60 * a1_z) + a2_z := z_add ev_31 z_30 hz_a2 (by omega) (by omega)
      refine lv_iload_n X.1 X.2.1 dX12_fineness_62 rfl (lv_at hl 4 rfl) ?_
      have lf_33 := congrFun (lenZ_free hG ha_x hO_26.fr (by decide +kernel)) ((60 * a1_z) + a2_z)
      have lf_34 := congrFun (congrFun (fnZ_fr hG ha_x hO_26.fr (by decide +kernel)) ((60 * a1_z) + a2_z)) a3_z
      have t_35 : At S_25 x 12 := tAt_sI eS_25 ha_x
      refine k_i (rm := { frames := 3, cells := 0, slots := 0, locals := 144 }) (av := [.ref x, .int (v_31), .int (a3)]) X hw (va_runV (As := [.int (v_31), .int (a3)]) (rest := []) (cfix X) (k_X12_fineOf2 l G cy κ S_25 _ x (v_31) (((60 * a1_z) + a2_z)) (a3) (a3_z) hO_26.1 t_35 z_32 hz_a3 (by first | assumption | omega) (by first | assumption | omega) (by first | assumption | omega) (by first | assumption | omega) (by first | assumption | omega)) (cwV 2 X.2.2.2.1 gX12_fineness_X12_fineOf rfl rfl rfl (by decide +kernel) ⟨Nat.le_of_ble_eq_true rfl, Nat.le_of_ble_eq_true rfl⟩) (pre_V X hw _ t_35 rfl (by decide) rfl) rfl rfl hl.1 rfl (lv_room (Nat.le_of_ble_eq_true rfl)) dX12_fineness_63 ⟨Nat.le_of_ble_eq_true rfl, Nat.le_of_ble_eq_true rfl⟩) 0 0 (Nat.le_of_ble_eq_true rfl) (Nat.le_of_ble_eq_true rfl) (fun rr_36 S_37 H locs hp hw hfr hnw => ?_)
      obtain ⟨e2, hp⟩ := hp
      subst e2
      obtain ⟨f_38, f_39, f_40⟩ := hp
      refine lv_goto (tgt := 70) X.1 X.2.1 dX12_fineness_66 (by decide) ?_
      exact ret_i X hw hr hlocks (Nat.le_of_ble_eq_true rfl) (Nat.le_of_ble_eq_true rfl) ⟨hO_26, ⟨z_lo _, z_hi _, fun _ => ⟨h_27, by first | omega | assumption⟩, fun h => absurd (by unfold RC; omega) h⟩⟩ dX12_fineness_70
    · have z_b_41 := trivial
      refine lv_if_eq (tgt := 33) X.1 X.2.1 dX12_fineness_26 (by decide) (fun c_42 => ?_) (fun c_42 => absurd c_42 (by decide))
      refine lv_iconst (v := 0) X.1 X.2.1 dX12_fineness_33 (by decide) ?_
      refine lv_istore (lv' := [(4, .int 0), (0, .ref x), (1, .int (a1)), (2, .int (a2)), (3, .int (a3))]) X.1 X.2.1 dX12_fineness_34 hl (by decide) rfl (fun ls hl => ?_)
      refine lv_aload_n X.1 X.2.1 dX12_fineness_36 rfl (lv_at hl 1 rfl) ?_
      refine lv_iload X.1 X.2.1 dX12_fineness_37 (lv_at hl 0 rfl) ?_
      refine lv_if_eq (tgt := 46) X.1 X.2.1 dX12_fineness_39 (by decide) (fun c_43 => ?_) (fun c_43 => absurd c_43 (by decide))
      refine lv_iconst (v := 1) X.1 X.2.1 dX12_fineness_46 (by decide) ?_
      refine r_putI (v := 1) X hw ha_x rfl 0 1200 tyX12 (by decide) rfl inn_X12_fineness_12 tyX12_ok nmX12 (by decide) (X.2.2.2.1 (.fieldLink RX12 161 "SilkMillModel" "thrown" "I") (by decide +kernel)) rfl (Or.inl rfl) rfl rfl (Nat.le_of_ble_eq_true rfl) (st_1200 _ _) dX12_fineness_47 (fun H locs hw => ?_)
      obtain ⟨S_44, eS_44⟩ : ∃ T, T = sI S 1200 x (1) := ⟨_, rfl⟩
      rw [← eS_44] at hw
      have hO_45 : Ok MN S S_44 := hO.sI eS_44 (by decide +kernel) (uI_12_1200 hO.1 ha_x)
      have h_46 : pI S_44 1200 x = 1 := tI_sIs eS_44
      refine lv_iload X.1 X.2.1 dX12_fineness_50 (lv_at hl 0 rfl) ?_
      refine lv_if_eq (tgt := 69) X.1 X.2.1 dX12_fineness_52 (by decide) (fun c_47 => ?_) (fun c_47 => absurd c_47 (by decide))
      refine lv_iconst (v := 0) X.1 X.2.1 dX12_fineness_69 (by decide) ?_
      exact ret_i X hw hr hlocks (Nat.le_of_ble_eq_true rfl) (Nat.le_of_ble_eq_true rfl) ⟨hO_45, ⟨z_lo _, z_hi _, fun h => absurd h (by unfold RC; omega), fun _ => ⟨h_46, rfl⟩⟩⟩ dX12_fineness_70
  · have z_b_48 := trivial
    refine lv_if_eq (tgt := 33) X.1 X.2.1 dX12_fineness_6 (by decide) (fun c_49 => ?_) (fun c_49 => absurd c_49 (by decide))
    refine lv_iconst (v := 0) X.1 X.2.1 dX12_fineness_33 (by decide) ?_
    refine lv_istore (lv' := [(4, .int 0), (0, .ref x), (1, .int (a1)), (2, .int (a2)), (3, .int (a3))]) X.1 X.2.1 dX12_fineness_34 hl (by decide) rfl (fun ls hl => ?_)
    refine lv_aload_n X.1 X.2.1 dX12_fineness_36 rfl (lv_at hl 1 rfl) ?_
    refine lv_iload X.1 X.2.1 dX12_fineness_37 (lv_at hl 0 rfl) ?_
    refine lv_if_eq (tgt := 46) X.1 X.2.1 dX12_fineness_39 (by decide) (fun c_50 => ?_) (fun c_50 => absurd c_50 (by decide))
    refine lv_iconst (v := 1) X.1 X.2.1 dX12_fineness_46 (by decide) ?_
    refine r_putI (v := 1) X hw ha_x rfl 0 1200 tyX12 (by decide) rfl inn_X12_fineness_12 tyX12_ok nmX12 (by decide) (X.2.2.2.1 (.fieldLink RX12 161 "SilkMillModel" "thrown" "I") (by decide +kernel)) rfl (Or.inl rfl) rfl rfl (Nat.le_of_ble_eq_true rfl) (st_1200 _ _) dX12_fineness_47 (fun H locs hw => ?_)
    obtain ⟨S_51, eS_51⟩ : ∃ T, T = sI S 1200 x (1) := ⟨_, rfl⟩
    rw [← eS_51] at hw
    have hO_52 : Ok MN S S_51 := hO.sI eS_51 (by decide +kernel) (uI_12_1200 hO.1 ha_x)
    have h_53 : pI S_51 1200 x = 1 := tI_sIs eS_51
    refine lv_iload X.1 X.2.1 dX12_fineness_50 (lv_at hl 0 rfl) ?_
    refine lv_if_eq (tgt := 69) X.1 X.2.1 dX12_fineness_52 (by decide) (fun c_54 => ?_) (fun c_54 => absurd c_54 (by decide))
    refine lv_iconst (v := 0) X.1 X.2.1 dX12_fineness_69 (by decide) ?_
    exact ret_i X hw hr hlocks (Nat.le_of_ble_eq_true rfl) (Nat.le_of_ble_eq_true rfl) ⟨hO_52, ⟨z_lo _, z_hi _, fun h => absurd h (by unfold RC; omega), fun _ => ⟨h_53, rfl⟩⟩⟩ dX12_fineness_70
