def eT0 : List Nat := [3, 300]
def eTA : List Nat := [3, 300, 1110]
/-! ===== the shelf ===== -/
theorem sA_self (S : PS) (x : Nat) : sA S x (pA S x) = S := by
  obtain ⟨a, b, c, d, e, f, g⟩ := S
  have h : va_up f x (f x) = f := by
    funext y
    unfold va_up
    by_cases q : y = x
    · rw [if_pos q, q]
    · rw [if_neg q]
  show (a, b, c, d, e, va_up f x (f x), g) = (a, b, c, d, e, f, g)
  rw [h]
theorem sA_sA {S : PS} {x : Nat} {f h : Nat → Int32} : sA (sA S x f) x h = sA S x h := by
  have e : va_up (va_up (pA S) x f) x h = va_up (pA S) x h := by
    funext y
    unfold va_up
    by_cases q : y = x
    · rw [if_pos q, if_pos q]
    · rw [if_neg q, if_neg q, if_neg q]
  show (pL S, pK S, pI S, pR S, pN S, va_up (va_up (pA S) x f) x h, pB S) = (pL S, pK S, pI S, pR S, pN S, va_up (pA S) x h, pB S)
  rw [e]
def FlA (S T : PS) (x : Nat) (n : Int) (v : Int32) : Prop := ∃ f, (∀ i : Nat, (i : Int) < n → f i = v) ∧ T = sA S x f
theorem FlA_0 {S : PS} {x : Nat} {v : Int32} : FlA S S x 0 v := ⟨pA S x, fun i h => absurd h (by omega), (sA_self S x).symm⟩
theorem FlA_step {S T U : PS} {x i : Nat} {n : Int} {v : Int32} (h : FlA S T x n v) (e : U = sA T x (upd (pA T x) i v)) (hi : (i : Int) = n) : FlA S U x (n + 1) v := by
  obtain ⟨f, h1, h2⟩ := h
  refine ⟨upd f i v, fun j hj => ?_, ?_⟩
  · unfold upd
    by_cases q : j = i
    · rw [if_pos q]
    · rw [if_neg q]; exact h1 j (by omega)
  · rw [e, h2, show pA (sA S x f) x = f from if_pos rfl]
    exact sA_sA
def ShC (S : PS) (x : Nat) (k a b : Int) : Prop := (k = 0 ∧ InC S x a b ∧ ∃ q, mB S x 1100 (60 * a + b).toNat = some q ∧ pI S 3 q = 0) ∨ k = 1 ∨ (k = 2 ∧ 0 ≤ a ∧ a ≤ 8)
def ShE (S T : PS) (x P : Nat) (k : Int) (a : Int32) (az : Int) (b : Int32) (bz : Int) : Prop := (k = 0 ∧ InC S x az bz ∧ ∃ q v, mB S x 1100 (60 * az + bz).toNat = some q ∧ pI S 3 q = 0 ∧ T = sI (sI (sR (sI S 3 q 5) 303 P (some q)) 300 P 0) 1110 x v) ∨ (k = 1 ∧ ∃ v, T = sI (sI (sI S 304 P a) 300 P 1) 1110 x v) ∨ (k = 2 ∧ 0 ≤ az ∧ az ≤ 8 ∧ ∃ w f v, pR S 302 P = some w ∧ (∀ i : Nat, (i : Int) < 8 → f i = b) ∧ T = sI (sI (sI (sA S w f) 301 P a) 300 P 2) 1110 x v)
def TkO (S T : PS) (x P : Nat) (k r : Int) : Prop := ((pI S 300 P).toInt = -1 ∧ r = -2 ∧ T = S) ∨ ((pI S 300 P).toInt ≠ -1 ∧ (pI S 300 P).toInt ≠ k ∧ r = -3 ∧ T = S) ∨ ((pI S 300 P).toInt = k ∧ k = 2 ∧ (pI S 301 P).toInt = 0 ∧ r = -4 ∧ T = S) ∨ ((pI S 300 P).toInt = k ∧ k = 2 ∧ (pI S 301 P).toInt ≠ 0 ∧ ∃ v, T = sI (sI S 1110 x v) 300 P (-1)) ∨ ((pI S 300 P).toInt = k ∧ k = 1 ∧ r = (pI S 304 P).toInt ∧ ∃ v, T = sI (sI S 1110 x v) 300 P (-1)) ∨ ((pI S 300 P).toInt = k ∧ k = 0 ∧ ((pR S 303 P = none ∧ ∃ v, T = sI (sI S 1110 x v) 300 P (-1)) ∨ ∃ q v, pR S 303 P = some q ∧ r = (pI S 0 q * 100 + pI S 1 q).toInt ∧ T = sI (sI (sI S 1110 x v) 300 P (-1)) 3 q 0))

set_option maxHeartbeats 4000000 in
set_option maxRecDepth 100000 in
theorem k_J7_fill3 (l : Launch) (G : va_G) (cy : Nat → ClassId) (κ : Nat → Nat) (S : PS) (sz : Nat) (x : Nat) (a1 : Int32) (a1_z : Int) (nq : Nat) (hG : GX S) (ha_x : At S x 114) (hz_a1 : a1.toInt = a1_z) (hp_0 : pN S x = nq) (hp_1 : nq ≤ 2000000) : Cv l yJ7_fill_53178 wsJ7_fill_53178 ({ frames := 1, cells := 0, slots := 0, locals := 48 }) G cy κ S sz [.ref x, .int (a1)] (fun (S9 : PS) => Ok eWD S S9 ∧ (FlA S S9 x (nq : Int) a1)) := by
  refine ent_m (cc := cJ7_fill_53178) (maxL := 4) (ret := none) (by decide) rfl (Nat.le_of_ble_eq_true rfl) ?_
  intro p e s m below meth c ls X hr hlocks hin hw hl hsz
  subst hsz
  have X : Cx p c cJ7_fill_53178 4 s [.ref x, .int (a1)].toArray wsJ7_fill_53178 RJ7 m G cy κ (AS S s.heap.size) := X
  have hl : lv_has ls 4 [(0, .ref x), (1, .int (a1))] := hl
  have rg_a1 : (-2147483648) ≤ a1_z ∧ a1_z ≤ 2147483647 := by rw [← hz_a1]; exact ⟨z_lo _, z_hi _⟩
  have hO : Ok eWD S S := Ok.rf hG
  generalize hQQ : MQ below _ _ _ _ _ _ = QQ
  replace hQQ := hQQ.symm
  refine lv_iconst (v := 0) X.1 X.2.1 dJ7_fill_53178_0 (by decide) ?_
  refine lv_istore_n (lv' := [(2, .int 0), (0, .ref x), (1, .int (a1))]) X.1 X.2.1 dJ7_fill_53178_1 rfl hl (by decide) rfl (fun ls hl => ?_)
  refine lv_aload_n X.1 X.2.1 dJ7_fill_53178_2 rfl (lv_at hl 1 rfl) ?_
  refine r_alen X hw ha_x rfl (by decide) rfl dJ7_fill_53178_3 ?_
  rw [hp_0]
  refine lv_topi (fun v_1 ev_1 => ?_)
  have z_2 : v_1.toInt = (nq : Int) := z_len ev_1 (by omega)
  refine lv_istore_n (lv' := [(3, .int (v_1)), (2, .int 0), (0, .ref x), (1, .int (a1))]) X.1 X.2.1 dJ7_fill_53178_4 rfl hl (by decide) rfl (fun ls hl => ?_)
  have L_3 : ∀ (n : Nat) (T_5 : PS) (H : Heap) (locs : List Loc) (ls : Array Slot) (i2_4 : Int32) (i2_4_z : Int), ((v_1.toInt - i2_4_z).toNat = n) → (Wd G cy (AS S s.heap.size) s.heap T_5 H locs) → (i2_4.toInt = i2_4_z) → (0 ≤ i2_4_z ∧ i2_4_z ≤ 2000000) → (At T_5 x 114) → (Ok eWD S T_5) → (v_1.toInt = (nq : Int)) → (FlA S T_5 x i2_4_z a1) → (i2_4_z ≤ (nq : Int)) → (pN T_5 x = nq) → (lv_has ls 4 [(2, .int (i2_4)), (3, .int (v_1)), (0, .ref x), (1, .int (a1))]) → W p l e ({ frames := 1, cells := 0, slots := 0, locals := 48 }) s m [.ref x, .int (a1)].toArray below meth c H locs 0 0 QQ (F0 m 5 ls []) := by
    intro n
    induction n using Nat.strongRecOn with
    | ind n ih =>
    intro T_5 H locs ls i2_4 i2_4_z hn hw hz_i2_4 hr_i2_4 ha_x_L_6 hO_T_5 iv_7 iv_8 iv_9 ik_10 hl
    have rg_11 : (-2147483648) ≤ i2_4_z ∧ i2_4_z ≤ 2147483647 := by rw [← hz_i2_4]; exact ⟨z_lo _, z_hi _⟩
    refine lv_iload_n X.1 X.2.1 dJ7_fill_53178_5 rfl (lv_at hl 0 rfl) ?_
    refine lv_iload_n X.1 X.2.1 dJ7_fill_53178_6 rfl (lv_at hl 1 rfl) ?_
    refine lv_icmp_ge (tgt := 20) X.1 X.2.1 dJ7_fill_53178_7 (by decide) (fun c_12 => ?_) (fun c_12 => ?_)
    · have z_b_13 := trivial
      have k_14 : i2_4_z ≥ v_1.toInt := z_le rfl hz_i2_4 c_12
      rw [hQQ]
      exact ret_v X hw hr hlocks (Nat.le_of_ble_eq_true rfl) (Nat.le_of_ble_eq_true rfl) ⟨hO_T_5, (by rw [show (nq : Int) = i2_4_z by omega]; exact iv_8)⟩ dJ7_fill_53178_20
    · have z_b_15 := trivial
      have k_16 : i2_4_z < v_1.toInt := z_nle rfl hz_i2_4 c_12
      refine lv_aload_n X.1 X.2.1 dJ7_fill_53178_10 rfl (lv_at hl 2 rfl) ?_
      refine lv_iload_n X.1 X.2.1 dJ7_fill_53178_11 rfl (lv_at hl 0 rfl) ?_
      refine lv_iload_n X.1 X.2.1 dJ7_fill_53178_12 rfl (lv_at hl 3 rfl) ?_
      refine r_iast X hw ha_x_L_6 rfl (by rw [ik_10]; exact z_ix hz_i2_4 (by omega) (by omega)) dJ7_fill_53178_13 (fun H locs hw => ?_)
      obtain ⟨S_17, eS_17⟩ : ∃ T, T = sA T_5 x (upd (pA T_5 x) (Int32.toNatClampNeg (i2_4)) (a1)) := ⟨_, rfl⟩
      rw [← eS_17] at hw
      have hO_18 : Ok eWD S S_17 := hO_T_5.sA eS_17 ha_x_L_6 (by decide +kernel) (uA_114 hO_T_5.1 ha_x_L_6)
      have h_19 : pA S_17 x (Int32.toNatClampNeg (i2_4)) = a1 := tA_sAs eS_17
      have fa_20 : FlA S S_17 x (i2_4_z + 1) a1 := FlA_step iv_8 eS_17 (by rw [z_nc hz_i2_4 (by omega)]; omega)
      obtain ⟨x_21, ex_21⟩ : ∃ y : Int32, y = i2_4 + 1 := ⟨_, rfl⟩
      have z_22 : x_21.toInt = i2_4_z + 1 := z_add ex_21 hz_i2_4 ti_1 (by omega) (by omega)
      refine lv_iinc (v := x_21) (lv' := [(2, .int (x_21)), (3, .int (v_1)), (0, .ref x), (1, .int (a1))]) X.1 X.2.1 dJ7_fill_53178_14 hl (k := 0) rfl (by rw [ex_21]; rfl) (by decide) rfl (fun ls hl => ?_)
      refine lv_goto (tgt := 5) X.1 X.2.1 dJ7_fill_53178_17 (by decide) ?_
      have t_23 : At S_17 x 114 := tAt_sA eS_17 ha_x_L_6
      have t_24 : pN S_17 x = nq := tN_sA eS_17 ik_10
      exact ih _ (by omega) _ _ _ _ (x_21) (x_21.toInt) rfl hw rfl (by omega) t_23 hO_18 (by omega) (by rw [show x_21.toInt = i2_4_z + 1 by omega]; exact fa_20) (by omega) t_24 (lv_sub hl [0, 1, 2, 3] rfl)
  exact L_3 _ _ _ _ _ (0) (0) rfl hw ti_0 (by omega) ha_x hO (by omega) FlA_0 (by omega) hp_0 (lv_sub hl [1, 0, 2, 3] rfl)
set_option maxHeartbeats 4000000 in
set_option maxRecDepth 100000 in
theorem k_X3_putNumber3 (l : Launch) (G : va_G) (cy : Nat → ClassId) (κ : Nat → Nat) (S : PS) (sz : Nat) (x : Nat) (a1 : Int32) (a1_z : Int) (hG : GX S) (ha_x : At S x 3) (hz_a1 : a1.toInt = a1_z) : Ci l yX3_putNumber wsX3_putNumber ({ frames := 1, cells := 0, slots := 0, locals := 48 }) G cy κ S sz [.ref x, .int (a1)] (fun (r : Int32) (S9 : PS) => Ok ePU S S9 ∧ (((S9 = sI (sI S 304 x a1) 300 x 1) ∧ r = 1) ∨ ((False) ∧ r = 0))) := by
  refine ent_m (cc := cX3_putNumber) (maxL := 2) (ret := (some .boolean)) (by decide) rfl (Nat.le_of_ble_eq_true rfl) ?_
  intro p e s m below meth c ls X hr hlocks hin hw hl hsz
  subst hsz
  have X : Cx p c cX3_putNumber 2 s [.ref x, .int (a1)].toArray wsX3_putNumber RX3 m G cy κ (AS S s.heap.size) := X
  have hl : lv_has ls 2 [(0, .ref x), (1, .int (a1))] := hl
  have rg_a1 : (-2147483648) ≤ a1_z ∧ a1_z ≤ 2147483647 := by rw [← hz_a1]; exact ⟨z_lo _, z_hi _⟩
  have hO : Ok ePU S S := Ok.rf hG
  refine lv_aload_n X.1 X.2.1 dX3_putNumber_0 rfl (lv_at hl 0 rfl) ?_
  refine lv_iload_n X.1 X.2.1 dX3_putNumber_1 rfl (lv_at hl 1 rfl) ?_
  refine r_putI (v := a1) X hw ha_x rfl 4 304 tyX3 (by decide) rfl inn_X3_putNumber_3 tyX3_ok nmX3 (by decide) (X.2.2.2.1 (.fieldLink RX3 31 "SilkMill$Place" "number" "I") (by decide +kernel)) rfl (Or.inl rfl) rfl rfl (Nat.le_of_ble_eq_true rfl) (st_304 _ _) dX3_putNumber_2 (fun H locs hw => ?_)
  obtain ⟨S_1, eS_1⟩ : ∃ T, T = sI S 304 x (a1) := ⟨_, rfl⟩
  rw [← eS_1] at hw
  have hO_2 : Ok ePU S S_1 := hO.sI eS_1 (by decide +kernel) (uI_3_304 hO.1 ha_x)
  have h_3 : pI S_1 304 x = a1 := tI_sIs eS_1
  refine lv_aload_n X.1 X.2.1 dX3_putNumber_5 rfl (lv_at hl 0 rfl) ?_
  refine lv_iconst (v := 1) X.1 X.2.1 dX3_putNumber_6 (by decide) ?_
  have t_4 : At S_1 x 3 := tAt_sI eS_1 ha_x
  refine r_putI (v := 1) X hw t_4 rfl 0 300 tyX3 (by decide) rfl inn_X3_putNumber_3 tyX3_ok nmX3 (by decide) (X.2.2.2.1 (.fieldLink RX3 9 "SilkMill$Place" "kind" "I") (by decide +kernel)) rfl (Or.inl rfl) rfl rfl (Nat.le_of_ble_eq_true rfl) (st_300 _ _) dX3_putNumber_7 (fun H locs hw => ?_)
  obtain ⟨S_5, eS_5⟩ : ∃ T, T = sI S_1 300 x (1) := ⟨_, rfl⟩
  rw [← eS_5] at hw
  have hO_6 : Ok ePU S S_5 := hO_2.sI eS_5 (by decide +kernel) (uI_3_300 hO_2.1 t_4)
  have h_7 : pI S_5 300 x = 1 := tI_sIs eS_5
  refine lv_iconst (v := 1) X.1 X.2.1 dX3_putNumber_10 (by decide) ?_
  exact ret_z X hw hr hlocks (Nat.le_of_ble_eq_true rfl) (Nat.le_of_ble_eq_true rfl) (by decide) ⟨hO_6, Or.inl ⟨by rw [eS_5, eS_1], rfl⟩⟩ dX3_putNumber_11
set_option maxHeartbeats 4000000 in
set_option maxRecDepth 100000 in
theorem k_X3_putCocoon3 (l : Launch) (G : va_G) (cy : Nat → ClassId) (κ : Nat → Nat) (S : PS) (sz : Nat) (x : Nat) (c1 : Option Nat) (hG : GX S) (ha_x : At S x 3) (hq_c1 : ∀ q, c1 = some q → At S q 0) : Ci l yX3_putCocoon wsX3_putCocoon ({ frames := 1, cells := 0, slots := 0, locals := 48 }) G cy κ S sz [.ref x, va_rf c1] (fun (r : Int32) (S9 : PS) => Ok ePC S S9 ∧ (((∃ q, c1 = some q ∧ pI S 3 q = 0 ∧ S9 = sI (sR (sI S 3 q 5) 303 x (some q)) 300 x 0) ∧ r = 1) ∨ ((S9 = S ∧ ∀ q, c1 = some q → pI S 3 q ≠ 0) ∧ r = 0))) := by
  rcases c1 with _ | q_c1
  · have z_b_1 := trivial
    refine ent_m (cc := cX3_putCocoon) (maxL := 2) (ret := (some .boolean)) (by decide) rfl (Nat.le_of_ble_eq_true rfl) ?_
    intro p e s m below meth c ls X hr hlocks hin hw hl hsz
    subst hsz
    have X : Cx p c cX3_putCocoon 2 s [.ref x, .null].toArray wsX3_putCocoon RX3 m G cy κ (AS S s.heap.size) := X
    have hl : lv_has ls 2 [(0, .ref x), (1, .null)] := hl
    have hO : Ok ePC S S := Ok.rf hG
    refine lv_aload_nN X.1 X.2.1 dX3_putCocoon_0 rfl (lv_at hl 1 rfl) ?_
    refine lv_ifnullN (tgt := 11) X.1 X.2.1 dX3_putCocoon_1 (by decide) ?_
    refine lv_iconst (v := 0) X.1 X.2.1 dX3_putCocoon_11 (by decide) ?_
    exact ret_z X hw hr hlocks (Nat.le_of_ble_eq_true rfl) (Nat.le_of_ble_eq_true rfl) (by decide) ⟨hO, Or.inr ⟨⟨rfl, fun q h => (by cases h)⟩, rfl⟩⟩ dX3_putCocoon_12
  · have z_b_2 := trivial
    have ha_q_c1 : At S q_c1 0 := hq_c1 _ rfl
    refine ent_m (cc := cX3_putCocoon) (maxL := 2) (ret := (some .boolean)) (by decide) rfl (Nat.le_of_ble_eq_true rfl) ?_
    intro p e s m below meth c ls X hr hlocks hin hw hl hsz
    subst hsz
    have X : Cx p c cX3_putCocoon 2 s [.ref x, .ref q_c1].toArray wsX3_putCocoon RX3 m G cy κ (AS S s.heap.size) := X
    have hl : lv_has ls 2 [(0, .ref x), (1, .ref q_c1)] := hl
    have hO : Ok ePC S S := Ok.rf hG
    refine lv_aload_n X.1 X.2.1 dX3_putCocoon_0 rfl (lv_at hl 1 rfl) ?_
    refine lv_ifnull X.1 X.2.1 dX3_putCocoon_1 ?_
    refine lv_aload_n X.1 X.2.1 dX3_putCocoon_4 rfl (lv_at hl 1 rfl) ?_
    obtain ⟨v_3, ev_3⟩ : ∃ v, pI S 3 q_c1 = v := ⟨_, rfl⟩
    have rg_5 := And.intro (z_lo v_3) (z_hi v_3)
    refine r_getI (g := 3) (x := v_3) X hw ha_q_c1 rfl 3 ev_3 (by decide) rfl inn_X3_putCocoon_0 (by decide) (X.2.2.2.1 (.fieldLink RX3 22 "SilkMill$Cocoon" "stand" "I") (by decide +kernel)) rfl (gv_3 _ _) dX3_putCocoon_5 ?_
    refine lv_if_eq (tgt := 13) X.1 X.2.1 dX3_putCocoon_8 (by decide) (fun c_6 => ?_) (fun c_6 => ?_)
    · have z_b_7 := trivial
      have k_8 : v_3.toInt = 0 := z_eq rfl ti_0 c_6
      refine lv_aload_n X.1 X.2.1 dX3_putCocoon_13 rfl (lv_at hl 1 rfl) ?_
      refine lv_iconst (v := 5) X.1 X.2.1 dX3_putCocoon_14 (by decide) ?_
      have p0_9 : pI S 3 q_c1 = 0 := Int32.toInt_inj.mp (by rw [ev_3, ti_0]; omega)
      refine r_putI (v := 5) X hw ha_q_c1 rfl 3 3 tyX0 (by decide) rfl inn_X3_putCocoon_0 tyX0_ok nmX0 (by decide) (X.2.2.2.1 (.fieldLink RX3 22 "SilkMill$Cocoon" "stand" "I") (by decide +kernel)) rfl (Or.inl rfl) rfl rfl (Nat.le_of_ble_eq_true rfl) (st_3 _ _) dX3_putCocoon_15 (fun H locs hw => ?_)
      obtain ⟨S_10, eS_10⟩ : ∃ T, T = sI S 3 q_c1 (5) := ⟨_, rfl⟩
      rw [← eS_10] at hw
      have hO_11 : Ok ePC S S_10 := hO.sI eS_10 (by decide +kernel) (uI_0_3 hO.1 ha_q_c1)
      have h_12 : pI S_10 3 q_c1 = 5 := tI_sIs eS_10
      refine lv_aload_n X.1 X.2.1 dX3_putCocoon_18 rfl (lv_at hl 0 rfl) ?_
      refine lv_aload_n X.1 X.2.1 dX3_putCocoon_19 rfl (lv_at hl 1 rfl) ?_
      have t_13 : At S_10 x 3 := tAt_sI eS_10 ha_x
      have t_14 : At S_10 q_c1 0 := tAt_sI eS_10 ha_q_c1
      refine r_putR X hw t_13 rfl 3 303 (some q_c1) rfl tyX3 (by decide) rfl inn_X3_putCocoon_3 tyX3_ok nmX3 (by decide) (X.2.2.2.1 (.fieldLink RX3 27 "SilkMill$Place" "cocoon" "LSilkMill$Cocoon;") (by decide +kernel)) rfl (Or.inl rfl) (fun _ => rfl) rfl (fun _ => rfl) rfl (Nat.le_of_ble_eq_true rfl) (st_303 _ _) dX3_putCocoon_20 (fun H locs hw => ?_)
      obtain ⟨S_15, eS_15⟩ : ∃ T, T = sR S_10 303 x (some q_c1) := ⟨_, rfl⟩
      rw [← eS_15] at hw
      have hO_16 : Ok ePC S S_15 := hO_11.sR eS_15 (by decide +kernel) (uR_3_303 hO_11.1 t_13 t_14)
      have h_17 : pR S_15 303 x = some q_c1 := tR_sRs eS_15
      refine lv_aload_n X.1 X.2.1 dX3_putCocoon_23 rfl (lv_at hl 0 rfl) ?_
      refine lv_iconst (v := 0) X.1 X.2.1 dX3_putCocoon_24 (by decide) ?_
      have t_18 : At S_15 x 3 := tAt_sR eS_15 t_13
      refine r_putI (v := 0) X hw t_18 rfl 0 300 tyX3 (by decide) rfl inn_X3_putCocoon_3 tyX3_ok nmX3 (by decide) (X.2.2.2.1 (.fieldLink RX3 9 "SilkMill$Place" "kind" "I") (by decide +kernel)) rfl (Or.inl rfl) rfl rfl (Nat.le_of_ble_eq_true rfl) (st_300 _ _) dX3_putCocoon_25 (fun H locs hw => ?_)
      obtain ⟨S_19, eS_19⟩ : ∃ T, T = sI S_15 300 x (0) := ⟨_, rfl⟩
      rw [← eS_19] at hw
      have hO_20 : Ok ePC S S_19 := hO_16.sI eS_19 (by decide +kernel) (uI_3_300 hO_16.1 t_18)
      have h_21 : pI S_19 300 x = 0 := tI_sIs eS_19
      refine lv_iconst (v := 1) X.1 X.2.1 dX3_putCocoon_28 (by decide) ?_
      exact ret_z X hw hr hlocks (Nat.le_of_ble_eq_true rfl) (Nat.le_of_ble_eq_true rfl) (by decide) ⟨hO_20, Or.inl ⟨⟨q_c1, rfl, p0_9, by rw [eS_19, eS_15, eS_10]⟩, rfl⟩⟩ dX3_putCocoon_29
    · have z_b_22 := trivial
      have k_23 : v_3.toInt ≠ 0 := z_ne rfl ti_0 c_6
      refine lv_iconst (v := 0) X.1 X.2.1 dX3_putCocoon_11 (by decide) ?_
      exact ret_z X hw hr hlocks (Nat.le_of_ble_eq_true rfl) (Nat.le_of_ble_eq_true rfl) (by decide) ⟨hO, Or.inr ⟨⟨rfl, fun q h => (by cases h; exact fun z => by rw [ev_3] at z; have z2 := congrArg Int32.toInt z; rw [ti_0] at z2; omega)⟩, rfl⟩⟩ dX3_putCocoon_12
set_option maxHeartbeats 4000000 in
set_option maxRecDepth 100000 in
theorem k_X3_putWord3 (l : Launch) (G : va_G) (cy : Nat → ClassId) (κ : Nat → Nat) (S : PS) (sz : Nat) (x : Nat) (a1 : Int32) (a1_z : Int) (a2 : Int32) (a2_z : Int) (hG : GX S) (ha_x : At S x 3) (hz_a1 : a1.toInt = a1_z) (hz_a2 : a2.toInt = a2_z) : Ci l yX3_putWord wsX3_putWord ({ frames := 2, cells := 0, slots := 0, locals := 96 }) G cy κ S sz [.ref x, .int (a1), .int (a2)] (fun (r : Int32) (S9 : PS) => Ok ePW S S9 ∧ (((0 ≤ a1_z ∧ a1_z ≤ 8 ∧ ∃ w f, pR S 302 x = some w ∧ (∀ i : Nat, (i : Int) < 8 → f i = a2) ∧ S9 = sI (sI (sA S w f) 301 x a1) 300 x 2) ∧ r = 1) ∨ ((S9 = S ∧ ¬ (0 ≤ a1_z ∧ a1_z ≤ 8)) ∧ r = 0))) := by
  refine ent_m (cc := cX3_putWord) (maxL := 3) (ret := (some .boolean)) (by decide) rfl (Nat.le_of_ble_eq_true rfl) ?_
  intro p e s m below meth c ls X hr hlocks hin hw hl hsz
  subst hsz
  have X : Cx p c cX3_putWord 3 s [.ref x, .int (a1), .int (a2)].toArray wsX3_putWord RX3 m G cy κ (AS S s.heap.size) := X
  have hl : lv_has ls 3 [(0, .ref x), (1, .int (a1)), (2, .int (a2))] := hl
  have rg_a1 : (-2147483648) ≤ a1_z ∧ a1_z ≤ 2147483647 := by rw [← hz_a1]; exact ⟨z_lo _, z_hi _⟩
  have rg_a2 : (-2147483648) ≤ a2_z ∧ a2_z ≤ 2147483647 := by rw [← hz_a2]; exact ⟨z_lo _, z_hi _⟩
  have hO : Ok ePW S S := Ok.rf hG
  refine lv_iload_n X.1 X.2.1 dX3_putWord_0 rfl (lv_at hl 1 rfl) ?_
  refine lv_iconst (v := 0) X.1 X.2.1 dX3_putWord_1 (by decide) ?_
  refine lv_bipush (v := 8) X.1 X.2.1 dX3_putWord_2 (by decide) ?_
  refine k_i (rm := { frames := 1, cells := 0, slots := 0, locals := 48 }) (av := [.int (a1), .int 0, .int 8]) X hw (va_runSN (As := [.int (a1), .int 0, .int 8]) (rest := []) (cfix X) (k_X11_isWithin l G cy κ S _ (a1) (a1_z) (0) (0) (8) (8) hO.1 hz_a1 ti_0 ti_8) ⟨(va_cnB (host := RX11) 3 X.2.2.2.1 gX3_putWord_X11_isWithin_n34 rfl rfl rfl (X.2.2.2.2.2.2.2.1.2.1 (RX3, 34, yX11_isWithin) (by decide +kernel)) (X.2.2.2.1 (.initialized RX11) (by decide +kernel)) (by decide +kernel) ⟨Nat.le_of_ble_eq_true rfl, Nat.le_of_ble_eq_true rfl⟩), (X.2.2.2.1 (.static yX11_isWithin) (by decide +kernel)), trivial⟩ (pre_S X hw _) rfl rfl hl.1 rfl (lv_room (Nat.le_of_ble_eq_true rfl)) dX3_putWord_4 ⟨Nat.le_of_ble_eq_true rfl, Nat.le_of_ble_eq_true rfl⟩) 0 0 (Nat.le_of_ble_eq_true rfl) (Nat.le_of_ble_eq_true rfl) (fun rr_1 S_2 H locs hp hw hfr hnw => ?_)
  obtain ⟨e2, hp⟩ := hp
  subst e2
  rcases hp with ⟨f_3, er_4⟩ | ⟨f_3, er_4⟩ <;> subst er_4
  · have z_b_5 := trivial
    refine lv_if_ne (tgt := 12) X.1 X.2.1 dX3_putWord_7 (by decide) (fun c_6 => ?_) (fun c_6 => absurd c_6 (by decide))
    refine lv_aload_n X.1 X.2.1 dX3_putWord_12 rfl (lv_at hl 0 rfl) ?_
    obtain ⟨q_7, h_8, h_9, h_10⟩ := gQ_3_302 hO.1 ha_x
    refine r_getR (g := 302) X hw ha_x rfl 2 h_8 (by decide) rfl inn_X3_putWord_3 (by decide) (X.2.2.2.1 (.fieldLink RX3 15 "SilkMill$Place" "word" "[I") (by decide +kernel)) rfl (gv_302 _ _) dX3_putWord_13 ?_
    refine lv_iload_n X.1 X.2.1 dX3_putWord_16 rfl (lv_at hl 2 rfl) ?_
    refine k_v (rm := { frames := 1, cells := 0, slots := 0, locals := 48 }) (av := [.ref q_7, .int (a2)]) X hw (va_runS (As := [.ref q_7, .int (a2)]) (rest := []) (cfix X) (k_J7_fill3 l G cy κ S _ q_7 (a2) (a2_z) 8 hO.1 h_9 hz_a2 h_10 (by omega)) (va_cwS 2 X.2.2.2.1 gX3_putWord_J7_fill_53178 rfl rfl rfl (by decide +kernel) ⟨Nat.le_of_ble_eq_true rfl, Nat.le_of_ble_eq_true rfl⟩) (pre_S X hw _) rfl rfl hl.1 rfl (lv_room (Nat.le_of_ble_eq_true rfl)) dX3_putWord_17 ⟨Nat.le_of_ble_eq_true rfl, Nat.le_of_ble_eq_true rfl⟩) 0 0 (Nat.le_of_ble_eq_true rfl) (Nat.le_of_ble_eq_true rfl) (fun S_12 H locs hp hw hfr hnw => ?_)
    obtain ⟨hk_13, hp⟩ := hp
    have hO_14 : Ok ePW S S_12 := hO.call hk_13 (by decide +kernel)
    have fl_15 := hp
    obtain ⟨wf, w_h1, w_h2⟩ := fl_15
    refine lv_aload_n X.1 X.2.1 dX3_putWord_20 rfl (lv_at hl 0 rfl) ?_
    refine lv_iload_n X.1 X.2.1 dX3_putWord_21 rfl (lv_at hl 1 rfl) ?_
    have t_16 : At S_12 x 3 := hk_13.fr.at ha_x
    refine r_putI (v := a1) X hw t_16 rfl 1 301 tyX3 (by decide) rfl inn_X3_putWord_3 tyX3_ok nmX3 (by decide) (X.2.2.2.1 (.fieldLink RX3 19 "SilkMill$Place" "wordSize" "I") (by decide +kernel)) rfl (Or.inl rfl) rfl rfl (Nat.le_of_ble_eq_true rfl) (st_301 _ _) dX3_putWord_22 (fun H locs hw => ?_)
    obtain ⟨S_17, eS_17⟩ : ∃ T, T = sI S_12 301 x (a1) := ⟨_, rfl⟩
    rw [← eS_17] at hw
    have hO_18 : Ok ePW S S_17 := hO_14.sI eS_17 (by decide +kernel) (uI_3_301 hO_14.1 t_16 (by omega) (by omega))
    have h_19 : pI S_17 301 x = a1 := tI_sIs eS_17
    refine lv_aload_n X.1 X.2.1 dX3_putWord_25 rfl (lv_at hl 0 rfl) ?_
    refine lv_iconst (v := 2) X.1 X.2.1 dX3_putWord_26 (by decide) ?_
    have t_20 : At S_17 x 3 := tAt_sI eS_17 t_16
    refine r_putI (v := 2) X hw t_20 rfl 0 300 tyX3 (by decide) rfl inn_X3_putWord_3 tyX3_ok nmX3 (by decide) (X.2.2.2.1 (.fieldLink RX3 9 "SilkMill$Place" "kind" "I") (by decide +kernel)) rfl (Or.inl rfl) rfl rfl (Nat.le_of_ble_eq_true rfl) (st_300 _ _) dX3_putWord_27 (fun H locs hw => ?_)
    obtain ⟨S_21, eS_21⟩ : ∃ T, T = sI S_17 300 x (2) := ⟨_, rfl⟩
    rw [← eS_21] at hw
    have hO_22 : Ok ePW S S_21 := hO_18.sI eS_21 (by decide +kernel) (uI_3_300 hO_18.1 t_20)
    have h_23 : pI S_21 300 x = 2 := tI_sIs eS_21
    refine lv_iconst (v := 1) X.1 X.2.1 dX3_putWord_30 (by decide) ?_
    exact ret_z X hw hr hlocks (Nat.le_of_ble_eq_true rfl) (Nat.le_of_ble_eq_true rfl) (by decide) ⟨hO_22, Or.inl ⟨⟨by omega, by omega, q_7, _, h_8, w_h1, by rw [eS_21, eS_17, w_h2]⟩, rfl⟩⟩ dX3_putWord_31
  · have z_b_27 := trivial
    refine lv_if_ne (tgt := 12) X.1 X.2.1 dX3_putWord_7 (by decide) (fun c_28 => absurd c_28 (by decide)) (fun c_28 => ?_)
    refine lv_iconst (v := 0) X.1 X.2.1 dX3_putWord_10 (by decide) ?_
    exact ret_z X hw hr hlocks (Nat.le_of_ble_eq_true rfl) (Nat.le_of_ble_eq_true rfl) (by decide) ⟨hO, Or.inr ⟨⟨rfl, by omega⟩, rfl⟩⟩ dX3_putWord_11
set_option maxHeartbeats 4000000 in
set_option maxRecDepth 100000 in
theorem k_X11_shelfAt3 (l : Launch) (G : va_G) (cy : Nat → ClassId) (κ : Nat → Nat) (S : PS) (sz : Nat) (x : Nat) (a1 : Int32) (a1_z : Int) (hG : GX S) (ha_x : At S x 11) (hz_a1 : a1.toInt = a1_z) : Cq l yX11_shelfAt wsX11_shelfAt ({ frames := 1, cells := 0, slots := 0, locals := 48 }) G cy κ S sz [.ref x, .int (a1)] (fun (r : Option Nat) (S9 : PS) => S = S9 ∧ ((∀ q, r = some q → At S9 q 3 ∧ 0 ≤ a1_z ∧ a1_z ≤ 15 ∧ mB S x 1109 a1_z.toNat = some q) ∧ (r = none → (0 ≤ a1_z ∧ a1_z ≤ 15 → mB S x 1109 a1_z.toNat = none)))) := by
  refine ent_m (cc := cX11_shelfAt) (maxL := 2) (ret := (some (.object "SilkMill$Place"))) (by decide) rfl (Nat.le_of_ble_eq_true rfl) ?_
  intro p e s m below meth c ls X hr hlocks hin hw hl hsz
  subst hsz
  have X : Cx p c cX11_shelfAt 2 s [.ref x, .int (a1)].toArray wsX11_shelfAt RX11 m G cy κ (AS S s.heap.size) := X
  have hl : lv_has ls 2 [(0, .ref x), (1, .int (a1))] := hl
  have rg_a1 : (-2147483648) ≤ a1_z ∧ a1_z ≤ 2147483647 := by rw [← hz_a1]; exact ⟨z_lo _, z_hi _⟩
  refine lv_iload_n X.1 X.2.1 dX11_shelfAt_0 rfl (lv_at hl 1 rfl) ?_
  refine lv_if_lt (tgt := 10) X.1 X.2.1 dX11_shelfAt_1 (by decide) (fun c_1 => ?_) (fun c_1 => ?_)
  · have z_b_2 := trivial
    have k_3 : a1_z < 0 := z_lt hz_a1 ti_0 c_1
    refine lv_null X.1 X.2.1 dX11_shelfAt_10 ?_
    refine lv_goto (tgt := 20) X.1 X.2.1 dX11_shelfAt_11 (by decide) ?_
    exact ret_q none rfl X hw hr hlocks (Nat.le_of_ble_eq_true rfl) (Nat.le_of_ble_eq_true rfl) ⟨rfl, ⟨fun q h => (by cases h), fun _ h => by exfalso; omega⟩⟩ dX11_shelfAt_20
  · have z_b_4 := trivial
    have k_5 : a1_z ≥ 0 := z_nlt hz_a1 ti_0 c_1
    refine lv_iload_n X.1 X.2.1 dX11_shelfAt_4 rfl (lv_at hl 1 rfl) ?_
    refine lv_bipush (v := 16) X.1 X.2.1 dX11_shelfAt_5 (by decide) ?_
    refine lv_icmp_lt (tgt := 14) X.1 X.2.1 dX11_shelfAt_7 (by decide) (fun c_6 => ?_) (fun c_6 => ?_)
    · have z_b_7 := trivial
      have k_8 : a1_z < 16 := z_lt hz_a1 ti_16 c_6
      refine lv_aload_n X.1 X.2.1 dX11_shelfAt_14 rfl (lv_at hl 0 rfl) ?_
      obtain ⟨q_9, h_10, h_11, h_12⟩ := gQ_11_1109 hG ha_x
      refine r_getR (g := 1109) X hw ha_x rfl 9 h_10 (by decide) rfl inn_X11_shelfAt_11 (by decide) (X.2.2.2.1 (.fieldLink RX11 55 "SilkMill" "shelf" "[LSilkMill$Place;") (by decide +kernel)) rfl (gv_1109 _ _) dX11_shelfAt_15 ?_
      refine lv_iload_n X.1 X.2.1 dX11_shelfAt_18 rfl (lv_at hl 1 rfl) ?_
      refine r_aald X hw h_11 rfl (by decide) rfl (by rw [h_12]; exact z_ix hz_a1 (by omega) (by omega)) dX11_shelfAt_19 ?_
      rcases ho_13 : pB S q_9 (Int32.toNatClampNeg (a1)) with _ | q_14
      · refine W.eq (g2 := F0 m 20 ls (.null :: [])) rfl ?_
        exact ret_q none rfl X hw hr hlocks (Nat.le_of_ble_eq_true rfl) (Nat.le_of_ble_eq_true rfl) ⟨rfl, ⟨fun q h => (by cases h), fun _ _ => (by rw [mB_eq h_10, ← z_nc hz_a1 (by omega)]; exact ho_13)⟩⟩ dX11_shelfAt_20
      · refine W.eq (g2 := F0 m 20 ls (.ref q_14 :: [])) rfl ?_
        have ha_15 : At S q_14 3 := gEl_17 hG h_11 _ _ ho_13
        exact ret_q (some q_14) rfl X hw hr hlocks (Nat.le_of_ble_eq_true rfl) (Nat.le_of_ble_eq_true rfl) ⟨rfl, ⟨fun q h => (by cases h; exact ⟨ha_15, by omega, by omega, by rw [mB_eq h_10, ← z_nc hz_a1 (by omega)]; exact ho_13⟩), fun h => (by cases h)⟩⟩ dX11_shelfAt_20
    · have z_b_16 := trivial
      have k_17 : a1_z ≥ 16 := z_nlt hz_a1 ti_16 c_6
      refine lv_null X.1 X.2.1 dX11_shelfAt_10 ?_
      refine lv_goto (tgt := 20) X.1 X.2.1 dX11_shelfAt_11 (by decide) ?_
      exact ret_q none rfl X hw hr hlocks (Nat.le_of_ble_eq_true rfl) (Nat.le_of_ble_eq_true rfl) ⟨rfl, ⟨fun q h => (by cases h), fun _ h => by exfalso; omega⟩⟩ dX11_shelfAt_20
set_option maxHeartbeats 4000000 in
set_option maxRecDepth 100000 in
theorem k_X11_shelve3 (l : Launch) (G : va_G) (cy : Nat → ClassId) (κ : Nat → Nat) (S : PS) (sz : Nat) (x : Nat) (a1 : Int32) (a1_z : Int) (a2 : Int32) (a2_z : Int) (a3 : Int32) (a3_z : Int) (a4 : Int32) (a4_z : Int) (hG : GX S) (ha_x : At S x 11) (hz_a1 : a1.toInt = a1_z) (hz_a2 : a2.toInt = a2_z) (hz_a3 : a3.toInt = a3_z) (hz_a4 : a4.toInt = a4_z) : Ci l yX11_shelve wsX11_shelve ({ frames := 3, cells := 0, slots := 0, locals := 144 }) G cy κ S sz [.ref x, .int (a1), .int (a2), .int (a3), .int (a4)] (fun (r : Int32) (S9 : PS) => Ok eSH S S9 ∧ (((∃ P, (0 ≤ a1_z ∧ a1_z ≤ 15) ∧ mB S x 1109 a1_z.toNat = some P ∧ (pI S 300 P).toInt = -1 ∧ ShE S S9 x P a2_z a3 a3_z a4 a4_z) ∧ r = 1) ∨ ((S9 = S ∧ ∀ P, 0 ≤ a1_z → a1_z ≤ 15 → mB S x 1109 a1_z.toNat = some P → ¬ ((pI S 300 P).toInt = -1 ∧ ShC S x a2_z a3_z a4_z)) ∧ r = 0))) := by
  refine ent_m (cc := cX11_shelve) (maxL := 7) (ret := (some .boolean)) (by decide) rfl (Nat.le_of_ble_eq_true rfl) ?_
  intro p e s m below meth c ls X hr hlocks hin hw hl hsz
  subst hsz
  have X : Cx p c cX11_shelve 7 s [.ref x, .int (a1), .int (a2), .int (a3), .int (a4)].toArray wsX11_shelve RX11 m G cy κ (AS S s.heap.size) := X
  have hl : lv_has ls 7 [(0, .ref x), (1, .int (a1)), (2, .int (a2)), (3, .int (a3)), (4, .int (a4))] := hl
  have rg_a1 : (-2147483648) ≤ a1_z ∧ a1_z ≤ 2147483647 := by rw [← hz_a1]; exact ⟨z_lo _, z_hi _⟩
  have rg_a2 : (-2147483648) ≤ a2_z ∧ a2_z ≤ 2147483647 := by rw [← hz_a2]; exact ⟨z_lo _, z_hi _⟩
  have rg_a3 : (-2147483648) ≤ a3_z ∧ a3_z ≤ 2147483647 := by rw [← hz_a3]; exact ⟨z_lo _, z_hi _⟩
  have rg_a4 : (-2147483648) ≤ a4_z ∧ a4_z ≤ 2147483647 := by rw [← hz_a4]; exact ⟨z_lo _, z_hi _⟩
  have hO : Ok eSH S S := Ok.rf hG
  refine lv_aload_n X.1 X.2.1 dX11_shelve_0 rfl (lv_at hl 0 rfl) ?_
  refine lv_iload_n X.1 X.2.1 dX11_shelve_1 rfl (lv_at hl 1 rfl) ?_
  refine k_q (rm := { frames := 1, cells := 0, slots := 0, locals := 48 }) (av := [.ref x, .int (a1)]) X hw (va_runV (As := [.int (a1)]) (rest := []) (cfix X) (k_X11_shelfAt3 l G cy κ S _ x (a1) (a1_z) hO.1 ha_x hz_a1) (cwV 1 X.2.2.2.1 gX11_shelve_X11_shelfAt rfl rfl rfl (by decide +kernel) ⟨Nat.le_of_ble_eq_true rfl, Nat.le_of_ble_eq_true rfl⟩) (pre_V X hw _ ha_x rfl (by decide) rfl) rfl rfl hl.1 rfl (lv_room (Nat.le_of_ble_eq_true rfl)) dX11_shelve_2 ⟨Nat.le_of_ble_eq_true rfl, Nat.le_of_ble_eq_true rfl⟩) 0 0 (Nat.le_of_ble_eq_true rfl) (Nat.le_of_ble_eq_true rfl) (fun rr_1 S_2 H locs hp hw hfr hnw => ?_)
  obtain ⟨e2, hp⟩ := hp
  subst e2
  obtain ⟨hq_3, hnf_4⟩ := hp
  rcases rr_1 with _ | q_5
  · refine W.eq (g2 := F0 m 5 ls (.null :: [])) rfl ?_
    have nf_6 := hnf_4 rfl
    refine lv_astoreN (lv' := [(5, .null), (0, .ref x), (1, .int (a1)), (2, .int (a2)), (3, .int (a3)), (4, .int (a4))]) X.1 X.2.1 dX11_shelve_5 hl (by decide) rfl (fun ls hl => ?_)
    refine lv_aloadN X.1 X.2.1 dX11_shelve_7 (lv_at hl 0 rfl) ?_
    refine lv_ifnullN (tgt := 21) X.1 X.2.1 dX11_shelve_9 (by decide) ?_
    refine lv_iconst (v := 0) X.1 X.2.1 dX11_shelve_21 (by decide) ?_
    exact ret_z X hw hr hlocks (Nat.le_of_ble_eq_true rfl) (Nat.le_of_ble_eq_true rfl) (by decide) ⟨hO, Or.inr ⟨⟨rfl, fun P h1 h2 h3 => by rw [nf_6 ⟨h1, h2⟩] at h3; cases h3⟩, rfl⟩⟩ dX11_shelve_22
  · refine W.eq (g2 := F0 m 5 ls (.ref q_5 :: [])) rfl ?_
    obtain ⟨ha_7, f_8, f_9, f_10⟩ := hq_3 _ rfl
    refine lv_astore (lv' := [(5, .ref q_5), (0, .ref x), (1, .int (a1)), (2, .int (a2)), (3, .int (a3)), (4, .int (a4))]) X.1 X.2.1 dX11_shelve_5 hl (by decide) rfl (fun ls hl => ?_)
    refine lv_aload X.1 X.2.1 dX11_shelve_7 (lv_at hl 0 rfl) ?_
    refine lv_ifnull X.1 X.2.1 dX11_shelve_9 ?_
    refine lv_aload X.1 X.2.1 dX11_shelve_12 (lv_at hl 0 rfl) ?_
    obtain ⟨v_11, ev_11⟩ : ∃ v, pI S 300 q_5 = v := ⟨_, rfl⟩
    have rg_13 := And.intro (z_lo v_11) (z_hi v_11)
    have pz_14 : (pI S 300 q_5).toInt = v_11.toInt := by rw [ev_11]
    refine r_getI (g := 300) (x := v_11) X hw ha_7 rfl 0 ev_11 (by decide) rfl inn_X11_shelve_3 (by decide) (X.2.2.2.1 (.fieldLink RX11 307 "SilkMill$Place" "kind" "I") (by decide +kernel)) rfl (gv_300 _ _) dX11_shelve_14 ?_
    refine lv_iconst (v := (-1)) X.1 X.2.1 dX11_shelve_17 (by decide) ?_
    refine lv_icmp_eq (tgt := 23) X.1 X.2.1 dX11_shelve_18 (by decide) (fun c_15 => ?_) (fun c_15 => ?_)
    · have z_b_16 := trivial
      have k_17 : v_11.toInt = (-1) := z_eq rfl ti_m1 c_15
      refine lv_iload_n X.1 X.2.1 dX11_shelve_23 rfl (lv_at hl 3 rfl) ?_
      by_cases w_18 : (a2).toInt < 0 ∨ 2 < (a2).toInt
      · refine lv_tableOut (tgt := 93) X.1 X.2.1 dX11_shelve_24 w_18 (by decide) ?_
        refine lv_iconst (v := 0) X.1 X.2.1 dX11_shelve_93 (by decide) ?_
        refine lv_istore (lv' := [(6, .int 0), (5, .ref q_5), (0, .ref x), (1, .int (a1)), (2, .int (a2)), (3, .int (a3)), (4, .int (a4))]) X.1 X.2.1 dX11_shelve_94 hl (by decide) rfl (fun ls hl => ?_)
        refine lv_iload X.1 X.2.1 dX11_shelve_96 (lv_at hl 0 rfl) ?_
        refine lv_if_eq (tgt := 111) X.1 X.2.1 dX11_shelve_98 (by decide) (fun c_19 => ?_) (fun c_19 => absurd c_19 (by decide))
        refine lv_iload X.1 X.2.1 dX11_shelve_111 (lv_at hl 0 rfl) ?_
        exact ret_z X hw hr hlocks (Nat.le_of_ble_eq_true rfl) (Nat.le_of_ble_eq_true rfl) (by decide) ⟨hO, Or.inr ⟨⟨rfl, fun P h1 h2 h3 h4 => by rw [f_10] at h3; cases h3; rcases h4.2 with ⟨h5, -⟩ | h5 | ⟨h5, -⟩ <;> omega⟩, rfl⟩⟩ dX11_shelve_113
      have w_18b : (a2).toInt = 0 ∨ (a2).toInt = 1 ∨ (a2).toInt = 2 := by omega
      rcases w_18b with w_18c | w_18c | w_18c
      · refine lv_tableIn (tgt := 52) X.1 X.2.1 dX11_shelve_24 (by omega) (by omega) (by rw [w_18c]; rfl) (by decide) ?_
        refine lv_aload X.1 X.2.1 dX11_shelve_52 (lv_at hl 0 rfl) ?_
        refine lv_aload_n X.1 X.2.1 dX11_shelve_54 rfl (lv_at hl 1 rfl) ?_
        refine lv_iload_n X.1 X.2.1 dX11_shelve_55 rfl (lv_at hl 4 rfl) ?_
        refine lv_iload X.1 X.2.1 dX11_shelve_56 (lv_at hl 5 rfl) ?_
        refine k_q (rm := { frames := 1, cells := 0, slots := 0, locals := 48 }) (av := [.ref x, .int (a3), .int (a4)]) X hw (va_runV (As := [.int (a3), .int (a4)]) (rest := [.ref q_5]) (cfix X) (k_X11_cocoonAt3 l G cy κ S _ x (a3) (a3_z) (a4) (a4_z) hO.1 ha_x hz_a3 hz_a4) (cwV 2 X.2.2.2.1 gX11_shelve_X11_cocoonAt rfl rfl rfl (by decide +kernel) ⟨Nat.le_of_ble_eq_true rfl, Nat.le_of_ble_eq_true rfl⟩) (pre_V X hw _ ha_x rfl (by decide) rfl) rfl rfl hl.1 rfl (lv_room (Nat.le_of_ble_eq_true rfl)) dX11_shelve_58 ⟨Nat.le_of_ble_eq_true rfl, Nat.le_of_ble_eq_true rfl⟩) 0 0 (Nat.le_of_ble_eq_true rfl) (Nat.le_of_ble_eq_true rfl) (fun rr_20 S_21 H locs hp hw hfr hnw => ?_)
        obtain ⟨e2, hp⟩ := hp
        subst e2
        obtain ⟨hq_22, hnf_23⟩ := hp
        rcases rr_20 with _ | q_24
        · refine W.eq (g2 := F0 m 61 ls (.null :: .ref q_5 :: [])) rfl ?_
          have nf_25 := hnf_23 rfl
          refine k_i (rm := { frames := 1, cells := 0, slots := 0, locals := 48 }) (av := [.ref q_5, .null]) X hw (va_runV (As := [.null]) (rest := []) (cfix X) (k_X3_putCocoon3 l G cy κ S _ q_5 none hO.1 ha_7 (fun q h => by cases h)) (cwV 1 X.2.2.2.1 gX11_shelve_X3_putCocoon rfl rfl rfl (by decide +kernel) ⟨Nat.le_of_ble_eq_true rfl, Nat.le_of_ble_eq_true rfl⟩) (pre_V X hw _ ha_7 rfl (by decide) rfl) rfl rfl hl.1 rfl (lv_room (Nat.le_of_ble_eq_true rfl)) dX11_shelve_61 ⟨Nat.le_of_ble_eq_true rfl, Nat.le_of_ble_eq_true rfl⟩) 0 0 (Nat.le_of_ble_eq_true rfl) (Nat.le_of_ble_eq_true rfl) (fun rr_26 S_27 H locs hp hw hfr hnw => ?_)
          obtain ⟨hk_28, hp⟩ := hp
          have hO_29 : Ok eSH S S_27 := hO.call hk_28 (by decide +kernel)
          rcases hp with ⟨f_30, er_31⟩ | ⟨f_30, er_31⟩ <;> subst er_31
          · have z_b_32 := trivial
            obtain ⟨q, h, -⟩ := f_30
            cases h
          · have z_b_33 := trivial
            refine lv_istore (lv' := [(6, .int 0), (5, .ref q_5), (0, .ref x), (1, .int (a1)), (2, .int (a2)), (3, .int (a3)), (4, .int (a4))]) X.1 X.2.1 dX11_shelve_64 hl (by decide) rfl (fun ls hl => ?_)
            refine lv_goto (tgt := 96) X.1 X.2.1 dX11_shelve_66 (by decide) ?_
            refine lv_iload X.1 X.2.1 dX11_shelve_96 (lv_at hl 0 rfl) ?_
            refine lv_if_eq (tgt := 111) X.1 X.2.1 dX11_shelve_98 (by decide) (fun c_34 => ?_) (fun c_34 => absurd c_34 (by decide))
            refine lv_iload X.1 X.2.1 dX11_shelve_111 (lv_at hl 0 rfl) ?_
            exact ret_z X hw hr hlocks (Nat.le_of_ble_eq_true rfl) (Nat.le_of_ble_eq_true rfl) (by decide) ⟨hO_29, Or.inr ⟨⟨f_30.1, fun P h1 h2 h3 h4 => by rw [f_10] at h3; cases h3; rcases h4.2 with ⟨-, h5, q, h6, -⟩ | h5 | ⟨h5, -⟩; rcases nf_25 with h7 | h7; exact h7 h5; rw [h6] at h7; cases h7; omega; omega⟩, rfl⟩⟩ dX11_shelve_113
        · refine W.eq (g2 := F0 m 61 ls (.ref q_24 :: .ref q_5 :: [])) rfl ?_
          obtain ⟨ha_35, f_36, f_37⟩ := hq_22 _ rfl
          refine k_i (rm := { frames := 1, cells := 0, slots := 0, locals := 48 }) (av := [.ref q_5, .ref q_24]) X hw (va_runV (As := [.ref q_24]) (rest := []) (cfix X) (k_X3_putCocoon3 l G cy κ S _ q_5 (some q_24) hO.1 ha_7 (fun q h => by cases h; exact ha_35)) (cwV 1 X.2.2.2.1 gX11_shelve_X3_putCocoon rfl rfl rfl (by decide +kernel) ⟨Nat.le_of_ble_eq_true rfl, Nat.le_of_ble_eq_true rfl⟩) (pre_V X hw _ ha_7 rfl (by decide) rfl) rfl rfl hl.1 rfl (lv_room (Nat.le_of_ble_eq_true rfl)) dX11_shelve_61 ⟨Nat.le_of_ble_eq_true rfl, Nat.le_of_ble_eq_true rfl⟩) 0 0 (Nat.le_of_ble_eq_true rfl) (Nat.le_of_ble_eq_true rfl) (fun rr_38 S_39 H locs hp hw hfr hnw => ?_)
          obtain ⟨hk_40, hp⟩ := hp
          have hO_41 : Ok eSH S S_39 := hO.call hk_40 (by decide +kernel)
          rcases hp with ⟨f_42, er_43⟩ | ⟨f_42, er_43⟩ <;> subst er_43
          · have z_b_44 := trivial
            refine lv_istore (lv' := [(6, .int 1), (5, .ref q_5), (0, .ref x), (1, .int (a1)), (2, .int (a2)), (3, .int (a3)), (4, .int (a4))]) X.1 X.2.1 dX11_shelve_64 hl (by decide) rfl (fun ls hl => ?_)
            refine lv_goto (tgt := 96) X.1 X.2.1 dX11_shelve_66 (by decide) ?_
            refine lv_iload X.1 X.2.1 dX11_shelve_96 (lv_at hl 0 rfl) ?_
            refine lv_if_eq (tgt := 111) X.1 X.2.1 dX11_shelve_98 (by decide) (fun c_45 => absurd c_45 (by decide)) (fun c_45 => ?_)
            refine lv_aload_n X.1 X.2.1 dX11_shelve_101 rfl (lv_at hl 2 rfl) ?_
            refine lv_dup X.1 X.2.1 dX11_shelve_102 rfl ?_
            have t_46 : At S_39 x 11 := hk_40.fr.at ha_x
            obtain ⟨v_47, ev_47⟩ : ∃ v, pI S_39 1110 x = v := ⟨_, rfl⟩
            have rg_49 := And.intro (z_lo v_47) (z_hi v_47)
            have pz_50 : (pI S_39 1110 x).toInt = v_47.toInt := by rw [ev_47]
            refine r_getI (g := 1110) (x := v_47) X hw t_46 rfl 10 ev_47 (by decide) rfl inn_X11_shelve_11 (by decide) (X.2.2.2.1 (.fieldLink RX11 321 "SilkMill" "shelved" "I") (by decide +kernel)) rfl (gv_1110 _ _) dX11_shelve_103 ?_
            refine lv_iconst (v := 1) X.1 X.2.1 dX11_shelve_106 (by decide) ?_
            refine lv_iadd X.1 X.2.1 dX11_shelve_107 ?_
            refine lv_topi (fun v_51 ev_51 => ?_)
            have rg_52 := And.intro (z_lo v_51) (z_hi v_51)
            refine r_putI (v := v_51) X hw t_46 rfl 10 1110 tyX11 (by decide) rfl inn_X11_shelve_11 tyX11_ok nmX11 (by decide) (X.2.2.2.1 (.fieldLink RX11 321 "SilkMill" "shelved" "I") (by decide +kernel)) rfl (Or.inl rfl) rfl rfl (Nat.le_of_ble_eq_true rfl) (st_1110 _ _) dX11_shelve_108 (fun H locs hw => ?_)
            obtain ⟨S_53, eS_53⟩ : ∃ T, T = sI S_39 1110 x (v_51) := ⟨_, rfl⟩
            rw [← eS_53] at hw
            have hO_54 : Ok eSH S S_53 := hO_41.sI eS_53 (by decide +kernel) (uI_11_1110 hO_41.1 t_46)
            have h_55 : pI S_53 1110 x = v_51 := tI_sIs eS_53
            refine lv_iload X.1 X.2.1 dX11_shelve_111 (lv_at hl 0 rfl) ?_
            obtain ⟨qz, x_56, x_57, x_58⟩ := f_42
            cases x_56
            exact ret_z X hw hr hlocks (Nat.le_of_ble_eq_true rfl) (Nat.le_of_ble_eq_true rfl) (by decide) ⟨hO_54, Or.inl ⟨⟨q_5, ⟨by omega, by omega⟩, f_10, by rw [ev_11]; omega, Or.inl ⟨by omega, f_36, _, _, f_37, x_57, by rw [eS_53, x_58]⟩⟩, rfl⟩⟩ dX11_shelve_113
          · have z_b_59 := trivial
            refine lv_istore (lv' := [(6, .int 0), (5, .ref q_5), (0, .ref x), (1, .int (a1)), (2, .int (a2)), (3, .int (a3)), (4, .int (a4))]) X.1 X.2.1 dX11_shelve_64 hl (by decide) rfl (fun ls hl => ?_)
            refine lv_goto (tgt := 96) X.1 X.2.1 dX11_shelve_66 (by decide) ?_
            refine lv_iload X.1 X.2.1 dX11_shelve_96 (lv_at hl 0 rfl) ?_
            refine lv_if_eq (tgt := 111) X.1 X.2.1 dX11_shelve_98 (by decide) (fun c_60 => ?_) (fun c_60 => absurd c_60 (by decide))
            refine lv_iload X.1 X.2.1 dX11_shelve_111 (lv_at hl 0 rfl) ?_
            exact ret_z X hw hr hlocks (Nat.le_of_ble_eq_true rfl) (Nat.le_of_ble_eq_true rfl) (by decide) ⟨hO_41, Or.inr ⟨⟨f_42.1, fun P h1 h2 h3 h4 => by rw [f_10] at h3; cases h3; rcases h4.2 with ⟨-, -, q, h5, h6⟩ | h5 | ⟨h5, -⟩; rw [f_37] at h5; cases h5; exact f_42.2 _ rfl h6; omega; omega⟩, rfl⟩⟩ dX11_shelve_113
      · refine lv_tableIn (tgt := 69) X.1 X.2.1 dX11_shelve_24 (by omega) (by omega) (by rw [w_18c]; rfl) (by decide) ?_
        refine lv_aload X.1 X.2.1 dX11_shelve_69 (lv_at hl 0 rfl) ?_
        refine lv_iload_n X.1 X.2.1 dX11_shelve_71 rfl (lv_at hl 4 rfl) ?_
        refine k_i (rm := { frames := 1, cells := 0, slots := 0, locals := 48 }) (av := [.ref q_5, .int (a3)]) X hw (va_runV (As := [.int (a3)]) (rest := []) (cfix X) (k_X3_putNumber3 l G cy κ S _ q_5 (a3) (a3_z) hO.1 ha_7 hz_a3) (cwV 1 X.2.2.2.1 gX11_shelve_X3_putNumber rfl rfl rfl (by decide +kernel) ⟨Nat.le_of_ble_eq_true rfl, Nat.le_of_ble_eq_true rfl⟩) (pre_V X hw _ ha_7 rfl (by decide) rfl) rfl rfl hl.1 rfl (lv_room (Nat.le_of_ble_eq_true rfl)) dX11_shelve_72 ⟨Nat.le_of_ble_eq_true rfl, Nat.le_of_ble_eq_true rfl⟩) 0 0 (Nat.le_of_ble_eq_true rfl) (Nat.le_of_ble_eq_true rfl) (fun rr_61 S_62 H locs hp hw hfr hnw => ?_)
        obtain ⟨hk_63, hp⟩ := hp
        have hO_64 : Ok eSH S S_62 := hO.call hk_63 (by decide +kernel)
        rcases hp with ⟨f_65, er_66⟩ | ⟨f_65, er_66⟩ <;> subst er_66
        · have z_b_67 := trivial
          refine lv_istore (lv' := [(6, .int 1), (5, .ref q_5), (0, .ref x), (1, .int (a1)), (2, .int (a2)), (3, .int (a3)), (4, .int (a4))]) X.1 X.2.1 dX11_shelve_75 hl (by decide) rfl (fun ls hl => ?_)
          refine lv_goto (tgt := 96) X.1 X.2.1 dX11_shelve_77 (by decide) ?_
          refine lv_iload X.1 X.2.1 dX11_shelve_96 (lv_at hl 0 rfl) ?_
          refine lv_if_eq (tgt := 111) X.1 X.2.1 dX11_shelve_98 (by decide) (fun c_68 => absurd c_68 (by decide)) (fun c_68 => ?_)
          refine lv_aload_n X.1 X.2.1 dX11_shelve_101 rfl (lv_at hl 2 rfl) ?_
          refine lv_dup X.1 X.2.1 dX11_shelve_102 rfl ?_
          have t_69 : At S_62 x 11 := hk_63.fr.at ha_x
          obtain ⟨v_70, ev_70⟩ : ∃ v, pI S_62 1110 x = v := ⟨_, rfl⟩
          have rg_72 := And.intro (z_lo v_70) (z_hi v_70)
          have pz_73 : (pI S_62 1110 x).toInt = v_70.toInt := by rw [ev_70]
          refine r_getI (g := 1110) (x := v_70) X hw t_69 rfl 10 ev_70 (by decide) rfl inn_X11_shelve_11 (by decide) (X.2.2.2.1 (.fieldLink RX11 321 "SilkMill" "shelved" "I") (by decide +kernel)) rfl (gv_1110 _ _) dX11_shelve_103 ?_
          refine lv_iconst (v := 1) X.1 X.2.1 dX11_shelve_106 (by decide) ?_
          refine lv_iadd X.1 X.2.1 dX11_shelve_107 ?_
          refine lv_topi (fun v_74 ev_74 => ?_)
          have rg_75 := And.intro (z_lo v_74) (z_hi v_74)
          refine r_putI (v := v_74) X hw t_69 rfl 10 1110 tyX11 (by decide) rfl inn_X11_shelve_11 tyX11_ok nmX11 (by decide) (X.2.2.2.1 (.fieldLink RX11 321 "SilkMill" "shelved" "I") (by decide +kernel)) rfl (Or.inl rfl) rfl rfl (Nat.le_of_ble_eq_true rfl) (st_1110 _ _) dX11_shelve_108 (fun H locs hw => ?_)
          obtain ⟨S_76, eS_76⟩ : ∃ T, T = sI S_62 1110 x (v_74) := ⟨_, rfl⟩
          rw [← eS_76] at hw
          have hO_77 : Ok eSH S S_76 := hO_64.sI eS_76 (by decide +kernel) (uI_11_1110 hO_64.1 t_69)
          have h_78 : pI S_76 1110 x = v_74 := tI_sIs eS_76
          refine lv_iload X.1 X.2.1 dX11_shelve_111 (lv_at hl 0 rfl) ?_
          exact ret_z X hw hr hlocks (Nat.le_of_ble_eq_true rfl) (Nat.le_of_ble_eq_true rfl) (by decide) ⟨hO_77, Or.inl ⟨⟨q_5, ⟨by omega, by omega⟩, f_10, by rw [ev_11]; omega, Or.inr (Or.inl ⟨by omega, _, by rw [eS_76, f_65]⟩)⟩, rfl⟩⟩ dX11_shelve_113
        · have z_b_79 := trivial
          exact f_65.elim
      · refine lv_tableIn (tgt := 80) X.1 X.2.1 dX11_shelve_24 (by omega) (by omega) (by rw [w_18c]; rfl) (by decide) ?_
        refine lv_aload X.1 X.2.1 dX11_shelve_80 (lv_at hl 0 rfl) ?_
        refine lv_iload_n X.1 X.2.1 dX11_shelve_82 rfl (lv_at hl 4 rfl) ?_
        refine lv_iload X.1 X.2.1 dX11_shelve_83 (lv_at hl 5 rfl) ?_
        refine k_i (rm := { frames := 2, cells := 0, slots := 0, locals := 96 }) (av := [.ref q_5, .int (a3), .int (a4)]) X hw (va_runV (As := [.int (a3), .int (a4)]) (rest := []) (cfix X) (k_X3_putWord3 l G cy κ S _ q_5 (a3) (a3_z) (a4) (a4_z) hO.1 ha_7 hz_a3 hz_a4) (cwV 2 X.2.2.2.1 gX11_shelve_X3_putWord rfl rfl rfl (by decide +kernel) ⟨Nat.le_of_ble_eq_true rfl, Nat.le_of_ble_eq_true rfl⟩) (pre_V X hw _ ha_7 rfl (by decide) rfl) rfl rfl hl.1 rfl (lv_room (Nat.le_of_ble_eq_true rfl)) dX11_shelve_85 ⟨Nat.le_of_ble_eq_true rfl, Nat.le_of_ble_eq_true rfl⟩) 0 0 (Nat.le_of_ble_eq_true rfl) (Nat.le_of_ble_eq_true rfl) (fun rr_80 S_81 H locs hp hw hfr hnw => ?_)
        obtain ⟨hk_82, hp⟩ := hp
        have hO_83 : Ok eSH S S_81 := hO.call hk_82 (by decide +kernel)
        rcases hp with ⟨f_84, er_85⟩ | ⟨f_84, er_85⟩ <;> subst er_85
        · have z_b_86 := trivial
          refine lv_istore (lv' := [(6, .int 1), (5, .ref q_5), (0, .ref x), (1, .int (a1)), (2, .int (a2)), (3, .int (a3)), (4, .int (a4))]) X.1 X.2.1 dX11_shelve_88 hl (by decide) rfl (fun ls hl => ?_)
          refine lv_goto (tgt := 96) X.1 X.2.1 dX11_shelve_90 (by decide) ?_
          refine lv_iload X.1 X.2.1 dX11_shelve_96 (lv_at hl 0 rfl) ?_
          refine lv_if_eq (tgt := 111) X.1 X.2.1 dX11_shelve_98 (by decide) (fun c_87 => absurd c_87 (by decide)) (fun c_87 => ?_)
          refine lv_aload_n X.1 X.2.1 dX11_shelve_101 rfl (lv_at hl 2 rfl) ?_
          refine lv_dup X.1 X.2.1 dX11_shelve_102 rfl ?_
          have t_88 : At S_81 x 11 := hk_82.fr.at ha_x
          obtain ⟨v_89, ev_89⟩ : ∃ v, pI S_81 1110 x = v := ⟨_, rfl⟩
          have rg_91 := And.intro (z_lo v_89) (z_hi v_89)
          have pz_92 : (pI S_81 1110 x).toInt = v_89.toInt := by rw [ev_89]
          refine r_getI (g := 1110) (x := v_89) X hw t_88 rfl 10 ev_89 (by decide) rfl inn_X11_shelve_11 (by decide) (X.2.2.2.1 (.fieldLink RX11 321 "SilkMill" "shelved" "I") (by decide +kernel)) rfl (gv_1110 _ _) dX11_shelve_103 ?_
          refine lv_iconst (v := 1) X.1 X.2.1 dX11_shelve_106 (by decide) ?_
          refine lv_iadd X.1 X.2.1 dX11_shelve_107 ?_
          refine lv_topi (fun v_93 ev_93 => ?_)
          have rg_94 := And.intro (z_lo v_93) (z_hi v_93)
          refine r_putI (v := v_93) X hw t_88 rfl 10 1110 tyX11 (by decide) rfl inn_X11_shelve_11 tyX11_ok nmX11 (by decide) (X.2.2.2.1 (.fieldLink RX11 321 "SilkMill" "shelved" "I") (by decide +kernel)) rfl (Or.inl rfl) rfl rfl (Nat.le_of_ble_eq_true rfl) (st_1110 _ _) dX11_shelve_108 (fun H locs hw => ?_)
          obtain ⟨S_95, eS_95⟩ : ∃ T, T = sI S_81 1110 x (v_93) := ⟨_, rfl⟩
          rw [← eS_95] at hw
          have hO_96 : Ok eSH S S_95 := hO_83.sI eS_95 (by decide +kernel) (uI_11_1110 hO_83.1 t_88)
          have h_97 : pI S_95 1110 x = v_93 := tI_sIs eS_95
          refine lv_iload X.1 X.2.1 dX11_shelve_111 (lv_at hl 0 rfl) ?_
          obtain ⟨pw1, pw2, pw3, pw4, pw5, pw6, pw7⟩ := f_84
          exact ret_z X hw hr hlocks (Nat.le_of_ble_eq_true rfl) (Nat.le_of_ble_eq_true rfl) (by decide) ⟨hO_96, Or.inl ⟨⟨q_5, ⟨by omega, by omega⟩, f_10, by rw [ev_11]; omega, Or.inr (Or.inr ⟨by omega, pw1, pw2, pw3, pw4, _, pw5, pw6, by rw [eS_95, pw7]⟩)⟩, rfl⟩⟩ dX11_shelve_113
        · have z_b_98 := trivial
          refine lv_istore (lv' := [(6, .int 0), (5, .ref q_5), (0, .ref x), (1, .int (a1)), (2, .int (a2)), (3, .int (a3)), (4, .int (a4))]) X.1 X.2.1 dX11_shelve_88 hl (by decide) rfl (fun ls hl => ?_)
          refine lv_goto (tgt := 96) X.1 X.2.1 dX11_shelve_90 (by decide) ?_
          refine lv_iload X.1 X.2.1 dX11_shelve_96 (lv_at hl 0 rfl) ?_
          refine lv_if_eq (tgt := 111) X.1 X.2.1 dX11_shelve_98 (by decide) (fun c_99 => ?_) (fun c_99 => absurd c_99 (by decide))
          refine lv_iload X.1 X.2.1 dX11_shelve_111 (lv_at hl 0 rfl) ?_
          exact ret_z X hw hr hlocks (Nat.le_of_ble_eq_true rfl) (Nat.le_of_ble_eq_true rfl) (by decide) ⟨hO_83, Or.inr ⟨⟨f_84.1, fun P h1 h2 h3 h4 => by rw [f_10] at h3; cases h3; rcases h4.2 with ⟨h5, -⟩ | h5 | ⟨-, h5, h6⟩; omega; omega; exact f_84.2 ⟨h5, h6⟩⟩, rfl⟩⟩ dX11_shelve_113
    · have z_b_100 := trivial
      have k_101 : v_11.toInt ≠ (-1) := z_ne rfl ti_m1 c_15
      refine lv_iconst (v := 0) X.1 X.2.1 dX11_shelve_21 (by decide) ?_
      exact ret_z X hw hr hlocks (Nat.le_of_ble_eq_true rfl) (Nat.le_of_ble_eq_true rfl) (by decide) ⟨hO, Or.inr ⟨⟨rfl, fun P h1 h2 h3 h4 => by rw [f_10] at h3; cases h3; have h5 := h4.1; rw [ev_11] at h5; omega⟩, rfl⟩⟩ dX11_shelve_22
set_option maxHeartbeats 4000000 in
set_option maxRecDepth 100000 in
theorem k_X0_code3 (l : Launch) (G : va_G) (cy : Nat → ClassId) (κ : Nat → Nat) (S : PS) (sz : Nat) (x : Nat) (hG : GX S) (ha_x : At S x 0) : Ci l yX0_code wsX0_code ({ frames := 1, cells := 0, slots := 0, locals := 48 }) G cy κ S sz [.ref x] (fun (r : Int32) (S9 : PS) => S = S9 ∧ (-2147483648 ≤ r.toInt ∧ r.toInt ≤ 2147483647 ∧ r = pI S 0 x * 100 + pI S 1 x)) := by
  refine ent_m (cc := cX0_code) (maxL := 1) (ret := (some .int)) (by decide) rfl (Nat.le_of_ble_eq_true rfl) ?_
  intro p e s m below meth c ls X hr hlocks hin hw hl hsz
  subst hsz
  have X : Cx p c cX0_code 1 s [.ref x].toArray wsX0_code RX0 m G cy κ (AS S s.heap.size) := X
  have hl : lv_has ls 1 [(0, .ref x)] := hl
  refine lv_aload_n X.1 X.2.1 dX0_code_0 rfl (lv_at hl 0 rfl) ?_
  obtain ⟨v_1, ev_1⟩ : ∃ v, pI S 0 x = v := ⟨_, rfl⟩
  have rg_3 := And.intro (z_lo v_1) (z_hi v_1)
  refine r_getI (g := 0) (x := v_1) X hw ha_x rfl 0 ev_1 (by decide) rfl inn_X0_code_0 (by decide) (X.2.2.2.1 (.fieldLink RX0 18 "SilkMill$Cocoon" "lotNumber" "I") (by decide +kernel)) rfl (gv_0 _ _) dX0_code_1 ?_
  refine lv_bipush (v := 100) X.1 X.2.1 dX0_code_4 (by decide) ?_
  refine lv_imul X.1 X.2.1 dX0_code_6 ?_
  refine lv_topi (fun v_4 ev_4 => ?_)
  have rg_5 := And.intro (z_lo v_4) (z_hi v_4)
  refine lv_aload_n X.1 X.2.1 dX0_code_7 rfl (lv_at hl 0 rfl) ?_
  obtain ⟨v_6, ev_6⟩ : ∃ v, pI S 1 x = v := ⟨_, rfl⟩
  have rg_8 := And.intro (z_lo v_6) (z_hi v_6)
  refine r_getI (g := 1) (x := v_6) X hw ha_x rfl 1 ev_6 (by decide) rfl inn_X0_code_0 (by decide) (X.2.2.2.1 (.fieldLink RX0 21 "SilkMill$Cocoon" "index" "I") (by decide +kernel)) rfl (gv_1 _ _) dX0_code_8 ?_
  refine lv_iadd X.1 X.2.1 dX0_code_11 ?_
  refine lv_topi (fun v_9 ev_9 => ?_)
  have rg_10 := And.intro (z_lo v_9) (z_hi v_9)
  exact ret_i X hw hr hlocks (Nat.le_of_ble_eq_true rfl) (Nat.le_of_ble_eq_true rfl) ⟨rfl, ⟨z_lo _, z_hi _, by rw [ev_1, ev_6]; subst_vars; rfl⟩⟩ dX0_code_12
set_option maxHeartbeats 4000000 in
set_option maxRecDepth 100000 in
theorem k_X3_returnCocoon3 (l : Launch) (G : va_G) (cy : Nat → ClassId) (κ : Nat → Nat) (S : PS) (sz : Nat) (x : Nat) (hG : GX S) (ha_x : At S x 3) : Ci l yX3_returnCocoon wsX3_returnCocoon ({ frames := 2, cells := 0, slots := 0, locals := 96 }) G cy κ S sz [.ref x] (fun (r : Int32) (S9 : PS) => Ok eRT S S9 ∧ (-2147483648 ≤ r.toInt ∧ r.toInt ≤ 2147483647 ∧ ((pR S 303 x = none ∧ S9 = S) ∨ ∃ q, pR S 303 x = some q ∧ r = pI S 0 q * 100 + pI S 1 q ∧ S9 = sI S 3 q 0))) := by
  refine ent_m (cc := cX3_returnCocoon) (maxL := 1) (ret := (some .int)) (by decide) rfl (Nat.le_of_ble_eq_true rfl) ?_
  intro p e s m below meth c ls X hr hlocks hin hw hl hsz
  subst hsz
  have X : Cx p c cX3_returnCocoon 1 s [.ref x].toArray wsX3_returnCocoon RX3 m G cy κ (AS S s.heap.size) := X
  have hl : lv_has ls 1 [(0, .ref x)] := hl
  have hO : Ok eRT S S := Ok.rf hG
  refine lv_aload_n X.1 X.2.1 dX3_returnCocoon_0 rfl (lv_at hl 0 rfl) ?_
  refine r_getQ (g := 303) X hw ha_x rfl 3 rfl (by decide) rfl inn_X3_returnCocoon_3 (by decide) (X.2.2.2.1 (.fieldLink RX3 27 "SilkMill$Place" "cocoon" "LSilkMill$Cocoon;") (by decide +kernel)) rfl (gv_303 _ _) dX3_returnCocoon_1 ?_
  rcases ho_1 : pR S 303 x with _ | q_2
  · refine W.eq (g2 := F0 m 4 ls (.null :: [])) rfl ?_
    refine lv_ifnonnullN X.1 X.2.1 dX3_returnCocoon_4 ?_
    refine lv_iconst (v := (-1)) X.1 X.2.1 dX3_returnCocoon_7 (by decide) ?_
    exact ret_i X hw hr hlocks (Nat.le_of_ble_eq_true rfl) (Nat.le_of_ble_eq_true rfl) ⟨hO, ⟨z_lo _, z_hi _, Or.inl ⟨(by first | exact ho_1 | rfl), rfl⟩⟩⟩ dX3_returnCocoon_8
  · refine W.eq (g2 := F0 m 4 ls (.ref q_2 :: [])) rfl ?_
    have ha_3 : At S q_2 0 := gO_3_303 hO.1 ha_x _ ho_1
    refine lv_ifnonnull (tgt := 9) X.1 X.2.1 dX3_returnCocoon_4 (by decide) ?_
    refine lv_aload_n X.1 X.2.1 dX3_returnCocoon_9 rfl (lv_at hl 0 rfl) ?_
    refine r_getR (g := 303) X hw ha_x rfl 3 ho_1 (by decide) rfl inn_X3_returnCocoon_3 (by decide) (X.2.2.2.1 (.fieldLink RX3 27 "SilkMill$Place" "cocoon" "LSilkMill$Cocoon;") (by decide +kernel)) rfl (gv_303 _ _) dX3_returnCocoon_10 ?_
    refine lv_iconst (v := 0) X.1 X.2.1 dX3_returnCocoon_13 (by decide) ?_
    refine r_putI (v := 0) X hw ha_3 rfl 3 3 tyX0 (by decide) rfl inn_X3_returnCocoon_0 tyX0_ok nmX0 (by decide) (X.2.2.2.1 (.fieldLink RX3 22 "SilkMill$Cocoon" "stand" "I") (by decide +kernel)) rfl (Or.inl rfl) rfl rfl (Nat.le_of_ble_eq_true rfl) (st_3 _ _) dX3_returnCocoon_14 (fun H locs hw => ?_)
    obtain ⟨S_4, eS_4⟩ : ∃ T, T = sI S 3 q_2 (0) := ⟨_, rfl⟩
    rw [← eS_4] at hw
    have hO_5 : Ok eRT S S_4 := hO.sI eS_4 (by decide +kernel) (uI_0_3 hO.1 ha_3)
    have h_6 : pI S_4 3 q_2 = 0 := tI_sIs eS_4
    refine lv_aload_n X.1 X.2.1 dX3_returnCocoon_17 rfl (lv_at hl 0 rfl) ?_
    have t_7 : At S_4 x 3 := tAt_sI eS_4 ha_x
    have t_8 : pR S_4 303 x = some q_2 := tR_sI eS_4 ho_1
    refine r_getR (g := 303) X hw t_7 rfl 3 t_8 (by decide) rfl inn_X3_returnCocoon_3 (by decide) (X.2.2.2.1 (.fieldLink RX3 27 "SilkMill$Place" "cocoon" "LSilkMill$Cocoon;") (by decide +kernel)) rfl (gv_303 _ _) dX3_returnCocoon_18 ?_
    have t_9 : At S_4 q_2 0 := tAt_sI eS_4 ha_3
    refine k_i (rm := { frames := 1, cells := 0, slots := 0, locals := 48 }) (av := [.ref q_2]) X hw (va_runV (As := []) (rest := []) (cfix X) (k_X0_code3 l G cy κ S_4 _ q_2 hO_5.1 t_9) (cwV 0 X.2.2.2.1 gX3_returnCocoon_X0_code rfl rfl rfl (by decide +kernel) ⟨Nat.le_of_ble_eq_true rfl, Nat.le_of_ble_eq_true rfl⟩) (pre_V X hw _ t_9 rfl (by decide) rfl) rfl rfl hl.1 rfl (lv_room (Nat.le_of_ble_eq_true rfl)) dX3_returnCocoon_21 ⟨Nat.le_of_ble_eq_true rfl, Nat.le_of_ble_eq_true rfl⟩) 0 0 (Nat.le_of_ble_eq_true rfl) (Nat.le_of_ble_eq_true rfl) (fun rr_10 S_11 H locs hp hw hfr hnw => ?_)
    obtain ⟨e2, hp⟩ := hp
    subst e2
    obtain ⟨cd_12, cd_13, cd_14⟩ := hp
    exact ret_i X hw hr hlocks (Nat.le_of_ble_eq_true rfl) (Nat.le_of_ble_eq_true rfl) ⟨hO_5, ⟨z_lo _, z_hi _, Or.inr ⟨q_2, (by first | exact ho_1 | rfl), by rw [cd_14, eS_4, pI_sI_nf (by decide), pI_sI_nf (by decide)], eS_4⟩⟩⟩ dX3_returnCocoon_24
set_option maxHeartbeats 4000000 in
set_option maxRecDepth 100000 in
theorem k_X3_giveUp3 (l : Launch) (G : va_G) (cy : Nat → ClassId) (κ : Nat → Nat) (S : PS) (sz : Nat) (x : Nat) (hG : GX S) (ha_x : At S x 3) : Ci l yX3_giveUp wsX3_giveUp ({ frames := 3, cells := 0, slots := 0, locals := 144 }) G cy κ S sz [.ref x] (fun (r : Int32) (S9 : PS) => Ok eT0 S S9 ∧ (-2147483648 ≤ r.toInt ∧ r.toInt ≤ 2147483647 ∧ (((pI S 300 x).toInt = 1 ∧ r = pI S 304 x ∧ S9 = sI S 300 x (-1)) ∨ ((pI S 300 x).toInt = 2 ∧ S9 = sI S 300 x (-1)) ∨ ((pI S 300 x).toInt ≠ 1 ∧ (pI S 300 x).toInt ≠ 2 ∧ ((pR S 303 x = none ∧ S9 = sI S 300 x (-1)) ∨ ∃ q, pR S 303 x = some q ∧ r = pI S 0 q * 100 + pI S 1 q ∧ S9 = sI (sI S 300 x (-1)) 3 q 0))))) := by
  refine ent_m (cc := cX3_giveUp) (maxL := 2) (ret := (some .int)) (by decide) rfl (Nat.le_of_ble_eq_true rfl) ?_
  intro p e s m below meth c ls X hr hlocks hin hw hl hsz
  subst hsz
  have X : Cx p c cX3_giveUp 2 s [.ref x].toArray wsX3_giveUp RX3 m G cy κ (AS S s.heap.size) := X
  have hl : lv_has ls 2 [(0, .ref x)] := hl
  have hO : Ok eT0 S S := Ok.rf hG
  obtain ⟨v_1, ev_1⟩ : ∃ v, pI S 300 x = v := ⟨_, rfl⟩
  have rg_3 := And.intro (z_lo v_1) (z_hi v_1)
  have pz_4 : (pI S 300 x).toInt = v_1.toInt := by rw [ev_1]
  have pz_5 : (pI S 300 x).toInt = v_1.toInt := (congrArg Int32.toInt ev_1).trans rfl
  refine lv_aload_n X.1 X.2.1 dX3_giveUp_0 rfl (lv_at hl 0 rfl) ?_
  refine r_getI (g := 300) (x := v_1) X hw ha_x rfl 0 ev_1 (by decide) rfl inn_X3_giveUp_3 (by decide) (X.2.2.2.1 (.fieldLink RX3 9 "SilkMill$Place" "kind" "I") (by decide +kernel)) rfl (gv_300 _ _) dX3_giveUp_1 ?_
  refine lv_istore_n (lv' := [(1, .int (v_1)), (0, .ref x)]) X.1 X.2.1 dX3_giveUp_4 rfl hl (by decide) rfl (fun ls hl => ?_)
  refine lv_aload_n X.1 X.2.1 dX3_giveUp_5 rfl (lv_at hl 1 rfl) ?_
  refine lv_iconst (v := (-1)) X.1 X.2.1 dX3_giveUp_6 (by decide) ?_
  refine r_putI (v := (-1)) X hw ha_x rfl 0 300 tyX3 (by decide) rfl inn_X3_giveUp_3 tyX3_ok nmX3 (by decide) (X.2.2.2.1 (.fieldLink RX3 9 "SilkMill$Place" "kind" "I") (by decide +kernel)) rfl (Or.inl rfl) rfl rfl (Nat.le_of_ble_eq_true rfl) (st_300 _ _) dX3_giveUp_7 (fun H locs hw => ?_)
  obtain ⟨S_6, eS_6⟩ : ∃ T, T = sI S 300 x ((-1)) := ⟨_, rfl⟩
  rw [← eS_6] at hw
  have hO_7 : Ok eT0 S S_6 := hO.sI eS_6 (by decide +kernel) (uI_3_300 hO.1 ha_x)
  have h_8 : pI S_6 300 x = (-1) := tI_sIs eS_6
  refine lv_iload_n X.1 X.2.1 dX3_giveUp_10 rfl (lv_at hl 0 rfl) ?_
  refine lv_iconst (v := 1) X.1 X.2.1 dX3_giveUp_11 (by decide) ?_
  refine lv_icmp_ne (tgt := 20) X.1 X.2.1 dX3_giveUp_12 (by decide) (fun c_9 => ?_) (fun c_9 => ?_)
  · have z_b_10 := trivial
    have k_11 : v_1.toInt ≠ 1 := z_ne rfl ti_1 c_9
    refine lv_iload_n X.1 X.2.1 dX3_giveUp_20 rfl (lv_at hl 0 rfl) ?_
    refine lv_iconst (v := 2) X.1 X.2.1 dX3_giveUp_21 (by decide) ?_
    refine lv_icmp_ne (tgt := 32) X.1 X.2.1 dX3_giveUp_22 (by decide) (fun c_12 => ?_) (fun c_12 => ?_)
    · have z_b_13 := trivial
      have k_14 : v_1.toInt ≠ 2 := z_ne rfl ti_2 c_12
      refine lv_aload_n X.1 X.2.1 dX3_giveUp_32 rfl (lv_at hl 1 rfl) ?_
      have t_15 : At S_6 x 3 := tAt_sI eS_6 ha_x
      refine k_i (rm := { frames := 2, cells := 0, slots := 0, locals := 96 }) (av := [.ref x]) X hw (va_runV (As := []) (rest := []) (cfix X) (k_X3_returnCocoon3 l G cy κ S_6 _ x hO_7.1 t_15) (cwV 0 X.2.2.2.1 gX3_giveUp_X3_returnCocoon rfl rfl rfl (by decide +kernel) ⟨Nat.le_of_ble_eq_true rfl, Nat.le_of_ble_eq_true rfl⟩) (pre_V X hw _ t_15 rfl (by decide) rfl) rfl rfl hl.1 rfl (lv_room (Nat.le_of_ble_eq_true rfl)) dX3_giveUp_33 ⟨Nat.le_of_ble_eq_true rfl, Nat.le_of_ble_eq_true rfl⟩) 0 0 (Nat.le_of_ble_eq_true rfl) (Nat.le_of_ble_eq_true rfl) (fun rr_16 S_17 H locs hp hw hfr hnw => ?_)
      obtain ⟨hk_18, hp⟩ := hp
      have hO_19 : Ok eT0 S S_17 := hO_7.call hk_18 (by decide +kernel)
      obtain ⟨rc_20, rc_21, rc_22⟩ := hp
      exact ret_i X hw hr hlocks (Nat.le_of_ble_eq_true rfl) (Nat.le_of_ble_eq_true rfl) ⟨hO_19, ⟨z_lo _, z_hi _, Or.inr (Or.inr ⟨by omega, by omega, by rcases rc_22 with ⟨h1, h2⟩ | ⟨q, h1, h2, h3⟩; exact Or.inl ⟨by rw [eS_6, pR_sI] at h1; exact h1, by rw [h2, eS_6]⟩; exact Or.inr ⟨q, by rw [eS_6, pR_sI] at h1; exact h1, by rw [h2, eS_6, pI_sI_nf (by decide), pI_sI_nf (by decide)], by rw [h3, eS_6]⟩⟩)⟩⟩ dX3_giveUp_36
    · have z_b_23 := trivial
      have k_24 : v_1.toInt = 2 := z_eq rfl ti_2 c_12
      refine lv_aload_n X.1 X.2.1 dX3_giveUp_25 rfl (lv_at hl 1 rfl) ?_
      have t_25 : At S_6 x 3 := tAt_sI eS_6 ha_x
      refine k_i (rm := { frames := 1, cells := 0, slots := 0, locals := 48 }) (av := [.ref x]) X hw (va_runV (As := []) (rest := []) (cfix X) (k_X3_sumOfWord l G cy κ S_6 _ x hO_7.1 t_25) (cwV 0 X.2.2.2.1 gX3_giveUp_X3_sumOfWord rfl rfl rfl (by decide +kernel) ⟨Nat.le_of_ble_eq_true rfl, Nat.le_of_ble_eq_true rfl⟩) (pre_V X hw _ t_25 rfl (by decide) rfl) rfl rfl hl.1 rfl (lv_room (Nat.le_of_ble_eq_true rfl)) dX3_giveUp_26 ⟨Nat.le_of_ble_eq_true rfl, Nat.le_of_ble_eq_true rfl⟩) 0 0 (Nat.le_of_ble_eq_true rfl) (Nat.le_of_ble_eq_true rfl) (fun rr_26 S_27 H locs hp hw hfr hnw => ?_)
      obtain ⟨e2, hp⟩ := hp
      subst e2
      have rg_28 := And.intro (z_lo rr_26) (z_hi rr_26)
      refine lv_goto (tgt := 36) X.1 X.2.1 dX3_giveUp_29 (by decide) ?_
      exact ret_i X hw hr hlocks (Nat.le_of_ble_eq_true rfl) (Nat.le_of_ble_eq_true rfl) ⟨hO_7, ⟨z_lo _, z_hi _, Or.inr (Or.inl ⟨by omega, eS_6⟩)⟩⟩ dX3_giveUp_36
  · have z_b_29 := trivial
    have k_30 : v_1.toInt = 1 := z_eq rfl ti_1 c_9
    refine lv_aload_n X.1 X.2.1 dX3_giveUp_15 rfl (lv_at hl 1 rfl) ?_
    have t_31 : At S_6 x 3 := tAt_sI eS_6 ha_x
    obtain ⟨v_32, ev_32⟩ : ∃ v, pI S_6 304 x = v := ⟨_, rfl⟩
    have rg_34 := And.intro (z_lo v_32) (z_hi v_32)
    have pz_35 : (pI S_6 304 x).toInt = v_32.toInt := by rw [ev_32]
    refine r_getI (g := 304) (x := v_32) X hw t_31 rfl 4 ev_32 (by decide) rfl inn_X3_giveUp_3 (by decide) (X.2.2.2.1 (.fieldLink RX3 31 "SilkMill$Place" "number" "I") (by decide +kernel)) rfl (gv_304 _ _) dX3_giveUp_16 ?_
    exact ret_i X hw hr hlocks (Nat.le_of_ble_eq_true rfl) (Nat.le_of_ble_eq_true rfl) ⟨hO_7, ⟨z_lo _, z_hi _, Or.inl ⟨by omega, by have h := ev_32; rw [eS_6, pI_sI_nf (by decide)] at h; exact h.symm, eS_6⟩⟩⟩ dX3_giveUp_19
set_option maxHeartbeats 4000000 in
set_option maxRecDepth 100000 in
theorem k_X11_take3 (l : Launch) (G : va_G) (cy : Nat → ClassId) (κ : Nat → Nat) (S : PS) (sz : Nat) (x : Nat) (a1 : Int32) (a1_z : Int) (a2 : Int32) (a2_z : Int) (hG : GX S) (ha_x : At S x 11) (hz_a1 : a1.toInt = a1_z) (hz_a2 : a2.toInt = a2_z) : Ci l yX11_take wsX11_take ({ frames := 4, cells := 0, slots := 0, locals := 192 }) G cy κ S sz [.ref x, .int (a1), .int (a2)] (fun (r : Int32) (S9 : PS) => Ok eTA S S9 ∧ (-2147483648 ≤ r.toInt ∧ r.toInt ≤ 2147483647 ∧ (¬ (0 ≤ a1_z ∧ a1_z ≤ 15 ∧ 0 ≤ a2_z ∧ a2_z ≤ 2) → r.toInt = -1 ∧ S9 = S) ∧ (0 ≤ a1_z ∧ a1_z ≤ 15 ∧ 0 ≤ a2_z ∧ a2_z ≤ 2 → ∀ P, mB S x 1109 a1_z.toNat = some P → TkO S S9 x P a2_z r.toInt))) := by
  refine ent_m (cc := cX11_take) (maxL := 4) (ret := (some .int)) (by decide) rfl (Nat.le_of_ble_eq_true rfl) ?_
  intro p e s m below meth c ls X hr hlocks hin hw hl hsz
  subst hsz
  have X : Cx p c cX11_take 4 s [.ref x, .int (a1), .int (a2)].toArray wsX11_take RX11 m G cy κ (AS S s.heap.size) := X
  have hl : lv_has ls 4 [(0, .ref x), (1, .int (a1)), (2, .int (a2))] := hl
  have rg_a1 : (-2147483648) ≤ a1_z ∧ a1_z ≤ 2147483647 := by rw [← hz_a1]; exact ⟨z_lo _, z_hi _⟩
  have rg_a2 : (-2147483648) ≤ a2_z ∧ a2_z ≤ 2147483647 := by rw [← hz_a2]; exact ⟨z_lo _, z_hi _⟩
  have hO : Ok eTA S S := Ok.rf hG
  refine lv_aload_n X.1 X.2.1 dX11_take_0 rfl (lv_at hl 0 rfl) ?_
  refine lv_iload_n X.1 X.2.1 dX11_take_1 rfl (lv_at hl 1 rfl) ?_
  refine k_q (rm := { frames := 1, cells := 0, slots := 0, locals := 48 }) (av := [.ref x, .int (a1)]) X hw (va_runV (As := [.int (a1)]) (rest := []) (cfix X) (k_X11_shelfAt3 l G cy κ S _ x (a1) (a1_z) hO.1 ha_x hz_a1) (cwV 1 X.2.2.2.1 gX11_take_X11_shelfAt rfl rfl rfl (by decide +kernel) ⟨Nat.le_of_ble_eq_true rfl, Nat.le_of_ble_eq_true rfl⟩) (pre_V X hw _ ha_x rfl (by decide) rfl) rfl rfl hl.1 rfl (lv_room (Nat.le_of_ble_eq_true rfl)) dX11_take_2 ⟨Nat.le_of_ble_eq_true rfl, Nat.le_of_ble_eq_true rfl⟩) 0 0 (Nat.le_of_ble_eq_true rfl) (Nat.le_of_ble_eq_true rfl) (fun rr_1 S_2 H locs hp hw hfr hnw => ?_)
  obtain ⟨e2, hp⟩ := hp
  subst e2
  obtain ⟨hq_3, hnf_4⟩ := hp
  rcases rr_1 with _ | q_5
  · refine W.eq (g2 := F0 m 5 ls (.null :: [])) rfl ?_
    have nf_6 := hnf_4 rfl
    refine lv_astore_nN (lv' := [(3, .null), (0, .ref x), (1, .int (a1)), (2, .int (a2))]) X.1 X.2.1 dX11_take_5 rfl hl (by decide) rfl (fun ls hl => ?_)
    refine lv_aload_nN X.1 X.2.1 dX11_take_6 rfl (lv_at hl 0 rfl) ?_
    refine lv_ifnullN (tgt := 19) X.1 X.2.1 dX11_take_7 (by decide) ?_
    refine lv_iconst (v := (-1)) X.1 X.2.1 dX11_take_19 (by decide) ?_
    exact ret_i X hw hr hlocks (Nat.le_of_ble_eq_true rfl) (Nat.le_of_ble_eq_true rfl) ⟨hO, ⟨z_lo _, z_hi _, fun _ => ⟨by decide, rfl⟩, fun h P hP => (by rw [nf_6 ⟨h.1, h.2.1⟩] at hP; cases hP)⟩⟩ dX11_take_20
  · refine W.eq (g2 := F0 m 5 ls (.ref q_5 :: [])) rfl ?_
    obtain ⟨ha_7, f_8, f_9, f_10⟩ := hq_3 _ rfl
    refine lv_astore_n (lv' := [(3, .ref q_5), (0, .ref x), (1, .int (a1)), (2, .int (a2))]) X.1 X.2.1 dX11_take_5 rfl hl (by decide) rfl (fun ls hl => ?_)
    refine lv_aload_n X.1 X.2.1 dX11_take_6 rfl (lv_at hl 0 rfl) ?_
    refine lv_ifnull X.1 X.2.1 dX11_take_7 ?_
    refine lv_iload_n X.1 X.2.1 dX11_take_10 rfl (lv_at hl 3 rfl) ?_
    refine lv_iconst (v := 0) X.1 X.2.1 dX11_take_11 (by decide) ?_
    refine lv_iconst (v := 2) X.1 X.2.1 dX11_take_12 (by decide) ?_
    refine k_i (rm := { frames := 1, cells := 0, slots := 0, locals := 48 }) (av := [.int (a2), .int 0, .int 2]) X hw (va_runS (As := [.int (a2), .int 0, .int 2]) (rest := []) (cfix X) (k_X11_isWithin l G cy κ S _ (a2) (a2_z) (0) (0) (2) (2) hO.1 hz_a2 ti_0 ti_2) (cwS 3 X.2.2.2.1 gX11_take_X11_isWithin rfl rfl rfl (by decide +kernel) ⟨Nat.le_of_ble_eq_true rfl, Nat.le_of_ble_eq_true rfl⟩) (pre_S X hw _) rfl rfl hl.1 rfl (lv_room (Nat.le_of_ble_eq_true rfl)) dX11_take_13 ⟨Nat.le_of_ble_eq_true rfl, Nat.le_of_ble_eq_true rfl⟩) 0 0 (Nat.le_of_ble_eq_true rfl) (Nat.le_of_ble_eq_true rfl) (fun rr_11 S_12 H locs hp hw hfr hnw => ?_)
    obtain ⟨e2, hp⟩ := hp
    subst e2
    rcases hp with ⟨f_13, er_14⟩ | ⟨f_13, er_14⟩ <;> subst er_14
    · have z_b_15 := trivial
      refine lv_if_ne (tgt := 21) X.1 X.2.1 dX11_take_16 (by decide) (fun c_16 => ?_) (fun c_16 => absurd c_16 (by decide))
      refine lv_aload_n X.1 X.2.1 dX11_take_21 rfl (lv_at hl 0 rfl) ?_
      obtain ⟨v_17, ev_17⟩ : ∃ v, pI S 300 q_5 = v := ⟨_, rfl⟩
      have rg_19 := And.intro (z_lo v_17) (z_hi v_17)
      have pz_20 : (pI S 300 q_5).toInt = v_17.toInt := by rw [ev_17]
      obtain ⟨v_21, ev_21⟩ : ∃ v, pI S 301 q_5 = v := ⟨_, rfl⟩
      have rg_22 := gI_3_301 hO.1 ha_7; rw [ev_21] at rg_22
      have pz_23 : (pI S 301 q_5).toInt = v_21.toInt := by rw [ev_21]
      refine r_getI (g := 300) (x := v_17) X hw ha_7 rfl 0 ev_17 (by decide) rfl inn_X11_take_3 (by decide) (X.2.2.2.1 (.fieldLink RX11 307 "SilkMill$Place" "kind" "I") (by decide +kernel)) rfl (gv_300 _ _) dX11_take_22 ?_
      refine lv_iconst (v := (-1)) X.1 X.2.1 dX11_take_25 (by decide) ?_
      refine lv_icmp_ne (tgt := 32) X.1 X.2.1 dX11_take_26 (by decide) (fun c_24 => ?_) (fun c_24 => ?_)
      · have z_b_25 := trivial
        have k_26 : v_17.toInt ≠ (-1) := z_ne rfl ti_m1 c_24
        refine lv_aload_n X.1 X.2.1 dX11_take_32 rfl (lv_at hl 0 rfl) ?_
        refine r_getI (g := 300) (x := v_17) X hw ha_7 rfl 0 ev_17 (by decide) rfl inn_X11_take_3 (by decide) (X.2.2.2.1 (.fieldLink RX11 307 "SilkMill$Place" "kind" "I") (by decide +kernel)) rfl (gv_300 _ _) dX11_take_33 ?_
        refine lv_iload_n X.1 X.2.1 dX11_take_36 rfl (lv_at hl 3 rfl) ?_
        refine lv_icmp_eq (tgt := 43) X.1 X.2.1 dX11_take_37 (by decide) (fun c_27 => ?_) (fun c_27 => ?_)
        · have z_b_28 := trivial
          have k_29 : v_17.toInt = a2_z := z_eq rfl hz_a2 c_27
          refine lv_iload_n X.1 X.2.1 dX11_take_43 rfl (lv_at hl 3 rfl) ?_
          refine lv_iconst (v := 2) X.1 X.2.1 dX11_take_44 (by decide) ?_
          refine lv_icmp_ne (tgt := 58) X.1 X.2.1 dX11_take_45 (by decide) (fun c_30 => ?_) (fun c_30 => ?_)
          · have z_b_31 := trivial
            have k_32 : a2_z ≠ 2 := z_ne hz_a2 ti_2 c_30
            refine lv_aload_n X.1 X.2.1 dX11_take_58 rfl (lv_at hl 1 rfl) ?_
            refine lv_dup X.1 X.2.1 dX11_take_59 rfl ?_
            obtain ⟨v_33, ev_33⟩ : ∃ v, pI S 1110 x = v := ⟨_, rfl⟩
            have rg_35 := And.intro (z_lo v_33) (z_hi v_33)
            have pz_36 : (pI S 1110 x).toInt = v_33.toInt := by rw [ev_33]
            refine r_getI (g := 1110) (x := v_33) X hw ha_x rfl 10 ev_33 (by decide) rfl inn_X11_take_11 (by decide) (X.2.2.2.1 (.fieldLink RX11 321 "SilkMill" "shelved" "I") (by decide +kernel)) rfl (gv_1110 _ _) dX11_take_60 ?_
            refine lv_iconst (v := 1) X.1 X.2.1 dX11_take_63 (by decide) ?_
            refine lv_isub X.1 X.2.1 dX11_take_64 ?_
            refine lv_topi (fun v_37 ev_37 => ?_)
            have rg_38 := And.intro (z_lo v_37) (z_hi v_37)
            refine r_putI (v := v_37) X hw ha_x rfl 10 1110 tyX11 (by decide) rfl inn_X11_take_11 tyX11_ok nmX11 (by decide) (X.2.2.2.1 (.fieldLink RX11 321 "SilkMill" "shelved" "I") (by decide +kernel)) rfl (Or.inl rfl) rfl rfl (Nat.le_of_ble_eq_true rfl) (st_1110 _ _) dX11_take_65 (fun H locs hw => ?_)
            obtain ⟨S_39, eS_39⟩ : ∃ T, T = sI S 1110 x (v_37) := ⟨_, rfl⟩
            rw [← eS_39] at hw
            have hO_40 : Ok eTA S S_39 := hO.sI eS_39 (by decide +kernel) (uI_11_1110 hO.1 ha_x)
            have h_41 : pI S_39 1110 x = v_37 := tI_sIs eS_39
            refine lv_aload_n X.1 X.2.1 dX11_take_68 rfl (lv_at hl 0 rfl) ?_
            have t_42 : At S_39 q_5 3 := tAt_sI eS_39 ha_7
            refine k_i (rm := { frames := 3, cells := 0, slots := 0, locals := 144 }) (av := [.ref q_5]) X hw (va_runV (As := []) (rest := []) (cfix X) (k_X3_giveUp3 l G cy κ S_39 _ q_5 hO_40.1 t_42) (cwV 0 X.2.2.2.1 gX11_take_X3_giveUp rfl rfl rfl (by decide +kernel) ⟨Nat.le_of_ble_eq_true rfl, Nat.le_of_ble_eq_true rfl⟩) (pre_V X hw _ t_42 rfl (by decide) rfl) rfl rfl hl.1 rfl (lv_room (Nat.le_of_ble_eq_true rfl)) dX11_take_69 ⟨Nat.le_of_ble_eq_true rfl, Nat.le_of_ble_eq_true rfl⟩) 0 0 (Nat.le_of_ble_eq_true rfl) (Nat.le_of_ble_eq_true rfl) (fun rr_43 S_44 H locs hp hw hfr hnw => ?_)
            obtain ⟨hk_45, hp⟩ := hp
            have hO_46 : Ok eTA S S_44 := hO_40.call hk_45 (by decide +kernel)
            obtain ⟨gu_47, gu_48, gu_49⟩ := hp
            exact ret_i X hw hr hlocks (Nat.le_of_ble_eq_true rfl) (Nat.le_of_ble_eq_true rfl) ⟨hO_46, ⟨z_lo _, z_hi _, fun h => by exfalso; omega, fun _ P hP => by rw [f_10] at hP; cases hP; rw [eS_39, pI_sI_nf (by decide), pR_sI, pI_sI_nf (by decide)] at gu_49; rw [ev_17] at gu_49; rcases gu_49 with ⟨h0, h1, h2⟩ | ⟨h0, h1⟩ | ⟨h0, h1, h2⟩; exact Or.inr (Or.inr (Or.inr (Or.inr (Or.inl ⟨by rw [ev_17]; omega, by omega, by rw [h1], _, h2⟩)))); exact Or.inr (Or.inr (Or.inr (Or.inl ⟨by rw [ev_17]; omega, by omega, by rw [ev_21]; omega, _, h1⟩))); refine Or.inr (Or.inr (Or.inr (Or.inr (Or.inr ⟨by rw [ev_17]; omega, by omega, ?_⟩)))); rcases h2 with ⟨h3, h4⟩ | ⟨q, h3, h4, h5⟩; exact Or.inl ⟨h3, _, h4⟩; exact Or.inr ⟨q, _, h3, by rw [h4, pI_sI_nf (by decide), pI_sI_nf (by decide)], h5⟩⟩⟩ dX11_take_72
          · have z_b_50 := trivial
            have k_51 : a2_z = 2 := z_eq hz_a2 ti_2 c_30
            refine lv_aload_n X.1 X.2.1 dX11_take_48 rfl (lv_at hl 0 rfl) ?_
            refine r_getI (g := 301) (x := v_21) X hw ha_7 rfl 1 ev_21 (by decide) rfl inn_X11_take_3 (by decide) (X.2.2.2.1 (.fieldLink RX11 324 "SilkMill$Place" "wordSize" "I") (by decide +kernel)) rfl (gv_301 _ _) dX11_take_49 ?_
            refine lv_if_ne (tgt := 58) X.1 X.2.1 dX11_take_52 (by decide) (fun c_52 => ?_) (fun c_52 => ?_)
            · have z_b_53 := trivial
              have k_54 : v_21.toInt ≠ 0 := z_ne rfl ti_0 c_52
              refine lv_aload_n X.1 X.2.1 dX11_take_58 rfl (lv_at hl 1 rfl) ?_
              refine lv_dup X.1 X.2.1 dX11_take_59 rfl ?_
              obtain ⟨v_55, ev_55⟩ : ∃ v, pI S 1110 x = v := ⟨_, rfl⟩
              have rg_57 := And.intro (z_lo v_55) (z_hi v_55)
              have pz_58 : (pI S 1110 x).toInt = v_55.toInt := by rw [ev_55]
              refine r_getI (g := 1110) (x := v_55) X hw ha_x rfl 10 ev_55 (by decide) rfl inn_X11_take_11 (by decide) (X.2.2.2.1 (.fieldLink RX11 321 "SilkMill" "shelved" "I") (by decide +kernel)) rfl (gv_1110 _ _) dX11_take_60 ?_
              refine lv_iconst (v := 1) X.1 X.2.1 dX11_take_63 (by decide) ?_
              refine lv_isub X.1 X.2.1 dX11_take_64 ?_
              refine lv_topi (fun v_59 ev_59 => ?_)
              have rg_60 := And.intro (z_lo v_59) (z_hi v_59)
              refine r_putI (v := v_59) X hw ha_x rfl 10 1110 tyX11 (by decide) rfl inn_X11_take_11 tyX11_ok nmX11 (by decide) (X.2.2.2.1 (.fieldLink RX11 321 "SilkMill" "shelved" "I") (by decide +kernel)) rfl (Or.inl rfl) rfl rfl (Nat.le_of_ble_eq_true rfl) (st_1110 _ _) dX11_take_65 (fun H locs hw => ?_)
              obtain ⟨S_61, eS_61⟩ : ∃ T, T = sI S 1110 x (v_59) := ⟨_, rfl⟩
              rw [← eS_61] at hw
              have hO_62 : Ok eTA S S_61 := hO.sI eS_61 (by decide +kernel) (uI_11_1110 hO.1 ha_x)
              have h_63 : pI S_61 1110 x = v_59 := tI_sIs eS_61
              refine lv_aload_n X.1 X.2.1 dX11_take_68 rfl (lv_at hl 0 rfl) ?_
              have t_64 : At S_61 q_5 3 := tAt_sI eS_61 ha_7
              refine k_i (rm := { frames := 3, cells := 0, slots := 0, locals := 144 }) (av := [.ref q_5]) X hw (va_runV (As := []) (rest := []) (cfix X) (k_X3_giveUp3 l G cy κ S_61 _ q_5 hO_62.1 t_64) (cwV 0 X.2.2.2.1 gX11_take_X3_giveUp rfl rfl rfl (by decide +kernel) ⟨Nat.le_of_ble_eq_true rfl, Nat.le_of_ble_eq_true rfl⟩) (pre_V X hw _ t_64 rfl (by decide) rfl) rfl rfl hl.1 rfl (lv_room (Nat.le_of_ble_eq_true rfl)) dX11_take_69 ⟨Nat.le_of_ble_eq_true rfl, Nat.le_of_ble_eq_true rfl⟩) 0 0 (Nat.le_of_ble_eq_true rfl) (Nat.le_of_ble_eq_true rfl) (fun rr_65 S_66 H locs hp hw hfr hnw => ?_)
              obtain ⟨hk_67, hp⟩ := hp
              have hO_68 : Ok eTA S S_66 := hO_62.call hk_67 (by decide +kernel)
              obtain ⟨gu_69, gu_70, gu_71⟩ := hp
              exact ret_i X hw hr hlocks (Nat.le_of_ble_eq_true rfl) (Nat.le_of_ble_eq_true rfl) ⟨hO_68, ⟨z_lo _, z_hi _, fun h => by exfalso; omega, fun _ P hP => by rw [f_10] at hP; cases hP; rw [eS_61, pI_sI_nf (by decide), pR_sI, pI_sI_nf (by decide)] at gu_71; rw [ev_17] at gu_71; rcases gu_71 with ⟨h0, h1, h2⟩ | ⟨h0, h1⟩ | ⟨h0, h1, h2⟩; exact Or.inr (Or.inr (Or.inr (Or.inr (Or.inl ⟨by rw [ev_17]; omega, by omega, by rw [h1], _, h2⟩)))); exact Or.inr (Or.inr (Or.inr (Or.inl ⟨by rw [ev_17]; omega, by omega, by rw [ev_21]; omega, _, h1⟩))); refine Or.inr (Or.inr (Or.inr (Or.inr (Or.inr ⟨by rw [ev_17]; omega, by omega, ?_⟩)))); rcases h2 with ⟨h3, h4⟩ | ⟨q, h3, h4, h5⟩; exact Or.inl ⟨h3, _, h4⟩; exact Or.inr ⟨q, _, h3, by rw [h4, pI_sI_nf (by decide), pI_sI_nf (by decide)], h5⟩⟩⟩ dX11_take_72
            · have z_b_72 := trivial
              have k_73 : v_21.toInt = 0 := z_eq rfl ti_0 c_52
              refine lv_bipush (v := (-4)) X.1 X.2.1 dX11_take_55 (by decide) ?_
              exact ret_i X hw hr hlocks (Nat.le_of_ble_eq_true rfl) (Nat.le_of_ble_eq_true rfl) ⟨hO, ⟨z_lo _, z_hi _, fun h => by exfalso; omega, fun _ P hP => by rw [f_10] at hP; cases hP; exact Or.inr (Or.inr (Or.inl ⟨by rw [ev_17]; omega, by omega, by rw [ev_21]; omega, by decide, rfl⟩))⟩⟩ dX11_take_57
        · have z_b_74 := trivial
          have k_75 : v_17.toInt ≠ a2_z := z_ne rfl hz_a2 c_27
          refine lv_bipush (v := (-3)) X.1 X.2.1 dX11_take_40 (by decide) ?_
          exact ret_i X hw hr hlocks (Nat.le_of_ble_eq_true rfl) (Nat.le_of_ble_eq_true rfl) ⟨hO, ⟨z_lo _, z_hi _, fun h => by exfalso; omega, fun _ P hP => by rw [f_10] at hP; cases hP; exact Or.inr (Or.inl ⟨by rw [ev_17]; omega, by rw [ev_17]; omega, by decide, rfl⟩)⟩⟩ dX11_take_42
      · have z_b_76 := trivial
        have k_77 : v_17.toInt = (-1) := z_eq rfl ti_m1 c_24
        refine lv_bipush (v := (-2)) X.1 X.2.1 dX11_take_29 (by decide) ?_
        exact ret_i X hw hr hlocks (Nat.le_of_ble_eq_true rfl) (Nat.le_of_ble_eq_true rfl) ⟨hO, ⟨z_lo _, z_hi _, fun h => by exfalso; omega, fun _ P hP => by rw [f_10] at hP; cases hP; exact Or.inl ⟨by rw [ev_17]; omega, by decide, rfl⟩⟩⟩ dX11_take_31
    · have z_b_78 := trivial
      refine lv_if_ne (tgt := 21) X.1 X.2.1 dX11_take_16 (by decide) (fun c_79 => absurd c_79 (by decide)) (fun c_79 => ?_)
      refine lv_iconst (v := (-1)) X.1 X.2.1 dX11_take_19 (by decide) ?_
      exact ret_i X hw hr hlocks (Nat.le_of_ble_eq_true rfl) (Nat.le_of_ble_eq_true rfl) ⟨hO, ⟨z_lo _, z_hi _, fun _ => ⟨by decide, rfl⟩, fun h => by exfalso; omega⟩⟩ dX11_take_20
