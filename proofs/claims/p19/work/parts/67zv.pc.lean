/-! ===== pieces: the reference ===== -/
def pmM (g : List Mt) (m : Nat) : Mt := if m = 0 then [] else g.getD (m - 1) []
theorem pm_0 {g : List Mt} : pmM g 0 = [] := rfl
theorem pm_s {g : List Mt} {m : Nat} {t : Mt} (h0 : m ≠ 0) (h : g[m - 1]? = some t) : pmM g m = t := by
  unfold pmM
  rw [if_neg h0, List.getD_eq_getElem?_getD, h]
  rfl
theorem inB_of {c : Nat} {t : Mt} {k : Nat} {z : Nat × Int32} (h : t[k]? = some z) (e : z.1 = c) : inB c t = true := inB_i.mpr ⟨z, List.mem_of_getElem? h, e⟩
theorem inB_no {c : Nat} {t : Mt} (h : ∀ (k : Nat) (z : Nat × Int32), t[k]? = some z → z.1 ≠ c) : inB c t = false := by
  cases e : inB c t with
  | false => rfl
  | true =>
    obtain ⟨z, hz, ez⟩ := inB_i.mp e
    obtain ⟨k, hk⟩ := List.mem_iff_getElem?.mp hz
    exact absurd ez (h k z hk)
theorem last_take : ∀ (g : List Mt) (m : Nat) (pm : Mt), m ≤ g.length → lastM pm (g.take m) = if m = 0 then pm else g.getD (m - 1) []
  | g, 0, pm, _ => by
    rw [List.take_zero]
    rfl
  | [], m + 1, pm, h => absurd h (by show ¬ m + 1 ≤ 0; omega)
  | a :: r, m + 1, pm, h => by
    have h' : m ≤ r.length := Nat.le_of_succ_le_succ h
    show lastM a (r.take m) = _
    rw [last_take r m a h']
    cases m with
    | zero => rfl
    | succ k => rfl
theorem pm_last {g : List Mt} {m : Nat} (h : m ≤ g.length) : lastM [] (g.take m) = pmM g m := last_take g m [] h
/-- what the reference tells of a piece -/
def toF (g : List Mt) (p : Pc) (w : Int) : Int := if w = 0 then (p.1 : Int) / 60 else if w = 1 then (p.1 : Int) % 60 else if w = 2 then (p.2.1 : Int) else if w = 4 then p.2.2.toInt else (ruN g p.1 p.2.1 : Int)
theorem run_y {c : Nat} : ∀ {L : List Mt} {n : Nat} {t : Mt}, n ≤ runN c L → L[n]? = some t → inB c t = true → n + 1 ≤ runN c L
  | [], n, t, _, h, _ => by
    rw [List.getElem?_nil] at h
    cases h
  | a :: r, 0, t, _, h, ht => by
    have h' : some a = some t := h
    cases h'
    show 1 ≤ if inB c a = true then runN c r + 1 else 0
    rw [if_pos ht]
    omega
  | a :: r, n + 1, t, hn, h, ht => by
    have hn' : n + 1 ≤ if inB c a = true then runN c r + 1 else 0 := hn
    show n + 1 + 1 ≤ if inB c a = true then runN c r + 1 else 0
    by_cases k : inB c a = true
    · rw [if_pos k] at hn' ⊢
      have := run_y (c := c) (L := r) (n := n) (t := t) (by omega) h ht
      omega
    · rw [if_neg k] at hn'
      omega
theorem run_n {c : Nat} : ∀ {L : List Mt} {n : Nat} {t : Mt}, n ≤ runN c L → L[n]? = some t → inB c t = false → runN c L = n
  | [], n, t, _, h, _ => by
    rw [List.getElem?_nil] at h
    cases h
  | a :: r, 0, t, _, h, ht => by
    have h' : some a = some t := h
    cases h'
    show (if inB c a = true then runN c r + 1 else 0) = 0
    rw [if_neg (by rw [ht]; decide)]
  | a :: r, n + 1, t, hn, h, ht => by
    have hn' : n + 1 ≤ if inB c a = true then runN c r + 1 else 0 := hn
    show (if inB c a = true then runN c r + 1 else 0) = n + 1
    by_cases k : inB c a = true
    · rw [if_pos k] at hn' ⊢
      have := run_n (c := c) (L := r) (n := n) (t := t) (by omega) h ht
      omega
    · rw [if_neg k] at hn'
      omega
theorem ru_y {g : List Mt} {c m n : Nat} {t : Mt} (h : n ≤ ruN g c m) (ht : g[m + n]? = some t) (hi : inB c t = true) : n + 1 ≤ ruN g c m := run_y h (by rw [List.getElem?_drop]; exact ht) hi
theorem ru_n {g : List Mt} {c m n : Nat} {t : Mt} (h : n ≤ ruN g c m) (ht : g[m + n]? = some t) (hi : inB c t = false) : ruN g c m = n := run_n h (by rw [List.getElem?_drop]; exact ht) hi
theorem ru_o {g : List Mt} {c m n : Nat} (h : n ≤ ruN g c m) (hm : m ≤ g.length) (hl : g.length ≤ m + n) : ruN g c m = n := by
  have := ru_len (c := c) hm
  omega
/-- the begins of a metre -/
def bgL (g : List Mt) (m : Nat) (t : Mt) : List Pc := (t.filter (fun z => !inB z.1 (pmM g m))).map (fun z => (z.1, m, z.2))
theorem pcs_t {g : List Mt} {m : Nat} {t : Mt} (h : g[m]? = some t) : pcs (g.take (m + 1)) = pcs (g.take m) ++ bgL g m t := by
  have hl := (List.getElem?_eq_some_iff.mp h).1
  have e : g.take (m + 1) = g.take m ++ [t] := by rw [List.take_succ, h]; rfl
  unfold pcs bgL
  rw [e, pcR_app, pm_last (by omega), List.length_take, Nat.min_eq_left (by omega), Nat.zero_add]
theorem bgL_y {g : List Mt} {m e : Nat} {t : Mt} {z : Nat × Int32} (h : t[e]? = some z) (hb : inB z.1 (pmM g m) = false) : bgL g m (t.take (e + 1)) = bgL g m (t.take e) ++ [(z.1, m, z.2)] := by
  unfold bgL
  rw [List.take_succ, h]
  show ((t.take e ++ [z]).filter _).map _ = _
  rw [List.filter_append, List.filter_cons_of_pos (by rw [hb]; rfl), List.map_append]
  rfl
theorem bgL_n {g : List Mt} {m e : Nat} {t : Mt} {z : Nat × Int32} (h : t[e]? = some z) (hb : inB z.1 (pmM g m) = true) : bgL g m (t.take (e + 1)) = bgL g m (t.take e) := by
  unfold bgL
  rw [List.take_succ, h]
  show ((t.take e ++ [z]).filter _).map _ = _
  rw [List.filter_append, List.filter_cons_of_neg (by rw [hb]; decide), List.map_append]
  exact List.append_nil _
theorem bgL_0 {g : List Mt} {m : Nat} {t : Mt} : bgL g m (t.take 0) = [] := rfl
/-- a piece that begins in a metre, in the whole row -/
theorem pcs_at {g : List Mt} {m e : Nat} {t : Mt} {z : Nat × Int32} (ht : g[m]? = some t) (hz : t[e]? = some z) (hb : inB z.1 (pmM g m) = false) : (pcs g)[(pcs (g.take m)).length + (bgL g m (t.take e)).length]? = some (z.1, m, z.2) := by
  have pre : ∀ (d k : Nat), k + d = g.length → ∀ (i : Nat) (p : Pc), (pcs (g.take k))[i]? = some p → (pcs g)[i]? = some p := by
    intro d
    induction d with
    | zero =>
      intro k hk i p h
      rw [List.take_of_length_le (by omega)] at h
      exact h
    | succ d ih =>
      intro k hk i p h
      obtain ⟨u, hu⟩ : ∃ u, g[k]? = some u := ⟨_, List.getElem?_eq_getElem (by omega)⟩
      refine ih (k + 1) (by omega) i p ?_
      rw [pcs_t hu, List.getElem?_append_left (List.getElem?_eq_some_iff.mp h).1]
      exact h
  have hl := (List.getElem?_eq_some_iff.mp ht).1
  refine pre (g.length - (m + 1)) (m + 1) (by omega) _ _ ?_
  have q : ∀ (d k : Nat), k + d = t.length → ∀ (i : Nat) (p : Pc), (bgL g m (t.take k))[i]? = some p → (bgL g m t)[i]? = some p := by
    intro d
    induction d with
    | zero =>
      intro k hk i p h
      rw [List.take_of_length_le (by omega)] at h
      exact h
    | succ d ih =>
      intro k hk i p h
      obtain ⟨u, hu⟩ : ∃ u, t[k]? = some u := ⟨_, List.getElem?_eq_getElem (by omega)⟩
      refine ih (k + 1) (by omega) i p ?_
      cases b : inB u.1 (pmM g m) with
      | true => rw [bgL_n hu b]; exact h
      | false =>
        rw [bgL_y hu b, List.getElem?_append_left (List.getElem?_eq_some_iff.mp h).1]
        exact h
  have he := (List.getElem?_eq_some_iff.mp hz).1
  rw [pcs_t ht, List.getElem?_append_right (Nat.le_add_right _ _), Nat.add_sub_cancel_left]
  refine q (t.length - (e + 1)) (e + 1) (by omega) _ _ ?_
  rw [bgL_y hz hb, List.getElem?_append_right (Nat.le_refl _), Nat.sub_self]
  rfl
def PcI (L : List Sk) (k i w : Int) : Prop := ∃ s p, 0 ≤ k ∧ L[k.toNat]? = some s ∧ 0 ≤ i ∧ (pcs s.2.2.2)[i.toNat]? = some p ∧ 0 ≤ w ∧ w ≤ 4
def PcC (S : PS) (g : List Mt) (p : Pc) (r : Int32) (w : Int) : Prop := (w = 0 → r = cdS S p.1 / 100) ∧ (w = 1 → r = cdS S p.1 - cdS S p.1 / 100 * 100) ∧ (w = 2 → r.toInt = (p.2.1 : Int)) ∧ (w = 3 → r.toInt = (ruN g p.1 p.2.1 : Int)) ∧ (w = 4 → r = p.2.2)

set_option maxHeartbeats 4000000 in
set_option maxRecDepth 100000 in
theorem k_X12_endOf8 (l : Launch) (G : va_G) (cy : Nat → ClassId) (κ : Nat → Nat) (S : PS) (sz : Nat) (x : Nat) (a1 : Int32) (a1_z : Int) (a2 : Int32) (a2_z : Int) (t : Mt) (hG : GX S) (ha_x : At S x 12) (hz_a1 : a1.toInt = a1_z) (hz_a2 : a2.toInt = a2_z) (hp_0 : 0 ≤ a1_z) (hp_1 : a1_z ≤ 13199) (hp_2 : MtR S x a1_z.toNat t) (hp_3 : 0 ≤ a2_z) : Ci l yX12_endOf wsX12_endOf ({ frames := 1, cells := 0, slots := 0, locals := 48 }) G cy κ S sz [.ref x, .int (a1), .int (a2)] (fun (r : Int32) (S9 : PS) => S = S9 ∧ (-2147483648 ≤ r.toInt ∧ r.toInt ≤ 2147483647 ∧ (inB a2_z.toNat t = true → r.toInt ≠ -1) ∧ (inB a2_z.toNat t = false → r.toInt = -1))) := by
  refine ent_m (cc := cX12_endOf) (maxL := 4) (ret := (some .int)) (by decide) rfl (Nat.le_of_ble_eq_true rfl) ?_
  intro p e s m below meth c ls X hr hlocks hin hw hl hsz
  subst hsz
  have X : Cx p c cX12_endOf 4 s [.ref x, .int (a1), .int (a2)].toArray wsX12_endOf RX12 m G cy κ (AS S s.heap.size) := X
  have hl : lv_has ls 4 [(0, .ref x), (1, .int (a1)), (2, .int (a2))] := hl
  have rg_a1 : (-2147483648) ≤ a1_z ∧ a1_z ≤ 2147483647 := by rw [← hz_a1]; exact ⟨z_lo _, z_hi _⟩
  have rg_a2 : (-2147483648) ≤ a2_z ∧ a2_z ≤ 2147483647 := by rw [← hz_a2]; exact ⟨z_lo _, z_hi _⟩
  generalize hQQ : MQ below _ _ _ _ _ _ = QQ
  replace hQQ := hQQ.symm
  refine lv_aload_n X.1 X.2.1 dX12_endOf_0 rfl (lv_at hl 0 rfl) ?_
  obtain ⟨q_1, h_2, h_3, h_4⟩ := gQ_12_1235 hG ha_x
  refine r_getR (g := 1235) X hw ha_x rfl 35 h_2 (by decide) rfl inn_X12_endOf_12 (by decide) (X.2.2.2.1 (.fieldLink RX12 90 "SilkMillModel" "metreEnds" "[I") (by decide +kernel)) rfl (gv_1235 _ _) dX12_endOf_1 ?_
  refine lv_iload_n X.1 X.2.1 dX12_endOf_4 rfl (lv_at hl 1 rfl) ?_
  refine r_iald X hw h_3 rfl (by rw [h_4]; exact z_ix hz_a1 (by omega) (by omega)) dX12_endOf_5 ?_
  refine lv_topi (fun v_5 ev_5 => ?_)
  have z_6 := gE_914 hG h_3 (Int32.toNatClampNeg (a1)); rw [← ev_5] at z_6
  have ev_5 := ev_5.symm
  have zf_7 : zA S x 1235 (a1_z).toNat = v_5.toInt := (zA_of h_2 hz_a1 (by omega) ev_5)
  have el_8 : v_5.toInt = (t.length : Int) := by rw [← hp_2.1, ← zf_7]
  refine lv_iconst (v := 1) X.1 X.2.1 dX12_endOf_6 (by decide) ?_
  refine lv_isub X.1 X.2.1 dX12_endOf_7 ?_
  refine lv_topi (fun v_9 ev_9 => ?_)
  have z_10 : v_9.toInt = v_5.toInt - 1 := z_sub ev_9 rfl ti_1 (by omega) (by omega)
  refine lv_istore_n (lv' := [(3, .int (v_9)), (0, .ref x), (1, .int (a1)), (2, .int (a2))]) X.1 X.2.1 dX12_endOf_8 rfl hl (by decide) rfl (fun ls hl => ?_)
  have L_11 : ∀ (n : Nat) (H : Heap) (locs : List Loc) (ls : Array Slot) (i3_12 : Int32) (i3_12_z : Int), ((i3_12_z + 1).toNat = n) → (Wd G cy (AS S s.heap.size) s.heap S H locs) → (i3_12.toInt = i3_12_z) → ((-1) ≤ i3_12_z ∧ i3_12_z ≤ 11) → ((∀ (k : Nat) (z : Nat × Int32), i3_12_z < (k : Int) → t[k]? = some z → (z.1 : Int) ≠ a2_z)) → (i3_12_z < (t.length : Int)) → (lv_has ls 4 [(3, .int (i3_12)), (0, .ref x), (1, .int (a1)), (2, .int (a2))]) → W p l e ({ frames := 1, cells := 0, slots := 0, locals := 48 }) s m [.ref x, .int (a1), .int (a2)].toArray below meth c H locs 0 0 QQ (F0 m 9 ls []) := by
    intro n
    induction n using Nat.strongRecOn with
    | ind n ih_L_11 =>
    intro H locs ls i3_12 i3_12_z hn hw hz_i3_12 hr_i3_12 iv_13 iv_14 hl
    have rg_15 : (-2147483648) ≤ i3_12_z ∧ i3_12_z ≤ 2147483647 := by rw [← hz_i3_12]; exact ⟨z_lo _, z_hi _⟩
    refine lv_iload_n X.1 X.2.1 dX12_endOf_9 rfl (lv_at hl 0 rfl) ?_
    refine lv_if_lt (tgt := 38) X.1 X.2.1 dX12_endOf_10 (by decide) (fun c_16 => ?_) (fun c_16 => ?_)
    · have z_b_17 := trivial
      have k_18 : i3_12_z < 0 := z_lt hz_i3_12 ti_0 c_16
      refine lv_iload_n X.1 X.2.1 dX12_endOf_38 rfl (lv_at hl 0 rfl) ?_
      rw [hQQ]
      exact ret_i X hw hr hlocks (Nat.le_of_ble_eq_true rfl) (Nat.le_of_ble_eq_true rfl) ⟨rfl, ⟨z_lo _, z_hi _, fun h => (by rw [inB_no (fun k z hk e => iv_13 k z (by omega) hk (by omega))] at h; cases h), fun _ => (by have e1 : (i3_12).toInt = i3_12_z := hz_i3_12; omega)⟩⟩ dX12_endOf_39
    · have z_b_19 := trivial
      have k_20 : i3_12_z ≥ 0 := z_nlt hz_i3_12 ti_0 c_16
      refine lv_aload_n X.1 X.2.1 dX12_endOf_13 rfl (lv_at hl 1 rfl) ?_
      obtain ⟨q_21, h_22, h_23, h_24⟩ := gQ_12_1236 hG ha_x
      refine r_getR (g := 1236) X hw ha_x rfl 36 h_22 (by decide) rfl inn_X12_endOf_12 (by decide) (X.2.2.2.1 (.fieldLink RX12 94 "SilkMillModel" "drawn" "[I") (by decide +kernel)) rfl (gv_1236 _ _) dX12_endOf_14 ?_
      refine lv_bipush (v := 12) X.1 X.2.1 dX12_endOf_17 (by decide) ?_
      refine lv_iload_n X.1 X.2.1 dX12_endOf_19 rfl (lv_at hl 2 rfl) ?_
      refine lv_imul X.1 X.2.1 dX12_endOf_20 ?_
      refine lv_topi (fun v_25 ev_25 => ?_)
      have z_26 : v_25.toInt = 12 * a1_z := z_mul ev_25 ti_12 hz_a1 (by omega) (by omega)
      refine lv_iload_n X.1 X.2.1 dX12_endOf_21 rfl (lv_at hl 0 rfl) ?_
      refine lv_iadd X.1 X.2.1 dX12_endOf_22 ?_
      refine lv_topi (fun v_27 ev_27 => ?_)
      have z_28 : v_27.toInt = (12 * a1_z) + i3_12_z := z_add ev_27 z_26 hz_i3_12 (by omega) (by omega)
      refine r_iald X hw h_23 rfl (by rw [h_24]; exact z_ix z_28 (by omega) (by omega)) dX12_endOf_23 ?_
      refine lv_topi (fun v_29 ev_29 => ?_)
      have z_30 := gE_934 hG h_23 (Int32.toNatClampNeg (v_27)); rw [← ev_29] at z_30
      have ev_29 := ev_29.symm
      have zf_31 : zA S x 1236 (((12 * a1_z) + i3_12_z)).toNat = v_29.toInt := (zA_of h_22 z_28 (by omega) ev_29)
      obtain ⟨ez_32, ez_33⟩ : ∃ z, t[(i3_12_z).toNat]? = some z := ⟨_, List.getElem?_eq_getElem (by omega)⟩
      obtain ⟨ez_34, ez_35, ez_36⟩ := hp_2.2 _ _ ez_33
      have ez_37 : v_29.toInt = 1000 * (ez_32.1 : Int) + ez_32.2.toInt := by rw [← ez_34, ← zf_31]; congr 1; omega
      refine lv_sipush (v := 1000) X.1 X.2.1 dX12_endOf_24 (by decide) ?_
      refine lv_idiv X.1 X.2.1 dX12_endOf_27 (by decide) ?_
      refine lv_topi (fun v_38 ev_38 => ?_)
      have z_39 : v_38.toInt = v_29.toInt / 1000 := z_div ev_38 rfl ti_1000 (by omega) (by omega)
      refine lv_iload_n X.1 X.2.1 dX12_endOf_28 rfl (lv_at hl 3 rfl) ?_
      refine lv_icmp_eq (tgt := 38) X.1 X.2.1 dX12_endOf_29 (by decide) (fun c_40 => ?_) (fun c_40 => ?_)
      · have z_b_41 := trivial
        have k_42 : (v_29.toInt / 1000) = a2_z := z_eq z_39 hz_a2 c_40
        refine lv_iload_n X.1 X.2.1 dX12_endOf_38 rfl (lv_at hl 0 rfl) ?_
        rw [hQQ]
        exact ret_i X hw hr hlocks (Nat.le_of_ble_eq_true rfl) (Nat.le_of_ble_eq_true rfl) ⟨rfl, ⟨z_lo _, z_hi _, fun _ => (by have e1 : (i3_12).toInt = i3_12_z := hz_i3_12; omega), fun h => (by rw [inB_of ez_33 (by omega)] at h; cases h)⟩⟩ dX12_endOf_39
      · have z_b_43 := trivial
        have k_44 : (v_29.toInt / 1000) ≠ a2_z := z_ne z_39 hz_a2 c_40
        obtain ⟨x_45, ex_45⟩ : ∃ y : Int32, y = i3_12 + (-1) := ⟨_, rfl⟩
        have z_46 : x_45.toInt = i3_12_z + (-1) := z_add ex_45 hz_i3_12 ti_m1 (by omega) (by omega)
        refine lv_iinc (v := x_45) (lv' := [(3, .int (x_45)), (0, .ref x), (1, .int (a1)), (2, .int (a2))]) X.1 X.2.1 dX12_endOf_32 hl (k := 0) rfl (by rw [ex_45]; rfl) (by decide) rfl (fun ls hl => ?_)
        refine lv_goto (tgt := 9) X.1 X.2.1 dX12_endOf_35 (by decide) ?_
        exact ih_L_11 _ (by omega) _ _ _ (x_45) (x_45.toInt) rfl hw rfl (by omega) (fun k z hk h => if c : k = (i3_12_z).toNat then (by subst c; rw [ez_33] at h; cases h; omega) else iv_13 k z (by omega) h) (by omega) (lv_sub hl [0, 1, 2, 3] rfl)
  exact L_11 _ _ _ _ (v_9) ((v_5.toInt - 1)) rfl hw z_10 (by omega) (fun k z hk h => absurd (List.getElem?_eq_some_iff.mp h).1 (by omega)) (by omega) (lv_sub hl [0, 1, 2, 3] rfl)
set_option maxHeartbeats 4000000 in
set_option maxRecDepth 100000 in
theorem k_X12_begins8 (l : Launch) (G : va_G) (cy : Nat → ClassId) (κ : Nat → Nat) (S : PS) (sz : Nat) (x : Nat) (a1 : Int32) (a1_z : Int) (a2 : Int32) (a2_z : Int) (a3 : Int32) (a3_z : Int) (sQ : Sk) (t : Mt) (z : Nat × Int32) (hG : GX S) (ha_x : At S x 12) (hz_a1 : a1.toInt = a1_z) (hz_a2 : a2.toInt = a2_z) (hz_a3 : a3.toInt = a3_z) (hp_0 : 0 ≤ a1_z) (hp_1 : a1_z ≤ 39) (hp_2 : a1_z < (pI S 1238 x).toInt) (hp_3 : MI S x) (hp_4 : 0 ≤ a2_z) (hp_5 : a2_z < zA S x 1239 (a1_z + 1).toNat - zA S x 1239 a1_z.toNat) (hp_6 : 0 ≤ a3_z) (hp_7 : a3_z ≤ 11) (hp_8 : SkR S x a1_z.toNat sQ) (hp_9 : sQ.2.2.2[a2_z.toNat]? = some t) (hp_10 : t[a3_z.toNat]? = some z) : Ci l yX12_begins wsX12_begins ({ frames := 2, cells := 0, slots := 0, locals := 96 }) G cy κ S sz [.ref x, .int (a1), .int (a2), .int (a3)] (fun (r : Int32) (S9 : PS) => S = S9 ∧ (((inB z.1 (pmM sQ.2.2.2 a2_z.toNat) = false) ∧ r = 1) ∨ ((inB z.1 (pmM sQ.2.2.2 a2_z.toNat) = true) ∧ r = 0))) := by
  refine ent_m (cc := cX12_begins) (maxL := 5) (ret := (some .boolean)) (by decide) rfl (Nat.le_of_ble_eq_true rfl) ?_
  intro p e s m below meth c ls X hr hlocks hin hw hl hsz
  subst hsz
  have X : Cx p c cX12_begins 5 s [.ref x, .int (a1), .int (a2), .int (a3)].toArray wsX12_begins RX12 m G cy κ (AS S s.heap.size) := X
  have hl : lv_has ls 5 [(0, .ref x), (1, .int (a1)), (2, .int (a2)), (3, .int (a3))] := hl
  have rg_a1 : (-2147483648) ≤ a1_z ∧ a1_z ≤ 2147483647 := by rw [← hz_a1]; exact ⟨z_lo _, z_hi _⟩
  have rg_a2 : (-2147483648) ≤ a2_z ∧ a2_z ≤ 2147483647 := by rw [← hz_a2]; exact ⟨z_lo _, z_hi _⟩
  have rg_a3 : (-2147483648) ≤ a3_z ∧ a3_z ≤ 2147483647 := by rw [← hz_a3]; exact ⟨z_lo _, z_hi _⟩
  have h7 := MI_7 hp_3 (k := a1_z) (by omega) (by omega)
  have hsl := hp_8.2.1
  have hsn : zA S x 1239 (a1_z + 1).toNat = zA S x 1239 (a1_z.toNat + 1) := by rw [show (a1_z + 1).toNat = a1_z.toNat + 1 by omega]
  have hz39 := z1239 hG ha_x a1_z.toNat
  have hz40 := z1239 hG ha_x (a1_z.toNat + 1)
  have hbm := hp_8.2.2 _ _ hp_9
  have hbl := (List.getElem?_eq_some_iff.mp hp_9).1
  refine lv_aload_n X.1 X.2.1 dX12_begins_0 rfl (lv_at hl 0 rfl) ?_
  obtain ⟨q_1, h_2, h_3, h_4⟩ := gQ_12_1239 hG ha_x
  refine r_getR (g := 1239) X hw ha_x rfl 39 h_2 (by decide) rfl inn_X12_begins_12 (by decide) (X.2.2.2.1 (.fieldLink RX12 100 "SilkMillModel" "firstMetre" "[I") (by decide +kernel)) rfl (gv_1239 _ _) dX12_begins_1 ?_
  refine lv_iload_n X.1 X.2.1 dX12_begins_4 rfl (lv_at hl 1 rfl) ?_
  refine r_iald X hw h_3 rfl (by rw [h_4]; exact z_ix hz_a1 (by omega) (by omega)) dX12_begins_5 ?_
  refine lv_topi (fun v_5 ev_5 => ?_)
  have z_6 := gE_994 hG h_3 (Int32.toNatClampNeg (a1)); rw [← ev_5] at z_6
  have ev_5 := ev_5.symm
  have zf_7 : zA S x 1239 (a1_z).toNat = v_5.toInt := (zA_of h_2 hz_a1 (by omega) ev_5)
  have zf_8 : zA S x 1239 (a1_z).toNat = v_5.toInt := (zA_of h_2 hz_a1 (by omega) ev_5)
  refine lv_iload_n X.1 X.2.1 dX12_begins_6 rfl (lv_at hl 2 rfl) ?_
  refine lv_iadd X.1 X.2.1 dX12_begins_7 ?_
  refine lv_topi (fun v_9 ev_9 => ?_)
  have z_10 : v_9.toInt = v_5.toInt + a2_z := z_add ev_9 rfl hz_a2 (by omega) (by omega)
  refine lv_istore (lv' := [(4, .int (v_9)), (0, .ref x), (1, .int (a1)), (2, .int (a2)), (3, .int (a3))]) X.1 X.2.1 dX12_begins_8 hl (by decide) rfl (fun ls hl => ?_)
  refine lv_iload_n X.1 X.2.1 dX12_begins_10 rfl (lv_at hl 3 rfl) ?_
  refine lv_if_eq (tgt := 42) X.1 X.2.1 dX12_begins_11 (by decide) (fun c_11 => ?_) (fun c_11 => ?_)
  · have z_b_12 := trivial
    have k_13 : a2_z = 0 := z_eq hz_a2 ti_0 c_11
    refine lv_iconst (v := 1) X.1 X.2.1 dX12_begins_42 (by decide) ?_
    refine lv_goto (tgt := 47) X.1 X.2.1 dX12_begins_43 (by decide) ?_
    exact ret_z X hw hr hlocks (Nat.le_of_ble_eq_true rfl) (Nat.le_of_ble_eq_true rfl) (by decide) ⟨rfl, Or.inl ⟨by rw [show a2_z.toNat = 0 by omega]; rfl, rfl⟩⟩ dX12_begins_47
  · have z_b_14 := trivial
    have k_15 : a2_z ≠ 0 := z_ne hz_a2 ti_0 c_11
    refine lv_aload_n X.1 X.2.1 dX12_begins_14 rfl (lv_at hl 1 rfl) ?_
    refine lv_iload X.1 X.2.1 dX12_begins_15 (lv_at hl 0 rfl) ?_
    refine lv_iconst (v := 1) X.1 X.2.1 dX12_begins_17 (by decide) ?_
    refine lv_isub X.1 X.2.1 dX12_begins_18 ?_
    refine lv_topi (fun v_16 ev_16 => ?_)
    have z_17 : v_16.toInt = (v_5.toInt + a2_z) - 1 := z_sub ev_16 z_10 ti_1 (by omega) (by omega)
    refine lv_aload_n X.1 X.2.1 dX12_begins_19 rfl (lv_at hl 1 rfl) ?_
    obtain ⟨q_18, h_19, h_20, h_21⟩ := gQ_12_1236 hG ha_x
    refine r_getR (g := 1236) X hw ha_x rfl 36 h_19 (by decide) rfl inn_X12_begins_12 (by decide) (X.2.2.2.1 (.fieldLink RX12 94 "SilkMillModel" "drawn" "[I") (by decide +kernel)) rfl (gv_1236 _ _) dX12_begins_20 ?_
    refine lv_bipush (v := 12) X.1 X.2.1 dX12_begins_23 (by decide) ?_
    refine lv_iload X.1 X.2.1 dX12_begins_25 (lv_at hl 0 rfl) ?_
    refine lv_imul X.1 X.2.1 dX12_begins_27 ?_
    refine lv_topi (fun v_22 ev_22 => ?_)
    have z_23 : v_22.toInt = 12 * (v_5.toInt + a2_z) := z_mul ev_22 ti_12 z_10 (by omega) (by omega)
    refine lv_iload_n X.1 X.2.1 dX12_begins_28 rfl (lv_at hl 4 rfl) ?_
    refine lv_iadd X.1 X.2.1 dX12_begins_29 ?_
    refine lv_topi (fun v_24 ev_24 => ?_)
    have z_25 : v_24.toInt = (12 * (v_5.toInt + a2_z)) + a3_z := z_add ev_24 z_23 hz_a3 (by omega) (by omega)
    refine r_iald X hw h_20 rfl (by rw [h_21]; exact z_ix z_25 (by omega) (by omega)) dX12_begins_30 ?_
    refine lv_topi (fun v_26 ev_26 => ?_)
    have z_27 := gE_934 hG h_20 (Int32.toNatClampNeg (v_24)); rw [← ev_26] at z_27
    have ev_26 := ev_26.symm
    have zf_28 : zA S x 1236 (((12 * (v_5.toInt + a2_z)) + a3_z)).toNat = v_26.toInt := (zA_of h_19 z_25 (by omega) ev_26)
    obtain ⟨bz_29, bz_30, bz_31⟩ := hbm.2 _ _ hp_10
    have bz_32 : v_26.toInt = 1000 * (z.1 : Int) + z.2.toInt := by rw [← bz_29, ← zf_28]; congr 1; omega
    refine lv_sipush (v := 1000) X.1 X.2.1 dX12_begins_31 (by decide) ?_
    refine lv_idiv X.1 X.2.1 dX12_begins_34 (by decide) ?_
    refine lv_topi (fun v_33 ev_33 => ?_)
    have z_34 : v_33.toInt = v_26.toInt / 1000 := z_div ev_33 rfl ti_1000 (by omega) (by omega)
    obtain ⟨tp_35, ht_36⟩ : ∃ t, sQ.2.2.2[a2_z.toNat - 1]? = some t := ⟨_, List.getElem?_eq_getElem (by omega)⟩
    refine k_i (rm := { frames := 1, cells := 0, slots := 0, locals := 48 }) (av := [.ref x, .int (v_16), .int (v_33)]) X hw (va_runV (As := [.int (v_16), .int (v_33)]) (rest := []) (cfix X) (k_X12_endOf8 l G cy κ S _ x (v_16) (((v_5.toInt + a2_z) - 1)) (v_33) ((v_26.toInt / 1000)) tp_35 hG ha_x z_17 z_34 (by omega) (by omega) (by rw [show (((v_5.toInt + a2_z) - 1)).toNat = (zA S x 1239 a1_z.toNat).toNat + (a2_z.toNat - 1) by omega]; exact hp_8.2.2 _ _ ht_36) (by omega)) (cwV 2 X.2.2.2.1 gX12_begins_X12_endOf rfl rfl rfl (by decide +kernel) ⟨Nat.le_of_ble_eq_true rfl, Nat.le_of_ble_eq_true rfl⟩) (pre_V X hw _ ha_x rfl (by decide) rfl) rfl rfl hl.1 rfl (lv_room (Nat.le_of_ble_eq_true rfl)) dX12_begins_35 ⟨Nat.le_of_ble_eq_true rfl, Nat.le_of_ble_eq_true rfl⟩) 0 0 (Nat.le_of_ble_eq_true rfl) (Nat.le_of_ble_eq_true rfl) (fun rr_37 S_38 H locs hp hw hfr hnw => ?_)
    obtain ⟨e2, hp⟩ := hp
    subst e2
    obtain ⟨eo_39, eo_40, eo_41, eo_42⟩ := hp
    have rg_43 := And.intro (z_lo rr_37) (z_hi rr_37)
    refine lv_iconst (v := (-1)) X.1 X.2.1 dX12_begins_38 (by decide) ?_
    refine lv_icmp_ne (tgt := 46) X.1 X.2.1 dX12_begins_39 (by decide) (fun c_44 => ?_) (fun c_44 => ?_)
    · have z_b_45 := trivial
      have k_46 : rr_37.toInt ≠ (-1) := z_ne rfl ti_m1 c_44
      refine lv_iconst (v := 0) X.1 X.2.1 dX12_begins_46 (by decide) ?_
      exact ret_z X hw hr hlocks (Nat.le_of_ble_eq_true rfl) (Nat.le_of_ble_eq_true rfl) (by decide) ⟨rfl, Or.inr ⟨by rw [pm_s (by omega) ht_36, show z.1 = ((v_26.toInt / 1000)).toNat by omega]; exact (Bool.not_eq_false _).mp (fun h => absurd (eo_42 h) (by omega)), rfl⟩⟩ dX12_begins_47
    · have z_b_47 := trivial
      have k_48 : rr_37.toInt = (-1) := z_eq rfl ti_m1 c_44
      refine lv_iconst (v := 1) X.1 X.2.1 dX12_begins_42 (by decide) ?_
      refine lv_goto (tgt := 47) X.1 X.2.1 dX12_begins_43 (by decide) ?_
      exact ret_z X hw hr hlocks (Nat.le_of_ble_eq_true rfl) (Nat.le_of_ble_eq_true rfl) (by decide) ⟨rfl, Or.inl ⟨by rw [pm_s (by omega) ht_36, show z.1 = ((v_26.toInt / 1000)).toNat by omega]; exact Bool.eq_false_iff.mpr (fun h => eo_41 h (by omega)), rfl⟩⟩ dX12_begins_47
set_option maxHeartbeats 4000000 in
set_option maxRecDepth 100000 in
theorem k_X12_told8 (l : Launch) (G : va_G) (cy : Nat → ClassId) (κ : Nat → Nat) (S : PS) (sz : Nat) (x : Nat) (a1 : Int32) (a1_z : Int) (a2 : Int32) (a2_z : Int) (a3 : Int32) (a3_z : Int) (a4 : Int32) (a4_z : Int) (sQ : Sk) (z : Nat × Int32) (hG : GX S) (ha_x : At S x 12) (hz_a1 : a1.toInt = a1_z) (hz_a2 : a2.toInt = a2_z) (hz_a3 : a3.toInt = a3_z) (hz_a4 : a4.toInt = a4_z) (hp_0 : 0 ≤ a1_z) (hp_1 : a1_z ≤ 39) (hp_2 : a1_z < (pI S 1238 x).toInt) (hp_3 : MI S x) (hp_4 : 0 ≤ a2_z) (hp_5 : a2_z ≤ 299) (hp_6 : 0 ≤ a3_z) (hp_7 : a3_z ≤ 599999) (hp_8 : SkR S x a1_z.toNat sQ) (hp_9 : a3_z = 1000 * (z.1 : Int) + z.2.toInt) (hp_10 : 0 ≤ z.2.toInt) (hp_11 : z.2.toInt < 1000) (hp_12 : (∃ t, sQ.2.2.2[a2_z.toNat]? = some t ∧ inB z.1 t = true)) : Ci l yX12_told wsX12_told ({ frames := 2, cells := 0, slots := 0, locals := 96 }) G cy κ S sz [.ref x, .int (a1), .int (a2), .int (a3), .int (a4)] (fun (r : Int32) (S9 : PS) => S = S9 ∧ (-2147483648 ≤ r.toInt ∧ r.toInt ≤ 2147483647 ∧ r.toInt = toF sQ.2.2.2 (z.1, a2_z.toNat, z.2) a4_z)) := by
  refine ent_m (cc := cX12_told) (maxL := 7) (ret := (some .int)) (by decide) rfl (Nat.le_of_ble_eq_true rfl) ?_
  intro p e s m below meth c ls X hr hlocks hin hw hl hsz
  subst hsz
  have X : Cx p c cX12_told 7 s [.ref x, .int (a1), .int (a2), .int (a3), .int (a4)].toArray wsX12_told RX12 m G cy κ (AS S s.heap.size) := X
  have hl : lv_has ls 7 [(0, .ref x), (1, .int (a1)), (2, .int (a2)), (3, .int (a3)), (4, .int (a4))] := hl
  have rg_a1 : (-2147483648) ≤ a1_z ∧ a1_z ≤ 2147483647 := by rw [← hz_a1]; exact ⟨z_lo _, z_hi _⟩
  have rg_a2 : (-2147483648) ≤ a2_z ∧ a2_z ≤ 2147483647 := by rw [← hz_a2]; exact ⟨z_lo _, z_hi _⟩
  have rg_a3 : (-2147483648) ≤ a3_z ∧ a3_z ≤ 2147483647 := by rw [← hz_a3]; exact ⟨z_lo _, z_hi _⟩
  have rg_a4 : (-2147483648) ≤ a4_z ∧ a4_z ≤ 2147483647 := by rw [← hz_a4]; exact ⟨z_lo _, z_hi _⟩
  generalize hQQ : MQ below _ _ _ _ _ _ = QQ
  replace hQQ := hQQ.symm
  have h7 := MI_7 hp_3 (k := a1_z) (by omega) (by omega)
  have hsl := hp_8.2.1
  have hsn : zA S x 1239 (a1_z + 1).toNat = zA S x 1239 (a1_z.toNat + 1) := by rw [show (a1_z + 1).toNat = a1_z.toNat + 1 by omega]
  have hz39 := z1239 hG ha_x a1_z.toNat
  have hz40 := z1239 hG ha_x (a1_z.toNat + 1)
  obtain ⟨t0, ht0, hi0⟩ := hp_12
  have hl0 := (List.getElem?_eq_some_iff.mp ht0).1
  have hr1 : 1 ≤ ruN sQ.2.2.2 z.1 a2_z.toNat := ru_y (n := 0) (by omega) ht0 hi0
  refine lv_iload_n X.1 X.2.1 dX12_told_0 rfl (lv_at hl 3 rfl) ?_
  refine lv_sipush (v := 1000) X.1 X.2.1 dX12_told_1 (by decide) ?_
  refine lv_idiv X.1 X.2.1 dX12_told_4 (by decide) ?_
  refine lv_topi (fun v_1 ev_1 => ?_)
  have z_2 : v_1.toInt = a3_z / 1000 := z_div ev_1 hz_a3 ti_1000 (by omega) (by omega)
  refine lv_istore (lv' := [(5, .int (v_1)), (0, .ref x), (1, .int (a1)), (2, .int (a2)), (3, .int (a3)), (4, .int (a4))]) X.1 X.2.1 dX12_told_5 hl (by decide) rfl (fun ls hl => ?_)
  refine lv_iload X.1 X.2.1 dX12_told_7 (lv_at hl 5 rfl) ?_
  by_cases w_3 : (a4).toInt < 0 ∨ 4 < (a4).toInt
  · refine lv_tableOut (tgt := 64) X.1 X.2.1 dX12_told_9 w_3 (by decide) ?_
    refine lv_iconst (v := 1) X.1 X.2.1 dX12_told_64 (by decide) ?_
    refine lv_istore (lv' := [(6, .int 1), (5, .int (v_1)), (0, .ref x), (1, .int (a1)), (2, .int (a2)), (3, .int (a3)), (4, .int (a4))]) X.1 X.2.1 dX12_told_65 hl (by decide) rfl (fun ls hl => ?_)
    have L_4 : ∀ (n : Nat) (H : Heap) (locs : List Loc) (ls : Array Slot) (i6_5 : Int32) (i6_5_z : Int), ((300 - i6_5_z).toNat = n) → (Wd G cy (AS S s.heap.size) s.heap S H locs) → (i6_5.toInt = i6_5_z) → (1 ≤ i6_5_z ∧ i6_5_z ≤ 300) → ((i6_5_z).toNat ≤ ruN sQ.2.2.2 z.1 a2_z.toNat) → (lv_has ls 7 [(6, .int (i6_5)), (5, .int (v_1)), (0, .ref x), (1, .int (a1)), (2, .int (a2)), (3, .int (a3)), (4, .int (a4))]) → W p l e ({ frames := 2, cells := 0, slots := 0, locals := 96 }) s m [.ref x, .int (a1), .int (a2), .int (a3), .int (a4)].toArray below meth c H locs 0 0 QQ (F0 m 67 ls []) := by
      intro n
      induction n using Nat.strongRecOn with
      | ind n ih_L_4 =>
      intro H locs ls i6_5 i6_5_z hn hw hz_i6_5 hr_i6_5 iv_6 hl
      have rg_7 : (-2147483648) ≤ i6_5_z ∧ i6_5_z ≤ 2147483647 := by rw [← hz_i6_5]; exact ⟨z_lo _, z_hi _⟩
      refine lv_iload_n X.1 X.2.1 dX12_told_67 rfl (lv_at hl 4 rfl) ?_
      refine lv_iload X.1 X.2.1 dX12_told_68 (lv_at hl 0 rfl) ?_
      refine lv_iadd X.1 X.2.1 dX12_told_70 ?_
      refine lv_topi (fun v_8 ev_8 => ?_)
      have z_9 : v_8.toInt = a2_z + i6_5_z := z_add ev_8 hz_a2 hz_i6_5 (by omega) (by omega)
      refine lv_aload_n X.1 X.2.1 dX12_told_71 rfl (lv_at hl 2 rfl) ?_
      refine lv_iload_n X.1 X.2.1 dX12_told_72 rfl (lv_at hl 3 rfl) ?_
      refine k_i (rm := { frames := 1, cells := 0, slots := 0, locals := 48 }) (av := [.ref x, .int (a1)]) X hw (va_runV (As := [.int (a1)]) (rest := [.int (v_8)]) (cfix X) (k_X12_metres l G cy κ S _ x (a1) (a1_z) hG ha_x hz_a1 (by first | assumption | omega) (by first | assumption | omega) (by first | assumption | omega) hp_3) (cwV 1 X.2.2.2.1 gX12_told_X12_metres rfl rfl rfl (by decide +kernel) ⟨Nat.le_of_ble_eq_true rfl, Nat.le_of_ble_eq_true rfl⟩) (pre_V X hw _ ha_x rfl (by decide) rfl) rfl rfl hl.1 rfl (lv_room (Nat.le_of_ble_eq_true rfl)) dX12_told_73 ⟨Nat.le_of_ble_eq_true rfl, Nat.le_of_ble_eq_true rfl⟩) 0 0 (Nat.le_of_ble_eq_true rfl) (Nat.le_of_ble_eq_true rfl) (fun rr_10 S_11 H locs hp hw hfr hnw => ?_)
      obtain ⟨e2, hp⟩ := hp
      subst e2
      obtain ⟨f_12, f_13, f_14⟩ := hp
      refine lv_icmp_ge (tgt := 106) X.1 X.2.1 dX12_told_76 (by decide) (fun c_15 => ?_) (fun c_15 => ?_)
      · have z_b_16 := trivial
        have k_17 : (a2_z + i6_5_z) ≥ rr_10.toInt := z_le rfl z_9 c_15
        refine lv_iload X.1 X.2.1 dX12_told_106 (lv_at hl 0 rfl) ?_
        rw [hQQ]
        exact ret_i X hw hr hlocks (Nat.le_of_ble_eq_true rfl) (Nat.le_of_ble_eq_true rfl) ⟨rfl, ⟨z_lo _, z_hi _, by have e1 : (i6_5).toInt = i6_5_z := hz_i6_5; have h : toF sQ.2.2.2 (z.1, a2_z.toNat, z.2) a4_z = ((ruN sQ.2.2.2 z.1 a2_z.toNat : Nat) : Int) := (if_neg (by omega)).trans ((if_neg (by omega)).trans ((if_neg (by omega)).trans (if_neg (by omega)))); have hr : ruN sQ.2.2.2 z.1 a2_z.toNat = (i6_5_z).toNat := ru_o iv_6 (by omega) (by omega); rw [h, hr, e1]; omega⟩⟩ dX12_told_108
      · have z_b_18 := trivial
        have k_19 : (a2_z + i6_5_z) < rr_10.toInt := z_nle rfl z_9 c_15
        refine lv_aload_n X.1 X.2.1 dX12_told_79 rfl (lv_at hl 2 rfl) ?_
        refine lv_aload_n X.1 X.2.1 dX12_told_80 rfl (lv_at hl 2 rfl) ?_
        obtain ⟨q_20, h_21, h_22, h_23⟩ := gQ_12_1239 hG ha_x
        refine r_getR (g := 1239) X hw ha_x rfl 39 h_21 (by decide) rfl inn_X12_told_12 (by decide) (X.2.2.2.1 (.fieldLink RX12 100 "SilkMillModel" "firstMetre" "[I") (by decide +kernel)) rfl (gv_1239 _ _) dX12_told_81 ?_
        refine lv_iload_n X.1 X.2.1 dX12_told_84 rfl (lv_at hl 3 rfl) ?_
        refine r_iald X hw h_22 rfl (by rw [h_23]; exact z_ix hz_a1 (by omega) (by omega)) dX12_told_85 ?_
        refine lv_topi (fun v_24 ev_24 => ?_)
        have z_25 := gE_994 hG h_22 (Int32.toNatClampNeg (a1)); rw [← ev_24] at z_25
        have ev_24 := ev_24.symm
        have zf_26 : zA S x 1239 (a1_z).toNat = v_24.toInt := (zA_of h_21 hz_a1 (by omega) ev_24)
        have zf_27 : zA S x 1239 (a1_z).toNat = v_24.toInt := (zA_of h_21 hz_a1 (by omega) ev_24)
        refine lv_iload_n X.1 X.2.1 dX12_told_86 rfl (lv_at hl 4 rfl) ?_
        refine lv_iadd X.1 X.2.1 dX12_told_87 ?_
        refine lv_topi (fun v_28 ev_28 => ?_)
        have z_29 : v_28.toInt = v_24.toInt + a2_z := z_add ev_28 rfl hz_a2 (by omega) (by omega)
        refine lv_iload X.1 X.2.1 dX12_told_88 (lv_at hl 0 rfl) ?_
        refine lv_iadd X.1 X.2.1 dX12_told_90 ?_
        refine lv_topi (fun v_30 ev_30 => ?_)
        have z_31 : v_30.toInt = (v_24.toInt + a2_z) + i6_5_z := z_add ev_30 z_29 hz_i6_5 (by omega) (by omega)
        refine lv_iload X.1 X.2.1 dX12_told_91 (lv_at hl 1 rfl) ?_
        obtain ⟨tp_32, ht_33⟩ : ∃ t, sQ.2.2.2[a2_z.toNat + (i6_5_z).toNat]? = some t := ⟨_, List.getElem?_eq_getElem (by omega)⟩
        refine k_i (rm := { frames := 1, cells := 0, slots := 0, locals := 48 }) (av := [.ref x, .int (v_30), .int (v_1)]) X hw (va_runV (As := [.int (v_30), .int (v_1)]) (rest := []) (cfix X) (k_X12_endOf8 l G cy κ S _ x (v_30) (((v_24.toInt + a2_z) + i6_5_z)) (v_1) ((a3_z / 1000)) tp_32 hG ha_x z_31 z_2 (by omega) (by omega) (by rw [show (((v_24.toInt + a2_z) + i6_5_z)).toNat = (zA S x 1239 a1_z.toNat).toNat + (a2_z.toNat + (i6_5_z).toNat) by omega]; exact hp_8.2.2 _ _ ht_33) (by omega)) (cwV 2 X.2.2.2.1 gX12_told_X12_endOf rfl rfl rfl (by decide +kernel) ⟨Nat.le_of_ble_eq_true rfl, Nat.le_of_ble_eq_true rfl⟩) (pre_V X hw _ ha_x rfl (by decide) rfl) rfl rfl hl.1 rfl (lv_room (Nat.le_of_ble_eq_true rfl)) dX12_told_93 ⟨Nat.le_of_ble_eq_true rfl, Nat.le_of_ble_eq_true rfl⟩) 0 0 (Nat.le_of_ble_eq_true rfl) (Nat.le_of_ble_eq_true rfl) (fun rr_34 S_35 H locs hp hw hfr hnw => ?_)
        obtain ⟨e2, hp⟩ := hp
        subst e2
        obtain ⟨eo_36, eo_37, eo_38, eo_39⟩ := hp
        have rg_40 := And.intro (z_lo rr_34) (z_hi rr_34)
        refine lv_iconst (v := (-1)) X.1 X.2.1 dX12_told_96 (by decide) ?_
        refine lv_icmp_eq (tgt := 106) X.1 X.2.1 dX12_told_97 (by decide) (fun c_41 => ?_) (fun c_41 => ?_)
        · have z_b_42 := trivial
          have k_43 : rr_34.toInt = (-1) := z_eq rfl ti_m1 c_41
          refine lv_iload X.1 X.2.1 dX12_told_106 (lv_at hl 0 rfl) ?_
          rw [hQQ]
          exact ret_i X hw hr hlocks (Nat.le_of_ble_eq_true rfl) (Nat.le_of_ble_eq_true rfl) ⟨rfl, ⟨z_lo _, z_hi _, by have e1 : (i6_5).toInt = i6_5_z := hz_i6_5; have h : toF sQ.2.2.2 (z.1, a2_z.toNat, z.2) a4_z = ((ruN sQ.2.2.2 z.1 a2_z.toNat : Nat) : Int) := (if_neg (by omega)).trans ((if_neg (by omega)).trans ((if_neg (by omega)).trans (if_neg (by omega)))); have hr : ruN sQ.2.2.2 z.1 a2_z.toNat = (i6_5_z).toNat := ru_n iv_6 ht_33 (Bool.eq_false_iff.mpr (fun h => eo_38 (by rw [show ((a3_z / 1000)).toNat = z.1 by omega]; exact h) (by omega))); rw [h, hr, e1]; omega⟩⟩ dX12_told_108
        · have z_b_44 := trivial
          have k_45 : rr_34.toInt ≠ (-1) := z_ne rfl ti_m1 c_41
          obtain ⟨x_46, ex_46⟩ : ∃ y : Int32, y = i6_5 + 1 := ⟨_, rfl⟩
          have z_47 : x_46.toInt = i6_5_z + 1 := z_add ex_46 hz_i6_5 ti_1 (by omega) (by omega)
          refine lv_iinc (v := x_46) (lv' := [(6, .int (x_46)), (5, .int (v_1)), (0, .ref x), (1, .int (a1)), (2, .int (a2)), (3, .int (a3)), (4, .int (a4))]) X.1 X.2.1 dX12_told_100 hl (k := 0) rfl (by rw [ex_46]; rfl) (by decide) rfl (fun ls hl => ?_)
          refine lv_goto (tgt := 67) X.1 X.2.1 dX12_told_103 (by decide) ?_
          exact ih_L_4 _ (by omega) _ _ _ (x_46) (x_46.toInt) rfl hw rfl (by omega) (by rw [show (x_46.toInt).toNat = (i6_5_z).toNat + 1 by omega]; exact ru_y iv_6 ht_33 ((Bool.not_eq_false _).mp (fun h => absurd (eo_39 (by rw [show ((a3_z / 1000)).toNat = z.1 by omega]; exact h)) (by omega)))) (lv_sub hl [0, 1, 2, 3, 4, 5, 6] rfl)
    exact L_4 _ _ _ _ (1) (1) rfl hw ti_1 (by omega) (by show (1 : Int).toNat ≤ _; exact hr1) (lv_sub hl [0, 1, 2, 3, 4, 5, 6] rfl)
  have w_3b : (a4).toInt = 0 ∨ (a4).toInt = 1 ∨ (a4).toInt = 2 ∨ (a4).toInt = 3 ∨ (a4).toInt = 4 := by omega
  rcases w_3b with w_3c | w_3c | w_3c | w_3c | w_3c
  · refine lv_tableIn (tgt := 44) X.1 X.2.1 dX12_told_9 (by omega) (by omega) (by rw [w_3c]; rfl) (by decide) ?_
    refine lv_iload X.1 X.2.1 dX12_told_44 (lv_at hl 0 rfl) ?_
    refine lv_bipush (v := 60) X.1 X.2.1 dX12_told_46 (by decide) ?_
    refine lv_idiv X.1 X.2.1 dX12_told_48 (by decide) ?_
    refine lv_topi (fun v_48 ev_48 => ?_)
    have z_49 : v_48.toInt = (a3_z / 1000) / 60 := z_div ev_48 z_2 ti_60 (by omega) (by omega)
    rw [hQQ]
    exact ret_i X hw hr hlocks (Nat.le_of_ble_eq_true rfl) (Nat.le_of_ble_eq_true rfl) ⟨rfl, ⟨z_lo _, z_hi _, by have e1 : (v_48).toInt = ((a3_z / 1000) / 60) := z_49; have h : toF sQ.2.2.2 (z.1, a2_z.toNat, z.2) a4_z = (z.1 : Int) / 60 := if_pos (by omega); rw [h, e1]; omega⟩⟩ dX12_told_49
  · refine lv_tableIn (tgt := 50) X.1 X.2.1 dX12_told_9 (by omega) (by omega) (by rw [w_3c]; rfl) (by decide) ?_
    refine lv_iload X.1 X.2.1 dX12_told_50 (lv_at hl 0 rfl) ?_
    refine lv_bipush (v := 60) X.1 X.2.1 dX12_told_52 (by decide) ?_
    refine lv_irem X.1 X.2.1 dX12_told_54 (by decide) ?_
    refine lv_topi (fun v_50 ev_50 => ?_)
    have z_51 : v_50.toInt = (a3_z / 1000) % 60 := z_rem ev_50 z_2 ti_60 (by omega) (by omega)
    have z_52 : 0 ≤ v_50.toInt ∧ v_50.toInt < 60 := by rw [z_51]; exact ⟨Int.emod_nonneg _ (by omega), Int.emod_lt_of_pos _ (by omega)⟩
    rw [hQQ]
    exact ret_i X hw hr hlocks (Nat.le_of_ble_eq_true rfl) (Nat.le_of_ble_eq_true rfl) ⟨rfl, ⟨z_lo _, z_hi _, by have e1 : (v_50).toInt = ((a3_z / 1000) % 60) := z_51; have h : toF sQ.2.2.2 (z.1, a2_z.toNat, z.2) a4_z = (z.1 : Int) % 60 := (if_neg (by omega)).trans (if_pos (by omega)); rw [h, e1]; omega⟩⟩ dX12_told_55
  · refine lv_tableIn (tgt := 56) X.1 X.2.1 dX12_told_9 (by omega) (by omega) (by rw [w_3c]; rfl) (by decide) ?_
    refine lv_iload_n X.1 X.2.1 dX12_told_56 rfl (lv_at hl 3 rfl) ?_
    rw [hQQ]
    exact ret_i X hw hr hlocks (Nat.le_of_ble_eq_true rfl) (Nat.le_of_ble_eq_true rfl) ⟨rfl, ⟨z_lo _, z_hi _, by have e1 : (a2).toInt = a2_z := hz_a2; have h : toF sQ.2.2.2 (z.1, a2_z.toNat, z.2) a4_z = ((a2_z.toNat : Nat) : Int) := (if_neg (by omega)).trans ((if_neg (by omega)).trans (if_pos (by omega))); rw [h, e1]; omega⟩⟩ dX12_told_57
  · refine lv_tableIn (tgt := 64) X.1 X.2.1 dX12_told_9 (by omega) (by omega) (by rw [w_3c]; rfl) (by decide) ?_
    refine lv_iconst (v := 1) X.1 X.2.1 dX12_told_64 (by decide) ?_
    refine lv_istore (lv' := [(6, .int 1), (5, .int (v_1)), (0, .ref x), (1, .int (a1)), (2, .int (a2)), (3, .int (a3)), (4, .int (a4))]) X.1 X.2.1 dX12_told_65 hl (by decide) rfl (fun ls hl => ?_)
    have L_53 : ∀ (n : Nat) (H : Heap) (locs : List Loc) (ls : Array Slot) (i6_54 : Int32) (i6_54_z : Int), ((300 - i6_54_z).toNat = n) → (Wd G cy (AS S s.heap.size) s.heap S H locs) → (i6_54.toInt = i6_54_z) → (1 ≤ i6_54_z ∧ i6_54_z ≤ 300) → ((i6_54_z).toNat ≤ ruN sQ.2.2.2 z.1 a2_z.toNat) → (lv_has ls 7 [(6, .int (i6_54)), (5, .int (v_1)), (0, .ref x), (1, .int (a1)), (2, .int (a2)), (3, .int (a3)), (4, .int (a4))]) → W p l e ({ frames := 2, cells := 0, slots := 0, locals := 96 }) s m [.ref x, .int (a1), .int (a2), .int (a3), .int (a4)].toArray below meth c H locs 0 0 QQ (F0 m 67 ls []) := by
      intro n
      induction n using Nat.strongRecOn with
      | ind n ih_L_53 =>
      intro H locs ls i6_54 i6_54_z hn hw hz_i6_54 hr_i6_54 iv_55 hl
      have rg_56 : (-2147483648) ≤ i6_54_z ∧ i6_54_z ≤ 2147483647 := by rw [← hz_i6_54]; exact ⟨z_lo _, z_hi _⟩
      refine lv_iload_n X.1 X.2.1 dX12_told_67 rfl (lv_at hl 4 rfl) ?_
      refine lv_iload X.1 X.2.1 dX12_told_68 (lv_at hl 0 rfl) ?_
      refine lv_iadd X.1 X.2.1 dX12_told_70 ?_
      refine lv_topi (fun v_57 ev_57 => ?_)
      have z_58 : v_57.toInt = a2_z + i6_54_z := z_add ev_57 hz_a2 hz_i6_54 (by omega) (by omega)
      refine lv_aload_n X.1 X.2.1 dX12_told_71 rfl (lv_at hl 2 rfl) ?_
      refine lv_iload_n X.1 X.2.1 dX12_told_72 rfl (lv_at hl 3 rfl) ?_
      refine k_i (rm := { frames := 1, cells := 0, slots := 0, locals := 48 }) (av := [.ref x, .int (a1)]) X hw (va_runV (As := [.int (a1)]) (rest := [.int (v_57)]) (cfix X) (k_X12_metres l G cy κ S _ x (a1) (a1_z) hG ha_x hz_a1 (by first | assumption | omega) (by first | assumption | omega) (by first | assumption | omega) hp_3) (cwV 1 X.2.2.2.1 gX12_told_X12_metres rfl rfl rfl (by decide +kernel) ⟨Nat.le_of_ble_eq_true rfl, Nat.le_of_ble_eq_true rfl⟩) (pre_V X hw _ ha_x rfl (by decide) rfl) rfl rfl hl.1 rfl (lv_room (Nat.le_of_ble_eq_true rfl)) dX12_told_73 ⟨Nat.le_of_ble_eq_true rfl, Nat.le_of_ble_eq_true rfl⟩) 0 0 (Nat.le_of_ble_eq_true rfl) (Nat.le_of_ble_eq_true rfl) (fun rr_59 S_60 H locs hp hw hfr hnw => ?_)
      obtain ⟨e2, hp⟩ := hp
      subst e2
      obtain ⟨f_61, f_62, f_63⟩ := hp
      refine lv_icmp_ge (tgt := 106) X.1 X.2.1 dX12_told_76 (by decide) (fun c_64 => ?_) (fun c_64 => ?_)
      · have z_b_65 := trivial
        have k_66 : (a2_z + i6_54_z) ≥ rr_59.toInt := z_le rfl z_58 c_64
        refine lv_iload X.1 X.2.1 dX12_told_106 (lv_at hl 0 rfl) ?_
        rw [hQQ]
        exact ret_i X hw hr hlocks (Nat.le_of_ble_eq_true rfl) (Nat.le_of_ble_eq_true rfl) ⟨rfl, ⟨z_lo _, z_hi _, by have e1 : (i6_54).toInt = i6_54_z := hz_i6_54; have h : toF sQ.2.2.2 (z.1, a2_z.toNat, z.2) a4_z = ((ruN sQ.2.2.2 z.1 a2_z.toNat : Nat) : Int) := (if_neg (by omega)).trans ((if_neg (by omega)).trans ((if_neg (by omega)).trans (if_neg (by omega)))); have hr : ruN sQ.2.2.2 z.1 a2_z.toNat = (i6_54_z).toNat := ru_o iv_55 (by omega) (by omega); rw [h, hr, e1]; omega⟩⟩ dX12_told_108
      · have z_b_67 := trivial
        have k_68 : (a2_z + i6_54_z) < rr_59.toInt := z_nle rfl z_58 c_64
        refine lv_aload_n X.1 X.2.1 dX12_told_79 rfl (lv_at hl 2 rfl) ?_
        refine lv_aload_n X.1 X.2.1 dX12_told_80 rfl (lv_at hl 2 rfl) ?_
        obtain ⟨q_69, h_70, h_71, h_72⟩ := gQ_12_1239 hG ha_x
        refine r_getR (g := 1239) X hw ha_x rfl 39 h_70 (by decide) rfl inn_X12_told_12 (by decide) (X.2.2.2.1 (.fieldLink RX12 100 "SilkMillModel" "firstMetre" "[I") (by decide +kernel)) rfl (gv_1239 _ _) dX12_told_81 ?_
        refine lv_iload_n X.1 X.2.1 dX12_told_84 rfl (lv_at hl 3 rfl) ?_
        refine r_iald X hw h_71 rfl (by rw [h_72]; exact z_ix hz_a1 (by omega) (by omega)) dX12_told_85 ?_
        refine lv_topi (fun v_73 ev_73 => ?_)
        have z_74 := gE_994 hG h_71 (Int32.toNatClampNeg (a1)); rw [← ev_73] at z_74
        have ev_73 := ev_73.symm
        have zf_75 : zA S x 1239 (a1_z).toNat = v_73.toInt := (zA_of h_70 hz_a1 (by omega) ev_73)
        have zf_76 : zA S x 1239 (a1_z).toNat = v_73.toInt := (zA_of h_70 hz_a1 (by omega) ev_73)
        refine lv_iload_n X.1 X.2.1 dX12_told_86 rfl (lv_at hl 4 rfl) ?_
        refine lv_iadd X.1 X.2.1 dX12_told_87 ?_
        refine lv_topi (fun v_77 ev_77 => ?_)
        have z_78 : v_77.toInt = v_73.toInt + a2_z := z_add ev_77 rfl hz_a2 (by omega) (by omega)
        refine lv_iload X.1 X.2.1 dX12_told_88 (lv_at hl 0 rfl) ?_
        refine lv_iadd X.1 X.2.1 dX12_told_90 ?_
        refine lv_topi (fun v_79 ev_79 => ?_)
        have z_80 : v_79.toInt = (v_73.toInt + a2_z) + i6_54_z := z_add ev_79 z_78 hz_i6_54 (by omega) (by omega)
        refine lv_iload X.1 X.2.1 dX12_told_91 (lv_at hl 1 rfl) ?_
        obtain ⟨tp_81, ht_82⟩ : ∃ t, sQ.2.2.2[a2_z.toNat + (i6_54_z).toNat]? = some t := ⟨_, List.getElem?_eq_getElem (by omega)⟩
        refine k_i (rm := { frames := 1, cells := 0, slots := 0, locals := 48 }) (av := [.ref x, .int (v_79), .int (v_1)]) X hw (va_runV (As := [.int (v_79), .int (v_1)]) (rest := []) (cfix X) (k_X12_endOf8 l G cy κ S _ x (v_79) (((v_73.toInt + a2_z) + i6_54_z)) (v_1) ((a3_z / 1000)) tp_81 hG ha_x z_80 z_2 (by omega) (by omega) (by rw [show (((v_73.toInt + a2_z) + i6_54_z)).toNat = (zA S x 1239 a1_z.toNat).toNat + (a2_z.toNat + (i6_54_z).toNat) by omega]; exact hp_8.2.2 _ _ ht_82) (by omega)) (cwV 2 X.2.2.2.1 gX12_told_X12_endOf rfl rfl rfl (by decide +kernel) ⟨Nat.le_of_ble_eq_true rfl, Nat.le_of_ble_eq_true rfl⟩) (pre_V X hw _ ha_x rfl (by decide) rfl) rfl rfl hl.1 rfl (lv_room (Nat.le_of_ble_eq_true rfl)) dX12_told_93 ⟨Nat.le_of_ble_eq_true rfl, Nat.le_of_ble_eq_true rfl⟩) 0 0 (Nat.le_of_ble_eq_true rfl) (Nat.le_of_ble_eq_true rfl) (fun rr_83 S_84 H locs hp hw hfr hnw => ?_)
        obtain ⟨e2, hp⟩ := hp
        subst e2
        obtain ⟨eo_85, eo_86, eo_87, eo_88⟩ := hp
        have rg_89 := And.intro (z_lo rr_83) (z_hi rr_83)
        refine lv_iconst (v := (-1)) X.1 X.2.1 dX12_told_96 (by decide) ?_
        refine lv_icmp_eq (tgt := 106) X.1 X.2.1 dX12_told_97 (by decide) (fun c_90 => ?_) (fun c_90 => ?_)
        · have z_b_91 := trivial
          have k_92 : rr_83.toInt = (-1) := z_eq rfl ti_m1 c_90
          refine lv_iload X.1 X.2.1 dX12_told_106 (lv_at hl 0 rfl) ?_
          rw [hQQ]
          exact ret_i X hw hr hlocks (Nat.le_of_ble_eq_true rfl) (Nat.le_of_ble_eq_true rfl) ⟨rfl, ⟨z_lo _, z_hi _, by have e1 : (i6_54).toInt = i6_54_z := hz_i6_54; have h : toF sQ.2.2.2 (z.1, a2_z.toNat, z.2) a4_z = ((ruN sQ.2.2.2 z.1 a2_z.toNat : Nat) : Int) := (if_neg (by omega)).trans ((if_neg (by omega)).trans ((if_neg (by omega)).trans (if_neg (by omega)))); have hr : ruN sQ.2.2.2 z.1 a2_z.toNat = (i6_54_z).toNat := ru_n iv_55 ht_82 (Bool.eq_false_iff.mpr (fun h => eo_87 (by rw [show ((a3_z / 1000)).toNat = z.1 by omega]; exact h) (by omega))); rw [h, hr, e1]; omega⟩⟩ dX12_told_108
        · have z_b_93 := trivial
          have k_94 : rr_83.toInt ≠ (-1) := z_ne rfl ti_m1 c_90
          obtain ⟨x_95, ex_95⟩ : ∃ y : Int32, y = i6_54 + 1 := ⟨_, rfl⟩
          have z_96 : x_95.toInt = i6_54_z + 1 := z_add ex_95 hz_i6_54 ti_1 (by omega) (by omega)
          refine lv_iinc (v := x_95) (lv' := [(6, .int (x_95)), (5, .int (v_1)), (0, .ref x), (1, .int (a1)), (2, .int (a2)), (3, .int (a3)), (4, .int (a4))]) X.1 X.2.1 dX12_told_100 hl (k := 0) rfl (by rw [ex_95]; rfl) (by decide) rfl (fun ls hl => ?_)
          refine lv_goto (tgt := 67) X.1 X.2.1 dX12_told_103 (by decide) ?_
          exact ih_L_53 _ (by omega) _ _ _ (x_95) (x_95.toInt) rfl hw rfl (by omega) (by rw [show (x_95.toInt).toNat = (i6_54_z).toNat + 1 by omega]; exact ru_y iv_55 ht_82 ((Bool.not_eq_false _).mp (fun h => absurd (eo_88 (by rw [show ((a3_z / 1000)).toNat = z.1 by omega]; exact h)) (by omega)))) (lv_sub hl [0, 1, 2, 3, 4, 5, 6] rfl)
    exact L_53 _ _ _ _ (1) (1) rfl hw ti_1 (by omega) (by show (1 : Int).toNat ≤ _; exact hr1) (lv_sub hl [0, 1, 2, 3, 4, 5, 6] rfl)
  · refine lv_tableIn (tgt := 58) X.1 X.2.1 dX12_told_9 (by omega) (by omega) (by rw [w_3c]; rfl) (by decide) ?_
    refine lv_iload_n X.1 X.2.1 dX12_told_58 rfl (lv_at hl 4 rfl) ?_
    refine lv_sipush (v := 1000) X.1 X.2.1 dX12_told_59 (by decide) ?_
    refine lv_irem X.1 X.2.1 dX12_told_62 (by decide) ?_
    refine lv_topi (fun v_97 ev_97 => ?_)
    have z_98 : v_97.toInt = a3_z % 1000 := z_rem ev_97 hz_a3 ti_1000 (by omega) (by omega)
    have z_99 : 0 ≤ v_97.toInt ∧ v_97.toInt < 1000 := by rw [z_98]; exact ⟨Int.emod_nonneg _ (by omega), Int.emod_lt_of_pos _ (by omega)⟩
    rw [hQQ]
    exact ret_i X hw hr hlocks (Nat.le_of_ble_eq_true rfl) (Nat.le_of_ble_eq_true rfl) ⟨rfl, ⟨z_lo _, z_hi _, by have e1 : (v_97).toInt = (a3_z % 1000) := z_98; have h : toF sQ.2.2.2 (z.1, a2_z.toNat, z.2) a4_z = z.2.toInt := (if_neg (by omega)).trans ((if_neg (by omega)).trans ((if_neg (by omega)).trans (if_pos (by omega)))); rw [h, e1]; omega⟩⟩ dX12_told_63
set_option maxHeartbeats 4000000 in
set_option maxRecDepth 100000 in
theorem k_X12_piece8 (l : Launch) (G : va_G) (cy : Nat → ClassId) (κ : Nat → Nat) (S : PS) (sz : Nat) (x : Nat) (a1 : Int32) (a1_z : Int) (a2 : Int32) (a2_z : Int) (a3 : Int32) (a3_z : Int) (Ls : List Sk) (hG : GX S) (ha_x : At S x 12) (hz_a1 : a1.toInt = a1_z) (hz_a2 : a2.toInt = a2_z) (hz_a3 : a3.toInt = a3_z) (hp_0 : MI S x) (hp_1 : SkW S x Ls) : Ci l yX12_piece wsX12_piece ({ frames := 3, cells := 0, slots := 0, locals := 144 }) G cy κ S sz [.ref x, .int (a1), .int (a2), .int (a3)] (fun (r : Int32) (S9 : PS) => Ok MN S S9 ∧ (-2147483648 ≤ r.toInt ∧ r.toInt ≤ 2147483647 ∧ (∀ s p, 0 ≤ a1_z → Ls[a1_z.toNat]? = some s → 0 ≤ a2_z → (pcs s.2.2.2)[a2_z.toNat]? = some p → 0 ≤ a3_z → a3_z ≤ 4 → r.toInt = toF s.2.2.2 p a3_z) ∧ (¬ PcI Ls a1_z a2_z a3_z → r.toInt = -1))) := by
  refine ent_m (cc := cX12_piece) (maxL := 7) (ret := (some .int)) (by decide) rfl (Nat.le_of_ble_eq_true rfl) ?_
  intro p e s m below meth c ls X hr hlocks hin hw hl hsz
  subst hsz
  have X : Cx p c cX12_piece 7 s [.ref x, .int (a1), .int (a2), .int (a3)].toArray wsX12_piece RX12 m G cy κ (AS S s.heap.size) := X
  have hl : lv_has ls 7 [(0, .ref x), (1, .int (a1)), (2, .int (a2)), (3, .int (a3))] := hl
  have rg_a1 : (-2147483648) ≤ a1_z ∧ a1_z ≤ 2147483647 := by rw [← hz_a1]; exact ⟨z_lo _, z_hi _⟩
  have rg_a2 : (-2147483648) ≤ a2_z ∧ a2_z ≤ 2147483647 := by rw [← hz_a2]; exact ⟨z_lo _, z_hi _⟩
  have rg_a3 : (-2147483648) ≤ a3_z ∧ a3_z ≤ 2147483647 := by rw [← hz_a3]; exact ⟨z_lo _, z_hi _⟩
  have hO : Ok MN S S := Ok.rf hG
  generalize hQQ : MQ below _ _ _ _ _ _ = QQ
  replace hQQ := hQQ.symm
  obtain ⟨v_1, ev_1⟩ : ∃ v, pI S 1238 x = v := ⟨_, rfl⟩
  have rg_2 := gI_12_1238 hO.1 ha_x; rw [ev_1] at rg_2
  have pz_3 : (pI S 1238 x).toInt = v_1.toInt := by rw [ev_1]
  have pz_4 : (pI S 1238 x).toInt = v_1.toInt := (congrArg Int32.toInt ev_1).trans rfl
  refine lv_aload_n X.1 X.2.1 dX12_piece_0 rfl (lv_at hl 0 rfl) ?_
  refine lv_iconst (v := 0) X.1 X.2.1 dX12_piece_1 (by decide) ?_
  refine r_putI (v := 0) X hw ha_x rfl 0 1200 tyX12 (by decide) rfl inn_X12_piece_12 tyX12_ok nmX12 (by decide) (X.2.2.2.1 (.fieldLink RX12 161 "SilkMillModel" "thrown" "I") (by decide +kernel)) rfl (Or.inl rfl) rfl rfl (Nat.le_of_ble_eq_true rfl) (st_1200 _ _) dX12_piece_2 (fun H locs hw => ?_)
  obtain ⟨S_5, eS_5⟩ : ∃ T, T = sI S 1200 x (0) := ⟨_, rfl⟩
  rw [← eS_5] at hw
  have hO_6 : Ok MN S S_5 := hO.sI eS_5 (by decide +kernel) (uI_12_1200 hO.1 ha_x)
  have h_7 : pI S_5 1200 x = 0 := tI_sIs eS_5
  have t_8 : pI S_5 1238 x = v_1 := tI_sI eS_5 rfl ev_1
  have pz_9 : (pI S_5 1238 x).toInt = v_1.toInt := (congrArg Int32.toInt t_8).trans rfl
  have sw_10 : SkW S_5 x Ls := SkW_n (by rw [eS_5, pI_sI_nf (by decide)]) ⟨zA_sI eS_5, zA_sI eS_5, zA_sI eS_5, zA_sI eS_5, zA_sI eS_5, zA_sI eS_5⟩ hp_1
  have hkl := sw_10.1
  refine lv_aload_n X.1 X.2.1 dX12_piece_5 rfl (lv_at hl 0 rfl) ?_
  refine lv_iload_n X.1 X.2.1 dX12_piece_6 rfl (lv_at hl 1 rfl) ?_
  have pz_11 : (pI S_5 1238 x).toInt = v_1.toInt := (congrArg Int32.toInt t_8).trans rfl
  have t_12 : At S_5 x 12 := tAt_sI eS_5 ha_x
  refine k_i (rm := { frames := 2, cells := 0, slots := 0, locals := 96 }) (av := [.ref x, .int (a1)]) X hw (va_runV (As := [.int (a1)]) (rest := []) (cfix X) (k_X12_isSkein7 l G cy κ S_5 _ x (a1) (a1_z) hO_6.1 t_12 hz_a1) (cwV 1 X.2.2.2.1 gX12_piece_X12_isSkein rfl rfl rfl (by decide +kernel) ⟨Nat.le_of_ble_eq_true rfl, Nat.le_of_ble_eq_true rfl⟩) (pre_V X hw _ t_12 rfl (by decide) rfl) rfl rfl hl.1 rfl (lv_room (Nat.le_of_ble_eq_true rfl)) dX12_piece_7 ⟨Nat.le_of_ble_eq_true rfl, Nat.le_of_ble_eq_true rfl⟩) 0 0 (Nat.le_of_ble_eq_true rfl) (Nat.le_of_ble_eq_true rfl) (fun rr_13 S_14 H locs hp hw hfr hnw => ?_)
  obtain ⟨e2, hp⟩ := hp
  subst e2
  rcases hp with ⟨f_15, er_16⟩ | ⟨f_15, er_16⟩ <;> subst er_16
  · have z_b_17 := trivial
    refine lv_if_eq (tgt := 26) X.1 X.2.1 dX12_piece_10 (by decide) (fun c_18 => absurd c_18 (by decide)) (fun c_18 => ?_)
    refine lv_iload_n X.1 X.2.1 dX12_piece_13 rfl (lv_at hl 2 rfl) ?_
    refine lv_if_lt (tgt := 26) X.1 X.2.1 dX12_piece_14 (by decide) (fun c_19 => ?_) (fun c_19 => ?_)
    · have z_b_20 := trivial
      have k_21 : a2_z < 0 := z_lt hz_a2 ti_0 c_19
      refine lv_iconst (v := (-1)) X.1 X.2.1 dX12_piece_26 (by decide) ?_
      rw [hQQ]
      exact ret_i X hw hr hlocks (Nat.le_of_ble_eq_true rfl) (Nat.le_of_ble_eq_true rfl) ⟨hO_6, ⟨z_lo _, z_hi _, fun s p h0 h1 h2 h3 h4 h5 => (by exfalso; have := (List.getElem?_eq_some_iff.mp h1).1; omega), fun _ => by decide⟩⟩ dX12_piece_27
    · have z_b_22 := trivial
      have k_23 : a2_z ≥ 0 := z_nlt hz_a2 ti_0 c_19
      refine lv_iload_n X.1 X.2.1 dX12_piece_17 rfl (lv_at hl 3 rfl) ?_
      refine lv_iconst (v := 0) X.1 X.2.1 dX12_piece_18 (by decide) ?_
      refine lv_iconst (v := 4) X.1 X.2.1 dX12_piece_19 (by decide) ?_
      refine k_i (rm := { frames := 1, cells := 0, slots := 0, locals := 48 }) (av := [.int (a3), .int 0, .int 4]) X hw (va_runS (As := [.int (a3), .int 0, .int 4]) (rest := []) (cfix X) (k_X12_within l G cy κ S_5 _ (a3) (a3_z) (0) (0) (4) (4) hO_6.1 hz_a3 ti_0 ti_4) (cwS 3 X.2.2.2.1 gX12_piece_X12_within rfl rfl rfl (by decide +kernel) ⟨Nat.le_of_ble_eq_true rfl, Nat.le_of_ble_eq_true rfl⟩) (pre_S X hw _) rfl rfl hl.1 rfl (lv_room (Nat.le_of_ble_eq_true rfl)) dX12_piece_20 ⟨Nat.le_of_ble_eq_true rfl, Nat.le_of_ble_eq_true rfl⟩) 0 0 (Nat.le_of_ble_eq_true rfl) (Nat.le_of_ble_eq_true rfl) (fun rr_24 S_25 H locs hp hw hfr hnw => ?_)
      obtain ⟨e2, hp⟩ := hp
      subst e2
      rcases hp with ⟨f_26, er_27⟩ | ⟨f_26, er_27⟩ <;> subst er_27
      · have z_b_28 := trivial
        refine lv_if_ne (tgt := 28) X.1 X.2.1 dX12_piece_23 (by decide) (fun c_29 => ?_) (fun c_29 => absurd c_29 (by decide))
        have pz_30 : (pI S_5 1238 x).toInt = v_1.toInt := (congrArg Int32.toInt t_8).trans rfl
        obtain ⟨sQ, hsQ⟩ : ∃ s, Ls[a1_z.toNat]? = some s := ⟨_, List.getElem?_eq_getElem (by omega)⟩
        have hsR := sw_10.2 _ _ hsQ
        have hsl := hsR.2.1
        have hsn : zA S_5 x 1239 (a1_z + 1).toNat = zA S_5 x 1239 (a1_z.toNat + 1) := by rw [show (a1_z + 1).toNat = a1_z.toNat + 1 by omega]
        have hz39 := z1239 hO_6.1 t_12 a1_z.toNat
        have hz40 := z1239 hO_6.1 t_12 (a1_z.toNat + 1)
        refine lv_iload_n X.1 X.2.1 dX12_piece_28 rfl (lv_at hl 2 rfl) ?_
        refine lv_istore (lv' := [(4, .int (a2)), (0, .ref x), (1, .int (a1)), (2, .int (a2)), (3, .int (a3))]) X.1 X.2.1 dX12_piece_29 hl (by decide) rfl (fun ls hl => ?_)
        refine lv_iconst (v := 0) X.1 X.2.1 dX12_piece_31 (by decide) ?_
        refine lv_istore (lv' := [(5, .int 0), (4, .int (a2)), (0, .ref x), (1, .int (a1)), (2, .int (a2)), (3, .int (a3))]) X.1 X.2.1 dX12_piece_32 hl (by decide) rfl (fun ls hl => ?_)
        have L_31 : ∀ (n : Nat) (H : Heap) (locs : List Loc) (ls : Array Slot) (i4_32 : Int32) (i4_32_z : Int) (i5_33 : Int32) (i5_33_z : Int), ((300 - i5_33_z).toNat = n) → (Wd G cy (AS S s.heap.size) s.heap S_5 H locs) → (i4_32.toInt = i4_32_z) → (0 ≤ i4_32_z ∧ i4_32_z ≤ 2147483647) → (i5_33.toInt = i5_33_z) → (0 ≤ i5_33_z ∧ i5_33_z ≤ 300) → (a2_z = i4_32_z + ((pcs (sQ.2.2.2.take (i5_33_z).toNat)).length : Int)) → (i5_33_z ≤ (sQ.2.2.2.length : Int)) → (lv_has ls 7 [(4, .int (i4_32)), (5, .int (i5_33)), (0, .ref x), (1, .int (a1)), (2, .int (a2)), (3, .int (a3))]) → W p l e ({ frames := 3, cells := 0, slots := 0, locals := 144 }) s m [.ref x, .int (a1), .int (a2), .int (a3)].toArray below meth c H locs 0 0 QQ (F0 m 34 ls []) := by
          intro n
          induction n using Nat.strongRecOn with
          | ind n ih_L_31 =>
          intro H locs ls i4_32 i4_32_z i5_33 i5_33_z hn hw hz_i4_32 hr_i4_32 hz_i5_33 hr_i5_33 iv_34 iv_35 hl
          have rg_36 : (-2147483648) ≤ i4_32_z ∧ i4_32_z ≤ 2147483647 := by rw [← hz_i4_32]; exact ⟨z_lo _, z_hi _⟩
          have rg_37 : (-2147483648) ≤ i5_33_z ∧ i5_33_z ≤ 2147483647 := by rw [← hz_i5_33]; exact ⟨z_lo _, z_hi _⟩
          refine lv_iload X.1 X.2.1 dX12_piece_34 (lv_at hl 1 rfl) ?_
          refine lv_aload_n X.1 X.2.1 dX12_piece_36 rfl (lv_at hl 2 rfl) ?_
          refine lv_iload_n X.1 X.2.1 dX12_piece_37 rfl (lv_at hl 3 rfl) ?_
          refine k_i (rm := { frames := 1, cells := 0, slots := 0, locals := 48 }) (av := [.ref x, .int (a1)]) X hw (va_runV (As := [.int (a1)]) (rest := [.int (i5_33)]) (cfix X) (k_X12_metres l G cy κ S_5 _ x (a1) (a1_z) hO_6.1 t_12 hz_a1 (by first | assumption | omega) (by first | assumption | omega) (by first | assumption | omega) (MIe_free hG ha_x hO_6.fr (by decide +kernel) hp_0)) (cwV 1 X.2.2.2.1 gX12_piece_X12_metres rfl rfl rfl (by decide +kernel) ⟨Nat.le_of_ble_eq_true rfl, Nat.le_of_ble_eq_true rfl⟩) (pre_V X hw _ t_12 rfl (by decide) rfl) rfl rfl hl.1 rfl (lv_room (Nat.le_of_ble_eq_true rfl)) dX12_piece_38 ⟨Nat.le_of_ble_eq_true rfl, Nat.le_of_ble_eq_true rfl⟩) 0 0 (Nat.le_of_ble_eq_true rfl) (Nat.le_of_ble_eq_true rfl) (fun rr_38 S_39 H locs hp hw hfr hnw => ?_)
          obtain ⟨e2, hp⟩ := hp
          subst e2
          obtain ⟨f_40, f_41, f_42⟩ := hp
          refine lv_icmp_ge (tgt := 130) X.1 X.2.1 dX12_piece_41 (by decide) (fun c_43 => ?_) (fun c_43 => ?_)
          · have z_b_44 := trivial
            have k_45 : i5_33_z ≥ rr_38.toInt := z_le rfl hz_i5_33 c_43
            refine lv_iconst (v := (-1)) X.1 X.2.1 dX12_piece_130 (by decide) ?_
            have no_46 : (pcs sQ.2.2.2)[a2_z.toNat]? = none := by
              have e := iv_34
              rw [List.take_of_length_le (by omega)] at e
              exact List.getElem?_eq_none (by omega)
            rw [hQQ]
            exact ret_i X hw hr hlocks (Nat.le_of_ble_eq_true rfl) (Nat.le_of_ble_eq_true rfl) ⟨hO_6, ⟨z_lo _, z_hi _, fun s p h0 h1 h2 h3 h4 h5 => (by rw [hsQ] at h1; cases h1; rw [no_46] at h3; cases h3), fun _ => by decide⟩⟩ dX12_piece_131
          · have z_b_47 := trivial
            have k_48 : i5_33_z < rr_38.toInt := z_nle rfl hz_i5_33 c_43
            obtain ⟨tm_49, ht_50⟩ : ∃ t, sQ.2.2.2[(i5_33_z).toNat]? = some t := ⟨_, List.getElem?_eq_getElem (by omega)⟩
            have hm_51 := hsR.2.2 _ _ ht_50
            have hw_52 := MtR_w hO_6.1 t_12 hm_51
            have hl_53 := hm_51.1
            refine lv_iconst (v := 0) X.1 X.2.1 dX12_piece_44 (by decide) ?_
            refine lv_istore (lv' := [(6, .int 0), (4, .int (i4_32)), (5, .int (i5_33)), (0, .ref x), (1, .int (a1)), (2, .int (a2)), (3, .int (a3))]) X.1 X.2.1 dX12_piece_45 hl (by decide) rfl (fun ls hl => ?_)
            have L_54 : ∀ (n : Nat) (H : Heap) (locs : List Loc) (ls : Array Slot) (i4_55 : Int32) (i4_55_z : Int) (i6_56 : Int32) (i6_56_z : Int), ((12 - i6_56_z).toNat = n) → (Wd G cy (AS S s.heap.size) s.heap S_5 H locs) → (i4_55.toInt = i4_55_z) → (0 ≤ i4_55_z ∧ i4_55_z ≤ 2147483647) → (i6_56.toInt = i6_56_z) → (0 ≤ i6_56_z ∧ i6_56_z ≤ 12) → (a2_z = i4_55_z + (((pcs (sQ.2.2.2.take (i5_33_z).toNat)).length : Int) + ((bgL sQ.2.2.2 (i5_33_z).toNat (tm_49.take (i6_56_z).toNat)).length : Int))) → (i6_56_z ≤ (tm_49.length : Int)) → (lv_has ls 7 [(4, .int (i4_55)), (6, .int (i6_56)), (5, .int (i5_33)), (0, .ref x), (1, .int (a1)), (2, .int (a2)), (3, .int (a3))]) → W p l e ({ frames := 3, cells := 0, slots := 0, locals := 144 }) s m [.ref x, .int (a1), .int (a2), .int (a3)].toArray below meth c H locs 0 0 QQ (F0 m 47 ls []) := by
              intro n
              induction n using Nat.strongRecOn with
              | ind n ih_L_54 =>
              intro H locs ls i4_55 i4_55_z i6_56 i6_56_z hn hw hz_i4_55 hr_i4_55 hz_i6_56 hr_i6_56 iv_57 iv_58 hl
              have rg_59 : (-2147483648) ≤ i4_55_z ∧ i4_55_z ≤ 2147483647 := by rw [← hz_i4_55]; exact ⟨z_lo _, z_hi _⟩
              have rg_60 : (-2147483648) ≤ i6_56_z ∧ i6_56_z ≤ 2147483647 := by rw [← hz_i6_56]; exact ⟨z_lo _, z_hi _⟩
              refine lv_iload X.1 X.2.1 dX12_piece_47 (lv_at hl 1 rfl) ?_
              refine lv_aload_n X.1 X.2.1 dX12_piece_49 rfl (lv_at hl 3 rfl) ?_
              obtain ⟨q_61, h_62, h_63, h_64⟩ := gQ_12_1235 hO_6.1 t_12
              refine r_getR (g := 1235) X hw t_12 rfl 35 h_62 (by decide) rfl inn_X12_piece_12 (by decide) (X.2.2.2.1 (.fieldLink RX12 90 "SilkMillModel" "metreEnds" "[I") (by decide +kernel)) rfl (gv_1235 _ _) dX12_piece_50 ?_
              refine lv_aload_n X.1 X.2.1 dX12_piece_53 rfl (lv_at hl 3 rfl) ?_
              obtain ⟨q_65, h_66, h_67, h_68⟩ := gQ_12_1239 hO_6.1 t_12
              refine r_getR (g := 1239) X hw t_12 rfl 39 h_66 (by decide) rfl inn_X12_piece_12 (by decide) (X.2.2.2.1 (.fieldLink RX12 100 "SilkMillModel" "firstMetre" "[I") (by decide +kernel)) rfl (gv_1239 _ _) dX12_piece_54 ?_
              refine lv_iload_n X.1 X.2.1 dX12_piece_57 rfl (lv_at hl 4 rfl) ?_
              refine r_iald X hw h_67 rfl (by rw [h_68]; exact z_ix hz_a1 (by omega) (by omega)) dX12_piece_58 ?_
              refine lv_topi (fun v_69 ev_69 => ?_)
              have z_70 := gE_994 hO_6.1 h_67 (Int32.toNatClampNeg (a1)); rw [← ev_69] at z_70
              have ev_69 := ev_69.symm
              have zf_71 : zA S_5 x 1239 (a1_z).toNat = v_69.toInt := (zA_of h_66 hz_a1 (by omega) ev_69)
              refine lv_iload X.1 X.2.1 dX12_piece_59 (lv_at hl 2 rfl) ?_
              refine lv_iadd X.1 X.2.1 dX12_piece_61 ?_
              refine lv_topi (fun v_72 ev_72 => ?_)
              have z_73 : v_72.toInt = v_69.toInt + i5_33_z := z_add ev_72 rfl hz_i5_33 (by omega) (by omega)
              refine r_iald X hw h_63 rfl (by rw [h_64]; exact z_ix z_73 (by omega) (by omega)) dX12_piece_62 ?_
              refine lv_topi (fun v_74 ev_74 => ?_)
              have z_75 := gE_914 hO_6.1 h_63 (Int32.toNatClampNeg (v_72)); rw [← ev_74] at z_75
              have ev_74 := ev_74.symm
              have zf_76 : zA S_5 x 1235 ((v_69.toInt + i5_33_z)).toNat = v_74.toInt := (zA_of h_62 z_73 (by omega) ev_74)
              have el_77 : v_74.toInt = (tm_49.length : Int) := by rw [← hm_51.1, ← zf_76]; congr 1; omega
              refine lv_icmp_ge (tgt := 124) X.1 X.2.1 dX12_piece_63 (by decide) (fun c_78 => ?_) (fun c_78 => ?_)
              · have z_b_79 := trivial
                have k_80 : i6_56_z ≥ v_74.toInt := z_le rfl hz_i6_56 c_78
                obtain ⟨x_81, ex_81⟩ : ∃ y : Int32, y = i5_33 + 1 := ⟨_, rfl⟩
                have z_82 : x_81.toInt = i5_33_z + 1 := z_add ex_81 hz_i5_33 ti_1 (by omega) (by omega)
                refine lv_iinc (v := x_81) (lv' := [(5, .int (x_81)), (4, .int (i4_55)), (6, .int (i6_56)), (0, .ref x), (1, .int (a1)), (2, .int (a2)), (3, .int (a3))]) X.1 X.2.1 dX12_piece_124 hl (k := 2) rfl (by rw [ex_81]; rfl) (by decide) rfl (fun ls hl => ?_)
                refine lv_goto (tgt := 34) X.1 X.2.1 dX12_piece_127 (by decide) ?_
                exact ih_L_31 _ (by omega) _ _ _ (i4_55) (i4_55_z) (x_81) (x_81.toInt) rfl hw hz_i4_55 (by omega) rfl (by omega) (by have e := iv_57; rw [show tm_49.take (i6_56_z).toNat = tm_49 from List.take_of_length_le (by omega)] at e; rw [show (x_81.toInt).toNat = (i5_33_z).toNat + 1 by omega, pcs_t ht_50, List.length_append]; omega) (by omega) (lv_sub hl [1, 0, 3, 4, 5, 6] rfl)
              · have z_b_83 := trivial
                have k_84 : i6_56_z < v_74.toInt := z_nle rfl hz_i6_56 c_78
                refine lv_aload_n X.1 X.2.1 dX12_piece_66 rfl (lv_at hl 3 rfl) ?_
                refine lv_iload_n X.1 X.2.1 dX12_piece_67 rfl (lv_at hl 4 rfl) ?_
                refine lv_iload X.1 X.2.1 dX12_piece_68 (lv_at hl 2 rfl) ?_
                refine lv_iload X.1 X.2.1 dX12_piece_70 (lv_at hl 1 rfl) ?_
                obtain ⟨z_85, hz_86⟩ : ∃ z, tm_49[(i6_56_z).toNat]? = some z := ⟨_, List.getElem?_eq_getElem (by omega)⟩
                refine k_i (rm := { frames := 2, cells := 0, slots := 0, locals := 96 }) (av := [.ref x, .int (a1), .int (i5_33), .int (i6_56)]) X hw (va_runV (As := [.int (a1), .int (i5_33), .int (i6_56)]) (rest := []) (cfix X) (k_X12_begins8 l G cy κ S_5 _ x (a1) (a1_z) (i5_33) (i5_33_z) (i6_56) (i6_56_z) sQ tm_49 z_85 hO_6.1 t_12 hz_a1 hz_i5_33 hz_i6_56 (by first | assumption | omega) (by first | assumption | omega) (by first | assumption | omega) (MIe_free hG ha_x hO_6.fr (by decide +kernel) hp_0) (by omega) (by omega) (by omega) (by omega) hsR ht_50 hz_86) (cwV 3 X.2.2.2.1 gX12_piece_X12_begins rfl rfl rfl (by decide +kernel) ⟨Nat.le_of_ble_eq_true rfl, Nat.le_of_ble_eq_true rfl⟩) (pre_V X hw _ t_12 rfl (by decide) rfl) rfl rfl hl.1 rfl (lv_room (Nat.le_of_ble_eq_true rfl)) dX12_piece_72 ⟨Nat.le_of_ble_eq_true rfl, Nat.le_of_ble_eq_true rfl⟩) 0 0 (Nat.le_of_ble_eq_true rfl) (Nat.le_of_ble_eq_true rfl) (fun rr_87 S_88 H locs hp hw hfr hnw => ?_)
                obtain ⟨e2, hp⟩ := hp
                subst e2
                rcases hp with ⟨f_89, er_90⟩ | ⟨f_89, er_90⟩ <;> subst er_90
                · have z_b_91 := trivial
                  refine lv_if_ne (tgt := 81) X.1 X.2.1 dX12_piece_75 (by decide) (fun c_92 => ?_) (fun c_92 => absurd c_92 (by decide))
                  refine lv_iload X.1 X.2.1 dX12_piece_81 (lv_at hl 0 rfl) ?_
                  refine lv_if_ne (tgt := 115) X.1 X.2.1 dX12_piece_83 (by decide) (fun c_93 => ?_) (fun c_93 => ?_)
                  · have z_b_94 := trivial
                    have k_95 : i4_55_z ≠ 0 := z_ne hz_i4_55 ti_0 c_93
                    obtain ⟨x_96, ex_96⟩ : ∃ y : Int32, y = i4_55 + (-1) := ⟨_, rfl⟩
                    have z_97 : x_96.toInt = i4_55_z + (-1) := z_add ex_96 hz_i4_55 ti_m1 (by omega) (by omega)
                    refine lv_iinc (v := x_96) (lv' := [(4, .int (x_96)), (6, .int (i6_56)), (5, .int (i5_33)), (0, .ref x), (1, .int (a1)), (2, .int (a2)), (3, .int (a3))]) X.1 X.2.1 dX12_piece_115 hl (k := 0) rfl (by rw [ex_96]; rfl) (by decide) rfl (fun ls hl => ?_)
                    obtain ⟨x_98, ex_98⟩ : ∃ y : Int32, y = i6_56 + 1 := ⟨_, rfl⟩
                    have z_99 : x_98.toInt = i6_56_z + 1 := z_add ex_98 hz_i6_56 ti_1 (by omega) (by omega)
                    refine lv_iinc (v := x_98) (lv' := [(6, .int (x_98)), (4, .int (x_96)), (5, .int (i5_33)), (0, .ref x), (1, .int (a1)), (2, .int (a2)), (3, .int (a3))]) X.1 X.2.1 dX12_piece_118 hl (k := 1) rfl (by rw [ex_98]; rfl) (by decide) rfl (fun ls hl => ?_)
                    refine lv_goto (tgt := 47) X.1 X.2.1 dX12_piece_121 (by decide) ?_
                    exact ih_L_54 _ (by omega) _ _ _ (x_96) (x_96.toInt) (x_98) (x_98.toInt) rfl hw rfl (by omega) rfl (by omega) (by have e := iv_57; rw [show (x_98.toInt).toNat = (i6_56_z).toNat + 1 by omega, bgL_y hz_86 f_89, List.length_append, List.length_singleton]; omega) (by omega) (lv_sub hl [1, 0, 2, 3, 4, 5, 6] rfl)
                  · have z_b_100 := trivial
                    have k_101 : i4_55_z = 0 := z_eq hz_i4_55 ti_0 c_93
                    refine lv_aload_n X.1 X.2.1 dX12_piece_86 rfl (lv_at hl 3 rfl) ?_
                    refine lv_iload_n X.1 X.2.1 dX12_piece_87 rfl (lv_at hl 4 rfl) ?_
                    refine lv_iload X.1 X.2.1 dX12_piece_88 (lv_at hl 2 rfl) ?_
                    refine lv_aload_n X.1 X.2.1 dX12_piece_90 rfl (lv_at hl 3 rfl) ?_
                    obtain ⟨q_102, h_103, h_104, h_105⟩ := gQ_12_1236 hO_6.1 t_12
                    refine r_getR (g := 1236) X hw t_12 rfl 36 h_103 (by decide) rfl inn_X12_piece_12 (by decide) (X.2.2.2.1 (.fieldLink RX12 94 "SilkMillModel" "drawn" "[I") (by decide +kernel)) rfl (gv_1236 _ _) dX12_piece_91 ?_
                    refine lv_bipush (v := 12) X.1 X.2.1 dX12_piece_94 (by decide) ?_
                    refine lv_aload_n X.1 X.2.1 dX12_piece_96 rfl (lv_at hl 3 rfl) ?_
                    refine r_getR (g := 1239) X hw t_12 rfl 39 h_66 (by decide) rfl inn_X12_piece_12 (by decide) (X.2.2.2.1 (.fieldLink RX12 100 "SilkMillModel" "firstMetre" "[I") (by decide +kernel)) rfl (gv_1239 _ _) dX12_piece_97 ?_
                    refine lv_iload_n X.1 X.2.1 dX12_piece_100 rfl (lv_at hl 4 rfl) ?_
                    refine r_iald X hw h_67 rfl (by rw [h_68]; exact z_ix hz_a1 (by omega) (by omega)) dX12_piece_101 ?_
                    rw [ev_69]
                    refine lv_iload X.1 X.2.1 dX12_piece_102 (lv_at hl 2 rfl) ?_
                    refine lv_iadd X.1 X.2.1 dX12_piece_104 ?_
                    refine lv_topi (fun v_106 ev_106 => ?_)
                    have z_107 : v_106.toInt = v_69.toInt + i5_33_z := z_add ev_106 rfl hz_i5_33 (by omega) (by omega)
                    refine lv_imul X.1 X.2.1 dX12_piece_105 ?_
                    refine lv_topi (fun v_108 ev_108 => ?_)
                    have z_109 : v_108.toInt = 12 * (v_69.toInt + i5_33_z) := z_mul ev_108 ti_12 z_107 (by omega) (by omega)
                    refine lv_iload X.1 X.2.1 dX12_piece_106 (lv_at hl 1 rfl) ?_
                    refine lv_iadd X.1 X.2.1 dX12_piece_108 ?_
                    refine lv_topi (fun v_110 ev_110 => ?_)
                    have z_111 : v_110.toInt = (12 * (v_69.toInt + i5_33_z)) + i6_56_z := z_add ev_110 z_109 hz_i6_56 (by omega) (by omega)
                    refine r_iald X hw h_104 rfl (by rw [h_105]; exact z_ix z_111 (by omega) (by omega)) dX12_piece_109 ?_
                    refine lv_topi (fun v_112 ev_112 => ?_)
                    have z_113 := gE_934 hO_6.1 h_104 (Int32.toNatClampNeg (v_110)); rw [← ev_112] at z_113
                    have ev_112 := ev_112.symm
                    have zf_114 : zA S_5 x 1236 (((12 * (v_69.toInt + i5_33_z)) + i6_56_z)).toNat = v_112.toInt := (zA_of h_103 z_111 (by omega) ev_112)
                    obtain ⟨pz_115, pz_116, pz_117⟩ := hm_51.2 _ _ hz_86
                    have pz_118 : v_112.toInt = 1000 * (z_85.1 : Int) + z_85.2.toInt := by rw [← pz_115, ← zf_114]; congr 1; omega
                    refine lv_iload_n X.1 X.2.1 dX12_piece_110 rfl (lv_at hl 6 rfl) ?_
                    refine k_i (rm := { frames := 2, cells := 0, slots := 0, locals := 96 }) (av := [.ref x, .int (a1), .int (i5_33), .int (v_112), .int (a3)]) X hw (va_runV (As := [.int (a1), .int (i5_33), .int (v_112), .int (a3)]) (rest := []) (cfix X) (k_X12_told8 l G cy κ S_5 _ x (a1) (a1_z) (i5_33) (i5_33_z) (v_112) (v_112.toInt) (a3) (a3_z) sQ z_85 hO_6.1 t_12 hz_a1 hz_i5_33 rfl hz_a3 (by first | assumption | omega) (by first | assumption | omega) (by first | assumption | omega) (MIe_free hG ha_x hO_6.fr (by decide +kernel) hp_0) (by omega) (by omega) (by omega) (by omega) hsR pz_118 pz_116 pz_117 ⟨tm_49, by rw [show (i5_33_z).toNat = (i5_33_z).toNat from rfl]; exact ht_50, inB_of hz_86 rfl⟩) (cwV 4 X.2.2.2.1 gX12_piece_X12_told rfl rfl rfl (by decide +kernel) ⟨Nat.le_of_ble_eq_true rfl, Nat.le_of_ble_eq_true rfl⟩) (pre_V X hw _ t_12 rfl (by decide) rfl) rfl rfl hl.1 rfl (lv_room (Nat.le_of_ble_eq_true rfl)) dX12_piece_111 ⟨Nat.le_of_ble_eq_true rfl, Nat.le_of_ble_eq_true rfl⟩) 0 0 (Nat.le_of_ble_eq_true rfl) (Nat.le_of_ble_eq_true rfl) (fun rr_119 S_120 H locs hp hw hfr hnw => ?_)
                    obtain ⟨e2, hp⟩ := hp
                    subst e2
                    obtain ⟨to_121, to_122, to_123⟩ := hp
                    have rg_124 := And.intro (z_lo rr_119) (z_hi rr_119)
                    have at_125 : (pcs sQ.2.2.2)[a2_z.toNat]? = some (z_85.1, (i5_33_z).toNat, z_85.2) := by
                      have e := iv_57
                      have k := pcs_at ht_50 hz_86 f_89
                      rw [show a2_z.toNat = (pcs (sQ.2.2.2.take (i5_33_z).toNat)).length + (bgL sQ.2.2.2 (i5_33_z).toNat (tm_49.take (i6_56_z).toNat)).length by omega]
                      exact k
                    rw [hQQ]
                    exact ret_i X hw hr hlocks (Nat.le_of_ble_eq_true rfl) (Nat.le_of_ble_eq_true rfl) ⟨hO_6, ⟨z_lo _, z_hi _, fun s p h0 h1 h2 h3 h4 h5 => (by rw [hsQ] at h1; cases h1; rw [at_125] at h3; cases h3; exact to_123), fun h => absurd ⟨sQ, (z_85.1, (i5_33_z).toNat, z_85.2), by omega, hsQ, by omega, at_125, by omega, by omega⟩ h⟩⟩ dX12_piece_114
                · have z_b_126 := trivial
                  refine lv_if_ne (tgt := 81) X.1 X.2.1 dX12_piece_75 (by decide) (fun c_127 => absurd c_127 (by decide)) (fun c_127 => ?_)
                  refine lv_goto (tgt := 118) X.1 X.2.1 dX12_piece_78 (by decide) ?_
                  obtain ⟨x_128, ex_128⟩ : ∃ y : Int32, y = i6_56 + 1 := ⟨_, rfl⟩
                  have z_129 : x_128.toInt = i6_56_z + 1 := z_add ex_128 hz_i6_56 ti_1 (by omega) (by omega)
                  refine lv_iinc (v := x_128) (lv' := [(6, .int (x_128)), (4, .int (i4_55)), (5, .int (i5_33)), (0, .ref x), (1, .int (a1)), (2, .int (a2)), (3, .int (a3))]) X.1 X.2.1 dX12_piece_118 hl (k := 1) rfl (by rw [ex_128]; rfl) (by decide) rfl (fun ls hl => ?_)
                  refine lv_goto (tgt := 47) X.1 X.2.1 dX12_piece_121 (by decide) ?_
                  exact ih_L_54 _ (by omega) _ _ _ (i4_55) (i4_55_z) (x_128) (x_128.toInt) rfl hw hz_i4_55 (by omega) rfl (by omega) (by have e := iv_57; rw [show (x_128.toInt).toNat = (i6_56_z).toNat + 1 by omega, bgL_n hz_86 f_89]; omega) (by omega) (lv_sub hl [1, 0, 2, 3, 4, 5, 6] rfl)
            exact L_54 _ _ _ _ (i4_32) (i4_32_z) (0) (0) rfl hw hz_i4_32 (by omega) ti_0 (by omega) (by have e := iv_34; show _ = _ + (_ + (((bgL sQ.2.2.2 (i5_33_z).toNat (tm_49.take 0)).length : Nat) : Int)); rw [bgL_0]; show _ = _ + (_ + ((0 : Nat) : Int)); omega) (by omega) (lv_sub hl [1, 0, 2, 3, 4, 5, 6] rfl)
        exact L_31 _ _ _ _ (a2) (a2_z) (0) (0) rfl hw hz_a2 (by omega) ti_0 (by omega) (by rw [show (0 : Int).toNat = 0 from rfl, List.take_zero]; show a2_z = a2_z + ((0 : Nat) : Int); omega) (by omega) (lv_sub hl [1, 0, 2, 3, 4, 5] rfl)
      · have z_b_130 := trivial
        refine lv_if_ne (tgt := 28) X.1 X.2.1 dX12_piece_23 (by decide) (fun c_131 => absurd c_131 (by decide)) (fun c_131 => ?_)
        refine lv_iconst (v := (-1)) X.1 X.2.1 dX12_piece_26 (by decide) ?_
        rw [hQQ]
        exact ret_i X hw hr hlocks (Nat.le_of_ble_eq_true rfl) (Nat.le_of_ble_eq_true rfl) ⟨hO_6, ⟨z_lo _, z_hi _, fun s p h0 h1 h2 h3 h4 h5 => (by exfalso; have := (List.getElem?_eq_some_iff.mp h1).1; omega), fun _ => by decide⟩⟩ dX12_piece_27
  · have z_b_132 := trivial
    refine lv_if_eq (tgt := 26) X.1 X.2.1 dX12_piece_10 (by decide) (fun c_133 => ?_) (fun c_133 => absurd c_133 (by decide))
    refine lv_iconst (v := (-1)) X.1 X.2.1 dX12_piece_26 (by decide) ?_
    rw [hQQ]
    exact ret_i X hw hr hlocks (Nat.le_of_ble_eq_true rfl) (Nat.le_of_ble_eq_true rfl) ⟨hO_6, ⟨z_lo _, z_hi _, fun s p h0 h1 h2 h3 h4 h5 => (by exfalso; have := (List.getElem?_eq_some_iff.mp h1).1; omega), fun _ => by decide⟩⟩ dX12_piece_27
