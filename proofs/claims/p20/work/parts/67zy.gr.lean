
set_option maxHeartbeats 4000000 in
set_option maxRecDepth 100000 in
theorem k_X12_isDrawn7 (l : Launch) (G : va_G) (cy : Nat → ClassId) (κ : Nat → Nat) (S : PS) (sz : Nat) (x : Nat) (a1 : Int32) (a1_z : Int) (a2 : Int32) (a2_z : Int) (hG : GX S) (ha_x : At S x 12) (hz_a1 : a1.toInt = a1_z) (hz_a2 : a2.toInt = a2_z) (hp_0 : 0 ≤ a1_z) (hp_1 : a1_z ≤ 5) : Ci l yX12_isDrawn wsX12_isDrawn ({ frames := 1, cells := 0, slots := 0, locals := 48 }) G cy κ S sz [.ref x, .int (a1), .int (a2)] (fun (r : Int32) (S9 : PS) => S = S9 ∧ (((Drw (zA S x 1252) a1_z a2_z) ∧ r = 1) ∨ ((¬ Drw (zA S x 1252) a1_z a2_z) ∧ r = 0))) := by
  refine ent_m (cc := cX12_isDrawn) (maxL := 5) (ret := (some .boolean)) (by decide) rfl (Nat.le_of_ble_eq_true rfl) ?_
  intro p e s m below meth c ls X hr hlocks hin hw hl hsz
  subst hsz
  have X : Cx p c cX12_isDrawn 5 s [.ref x, .int (a1), .int (a2)].toArray wsX12_isDrawn RX12 m G cy κ (AS S s.heap.size) := X
  have hl : lv_has ls 5 [(0, .ref x), (1, .int (a1)), (2, .int (a2))] := hl
  have rg_a1 : (-2147483648) ≤ a1_z ∧ a1_z ≤ 2147483647 := by rw [← hz_a1]; exact ⟨z_lo _, z_hi _⟩
  have rg_a2 : (-2147483648) ≤ a2_z ∧ a2_z ≤ 2147483647 := by rw [← hz_a2]; exact ⟨z_lo _, z_hi _⟩
  generalize hQQ : MQ below _ _ _ _ _ _ = QQ
  replace hQQ := hQQ.symm
  refine lv_iconst (v := 0) X.1 X.2.1 dX12_isDrawn_0 (by decide) ?_
  refine lv_istore_n (lv' := [(3, .int 0), (0, .ref x), (1, .int (a1)), (2, .int (a2))]) X.1 X.2.1 dX12_isDrawn_1 rfl hl (by decide) rfl (fun ls hl => ?_)
  refine lv_iconst (v := 0) X.1 X.2.1 dX12_isDrawn_2 (by decide) ?_
  refine lv_istore (lv' := [(4, .int 0), (3, .int 0), (0, .ref x), (1, .int (a1)), (2, .int (a2))]) X.1 X.2.1 dX12_isDrawn_3 hl (by decide) rfl (fun ls hl => ?_)
  have L_1 : ∀ (n : Nat) (H : Heap) (locs : List Loc) (ls : Array Slot) (i3_2 : Int32) (i3_2_z : Int) (i4_3 : Int32) (i4_3_z : Int), ((5 - i4_3_z).toNat = n) → (Wd G cy (AS S s.heap.size) s.heap S H locs) → (i3_2.toInt = i3_2_z) → (0 ≤ i3_2_z ∧ i3_2_z ≤ 1) → (i4_3.toInt = i4_3_z) → (0 ≤ i4_3_z ∧ i4_3_z ≤ 5) → ((i3_2_z = 0 ∨ Drw (zA S x 1252) a1_z a2_z)) → ((i3_2_z = 1 ∨ ∀ j : Nat, (j : Int) < i4_3_z → zA S x 1252 j ≠ a2_z)) → (lv_has ls 5 [(3, .int (i3_2)), (4, .int (i4_3)), (0, .ref x), (1, .int (a1)), (2, .int (a2))]) → W p l e ({ frames := 1, cells := 0, slots := 0, locals := 48 }) s m [.ref x, .int (a1), .int (a2)].toArray below meth c H locs 0 0 QQ (F0 m 5 ls []) := by
    intro n
    induction n using Nat.strongRecOn with
    | ind n ih_L_1 =>
    intro H locs ls i3_2 i3_2_z i4_3 i4_3_z hn hw hz_i3_2 hr_i3_2 hz_i4_3 hr_i4_3 iv_4 iv_5 hl
    have rg_6 : (-2147483648) ≤ i3_2_z ∧ i3_2_z ≤ 2147483647 := by rw [← hz_i3_2]; exact ⟨z_lo _, z_hi _⟩
    have rg_7 : (-2147483648) ≤ i4_3_z ∧ i4_3_z ≤ 2147483647 := by rw [← hz_i4_3]; exact ⟨z_lo _, z_hi _⟩
    refine lv_iload X.1 X.2.1 dX12_isDrawn_5 (lv_at hl 1 rfl) ?_
    refine lv_iload_n X.1 X.2.1 dX12_isDrawn_7 rfl (lv_at hl 3 rfl) ?_
    refine lv_icmp_ge (tgt := 38) X.1 X.2.1 dX12_isDrawn_8 (by decide) (fun c_8 => ?_) (fun c_8 => ?_)
    · have z_b_9 := trivial
      have k_10 : i4_3_z ≥ a1_z := z_le hz_a1 hz_i4_3 c_8
      refine lv_iload_n X.1 X.2.1 dX12_isDrawn_38 rfl (lv_at hl 0 rfl) ?_
      have hb01 : i3_2 = 0 ∨ i3_2 = 1 := z_01 hz_i3_2 (by omega) (by omega)
      rw [hQQ]
      exact ret_z X hw hr hlocks (Nat.le_of_ble_eq_true rfl) (Nat.le_of_ble_eq_true rfl) (by assumption) ⟨rfl, (by rcases hb01 with h | h; exact Or.inr ⟨fun hd => (by have hz := hz_i3_2; rw [h, ti_0] at hz; obtain ⟨j, h1, h2⟩ := hd; exact (iv_5.resolve_left (by omega)) j (by omega) h2), h⟩; exact Or.inl ⟨iv_4.resolve_left (by have hz := hz_i3_2; rw [h] at hz; have h1 : (1 : Int32).toInt = 1 := (by decide); omega), h⟩)⟩ dX12_isDrawn_39
    · have z_b_11 := trivial
      have k_12 : i4_3_z < a1_z := z_nle hz_a1 hz_i4_3 c_8
      refine lv_iload_n X.1 X.2.1 dX12_isDrawn_11 rfl (lv_at hl 0 rfl) ?_
      refine lv_if_ne (tgt := 26) X.1 X.2.1 dX12_isDrawn_12 (by decide) (fun c_13 => ?_) (fun c_13 => ?_)
      · have z_b_14 := trivial
        have k_15 : i3_2_z ≠ 0 := z_ne hz_i3_2 ti_0 c_13
        refine lv_iconst (v := 1) X.1 X.2.1 dX12_isDrawn_26 (by decide) ?_
        refine lv_goto (tgt := 31) X.1 X.2.1 dX12_isDrawn_27 (by decide) ?_
        refine lv_istore_n (lv' := [(3, .int 1), (4, .int (i4_3)), (0, .ref x), (1, .int (a1)), (2, .int (a2))]) X.1 X.2.1 dX12_isDrawn_31 rfl hl (by decide) rfl (fun ls hl => ?_)
        obtain ⟨x_16, ex_16⟩ : ∃ y : Int32, y = i4_3 + 1 := ⟨_, rfl⟩
        have z_17 : x_16.toInt = i4_3_z + 1 := z_add ex_16 hz_i4_3 ti_1 (by omega) (by omega)
        refine lv_iinc (v := x_16) (lv' := [(4, .int (x_16)), (3, .int 1), (0, .ref x), (1, .int (a1)), (2, .int (a2))]) X.1 X.2.1 dX12_isDrawn_32 hl (k := 1) rfl (by rw [ex_16]; rfl) (by decide) rfl (fun ls hl => ?_)
        refine lv_goto (tgt := 5) X.1 X.2.1 dX12_isDrawn_35 (by decide) ?_
        exact ih_L_1 _ (by omega) _ _ _ (1) (1) (x_16) (x_16.toInt) rfl hw ti_1 (by omega) rfl (by omega) (by first | exact Or.inr (iv_4.resolve_left (by omega)) | exact Or.inr ⟨(i4_3_z).toNat, by omega, by omega⟩) (Or.inl rfl) (lv_sub hl [1, 0, 2, 3, 4] rfl)
      · have z_b_18 := trivial
        have k_19 : i3_2_z = 0 := z_eq hz_i3_2 ti_0 c_13
        refine lv_aload_n X.1 X.2.1 dX12_isDrawn_15 rfl (lv_at hl 2 rfl) ?_
        obtain ⟨q_20, h_21, h_22, h_23⟩ := gQ_12_1252 hG ha_x
        refine r_getR (g := 1252) X hw ha_x rfl 52 h_21 (by decide) rfl inn_X12_isDrawn_12 (by decide) (X.2.2.2.1 (.fieldLink RX12 122 "SilkMillModel" "draw" "[I") (by decide +kernel)) rfl (gv_1252 _ _) dX12_isDrawn_16 ?_
        refine lv_iload X.1 X.2.1 dX12_isDrawn_19 (lv_at hl 1 rfl) ?_
        refine r_iald X hw h_22 rfl (by rw [h_23]; exact z_ix hz_i4_3 (by omega) (by omega)) dX12_isDrawn_21 ?_
        refine lv_topi (fun v_24 ev_24 => ?_)
        have rg_25 := And.intro (z_lo v_24) (z_hi v_24)
        have ev_24 := ev_24.symm
        have zf_26 : zA S x 1252 (i4_3_z).toNat = v_24.toInt := (zA_of h_21 hz_i4_3 (by omega) ev_24)
        refine lv_iload_n X.1 X.2.1 dX12_isDrawn_22 rfl (lv_at hl 4 rfl) ?_
        refine lv_icmp_ne (tgt := 30) X.1 X.2.1 dX12_isDrawn_23 (by decide) (fun c_27 => ?_) (fun c_27 => ?_)
        · have z_b_28 := trivial
          have k_29 : v_24.toInt ≠ a2_z := z_ne rfl hz_a2 c_27
          refine lv_iconst (v := 0) X.1 X.2.1 dX12_isDrawn_30 (by decide) ?_
          refine lv_istore_n (lv' := [(3, .int 0), (4, .int (i4_3)), (0, .ref x), (1, .int (a1)), (2, .int (a2))]) X.1 X.2.1 dX12_isDrawn_31 rfl hl (by decide) rfl (fun ls hl => ?_)
          obtain ⟨x_30, ex_30⟩ : ∃ y : Int32, y = i4_3 + 1 := ⟨_, rfl⟩
          have z_31 : x_30.toInt = i4_3_z + 1 := z_add ex_30 hz_i4_3 ti_1 (by omega) (by omega)
          refine lv_iinc (v := x_30) (lv' := [(4, .int (x_30)), (3, .int 0), (0, .ref x), (1, .int (a1)), (2, .int (a2))]) X.1 X.2.1 dX12_isDrawn_32 hl (k := 1) rfl (by rw [ex_30]; rfl) (by decide) rfl (fun ls hl => ?_)
          refine lv_goto (tgt := 5) X.1 X.2.1 dX12_isDrawn_35 (by decide) ?_
          exact ih_L_1 _ (by omega) _ _ _ (0) (0) (x_30) (x_30.toInt) rfl hw ti_0 (by omega) rfl (by omega) (Or.inl rfl) (Or.inr (fun j h => by rcases (show (j : Int) < i4_3_z ∨ j = (i4_3_z).toNat by omega) with e | e; exact (iv_5.resolve_left (by omega)) j e; rw [e, zf_26]; omega)) (lv_sub hl [1, 0, 2, 3, 4] rfl)
        · have z_b_32 := trivial
          have k_33 : v_24.toInt = a2_z := z_eq rfl hz_a2 c_27
          refine lv_iconst (v := 1) X.1 X.2.1 dX12_isDrawn_26 (by decide) ?_
          refine lv_goto (tgt := 31) X.1 X.2.1 dX12_isDrawn_27 (by decide) ?_
          refine lv_istore_n (lv' := [(3, .int 1), (4, .int (i4_3)), (0, .ref x), (1, .int (a1)), (2, .int (a2))]) X.1 X.2.1 dX12_isDrawn_31 rfl hl (by decide) rfl (fun ls hl => ?_)
          obtain ⟨x_34, ex_34⟩ : ∃ y : Int32, y = i4_3 + 1 := ⟨_, rfl⟩
          have z_35 : x_34.toInt = i4_3_z + 1 := z_add ex_34 hz_i4_3 ti_1 (by omega) (by omega)
          refine lv_iinc (v := x_34) (lv' := [(4, .int (x_34)), (3, .int 1), (0, .ref x), (1, .int (a1)), (2, .int (a2))]) X.1 X.2.1 dX12_isDrawn_32 hl (k := 1) rfl (by rw [ex_34]; rfl) (by decide) rfl (fun ls hl => ?_)
          refine lv_goto (tgt := 5) X.1 X.2.1 dX12_isDrawn_35 (by decide) ?_
          exact ih_L_1 _ (by omega) _ _ _ (1) (1) (x_34) (x_34.toInt) rfl hw ti_1 (by omega) rfl (by omega) (by first | exact Or.inr (iv_4.resolve_left (by omega)) | exact Or.inr ⟨(i4_3_z).toNat, by omega, by omega⟩) (Or.inl rfl) (lv_sub hl [1, 0, 2, 3, 4] rfl)
  exact L_1 _ _ _ _ (0) (0) (0) (0) rfl hw ti_0 (by omega) ti_0 (by omega) (Or.inl rfl) (Or.inr (fun j h => absurd h (by omega))) (lv_sub hl [1, 0, 2, 3, 4] rfl)
set_option maxHeartbeats 4000000 in
set_option maxRecDepth 100000 in
theorem k_X12_grade7 (l : Launch) (G : va_G) (cy : Nat → ClassId) (κ : Nat → Nat) (S : PS) (sz : Nat) (x : Nat) (a1 : Int32) (a1_z : Int) (a2 : Int32) (a2_z : Int) (a3 : Int32) (a3_z : Int) (Ls : List Sk) (hG : GX S) (ha_x : At S x 12) (hz_a1 : a1.toInt = a1_z) (hz_a2 : a2.toInt = a2_z) (hz_a3 : a3.toInt = a3_z) (hp_0 : MI S x) (hp_1 : SkW S x Ls) : Ci l yX12_grade wsX12_grade ({ frames := 5, cells := 0, slots := 0, locals := 240 }) G cy κ S sz [.ref x, .int (a1), .int (a2), .int (a3)] (fun (r : Int32) (S9 : PS) => Ok Mgr S S9 ∧ (-2147483648 ≤ r.toInt ∧ r.toInt ≤ 2147483647 ∧ (∀ s, 0 ≤ a1_z → Ls[a1_z.toNat]? = some s → 1 ≤ a3_z → a3_z ≤ 5 → a3_z ≤ (s.2.2.2.length : Int) → GrR S S9 x a1_z s a2 a3_z r) ∧ (¬ GrI Ls a1_z a3_z → r.toInt = -1 ∧ S9 = sI S 1200 x 0))) := by
  refine ent_m (cc := cX12_grade) (maxL := 8) (ret := (some .int)) (by decide) rfl (Nat.le_of_ble_eq_true rfl) ?_
  intro p e s m below meth c ls X hr hlocks hin hw hl hsz
  subst hsz
  have X : Cx p c cX12_grade 8 s [.ref x, .int (a1), .int (a2), .int (a3)].toArray wsX12_grade RX12 m G cy κ (AS S s.heap.size) := X
  have hl : lv_has ls 8 [(0, .ref x), (1, .int (a1)), (2, .int (a2)), (3, .int (a3))] := hl
  have rg_a1 : (-2147483648) ≤ a1_z ∧ a1_z ≤ 2147483647 := by rw [← hz_a1]; exact ⟨z_lo _, z_hi _⟩
  have rg_a2 : (-2147483648) ≤ a2_z ∧ a2_z ≤ 2147483647 := by rw [← hz_a2]; exact ⟨z_lo _, z_hi _⟩
  have rg_a3 : (-2147483648) ≤ a3_z ∧ a3_z ≤ 2147483647 := by rw [← hz_a3]; exact ⟨z_lo _, z_hi _⟩
  have hO : Ok Mgr S S := Ok.rf hG
  generalize hQQ : MQ below _ _ _ _ _ _ = QQ
  replace hQQ := hQQ.symm
  refine lv_aload_n X.1 X.2.1 dX12_grade_0 rfl (lv_at hl 0 rfl) ?_
  refine lv_iconst (v := 0) X.1 X.2.1 dX12_grade_1 (by decide) ?_
  refine r_putI (v := 0) X hw ha_x rfl 0 1200 tyX12 (by decide) rfl inn_X12_grade_12 tyX12_ok nmX12 (by decide) (X.2.2.2.1 (.fieldLink RX12 161 "SilkMillModel" "thrown" "I") (by decide +kernel)) rfl (Or.inl rfl) rfl rfl (Nat.le_of_ble_eq_true rfl) (st_1200 _ _) dX12_grade_2 (fun H locs hw => ?_)
  obtain ⟨S_1, eS_1⟩ : ∃ T, T = sI S 1200 x (0) := ⟨_, rfl⟩
  rw [← eS_1] at hw
  have hO_2 : Ok Mgr S S_1 := hO.sI eS_1 (by decide +kernel) (uI_12_1200 hO.1 ha_x)
  have h_3 : pI S_1 1200 x = 0 := tI_sIs eS_1
  refine lv_aload_n X.1 X.2.1 dX12_grade_5 rfl (lv_at hl 0 rfl) ?_
  refine lv_iload_n X.1 X.2.1 dX12_grade_6 rfl (lv_at hl 1 rfl) ?_
  obtain ⟨v_4, ev_4⟩ : ∃ v, pI S_1 1238 x = v := ⟨_, rfl⟩
  have t_6 : At S_1 x 12 := tAt_sI eS_1 ha_x
  have rg_5 := gI_12_1238 hO_2.1 t_6; rw [ev_4] at rg_5
  have pz_7 : (pI S_1 1238 x).toInt = v_4.toInt := by rw [ev_4]
  have pz_8 : (pI S_1 1238 x).toInt = v_4.toInt := (congrArg Int32.toInt ev_4).trans rfl
  refine k_i (rm := { frames := 2, cells := 0, slots := 0, locals := 96 }) (av := [.ref x, .int (a1)]) X hw (va_runV (As := [.int (a1)]) (rest := []) (cfix X) (k_X12_isSkein7 l G cy κ S_1 _ x (a1) (a1_z) hO_2.1 t_6 hz_a1) (cwV 1 X.2.2.2.1 gX12_grade_X12_isSkein rfl rfl rfl (by decide +kernel) ⟨Nat.le_of_ble_eq_true rfl, Nat.le_of_ble_eq_true rfl⟩) (pre_V X hw _ t_6 rfl (by decide) rfl) rfl rfl hl.1 rfl (lv_room (Nat.le_of_ble_eq_true rfl)) dX12_grade_7 ⟨Nat.le_of_ble_eq_true rfl, Nat.le_of_ble_eq_true rfl⟩) 0 0 (Nat.le_of_ble_eq_true rfl) (Nat.le_of_ble_eq_true rfl) (fun rr_9 S_10 H locs hp hw hfr hnw => ?_)
  obtain ⟨e2, hp⟩ := hp
  subst e2
  rcases hp with ⟨f_11, er_12⟩ | ⟨f_11, er_12⟩ <;> subst er_12
  · have z_b_13 := trivial
    refine lv_if_eq (tgt := 31) X.1 X.2.1 dX12_grade_10 (by decide) (fun c_14 => absurd c_14 (by decide)) (fun c_14 => ?_)
    have kl_20 := hp_1.1
    have pz_21 : (pI S_1 1238 x).toInt = v_4.toInt := (congrArg Int32.toInt ev_4).trans rfl
    obtain ⟨s_15, hs_16⟩ : ∃ s, Ls[a1_z.toNat]? = some s := ⟨_, List.getElem?_eq_getElem (by omega)⟩
    obtain ⟨sr_17, sr_18, sr_19⟩ := hp_1.2 _ _ hs_16
    have z9_22 : zA S_1 x 1239 a1_z.toNat = zA S x 1239 a1_z.toNat := congrFun (zA_sI eS_1) _
    have z9_23 : zA S_1 x 1239 (a1_z + 1).toNat = zA S x 1239 (a1_z + 1).toNat := congrFun (zA_sI eS_1) _
    have z9_24 : zA S x 1239 (a1_z + 1).toNat = zA S x 1239 (a1_z.toNat + 1) := by rw [show (a1_z + 1).toNat = a1_z.toNat + 1 by omega]
    have sr_25 := (hp_1.2 _ _ hs_16).1
    refine lv_iload_n X.1 X.2.1 dX12_grade_13 rfl (lv_at hl 3 rfl) ?_
    refine lv_iconst (v := 1) X.1 X.2.1 dX12_grade_14 (by decide) ?_
    refine lv_iconst (v := 5) X.1 X.2.1 dX12_grade_15 (by decide) ?_
    refine k_i (rm := { frames := 1, cells := 0, slots := 0, locals := 48 }) (av := [.int (a3), .int 1, .int 5]) X hw (va_runS (As := [.int (a3), .int 1, .int 5]) (rest := []) (cfix X) (k_X12_within l G cy κ S_1 _ (a3) (a3_z) (1) (1) (5) (5) hO_2.1 hz_a3 ti_1 ti_5) (cwS 3 X.2.2.2.1 gX12_grade_X12_within rfl rfl rfl (by decide +kernel) ⟨Nat.le_of_ble_eq_true rfl, Nat.le_of_ble_eq_true rfl⟩) (pre_S X hw _) rfl rfl hl.1 rfl (lv_room (Nat.le_of_ble_eq_true rfl)) dX12_grade_16 ⟨Nat.le_of_ble_eq_true rfl, Nat.le_of_ble_eq_true rfl⟩) 0 0 (Nat.le_of_ble_eq_true rfl) (Nat.le_of_ble_eq_true rfl) (fun rr_26 S_27 H locs hp hw hfr hnw => ?_)
    obtain ⟨e2, hp⟩ := hp
    subst e2
    rcases hp with ⟨f_28, er_29⟩ | ⟨f_28, er_29⟩ <;> subst er_29
    · have z_b_30 := trivial
      refine lv_if_eq (tgt := 31) X.1 X.2.1 dX12_grade_19 (by decide) (fun c_31 => absurd c_31 (by decide)) (fun c_31 => ?_)
      refine lv_iload_n X.1 X.2.1 dX12_grade_22 rfl (lv_at hl 3 rfl) ?_
      refine lv_aload_n X.1 X.2.1 dX12_grade_23 rfl (lv_at hl 0 rfl) ?_
      refine lv_iload_n X.1 X.2.1 dX12_grade_24 rfl (lv_at hl 1 rfl) ?_
      refine k_i (rm := { frames := 1, cells := 0, slots := 0, locals := 48 }) (av := [.ref x, .int (a1)]) X hw (va_runV (As := [.int (a1)]) (rest := [.int (a3)]) (cfix X) (k_X12_metres l G cy κ S_1 _ x (a1) (a1_z) hO_2.1 t_6 hz_a1 (by first | assumption | omega) (by first | assumption | omega) (by first | assumption | omega) (MIe_free hG ha_x hO_2.fr (by decide +kernel) hp_0)) (cwV 1 X.2.2.2.1 gX12_grade_X12_metres rfl rfl rfl (by decide +kernel) ⟨Nat.le_of_ble_eq_true rfl, Nat.le_of_ble_eq_true rfl⟩) (pre_V X hw _ t_6 rfl (by decide) rfl) rfl rfl hl.1 rfl (lv_room (Nat.le_of_ble_eq_true rfl)) dX12_grade_25 ⟨Nat.le_of_ble_eq_true rfl, Nat.le_of_ble_eq_true rfl⟩) 0 0 (Nat.le_of_ble_eq_true rfl) (Nat.le_of_ble_eq_true rfl) (fun rr_32 S_33 H locs hp hw hfr hnw => ?_)
      obtain ⟨e2, hp⟩ := hp
      subst e2
      obtain ⟨f_34, f_35, f_36⟩ := hp
      refine lv_icmp_le (tgt := 33) X.1 X.2.1 dX12_grade_28 (by decide) (fun c_37 => ?_) (fun c_37 => ?_)
      · have z_b_38 := trivial
        have k_39 : a3_z ≤ rr_32.toInt := z_le hz_a3 rfl c_37
        refine lv_aload_n X.1 X.2.1 dX12_grade_33 rfl (lv_at hl 0 rfl) ?_
        refine lv_iload_n X.1 X.2.1 dX12_grade_34 rfl (lv_at hl 1 rfl) ?_
        refine k_i (rm := { frames := 1, cells := 0, slots := 0, locals := 48 }) (av := [.ref x, .int (a1)]) X hw (va_runV (As := [.int (a1)]) (rest := []) (cfix X) (k_X12_metres l G cy κ S_1 _ x (a1) (a1_z) hO_2.1 t_6 hz_a1 (by first | assumption | omega) (by first | assumption | omega) (by first | assumption | omega) (MIe_free hG ha_x hO_2.fr (by decide +kernel) hp_0)) (cwV 1 X.2.2.2.1 gX12_grade_X12_metres rfl rfl rfl (by decide +kernel) ⟨Nat.le_of_ble_eq_true rfl, Nat.le_of_ble_eq_true rfl⟩) (pre_V X hw _ t_6 rfl (by decide) rfl) rfl rfl hl.1 rfl (lv_room (Nat.le_of_ble_eq_true rfl)) dX12_grade_35 ⟨Nat.le_of_ble_eq_true rfl, Nat.le_of_ble_eq_true rfl⟩) 0 0 (Nat.le_of_ble_eq_true rfl) (Nat.le_of_ble_eq_true rfl) (fun rr_40 S_41 H locs hp hw hfr hnw => ?_)
        obtain ⟨e2, hp⟩ := hp
        subst e2
        obtain ⟨f_42, f_43, f_44⟩ := hp
        refine lv_istore (lv' := [(4, .int (rr_40)), (0, .ref x), (1, .int (a1)), (2, .int (a2)), (3, .int (a3))]) X.1 X.2.1 dX12_grade_38 hl (by decide) rfl (fun ls hl => ?_)
        refine lv_iload_n X.1 X.2.1 dX12_grade_40 rfl (lv_at hl 3 rfl) ?_
        refine lv_istore (lv' := [(5, .int (a2)), (4, .int (rr_40)), (0, .ref x), (1, .int (a1)), (2, .int (a2)), (3, .int (a3))]) X.1 X.2.1 dX12_grade_41 hl (by decide) rfl (fun ls hl => ?_)
        refine lv_aload_n X.1 X.2.1 dX12_grade_43 rfl (lv_at hl 2 rfl) ?_
        refine lv_iconst (v := 0) X.1 X.2.1 dX12_grade_44 (by decide) ?_
        refine r_putI (v := 0) X hw t_6 rfl 49 1249 tyX12 (by decide) rfl inn_X12_grade_12 tyX12_ok nmX12 (by decide) (X.2.2.2.1 (.fieldLink RX12 382 "SilkMillModel" "off" "I") (by decide +kernel)) rfl (Or.inl rfl) rfl rfl (Nat.le_of_ble_eq_true rfl) (st_1249 _ _) dX12_grade_45 (fun H locs hw => ?_)
        obtain ⟨S_45, eS_45⟩ : ∃ T, T = sI S_1 1249 x (0) := ⟨_, rfl⟩
        rw [← eS_45] at hw
        have hO_46 : Ok Mgr S S_45 := hO_2.sI eS_45 (by decide +kernel) (uI_12_1249 hO_2.1 t_6)
        have h_47 : pI S_45 1249 x = 0 := tI_sIs eS_45
        refine lv_iconst (v := 0) X.1 X.2.1 dX12_grade_48 (by decide) ?_
        refine lv_istore (lv' := [(6, .int 0), (5, .int (a2)), (4, .int (rr_40)), (0, .ref x), (1, .int (a1)), (2, .int (a2)), (3, .int (a3))]) X.1 X.2.1 dX12_grade_49 hl (by decide) rfl (fun ls hl => ?_)
        have zc_53 : zA S_1 x 1239 = zA S x 1239 := zA_sI eS_1
        have zc_54 : zA S_45 x 1239 = zA S x 1239 := (zA_sI eS_45).trans zc_53
        have zc_56 : zA S_1 x 1242 = zA S x 1242 := zA_sI eS_1
        have zc_57 : zA S_45 x 1242 = zA S x 1242 := (zA_sI eS_45).trans zc_56
        have zc_59 : zA S_1 x 1235 = zA S x 1235 := zA_sI eS_1
        have zc_60 : zA S_45 x 1235 = zA S x 1235 := (zA_sI eS_45).trans zc_59
        have zc_62 : zA S_1 x 1236 = zA S x 1236 := zA_sI eS_1
        have zc_63 : zA S_45 x 1236 = zA S x 1236 := (zA_sI eS_45).trans zc_62
        have zc_65 : zA S_1 x 1243 = zA S x 1243 := zA_sI eS_1
        have zc_66 : zA S_45 x 1243 = zA S x 1243 := (zA_sI eS_45).trans zc_65
        have L_48 : ∀ (n : Nat) (T_51 : PS) (H : Heap) (locs : List Loc) (ls : Array Slot) (i5_49 : Int32) (i5_49_z : Int) (i6_50 : Int32) (i6_50_z : Int), ((5 - i6_50_z).toNat = n) → (Wd G cy (AS S s.heap.size) s.heap T_51 H locs) → (i5_49.toInt = i5_49_z) → (i6_50.toInt = i6_50_z) → (0 ≤ i6_50_z ∧ i6_50_z ≤ 5) → (At T_51 x 12) → (Ok Mgr S T_51) → (zA T_51 x 1239 = zA S x 1239) → (zA T_51 x 1242 = zA S x 1242) → (zA T_51 x 1235 = zA S x 1235) → (zA T_51 x 1236 = zA S x 1236) → (zA T_51 x 1243 = zA S x 1243) → (i6_50_z ≤ a3_z) → (lkZ (zA T_51 x 1252) i6_50_z = (drF (s_15.2.2.2.length : Int) a2 (i6_50_z).toNat).1) → ((i5_49) = (drF (s_15.2.2.2.length : Int) a2 (i6_50_z).toNat).2) → (pI T_51 1249 x = ofF (fun m => mtZ S x (mtG s_15.2.2.2 m)) s_15.2.2.1 (drF (s_15.2.2.2.length : Int) a2 (i6_50_z).toNat).1) → (lv_has ls 8 [(5, .int (i5_49)), (6, .int (i6_50)), (4, .int (rr_40)), (0, .ref x), (1, .int (a1)), (2, .int (a2)), (3, .int (a3))]) → W p l e ({ frames := 5, cells := 0, slots := 0, locals := 240 }) s m [.ref x, .int (a1), .int (a2), .int (a3)].toArray below meth c H locs 0 0 QQ (F0 m 51 ls []) := by
          intro n
          induction n using Nat.strongRecOn with
          | ind n ih_L_48 =>
          intro T_51 H locs ls i5_49 i5_49_z i6_50 i6_50_z hn hw hz_i5_49 hz_i6_50 hr_i6_50 ha_x_L_52 hO_T_51 zk_55 zk_58 zk_61 zk_64 zk_67 iv_68 iv_69 iv_70 iv_71 hl
          have rg_72 : (-2147483648) ≤ i5_49_z ∧ i5_49_z ≤ 2147483647 := by rw [← hz_i5_49]; exact ⟨z_lo _, z_hi _⟩
          have rg_73 : (-2147483648) ≤ i6_50_z ∧ i6_50_z ≤ 2147483647 := by rw [← hz_i6_50]; exact ⟨z_lo _, z_hi _⟩
          obtain ⟨v_74, ev_74⟩ : ∃ v, pI T_51 1249 x = v := ⟨_, rfl⟩
          have rg_76 := And.intro (z_lo v_74) (z_hi v_74)
          have pz_77 : (pI T_51 1249 x).toInt = v_74.toInt := by rw [ev_74]
          have pz_78 : (pI T_51 1249 x).toInt = v_74.toInt := (congrArg Int32.toInt ev_74).trans rfl
          refine lv_iload X.1 X.2.1 dX12_grade_51 (lv_at hl 1 rfl) ?_
          refine lv_iload_n X.1 X.2.1 dX12_grade_53 rfl (lv_at hl 6 rfl) ?_
          refine lv_icmp_ge (tgt := 145) X.1 X.2.1 dX12_grade_54 (by decide) (fun c_79 => ?_) (fun c_79 => ?_)
          · have z_b_80 := trivial
            have k_81 : i6_50_z ≥ a3_z := z_le hz_a3 hz_i6_50 c_79
            refine lv_aload_n X.1 X.2.1 dX12_grade_145 rfl (lv_at hl 3 rfl) ?_
            refine lv_iload_n X.1 X.2.1 dX12_grade_146 rfl (lv_at hl 6 rfl) ?_
            refine r_putI (v := a3) X hw ha_x_L_52 rfl 51 1251 tyX12 (by decide) rfl inn_X12_grade_12 tyX12_ok nmX12 (by decide) (X.2.2.2.1 (.fieldLink RX12 388 "SilkMillModel" "draws" "I") (by decide +kernel)) rfl (Or.inl rfl) rfl rfl (Nat.le_of_ble_eq_true rfl) (st_1251 _ _) dX12_grade_147 (fun H locs hw => ?_)
            obtain ⟨S_82, eS_82⟩ : ∃ T, T = sI T_51 1251 x (a3) := ⟨_, rfl⟩
            rw [← eS_82] at hw
            have hO_83 : Ok Mgr S S_82 := hO_T_51.sI eS_82 (by decide +kernel) (uI_12_1251 hO_T_51.1 ha_x_L_52 (by omega) (by omega))
            have h_84 : pI S_82 1251 x = a3 := tI_sIs eS_82
            refine lv_aload_n X.1 X.2.1 dX12_grade_150 rfl (lv_at hl 3 rfl) ?_
            refine lv_iload X.1 X.2.1 dX12_grade_151 (lv_at hl 2 rfl) ?_
            refine lv_iload_n X.1 X.2.1 dX12_grade_153 rfl (lv_at hl 6 rfl) ?_
            refine lv_isub X.1 X.2.1 dX12_grade_154 ?_
            refine lv_topi (fun v_85 ev_85 => ?_)
            have z_86 : v_85.toInt = rr_40.toInt - a3_z := z_sub ev_85 rfl hz_a3 (by omega) (by omega)
            have t_87 : At S_82 x 12 := tAt_sI eS_82 ha_x_L_52
            refine r_putI (v := v_85) X hw t_87 rfl 50 1250 tyX12 (by decide) rfl inn_X12_grade_12 tyX12_ok nmX12 (by decide) (X.2.2.2.1 (.fieldLink RX12 391 "SilkMillModel" "bound" "I") (by decide +kernel)) rfl (Or.inl rfl) rfl rfl (Nat.le_of_ble_eq_true rfl) (st_1250 _ _) dX12_grade_155 (fun H locs hw => ?_)
            obtain ⟨S_88, eS_88⟩ : ∃ T, T = sI S_82 1250 x (v_85) := ⟨_, rfl⟩
            rw [← eS_88] at hw
            have hO_89 : Ok Mgr S S_88 := hO_83.sI eS_88 (by decide +kernel) (uI_12_1250 hO_83.1 t_87)
            have h_90 : pI S_88 1250 x = v_85 := tI_sIs eS_88
            have zc_94 : zA S_82 x 1252 = zA T_51 x 1252 := zA_sI eS_82
            have zc_95 : zA S_88 x 1252 = zA T_51 x 1252 := (zA_sI eS_88).trans zc_94
            have zc_97 : zA S_82 x 1243 = zA S x 1243 := (zA_sI eS_82).trans zk_67
            have zc_98 : zA S_88 x 1243 = zA S x 1243 := (zA_sI eS_88).trans zc_97
            have t_102 : pI S_82 1249 x = v_74 := tI_sI eS_82 rfl ev_74
            have t_103 : pI S_88 1249 x = v_74 := tI_sI eS_88 rfl t_102
            have t_105 : pI S_88 1251 x = a3 := tI_sI eS_88 rfl h_84
            have L_91 : ∀ (n : Nat) (T_92 : PS) (H : Heap) (locs : List Loc) (ls : Array Slot) , (((pI T_92 1250 x).toInt).toNat = n) → (Wd G cy (AS S s.heap.size) s.heap T_92 H locs) → (At T_92 x 12) → (Ok Mgr S T_92) → (zA T_92 x 1252 = zA T_51 x 1252) → (zA T_92 x 1243 = zA S x 1243) → (bdF (rr_40) a3_z.toNat (pI T_92 1250 x).toInt.toNat = bdF (rr_40) a3_z.toNat (rr_40.toInt - a3_z).toNat) → (0 ≤ (pI T_92 1250 x).toInt) → (pI T_92 1249 x = v_74) → (pI T_92 1251 x = a3) → (lv_has ls 8 [(5, .int (i5_49)), (6, .int (i6_50)), (4, .int (rr_40)), (0, .ref x), (1, .int (a1)), (2, .int (a2)), (3, .int (a3))]) → W p l e ({ frames := 5, cells := 0, slots := 0, locals := 240 }) s m [.ref x, .int (a1), .int (a2), .int (a3)].toArray below meth c H locs 0 0 QQ (F0 m 158 ls []) := by
              intro n
              induction n using Nat.strongRecOn with
              | ind n ih_L_91 =>
              intro T_92 H locs ls  hn hw ha_x_L_93 hO_T_92 zk_96 zk_99 iv_100 iv_101 ik_104 ik_106 hl
              obtain ⟨v_107, ev_107⟩ : ∃ v, pI T_92 1250 x = v := ⟨_, rfl⟩
              have rg_109 := And.intro (z_lo v_107) (z_hi v_107)
              have pz_110 : (pI T_92 1250 x).toInt = v_107.toInt := by rw [ev_107]
              have pz_111 : (pI T_92 1250 x).toInt = v_107.toInt := (congrArg Int32.toInt ev_107).trans rfl
              have pz_112 : (pI T_92 1249 x).toInt = v_74.toInt := (congrArg Int32.toInt ik_104).trans rfl
              have pz_113 : (pI T_92 1251 x).toInt = a3_z := (congrArg Int32.toInt ik_106).trans hz_a3
              refine lv_aload_n X.1 X.2.1 dX12_grade_158 rfl (lv_at hl 3 rfl) ?_
              refine r_getI (g := 1250) (x := v_107) X hw ha_x_L_93 rfl 50 ev_107 (by decide) rfl inn_X12_grade_12 (by decide) (X.2.2.2.1 (.fieldLink RX12 391 "SilkMillModel" "bound" "I") (by decide +kernel)) rfl (gv_1250 _ _) dX12_grade_159 ?_
              refine lv_if_le (tgt := 203) X.1 X.2.1 dX12_grade_162 (by decide) (fun c_114 => ?_) (fun c_114 => ?_)
              · have z_b_115 := trivial
                have k_116 : v_107.toInt ≤ 0 := z_le rfl ti_0 c_114
                have pz_118 : (pI T_92 1250 x).toInt = v_107.toInt := (congrArg Int32.toInt ev_107).trans rfl
                have bb_117 : (pI T_92 1250 x).toInt = bdF rr_40 a3_z.toNat (rr_40.toInt - a3_z).toNat := by have h := iv_100; rw [show (pI T_92 1250 x).toInt.toNat = 0 by omega] at h; exact (show (pI T_92 1250 x).toInt = 0 by omega).trans h
                refine lv_aload_n X.1 X.2.1 dX12_grade_203 rfl (lv_at hl 3 rfl) ?_
                obtain ⟨q_119, h_120, h_121, h_122⟩ := gQ_12_1243 hO_T_92.1 ha_x_L_93
                refine r_getR (g := 1243) X hw ha_x_L_93 rfl 43 h_120 (by decide) rfl inn_X12_grade_12 (by decide) (X.2.2.2.1 (.fieldLink RX12 112 "SilkMillModel" "skeinGrade" "[I") (by decide +kernel)) rfl (gv_1243 _ _) dX12_grade_204 ?_
                refine lv_iload_n X.1 X.2.1 dX12_grade_207 rfl (lv_at hl 4 rfl) ?_
                refine lv_aload_n X.1 X.2.1 dX12_grade_208 rfl (lv_at hl 3 rfl) ?_
                refine r_getI (g := 1249) (x := v_74) X hw ha_x_L_93 rfl 49 ik_104 (by decide) rfl inn_X12_grade_12 (by decide) (X.2.2.2.1 (.fieldLink RX12 382 "SilkMillModel" "off" "I") (by decide +kernel)) rfl (gv_1249 _ _) dX12_grade_209 ?_
                refine lv_iconst (v := 3) X.1 X.2.1 dX12_grade_212 (by decide) ?_
                refine lv_icmp_gt (tgt := 220) X.1 X.2.1 dX12_grade_213 (by decide) (fun c_123 => ?_) (fun c_123 => ?_)
                · have z_b_124 := trivial
                  have k_125 : v_74.toInt > 3 := z_lt ti_3 rfl c_123
                  refine lv_aload_n X.1 X.2.1 dX12_grade_220 rfl (lv_at hl 3 rfl) ?_
                  refine r_getI (g := 1249) (x := v_74) X hw ha_x_L_93 rfl 49 ik_104 (by decide) rfl inn_X12_grade_12 (by decide) (X.2.2.2.1 (.fieldLink RX12 382 "SilkMillModel" "off" "I") (by decide +kernel)) rfl (gv_1249 _ _) dX12_grade_221 ?_
                  refine lv_bipush (v := 8) X.1 X.2.1 dX12_grade_224 (by decide) ?_
                  refine lv_icmp_gt (tgt := 233) X.1 X.2.1 dX12_grade_226 (by decide) (fun c_126 => ?_) (fun c_126 => ?_)
                  · have z_b_127 := trivial
                    have k_128 : v_74.toInt > 8 := z_lt ti_8 rfl c_126
                    refine lv_aload_n X.1 X.2.1 dX12_grade_233 rfl (lv_at hl 3 rfl) ?_
                    refine r_getI (g := 1249) (x := v_74) X hw ha_x_L_93 rfl 49 ik_104 (by decide) rfl inn_X12_grade_12 (by decide) (X.2.2.2.1 (.fieldLink RX12 382 "SilkMillModel" "off" "I") (by decide +kernel)) rfl (gv_1249 _ _) dX12_grade_234 ?_
                    refine lv_bipush (v := 20) X.1 X.2.1 dX12_grade_237 (by decide) ?_
                    refine lv_icmp_gt (tgt := 246) X.1 X.2.1 dX12_grade_239 (by decide) (fun c_129 => ?_) (fun c_129 => ?_)
                    · have z_b_130 := trivial
                      have k_131 : v_74.toInt > 20 := z_lt ti_20 rfl c_129
                      refine lv_iconst (v := 3) X.1 X.2.1 dX12_grade_246 (by decide) ?_
                      refine r_iast X hw h_121 rfl (by rw [h_122]; exact z_ix hz_a1 (by omega) (by omega)) dX12_grade_247 (fun H locs hw => ?_)
                      obtain ⟨S_132, eS_132⟩ : ∃ T, T = sA T_92 q_119 (upd (pA T_92 q_119) (Int32.toNatClampNeg (a1)) (3)) := ⟨_, rfl⟩
                      rw [← eS_132] at hw
                      have hO_133 : Ok Mgr S S_132 := hO_T_92.sA eS_132 h_121 (by decide +kernel) (uA_1074 hO_T_92.1 h_121 (by rw [ti_3]; omega) (by rw [ti_3]; omega))
                      have h_134 : pA S_132 q_119 (Int32.toNatClampNeg (a1)) = 3 := tA_sAs eS_132
                      have t_135 : pR S_132 1243 x = some q_119 := tR_sA eS_132 h_120
                      have t_137 : pR T_92 1243 x = some q_119 := by have h := t_135; rw [eS_132, pR_sA] at h; exact h
                      have zs_136 : ∀ j, zA S_132 x 1243 j = if j = (a1_z).toNat then 3 else zA T_92 x 1243 j := by have h := zA_sAs eS_132 t_137 ti_3; rw [z_nc hz_a1 (by omega)] at h; exact h
                      refine lv_aload_n X.1 X.2.1 dX12_grade_248 rfl (lv_at hl 3 rfl) ?_
                      have t_138 : At S_132 x 12 := tAt_sA eS_132 ha_x_L_93
                      refine r_getR (g := 1243) X hw t_138 rfl 43 t_135 (by decide) rfl inn_X12_grade_12 (by decide) (X.2.2.2.1 (.fieldLink RX12 112 "SilkMillModel" "skeinGrade" "[I") (by decide +kernel)) rfl (gv_1243 _ _) dX12_grade_249 ?_
                      refine lv_iload_n X.1 X.2.1 dX12_grade_252 rfl (lv_at hl 4 rfl) ?_
                      have t_139 : At S_132 q_119 1074 := tAt_sA eS_132 h_121
                      have t_140 : pN S_132 q_119 = 40 := tN_sA eS_132 h_122
                      clear h_122
                      refine r_iald X hw t_139 rfl (by rw [t_140]; exact z_ix hz_a1 (by omega) (by omega)) dX12_grade_253 ?_
                      rw [h_134]
                      have t_141 : pI S_132 1249 x = v_74 := tI_sA eS_132 ik_104
                      have t_142 : pI S_132 1251 x = a3 := tI_sA eS_132 ik_106
                      have pz_143 : (pI S_132 1251 x).toInt = a3_z := (congrArg Int32.toInt t_142).trans hz_a3
                      have t_144 : pI S_132 1250 x = v_107 := tI_sA eS_132 ev_107
                      have pz_145 : (pI S_132 1250 x).toInt = v_107.toInt := (congrArg Int32.toInt t_144).trans rfl
                      have go_146 : v_74 = gdO (mtZ S x) s_15 a2 a3_z := by have h := iv_71; rw [ev_74, show (i6_50_z) = a3_z by omega] at h; exact h
                      have hu_147 : (rr_40 : Int32).toInt = (s_15.2.2.2.length : Int) := (by have e1 : (rr_40 : Int32).toInt = rr_40.toInt := rfl; omega)
                      have zc_148 : zA S_132 x 1252 = zA T_51 x 1252 := (zA_sAn eS_132 (ex3 (gQ_12_1252 hO_T_92.1 ha_x_L_93)) h_121 rfl).trans zk_96
                      rw [hQQ]
                      exact ret_i X hw hr hlocks (Nat.le_of_ble_eq_true rfl) (Nat.le_of_ble_eq_true rfl) ⟨hO_133, ⟨z_lo _, z_hi _, fun s h0 h1 h2 h3 h4 => (by rw [hs_16] at h1; cases h1; exact ⟨(by rw [← go_146, grF_3 (by have e1 : (v_74 : Int32).toInt = v_74.toInt := rfl; omega)]; have e1 : (3 : Int32).toInt = 3 := ti_3; omega), ⟨by omega, t_141.trans go_146, (by have h := bb_117; rw [← oi_e hu_147] at h; show _ = bdF (Int32.ofInt (s_15.2.2.2.length : Int)) a3_z.toNat ((s_15.2.2.2.length : Int) - a3_z).toNat; rw [show (s_15.2.2.2.length : Int) - a3_z = rr_40.toInt - a3_z by omega]; omega), (by rw [zc_148, show a3_z = i6_50_z by omega]; exact iv_69)⟩, fun j => (by rw [zs_136 j, zk_99]; have e1 : (3 : Int32).toInt = 3 := ti_3; by_cases c : j = a1_z.toNat; rw [if_pos c, if_pos c]; omega; rw [if_neg c, if_neg c])⟩), fun h => absurd ⟨s_15, by omega, hs_16, by omega, by omega, by omega⟩ h⟩⟩ dX12_grade_254
                    · have z_b_149 := trivial
                      have k_150 : v_74.toInt ≤ 20 := z_nlt ti_20 rfl c_129
                      refine lv_iconst (v := 2) X.1 X.2.1 dX12_grade_242 (by decide) ?_
                      refine lv_goto (tgt := 247) X.1 X.2.1 dX12_grade_243 (by decide) ?_
                      refine r_iast X hw h_121 rfl (by rw [h_122]; exact z_ix hz_a1 (by omega) (by omega)) dX12_grade_247 (fun H locs hw => ?_)
                      obtain ⟨S_151, eS_151⟩ : ∃ T, T = sA T_92 q_119 (upd (pA T_92 q_119) (Int32.toNatClampNeg (a1)) (2)) := ⟨_, rfl⟩
                      rw [← eS_151] at hw
                      have hO_152 : Ok Mgr S S_151 := hO_T_92.sA eS_151 h_121 (by decide +kernel) (uA_1074 hO_T_92.1 h_121 (by rw [ti_2]; omega) (by rw [ti_2]; omega))
                      have h_153 : pA S_151 q_119 (Int32.toNatClampNeg (a1)) = 2 := tA_sAs eS_151
                      have t_154 : pR S_151 1243 x = some q_119 := tR_sA eS_151 h_120
                      have t_156 : pR T_92 1243 x = some q_119 := by have h := t_154; rw [eS_151, pR_sA] at h; exact h
                      have zs_155 : ∀ j, zA S_151 x 1243 j = if j = (a1_z).toNat then 2 else zA T_92 x 1243 j := by have h := zA_sAs eS_151 t_156 ti_2; rw [z_nc hz_a1 (by omega)] at h; exact h
                      refine lv_aload_n X.1 X.2.1 dX12_grade_248 rfl (lv_at hl 3 rfl) ?_
                      have t_157 : At S_151 x 12 := tAt_sA eS_151 ha_x_L_93
                      refine r_getR (g := 1243) X hw t_157 rfl 43 t_154 (by decide) rfl inn_X12_grade_12 (by decide) (X.2.2.2.1 (.fieldLink RX12 112 "SilkMillModel" "skeinGrade" "[I") (by decide +kernel)) rfl (gv_1243 _ _) dX12_grade_249 ?_
                      refine lv_iload_n X.1 X.2.1 dX12_grade_252 rfl (lv_at hl 4 rfl) ?_
                      have t_158 : At S_151 q_119 1074 := tAt_sA eS_151 h_121
                      have t_159 : pN S_151 q_119 = 40 := tN_sA eS_151 h_122
                      clear h_122
                      refine r_iald X hw t_158 rfl (by rw [t_159]; exact z_ix hz_a1 (by omega) (by omega)) dX12_grade_253 ?_
                      rw [h_153]
                      have t_160 : pI S_151 1249 x = v_74 := tI_sA eS_151 ik_104
                      have t_161 : pI S_151 1251 x = a3 := tI_sA eS_151 ik_106
                      have pz_162 : (pI S_151 1251 x).toInt = a3_z := (congrArg Int32.toInt t_161).trans hz_a3
                      have t_163 : pI S_151 1250 x = v_107 := tI_sA eS_151 ev_107
                      have pz_164 : (pI S_151 1250 x).toInt = v_107.toInt := (congrArg Int32.toInt t_163).trans rfl
                      have go_165 : v_74 = gdO (mtZ S x) s_15 a2 a3_z := by have h := iv_71; rw [ev_74, show (i6_50_z) = a3_z by omega] at h; exact h
                      have hu_166 : (rr_40 : Int32).toInt = (s_15.2.2.2.length : Int) := (by have e1 : (rr_40 : Int32).toInt = rr_40.toInt := rfl; omega)
                      have zc_167 : zA S_151 x 1252 = zA T_51 x 1252 := (zA_sAn eS_151 (ex3 (gQ_12_1252 hO_T_92.1 ha_x_L_93)) h_121 rfl).trans zk_96
                      rw [hQQ]
                      exact ret_i X hw hr hlocks (Nat.le_of_ble_eq_true rfl) (Nat.le_of_ble_eq_true rfl) ⟨hO_152, ⟨z_lo _, z_hi _, fun s h0 h1 h2 h3 h4 => (by rw [hs_16] at h1; cases h1; exact ⟨(by rw [← go_165, grF_2 (by have e1 : (v_74 : Int32).toInt = v_74.toInt := rfl; omega) (by have e1 : (v_74 : Int32).toInt = v_74.toInt := rfl; omega)]; have e1 : (2 : Int32).toInt = 2 := ti_2; omega), ⟨by omega, t_160.trans go_165, (by have h := bb_117; rw [← oi_e hu_166] at h; show _ = bdF (Int32.ofInt (s_15.2.2.2.length : Int)) a3_z.toNat ((s_15.2.2.2.length : Int) - a3_z).toNat; rw [show (s_15.2.2.2.length : Int) - a3_z = rr_40.toInt - a3_z by omega]; omega), (by rw [zc_167, show a3_z = i6_50_z by omega]; exact iv_69)⟩, fun j => (by rw [zs_155 j, zk_99]; have e1 : (2 : Int32).toInt = 2 := ti_2; by_cases c : j = a1_z.toNat; rw [if_pos c, if_pos c]; omega; rw [if_neg c, if_neg c])⟩), fun h => absurd ⟨s_15, by omega, hs_16, by omega, by omega, by omega⟩ h⟩⟩ dX12_grade_254
                  · have z_b_168 := trivial
                    have k_169 : v_74.toInt ≤ 8 := z_nlt ti_8 rfl c_126
                    refine lv_iconst (v := 1) X.1 X.2.1 dX12_grade_229 (by decide) ?_
                    refine lv_goto (tgt := 247) X.1 X.2.1 dX12_grade_230 (by decide) ?_
                    refine r_iast X hw h_121 rfl (by rw [h_122]; exact z_ix hz_a1 (by omega) (by omega)) dX12_grade_247 (fun H locs hw => ?_)
                    obtain ⟨S_170, eS_170⟩ : ∃ T, T = sA T_92 q_119 (upd (pA T_92 q_119) (Int32.toNatClampNeg (a1)) (1)) := ⟨_, rfl⟩
                    rw [← eS_170] at hw
                    have hO_171 : Ok Mgr S S_170 := hO_T_92.sA eS_170 h_121 (by decide +kernel) (uA_1074 hO_T_92.1 h_121 (by rw [ti_1]; omega) (by rw [ti_1]; omega))
                    have h_172 : pA S_170 q_119 (Int32.toNatClampNeg (a1)) = 1 := tA_sAs eS_170
                    have t_173 : pR S_170 1243 x = some q_119 := tR_sA eS_170 h_120
                    have t_175 : pR T_92 1243 x = some q_119 := by have h := t_173; rw [eS_170, pR_sA] at h; exact h
                    have zs_174 : ∀ j, zA S_170 x 1243 j = if j = (a1_z).toNat then 1 else zA T_92 x 1243 j := by have h := zA_sAs eS_170 t_175 ti_1; rw [z_nc hz_a1 (by omega)] at h; exact h
                    refine lv_aload_n X.1 X.2.1 dX12_grade_248 rfl (lv_at hl 3 rfl) ?_
                    have t_176 : At S_170 x 12 := tAt_sA eS_170 ha_x_L_93
                    refine r_getR (g := 1243) X hw t_176 rfl 43 t_173 (by decide) rfl inn_X12_grade_12 (by decide) (X.2.2.2.1 (.fieldLink RX12 112 "SilkMillModel" "skeinGrade" "[I") (by decide +kernel)) rfl (gv_1243 _ _) dX12_grade_249 ?_
                    refine lv_iload_n X.1 X.2.1 dX12_grade_252 rfl (lv_at hl 4 rfl) ?_
                    have t_177 : At S_170 q_119 1074 := tAt_sA eS_170 h_121
                    have t_178 : pN S_170 q_119 = 40 := tN_sA eS_170 h_122
                    clear h_122
                    refine r_iald X hw t_177 rfl (by rw [t_178]; exact z_ix hz_a1 (by omega) (by omega)) dX12_grade_253 ?_
                    rw [h_172]
                    have t_179 : pI S_170 1249 x = v_74 := tI_sA eS_170 ik_104
                    have t_180 : pI S_170 1251 x = a3 := tI_sA eS_170 ik_106
                    have pz_181 : (pI S_170 1251 x).toInt = a3_z := (congrArg Int32.toInt t_180).trans hz_a3
                    have t_182 : pI S_170 1250 x = v_107 := tI_sA eS_170 ev_107
                    have pz_183 : (pI S_170 1250 x).toInt = v_107.toInt := (congrArg Int32.toInt t_182).trans rfl
                    have go_184 : v_74 = gdO (mtZ S x) s_15 a2 a3_z := by have h := iv_71; rw [ev_74, show (i6_50_z) = a3_z by omega] at h; exact h
                    have hu_185 : (rr_40 : Int32).toInt = (s_15.2.2.2.length : Int) := (by have e1 : (rr_40 : Int32).toInt = rr_40.toInt := rfl; omega)
                    have zc_186 : zA S_170 x 1252 = zA T_51 x 1252 := (zA_sAn eS_170 (ex3 (gQ_12_1252 hO_T_92.1 ha_x_L_93)) h_121 rfl).trans zk_96
                    rw [hQQ]
                    exact ret_i X hw hr hlocks (Nat.le_of_ble_eq_true rfl) (Nat.le_of_ble_eq_true rfl) ⟨hO_171, ⟨z_lo _, z_hi _, fun s h0 h1 h2 h3 h4 => (by rw [hs_16] at h1; cases h1; exact ⟨(by rw [← go_184, grF_1 (by have e1 : (v_74 : Int32).toInt = v_74.toInt := rfl; omega) (by have e1 : (v_74 : Int32).toInt = v_74.toInt := rfl; omega)]; have e1 : (1 : Int32).toInt = 1 := ti_1; omega), ⟨by omega, t_179.trans go_184, (by have h := bb_117; rw [← oi_e hu_185] at h; show _ = bdF (Int32.ofInt (s_15.2.2.2.length : Int)) a3_z.toNat ((s_15.2.2.2.length : Int) - a3_z).toNat; rw [show (s_15.2.2.2.length : Int) - a3_z = rr_40.toInt - a3_z by omega]; omega), (by rw [zc_186, show a3_z = i6_50_z by omega]; exact iv_69)⟩, fun j => (by rw [zs_174 j, zk_99]; have e1 : (1 : Int32).toInt = 1 := ti_1; by_cases c : j = a1_z.toNat; rw [if_pos c, if_pos c]; omega; rw [if_neg c, if_neg c])⟩), fun h => absurd ⟨s_15, by omega, hs_16, by omega, by omega, by omega⟩ h⟩⟩ dX12_grade_254
                · have z_b_187 := trivial
                  have k_188 : v_74.toInt ≤ 3 := z_nlt ti_3 rfl c_123
                  refine lv_iconst (v := 0) X.1 X.2.1 dX12_grade_216 (by decide) ?_
                  refine lv_goto (tgt := 247) X.1 X.2.1 dX12_grade_217 (by decide) ?_
                  refine r_iast X hw h_121 rfl (by rw [h_122]; exact z_ix hz_a1 (by omega) (by omega)) dX12_grade_247 (fun H locs hw => ?_)
                  obtain ⟨S_189, eS_189⟩ : ∃ T, T = sA T_92 q_119 (upd (pA T_92 q_119) (Int32.toNatClampNeg (a1)) (0)) := ⟨_, rfl⟩
                  rw [← eS_189] at hw
                  have hO_190 : Ok Mgr S S_189 := hO_T_92.sA eS_189 h_121 (by decide +kernel) (uA_1074 hO_T_92.1 h_121 (by rw [ti_0]; omega) (by rw [ti_0]; omega))
                  have h_191 : pA S_189 q_119 (Int32.toNatClampNeg (a1)) = 0 := tA_sAs eS_189
                  have t_192 : pR S_189 1243 x = some q_119 := tR_sA eS_189 h_120
                  have t_194 : pR T_92 1243 x = some q_119 := by have h := t_192; rw [eS_189, pR_sA] at h; exact h
                  have zs_193 : ∀ j, zA S_189 x 1243 j = if j = (a1_z).toNat then 0 else zA T_92 x 1243 j := by have h := zA_sAs eS_189 t_194 ti_0; rw [z_nc hz_a1 (by omega)] at h; exact h
                  refine lv_aload_n X.1 X.2.1 dX12_grade_248 rfl (lv_at hl 3 rfl) ?_
                  have t_195 : At S_189 x 12 := tAt_sA eS_189 ha_x_L_93
                  refine r_getR (g := 1243) X hw t_195 rfl 43 t_192 (by decide) rfl inn_X12_grade_12 (by decide) (X.2.2.2.1 (.fieldLink RX12 112 "SilkMillModel" "skeinGrade" "[I") (by decide +kernel)) rfl (gv_1243 _ _) dX12_grade_249 ?_
                  refine lv_iload_n X.1 X.2.1 dX12_grade_252 rfl (lv_at hl 4 rfl) ?_
                  have t_196 : At S_189 q_119 1074 := tAt_sA eS_189 h_121
                  have t_197 : pN S_189 q_119 = 40 := tN_sA eS_189 h_122
                  clear h_122
                  refine r_iald X hw t_196 rfl (by rw [t_197]; exact z_ix hz_a1 (by omega) (by omega)) dX12_grade_253 ?_
                  rw [h_191]
                  have t_198 : pI S_189 1249 x = v_74 := tI_sA eS_189 ik_104
                  have t_199 : pI S_189 1251 x = a3 := tI_sA eS_189 ik_106
                  have pz_200 : (pI S_189 1251 x).toInt = a3_z := (congrArg Int32.toInt t_199).trans hz_a3
                  have t_201 : pI S_189 1250 x = v_107 := tI_sA eS_189 ev_107
                  have pz_202 : (pI S_189 1250 x).toInt = v_107.toInt := (congrArg Int32.toInt t_201).trans rfl
                  have go_203 : v_74 = gdO (mtZ S x) s_15 a2 a3_z := by have h := iv_71; rw [ev_74, show (i6_50_z) = a3_z by omega] at h; exact h
                  have hu_204 : (rr_40 : Int32).toInt = (s_15.2.2.2.length : Int) := (by have e1 : (rr_40 : Int32).toInt = rr_40.toInt := rfl; omega)
                  have zc_205 : zA S_189 x 1252 = zA T_51 x 1252 := (zA_sAn eS_189 (ex3 (gQ_12_1252 hO_T_92.1 ha_x_L_93)) h_121 rfl).trans zk_96
                  rw [hQQ]
                  exact ret_i X hw hr hlocks (Nat.le_of_ble_eq_true rfl) (Nat.le_of_ble_eq_true rfl) ⟨hO_190, ⟨z_lo _, z_hi _, fun s h0 h1 h2 h3 h4 => (by rw [hs_16] at h1; cases h1; exact ⟨(by rw [← go_203, grF_0 (by have e1 : (v_74 : Int32).toInt = v_74.toInt := rfl; omega)]; have e1 : (0 : Int32).toInt = 0 := ti_0; omega), ⟨by omega, t_198.trans go_203, (by have h := bb_117; rw [← oi_e hu_204] at h; show _ = bdF (Int32.ofInt (s_15.2.2.2.length : Int)) a3_z.toNat ((s_15.2.2.2.length : Int) - a3_z).toNat; rw [show (s_15.2.2.2.length : Int) - a3_z = rr_40.toInt - a3_z by omega]; omega), (by rw [zc_205, show a3_z = i6_50_z by omega]; exact iv_69)⟩, fun j => (by rw [zs_193 j, zk_99]; have e1 : (0 : Int32).toInt = 0 := ti_0; by_cases c : j = a1_z.toNat; rw [if_pos c, if_pos c]; omega; rw [if_neg c, if_neg c])⟩), fun h => absurd ⟨s_15, by omega, hs_16, by omega, by omega, by omega⟩ h⟩⟩ dX12_grade_254
              · have z_b_206 := trivial
                have k_207 : v_107.toInt > 0 := z_nle rfl ti_0 c_114
                refine lv_ldc2 (v := 20) X.1 X.2.1 X.2.2.2.2.1 (X.2.2.2.1 (.constantLong RX12 394 20) (by decide +kernel)) dX12_grade_165 ?_
                refine lv_iload X.1 X.2.1 dX12_grade_168 (lv_at hl 2 rfl) ?_
                refine lv_aload_n X.1 X.2.1 dX12_grade_170 rfl (lv_at hl 3 rfl) ?_
                refine r_getI (g := 1250) (x := v_107) X hw ha_x_L_93 rfl 50 ev_107 (by decide) rfl inn_X12_grade_12 (by decide) (X.2.2.2.1 (.fieldLink RX12 391 "SilkMillModel" "bound" "I") (by decide +kernel)) rfl (gv_1250 _ _) dX12_grade_171 ?_
                refine lv_isub X.1 X.2.1 dX12_grade_174 ?_
                refine lv_topi (fun v_208 ev_208 => ?_)
                have z_209 : v_208.toInt = rr_40.toInt - v_107.toInt := z_sub ev_208 rfl rfl (by omega) (by omega)
                refine lv_iload_n X.1 X.2.1 dX12_grade_175 rfl (lv_at hl 6 rfl) ?_
                refine k_l (rm := { frames := 1, cells := 0, slots := 0, locals := 48 }) (av := [.int (v_208), .int (a3)]) X hw (va_runS (As := [.int (v_208), .int (a3)]) (rest := [.long (20)]) (cfix X) (k_X12_ways7 l G cy κ T_92 _ (v_208) ((rr_40.toInt - v_107.toInt)) (a3) (a3_z) hO_T_92.1 z_209 hz_a3 (by omega)) (cwS 2 X.2.2.2.1 gX12_grade_X12_ways rfl rfl rfl (by decide +kernel) ⟨Nat.le_of_ble_eq_true rfl, Nat.le_of_ble_eq_true rfl⟩) (pre_S X hw _) rfl rfl hl.1 rfl (lv_room (Nat.le_of_ble_eq_true rfl)) dX12_grade_176 ⟨Nat.le_of_ble_eq_true rfl, Nat.le_of_ble_eq_true rfl⟩) 0 0 (Nat.le_of_ble_eq_true rfl) (Nat.le_of_ble_eq_true rfl) (fun rr_210 S_211 H locs hp hw hfr hnw => ?_)
                obtain ⟨e2, hp⟩ := hp
                subst e2
                have wy_212 : rr_210 = wyI (v_208) (a3_z).toNat := hp
                refine lv_lmul X.1 X.2.1 dX12_grade_179 ?_
                refine lv_topl (fun v_213 ev_213 => ?_)
                refine lv_iload X.1 X.2.1 dX12_grade_180 (lv_at hl 2 rfl) ?_
                refine lv_iload_n X.1 X.2.1 dX12_grade_182 rfl (lv_at hl 6 rfl) ?_
                refine k_l (rm := { frames := 1, cells := 0, slots := 0, locals := 48 }) (av := [.int (rr_40), .int (a3)]) X hw (va_runS (As := [.int (rr_40), .int (a3)]) (rest := [.long (v_213)]) (cfix X) (k_X12_ways7 l G cy κ T_92 _ (rr_40) (rr_40.toInt) (a3) (a3_z) hO_T_92.1 rfl hz_a3 (by omega)) (cwS 2 X.2.2.2.1 gX12_grade_X12_ways rfl rfl rfl (by decide +kernel) ⟨Nat.le_of_ble_eq_true rfl, Nat.le_of_ble_eq_true rfl⟩) (pre_S X hw _) rfl rfl hl.1 rfl (lv_room (Nat.le_of_ble_eq_true rfl)) dX12_grade_183 ⟨Nat.le_of_ble_eq_true rfl, Nat.le_of_ble_eq_true rfl⟩) 0 0 (Nat.le_of_ble_eq_true rfl) (Nat.le_of_ble_eq_true rfl) (fun rr_214 S_215 H locs hp hw hfr hnw => ?_)
                obtain ⟨e2, hp⟩ := hp
                subst e2
                have wy_216 : rr_214 = wyI (rr_40) (a3_z).toNat := hp
                refine W.lcmp X.1 X.2.1 dX12_grade_186 ?_
                refine lv_topi (fun v_217 ev_217 => ?_)
                have rg_218 := And.intro (z_lo v_217) (z_hi v_217)
                refine lv_if_ge (tgt := 203) X.1 X.2.1 dX12_grade_187 (by decide) (fun c_219 => ?_) (fun c_219 => ?_)
                · have z_b_220 := trivial
                  have k_221 : v_217.toInt ≥ 0 := z_le ti_0 rfl c_219
                  have pz_223 : (pI T_92 1250 x).toInt = v_107.toInt := (congrArg Int32.toInt ev_107).trans rfl
                  have cl_224 : ¬ 20 * wyI (rr_40 - Int32.ofInt ((((v_107.toInt - 1).toNat : Nat) : Int) + 1)) a3_z.toNat < wyI rr_40 a3_z.toNat := by have h := cmp_ge ev_217 (by omega); rw [ev_213, wy_212, ev_208, wy_216] at h; rw [show ((((v_107.toInt - 1).toNat : Nat) : Int) + 1) = v_107.toInt by omega, oi_e rfl]; exact h
                  have bb_222 : (pI T_92 1250 x).toInt = bdF rr_40 a3_z.toNat (rr_40.toInt - a3_z).toNat := by have h := iv_100; rw [show (pI T_92 1250 x).toInt.toNat = (v_107.toInt - 1).toNat + 1 by omega, bdF_ge cl_224] at h; omega
                  refine lv_aload_n X.1 X.2.1 dX12_grade_203 rfl (lv_at hl 3 rfl) ?_
                  obtain ⟨q_225, h_226, h_227, h_228⟩ := gQ_12_1243 hO_T_92.1 ha_x_L_93
                  refine r_getR (g := 1243) X hw ha_x_L_93 rfl 43 h_226 (by decide) rfl inn_X12_grade_12 (by decide) (X.2.2.2.1 (.fieldLink RX12 112 "SilkMillModel" "skeinGrade" "[I") (by decide +kernel)) rfl (gv_1243 _ _) dX12_grade_204 ?_
                  refine lv_iload_n X.1 X.2.1 dX12_grade_207 rfl (lv_at hl 4 rfl) ?_
                  refine lv_aload_n X.1 X.2.1 dX12_grade_208 rfl (lv_at hl 3 rfl) ?_
                  refine r_getI (g := 1249) (x := v_74) X hw ha_x_L_93 rfl 49 ik_104 (by decide) rfl inn_X12_grade_12 (by decide) (X.2.2.2.1 (.fieldLink RX12 382 "SilkMillModel" "off" "I") (by decide +kernel)) rfl (gv_1249 _ _) dX12_grade_209 ?_
                  refine lv_iconst (v := 3) X.1 X.2.1 dX12_grade_212 (by decide) ?_
                  refine lv_icmp_gt (tgt := 220) X.1 X.2.1 dX12_grade_213 (by decide) (fun c_229 => ?_) (fun c_229 => ?_)
                  · have z_b_230 := trivial
                    have k_231 : v_74.toInt > 3 := z_lt ti_3 rfl c_229
                    refine lv_aload_n X.1 X.2.1 dX12_grade_220 rfl (lv_at hl 3 rfl) ?_
                    refine r_getI (g := 1249) (x := v_74) X hw ha_x_L_93 rfl 49 ik_104 (by decide) rfl inn_X12_grade_12 (by decide) (X.2.2.2.1 (.fieldLink RX12 382 "SilkMillModel" "off" "I") (by decide +kernel)) rfl (gv_1249 _ _) dX12_grade_221 ?_
                    refine lv_bipush (v := 8) X.1 X.2.1 dX12_grade_224 (by decide) ?_
                    refine lv_icmp_gt (tgt := 233) X.1 X.2.1 dX12_grade_226 (by decide) (fun c_232 => ?_) (fun c_232 => ?_)
                    · have z_b_233 := trivial
                      have k_234 : v_74.toInt > 8 := z_lt ti_8 rfl c_232
                      refine lv_aload_n X.1 X.2.1 dX12_grade_233 rfl (lv_at hl 3 rfl) ?_
                      refine r_getI (g := 1249) (x := v_74) X hw ha_x_L_93 rfl 49 ik_104 (by decide) rfl inn_X12_grade_12 (by decide) (X.2.2.2.1 (.fieldLink RX12 382 "SilkMillModel" "off" "I") (by decide +kernel)) rfl (gv_1249 _ _) dX12_grade_234 ?_
                      refine lv_bipush (v := 20) X.1 X.2.1 dX12_grade_237 (by decide) ?_
                      refine lv_icmp_gt (tgt := 246) X.1 X.2.1 dX12_grade_239 (by decide) (fun c_235 => ?_) (fun c_235 => ?_)
                      · have z_b_236 := trivial
                        have k_237 : v_74.toInt > 20 := z_lt ti_20 rfl c_235
                        refine lv_iconst (v := 3) X.1 X.2.1 dX12_grade_246 (by decide) ?_
                        refine r_iast X hw h_227 rfl (by rw [h_228]; exact z_ix hz_a1 (by omega) (by omega)) dX12_grade_247 (fun H locs hw => ?_)
                        obtain ⟨S_238, eS_238⟩ : ∃ T, T = sA T_92 q_225 (upd (pA T_92 q_225) (Int32.toNatClampNeg (a1)) (3)) := ⟨_, rfl⟩
                        rw [← eS_238] at hw
                        have hO_239 : Ok Mgr S S_238 := hO_T_92.sA eS_238 h_227 (by decide +kernel) (uA_1074 hO_T_92.1 h_227 (by rw [ti_3]; omega) (by rw [ti_3]; omega))
                        have h_240 : pA S_238 q_225 (Int32.toNatClampNeg (a1)) = 3 := tA_sAs eS_238
                        have t_241 : pR S_238 1243 x = some q_225 := tR_sA eS_238 h_226
                        have t_243 : pR T_92 1243 x = some q_225 := by have h := t_241; rw [eS_238, pR_sA] at h; exact h
                        have zs_242 : ∀ j, zA S_238 x 1243 j = if j = (a1_z).toNat then 3 else zA T_92 x 1243 j := by have h := zA_sAs eS_238 t_243 ti_3; rw [z_nc hz_a1 (by omega)] at h; exact h
                        refine lv_aload_n X.1 X.2.1 dX12_grade_248 rfl (lv_at hl 3 rfl) ?_
                        have t_244 : At S_238 x 12 := tAt_sA eS_238 ha_x_L_93
                        refine r_getR (g := 1243) X hw t_244 rfl 43 t_241 (by decide) rfl inn_X12_grade_12 (by decide) (X.2.2.2.1 (.fieldLink RX12 112 "SilkMillModel" "skeinGrade" "[I") (by decide +kernel)) rfl (gv_1243 _ _) dX12_grade_249 ?_
                        refine lv_iload_n X.1 X.2.1 dX12_grade_252 rfl (lv_at hl 4 rfl) ?_
                        have t_245 : At S_238 q_225 1074 := tAt_sA eS_238 h_227
                        have t_246 : pN S_238 q_225 = 40 := tN_sA eS_238 h_228
                        clear h_228
                        refine r_iald X hw t_245 rfl (by rw [t_246]; exact z_ix hz_a1 (by omega) (by omega)) dX12_grade_253 ?_
                        rw [h_240]
                        have t_247 : pI S_238 1249 x = v_74 := tI_sA eS_238 ik_104
                        have t_248 : pI S_238 1251 x = a3 := tI_sA eS_238 ik_106
                        have pz_249 : (pI S_238 1251 x).toInt = a3_z := (congrArg Int32.toInt t_248).trans hz_a3
                        have t_250 : pI S_238 1250 x = v_107 := tI_sA eS_238 ev_107
                        have pz_251 : (pI S_238 1250 x).toInt = v_107.toInt := (congrArg Int32.toInt t_250).trans rfl
                        have go_252 : v_74 = gdO (mtZ S x) s_15 a2 a3_z := by have h := iv_71; rw [ev_74, show (i6_50_z) = a3_z by omega] at h; exact h
                        have hu_253 : (rr_40 : Int32).toInt = (s_15.2.2.2.length : Int) := (by have e1 : (rr_40 : Int32).toInt = rr_40.toInt := rfl; omega)
                        have zc_254 : zA S_238 x 1252 = zA T_51 x 1252 := (zA_sAn eS_238 (ex3 (gQ_12_1252 hO_T_92.1 ha_x_L_93)) h_227 rfl).trans zk_96
                        rw [hQQ]
                        exact ret_i X hw hr hlocks (Nat.le_of_ble_eq_true rfl) (Nat.le_of_ble_eq_true rfl) ⟨hO_239, ⟨z_lo _, z_hi _, fun s h0 h1 h2 h3 h4 => (by rw [hs_16] at h1; cases h1; exact ⟨(by rw [← go_252, grF_3 (by have e1 : (v_74 : Int32).toInt = v_74.toInt := rfl; omega)]; have e1 : (3 : Int32).toInt = 3 := ti_3; omega), ⟨by omega, t_247.trans go_252, (by have h := bb_222; rw [← oi_e hu_253] at h; show _ = bdF (Int32.ofInt (s_15.2.2.2.length : Int)) a3_z.toNat ((s_15.2.2.2.length : Int) - a3_z).toNat; rw [show (s_15.2.2.2.length : Int) - a3_z = rr_40.toInt - a3_z by omega]; omega), (by rw [zc_254, show a3_z = i6_50_z by omega]; exact iv_69)⟩, fun j => (by rw [zs_242 j, zk_99]; have e1 : (3 : Int32).toInt = 3 := ti_3; by_cases c : j = a1_z.toNat; rw [if_pos c, if_pos c]; omega; rw [if_neg c, if_neg c])⟩), fun h => absurd ⟨s_15, by omega, hs_16, by omega, by omega, by omega⟩ h⟩⟩ dX12_grade_254
                      · have z_b_255 := trivial
                        have k_256 : v_74.toInt ≤ 20 := z_nlt ti_20 rfl c_235
                        refine lv_iconst (v := 2) X.1 X.2.1 dX12_grade_242 (by decide) ?_
                        refine lv_goto (tgt := 247) X.1 X.2.1 dX12_grade_243 (by decide) ?_
                        refine r_iast X hw h_227 rfl (by rw [h_228]; exact z_ix hz_a1 (by omega) (by omega)) dX12_grade_247 (fun H locs hw => ?_)
                        obtain ⟨S_257, eS_257⟩ : ∃ T, T = sA T_92 q_225 (upd (pA T_92 q_225) (Int32.toNatClampNeg (a1)) (2)) := ⟨_, rfl⟩
                        rw [← eS_257] at hw
                        have hO_258 : Ok Mgr S S_257 := hO_T_92.sA eS_257 h_227 (by decide +kernel) (uA_1074 hO_T_92.1 h_227 (by rw [ti_2]; omega) (by rw [ti_2]; omega))
                        have h_259 : pA S_257 q_225 (Int32.toNatClampNeg (a1)) = 2 := tA_sAs eS_257
                        have t_260 : pR S_257 1243 x = some q_225 := tR_sA eS_257 h_226
                        have t_262 : pR T_92 1243 x = some q_225 := by have h := t_260; rw [eS_257, pR_sA] at h; exact h
                        have zs_261 : ∀ j, zA S_257 x 1243 j = if j = (a1_z).toNat then 2 else zA T_92 x 1243 j := by have h := zA_sAs eS_257 t_262 ti_2; rw [z_nc hz_a1 (by omega)] at h; exact h
                        refine lv_aload_n X.1 X.2.1 dX12_grade_248 rfl (lv_at hl 3 rfl) ?_
                        have t_263 : At S_257 x 12 := tAt_sA eS_257 ha_x_L_93
                        refine r_getR (g := 1243) X hw t_263 rfl 43 t_260 (by decide) rfl inn_X12_grade_12 (by decide) (X.2.2.2.1 (.fieldLink RX12 112 "SilkMillModel" "skeinGrade" "[I") (by decide +kernel)) rfl (gv_1243 _ _) dX12_grade_249 ?_
                        refine lv_iload_n X.1 X.2.1 dX12_grade_252 rfl (lv_at hl 4 rfl) ?_
                        have t_264 : At S_257 q_225 1074 := tAt_sA eS_257 h_227
                        have t_265 : pN S_257 q_225 = 40 := tN_sA eS_257 h_228
                        clear h_228
                        refine r_iald X hw t_264 rfl (by rw [t_265]; exact z_ix hz_a1 (by omega) (by omega)) dX12_grade_253 ?_
                        rw [h_259]
                        have t_266 : pI S_257 1249 x = v_74 := tI_sA eS_257 ik_104
                        have t_267 : pI S_257 1251 x = a3 := tI_sA eS_257 ik_106
                        have pz_268 : (pI S_257 1251 x).toInt = a3_z := (congrArg Int32.toInt t_267).trans hz_a3
                        have t_269 : pI S_257 1250 x = v_107 := tI_sA eS_257 ev_107
                        have pz_270 : (pI S_257 1250 x).toInt = v_107.toInt := (congrArg Int32.toInt t_269).trans rfl
                        have go_271 : v_74 = gdO (mtZ S x) s_15 a2 a3_z := by have h := iv_71; rw [ev_74, show (i6_50_z) = a3_z by omega] at h; exact h
                        have hu_272 : (rr_40 : Int32).toInt = (s_15.2.2.2.length : Int) := (by have e1 : (rr_40 : Int32).toInt = rr_40.toInt := rfl; omega)
                        have zc_273 : zA S_257 x 1252 = zA T_51 x 1252 := (zA_sAn eS_257 (ex3 (gQ_12_1252 hO_T_92.1 ha_x_L_93)) h_227 rfl).trans zk_96
                        rw [hQQ]
                        exact ret_i X hw hr hlocks (Nat.le_of_ble_eq_true rfl) (Nat.le_of_ble_eq_true rfl) ⟨hO_258, ⟨z_lo _, z_hi _, fun s h0 h1 h2 h3 h4 => (by rw [hs_16] at h1; cases h1; exact ⟨(by rw [← go_271, grF_2 (by have e1 : (v_74 : Int32).toInt = v_74.toInt := rfl; omega) (by have e1 : (v_74 : Int32).toInt = v_74.toInt := rfl; omega)]; have e1 : (2 : Int32).toInt = 2 := ti_2; omega), ⟨by omega, t_266.trans go_271, (by have h := bb_222; rw [← oi_e hu_272] at h; show _ = bdF (Int32.ofInt (s_15.2.2.2.length : Int)) a3_z.toNat ((s_15.2.2.2.length : Int) - a3_z).toNat; rw [show (s_15.2.2.2.length : Int) - a3_z = rr_40.toInt - a3_z by omega]; omega), (by rw [zc_273, show a3_z = i6_50_z by omega]; exact iv_69)⟩, fun j => (by rw [zs_261 j, zk_99]; have e1 : (2 : Int32).toInt = 2 := ti_2; by_cases c : j = a1_z.toNat; rw [if_pos c, if_pos c]; omega; rw [if_neg c, if_neg c])⟩), fun h => absurd ⟨s_15, by omega, hs_16, by omega, by omega, by omega⟩ h⟩⟩ dX12_grade_254
                    · have z_b_274 := trivial
                      have k_275 : v_74.toInt ≤ 8 := z_nlt ti_8 rfl c_232
                      refine lv_iconst (v := 1) X.1 X.2.1 dX12_grade_229 (by decide) ?_
                      refine lv_goto (tgt := 247) X.1 X.2.1 dX12_grade_230 (by decide) ?_
                      refine r_iast X hw h_227 rfl (by rw [h_228]; exact z_ix hz_a1 (by omega) (by omega)) dX12_grade_247 (fun H locs hw => ?_)
                      obtain ⟨S_276, eS_276⟩ : ∃ T, T = sA T_92 q_225 (upd (pA T_92 q_225) (Int32.toNatClampNeg (a1)) (1)) := ⟨_, rfl⟩
                      rw [← eS_276] at hw
                      have hO_277 : Ok Mgr S S_276 := hO_T_92.sA eS_276 h_227 (by decide +kernel) (uA_1074 hO_T_92.1 h_227 (by rw [ti_1]; omega) (by rw [ti_1]; omega))
                      have h_278 : pA S_276 q_225 (Int32.toNatClampNeg (a1)) = 1 := tA_sAs eS_276
                      have t_279 : pR S_276 1243 x = some q_225 := tR_sA eS_276 h_226
                      have t_281 : pR T_92 1243 x = some q_225 := by have h := t_279; rw [eS_276, pR_sA] at h; exact h
                      have zs_280 : ∀ j, zA S_276 x 1243 j = if j = (a1_z).toNat then 1 else zA T_92 x 1243 j := by have h := zA_sAs eS_276 t_281 ti_1; rw [z_nc hz_a1 (by omega)] at h; exact h
                      refine lv_aload_n X.1 X.2.1 dX12_grade_248 rfl (lv_at hl 3 rfl) ?_
                      have t_282 : At S_276 x 12 := tAt_sA eS_276 ha_x_L_93
                      refine r_getR (g := 1243) X hw t_282 rfl 43 t_279 (by decide) rfl inn_X12_grade_12 (by decide) (X.2.2.2.1 (.fieldLink RX12 112 "SilkMillModel" "skeinGrade" "[I") (by decide +kernel)) rfl (gv_1243 _ _) dX12_grade_249 ?_
                      refine lv_iload_n X.1 X.2.1 dX12_grade_252 rfl (lv_at hl 4 rfl) ?_
                      have t_283 : At S_276 q_225 1074 := tAt_sA eS_276 h_227
                      have t_284 : pN S_276 q_225 = 40 := tN_sA eS_276 h_228
                      clear h_228
                      refine r_iald X hw t_283 rfl (by rw [t_284]; exact z_ix hz_a1 (by omega) (by omega)) dX12_grade_253 ?_
                      rw [h_278]
                      have t_285 : pI S_276 1249 x = v_74 := tI_sA eS_276 ik_104
                      have t_286 : pI S_276 1251 x = a3 := tI_sA eS_276 ik_106
                      have pz_287 : (pI S_276 1251 x).toInt = a3_z := (congrArg Int32.toInt t_286).trans hz_a3
                      have t_288 : pI S_276 1250 x = v_107 := tI_sA eS_276 ev_107
                      have pz_289 : (pI S_276 1250 x).toInt = v_107.toInt := (congrArg Int32.toInt t_288).trans rfl
                      have go_290 : v_74 = gdO (mtZ S x) s_15 a2 a3_z := by have h := iv_71; rw [ev_74, show (i6_50_z) = a3_z by omega] at h; exact h
                      have hu_291 : (rr_40 : Int32).toInt = (s_15.2.2.2.length : Int) := (by have e1 : (rr_40 : Int32).toInt = rr_40.toInt := rfl; omega)
                      have zc_292 : zA S_276 x 1252 = zA T_51 x 1252 := (zA_sAn eS_276 (ex3 (gQ_12_1252 hO_T_92.1 ha_x_L_93)) h_227 rfl).trans zk_96
                      rw [hQQ]
                      exact ret_i X hw hr hlocks (Nat.le_of_ble_eq_true rfl) (Nat.le_of_ble_eq_true rfl) ⟨hO_277, ⟨z_lo _, z_hi _, fun s h0 h1 h2 h3 h4 => (by rw [hs_16] at h1; cases h1; exact ⟨(by rw [← go_290, grF_1 (by have e1 : (v_74 : Int32).toInt = v_74.toInt := rfl; omega) (by have e1 : (v_74 : Int32).toInt = v_74.toInt := rfl; omega)]; have e1 : (1 : Int32).toInt = 1 := ti_1; omega), ⟨by omega, t_285.trans go_290, (by have h := bb_222; rw [← oi_e hu_291] at h; show _ = bdF (Int32.ofInt (s_15.2.2.2.length : Int)) a3_z.toNat ((s_15.2.2.2.length : Int) - a3_z).toNat; rw [show (s_15.2.2.2.length : Int) - a3_z = rr_40.toInt - a3_z by omega]; omega), (by rw [zc_292, show a3_z = i6_50_z by omega]; exact iv_69)⟩, fun j => (by rw [zs_280 j, zk_99]; have e1 : (1 : Int32).toInt = 1 := ti_1; by_cases c : j = a1_z.toNat; rw [if_pos c, if_pos c]; omega; rw [if_neg c, if_neg c])⟩), fun h => absurd ⟨s_15, by omega, hs_16, by omega, by omega, by omega⟩ h⟩⟩ dX12_grade_254
                  · have z_b_293 := trivial
                    have k_294 : v_74.toInt ≤ 3 := z_nlt ti_3 rfl c_229
                    refine lv_iconst (v := 0) X.1 X.2.1 dX12_grade_216 (by decide) ?_
                    refine lv_goto (tgt := 247) X.1 X.2.1 dX12_grade_217 (by decide) ?_
                    refine r_iast X hw h_227 rfl (by rw [h_228]; exact z_ix hz_a1 (by omega) (by omega)) dX12_grade_247 (fun H locs hw => ?_)
                    obtain ⟨S_295, eS_295⟩ : ∃ T, T = sA T_92 q_225 (upd (pA T_92 q_225) (Int32.toNatClampNeg (a1)) (0)) := ⟨_, rfl⟩
                    rw [← eS_295] at hw
                    have hO_296 : Ok Mgr S S_295 := hO_T_92.sA eS_295 h_227 (by decide +kernel) (uA_1074 hO_T_92.1 h_227 (by rw [ti_0]; omega) (by rw [ti_0]; omega))
                    have h_297 : pA S_295 q_225 (Int32.toNatClampNeg (a1)) = 0 := tA_sAs eS_295
                    have t_298 : pR S_295 1243 x = some q_225 := tR_sA eS_295 h_226
                    have t_300 : pR T_92 1243 x = some q_225 := by have h := t_298; rw [eS_295, pR_sA] at h; exact h
                    have zs_299 : ∀ j, zA S_295 x 1243 j = if j = (a1_z).toNat then 0 else zA T_92 x 1243 j := by have h := zA_sAs eS_295 t_300 ti_0; rw [z_nc hz_a1 (by omega)] at h; exact h
                    refine lv_aload_n X.1 X.2.1 dX12_grade_248 rfl (lv_at hl 3 rfl) ?_
                    have t_301 : At S_295 x 12 := tAt_sA eS_295 ha_x_L_93
                    refine r_getR (g := 1243) X hw t_301 rfl 43 t_298 (by decide) rfl inn_X12_grade_12 (by decide) (X.2.2.2.1 (.fieldLink RX12 112 "SilkMillModel" "skeinGrade" "[I") (by decide +kernel)) rfl (gv_1243 _ _) dX12_grade_249 ?_
                    refine lv_iload_n X.1 X.2.1 dX12_grade_252 rfl (lv_at hl 4 rfl) ?_
                    have t_302 : At S_295 q_225 1074 := tAt_sA eS_295 h_227
                    have t_303 : pN S_295 q_225 = 40 := tN_sA eS_295 h_228
                    clear h_228
                    refine r_iald X hw t_302 rfl (by rw [t_303]; exact z_ix hz_a1 (by omega) (by omega)) dX12_grade_253 ?_
                    rw [h_297]
                    have t_304 : pI S_295 1249 x = v_74 := tI_sA eS_295 ik_104
                    have t_305 : pI S_295 1251 x = a3 := tI_sA eS_295 ik_106
                    have pz_306 : (pI S_295 1251 x).toInt = a3_z := (congrArg Int32.toInt t_305).trans hz_a3
                    have t_307 : pI S_295 1250 x = v_107 := tI_sA eS_295 ev_107
                    have pz_308 : (pI S_295 1250 x).toInt = v_107.toInt := (congrArg Int32.toInt t_307).trans rfl
                    have go_309 : v_74 = gdO (mtZ S x) s_15 a2 a3_z := by have h := iv_71; rw [ev_74, show (i6_50_z) = a3_z by omega] at h; exact h
                    have hu_310 : (rr_40 : Int32).toInt = (s_15.2.2.2.length : Int) := (by have e1 : (rr_40 : Int32).toInt = rr_40.toInt := rfl; omega)
                    have zc_311 : zA S_295 x 1252 = zA T_51 x 1252 := (zA_sAn eS_295 (ex3 (gQ_12_1252 hO_T_92.1 ha_x_L_93)) h_227 rfl).trans zk_96
                    rw [hQQ]
                    exact ret_i X hw hr hlocks (Nat.le_of_ble_eq_true rfl) (Nat.le_of_ble_eq_true rfl) ⟨hO_296, ⟨z_lo _, z_hi _, fun s h0 h1 h2 h3 h4 => (by rw [hs_16] at h1; cases h1; exact ⟨(by rw [← go_309, grF_0 (by have e1 : (v_74 : Int32).toInt = v_74.toInt := rfl; omega)]; have e1 : (0 : Int32).toInt = 0 := ti_0; omega), ⟨by omega, t_304.trans go_309, (by have h := bb_222; rw [← oi_e hu_310] at h; show _ = bdF (Int32.ofInt (s_15.2.2.2.length : Int)) a3_z.toNat ((s_15.2.2.2.length : Int) - a3_z).toNat; rw [show (s_15.2.2.2.length : Int) - a3_z = rr_40.toInt - a3_z by omega]; omega), (by rw [zc_311, show a3_z = i6_50_z by omega]; exact iv_69)⟩, fun j => (by rw [zs_299 j, zk_99]; have e1 : (0 : Int32).toInt = 0 := ti_0; by_cases c : j = a1_z.toNat; rw [if_pos c, if_pos c]; omega; rw [if_neg c, if_neg c])⟩), fun h => absurd ⟨s_15, by omega, hs_16, by omega, by omega, by omega⟩ h⟩⟩ dX12_grade_254
                · have z_b_312 := trivial
                  have k_313 : v_217.toInt < 0 := z_nle ti_0 rfl c_219
                  refine lv_aload_n X.1 X.2.1 dX12_grade_190 rfl (lv_at hl 3 rfl) ?_
                  refine lv_dup X.1 X.2.1 dX12_grade_191 rfl ?_
                  refine r_getI (g := 1250) (x := v_107) X hw ha_x_L_93 rfl 50 ev_107 (by decide) rfl inn_X12_grade_12 (by decide) (X.2.2.2.1 (.fieldLink RX12 391 "SilkMillModel" "bound" "I") (by decide +kernel)) rfl (gv_1250 _ _) dX12_grade_192 ?_
                  refine lv_iconst (v := 1) X.1 X.2.1 dX12_grade_195 (by decide) ?_
                  refine lv_isub X.1 X.2.1 dX12_grade_196 ?_
                  refine lv_topi (fun v_314 ev_314 => ?_)
                  have z_315 : v_314.toInt = v_107.toInt - 1 := z_sub ev_314 rfl ti_1 (by omega) (by omega)
                  refine r_putI (v := v_314) X hw ha_x_L_93 rfl 50 1250 tyX12 (by decide) rfl inn_X12_grade_12 tyX12_ok nmX12 (by decide) (X.2.2.2.1 (.fieldLink RX12 391 "SilkMillModel" "bound" "I") (by decide +kernel)) rfl (Or.inl rfl) rfl rfl (Nat.le_of_ble_eq_true rfl) (st_1250 _ _) dX12_grade_197 (fun H locs hw => ?_)
                  obtain ⟨S_316, eS_316⟩ : ∃ T, T = sI T_92 1250 x (v_314) := ⟨_, rfl⟩
                  rw [← eS_316] at hw
                  have hO_317 : Ok Mgr S S_316 := hO_T_92.sI eS_316 (by decide +kernel) (uI_12_1250 hO_T_92.1 ha_x_L_93)
                  have h_318 : pI S_316 1250 x = v_314 := tI_sIs eS_316
                  refine lv_goto (tgt := 158) X.1 X.2.1 dX12_grade_200 (by decide) ?_
                  have pz_319 : (pI S_316 1250 x).toInt = (v_107.toInt - 1) := (congrArg Int32.toInt h_318).trans z_315
                  have t_320 : At S_316 x 12 := tAt_sI eS_316 ha_x_L_93
                  have zc_321 : zA S_316 x 1252 = zA T_51 x 1252 := (zA_sI eS_316).trans zk_96
                  have zc_322 : zA S_316 x 1243 = zA S x 1243 := (zA_sI eS_316).trans zk_99
                  have cl_323 : 20 * wyI (rr_40 - Int32.ofInt ((((pI S_316 1250 x).toInt.toNat : Nat) : Int) + 1)) a3_z.toNat < wyI rr_40 a3_z.toNat := by have h := cmp_lt ev_217 (by omega); rw [ev_213, wy_212, ev_208, wy_216] at h; rw [show ((((pI S_316 1250 x).toInt.toNat : Nat) : Int) + 1) = v_107.toInt by omega, oi_e rfl]; exact h
                  have t_324 : pI S_316 1249 x = v_74 := tI_sI eS_316 rfl ik_104
                  have t_325 : pI S_316 1251 x = a3 := tI_sI eS_316 rfl ik_106
                  exact ih_L_91 _ (by omega) _ _ _ _  rfl hw t_320 hO_317 zc_321 zc_322 (by have h := iv_100; rw [show (pI T_92 1250 x).toInt.toNat = (pI S_316 1250 x).toInt.toNat + 1 by omega, bdF_lt cl_323] at h; exact h) (by omega) t_324 t_325 (lv_sub hl [0, 1, 2, 3, 4, 5, 6] rfl)
            have pz_326 : (pI S_88 1250 x).toInt = (rr_40.toInt - a3_z) := (congrArg Int32.toInt h_90).trans z_86
            have t_327 : At S_88 x 12 := tAt_sI eS_88 t_87
            exact L_91 _ _ _ _ _  rfl hw t_327 hO_89 zc_95 zc_98 (by rw [show (pI S_88 1250 x).toInt = rr_40.toInt - a3_z by omega]) (by omega) t_103 t_105 (lv_sub hl [0, 1, 2, 3, 4, 5, 6] rfl)
          · have z_b_328 := trivial
            have k_329 : i6_50_z < a3_z := z_nle hz_a3 hz_i6_50 c_79
            refine lv_iload X.1 X.2.1 dX12_grade_57 (lv_at hl 0 rfl) ?_
            refine k_i (rm := { frames := 1, cells := 0, slots := 0, locals := 48 }) (av := [.int (i5_49)]) X hw (va_runS (As := [.int (i5_49)]) (rest := []) (cfix X) (k_X12_next2 l G cy κ T_51 _ (i5_49) (i5_49_z) hO_T_51.1 hz_i5_49) (cwS 1 X.2.2.2.1 gX12_grade_X12_next rfl rfl rfl (by decide +kernel) ⟨Nat.le_of_ble_eq_true rfl, Nat.le_of_ble_eq_true rfl⟩) (pre_S X hw _) rfl rfl hl.1 rfl (lv_room (Nat.le_of_ble_eq_true rfl)) dX12_grade_59 ⟨Nat.le_of_ble_eq_true rfl, Nat.le_of_ble_eq_true rfl⟩) 0 0 (Nat.le_of_ble_eq_true rfl) (Nat.le_of_ble_eq_true rfl) (fun rr_330 S_331 H locs hp hw hfr hnw => ?_)
            obtain ⟨e2, hp⟩ := hp
            subst e2
            have nx_332 : rr_330 = nxt (i5_49) := hp
            have rg_333 := And.intro (z_lo rr_330) (z_hi rr_330)
            refine lv_istore (lv' := [(5, .int (rr_330)), (6, .int (i6_50)), (4, .int (rr_40)), (0, .ref x), (1, .int (a1)), (2, .int (a2)), (3, .int (a3))]) X.1 X.2.1 dX12_grade_62 hl (by decide) rfl (fun ls hl => ?_)
            refine lv_iload X.1 X.2.1 dX12_grade_64 (lv_at hl 0 rfl) ?_
            refine lv_iload X.1 X.2.1 dX12_grade_66 (lv_at hl 2 rfl) ?_
            refine k_i (rm := { frames := 1, cells := 0, slots := 0, locals := 48 }) (av := [.int (rr_330), .int (rr_40)]) X hw (va_runS (As := [.int (rr_330), .int (rr_40)]) (rest := []) (cfix X) (k_X12_part2 l G cy κ T_51 _ (rr_330) (rr_330.toInt) (rr_40) (rr_40.toInt) hO_T_51.1 rfl rfl (by first | assumption | omega)) (cwS 2 X.2.2.2.1 gX12_grade_X12_part rfl rfl rfl (by decide +kernel) ⟨Nat.le_of_ble_eq_true rfl, Nat.le_of_ble_eq_true rfl⟩) (pre_S X hw _) rfl rfl hl.1 rfl (lv_room (Nat.le_of_ble_eq_true rfl)) dX12_grade_68 ⟨Nat.le_of_ble_eq_true rfl, Nat.le_of_ble_eq_true rfl⟩) 0 0 (Nat.le_of_ble_eq_true rfl) (Nat.le_of_ble_eq_true rfl) (fun rr_334 S_335 H locs hp hw hfr hnw => ?_)
            obtain ⟨e2, hp⟩ := hp
            subst e2
            obtain ⟨pt_336, pt_337, pt_338, pt_339⟩ := hp
            refine lv_istore (lv' := [(7, .int (rr_334)), (5, .int (rr_330)), (6, .int (i6_50)), (4, .int (rr_40)), (0, .ref x), (1, .int (a1)), (2, .int (a2)), (3, .int (a3))]) X.1 X.2.1 dX12_grade_71 hl (by decide) rfl (fun ls hl => ?_)
            have L_340 : ∀ (n : Nat) (H : Heap) (locs : List Loc) (ls : Array Slot) (i7_341 : Int32) (i7_341_z : Int), ((rr_40.toInt - tt rr_334.toInt rr_40.toInt i7_341_z).toNat = n) → (Wd G cy (AS S s.heap.size) s.heap T_51 H locs) → (i7_341.toInt = i7_341_z) → (0 ≤ i7_341_z ∧ i7_341_z ≤ 299) → (Dall (zA T_51 x 1252) i6_50_z rr_334.toInt rr_40.toInt i7_341_z) → (i7_341_z < rr_40.toInt) → (lv_has ls 8 [(7, .int (i7_341)), (5, .int (rr_330)), (6, .int (i6_50)), (4, .int (rr_40)), (0, .ref x), (1, .int (a1)), (2, .int (a2)), (3, .int (a3))]) → W p l e ({ frames := 5, cells := 0, slots := 0, locals := 240 }) s m [.ref x, .int (a1), .int (a2), .int (a3)].toArray below meth c H locs 0 0 QQ (F0 m 73 ls []) := by
              intro n
              induction n using Nat.strongRecOn with
              | ind n ih_L_340 =>
              intro H locs ls i7_341 i7_341_z hn hw hz_i7_341 hr_i7_341 iv_342 iv_343 hl
              have rg_344 : (-2147483648) ≤ i7_341_z ∧ i7_341_z ≤ 2147483647 := by rw [← hz_i7_341]; exact ⟨z_lo _, z_hi _⟩
              refine lv_aload_n X.1 X.2.1 dX12_grade_73 rfl (lv_at hl 4 rfl) ?_
              refine lv_iload X.1 X.2.1 dX12_grade_74 (lv_at hl 2 rfl) ?_
              refine lv_iload X.1 X.2.1 dX12_grade_76 (lv_at hl 0 rfl) ?_
              refine k_i (rm := { frames := 1, cells := 0, slots := 0, locals := 48 }) (av := [.ref x, .int (i6_50), .int (i7_341)]) X hw (va_runV (As := [.int (i6_50), .int (i7_341)]) (rest := []) (cfix X) (k_X12_isDrawn7 l G cy κ T_51 _ x (i6_50) (i6_50_z) (i7_341) (i7_341_z) hO_T_51.1 ha_x_L_52 hz_i6_50 hz_i7_341 (by first | assumption | omega) (by first | assumption | omega)) (cwV 2 X.2.2.2.1 gX12_grade_X12_isDrawn rfl rfl rfl (by decide +kernel) ⟨Nat.le_of_ble_eq_true rfl, Nat.le_of_ble_eq_true rfl⟩) (pre_V X hw _ ha_x_L_52 rfl (by decide) rfl) rfl rfl hl.1 rfl (lv_room (Nat.le_of_ble_eq_true rfl)) dX12_grade_78 ⟨Nat.le_of_ble_eq_true rfl, Nat.le_of_ble_eq_true rfl⟩) 0 0 (Nat.le_of_ble_eq_true rfl) (Nat.le_of_ble_eq_true rfl) (fun rr_345 S_346 H locs hp hw hfr hnw => ?_)
              obtain ⟨e2, hp⟩ := hp
              subst e2
              rcases hp with ⟨f_347, er_348⟩ | ⟨f_347, er_348⟩ <;> subst er_348
              · have z_b_349 := trivial
                refine lv_if_eq (tgt := 96) X.1 X.2.1 dX12_grade_81 (by decide) (fun c_350 => absurd c_350 (by decide)) (fun c_350 => ?_)
                refine lv_iload X.1 X.2.1 dX12_grade_84 (lv_at hl 0 rfl) ?_
                refine lv_iconst (v := 1) X.1 X.2.1 dX12_grade_86 (by decide) ?_
                refine lv_iadd X.1 X.2.1 dX12_grade_87 ?_
                refine lv_topi (fun v_351 ev_351 => ?_)
                have z_352 : v_351.toInt = i7_341_z + 1 := z_add ev_351 hz_i7_341 ti_1 (by omega) (by omega)
                refine lv_iload X.1 X.2.1 dX12_grade_88 (lv_at hl 3 rfl) ?_
                refine lv_irem X.1 X.2.1 dX12_grade_90 (z_nz rfl (by omega)) ?_
                refine lv_topi (fun v_353 ev_353 => ?_)
                have z_354 : v_353.toInt = (i7_341_z + 1) % rr_40.toInt := z_rem ev_353 z_352 rfl (by omega) (by omega)
                have z_355 : 0 ≤ v_353.toInt ∧ v_353.toInt < rr_40.toInt := by rw [z_354]; exact ⟨Int.emod_nonneg _ (by omega), Int.emod_lt_of_pos _ (by omega)⟩
                have z_356 : v_353.toInt ≤ (i7_341_z + 1) := by rw [z_354]; exact emod_le (by omega) (by omega)
                refine lv_istore (lv' := [(7, .int (v_353)), (5, .int (rr_330)), (6, .int (i6_50)), (4, .int (rr_40)), (0, .ref x), (1, .int (a1)), (2, .int (a2)), (3, .int (a3))]) X.1 X.2.1 dX12_grade_91 hl (by decide) rfl (fun ls hl => ?_)
                refine lv_goto (tgt := 73) X.1 X.2.1 dX12_grade_93 (by decide) ?_
                obtain ⟨d_357, d_358, d_359⟩ := Dall_step (m := i7_341_z) (m' := v_353.toInt) (by omega) (by omega) (by omega) (by omega) (by omega) (by omega) iv_342 f_347 (by assumption)
                exact ih_L_340 _ (by omega) _ _ _ (v_353) (v_353.toInt) rfl hw rfl (by omega) d_359 (by omega) (lv_sub hl [0, 1, 2, 3, 4, 5, 6, 7] rfl)
              · have z_b_360 := trivial
                refine lv_if_eq (tgt := 96) X.1 X.2.1 dX12_grade_81 (by decide) (fun c_361 => ?_) (fun c_361 => absurd c_361 (by decide))
                have nn_362 : i7_341_z = ndF (lkZ (zA T_51 x 1252) (i6_50_z)) (rr_40.toInt) 5 rr_334.toInt := ndF_of (by omega) (by omega) (by omega) (by omega) (by omega) (by omega) iv_342 f_347
                refine lv_aload_n X.1 X.2.1 dX12_grade_96 rfl (lv_at hl 4 rfl) ?_
                obtain ⟨q_363, h_364, h_365, h_366⟩ := gQ_12_1252 hO_T_51.1 ha_x_L_52
                refine r_getR (g := 1252) X hw ha_x_L_52 rfl 52 h_364 (by decide) rfl inn_X12_grade_12 (by decide) (X.2.2.2.1 (.fieldLink RX12 122 "SilkMillModel" "draw" "[I") (by decide +kernel)) rfl (gv_1252 _ _) dX12_grade_97 ?_
                refine lv_iload X.1 X.2.1 dX12_grade_100 (lv_at hl 2 rfl) ?_
                refine lv_iload X.1 X.2.1 dX12_grade_102 (lv_at hl 0 rfl) ?_
                refine r_iast X hw h_365 rfl (by rw [h_366]; exact z_ix hz_i6_50 (by omega) (by omega)) dX12_grade_104 (fun H locs hw => ?_)
                obtain ⟨S_367, eS_367⟩ : ∃ T, T = sA T_51 q_363 (upd (pA T_51 q_363) (Int32.toNatClampNeg (i6_50)) (i7_341)) := ⟨_, rfl⟩
                rw [← eS_367] at hw
                have hO_368 : Ok Mgr S S_367 := hO_T_51.sA eS_367 h_365 (by decide +kernel) (uA_1254 hO_T_51.1 h_365)
                have h_369 : pA S_367 q_363 (Int32.toNatClampNeg (i6_50)) = i7_341 := tA_sAs eS_367
                have t_370 : pR S_367 1252 x = some q_363 := tR_sA eS_367 h_364
                have t_372 : pR T_51 1252 x = some q_363 := by have h := t_370; rw [eS_367, pR_sA] at h; exact h
                have zs_371 : ∀ j, zA S_367 x 1252 j = if j = (i6_50_z).toNat then i7_341_z else zA T_51 x 1252 j := by have h := zA_sAs eS_367 t_372 hz_i7_341; rw [z_nc hz_i6_50 (by omega)] at h; exact h
                refine lv_aload_n X.1 X.2.1 dX12_grade_105 rfl (lv_at hl 4 rfl) ?_
                refine lv_aload_n X.1 X.2.1 dX12_grade_106 rfl (lv_at hl 4 rfl) ?_
                have t_373 : At S_367 x 12 := tAt_sA eS_367 ha_x_L_52
                have t_374 : pI S_367 1249 x = v_74 := tI_sA eS_367 ev_74
                refine r_getI (g := 1249) (x := v_74) X hw t_373 rfl 49 t_374 (by decide) rfl inn_X12_grade_12 (by decide) (X.2.2.2.1 (.fieldLink RX12 382 "SilkMillModel" "off" "I") (by decide +kernel)) rfl (gv_1249 _ _) dX12_grade_107 ?_
                refine lv_aload_n X.1 X.2.1 dX12_grade_110 rfl (lv_at hl 4 rfl) ?_
                refine lv_aload_n X.1 X.2.1 dX12_grade_111 rfl (lv_at hl 4 rfl) ?_
                obtain ⟨q_375, h_376, h_377, h_378⟩ := gQ_12_1239 hO_368.1 t_373
                refine r_getR (g := 1239) X hw t_373 rfl 39 h_376 (by decide) rfl inn_X12_grade_12 (by decide) (X.2.2.2.1 (.fieldLink RX12 100 "SilkMillModel" "firstMetre" "[I") (by decide +kernel)) rfl (gv_1239 _ _) dX12_grade_112 ?_
                refine lv_iload_n X.1 X.2.1 dX12_grade_115 rfl (lv_at hl 5 rfl) ?_
                refine r_iald X hw h_377 rfl (by rw [h_378]; exact z_ix hz_a1 (by omega) (by omega)) dX12_grade_116 ?_
                refine lv_topi (fun v_379 ev_379 => ?_)
                have z_380 := gE_994 hO_368.1 h_377 (Int32.toNatClampNeg (a1)); rw [← ev_379] at z_380
                have ev_379 := ev_379.symm
                have zf_381 : zA S_367 x 1239 (a1_z).toNat = v_379.toInt := (zA_of h_376 hz_a1 (by omega) ev_379)
                have zc_382 : zA S_367 x 1239 = zA S x 1239 := (zA_sAn eS_367 (ex3 (gQ_12_1239 hO_T_51.1 ha_x_L_52)) h_365 rfl).trans zk_55
                have z9_383 : zA S_367 x 1239 a1_z.toNat = zA S x 1239 a1_z.toNat := congrFun zc_382 _
                refine lv_iload X.1 X.2.1 dX12_grade_117 (lv_at hl 0 rfl) ?_
                refine lv_iadd X.1 X.2.1 dX12_grade_119 ?_
                refine lv_topi (fun v_384 ev_384 => ?_)
                have z_385 : v_384.toInt = v_379.toInt + i7_341_z := z_add ev_384 rfl hz_i7_341 (by omega) (by omega)
                obtain ⟨t_386, ht_387⟩ : ∃ t, s_15.2.2.2[(i7_341_z).toNat]? = some t := ⟨_, List.getElem?_eq_getElem (by omega)⟩
                have zc_388 : zA S_367 x 1235 = zA S x 1235 := (zA_sAn eS_367 (ex3 (gQ_12_1235 hO_T_51.1 ha_x_L_52)) h_365 rfl).trans zk_61
                have zc_389 : zA S_367 x 1236 = zA S x 1236 := (zA_sAn eS_367 (ex3 (gQ_12_1236 hO_T_51.1 ha_x_L_52)) h_365 rfl).trans zk_64
                refine k_i (rm := { frames := 4, cells := 0, slots := 0, locals := 192 }) (av := [.ref x, .int (v_384)]) X hw (va_runV (As := [.int (v_384)]) (rest := [.int (v_74), .ref x]) (cfix X) (k_X12_fineAt7 l G cy κ S_367 _ x (v_384) ((v_379.toInt + i7_341_z)) t_386 hO_368.1 t_373 z_385 (by omega) (by omega) (MIe_free hG ha_x hO_368.fr (by decide +kernel) hp_0) (MtR_eq zc_388 zc_389 (by rw [show ((v_379.toInt + i7_341_z)).toNat = (zA S x 1239 a1_z.toNat).toNat + (i7_341_z).toNat by omega]; exact sr_19 _ _ ht_387))) (cwV 1 X.2.2.2.1 gX12_grade_X12_fineAt rfl rfl rfl (by decide +kernel) ⟨Nat.le_of_ble_eq_true rfl, Nat.le_of_ble_eq_true rfl⟩) (pre_V X hw _ t_373 rfl (by decide) rfl) rfl rfl hl.1 rfl (lv_room (Nat.le_of_ble_eq_true rfl)) dX12_grade_120 ⟨Nat.le_of_ble_eq_true rfl, Nat.le_of_ble_eq_true rfl⟩) 0 0 (Nat.le_of_ble_eq_true rfl) (Nat.le_of_ble_eq_true rfl) (fun rr_390 S_391 H locs hp hw hfr hnw => ?_)
                obtain ⟨e2, hp⟩ := hp
                subst e2
                obtain ⟨fa_392, fa_393, fa_394⟩ := hp
                have fb_395 : rr_390 = mtZ S x t_386 := fa_394.trans (mtZ_eq (fnZ_fr hG ha_x hO_368.fr (by decide +kernel)))
                have rg_396 := And.intro (z_lo rr_390) (z_hi rr_390)
                refine lv_aload_n X.1 X.2.1 dX12_grade_123 rfl (lv_at hl 4 rfl) ?_
                obtain ⟨q_397, h_398, h_399, h_400⟩ := gQ_12_1242 hO_368.1 t_373
                refine r_getR (g := 1242) X hw t_373 rfl 42 h_398 (by decide) rfl inn_X12_grade_12 (by decide) (X.2.2.2.1 (.fieldLink RX12 109 "SilkMillModel" "skeinAim" "[I") (by decide +kernel)) rfl (gv_1242 _ _) dX12_grade_124 ?_
                refine lv_iload_n X.1 X.2.1 dX12_grade_127 rfl (lv_at hl 5 rfl) ?_
                refine r_iald X hw h_399 rfl (by rw [h_400]; exact z_ix hz_a1 (by omega) (by omega)) dX12_grade_128 ?_
                refine lv_topi (fun v_401 ev_401 => ?_)
                have rg_402 := And.intro (z_lo v_401) (z_hi v_401)
                have ev_401 := ev_401.symm
                have zf_403 : zA S_367 x 1242 (a1_z).toNat = v_401.toInt := (zA_of h_398 hz_a1 (by omega) ev_401)
                have zc_404 : zA S_367 x 1242 = zA S x 1242 := (zA_sAn eS_367 (ex3 (gQ_12_1242 hO_T_51.1 ha_x_L_52)) h_365 rfl).trans zk_58
                have z9_405 : zA S_367 x 1242 a1_z.toNat = zA S x 1242 a1_z.toNat := congrFun zc_404 _
                have am_406 : v_401 = s_15.2.2.1 := Int32.toInt_inj.mp (by have e1 : (v_401 : Int32).toInt = v_401.toInt := rfl; have e2 := sr_25.2.2; omega)
                refine lv_isub X.1 X.2.1 dX12_grade_129 ?_
                refine lv_topi (fun v_407 ev_407 => ?_)
                have rg_408 := And.intro (z_lo v_407) (z_hi v_407)
                refine va_mabs X.1 X.2.1 (X.2.2.1.trans hl.1.symm) X.2.2.2.2.1 (X.2.2.2.1 (.methodLink RX12 347 Lib.Math.abs.name) (by decide +kernel)) (X.2.2.2.1 (.static Lib.Math.abs.name) (by decide +kernel)) (X.2.2.2.1 (.initialized "java/lang/Math") (by decide +kernel)) (X.2.2.2.1 (.code Lib.Math.abs.name Lib.Math.abs.code 1 (some .int)) (by decide +kernel)) (Nat.le_of_ble_eq_true rfl) (Nat.le_of_ble_eq_true rfl) (Nat.le_of_ble_eq_true rfl) (Nat.le_of_ble_eq_true rfl) dX12_grade_130 ?_
                refine lv_topi (fun v_409 ev_409 => ?_)
                have rg_411 := And.intro (z_lo v_409) (z_hi v_409)
                refine va_mmax X.1 X.2.1 (X.2.2.1.trans hl.1.symm) X.2.2.2.2.1 (X.2.2.2.1 (.methodLink RX12 339 Lib.Math.max.name) (by decide +kernel)) (X.2.2.2.1 (.static Lib.Math.max.name) (by decide +kernel)) (X.2.2.2.1 (.initialized "java/lang/Math") (by decide +kernel)) (X.2.2.2.1 (.code Lib.Math.max.name Lib.Math.max.code 2 (some .int)) (by decide +kernel)) (Nat.le_of_ble_eq_true rfl) (Nat.le_of_ble_eq_true rfl) (Nat.le_of_ble_eq_true rfl) (Nat.le_of_ble_eq_true rfl) dX12_grade_133 ?_
                refine lv_topi (fun v_412 ev_412 => ?_)
                have z_413 := z_max ev_412 rfl rfl
                refine r_putI (v := v_412) X hw t_373 rfl 49 1249 tyX12 (by decide) rfl inn_X12_grade_12 tyX12_ok nmX12 (by decide) (X.2.2.2.1 (.fieldLink RX12 382 "SilkMillModel" "off" "I") (by decide +kernel)) rfl (Or.inl rfl) rfl rfl (Nat.le_of_ble_eq_true rfl) (st_1249 _ _) dX12_grade_136 (fun H locs hw => ?_)
                obtain ⟨S_414, eS_414⟩ : ∃ T, T = sI S_367 1249 x (v_412) := ⟨_, rfl⟩
                rw [← eS_414] at hw
                have hO_415 : Ok Mgr S S_414 := hO_368.sI eS_414 (by decide +kernel) (uI_12_1249 hO_368.1 t_373)
                have h_416 : pI S_414 1249 x = v_412 := tI_sIs eS_414
                obtain ⟨x_417, ex_417⟩ : ∃ y : Int32, y = i6_50 + 1 := ⟨_, rfl⟩
                have z_418 : x_417.toInt = i6_50_z + 1 := z_add ex_417 hz_i6_50 ti_1 (by omega) (by omega)
                refine lv_iinc (v := x_417) (lv' := [(6, .int (x_417)), (7, .int (i7_341)), (5, .int (rr_330)), (4, .int (rr_40)), (0, .ref x), (1, .int (a1)), (2, .int (a2)), (3, .int (a3))]) X.1 X.2.1 dX12_grade_139 hl (k := 2) rfl (by rw [ex_417]; rfl) (by decide) rfl (fun ls hl => ?_)
                refine lv_goto (tgt := 51) X.1 X.2.1 dX12_grade_142 (by decide) ?_
                have pz_419 : (pI S_414 1249 x).toInt = v_412.toInt := (congrArg Int32.toInt h_416).trans rfl
                have t_420 : At S_414 x 12 := tAt_sI eS_414 t_373
                have zc_421 : zA S_414 x 1239 = zA S x 1239 := (zA_sI eS_414).trans zc_382
                have zc_422 : zA S_414 x 1242 = zA S x 1242 := (zA_sI eS_414).trans zc_404
                have zc_423 : zA S_414 x 1235 = zA S x 1235 := (zA_sI eS_414).trans zc_388
                have zc_424 : zA S_414 x 1236 = zA S x 1236 := (zA_sI eS_414).trans zc_389
                have zc_425 : zA S_367 x 1243 = zA S x 1243 := (zA_sAn eS_367 (ex3 (gQ_12_1243 hO_T_51.1 ha_x_L_52)) h_365 rfl).trans zk_67
                have zc_426 : zA S_414 x 1243 = zA S x 1243 := (zA_sI eS_414).trans zc_425
                have zc_428 : zA S_414 x 1252 = zA S_367 x 1252 := zA_sI eS_414
                have ap_427 : lkZ (zA S_414 x 1252) (x_417.toInt) = lkZ (zA T_51 x 1252) (i6_50_z) ++ [i7_341_z] := by rw [zc_428]; exact lkZ_app (by omega) (by omega) zs_371
                have ds_431 : (rr_40 : Int32).toInt = (s_15.2.2.2.length : Int) := (by have e1 : (rr_40 : Int32).toInt = rr_40.toInt := rfl; omega)
                have nn_432 : i7_341_z = ndF (lkZ (zA T_51 x 1252) (i6_50_z)) (s_15.2.2.2.length : Int) 5 rr_334.toInt := by have h := nn_362; rw [show rr_40.toInt = (s_15.2.2.2.length : Int) by omega] at h; exact h
                obtain ⟨ds_429, ds_430⟩ := dr_step (n := (s_15.2.2.2.length : Int)) (sd := a2) (by omega) (show x_417.toInt = i6_50_z + 1 by omega) iv_69 iv_70 nx_332 ds_431 pt_339 nn_432 ap_427
                exact ih_L_48 _ (by omega) _ _ _ _ (rr_330) (rr_330.toInt) (x_417) (x_417.toInt) rfl hw rfl rfl (by omega) t_420 hO_415 zc_421 zc_422 zc_423 zc_424 zc_426 (by omega) ds_429 ds_430 (by rw [← ds_429, ap_427, iv_69, ofF_s, ← iv_71]; show _ = mxI _ (abI (mtZ S x (mtG s_15.2.2.2 (i7_341_z)) - s_15.2.2.1)); rw [mtG_eq ht_387, ← fb_395, ← am_406, h_416, ev_74, ev_412, ev_409, ev_407]; rfl) (lv_sub hl [2, 0, 3, 4, 5, 6, 7] rfl)
            exact L_340 _ _ _ _ (rr_334) (rr_334.toInt) rfl hw rfl (by omega) Dall_0 (by omega) (lv_sub hl [0, 1, 2, 3, 4, 5, 6, 7] rfl)
        have pz_433 : (pI S_45 1249 x).toInt = 0 := (congrArg Int32.toInt h_47).trans ti_0
        have t_434 : At S_45 x 12 := tAt_sI eS_45 t_6
        exact L_48 _ _ _ _ _ (a2) (a2_z) (0) (0) rfl hw hz_a2 ti_0 (by omega) t_434 hO_46 zc_54 zc_57 zc_60 zc_63 zc_66 (by omega) (lkZ_0 _) rfl (by rw [h_47]; rfl) (lv_sub hl [1, 0, 2, 3, 4, 5, 6] rfl)
      · have z_b_435 := trivial
        have k_436 : a3_z > rr_32.toInt := z_nle hz_a3 rfl c_37
        refine lv_iconst (v := (-1)) X.1 X.2.1 dX12_grade_31 (by decide) ?_
        rw [hQQ]
        exact ret_i X hw hr hlocks (Nat.le_of_ble_eq_true rfl) (Nat.le_of_ble_eq_true rfl) ⟨hO_2, ⟨z_lo _, z_hi _, fun s h0 h1 h2 h3 h4 => (by exfalso; rw [hs_16] at h1; cases h1; omega), fun _ => ⟨by decide, eS_1⟩⟩⟩ dX12_grade_32
    · have z_b_437 := trivial
      refine lv_if_eq (tgt := 31) X.1 X.2.1 dX12_grade_19 (by decide) (fun c_438 => ?_) (fun c_438 => absurd c_438 (by decide))
      refine lv_iconst (v := (-1)) X.1 X.2.1 dX12_grade_31 (by decide) ?_
      rw [hQQ]
      exact ret_i X hw hr hlocks (Nat.le_of_ble_eq_true rfl) (Nat.le_of_ble_eq_true rfl) ⟨hO_2, ⟨z_lo _, z_hi _, fun s h0 h1 h2 h3 h4 => (by exfalso; rw [hs_16] at h1; cases h1; omega), fun _ => ⟨by decide, eS_1⟩⟩⟩ dX12_grade_32
  · have z_b_439 := trivial
    refine lv_if_eq (tgt := 31) X.1 X.2.1 dX12_grade_10 (by decide) (fun c_440 => ?_) (fun c_440 => absurd c_440 (by decide))
    refine lv_iconst (v := (-1)) X.1 X.2.1 dX12_grade_31 (by decide) ?_
    rw [hQQ]
    exact ret_i X hw hr hlocks (Nat.le_of_ble_eq_true rfl) (Nat.le_of_ble_eq_true rfl) ⟨hO_2, ⟨z_lo _, z_hi _, fun s h0 h1 _ _ _ => (by exfalso; have := (List.getElem?_eq_some_iff.mp h1).1; have := hp_1.1; omega), fun _ => ⟨by decide, eS_1⟩⟩⟩ dX12_grade_32
set_option maxHeartbeats 4000000 in
set_option maxRecDepth 100000 in
theorem k_X12_drawn7 (l : Launch) (G : va_G) (cy : Nat → ClassId) (κ : Nat → Nat) (S : PS) (sz : Nat) (x : Nat) (a1 : Int32) (a1_z : Int) (hG : GX S) (ha_x : At S x 12) (hz_a1 : a1.toInt = a1_z) : Ci l yX12_drawn wsX12_drawn ({ frames := 2, cells := 0, slots := 0, locals := 96 }) G cy κ S sz [.ref x, .int (a1)] (fun (r : Int32) (S9 : PS) => Ok MN S S9 ∧ (-2147483648 ≤ r.toInt ∧ r.toInt ≤ 2147483647 ∧ r.toInt = dwF (pI S 1251 x).toInt (pI S 1249 x).toInt (pI S 1250 x).toInt (zA S x 1252) a1_z)) := by
  refine ent_m (cc := cX12_drawn) (maxL := 2) (ret := (some .int)) (by decide) rfl (Nat.le_of_ble_eq_true rfl) ?_
  intro p e s m below meth c ls X hr hlocks hin hw hl hsz
  subst hsz
  have X : Cx p c cX12_drawn 2 s [.ref x, .int (a1)].toArray wsX12_drawn RX12 m G cy κ (AS S s.heap.size) := X
  have hl : lv_has ls 2 [(0, .ref x), (1, .int (a1))] := hl
  have rg_a1 : (-2147483648) ≤ a1_z ∧ a1_z ≤ 2147483647 := by rw [← hz_a1]; exact ⟨z_lo _, z_hi _⟩
  have hO : Ok MN S S := Ok.rf hG
  obtain ⟨v_1, ev_1⟩ : ∃ v, pI S 1251 x = v := ⟨_, rfl⟩
  have rg_2 := gI_12_1251 hO.1 ha_x; rw [ev_1] at rg_2
  have pz_3 : (pI S 1251 x).toInt = v_1.toInt := by rw [ev_1]
  have pz_4 : (pI S 1251 x).toInt = v_1.toInt := (congrArg Int32.toInt ev_1).trans rfl
  obtain ⟨v_5, ev_5⟩ : ∃ v, pI S 1249 x = v := ⟨_, rfl⟩
  have rg_7 := And.intro (z_lo v_5) (z_hi v_5)
  have pz_8 : (pI S 1249 x).toInt = v_5.toInt := by rw [ev_5]
  have pz_9 : (pI S 1249 x).toInt = v_5.toInt := (congrArg Int32.toInt ev_5).trans rfl
  obtain ⟨v_10, ev_10⟩ : ∃ v, pI S 1250 x = v := ⟨_, rfl⟩
  have rg_12 := And.intro (z_lo v_10) (z_hi v_10)
  have pz_13 : (pI S 1250 x).toInt = v_10.toInt := by rw [ev_10]
  have pz_14 : (pI S 1250 x).toInt = v_10.toInt := (congrArg Int32.toInt ev_10).trans rfl
  refine lv_aload_n X.1 X.2.1 dX12_drawn_0 rfl (lv_at hl 0 rfl) ?_
  refine lv_iconst (v := 0) X.1 X.2.1 dX12_drawn_1 (by decide) ?_
  refine r_putI (v := 0) X hw ha_x rfl 0 1200 tyX12 (by decide) rfl inn_X12_drawn_12 tyX12_ok nmX12 (by decide) (X.2.2.2.1 (.fieldLink RX12 161 "SilkMillModel" "thrown" "I") (by decide +kernel)) rfl (Or.inl rfl) rfl rfl (Nat.le_of_ble_eq_true rfl) (st_1200 _ _) dX12_drawn_2 (fun H locs hw => ?_)
  obtain ⟨S_15, eS_15⟩ : ∃ T, T = sI S 1200 x (0) := ⟨_, rfl⟩
  rw [← eS_15] at hw
  have hO_16 : Ok MN S S_15 := hO.sI eS_15 (by decide +kernel) (uI_12_1200 hO.1 ha_x)
  have h_17 : pI S_15 1200 x = 0 := tI_sIs eS_15
  refine lv_aload_n X.1 X.2.1 dX12_drawn_5 rfl (lv_at hl 0 rfl) ?_
  have t_18 : At S_15 x 12 := tAt_sI eS_15 ha_x
  have t_19 : pI S_15 1251 x = v_1 := tI_sI eS_15 rfl ev_1
  refine r_getI (g := 1251) (x := v_1) X hw t_18 rfl 51 t_19 (by decide) rfl inn_X12_drawn_12 (by decide) (X.2.2.2.1 (.fieldLink RX12 388 "SilkMillModel" "draws" "I") (by decide +kernel)) rfl (gv_1251 _ _) dX12_drawn_6 ?_
  refine lv_if_eq (tgt := 26) X.1 X.2.1 dX12_drawn_9 (by decide) (fun c_20 => ?_) (fun c_20 => ?_)
  · have z_b_21 := trivial
    have k_22 : v_1.toInt = 0 := z_eq rfl ti_0 c_20
    refine lv_iconst (v := (-1)) X.1 X.2.1 dX12_drawn_26 (by decide) ?_
    exact ret_i X hw hr hlocks (Nat.le_of_ble_eq_true rfl) (Nat.le_of_ble_eq_true rfl) ⟨hO_16, ⟨z_lo _, z_hi _, (by rw [dwF_n (by omega)]; decide)⟩⟩ dX12_drawn_27
  · have z_b_23 := trivial
    have k_24 : v_1.toInt ≠ 0 := z_ne rfl ti_0 c_20
    refine lv_iload_n X.1 X.2.1 dX12_drawn_12 rfl (lv_at hl 1 rfl) ?_
    refine lv_iconst (v := 0) X.1 X.2.1 dX12_drawn_13 (by decide) ?_
    refine lv_aload_n X.1 X.2.1 dX12_drawn_14 rfl (lv_at hl 0 rfl) ?_
    refine r_getI (g := 1251) (x := v_1) X hw t_18 rfl 51 t_19 (by decide) rfl inn_X12_drawn_12 (by decide) (X.2.2.2.1 (.fieldLink RX12 388 "SilkMillModel" "draws" "I") (by decide +kernel)) rfl (gv_1251 _ _) dX12_drawn_15 ?_
    refine lv_iconst (v := 1) X.1 X.2.1 dX12_drawn_18 (by decide) ?_
    refine lv_iadd X.1 X.2.1 dX12_drawn_19 ?_
    refine lv_topi (fun v_25 ev_25 => ?_)
    have z_26 : v_25.toInt = v_1.toInt + 1 := z_add ev_25 rfl ti_1 (by omega) (by omega)
    refine k_i (rm := { frames := 1, cells := 0, slots := 0, locals := 48 }) (av := [.int (a1), .int 0, .int (v_25)]) X hw (va_runS (As := [.int (a1), .int 0, .int (v_25)]) (rest := []) (cfix X) (k_X12_within l G cy κ S_15 _ (a1) (a1_z) (0) (0) (v_25) ((v_1.toInt + 1)) hO_16.1 hz_a1 ti_0 z_26) (cwS 3 X.2.2.2.1 gX12_drawn_X12_within rfl rfl rfl (by decide +kernel) ⟨Nat.le_of_ble_eq_true rfl, Nat.le_of_ble_eq_true rfl⟩) (pre_S X hw _) rfl rfl hl.1 rfl (lv_room (Nat.le_of_ble_eq_true rfl)) dX12_drawn_20 ⟨Nat.le_of_ble_eq_true rfl, Nat.le_of_ble_eq_true rfl⟩) 0 0 (Nat.le_of_ble_eq_true rfl) (Nat.le_of_ble_eq_true rfl) (fun rr_27 S_28 H locs hp hw hfr hnw => ?_)
    obtain ⟨e2, hp⟩ := hp
    subst e2
    rcases hp with ⟨f_29, er_30⟩ | ⟨f_29, er_30⟩ <;> subst er_30
    · have z_b_31 := trivial
      refine lv_if_ne (tgt := 28) X.1 X.2.1 dX12_drawn_23 (by decide) (fun c_32 => ?_) (fun c_32 => absurd c_32 (by decide))
      refine lv_iload_n X.1 X.2.1 dX12_drawn_28 rfl (lv_at hl 1 rfl) ?_
      refine lv_if_ne (tgt := 39) X.1 X.2.1 dX12_drawn_29 (by decide) (fun c_33 => ?_) (fun c_33 => ?_)
      · have z_b_34 := trivial
        have k_35 : a1_z ≠ 0 := z_ne hz_a1 ti_0 c_33
        refine lv_iload_n X.1 X.2.1 dX12_drawn_39 rfl (lv_at hl 1 rfl) ?_
        refine lv_iconst (v := 1) X.1 X.2.1 dX12_drawn_40 (by decide) ?_
        refine lv_icmp_ne (tgt := 51) X.1 X.2.1 dX12_drawn_41 (by decide) (fun c_36 => ?_) (fun c_36 => ?_)
        · have z_b_37 := trivial
          have k_38 : a1_z ≠ 1 := z_ne hz_a1 ti_1 c_36
          refine lv_aload_n X.1 X.2.1 dX12_drawn_51 rfl (lv_at hl 0 rfl) ?_
          obtain ⟨q_39, h_40, h_41, h_42⟩ := gQ_12_1252 hO_16.1 t_18
          refine r_getR (g := 1252) X hw t_18 rfl 52 h_40 (by decide) rfl inn_X12_drawn_12 (by decide) (X.2.2.2.1 (.fieldLink RX12 122 "SilkMillModel" "draw" "[I") (by decide +kernel)) rfl (gv_1252 _ _) dX12_drawn_52 ?_
          refine lv_iload_n X.1 X.2.1 dX12_drawn_55 rfl (lv_at hl 1 rfl) ?_
          refine lv_iconst (v := 2) X.1 X.2.1 dX12_drawn_56 (by decide) ?_
          refine lv_isub X.1 X.2.1 dX12_drawn_57 ?_
          refine lv_topi (fun v_43 ev_43 => ?_)
          have z_44 : v_43.toInt = a1_z - 2 := z_sub ev_43 hz_a1 ti_2 (by omega) (by omega)
          refine r_iald X hw h_41 rfl (by rw [h_42]; exact z_ix z_44 (by omega) (by omega)) dX12_drawn_58 ?_
          refine lv_topi (fun v_45 ev_45 => ?_)
          have rg_46 := And.intro (z_lo v_45) (z_hi v_45)
          have ev_45 := ev_45.symm
          have zf_47 : zA S_15 x 1252 ((a1_z - 2)).toNat = v_45.toInt := (zA_of h_40 z_44 (by omega) ev_45)
          have zc_48 : zA S_15 x 1252 = zA S x 1252 := zA_sI eS_15
          have zf_49 : zA S x 1252 ((a1_z - 2)).toNat = v_45.toInt := (congrFun zc_48 _).symm.trans zf_47
          exact ret_i X hw hr hlocks (Nat.le_of_ble_eq_true rfl) (Nat.le_of_ble_eq_true rfl) ⟨hO_16, ⟨z_lo _, z_hi _, (by rw [dwF_2 (by omega) (by omega), zf_49]; have e1 : (v_45 : Int32).toInt = v_45.toInt := rfl; omega)⟩⟩ dX12_drawn_59
        · have z_b_50 := trivial
          have k_51 : a1_z = 1 := z_eq hz_a1 ti_1 c_36
          refine lv_aload_n X.1 X.2.1 dX12_drawn_44 rfl (lv_at hl 0 rfl) ?_
          have t_52 : pI S_15 1250 x = v_10 := tI_sI eS_15 rfl ev_10
          refine r_getI (g := 1250) (x := v_10) X hw t_18 rfl 50 t_52 (by decide) rfl inn_X12_drawn_12 (by decide) (X.2.2.2.1 (.fieldLink RX12 391 "SilkMillModel" "bound" "I") (by decide +kernel)) rfl (gv_1250 _ _) dX12_drawn_45 ?_
          refine lv_goto (tgt := 59) X.1 X.2.1 dX12_drawn_48 (by decide) ?_
          exact ret_i X hw hr hlocks (Nat.le_of_ble_eq_true rfl) (Nat.le_of_ble_eq_true rfl) ⟨hO_16, ⟨z_lo _, z_hi _, (by rw [dwF_1 (by omega) (by omega)]; have e1 : (v_10 : Int32).toInt = v_10.toInt := rfl; omega)⟩⟩ dX12_drawn_59
      · have z_b_53 := trivial
        have k_54 : a1_z = 0 := z_eq hz_a1 ti_0 c_33
        refine lv_aload_n X.1 X.2.1 dX12_drawn_32 rfl (lv_at hl 0 rfl) ?_
        have t_55 : pI S_15 1249 x = v_5 := tI_sI eS_15 rfl ev_5
        refine r_getI (g := 1249) (x := v_5) X hw t_18 rfl 49 t_55 (by decide) rfl inn_X12_drawn_12 (by decide) (X.2.2.2.1 (.fieldLink RX12 382 "SilkMillModel" "off" "I") (by decide +kernel)) rfl (gv_1249 _ _) dX12_drawn_33 ?_
        refine lv_goto (tgt := 59) X.1 X.2.1 dX12_drawn_36 (by decide) ?_
        exact ret_i X hw hr hlocks (Nat.le_of_ble_eq_true rfl) (Nat.le_of_ble_eq_true rfl) ⟨hO_16, ⟨z_lo _, z_hi _, (by rw [dwF_0 (by omega) (by omega)]; have e1 : (v_5 : Int32).toInt = v_5.toInt := rfl; omega)⟩⟩ dX12_drawn_59
    · have z_b_56 := trivial
      refine lv_if_ne (tgt := 28) X.1 X.2.1 dX12_drawn_23 (by decide) (fun c_57 => absurd c_57 (by decide)) (fun c_57 => ?_)
      refine lv_iconst (v := (-1)) X.1 X.2.1 dX12_drawn_26 (by decide) ?_
      exact ret_i X hw hr hlocks (Nat.le_of_ble_eq_true rfl) (Nat.le_of_ble_eq_true rfl) ⟨hO_16, ⟨z_lo _, z_hi _, (by rw [dwF_n (by omega)]; decide)⟩⟩ dX12_drawn_27
