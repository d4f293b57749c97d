
set_option maxHeartbeats 4000000 in
set_option maxRecDepth 100000 in
theorem k_X12_isDrawn7 (l : Launch) (G : va_G) (cy : Nat → ClassId) (κ : Nat → Nat) (S : PS) (sz : Nat) (x : Nat) (a1 : Int32) (a1_z : Int) (a2 : Int32) (a2_z : Int) (hG : GX S) (ha_x : At S x 12) (hz_a1 : a1.toInt = a1_z) (hz_a2 : a2.toInt = a2_z) (hp_0 : 0 ≤ a1_z) (hp_1 : a1_z ≤ 5) : Ci l yX12_isDrawn wsX12_isDrawn ({ frames := 1, cells := 0, slots := 0, locals := 48 }) G cy κ S sz [.ref x, .int (a1), .int (a2)] (fun (r : Int32) (S9 : PS) => S = S9 ∧ (((Drw (zA S x 1252) a1_z a2_z) ∧ r = 1) ∨ ((¬ Drw (zA S x 1252) a1_z a2_z) ∧ r = 0))) := by
  refine ent_m (cc := cX12_isDrawn) (maxL := 5) (ret := (some .boolean)) (by decide) rfl (Nat.le_of_ble_eq_true rfl) ?_
  intro p e s m below meth c ls X hr hlocks hin hw hl hsz
  subst hsz
  have X : Cx p c cX12_isDrawn 5 s [.ref x, .int (a1), .int (a2)].toArray wsX12_isDrawn RX12 m G cy κ (AS S s.heap.size) := X
  have hl : lv_has ls 5 [(0, .ref x), (1, .int (a1)), (2, .int (a2))] := hl
  have rg_a1 : (-2147483648) ≤ a1_z ∧ a1_z ≤ 2147483647 := by rw [← hz_a1]; exact ⟨z_lo _, z_hi _⟩
  have rg_a2 : (-2147483648) ≤ a2_z ∧ a2_z ≤ 2147483647 := by rw [← hz_a2]; exact ⟨z_lo _, z_hi _⟩
  generalize hQQ : MQ below _ _ _ _ _ _ = QQ
  replace hQQ := hQQ.symm
  refine lv_iconst (v := 0) X.1 X.2.1 dX12_isDrawn_0 (by decide) ?_
  refine lv_istore_n (lv' := [(3, .int 0), (0, .ref x), (1, .int (a1)), (2, .int (a2))]) X.1 X.2.1 dX12_isDrawn_1 rfl hl (by decide) rfl (fun ls hl => ?_)
  refine lv_iconst (v := 0) X.1 X.2.1 dX12_isDrawn_2 (by decide) ?_
  refine lv_istore (lv' := [(4, .int 0), (3, .int 0), (0, .ref x), (1, .int (a1)), (2, .int (a2))]) X.1 X.2.1 dX12_isDrawn_3 hl (by decide) rfl (fun ls hl => ?_)
  have L_1 : ∀ (n : Nat) (H : Heap) (locs : List Loc) (ls : Array Slot) (i3_2 : Int32) (i3_2_z : Int) (i4_3 : Int32) (i4_3_z : Int), ((5 - i4_3_z).toNat = n) → (Wd G cy (AS S s.heap.size) s.heap S H locs) → (i3_2.toInt = i3_2_z) → (0 ≤ i3_2_z ∧ i3_2_z ≤ 1) → (i4_3.toInt = i4_3_z) → (0 ≤ i4_3_z ∧ i4_3_z ≤ 5) → ((i3_2_z = 0 ∨ Drw (zA S x 1252) a1_z a2_z)) → ((i3_2_z = 1 ∨ ∀ j : Nat, (j : Int) < i4_3_z → zA S x 1252 j ≠ a2_z)) → (lv_has ls 5 [(3, .int (i3_2)), (4, .int (i4_3)), (0, .ref x), (1, .int (a1)), (2, .int (a2))]) → W p l e ({ frames := 1, cells := 0, slots := 0, locals := 48 }) s m [.ref x, .int (a1), .int (a2)].toArray below meth c H locs 0 0 QQ (F0 m 5 ls []) := by
    intro n
    induction n using Nat.strongRecOn with
    | ind n ih_L_1 =>
    intro H locs ls i3_2 i3_2_z i4_3 i4_3_z hn hw hz_i3_2 hr_i3_2 hz_i4_3 hr_i4_3 iv_4 iv_5 hl
    have rg_6 : (-2147483648) ≤ i3_2_z ∧ i3_2_z ≤ 2147483647 := by rw [← hz_i3_2]; exact ⟨z_lo _, z_hi _⟩
    have rg_7 : (-2147483648) ≤ i4_3_z ∧ i4_3_z ≤ 2147483647 := by rw [← hz_i4_3]; exact ⟨z_lo _, z_hi _⟩
    refine lv_iload X.1 X.2.1 dX12_isDrawn_5 (lv_at hl 1 rfl) ?_
    refine lv_iload_n X.1 X.2.1 dX12_isDrawn_7 rfl (lv_at hl 3 rfl) ?_
    refine lv_icmp_ge (tgt := 38) X.1 X.2.1 dX12_isDrawn_8 (by decide) (fun c_8 => ?_) (fun c_8 => ?_)
    · have z_b_9 := trivial
      have k_10 : i4_3_z ≥ a1_z := z_le hz_a1 hz_i4_3 c_8
      refine lv_iload_n X.1 X.2.1 dX12_isDrawn_38 rfl (lv_at hl 0 rfl) ?_
      have hb01 : i3_2 = 0 ∨ i3_2 = 1 := z_01 hz_i3_2 (by omega) (by omega)
      rw [hQQ]
      exact ret_z X hw hr hlocks (Nat.le_of_ble_eq_true rfl) (Nat.le_of_ble_eq_true rfl) (by assumption) ⟨rfl, (by rcases hb01 with h | h; exact Or.inr ⟨fun hd => (by have hz := hz_i3_2; rw [h, ti_0] at hz; obtain ⟨j, h1, h2⟩ := hd; exact (iv_5.resolve_left (by omega)) j (by omega) h2), h⟩; exact Or.inl ⟨iv_4.resolve_left (by have hz := hz_i3_2; rw [h] at hz; have h1 : (1 : Int32).toInt = 1 := (by decide); omega), h⟩)⟩ dX12_isDrawn_39
    · have z_b_11 := trivial
      have k_12 : i4_3_z < a1_z := z_nle hz_a1 hz_i4_3 c_8
      refine lv_iload_n X.1 X.2.1 dX12_isDrawn_11 rfl (lv_at hl 0 rfl) ?_
      refine lv_if_ne (tgt := 26) X.1 X.2.1 dX12_isDrawn_12 (by decide) (fun c_13 => ?_) (fun c_13 => ?_)
      · have z_b_14 := trivial
        have k_15 : i3_2_z ≠ 0 := z_ne hz_i3_2 ti_0 c_13
        refine lv_iconst (v := 1) X.1 X.2.1 dX12_isDrawn_26 (by decide) ?_
        refine lv_goto (tgt := 31) X.1 X.2.1 dX12_isDrawn_27 (by decide) ?_
        refine lv_istore_n (lv' := [(3, .int 1), (4, .int (i4_3)), (0, .ref x), (1, .int (a1)), (2, .int (a2))]) X.1 X.2.1 dX12_isDrawn_31 rfl hl (by decide) rfl (fun ls hl => ?_)
        obtain ⟨x_16, ex_16⟩ : ∃ y : Int32, y = i4_3 + 1 := ⟨_, rfl⟩
        have z_17 : x_16.toInt = i4_3_z + 1 := z_add ex_16 hz_i4_3 ti_1 (by omega) (by omega)
        refine lv_iinc (v := x_16) (lv' := [(4, .int (x_16)), (3, .int 1), (0, .ref x), (1, .int (a1)), (2, .int (a2))]) X.1 X.2.1 dX12_isDrawn_32 hl (k := 1) rfl (by rw [ex_16]; rfl) (by decide) rfl (fun ls hl => ?_)
        refine lv_goto (tgt := 5) X.1 X.2.1 dX12_isDrawn_35 (by decide) ?_
        exact ih_L_1 _ (by omega) _ _ _ (1) (1) (x_16) (x_16.toInt) rfl hw ti_1 (by omega) rfl (by omega) (by first | exact Or.inr (iv_4.resolve_left (by omega)) | exact Or.inr ⟨(i4_3_z).toNat, by omega, by omega⟩) (Or.inl rfl) (lv_sub hl [1, 0, 2, 3, 4] rfl)
      · have z_b_18 := trivial
        have k_19 : i3_2_z = 0 := z_eq hz_i3_2 ti_0 c_13
        refine lv_aload_n X.1 X.2.1 dX12_isDrawn_15 rfl (lv_at hl 2 rfl) ?_
        obtain ⟨q_20, h_21, h_22, h_23⟩ := gQ_12_1252 hG ha_x
        refine r_getR (g := 1252) X hw ha_x rfl 52 h_21 (by decide) rfl inn_X12_isDrawn_12 (by decide) (X.2.2.2.1 (.fieldLink RX12 122 "SilkMillModel" "draw" "[I") (by decide +kernel)) rfl (gv_1252 _ _) dX12_isDrawn_16 ?_
        refine lv_iload X.1 X.2.1 dX12_isDrawn_19 (lv_at hl 1 rfl) ?_
        refine r_iald X hw h_22 rfl (by rw [h_23]; exact z_ix hz_i4_3 (by omega) (by omega)) dX12_isDrawn_21 ?_
        refine lv_topi (fun v_24 ev_24 => ?_)
        have rg_25 := And.intro (z_lo v_24) (z_hi v_24)
        have ev_24 := ev_24.symm
        have zf_26 : zA S x 1252 (i4_3_z).toNat = v_24.toInt := (zA_of h_21 hz_i4_3 (by omega) ev_24)
        refine lv_iload_n X.1 X.2.1 dX12_isDrawn_22 rfl (lv_at hl 4 rfl) ?_
        refine lv_icmp_ne (tgt := 30) X.1 X.2.1 dX12_isDrawn_23 (by decide) (fun c_27 => ?_) (fun c_27 => ?_)
        · have z_b_28 := trivial
          have k_29 : v_24.toInt ≠ a2_z := z_ne rfl hz_a2 c_27
          refine lv_iconst (v := 0) X.1 X.2.1 dX12_isDrawn_30 (by decide) ?_
          refine lv_istore_n (lv' := [(3, .int 0), (4, .int (i4_3)), (0, .ref x), (1, .int (a1)), (2, .int (a2))]) X.1 X.2.1 dX12_isDrawn_31 rfl hl (by decide) rfl (fun ls hl => ?_)
          obtain ⟨x_30, ex_30⟩ : ∃ y : Int32, y = i4_3 + 1 := ⟨_, rfl⟩
          have z_31 : x_30.toInt = i4_3_z + 1 := z_add ex_30 hz_i4_3 ti_1 (by omega) (by omega)
          refine lv_iinc (v := x_30) (lv' := [(4, .int (x_30)), (3, .int 0), (0, .ref x), (1, .int (a1)), (2, .int (a2))]) X.1 X.2.1 dX12_isDrawn_32 hl (k := 1) rfl (by rw [ex_30]; rfl) (by decide) rfl (fun ls hl => ?_)
          refine lv_goto (tgt := 5) X.1 X.2.1 dX12_isDrawn_35 (by decide) ?_
          exact ih_L_1 _ (by omega) _ _ _ (0) (0) (x_30) (x_30.toInt) rfl hw ti_0 (by omega) rfl (by omega) (Or.inl rfl) (Or.inr (fun j h => by rcases (show (j : Int) < i4_3_z ∨ j = (i4_3_z).toNat by omega) with e | e; exact (iv_5.resolve_left (by omega)) j e; rw [e, zf_26]; omega)) (lv_sub hl [1, 0, 2, 3, 4] rfl)
        · have z_b_32 := trivial
          have k_33 : v_24.toInt = a2_z := z_eq rfl hz_a2 c_27
          refine lv_iconst (v := 1) X.1 X.2.1 dX12_isDrawn_26 (by decide) ?_
          refine lv_goto (tgt := 31) X.1 X.2.1 dX12_isDrawn_27 (by decide) ?_
          refine lv_istore_n (lv' := [(3, .int 1), (4, .int (i4_3)), (0, .ref x), (1, .int (a1)), (2, .int (a2))]) X.1 X.2.1 dX12_isDrawn_31 rfl hl (by decide) rfl (fun ls hl => ?_)
          obtain ⟨x_34, ex_34⟩ : ∃ y : Int32, y = i4_3 + 1 := ⟨_, rfl⟩
          have z_35 : x_34.toInt = i4_3_z + 1 := z_add ex_34 hz_i4_3 ti_1 (by omega) (by omega)
          refine lv_iinc (v := x_34) (lv' := [(4, .int (x_34)), (3, .int 1), (0, .ref x), (1, .int (a1)), (2, .int (a2))]) X.1 X.2.1 dX12_isDrawn_32 hl (k := 1) rfl (by rw [ex_34]; rfl) (by decide) rfl (fun ls hl => ?_)
          refine lv_goto (tgt := 5) X.1 X.2.1 dX12_isDrawn_35 (by decide) ?_
          exact ih_L_1 _ (by omega) _ _ _ (1) (1) (x_34) (x_34.toInt) rfl hw ti_1 (by omega) rfl (by omega) (by first | exact Or.inr (iv_4.resolve_left (by omega)) | exact Or.inr ⟨(i4_3_z).toNat, by omega, by omega⟩) (Or.inl rfl) (lv_sub hl [1, 0, 2, 3, 4] rfl)
  exact L_1 _ _ _ _ (0) (0) (0) (0) rfl hw ti_0 (by omega) ti_0 (by omega) (Or.inl rfl) (Or.inr (fun j h => absurd h (by omega))) (lv_sub hl [1, 0, 2, 3, 4] rfl)
set_option maxHeartbeats 4000000 in
set_option maxRecDepth 100000 in
theorem k_X12_grade7 (l : Launch) (G : va_G) (cy : Nat → ClassId) (κ : Nat → Nat) (S : PS) (sz : Nat) (x : Nat) (a1 : Int32) (a1_z : Int) (a2 : Int32) (a2_z : Int) (a3 : Int32) (a3_z : Int) (Ls : List Sk) (hG : GX S) (ha_x : At S x 12) (hz_a1 : a1.toInt = a1_z) (hz_a2 : a2.toInt = a2_z) (hz_a3 : a3.toInt = a3_z) (hp_0 : MI S x) (hp_1 : SkW S x Ls) : Ci l yX12_grade wsX12_grade ({ frames := 5, cells := 0, slots := 0, locals := 240 }) G cy κ S sz [.ref x, .int (a1), .int (a2), .int (a3)] (fun (r : Int32) (S9 : PS) => Ok Mgr S S9 ∧ (-2147483648 ≤ r.toInt ∧ r.toInt ≤ 2147483647 ∧ (∀ s, 0 ≤ a1_z → Ls[a1_z.toNat]? = some s → 1 ≤ a3_z → a3_z ≤ 5 → a3_z ≤ (s.2.2.2.length : Int) → GrR S S9 x a1_z s a2 a3_z r) ∧ (¬ GrI Ls a1_z a3_z → r.toInt = -1 ∧ S9 = sI S 1200 x 0))) := by
  refine ent_m (cc := cX12_grade) (maxL := 8) (ret := (some .int)) (by decide) rfl (Nat.le_of_ble_eq_true rfl) ?_
  intro p e s m below meth c ls X hr hlocks hin hw hl hsz
  subst hsz
  have X : Cx p c cX12_grade 8 s [.ref x, .int (a1), .int (a2), .int (a3)].toArray wsX12_grade RX12 m G cy κ (AS S s.heap.size) := X
  have hl : lv_has ls 8 [(0, .ref x), (1, .int (a1)), (2, .int (a2)), (3, .int (a3))] := hl
  have rg_a1 : (-2147483648) ≤ a1_z ∧ a1_z ≤ 2147483647 := by rw [← hz_a1]; exact ⟨z_lo _, z_hi _⟩
  have rg_a2 : (-2147483648) ≤ a2_z ∧ a2_z ≤ 2147483647 := by rw [← hz_a2]; exact ⟨z_lo _, z_hi _⟩
  have rg_a3 : (-2147483648) ≤ a3_z ∧ a3_z ≤ 2147483647 := by rw [← hz_a3]; exact ⟨z_lo _, z_hi _⟩
  have hO : Ok Mgr S S := Ok.rf hG
  generalize hQQ : MQ below _ _ _ _ _ _ = QQ
  replace hQQ := hQQ.symm
  obtain ⟨v_1, ev_1⟩ : ∃ v, pI S 1238 x = v := ⟨_, rfl⟩
  have rg_2 := gI_12_1238 hO.1 ha_x; rw [ev_1] at rg_2
  have pz_3 : (pI S 1238 x).toInt = v_1.toInt := by rw [ev_1]
  have pz_4 : (pI S 1238 x).toInt = v_1.toInt := (congrArg Int32.toInt ev_1).trans rfl
  refine lv_aload_n X.1 X.2.1 dX12_grade_0 rfl (lv_at hl 0 rfl) ?_
  refine lv_iconst (v := 0) X.1 X.2.1 dX12_grade_1 (by decide) ?_
  refine r_putI (v := 0) X hw ha_x rfl 0 1200 tyX12 (by decide) rfl inn_X12_grade_12 tyX12_ok nmX12 (by decide) (X.2.2.2.1 (.fieldLink RX12 161 "SilkMillModel" "thrown" "I") (by decide +kernel)) rfl (Or.inl rfl) rfl rfl (Nat.le_of_ble_eq_true rfl) (st_1200 _ _) dX12_grade_2 (fun H locs hw => ?_)
  obtain ⟨S_5, eS_5⟩ : ∃ T, T = sI S 1200 x (0) := ⟨_, rfl⟩
  rw [← eS_5] at hw
  have hO_6 : Ok Mgr S S_5 := hO.sI eS_5 (by decide +kernel) (uI_12_1200 hO.1 ha_x)
  have h_7 : pI S_5 1200 x = 0 := tI_sIs eS_5
  refine lv_aload_n X.1 X.2.1 dX12_grade_5 rfl (lv_at hl 0 rfl) ?_
  refine lv_iload_n X.1 X.2.1 dX12_grade_6 rfl (lv_at hl 1 rfl) ?_
  have t_8 : pI S_5 1238 x = v_1 := tI_sI eS_5 rfl ev_1
  have pz_9 : (pI S_5 1238 x).toInt = v_1.toInt := (congrArg Int32.toInt t_8).trans rfl
  have t_10 : At S_5 x 12 := tAt_sI eS_5 ha_x
  refine k_i (rm := { frames := 2, cells := 0, slots := 0, locals := 96 }) (av := [.ref x, .int (a1)]) X hw (va_runV (As := [.int (a1)]) (rest := []) (cfix X) (k_X12_isSkein7 l G cy κ S_5 _ x (a1) (a1_z) hO_6.1 t_10 hz_a1) (cwV 1 X.2.2.2.1 gX12_grade_X12_isSkein rfl rfl rfl (by decide +kernel) ⟨Nat.le_of_ble_eq_true rfl, Nat.le_of_ble_eq_true rfl⟩) (pre_V X hw _ t_10 rfl (by decide) rfl) rfl rfl hl.1 rfl (lv_room (Nat.le_of_ble_eq_true rfl)) dX12_grade_7 ⟨Nat.le_of_ble_eq_true rfl, Nat.le_of_ble_eq_true rfl⟩) 0 0 (Nat.le_of_ble_eq_true rfl) (Nat.le_of_ble_eq_true rfl) (fun rr_11 S_12 H locs hp hw hfr hnw => ?_)
  obtain ⟨e2, hp⟩ := hp
  subst e2
  rcases hp with ⟨f_13, er_14⟩ | ⟨f_13, er_14⟩ <;> subst er_14
  · have z_b_15 := trivial
    refine lv_if_eq (tgt := 31) X.1 X.2.1 dX12_grade_10 (by decide) (fun c_16 => absurd c_16 (by decide)) (fun c_16 => ?_)
    have kl_22 := hp_1.1
    have pz_23 : (pI S_5 1238 x).toInt = v_1.toInt := (congrArg Int32.toInt t_8).trans rfl
    obtain ⟨s_17, hs_18⟩ : ∃ s, Ls[a1_z.toNat]? = some s := ⟨_, List.getElem?_eq_getElem (by omega)⟩
    obtain ⟨sr_19, sr_20, sr_21⟩ := hp_1.2 _ _ hs_18
    have z9_24 : zA S_5 x 1239 a1_z.toNat = zA S x 1239 a1_z.toNat := congrFun (zA_sI eS_5) _
    have z9_25 : zA S_5 x 1239 (a1_z + 1).toNat = zA S x 1239 (a1_z + 1).toNat := congrFun (zA_sI eS_5) _
    have z9_26 : zA S x 1239 (a1_z + 1).toNat = zA S x 1239 (a1_z.toNat + 1) := by rw [show (a1_z + 1).toNat = a1_z.toNat + 1 by omega]
    have sr_27 := (hp_1.2 _ _ hs_18).1
    refine lv_iload_n X.1 X.2.1 dX12_grade_13 rfl (lv_at hl 3 rfl) ?_
    refine lv_iconst (v := 1) X.1 X.2.1 dX12_grade_14 (by decide) ?_
    refine lv_iconst (v := 5) X.1 X.2.1 dX12_grade_15 (by decide) ?_
    refine k_i (rm := { frames := 1, cells := 0, slots := 0, locals := 48 }) (av := [.int (a3), .int 1, .int 5]) X hw (va_runS (As := [.int (a3), .int 1, .int 5]) (rest := []) (cfix X) (k_X12_within l G cy κ S_5 _ (a3) (a3_z) (1) (1) (5) (5) hO_6.1 hz_a3 ti_1 ti_5) (cwS 3 X.2.2.2.1 gX12_grade_X12_within rfl rfl rfl (by decide +kernel) ⟨Nat.le_of_ble_eq_true rfl, Nat.le_of_ble_eq_true rfl⟩) (pre_S X hw _) rfl rfl hl.1 rfl (lv_room (Nat.le_of_ble_eq_true rfl)) dX12_grade_16 ⟨Nat.le_of_ble_eq_true rfl, Nat.le_of_ble_eq_true rfl⟩) 0 0 (Nat.le_of_ble_eq_true rfl) (Nat.le_of_ble_eq_true rfl) (fun rr_28 S_29 H locs hp hw hfr hnw => ?_)
    obtain ⟨e2, hp⟩ := hp
    subst e2
    rcases hp with ⟨f_30, er_31⟩ | ⟨f_30, er_31⟩ <;> subst er_31
    · have z_b_32 := trivial
      refine lv_if_eq (tgt := 31) X.1 X.2.1 dX12_grade_19 (by decide) (fun c_33 => absurd c_33 (by decide)) (fun c_33 => ?_)
      refine lv_iload_n X.1 X.2.1 dX12_grade_22 rfl (lv_at hl 3 rfl) ?_
      refine lv_aload_n X.1 X.2.1 dX12_grade_23 rfl (lv_at hl 0 rfl) ?_
      refine lv_iload_n X.1 X.2.1 dX12_grade_24 rfl (lv_at hl 1 rfl) ?_
      refine k_i (rm := { frames := 1, cells := 0, slots := 0, locals := 48 }) (av := [.ref x, .int (a1)]) X hw (va_runV (As := [.int (a1)]) (rest := [.int (a3)]) (cfix X) (k_X12_metres l G cy κ S_5 _ x (a1) (a1_z) hO_6.1 t_10 hz_a1 (by first | assumption | omega) (by first | assumption | omega) (by first | assumption | omega) (MIe_free hG ha_x hO_6.fr (by decide +kernel) hp_0)) (cwV 1 X.2.2.2.1 gX12_grade_X12_metres rfl rfl rfl (by decide +kernel) ⟨Nat.le_of_ble_eq_true rfl, Nat.le_of_ble_eq_true rfl⟩) (pre_V X hw _ t_10 rfl (by decide) rfl) rfl rfl hl.1 rfl (lv_room (Nat.le_of_ble_eq_true rfl)) dX12_grade_25 ⟨Nat.le_of_ble_eq_true rfl, Nat.le_of_ble_eq_true rfl⟩) 0 0 (Nat.le_of_ble_eq_true rfl) (Nat.le_of_ble_eq_true rfl) (fun rr_34 S_35 H locs hp hw hfr hnw => ?_)
      obtain ⟨e2, hp⟩ := hp
      subst e2
      obtain ⟨f_36, f_37, f_38⟩ := hp
      refine lv_icmp_le (tgt := 33) X.1 X.2.1 dX12_grade_28 (by decide) (fun c_39 => ?_) (fun c_39 => ?_)
      · have z_b_40 := trivial
        have k_41 : a3_z ≤ rr_34.toInt := z_le hz_a3 rfl c_39
        refine lv_aload_n X.1 X.2.1 dX12_grade_33 rfl (lv_at hl 0 rfl) ?_
        refine lv_iload_n X.1 X.2.1 dX12_grade_34 rfl (lv_at hl 1 rfl) ?_
        refine k_i (rm := { frames := 1, cells := 0, slots := 0, locals := 48 }) (av := [.ref x, .int (a1)]) X hw (va_runV (As := [.int (a1)]) (rest := []) (cfix X) (k_X12_metres l G cy κ S_5 _ x (a1) (a1_z) hO_6.1 t_10 hz_a1 (by first | assumption | omega) (by first | assumption | omega) (by first | assumption | omega) (MIe_free hG ha_x hO_6.fr (by decide +kernel) hp_0)) (cwV 1 X.2.2.2.1 gX12_grade_X12_metres rfl rfl rfl (by decide +kernel) ⟨Nat.le_of_ble_eq_true rfl, Nat.le_of_ble_eq_true rfl⟩) (pre_V X hw _ t_10 rfl (by decide) rfl) rfl rfl hl.1 rfl (lv_room (Nat.le_of_ble_eq_true rfl)) dX12_grade_35 ⟨Nat.le_of_ble_eq_true rfl, Nat.le_of_ble_eq_true rfl⟩) 0 0 (Nat.le_of_ble_eq_true rfl) (Nat.le_of_ble_eq_true rfl) (fun rr_42 S_43 H locs hp hw hfr hnw => ?_)
        obtain ⟨e2, hp⟩ := hp
        subst e2
        obtain ⟨f_44, f_45, f_46⟩ := hp
        refine lv_istore (lv' := [(4, .int (rr_42)), (0, .ref x), (1, .int (a1)), (2, .int (a2)), (3, .int (a3))]) X.1 X.2.1 dX12_grade_38 hl (by decide) rfl (fun ls hl => ?_)
        refine lv_iload_n X.1 X.2.1 dX12_grade_40 rfl (lv_at hl 3 rfl) ?_
        refine lv_istore (lv' := [(5, .int (a2)), (4, .int (rr_42)), (0, .ref x), (1, .int (a1)), (2, .int (a2)), (3, .int (a3))]) X.1 X.2.1 dX12_grade_41 hl (by decide) rfl (fun ls hl => ?_)
        refine lv_aload_n X.1 X.2.1 dX12_grade_43 rfl (lv_at hl 2 rfl) ?_
        refine lv_iconst (v := 0) X.1 X.2.1 dX12_grade_44 (by decide) ?_
        refine r_putI (v := 0) X hw t_10 rfl 49 1249 tyX12 (by decide) rfl inn_X12_grade_12 tyX12_ok nmX12 (by decide) (X.2.2.2.1 (.fieldLink RX12 382 "SilkMillModel" "off" "I") (by decide +kernel)) rfl (Or.inl rfl) rfl rfl (Nat.le_of_ble_eq_true rfl) (st_1249 _ _) dX12_grade_45 (fun H locs hw => ?_)
        obtain ⟨S_47, eS_47⟩ : ∃ T, T = sI S_5 1249 x (0) := ⟨_, rfl⟩
        rw [← eS_47] at hw
        have hO_48 : Ok Mgr S S_47 := hO_6.sI eS_47 (by decide +kernel) (uI_12_1249 hO_6.1 t_10)
        have h_49 : pI S_47 1249 x = 0 := tI_sIs eS_47
        refine lv_iconst (v := 0) X.1 X.2.1 dX12_grade_48 (by decide) ?_
        refine lv_istore (lv' := [(6, .int 0), (5, .int (a2)), (4, .int (rr_42)), (0, .ref x), (1, .int (a1)), (2, .int (a2)), (3, .int (a3))]) X.1 X.2.1 dX12_grade_49 hl (by decide) rfl (fun ls hl => ?_)
        have zc_55 : zA S_5 x 1239 = zA S x 1239 := zA_sI eS_5
        have zc_56 : zA S_47 x 1239 = zA S x 1239 := (zA_sI eS_47).trans zc_55
        have zc_58 : zA S_5 x 1242 = zA S x 1242 := zA_sI eS_5
        have zc_59 : zA S_47 x 1242 = zA S x 1242 := (zA_sI eS_47).trans zc_58
        have zc_61 : zA S_5 x 1235 = zA S x 1235 := zA_sI eS_5
        have zc_62 : zA S_47 x 1235 = zA S x 1235 := (zA_sI eS_47).trans zc_61
        have zc_64 : zA S_5 x 1236 = zA S x 1236 := zA_sI eS_5
        have zc_65 : zA S_47 x 1236 = zA S x 1236 := (zA_sI eS_47).trans zc_64
        have zc_67 : zA S_5 x 1243 = zA S x 1243 := zA_sI eS_5
        have zc_68 : zA S_47 x 1243 = zA S x 1243 := (zA_sI eS_47).trans zc_67
        have L_50 : ∀ (n : Nat) (T_53 : PS) (H : Heap) (locs : List Loc) (ls : Array Slot) (i5_51 : Int32) (i5_51_z : Int) (i6_52 : Int32) (i6_52_z : Int), ((5 - i6_52_z).toNat = n) → (Wd G cy (AS S s.heap.size) s.heap T_53 H locs) → (i5_51.toInt = i5_51_z) → (i6_52.toInt = i6_52_z) → (0 ≤ i6_52_z ∧ i6_52_z ≤ 5) → (At T_53 x 12) → (Ok Mgr S T_53) → (zA T_53 x 1239 = zA S x 1239) → (zA T_53 x 1242 = zA S x 1242) → (zA T_53 x 1235 = zA S x 1235) → (zA T_53 x 1236 = zA S x 1236) → (zA T_53 x 1243 = zA S x 1243) → (i6_52_z ≤ a3_z) → (lkZ (zA T_53 x 1252) i6_52_z = (drF (s_17.2.2.2.length : Int) a2 (i6_52_z).toNat).1) → ((i5_51) = (drF (s_17.2.2.2.length : Int) a2 (i6_52_z).toNat).2) → (pI T_53 1249 x = ofF (fun m => mtZ S x (mtG s_17.2.2.2 m)) s_17.2.2.1 (drF (s_17.2.2.2.length : Int) a2 (i6_52_z).toNat).1) → (lv_has ls 8 [(5, .int (i5_51)), (6, .int (i6_52)), (4, .int (rr_42)), (0, .ref x), (1, .int (a1)), (2, .int (a2)), (3, .int (a3))]) → W p l e ({ frames := 5, cells := 0, slots := 0, locals := 240 }) s m [.ref x, .int (a1), .int (a2), .int (a3)].toArray below meth c H locs 0 0 QQ (F0 m 51 ls []) := by
          intro n
          induction n using Nat.strongRecOn with
          | ind n ih_L_50 =>
          intro T_53 H locs ls i5_51 i5_51_z i6_52 i6_52_z hn hw hz_i5_51 hz_i6_52 hr_i6_52 ha_x_L_54 hO_T_53 zk_57 zk_60 zk_63 zk_66 zk_69 iv_70 iv_71 iv_72 iv_73 hl
          have rg_74 : (-2147483648) ≤ i5_51_z ∧ i5_51_z ≤ 2147483647 := by rw [← hz_i5_51]; exact ⟨z_lo _, z_hi _⟩
          have rg_75 : (-2147483648) ≤ i6_52_z ∧ i6_52_z ≤ 2147483647 := by rw [← hz_i6_52]; exact ⟨z_lo _, z_hi _⟩
          obtain ⟨v_76, ev_76⟩ : ∃ v, pI T_53 1249 x = v := ⟨_, rfl⟩
          have rg_78 := And.intro (z_lo v_76) (z_hi v_76)
          have pz_79 : (pI T_53 1249 x).toInt = v_76.toInt := by rw [ev_76]
          have pz_80 : (pI T_53 1249 x).toInt = v_76.toInt := (congrArg Int32.toInt ev_76).trans rfl
          refine lv_iload X.1 X.2.1 dX12_grade_51 (lv_at hl 1 rfl) ?_
          refine lv_iload_n X.1 X.2.1 dX12_grade_53 rfl (lv_at hl 6 rfl) ?_
          refine lv_icmp_ge (tgt := 145) X.1 X.2.1 dX12_grade_54 (by decide) (fun c_81 => ?_) (fun c_81 => ?_)
          · have z_b_82 := trivial
            have k_83 : i6_52_z ≥ a3_z := z_le hz_a3 hz_i6_52 c_81
            refine lv_aload_n X.1 X.2.1 dX12_grade_145 rfl (lv_at hl 3 rfl) ?_
            refine lv_iload_n X.1 X.2.1 dX12_grade_146 rfl (lv_at hl 6 rfl) ?_
            refine r_putI (v := a3) X hw ha_x_L_54 rfl 51 1251 tyX12 (by decide) rfl inn_X12_grade_12 tyX12_ok nmX12 (by decide) (X.2.2.2.1 (.fieldLink RX12 388 "SilkMillModel" "draws" "I") (by decide +kernel)) rfl (Or.inl rfl) rfl rfl (Nat.le_of_ble_eq_true rfl) (st_1251 _ _) dX12_grade_147 (fun H locs hw => ?_)
            obtain ⟨S_84, eS_84⟩ : ∃ T, T = sI T_53 1251 x (a3) := ⟨_, rfl⟩
            rw [← eS_84] at hw
            have hO_85 : Ok Mgr S S_84 := hO_T_53.sI eS_84 (by decide +kernel) (uI_12_1251 hO_T_53.1 ha_x_L_54 (by omega) (by omega))
            have h_86 : pI S_84 1251 x = a3 := tI_sIs eS_84
            refine lv_aload_n X.1 X.2.1 dX12_grade_150 rfl (lv_at hl 3 rfl) ?_
            refine lv_iload X.1 X.2.1 dX12_grade_151 (lv_at hl 2 rfl) ?_
            refine lv_iload_n X.1 X.2.1 dX12_grade_153 rfl (lv_at hl 6 rfl) ?_
            refine lv_isub X.1 X.2.1 dX12_grade_154 ?_
            refine lv_topi (fun v_87 ev_87 => ?_)
            have z_88 : v_87.toInt = rr_42.toInt - a3_z := z_sub ev_87 rfl hz_a3 (by omega) (by omega)
            have t_89 : At S_84 x 12 := tAt_sI eS_84 ha_x_L_54
            refine r_putI (v := v_87) X hw t_89 rfl 50 1250 tyX12 (by decide) rfl inn_X12_grade_12 tyX12_ok nmX12 (by decide) (X.2.2.2.1 (.fieldLink RX12 391 "SilkMillModel" "bound" "I") (by decide +kernel)) rfl (Or.inl rfl) rfl rfl (Nat.le_of_ble_eq_true rfl) (st_1250 _ _) dX12_grade_155 (fun H locs hw => ?_)
            obtain ⟨S_90, eS_90⟩ : ∃ T, T = sI S_84 1250 x (v_87) := ⟨_, rfl⟩
            rw [← eS_90] at hw
            have hO_91 : Ok Mgr S S_90 := hO_85.sI eS_90 (by decide +kernel) (uI_12_1250 hO_85.1 t_89)
            have h_92 : pI S_90 1250 x = v_87 := tI_sIs eS_90
            have zc_96 : zA S_84 x 1252 = zA T_53 x 1252 := zA_sI eS_84
            have zc_97 : zA S_90 x 1252 = zA T_53 x 1252 := (zA_sI eS_90).trans zc_96
            have zc_99 : zA S_84 x 1243 = zA S x 1243 := (zA_sI eS_84).trans zk_69
            have zc_100 : zA S_90 x 1243 = zA S x 1243 := (zA_sI eS_90).trans zc_99
            have t_104 : pI S_84 1249 x = v_76 := tI_sI eS_84 rfl ev_76
            have t_105 : pI S_90 1249 x = v_76 := tI_sI eS_90 rfl t_104
            have t_107 : pI S_90 1251 x = a3 := tI_sI eS_90 rfl h_86
            have L_93 : ∀ (n : Nat) (T_94 : PS) (H : Heap) (locs : List Loc) (ls : Array Slot) , (((pI T_94 1250 x).toInt).toNat = n) → (Wd G cy (AS S s.heap.size) s.heap T_94 H locs) → (At T_94 x 12) → (Ok Mgr S T_94) → (zA T_94 x 1252 = zA T_53 x 1252) → (zA T_94 x 1243 = zA S x 1243) → (bdF (rr_42) a3_z.toNat (pI T_94 1250 x).toInt.toNat = bdF (rr_42) a3_z.toNat (rr_42.toInt - a3_z).toNat) → (0 ≤ (pI T_94 1250 x).toInt) → (pI T_94 1249 x = v_76) → (pI T_94 1251 x = a3) → (lv_has ls 8 [(5, .int (i5_51)), (6, .int (i6_52)), (4, .int (rr_42)), (0, .ref x), (1, .int (a1)), (2, .int (a2)), (3, .int (a3))]) → W p l e ({ frames := 5, cells := 0, slots := 0, locals := 240 }) s m [.ref x, .int (a1), .int (a2), .int (a3)].toArray below meth c H locs 0 0 QQ (F0 m 158 ls []) := by
              intro n
              induction n using Nat.strongRecOn with
              | ind n ih_L_93 =>
              intro T_94 H locs ls  hn hw ha_x_L_95 hO_T_94 zk_98 zk_101 iv_102 iv_103 ik_106 ik_108 hl
              obtain ⟨v_109, ev_109⟩ : ∃ v, pI T_94 1250 x = v := ⟨_, rfl⟩
              have rg_111 := And.intro (z_lo v_109) (z_hi v_109)
              have pz_112 : (pI T_94 1250 x).toInt = v_109.toInt := by rw [ev_109]
              have pz_113 : (pI T_94 1250 x).toInt = v_109.toInt := (congrArg Int32.toInt ev_109).trans rfl
              have pz_114 : (pI T_94 1249 x).toInt = v_76.toInt := (congrArg Int32.toInt ik_106).trans rfl
              have pz_115 : (pI T_94 1251 x).toInt = a3_z := (congrArg Int32.toInt ik_108).trans hz_a3
              refine lv_aload_n X.1 X.2.1 dX12_grade_158 rfl (lv_at hl 3 rfl) ?_
              refine r_getI (g := 1250) (x := v_109) X hw ha_x_L_95 rfl 50 ev_109 (by decide) rfl inn_X12_grade_12 (by decide) (X.2.2.2.1 (.fieldLink RX12 391 "SilkMillModel" "bound" "I") (by decide +kernel)) rfl (gv_1250 _ _) dX12_grade_159 ?_
              refine lv_if_le (tgt := 203) X.1 X.2.1 dX12_grade_162 (by decide) (fun c_116 => ?_) (fun c_116 => ?_)
              · have z_b_117 := trivial
                have k_118 : v_109.toInt ≤ 0 := z_le rfl ti_0 c_116
                have pz_120 : (pI T_94 1250 x).toInt = v_109.toInt := (congrArg Int32.toInt ev_109).trans rfl
                have bb_119 : (pI T_94 1250 x).toInt = bdF rr_42 a3_z.toNat (rr_42.toInt - a3_z).toNat := by have h := iv_102; rw [show (pI T_94 1250 x).toInt.toNat = 0 by omega] at h; exact (show (pI T_94 1250 x).toInt = 0 by omega).trans h
                refine lv_aload_n X.1 X.2.1 dX12_grade_203 rfl (lv_at hl 3 rfl) ?_
                obtain ⟨q_121, h_122, h_123, h_124⟩ := gQ_12_1243 hO_T_94.1 ha_x_L_95
                refine r_getR (g := 1243) X hw ha_x_L_95 rfl 43 h_122 (by decide) rfl inn_X12_grade_12 (by decide) (X.2.2.2.1 (.fieldLink RX12 112 "SilkMillModel" "skeinGrade" "[I") (by decide +kernel)) rfl (gv_1243 _ _) dX12_grade_204 ?_
                refine lv_iload_n X.1 X.2.1 dX12_grade_207 rfl (lv_at hl 4 rfl) ?_
                refine lv_aload_n X.1 X.2.1 dX12_grade_208 rfl (lv_at hl 3 rfl) ?_
                refine r_getI (g := 1249) (x := v_76) X hw ha_x_L_95 rfl 49 ik_106 (by decide) rfl inn_X12_grade_12 (by decide) (X.2.2.2.1 (.fieldLink RX12 382 "SilkMillModel" "off" "I") (by decide +kernel)) rfl (gv_1249 _ _) dX12_grade_209 ?_
                refine lv_iconst (v := 3) X.1 X.2.1 dX12_grade_212 (by decide) ?_
                refine lv_icmp_gt (tgt := 220) X.1 X.2.1 dX12_grade_213 (by decide) (fun c_125 => ?_) (fun c_125 => ?_)
                · have z_b_126 := trivial
                  have k_127 : v_76.toInt > 3 := z_lt ti_3 rfl c_125
                  refine lv_aload_n X.1 X.2.1 dX12_grade_220 rfl (lv_at hl 3 rfl) ?_
                  refine r_getI (g := 1249) (x := v_76) X hw ha_x_L_95 rfl 49 ik_106 (by decide) rfl inn_X12_grade_12 (by decide) (X.2.2.2.1 (.fieldLink RX12 382 "SilkMillModel" "off" "I") (by decide +kernel)) rfl (gv_1249 _ _) dX12_grade_221 ?_
                  refine lv_bipush (v := 8) X.1 X.2.1 dX12_grade_224 (by decide) ?_
                  refine lv_icmp_gt (tgt := 233) X.1 X.2.1 dX12_grade_226 (by decide) (fun c_128 => ?_) (fun c_128 => ?_)
                  · have z_b_129 := trivial
                    have k_130 : v_76.toInt > 8 := z_lt ti_8 rfl c_128
                    refine lv_aload_n X.1 X.2.1 dX12_grade_233 rfl (lv_at hl 3 rfl) ?_
                    refine r_getI (g := 1249) (x := v_76) X hw ha_x_L_95 rfl 49 ik_106 (by decide) rfl inn_X12_grade_12 (by decide) (X.2.2.2.1 (.fieldLink RX12 382 "SilkMillModel" "off" "I") (by decide +kernel)) rfl (gv_1249 _ _) dX12_grade_234 ?_
                    refine lv_bipush (v := 20) X.1 X.2.1 dX12_grade_237 (by decide) ?_
                    refine lv_icmp_gt (tgt := 246) X.1 X.2.1 dX12_grade_239 (by decide) (fun c_131 => ?_) (fun c_131 => ?_)
                    · have z_b_132 := trivial
                      have k_133 : v_76.toInt > 20 := z_lt ti_20 rfl c_131
                      refine lv_iconst (v := 3) X.1 X.2.1 dX12_grade_246 (by decide) ?_
                      refine r_iast X hw h_123 rfl (by rw [h_124]; exact z_ix hz_a1 (by omega) (by omega)) dX12_grade_247 (fun H locs hw => ?_)
                      obtain ⟨S_134, eS_134⟩ : ∃ T, T = sA T_94 q_121 (upd (pA T_94 q_121) (Int32.toNatClampNeg (a1)) (3)) := ⟨_, rfl⟩
                      rw [← eS_134] at hw
                      have hO_135 : Ok Mgr S S_134 := hO_T_94.sA eS_134 h_123 (by decide +kernel) (uA_1074 hO_T_94.1 h_123 (by rw [ti_3]; omega) (by rw [ti_3]; omega))
                      have h_136 : pA S_134 q_121 (Int32.toNatClampNeg (a1)) = 3 := tA_sAs eS_134
                      have t_137 : pR S_134 1243 x = some q_121 := tR_sA eS_134 h_122
                      have t_139 : pR T_94 1243 x = some q_121 := by have h := t_137; rw [eS_134, pR_sA] at h; exact h
                      have zs_138 : ∀ j, zA S_134 x 1243 j = if j = (a1_z).toNat then 3 else zA T_94 x 1243 j := by have h := zA_sAs eS_134 t_139 ti_3; rw [z_nc hz_a1 (by omega)] at h; exact h
                      refine lv_aload_n X.1 X.2.1 dX12_grade_248 rfl (lv_at hl 3 rfl) ?_
                      have t_140 : At S_134 x 12 := tAt_sA eS_134 ha_x_L_95
                      refine r_getR (g := 1243) X hw t_140 rfl 43 t_137 (by decide) rfl inn_X12_grade_12 (by decide) (X.2.2.2.1 (.fieldLink RX12 112 "SilkMillModel" "skeinGrade" "[I") (by decide +kernel)) rfl (gv_1243 _ _) dX12_grade_249 ?_
                      refine lv_iload_n X.1 X.2.1 dX12_grade_252 rfl (lv_at hl 4 rfl) ?_
                      have t_141 : At S_134 q_121 1074 := tAt_sA eS_134 h_123
                      have t_142 : pN S_134 q_121 = 40 := tN_sA eS_134 h_124
                      clear h_124
                      refine r_iald X hw t_141 rfl (by rw [t_142]; exact z_ix hz_a1 (by omega) (by omega)) dX12_grade_253 ?_
                      rw [h_136]
                      have t_143 : pI S_134 1249 x = v_76 := tI_sA eS_134 ik_106
                      have t_144 : pI S_134 1251 x = a3 := tI_sA eS_134 ik_108
                      have pz_145 : (pI S_134 1251 x).toInt = a3_z := (congrArg Int32.toInt t_144).trans hz_a3
                      have t_146 : pI S_134 1250 x = v_109 := tI_sA eS_134 ev_109
                      have pz_147 : (pI S_134 1250 x).toInt = v_109.toInt := (congrArg Int32.toInt t_146).trans rfl
                      have go_148 : v_76 = gdO (mtZ S x) s_17 a2 a3_z := by have h := iv_73; rw [ev_76, show (i6_52_z) = a3_z by omega] at h; exact h
                      have hu_149 : (rr_42 : Int32).toInt = (s_17.2.2.2.length : Int) := (by have e1 : (rr_42 : Int32).toInt = rr_42.toInt := rfl; omega)
                      have zc_150 : zA S_134 x 1252 = zA T_53 x 1252 := (zA_sAn eS_134 (ex3 (gQ_12_1252 hO_T_94.1 ha_x_L_95)) h_123 rfl).trans zk_98
                      rw [hQQ]
                      exact ret_i X hw hr hlocks (Nat.le_of_ble_eq_true rfl) (Nat.le_of_ble_eq_true rfl) ⟨hO_135, ⟨z_lo _, z_hi _, fun s h0 h1 h2 h3 h4 => (by rw [hs_18] at h1; cases h1; exact ⟨(by rw [← go_148, grF_3 (by have e1 : (v_76 : Int32).toInt = v_76.toInt := rfl; omega)]; have e1 : (3 : Int32).toInt = 3 := ti_3; omega), ⟨by omega, t_143.trans go_148, (by have h := bb_119; show _ = bdF (Int32.ofInt (s_17.2.2.2.length : Int)) a3_z.toNat ((s_17.2.2.2.length : Int) - a3_z).toNat; rw [oi_e hu_149, show (s_17.2.2.2.length : Int) - a3_z = rr_42.toInt - a3_z by omega]; omega), (by rw [zc_150, show a3_z = i6_52_z by omega]; exact iv_71)⟩, fun j => (by rw [zs_138 j, zk_101]; have e1 : (3 : Int32).toInt = 3 := ti_3; by_cases c : j = a1_z.toNat; rw [if_pos c, if_pos c]; omega; rw [if_neg c, if_neg c])⟩), fun h => absurd ⟨s_17, by omega, hs_18, by omega, by omega, by omega⟩ h⟩⟩ dX12_grade_254
                    · have z_b_151 := trivial
                      have k_152 : v_76.toInt ≤ 20 := z_nlt ti_20 rfl c_131
                      refine lv_iconst (v := 2) X.1 X.2.1 dX12_grade_242 (by decide) ?_
                      refine lv_goto (tgt := 247) X.1 X.2.1 dX12_grade_243 (by decide) ?_
                      refine r_iast X hw h_123 rfl (by rw [h_124]; exact z_ix hz_a1 (by omega) (by omega)) dX12_grade_247 (fun H locs hw => ?_)
                      obtain ⟨S_153, eS_153⟩ : ∃ T, T = sA T_94 q_121 (upd (pA T_94 q_121) (Int32.toNatClampNeg (a1)) (2)) := ⟨_, rfl⟩
                      rw [← eS_153] at hw
                      have hO_154 : Ok Mgr S S_153 := hO_T_94.sA eS_153 h_123 (by decide +kernel) (uA_1074 hO_T_94.1 h_123 (by rw [ti_2]; omega) (by rw [ti_2]; omega))
                      have h_155 : pA S_153 q_121 (Int32.toNatClampNeg (a1)) = 2 := tA_sAs eS_153
                      have t_156 : pR S_153 1243 x = some q_121 := tR_sA eS_153 h_122
                      have t_158 : pR T_94 1243 x = some q_121 := by have h := t_156; rw [eS_153, pR_sA] at h; exact h
                      have zs_157 : ∀ j, zA S_153 x 1243 j = if j = (a1_z).toNat then 2 else zA T_94 x 1243 j := by have h := zA_sAs eS_153 t_158 ti_2; rw [z_nc hz_a1 (by omega)] at h; exact h
                      refine lv_aload_n X.1 X.2.1 dX12_grade_248 rfl (lv_at hl 3 rfl) ?_
                      have t_159 : At S_153 x 12 := tAt_sA eS_153 ha_x_L_95
                      refine r_getR (g := 1243) X hw t_159 rfl 43 t_156 (by decide) rfl inn_X12_grade_12 (by decide) (X.2.2.2.1 (.fieldLink RX12 112 "SilkMillModel" "skeinGrade" "[I") (by decide +kernel)) rfl (gv_1243 _ _) dX12_grade_249 ?_
                      refine lv_iload_n X.1 X.2.1 dX12_grade_252 rfl (lv_at hl 4 rfl) ?_
                      have t_160 : At S_153 q_121 1074 := tAt_sA eS_153 h_123
                      have t_161 : pN S_153 q_121 = 40 := tN_sA eS_153 h_124
                      clear h_124
                      refine r_iald X hw t_160 rfl (by rw [t_161]; exact z_ix hz_a1 (by omega) (by omega)) dX12_grade_253 ?_
                      rw [h_155]
                      have t_162 : pI S_153 1249 x = v_76 := tI_sA eS_153 ik_106
                      have t_163 : pI S_153 1251 x = a3 := tI_sA eS_153 ik_108
                      have pz_164 : (pI S_153 1251 x).toInt = a3_z := (congrArg Int32.toInt t_163).trans hz_a3
                      have t_165 : pI S_153 1250 x = v_109 := tI_sA eS_153 ev_109
                      have pz_166 : (pI S_153 1250 x).toInt = v_109.toInt := (congrArg Int32.toInt t_165).trans rfl
                      have go_167 : v_76 = gdO (mtZ S x) s_17 a2 a3_z := by have h := iv_73; rw [ev_76, show (i6_52_z) = a3_z by omega] at h; exact h
                      have hu_168 : (rr_42 : Int32).toInt = (s_17.2.2.2.length : Int) := (by have e1 : (rr_42 : Int32).toInt = rr_42.toInt := rfl; omega)
                      have zc_169 : zA S_153 x 1252 = zA T_53 x 1252 := (zA_sAn eS_153 (ex3 (gQ_12_1252 hO_T_94.1 ha_x_L_95)) h_123 rfl).trans zk_98
                      rw [hQQ]
                      exact ret_i X hw hr hlocks (Nat.le_of_ble_eq_true rfl) (Nat.le_of_ble_eq_true rfl) ⟨hO_154, ⟨z_lo _, z_hi _, fun s h0 h1 h2 h3 h4 => (by rw [hs_18] at h1; cases h1; exact ⟨(by rw [← go_167, grF_2 (by have e1 : (v_76 : Int32).toInt = v_76.toInt := rfl; omega) (by have e1 : (v_76 : Int32).toInt = v_76.toInt := rfl; omega)]; have e1 : (2 : Int32).toInt = 2 := ti_2; omega), ⟨by omega, t_162.trans go_167, (by have h := bb_119; show _ = bdF (Int32.ofInt (s_17.2.2.2.length : Int)) a3_z.toNat ((s_17.2.2.2.length : Int) - a3_z).toNat; rw [oi_e hu_168, show (s_17.2.2.2.length : Int) - a3_z = rr_42.toInt - a3_z by omega]; omega), (by rw [zc_169, show a3_z = i6_52_z by omega]; exact iv_71)⟩, fun j => (by rw [zs_157 j, zk_101]; have e1 : (2 : Int32).toInt = 2 := ti_2; by_cases c : j = a1_z.toNat; rw [if_pos c, if_pos c]; omega; rw [if_neg c, if_neg c])⟩), fun h => absurd ⟨s_17, by omega, hs_18, by omega, by omega, by omega⟩ h⟩⟩ dX12_grade_254
                  · have z_b_170 := trivial
                    have k_171 : v_76.toInt ≤ 8 := z_nlt ti_8 rfl c_128
                    refine lv_iconst (v := 1) X.1 X.2.1 dX12_grade_229 (by decide) ?_
                    refine lv_goto (tgt := 247) X.1 X.2.1 dX12_grade_230 (by decide) ?_
                    refine r_iast X hw h_123 rfl (by rw [h_124]; exact z_ix hz_a1 (by omega) (by omega)) dX12_grade_247 (fun H locs hw => ?_)
                    obtain ⟨S_172, eS_172⟩ : ∃ T, T = sA T_94 q_121 (upd (pA T_94 q_121) (Int32.toNatClampNeg (a1)) (1)) := ⟨_, rfl⟩
                    rw [← eS_172] at hw
                    have hO_173 : Ok Mgr S S_172 := hO_T_94.sA eS_172 h_123 (by decide +kernel) (uA_1074 hO_T_94.1 h_123 (by rw [ti_1]; omega) (by rw [ti_1]; omega))
                    have h_174 : pA S_172 q_121 (Int32.toNatClampNeg (a1)) = 1 := tA_sAs eS_172
                    have t_175 : pR S_172 1243 x = some q_121 := tR_sA eS_172 h_122
                    have t_177 : pR T_94 1243 x = some q_121 := by have h := t_175; rw [eS_172, pR_sA] at h; exact h
                    have zs_176 : ∀ j, zA S_172 x 1243 j = if j = (a1_z).toNat then 1 else zA T_94 x 1243 j := by have h := zA_sAs eS_172 t_177 ti_1; rw [z_nc hz_a1 (by omega)] at h; exact h
                    refine lv_aload_n X.1 X.2.1 dX12_grade_248 rfl (lv_at hl 3 rfl) ?_
                    have t_178 : At S_172 x 12 := tAt_sA eS_172 ha_x_L_95
                    refine r_getR (g := 1243) X hw t_178 rfl 43 t_175 (by decide) rfl inn_X12_grade_12 (by decide) (X.2.2.2.1 (.fieldLink RX12 112 "SilkMillModel" "skeinGrade" "[I") (by decide +kernel)) rfl (gv_1243 _ _) dX12_grade_249 ?_
                    refine lv_iload_n X.1 X.2.1 dX12_grade_252 rfl (lv_at hl 4 rfl) ?_
                    have t_179 : At S_172 q_121 1074 := tAt_sA eS_172 h_123
                    have t_180 : pN S_172 q_121 = 40 := tN_sA eS_172 h_124
                    clear h_124
                    refine r_iald X hw t_179 rfl (by rw [t_180]; exact z_ix hz_a1 (by omega) (by omega)) dX12_grade_253 ?_
                    rw [h_174]
                    have t_181 : pI S_172 1249 x = v_76 := tI_sA eS_172 ik_106
                    have t_182 : pI S_172 1251 x = a3 := tI_sA eS_172 ik_108
                    have pz_183 : (pI S_172 1251 x).toInt = a3_z := (congrArg Int32.toInt t_182).trans hz_a3
                    have t_184 : pI S_172 1250 x = v_109 := tI_sA eS_172 ev_109
                    have pz_185 : (pI S_172 1250 x).toInt = v_109.toInt := (congrArg Int32.toInt t_184).trans rfl
                    have go_186 : v_76 = gdO (mtZ S x) s_17 a2 a3_z := by have h := iv_73; rw [ev_76, show (i6_52_z) = a3_z by omega] at h; exact h
                    have hu_187 : (rr_42 : Int32).toInt = (s_17.2.2.2.length : Int) := (by have e1 : (rr_42 : Int32).toInt = rr_42.toInt := rfl; omega)
                    have zc_188 : zA S_172 x 1252 = zA T_53 x 1252 := (zA_sAn eS_172 (ex3 (gQ_12_1252 hO_T_94.1 ha_x_L_95)) h_123 rfl).trans zk_98
                    rw [hQQ]
                    exact ret_i X hw hr hlocks (Nat.le_of_ble_eq_true rfl) (Nat.le_of_ble_eq_true rfl) ⟨hO_173, ⟨z_lo _, z_hi _, fun s h0 h1 h2 h3 h4 => (by rw [hs_18] at h1; cases h1; exact ⟨(by rw [← go_186, grF_1 (by have e1 : (v_76 : Int32).toInt = v_76.toInt := rfl; omega) (by have e1 : (v_76 : Int32).toInt = v_76.toInt := rfl; omega)]; have e1 : (1 : Int32).toInt = 1 := ti_1; omega), ⟨by omega, t_181.trans go_186, (by have h := bb_119; show _ = bdF (Int32.ofInt (s_17.2.2.2.length : Int)) a3_z.toNat ((s_17.2.2.2.length : Int) - a3_z).toNat; rw [oi_e hu_187, show (s_17.2.2.2.length : Int) - a3_z = rr_42.toInt - a3_z by omega]; omega), (by rw [zc_188, show a3_z = i6_52_z by omega]; exact iv_71)⟩, fun j => (by rw [zs_176 j, zk_101]; have e1 : (1 : Int32).toInt = 1 := ti_1; by_cases c : j = a1_z.toNat; rw [if_pos c, if_pos c]; omega; rw [if_neg c, if_neg c])⟩), fun h => absurd ⟨s_17, by omega, hs_18, by omega, by omega, by omega⟩ h⟩⟩ dX12_grade_254
                · have z_b_189 := trivial
                  have k_190 : v_76.toInt ≤ 3 := z_nlt ti_3 rfl c_125
                  refine lv_iconst (v := 0) X.1 X.2.1 dX12_grade_216 (by decide) ?_
                  refine lv_goto (tgt := 247) X.1 X.2.1 dX12_grade_217 (by decide) ?_
                  refine r_iast X hw h_123 rfl (by rw [h_124]; exact z_ix hz_a1 (by omega) (by omega)) dX12_grade_247 (fun H locs hw => ?_)
                  obtain ⟨S_191, eS_191⟩ : ∃ T, T = sA T_94 q_121 (upd (pA T_94 q_121) (Int32.toNatClampNeg (a1)) (0)) := ⟨_, rfl⟩
                  rw [← eS_191] at hw
                  have hO_192 : Ok Mgr S S_191 := hO_T_94.sA eS_191 h_123 (by decide +kernel) (uA_1074 hO_T_94.1 h_123 (by rw [ti_0]; omega) (by rw [ti_0]; omega))
                  have h_193 : pA S_191 q_121 (Int32.toNatClampNeg (a1)) = 0 := tA_sAs eS_191
                  have t_194 : pR S_191 1243 x = some q_121 := tR_sA eS_191 h_122
                  have t_196 : pR T_94 1243 x = some q_121 := by have h := t_194; rw [eS_191, pR_sA] at h; exact h
                  have zs_195 : ∀ j, zA S_191 x 1243 j = if j = (a1_z).toNat then 0 else zA T_94 x 1243 j := by have h := zA_sAs eS_191 t_196 ti_0; rw [z_nc hz_a1 (by omega)] at h; exact h
                  refine lv_aload_n X.1 X.2.1 dX12_grade_248 rfl (lv_at hl 3 rfl) ?_
                  have t_197 : At S_191 x 12 := tAt_sA eS_191 ha_x_L_95
                  refine r_getR (g := 1243) X hw t_197 rfl 43 t_194 (by decide) rfl inn_X12_grade_12 (by decide) (X.2.2.2.1 (.fieldLink RX12 112 "SilkMillModel" "skeinGrade" "[I") (by decide +kernel)) rfl (gv_1243 _ _) dX12_grade_249 ?_
                  refine lv_iload_n X.1 X.2.1 dX12_grade_252 rfl (lv_at hl 4 rfl) ?_
                  have t_198 : At S_191 q_121 1074 := tAt_sA eS_191 h_123
                  have t_199 : pN S_191 q_121 = 40 := tN_sA eS_191 h_124
                  clear h_124
                  refine r_iald X hw t_198 rfl (by rw [t_199]; exact z_ix hz_a1 (by omega) (by omega)) dX12_grade_253 ?_
                  rw [h_193]
                  have t_200 : pI S_191 1249 x = v_76 := tI_sA eS_191 ik_106
                  have t_201 : pI S_191 1251 x = a3 := tI_sA eS_191 ik_108
                  have pz_202 : (pI S_191 1251 x).toInt = a3_z := (congrArg Int32.toInt t_201).trans hz_a3
                  have t_203 : pI S_191 1250 x = v_109 := tI_sA eS_191 ev_109
                  have pz_204 : (pI S_191 1250 x).toInt = v_109.toInt := (congrArg Int32.toInt t_203).trans rfl
                  have go_205 : v_76 = gdO (mtZ S x) s_17 a2 a3_z := by have h := iv_73; rw [ev_76, show (i6_52_z) = a3_z by omega] at h; exact h
                  have hu_206 : (rr_42 : Int32).toInt = (s_17.2.2.2.length : Int) := (by have e1 : (rr_42 : Int32).toInt = rr_42.toInt := rfl; omega)
                  have zc_207 : zA S_191 x 1252 = zA T_53 x 1252 := (zA_sAn eS_191 (ex3 (gQ_12_1252 hO_T_94.1 ha_x_L_95)) h_123 rfl).trans zk_98
                  rw [hQQ]
                  exact ret_i X hw hr hlocks (Nat.le_of_ble_eq_true rfl) (Nat.le_of_ble_eq_true rfl) ⟨hO_192, ⟨z_lo _, z_hi _, fun s h0 h1 h2 h3 h4 => (by rw [hs_18] at h1; cases h1; exact ⟨(by rw [← go_205, grF_0 (by have e1 : (v_76 : Int32).toInt = v_76.toInt := rfl; omega)]; have e1 : (0 : Int32).toInt = 0 := ti_0; omega), ⟨by omega, t_200.trans go_205, (by have h := bb_119; show _ = bdF (Int32.ofInt (s_17.2.2.2.length : Int)) a3_z.toNat ((s_17.2.2.2.length : Int) - a3_z).toNat; rw [oi_e hu_206, show (s_17.2.2.2.length : Int) - a3_z = rr_42.toInt - a3_z by omega]; omega), (by rw [zc_207, show a3_z = i6_52_z by omega]; exact iv_71)⟩, fun j => (by rw [zs_195 j, zk_101]; have e1 : (0 : Int32).toInt = 0 := ti_0; by_cases c : j = a1_z.toNat; rw [if_pos c, if_pos c]; omega; rw [if_neg c, if_neg c])⟩), fun h => absurd ⟨s_17, by omega, hs_18, by omega, by omega, by omega⟩ h⟩⟩ dX12_grade_254
              · have z_b_208 := trivial
                have k_209 : v_109.toInt > 0 := z_nle rfl ti_0 c_116
                refine lv_ldc2 (v := 20) X.1 X.2.1 X.2.2.2.2.1 (X.2.2.2.1 (.constantLong RX12 394 20) (by decide +kernel)) dX12_grade_165 ?_
                refine lv_iload X.1 X.2.1 dX12_grade_168 (lv_at hl 2 rfl) ?_
                refine lv_aload_n X.1 X.2.1 dX12_grade_170 rfl (lv_at hl 3 rfl) ?_
                refine r_getI (g := 1250) (x := v_109) X hw ha_x_L_95 rfl 50 ev_109 (by decide) rfl inn_X12_grade_12 (by decide) (X.2.2.2.1 (.fieldLink RX12 391 "SilkMillModel" "bound" "I") (by decide +kernel)) rfl (gv_1250 _ _) dX12_grade_171 ?_
                refine lv_isub X.1 X.2.1 dX12_grade_174 ?_
                refine lv_topi (fun v_210 ev_210 => ?_)
                have z_211 : v_210.toInt = rr_42.toInt - v_109.toInt := z_sub ev_210 rfl rfl (by omega) (by omega)
                refine lv_iload_n X.1 X.2.1 dX12_grade_175 rfl (lv_at hl 6 rfl) ?_
                refine k_l (rm := { frames := 1, cells := 0, slots := 0, locals := 48 }) (av := [.int (v_210), .int (a3)]) X hw (va_runS (As := [.int (v_210), .int (a3)]) (rest := [.long (20)]) (cfix X) (k_X12_ways7 l G cy κ T_94 _ (v_210) ((rr_42.toInt - v_109.toInt)) (a3) (a3_z) hO_T_94.1 z_211 hz_a3 (by omega)) (cwS 2 X.2.2.2.1 gX12_grade_X12_ways rfl rfl rfl (by decide +kernel) ⟨Nat.le_of_ble_eq_true rfl, Nat.le_of_ble_eq_true rfl⟩) (pre_S X hw _) rfl rfl hl.1 rfl (lv_room (Nat.le_of_ble_eq_true rfl)) dX12_grade_176 ⟨Nat.le_of_ble_eq_true rfl, Nat.le_of_ble_eq_true rfl⟩) 0 0 (Nat.le_of_ble_eq_true rfl) (Nat.le_of_ble_eq_true rfl) (fun rr_212 S_213 H locs hp hw hfr hnw => ?_)
                obtain ⟨e2, hp⟩ := hp
                subst e2
                have wy_214 : rr_212 = wyI (v_210) (a3_z).toNat := hp
                refine lv_lmul X.1 X.2.1 dX12_grade_179 ?_
                refine lv_topl (fun v_215 ev_215 => ?_)
                refine lv_iload X.1 X.2.1 dX12_grade_180 (lv_at hl 2 rfl) ?_
                refine lv_iload_n X.1 X.2.1 dX12_grade_182 rfl (lv_at hl 6 rfl) ?_
                refine k_l (rm := { frames := 1, cells := 0, slots := 0, locals := 48 }) (av := [.int (rr_42), .int (a3)]) X hw (va_runS (As := [.int (rr_42), .int (a3)]) (rest := [.long (v_215)]) (cfix X) (k_X12_ways7 l G cy κ T_94 _ (rr_42) (rr_42.toInt) (a3) (a3_z) hO_T_94.1 rfl hz_a3 (by omega)) (cwS 2 X.2.2.2.1 gX12_grade_X12_ways rfl rfl rfl (by decide +kernel) ⟨Nat.le_of_ble_eq_true rfl, Nat.le_of_ble_eq_true rfl⟩) (pre_S X hw _) rfl rfl hl.1 rfl (lv_room (Nat.le_of_ble_eq_true rfl)) dX12_grade_183 ⟨Nat.le_of_ble_eq_true rfl, Nat.le_of_ble_eq_true rfl⟩) 0 0 (Nat.le_of_ble_eq_true rfl) (Nat.le_of_ble_eq_true rfl) (fun rr_216 S_217 H locs hp hw hfr hnw => ?_)
                obtain ⟨e2, hp⟩ := hp
                subst e2
                have wy_218 : rr_216 = wyI (rr_42) (a3_z).toNat := hp
                refine W.lcmp X.1 X.2.1 dX12_grade_186 ?_
                refine lv_topi (fun v_219 ev_219 => ?_)
                have rg_220 := And.intro (z_lo v_219) (z_hi v_219)
                refine lv_if_ge (tgt := 203) X.1 X.2.1 dX12_grade_187 (by decide) (fun c_221 => ?_) (fun c_221 => ?_)
                · have z_b_222 := trivial
                  have k_223 : v_219.toInt ≥ 0 := z_le ti_0 rfl c_221
                  have pz_225 : (pI T_94 1250 x).toInt = v_109.toInt := (congrArg Int32.toInt ev_109).trans rfl
                  have cl_226 : ¬ 20 * wyI (rr_42 - Int32.ofInt ((((v_109.toInt - 1).toNat : Nat) : Int) + 1)) a3_z.toNat < wyI rr_42 a3_z.toNat := by have h := cmp_ge ev_219 (by omega); rw [ev_215, wy_214, ev_210, wy_218] at h; rw [show ((((v_109.toInt - 1).toNat : Nat) : Int) + 1) = v_109.toInt by omega, oi_e rfl]; exact h
                  have bb_224 : (pI T_94 1250 x).toInt = bdF rr_42 a3_z.toNat (rr_42.toInt - a3_z).toNat := by have h := iv_102; rw [show (pI T_94 1250 x).toInt.toNat = (v_109.toInt - 1).toNat + 1 by omega, bdF_ge cl_226] at h; omega
                  refine lv_aload_n X.1 X.2.1 dX12_grade_203 rfl (lv_at hl 3 rfl) ?_
                  obtain ⟨q_227, h_228, h_229, h_230⟩ := gQ_12_1243 hO_T_94.1 ha_x_L_95
                  refine r_getR (g := 1243) X hw ha_x_L_95 rfl 43 h_228 (by decide) rfl inn_X12_grade_12 (by decide) (X.2.2.2.1 (.fieldLink RX12 112 "SilkMillModel" "skeinGrade" "[I") (by decide +kernel)) rfl (gv_1243 _ _) dX12_grade_204 ?_
                  refine lv_iload_n X.1 X.2.1 dX12_grade_207 rfl (lv_at hl 4 rfl) ?_
                  refine lv_aload_n X.1 X.2.1 dX12_grade_208 rfl (lv_at hl 3 rfl) ?_
                  refine r_getI (g := 1249) (x := v_76) X hw ha_x_L_95 rfl 49 ik_106 (by decide) rfl inn_X12_grade_12 (by decide) (X.2.2.2.1 (.fieldLink RX12 382 "SilkMillModel" "off" "I") (by decide +kernel)) rfl (gv_1249 _ _) dX12_grade_209 ?_
                  refine lv_iconst (v := 3) X.1 X.2.1 dX12_grade_212 (by decide) ?_
                  refine lv_icmp_gt (tgt := 220) X.1 X.2.1 dX12_grade_213 (by decide) (fun c_231 => ?_) (fun c_231 => ?_)
                  · have z_b_232 := trivial
                    have k_233 : v_76.toInt > 3 := z_lt ti_3 rfl c_231
                    refine lv_aload_n X.1 X.2.1 dX12_grade_220 rfl (lv_at hl 3 rfl) ?_
                    refine r_getI (g := 1249) (x := v_76) X hw ha_x_L_95 rfl 49 ik_106 (by decide) rfl inn_X12_grade_12 (by decide) (X.2.2.2.1 (.fieldLink RX12 382 "SilkMillModel" "off" "I") (by decide +kernel)) rfl (gv_1249 _ _) dX12_grade_221 ?_
                    refine lv_bipush (v := 8) X.1 X.2.1 dX12_grade_224 (by decide) ?_
                    refine lv_icmp_gt (tgt := 233) X.1 X.2.1 dX12_grade_226 (by decide) (fun c_234 => ?_) (fun c_234 => ?_)
                    · have z_b_235 := trivial
                      have k_236 : v_76.toInt > 8 := z_lt ti_8 rfl c_234
                      refine lv_aload_n X.1 X.2.1 dX12_grade_233 rfl (lv_at hl 3 rfl) ?_
                      refine r_getI (g := 1249) (x := v_76) X hw ha_x_L_95 rfl 49 ik_106 (by decide) rfl inn_X12_grade_12 (by decide) (X.2.2.2.1 (.fieldLink RX12 382 "SilkMillModel" "off" "I") (by decide +kernel)) rfl (gv_1249 _ _) dX12_grade_234 ?_
                      refine lv_bipush (v := 20) X.1 X.2.1 dX12_grade_237 (by decide) ?_
                      refine lv_icmp_gt (tgt := 246) X.1 X.2.1 dX12_grade_239 (by decide) (fun c_237 => ?_) (fun c_237 => ?_)
                      · have z_b_238 := trivial
                        have k_239 : v_76.toInt > 20 := z_lt ti_20 rfl c_237
                        refine lv_iconst (v := 3) X.1 X.2.1 dX12_grade_246 (by decide) ?_
                        refine r_iast X hw h_229 rfl (by rw [h_230]; exact z_ix hz_a1 (by omega) (by omega)) dX12_grade_247 (fun H locs hw => ?_)
                        obtain ⟨S_240, eS_240⟩ : ∃ T, T = sA T_94 q_227 (upd (pA T_94 q_227) (Int32.toNatClampNeg (a1)) (3)) := ⟨_, rfl⟩
                        rw [← eS_240] at hw
                        have hO_241 : Ok Mgr S S_240 := hO_T_94.sA eS_240 h_229 (by decide +kernel) (uA_1074 hO_T_94.1 h_229 (by rw [ti_3]; omega) (by rw [ti_3]; omega))
                        have h_242 : pA S_240 q_227 (Int32.toNatClampNeg (a1)) = 3 := tA_sAs eS_240
                        have t_243 : pR S_240 1243 x = some q_227 := tR_sA eS_240 h_228
                        have t_245 : pR T_94 1243 x = some q_227 := by have h := t_243; rw [eS_240, pR_sA] at h; exact h
                        have zs_244 : ∀ j, zA S_240 x 1243 j = if j = (a1_z).toNat then 3 else zA T_94 x 1243 j := by have h := zA_sAs eS_240 t_245 ti_3; rw [z_nc hz_a1 (by omega)] at h; exact h
                        refine lv_aload_n X.1 X.2.1 dX12_grade_248 rfl (lv_at hl 3 rfl) ?_
                        have t_246 : At S_240 x 12 := tAt_sA eS_240 ha_x_L_95
                        refine r_getR (g := 1243) X hw t_246 rfl 43 t_243 (by decide) rfl inn_X12_grade_12 (by decide) (X.2.2.2.1 (.fieldLink RX12 112 "SilkMillModel" "skeinGrade" "[I") (by decide +kernel)) rfl (gv_1243 _ _) dX12_grade_249 ?_
                        refine lv_iload_n X.1 X.2.1 dX12_grade_252 rfl (lv_at hl 4 rfl) ?_
                        have t_247 : At S_240 q_227 1074 := tAt_sA eS_240 h_229
                        have t_248 : pN S_240 q_227 = 40 := tN_sA eS_240 h_230
                        clear h_230
                        refine r_iald X hw t_247 rfl (by rw [t_248]; exact z_ix hz_a1 (by omega) (by omega)) dX12_grade_253 ?_
                        rw [h_242]
                        have t_249 : pI S_240 1249 x = v_76 := tI_sA eS_240 ik_106
                        have t_250 : pI S_240 1251 x = a3 := tI_sA eS_240 ik_108
                        have pz_251 : (pI S_240 1251 x).toInt = a3_z := (congrArg Int32.toInt t_250).trans hz_a3
                        have t_252 : pI S_240 1250 x = v_109 := tI_sA eS_240 ev_109
                        have pz_253 : (pI S_240 1250 x).toInt = v_109.toInt := (congrArg Int32.toInt t_252).trans rfl
                        have go_254 : v_76 = gdO (mtZ S x) s_17 a2 a3_z := by have h := iv_73; rw [ev_76, show (i6_52_z) = a3_z by omega] at h; exact h
                        have hu_255 : (rr_42 : Int32).toInt = (s_17.2.2.2.length : Int) := (by have e1 : (rr_42 : Int32).toInt = rr_42.toInt := rfl; omega)
                        have zc_256 : zA S_240 x 1252 = zA T_53 x 1252 := (zA_sAn eS_240 (ex3 (gQ_12_1252 hO_T_94.1 ha_x_L_95)) h_229 rfl).trans zk_98
                        rw [hQQ]
                        exact ret_i X hw hr hlocks (Nat.le_of_ble_eq_true rfl) (Nat.le_of_ble_eq_true rfl) ⟨hO_241, ⟨z_lo _, z_hi _, fun s h0 h1 h2 h3 h4 => (by rw [hs_18] at h1; cases h1; exact ⟨(by rw [← go_254, grF_3 (by have e1 : (v_76 : Int32).toInt = v_76.toInt := rfl; omega)]; have e1 : (3 : Int32).toInt = 3 := ti_3; omega), ⟨by omega, t_249.trans go_254, (by have h := bb_224; show _ = bdF (Int32.ofInt (s_17.2.2.2.length : Int)) a3_z.toNat ((s_17.2.2.2.length : Int) - a3_z).toNat; rw [oi_e hu_255, show (s_17.2.2.2.length : Int) - a3_z = rr_42.toInt - a3_z by omega]; omega), (by rw [zc_256, show a3_z = i6_52_z by omega]; exact iv_71)⟩, fun j => (by rw [zs_244 j, zk_101]; have e1 : (3 : Int32).toInt = 3 := ti_3; by_cases c : j = a1_z.toNat; rw [if_pos c, if_pos c]; omega; rw [if_neg c, if_neg c])⟩), fun h => absurd ⟨s_17, by omega, hs_18, by omega, by omega, by omega⟩ h⟩⟩ dX12_grade_254
                      · have z_b_257 := trivial
                        have k_258 : v_76.toInt ≤ 20 := z_nlt ti_20 rfl c_237
                        refine lv_iconst (v := 2) X.1 X.2.1 dX12_grade_242 (by decide) ?_
                        refine lv_goto (tgt := 247) X.1 X.2.1 dX12_grade_243 (by decide) ?_
                        refine r_iast X hw h_229 rfl (by rw [h_230]; exact z_ix hz_a1 (by omega) (by omega)) dX12_grade_247 (fun H locs hw => ?_)
                        obtain ⟨S_259, eS_259⟩ : ∃ T, T = sA T_94 q_227 (upd (pA T_94 q_227) (Int32.toNatClampNeg (a1)) (2)) := ⟨_, rfl⟩
                        rw [← eS_259] at hw
                        have hO_260 : Ok Mgr S S_259 := hO_T_94.sA eS_259 h_229 (by decide +kernel) (uA_1074 hO_T_94.1 h_229 (by rw [ti_2]; omega) (by rw [ti_2]; omega))
                        have h_261 : pA S_259 q_227 (Int32.toNatClampNeg (a1)) = 2 := tA_sAs eS_259
                        have t_262 : pR S_259 1243 x = some q_227 := tR_sA eS_259 h_228
                        have t_264 : pR T_94 1243 x = some q_227 := by have h := t_262; rw [eS_259, pR_sA] at h; exact h
                        have zs_263 : ∀ j, zA S_259 x 1243 j = if j = (a1_z).toNat then 2 else zA T_94 x 1243 j := by have h := zA_sAs eS_259 t_264 ti_2; rw [z_nc hz_a1 (by omega)] at h; exact h
                        refine lv_aload_n X.1 X.2.1 dX12_grade_248 rfl (lv_at hl 3 rfl) ?_
                        have t_265 : At S_259 x 12 := tAt_sA eS_259 ha_x_L_95
                        refine r_getR (g := 1243) X hw t_265 rfl 43 t_262 (by decide) rfl inn_X12_grade_12 (by decide) (X.2.2.2.1 (.fieldLink RX12 112 "SilkMillModel" "skeinGrade" "[I") (by decide +kernel)) rfl (gv_1243 _ _) dX12_grade_249 ?_
                        refine lv_iload_n X.1 X.2.1 dX12_grade_252 rfl (lv_at hl 4 rfl) ?_
                        have t_266 : At S_259 q_227 1074 := tAt_sA eS_259 h_229
                        have t_267 : pN S_259 q_227 = 40 := tN_sA eS_259 h_230
                        clear h_230
                        refine r_iald X hw t_266 rfl (by rw [t_267]; exact z_ix hz_a1 (by omega) (by omega)) dX12_grade_253 ?_
                        rw [h_261]
                        have t_268 : pI S_259 1249 x = v_76 := tI_sA eS_259 ik_106
                        have t_269 : pI S_259 1251 x = a3 := tI_sA eS_259 ik_108
                        have pz_270 : (pI S_259 1251 x).toInt = a3_z := (congrArg Int32.toInt t_269).trans hz_a3
                        have t_271 : pI S_259 1250 x = v_109 := tI_sA eS_259 ev_109
                        have pz_272 : (pI S_259 1250 x).toInt = v_109.toInt := (congrArg Int32.toInt t_271).trans rfl
                        have go_273 : v_76 = gdO (mtZ S x) s_17 a2 a3_z := by have h := iv_73; rw [ev_76, show (i6_52_z) = a3_z by omega] at h; exact h
                        have hu_274 : (rr_42 : Int32).toInt = (s_17.2.2.2.length : Int) := (by have e1 : (rr_42 : Int32).toInt = rr_42.toInt := rfl; omega)
                        have zc_275 : zA S_259 x 1252 = zA T_53 x 1252 := (zA_sAn eS_259 (ex3 (gQ_12_1252 hO_T_94.1 ha_x_L_95)) h_229 rfl).trans zk_98
                        rw [hQQ]
                        exact ret_i X hw hr hlocks (Nat.le_of_ble_eq_true rfl) (Nat.le_of_ble_eq_true rfl) ⟨hO_260, ⟨z_lo _, z_hi _, fun s h0 h1 h2 h3 h4 => (by rw [hs_18] at h1; cases h1; exact ⟨(by rw [← go_273, grF_2 (by have e1 : (v_76 : Int32).toInt = v_76.toInt := rfl; omega) (by have e1 : (v_76 : Int32).toInt = v_76.toInt := rfl; omega)]; have e1 : (2 : Int32).toInt = 2 := ti_2; omega), ⟨by omega, t_268.trans go_273, (by have h := bb_224; show _ = bdF (Int32.ofInt (s_17.2.2.2.length : Int)) a3_z.toNat ((s_17.2.2.2.length : Int) - a3_z).toNat; rw [oi_e hu_274, show (s_17.2.2.2.length : Int) - a3_z = rr_42.toInt - a3_z by omega]; omega), (by rw [zc_275, show a3_z = i6_52_z by omega]; exact iv_71)⟩, fun j => (by rw [zs_263 j, zk_101]; have e1 : (2 : Int32).toInt = 2 := ti_2; by_cases c : j = a1_z.toNat; rw [if_pos c, if_pos c]; omega; rw [if_neg c, if_neg c])⟩), fun h => absurd ⟨s_17, by omega, hs_18, by omega, by omega, by omega⟩ h⟩⟩ dX12_grade_254
                    · have z_b_276 := trivial
                      have k_277 : v_76.toInt ≤ 8 := z_nlt ti_8 rfl c_234
                      refine lv_iconst (v := 1) X.1 X.2.1 dX12_grade_229 (by decide) ?_
                      refine lv_goto (tgt := 247) X.1 X.2.1 dX12_grade_230 (by decide) ?_
                      refine r_iast X hw h_229 rfl (by rw [h_230]; exact z_ix hz_a1 (by omega) (by omega)) dX12_grade_247 (fun H locs hw => ?_)
                      obtain ⟨S_278, eS_278⟩ : ∃ T, T = sA T_94 q_227 (upd (pA T_94 q_227) (Int32.toNatClampNeg (a1)) (1)) := ⟨_, rfl⟩
                      rw [← eS_278] at hw
                      have hO_279 : Ok Mgr S S_278 := hO_T_94.sA eS_278 h_229 (by decide +kernel) (uA_1074 hO_T_94.1 h_229 (by rw [ti_1]; omega) (by rw [ti_1]; omega))
                      have h_280 : pA S_278 q_227 (Int32.toNatClampNeg (a1)) = 1 := tA_sAs eS_278
                      have t_281 : pR S_278 1243 x = some q_227 := tR_sA eS_278 h_228
                      have t_283 : pR T_94 1243 x = some q_227 := by have h := t_281; rw [eS_278, pR_sA] at h; exact h
                      have zs_282 : ∀ j, zA S_278 x 1243 j = if j = (a1_z).toNat then 1 else zA T_94 x 1243 j := by have h := zA_sAs eS_278 t_283 ti_1; rw [z_nc hz_a1 (by omega)] at h; exact h
                      refine lv_aload_n X.1 X.2.1 dX12_grade_248 rfl (lv_at hl 3 rfl) ?_
                      have t_284 : At S_278 x 12 := tAt_sA eS_278 ha_x_L_95
                      refine r_getR (g := 1243) X hw t_284 rfl 43 t_281 (by decide) rfl inn_X12_grade_12 (by decide) (X.2.2.2.1 (.fieldLink RX12 112 "SilkMillModel" "skeinGrade" "[I") (by decide +kernel)) rfl (gv_1243 _ _) dX12_grade_249 ?_
                      refine lv_iload_n X.1 X.2.1 dX12_grade_252 rfl (lv_at hl 4 rfl) ?_
                      have t_285 : At S_278 q_227 1074 := tAt_sA eS_278 h_229
                      have t_286 : pN S_278 q_227 = 40 := tN_sA eS_278 h_230
                      clear h_230
                      refine r_iald X hw t_285 rfl (by rw [t_286]; exact z_ix hz_a1 (by omega) (by omega)) dX12_grade_253 ?_
                      rw [h_280]
                      have t_287 : pI S_278 1249 x = v_76 := tI_sA eS_278 ik_106
                      have t_288 : pI S_278 1251 x = a3 := tI_sA eS_278 ik_108
                      have pz_289 : (pI S_278 1251 x).toInt = a3_z := (congrArg Int32.toInt t_288).trans hz_a3
                      have t_290 : pI S_278 1250 x = v_109 := tI_sA eS_278 ev_109
                      have pz_291 : (pI S_278 1250 x).toInt = v_109.toInt := (congrArg Int32.toInt t_290).trans rfl
                      have go_292 : v_76 = gdO (mtZ S x) s_17 a2 a3_z := by have h := iv_73; rw [ev_76, show (i6_52_z) = a3_z by omega] at h; exact h
                      have hu_293 : (rr_42 : Int32).toInt = (s_17.2.2.2.length : Int) := (by have e1 : (rr_42 : Int32).toInt = rr_42.toInt := rfl; omega)
                      have zc_294 : zA S_278 x 1252 = zA T_53 x 1252 := (zA_sAn eS_278 (ex3 (gQ_12_1252 hO_T_94.1 ha_x_L_95)) h_229 rfl).trans zk_98
                      rw [hQQ]
                      exact ret_i X hw hr hlocks (Nat.le_of_ble_eq_true rfl) (Nat.le_of_ble_eq_true rfl) ⟨hO_279, ⟨z_lo _, z_hi _, fun s h0 h1 h2 h3 h4 => (by rw [hs_18] at h1; cases h1; exact ⟨(by rw [← go_292, grF_1 (by have e1 : (v_76 : Int32).toInt = v_76.toInt := rfl; omega) (by have e1 : (v_76 : Int32).toInt = v_76.toInt := rfl; omega)]; have e1 : (1 : Int32).toInt = 1 := ti_1; omega), ⟨by omega, t_287.trans go_292, (by have h := bb_224; show _ = bdF (Int32.ofInt (s_17.2.2.2.length : Int)) a3_z.toNat ((s_17.2.2.2.length : Int) - a3_z).toNat; rw [oi_e hu_293, show (s_17.2.2.2.length : Int) - a3_z = rr_42.toInt - a3_z by omega]; omega), (by rw [zc_294, show a3_z = i6_52_z by omega]; exact iv_71)⟩, fun j => (by rw [zs_282 j, zk_101]; have e1 : (1 : Int32).toInt = 1 := ti_1; by_cases c : j = a1_z.toNat; rw [if_pos c, if_pos c]; omega; rw [if_neg c, if_neg c])⟩), fun h => absurd ⟨s_17, by omega, hs_18, by omega, by omega, by omega⟩ h⟩⟩ dX12_grade_254
                  · have z_b_295 := trivial
                    have k_296 : v_76.toInt ≤ 3 := z_nlt ti_3 rfl c_231
                    refine lv_iconst (v := 0) X.1 X.2.1 dX12_grade_216 (by decide) ?_
                    refine lv_goto (tgt := 247) X.1 X.2.1 dX12_grade_217 (by decide) ?_
                    refine r_iast X hw h_229 rfl (by rw [h_230]; exact z_ix hz_a1 (by omega) (by omega)) dX12_grade_247 (fun H locs hw => ?_)
                    obtain ⟨S_297, eS_297⟩ : ∃ T, T = sA T_94 q_227 (upd (pA T_94 q_227) (Int32.toNatClampNeg (a1)) (0)) := ⟨_, rfl⟩
                    rw [← eS_297] at hw
                    have hO_298 : Ok Mgr S S_297 := hO_T_94.sA eS_297 h_229 (by decide +kernel) (uA_1074 hO_T_94.1 h_229 (by rw [ti_0]; omega) (by rw [ti_0]; omega))
                    have h_299 : pA S_297 q_227 (Int32.toNatClampNeg (a1)) = 0 := tA_sAs eS_297
                    have t_300 : pR S_297 1243 x = some q_227 := tR_sA eS_297 h_228
                    have t_302 : pR T_94 1243 x = some q_227 := by have h := t_300; rw [eS_297, pR_sA] at h; exact h
                    have zs_301 : ∀ j, zA S_297 x 1243 j = if j = (a1_z).toNat then 0 else zA T_94 x 1243 j := by have h := zA_sAs eS_297 t_302 ti_0; rw [z_nc hz_a1 (by omega)] at h; exact h
                    refine lv_aload_n X.1 X.2.1 dX12_grade_248 rfl (lv_at hl 3 rfl) ?_
                    have t_303 : At S_297 x 12 := tAt_sA eS_297 ha_x_L_95
                    refine r_getR (g := 1243) X hw t_303 rfl 43 t_300 (by decide) rfl inn_X12_grade_12 (by decide) (X.2.2.2.1 (.fieldLink RX12 112 "SilkMillModel" "skeinGrade" "[I") (by decide +kernel)) rfl (gv_1243 _ _) dX12_grade_249 ?_
                    refine lv_iload_n X.1 X.2.1 dX12_grade_252 rfl (lv_at hl 4 rfl) ?_
                    have t_304 : At S_297 q_227 1074 := tAt_sA eS_297 h_229
                    have t_305 : pN S_297 q_227 = 40 := tN_sA eS_297 h_230
                    clear h_230
                    refine r_iald X hw t_304 rfl (by rw [t_305]; exact z_ix hz_a1 (by omega) (by omega)) dX12_grade_253 ?_
                    rw [h_299]
                    have t_306 : pI S_297 1249 x = v_76 := tI_sA eS_297 ik_106
                    have t_307 : pI S_297 1251 x = a3 := tI_sA eS_297 ik_108
                    have pz_308 : (pI S_297 1251 x).toInt = a3_z := (congrArg Int32.toInt t_307).trans hz_a3
                    have t_309 : pI S_297 1250 x = v_109 := tI_sA eS_297 ev_109
                    have pz_310 : (pI S_297 1250 x).toInt = v_109.toInt := (congrArg Int32.toInt t_309).trans rfl
                    have go_311 : v_76 = gdO (mtZ S x) s_17 a2 a3_z := by have h := iv_73; rw [ev_76, show (i6_52_z) = a3_z by omega] at h; exact h
                    have hu_312 : (rr_42 : Int32).toInt = (s_17.2.2.2.length : Int) := (by have e1 : (rr_42 : Int32).toInt = rr_42.toInt := rfl; omega)
                    have zc_313 : zA S_297 x 1252 = zA T_53 x 1252 := (zA_sAn eS_297 (ex3 (gQ_12_1252 hO_T_94.1 ha_x_L_95)) h_229 rfl).trans zk_98
                    rw [hQQ]
                    exact ret_i X hw hr hlocks (Nat.le_of_ble_eq_true rfl) (Nat.le_of_ble_eq_true rfl) ⟨hO_298, ⟨z_lo _, z_hi _, fun s h0 h1 h2 h3 h4 => (by rw [hs_18] at h1; cases h1; exact ⟨(by rw [← go_311, grF_0 (by have e1 : (v_76 : Int32).toInt = v_76.toInt := rfl; omega)]; have e1 : (0 : Int32).toInt = 0 := ti_0; omega), ⟨by omega, t_306.trans go_311, (by have h := bb_224; show _ = bdF (Int32.ofInt (s_17.2.2.2.length : Int)) a3_z.toNat ((s_17.2.2.2.length : Int) - a3_z).toNat; rw [oi_e hu_312, show (s_17.2.2.2.length : Int) - a3_z = rr_42.toInt - a3_z by omega]; omega), (by rw [zc_313, show a3_z = i6_52_z by omega]; exact iv_71)⟩, fun j => (by rw [zs_301 j, zk_101]; have e1 : (0 : Int32).toInt = 0 := ti_0; by_cases c : j = a1_z.toNat; rw [if_pos c, if_pos c]; omega; rw [if_neg c, if_neg c])⟩), fun h => absurd ⟨s_17, by omega, hs_18, by omega, by omega, by omega⟩ h⟩⟩ dX12_grade_254
                · have z_b_314 := trivial
                  have k_315 : v_219.toInt < 0 := z_nle ti_0 rfl c_221
                  refine lv_aload_n X.1 X.2.1 dX12_grade_190 rfl (lv_at hl 3 rfl) ?_
                  refine lv_dup X.1 X.2.1 dX12_grade_191 rfl ?_
                  refine r_getI (g := 1250) (x := v_109) X hw ha_x_L_95 rfl 50 ev_109 (by decide) rfl inn_X12_grade_12 (by decide) (X.2.2.2.1 (.fieldLink RX12 391 "SilkMillModel" "bound" "I") (by decide +kernel)) rfl (gv_1250 _ _) dX12_grade_192 ?_
                  refine lv_iconst (v := 1) X.1 X.2.1 dX12_grade_195 (by decide) ?_
                  refine lv_isub X.1 X.2.1 dX12_grade_196 ?_
                  refine lv_topi (fun v_316 ev_316 => ?_)
                  have z_317 : v_316.toInt = v_109.toInt - 1 := z_sub ev_316 rfl ti_1 (by omega) (by omega)
                  refine r_putI (v := v_316) X hw ha_x_L_95 rfl 50 1250 tyX12 (by decide) rfl inn_X12_grade_12 tyX12_ok nmX12 (by decide) (X.2.2.2.1 (.fieldLink RX12 391 "SilkMillModel" "bound" "I") (by decide +kernel)) rfl (Or.inl rfl) rfl rfl (Nat.le_of_ble_eq_true rfl) (st_1250 _ _) dX12_grade_197 (fun H locs hw => ?_)
                  obtain ⟨S_318, eS_318⟩ : ∃ T, T = sI T_94 1250 x (v_316) := ⟨_, rfl⟩
                  rw [← eS_318] at hw
                  have hO_319 : Ok Mgr S S_318 := hO_T_94.sI eS_318 (by decide +kernel) (uI_12_1250 hO_T_94.1 ha_x_L_95)
                  have h_320 : pI S_318 1250 x = v_316 := tI_sIs eS_318
                  refine lv_goto (tgt := 158) X.1 X.2.1 dX12_grade_200 (by decide) ?_
                  have pz_321 : (pI S_318 1250 x).toInt = (v_109.toInt - 1) := (congrArg Int32.toInt h_320).trans z_317
                  have t_322 : At S_318 x 12 := tAt_sI eS_318 ha_x_L_95
                  have zc_323 : zA S_318 x 1252 = zA T_53 x 1252 := (zA_sI eS_318).trans zk_98
                  have zc_324 : zA S_318 x 1243 = zA S x 1243 := (zA_sI eS_318).trans zk_101
                  have cl_325 : 20 * wyI (rr_42 - Int32.ofInt ((((pI S_318 1250 x).toInt.toNat : Nat) : Int) + 1)) a3_z.toNat < wyI rr_42 a3_z.toNat := by have h := cmp_lt ev_219 (by omega); rw [ev_215, wy_214, ev_210, wy_218] at h; rw [show ((((pI S_318 1250 x).toInt.toNat : Nat) : Int) + 1) = v_109.toInt by omega, oi_e rfl]; exact h
                  have t_326 : pI S_318 1249 x = v_76 := tI_sI eS_318 rfl ik_106
                  have t_327 : pI S_318 1251 x = a3 := tI_sI eS_318 rfl ik_108
                  exact ih_L_93 _ (by omega) _ _ _ _  rfl hw t_322 hO_319 zc_323 zc_324 (by have h := iv_102; rw [show (pI T_94 1250 x).toInt.toNat = (pI S_318 1250 x).toInt.toNat + 1 by omega, bdF_lt cl_325] at h; exact h) (by omega) t_326 t_327 (lv_sub hl [0, 1, 2, 3, 4, 5, 6] rfl)
            have pz_328 : (pI S_90 1250 x).toInt = (rr_42.toInt - a3_z) := (congrArg Int32.toInt h_92).trans z_88
            have t_329 : At S_90 x 12 := tAt_sI eS_90 t_89
            exact L_93 _ _ _ _ _  rfl hw t_329 hO_91 zc_97 zc_100 (by rw [show (pI S_90 1250 x).toInt = rr_42.toInt - a3_z by omega]) (by omega) t_105 t_107 (lv_sub hl [0, 1, 2, 3, 4, 5, 6] rfl)
          · have z_b_330 := trivial
            have k_331 : i6_52_z < a3_z := z_nle hz_a3 hz_i6_52 c_81
            refine lv_iload X.1 X.2.1 dX12_grade_57 (lv_at hl 0 rfl) ?_
            refine k_i (rm := { frames := 1, cells := 0, slots := 0, locals := 48 }) (av := [.int (i5_51)]) X hw (va_runS (As := [.int (i5_51)]) (rest := []) (cfix X) (k_X12_next2 l G cy κ T_53 _ (i5_51) (i5_51_z) hO_T_53.1 hz_i5_51) (cwS 1 X.2.2.2.1 gX12_grade_X12_next rfl rfl rfl (by decide +kernel) ⟨Nat.le_of_ble_eq_true rfl, Nat.le_of_ble_eq_true rfl⟩) (pre_S X hw _) rfl rfl hl.1 rfl (lv_room (Nat.le_of_ble_eq_true rfl)) dX12_grade_59 ⟨Nat.le_of_ble_eq_true rfl, Nat.le_of_ble_eq_true rfl⟩) 0 0 (Nat.le_of_ble_eq_true rfl) (Nat.le_of_ble_eq_true rfl) (fun rr_332 S_333 H locs hp hw hfr hnw => ?_)
            obtain ⟨e2, hp⟩ := hp
            subst e2
            have nx_334 : rr_332 = nxt (i5_51) := hp
            have rg_335 := And.intro (z_lo rr_332) (z_hi rr_332)
            refine lv_istore (lv' := [(5, .int (rr_332)), (6, .int (i6_52)), (4, .int (rr_42)), (0, .ref x), (1, .int (a1)), (2, .int (a2)), (3, .int (a3))]) X.1 X.2.1 dX12_grade_62 hl (by decide) rfl (fun ls hl => ?_)
            refine lv_iload X.1 X.2.1 dX12_grade_64 (lv_at hl 0 rfl) ?_
            refine lv_iload X.1 X.2.1 dX12_grade_66 (lv_at hl 2 rfl) ?_
            refine k_i (rm := { frames := 1, cells := 0, slots := 0, locals := 48 }) (av := [.int (rr_332), .int (rr_42)]) X hw (va_runS (As := [.int (rr_332), .int (rr_42)]) (rest := []) (cfix X) (k_X12_part2 l G cy κ T_53 _ (rr_332) (rr_332.toInt) (rr_42) (rr_42.toInt) hO_T_53.1 rfl rfl (by first | assumption | omega)) (cwS 2 X.2.2.2.1 gX12_grade_X12_part rfl rfl rfl (by decide +kernel) ⟨Nat.le_of_ble_eq_true rfl, Nat.le_of_ble_eq_true rfl⟩) (pre_S X hw _) rfl rfl hl.1 rfl (lv_room (Nat.le_of_ble_eq_true rfl)) dX12_grade_68 ⟨Nat.le_of_ble_eq_true rfl, Nat.le_of_ble_eq_true rfl⟩) 0 0 (Nat.le_of_ble_eq_true rfl) (Nat.le_of_ble_eq_true rfl) (fun rr_336 S_337 H locs hp hw hfr hnw => ?_)
            obtain ⟨e2, hp⟩ := hp
            subst e2
            obtain ⟨pt_338, pt_339, pt_340, pt_341⟩ := hp
            refine lv_istore (lv' := [(7, .int (rr_336)), (5, .int (rr_332)), (6, .int (i6_52)), (4, .int (rr_42)), (0, .ref x), (1, .int (a1)), (2, .int (a2)), (3, .int (a3))]) X.1 X.2.1 dX12_grade_71 hl (by decide) rfl (fun ls hl => ?_)
            have L_342 : ∀ (n : Nat) (H : Heap) (locs : List Loc) (ls : Array Slot) (i7_343 : Int32) (i7_343_z : Int), ((rr_42.toInt - tt rr_336.toInt rr_42.toInt i7_343_z).toNat = n) → (Wd G cy (AS S s.heap.size) s.heap T_53 H locs) → (i7_343.toInt = i7_343_z) → (0 ≤ i7_343_z ∧ i7_343_z ≤ 299) → (Dall (zA T_53 x 1252) i6_52_z rr_336.toInt rr_42.toInt i7_343_z) → (i7_343_z < rr_42.toInt) → (lv_has ls 8 [(7, .int (i7_343)), (5, .int (rr_332)), (6, .int (i6_52)), (4, .int (rr_42)), (0, .ref x), (1, .int (a1)), (2, .int (a2)), (3, .int (a3))]) → W p l e ({ frames := 5, cells := 0, slots := 0, locals := 240 }) s m [.ref x, .int (a1), .int (a2), .int (a3)].toArray below meth c H locs 0 0 QQ (F0 m 73 ls []) := by
              intro n
              induction n using Nat.strongRecOn with
              | ind n ih_L_342 =>
              intro H locs ls i7_343 i7_343_z hn hw hz_i7_343 hr_i7_343 iv_344 iv_345 hl
              have rg_346 : (-2147483648) ≤ i7_343_z ∧ i7_343_z ≤ 2147483647 := by rw [← hz_i7_343]; exact ⟨z_lo _, z_hi _⟩
              refine lv_aload_n X.1 X.2.1 dX12_grade_73 rfl (lv_at hl 4 rfl) ?_
              refine lv_iload X.1 X.2.1 dX12_grade_74 (lv_at hl 2 rfl) ?_
              refine lv_iload X.1 X.2.1 dX12_grade_76 (lv_at hl 0 rfl) ?_
              refine k_i (rm := { frames := 1, cells := 0, slots := 0, locals := 48 }) (av := [.ref x, .int (i6_52), .int (i7_343)]) X hw (va_runV (As := [.int (i6_52), .int (i7_343)]) (rest := []) (cfix X) (k_X12_isDrawn7 l G cy κ T_53 _ x (i6_52) (i6_52_z) (i7_343) (i7_343_z) hO_T_53.1 ha_x_L_54 hz_i6_52 hz_i7_343 (by first | assumption | omega) (by first | assumption | omega)) (cwV 2 X.2.2.2.1 gX12_grade_X12_isDrawn rfl rfl rfl (by decide +kernel) ⟨Nat.le_of_ble_eq_true rfl, Nat.le_of_ble_eq_true rfl⟩) (pre_V X hw _ ha_x_L_54 rfl (by decide) rfl) rfl rfl hl.1 rfl (lv_room (Nat.le_of_ble_eq_true rfl)) dX12_grade_78 ⟨Nat.le_of_ble_eq_true rfl, Nat.le_of_ble_eq_true rfl⟩) 0 0 (Nat.le_of_ble_eq_true rfl) (Nat.le_of_ble_eq_true rfl) (fun rr_347 S_348 H locs hp hw hfr hnw => ?_)
              obtain ⟨e2, hp⟩ := hp
              subst e2
              rcases hp with ⟨f_349, er_350⟩ | ⟨f_349, er_350⟩ <;> subst er_350
              · have z_b_351 := trivial
                refine lv_if_eq (tgt := 96) X.1 X.2.1 dX12_grade_81 (by decide) (fun c_352 => absurd c_352 (by decide)) (fun c_352 => ?_)
                refine lv_iload X.1 X.2.1 dX12_grade_84 (lv_at hl 0 rfl) ?_
                refine lv_iconst (v := 1) X.1 X.2.1 dX12_grade_86 (by decide) ?_
                refine lv_iadd X.1 X.2.1 dX12_grade_87 ?_
                refine lv_topi (fun v_353 ev_353 => ?_)
                have z_354 : v_353.toInt = i7_343_z + 1 := z_add ev_353 hz_i7_343 ti_1 (by omega) (by omega)
                refine lv_iload X.1 X.2.1 dX12_grade_88 (lv_at hl 3 rfl) ?_
                refine lv_irem X.1 X.2.1 dX12_grade_90 (z_nz rfl (by omega)) ?_
                refine lv_topi (fun v_355 ev_355 => ?_)
                have z_356 : v_355.toInt = (i7_343_z + 1) % rr_42.toInt := z_rem ev_355 z_354 rfl (by omega) (by omega)
                have z_357 : 0 ≤ v_355.toInt ∧ v_355.toInt < rr_42.toInt := by rw [z_356]; exact ⟨Int.emod_nonneg _ (by omega), Int.emod_lt_of_pos _ (by omega)⟩
                have z_358 : v_355.toInt ≤ (i7_343_z + 1) := by rw [z_356]; exact emod_le (by omega) (by omega)
                refine lv_istore (lv' := [(7, .int (v_355)), (5, .int (rr_332)), (6, .int (i6_52)), (4, .int (rr_42)), (0, .ref x), (1, .int (a1)), (2, .int (a2)), (3, .int (a3))]) X.1 X.2.1 dX12_grade_91 hl (by decide) rfl (fun ls hl => ?_)
                refine lv_goto (tgt := 73) X.1 X.2.1 dX12_grade_93 (by decide) ?_
                obtain ⟨d_359, d_360, d_361⟩ := Dall_step (m := i7_343_z) (m' := v_355.toInt) (by omega) (by omega) (by omega) (by omega) (by omega) (by omega) iv_344 f_349 (by assumption)
                exact ih_L_342 _ (by omega) _ _ _ (v_355) (v_355.toInt) rfl hw rfl (by omega) d_361 (by omega) (lv_sub hl [0, 1, 2, 3, 4, 5, 6, 7] rfl)
              · have z_b_362 := trivial
                refine lv_if_eq (tgt := 96) X.1 X.2.1 dX12_grade_81 (by decide) (fun c_363 => ?_) (fun c_363 => absurd c_363 (by decide))
                have nn_364 : i7_343_z = ndF (lkZ (zA T_53 x 1252) (i6_52_z)) (rr_42.toInt) 5 rr_336.toInt := ndF_of (by omega) (by omega) (by omega) (by omega) (by omega) (by omega) iv_344 f_349
                refine lv_aload_n X.1 X.2.1 dX12_grade_96 rfl (lv_at hl 4 rfl) ?_
                obtain ⟨q_365, h_366, h_367, h_368⟩ := gQ_12_1252 hO_T_53.1 ha_x_L_54
                refine r_getR (g := 1252) X hw ha_x_L_54 rfl 52 h_366 (by decide) rfl inn_X12_grade_12 (by decide) (X.2.2.2.1 (.fieldLink RX12 122 "SilkMillModel" "draw" "[I") (by decide +kernel)) rfl (gv_1252 _ _) dX12_grade_97 ?_
                refine lv_iload X.1 X.2.1 dX12_grade_100 (lv_at hl 2 rfl) ?_
                refine lv_iload X.1 X.2.1 dX12_grade_102 (lv_at hl 0 rfl) ?_
                refine r_iast X hw h_367 rfl (by rw [h_368]; exact z_ix hz_i6_52 (by omega) (by omega)) dX12_grade_104 (fun H locs hw => ?_)
                obtain ⟨S_369, eS_369⟩ : ∃ T, T = sA T_53 q_365 (upd (pA T_53 q_365) (Int32.toNatClampNeg (i6_52)) (i7_343)) := ⟨_, rfl⟩
                rw [← eS_369] at hw
                have hO_370 : Ok Mgr S S_369 := hO_T_53.sA eS_369 h_367 (by decide +kernel) (uA_1254 hO_T_53.1 h_367)
                have h_371 : pA S_369 q_365 (Int32.toNatClampNeg (i6_52)) = i7_343 := tA_sAs eS_369
                have t_372 : pR S_369 1252 x = some q_365 := tR_sA eS_369 h_366
                have t_374 : pR T_53 1252 x = some q_365 := by have h := t_372; rw [eS_369, pR_sA] at h; exact h
                have zs_373 : ∀ j, zA S_369 x 1252 j = if j = (i6_52_z).toNat then i7_343_z else zA T_53 x 1252 j := by have h := zA_sAs eS_369 t_374 hz_i7_343; rw [z_nc hz_i6_52 (by omega)] at h; exact h
                refine lv_aload_n X.1 X.2.1 dX12_grade_105 rfl (lv_at hl 4 rfl) ?_
                refine lv_aload_n X.1 X.2.1 dX12_grade_106 rfl (lv_at hl 4 rfl) ?_
                have t_375 : At S_369 x 12 := tAt_sA eS_369 ha_x_L_54
                have t_376 : pI S_369 1249 x = v_76 := tI_sA eS_369 ev_76
                refine r_getI (g := 1249) (x := v_76) X hw t_375 rfl 49 t_376 (by decide) rfl inn_X12_grade_12 (by decide) (X.2.2.2.1 (.fieldLink RX12 382 "SilkMillModel" "off" "I") (by decide +kernel)) rfl (gv_1249 _ _) dX12_grade_107 ?_
                refine lv_aload_n X.1 X.2.1 dX12_grade_110 rfl (lv_at hl 4 rfl) ?_
                refine lv_aload_n X.1 X.2.1 dX12_grade_111 rfl (lv_at hl 4 rfl) ?_
                obtain ⟨q_377, h_378, h_379, h_380⟩ := gQ_12_1239 hO_370.1 t_375
                refine r_getR (g := 1239) X hw t_375 rfl 39 h_378 (by decide) rfl inn_X12_grade_12 (by decide) (X.2.2.2.1 (.fieldLink RX12 100 "SilkMillModel" "firstMetre" "[I") (by decide +kernel)) rfl (gv_1239 _ _) dX12_grade_112 ?_
                refine lv_iload_n X.1 X.2.1 dX12_grade_115 rfl (lv_at hl 5 rfl) ?_
                refine r_iald X hw h_379 rfl (by rw [h_380]; exact z_ix hz_a1 (by omega) (by omega)) dX12_grade_116 ?_
                refine lv_topi (fun v_381 ev_381 => ?_)
                have z_382 := gE_994 hO_370.1 h_379 (Int32.toNatClampNeg (a1)); rw [← ev_381] at z_382
                have ev_381 := ev_381.symm
                have zf_383 : zA S_369 x 1239 (a1_z).toNat = v_381.toInt := (zA_of h_378 hz_a1 (by omega) ev_381)
                have zc_384 : zA S_369 x 1239 = zA S x 1239 := (zA_sAn eS_369 (ex3 (gQ_12_1239 hO_T_53.1 ha_x_L_54)) h_367 rfl).trans zk_57
                have z9_385 : zA S_369 x 1239 a1_z.toNat = zA S x 1239 a1_z.toNat := congrFun zc_384 _
                refine lv_iload X.1 X.2.1 dX12_grade_117 (lv_at hl 0 rfl) ?_
                refine lv_iadd X.1 X.2.1 dX12_grade_119 ?_
                refine lv_topi (fun v_386 ev_386 => ?_)
                have z_387 : v_386.toInt = v_381.toInt + i7_343_z := z_add ev_386 rfl hz_i7_343 (by omega) (by omega)
                obtain ⟨t_388, ht_389⟩ : ∃ t, s_17.2.2.2[(i7_343_z).toNat]? = some t := ⟨_, List.getElem?_eq_getElem (by omega)⟩
                have zc_390 : zA S_369 x 1235 = zA S x 1235 := (zA_sAn eS_369 (ex3 (gQ_12_1235 hO_T_53.1 ha_x_L_54)) h_367 rfl).trans zk_63
                have zc_391 : zA S_369 x 1236 = zA S x 1236 := (zA_sAn eS_369 (ex3 (gQ_12_1236 hO_T_53.1 ha_x_L_54)) h_367 rfl).trans zk_66
                refine k_i (rm := { frames := 4, cells := 0, slots := 0, locals := 192 }) (av := [.ref x, .int (v_386)]) X hw (va_runV (As := [.int (v_386)]) (rest := [.int (v_76), .ref x]) (cfix X) (k_X12_fineAt7 l G cy κ S_369 _ x (v_386) ((v_381.toInt + i7_343_z)) t_388 hO_370.1 t_375 z_387 (by omega) (by omega) (MIe_free hG ha_x hO_370.fr (by decide +kernel) hp_0) (MtR_eq zc_390 zc_391 (by rw [show ((v_381.toInt + i7_343_z)).toNat = (zA S x 1239 a1_z.toNat).toNat + (i7_343_z).toNat by omega]; exact sr_21 _ _ ht_389))) (cwV 1 X.2.2.2.1 gX12_grade_X12_fineAt rfl rfl rfl (by decide +kernel) ⟨Nat.le_of_ble_eq_true rfl, Nat.le_of_ble_eq_true rfl⟩) (pre_V X hw _ t_375 rfl (by decide) rfl) rfl rfl hl.1 rfl (lv_room (Nat.le_of_ble_eq_true rfl)) dX12_grade_120 ⟨Nat.le_of_ble_eq_true rfl, Nat.le_of_ble_eq_true rfl⟩) 0 0 (Nat.le_of_ble_eq_true rfl) (Nat.le_of_ble_eq_true rfl) (fun rr_392 S_393 H locs hp hw hfr hnw => ?_)
                obtain ⟨e2, hp⟩ := hp
                subst e2
                obtain ⟨fa_394, fa_395, fa_396⟩ := hp
                have fb_397 : rr_392 = mtZ S x t_388 := fa_396.trans (mtZ_eq (fnZ_fr hG ha_x hO_370.fr (by decide +kernel)))
                have rg_398 := And.intro (z_lo rr_392) (z_hi rr_392)
                refine lv_aload_n X.1 X.2.1 dX12_grade_123 rfl (lv_at hl 4 rfl) ?_
                obtain ⟨q_399, h_400, h_401, h_402⟩ := gQ_12_1242 hO_370.1 t_375
                refine r_getR (g := 1242) X hw t_375 rfl 42 h_400 (by decide) rfl inn_X12_grade_12 (by decide) (X.2.2.2.1 (.fieldLink RX12 109 "SilkMillModel" "skeinAim" "[I") (by decide +kernel)) rfl (gv_1242 _ _) dX12_grade_124 ?_
                refine lv_iload_n X.1 X.2.1 dX12_grade_127 rfl (lv_at hl 5 rfl) ?_
                refine r_iald X hw h_401 rfl (by rw [h_402]; exact z_ix hz_a1 (by omega) (by omega)) dX12_grade_128 ?_
                refine lv_topi (fun v_403 ev_403 => ?_)
                have rg_404 := And.intro (z_lo v_403) (z_hi v_403)
                have ev_403 := ev_403.symm
                have zf_405 : zA S_369 x 1242 (a1_z).toNat = v_403.toInt := (zA_of h_400 hz_a1 (by omega) ev_403)
                have zc_406 : zA S_369 x 1242 = zA S x 1242 := (zA_sAn eS_369 (ex3 (gQ_12_1242 hO_T_53.1 ha_x_L_54)) h_367 rfl).trans zk_60
                have z9_407 : zA S_369 x 1242 a1_z.toNat = zA S x 1242 a1_z.toNat := congrFun zc_406 _
                have am_408 : v_403 = s_17.2.2.1 := Int32.toInt_inj.mp (by have e1 : (v_403 : Int32).toInt = v_403.toInt := rfl; have e2 := sr_27.2.2; omega)
                refine lv_isub X.1 X.2.1 dX12_grade_129 ?_
                refine lv_topi (fun v_409 ev_409 => ?_)
                have rg_410 := And.intro (z_lo v_409) (z_hi v_409)
                refine va_mabs X.1 X.2.1 (X.2.2.1.trans hl.1.symm) X.2.2.2.2.1 (X.2.2.2.1 (.methodLink RX12 347 Lib.Math.abs.name) (by decide +kernel)) (X.2.2.2.1 (.static Lib.Math.abs.name) (by decide +kernel)) (X.2.2.2.1 (.initialized "java/lang/Math") (by decide +kernel)) (X.2.2.2.1 (.code Lib.Math.abs.name Lib.Math.abs.code 1 (some .int)) (by decide +kernel)) (Nat.le_of_ble_eq_true rfl) (Nat.le_of_ble_eq_true rfl) (Nat.le_of_ble_eq_true rfl) (Nat.le_of_ble_eq_true rfl) dX12_grade_130 ?_
                refine lv_topi (fun v_411 ev_411 => ?_)
                have rg_413 := And.intro (z_lo v_411) (z_hi v_411)
                refine va_mmax X.1 X.2.1 (X.2.2.1.trans hl.1.symm) X.2.2.2.2.1 (X.2.2.2.1 (.methodLink RX12 339 Lib.Math.max.name) (by decide +kernel)) (X.2.2.2.1 (.static Lib.Math.max.name) (by decide +kernel)) (X.2.2.2.1 (.initialized "java/lang/Math") (by decide +kernel)) (X.2.2.2.1 (.code Lib.Math.max.name Lib.Math.max.code 2 (some .int)) (by decide +kernel)) (Nat.le_of_ble_eq_true rfl) (Nat.le_of_ble_eq_true rfl) (Nat.le_of_ble_eq_true rfl) (Nat.le_of_ble_eq_true rfl) dX12_grade_133 ?_
                refine lv_topi (fun v_414 ev_414 => ?_)
                have z_415 := z_max ev_414 rfl rfl
                refine r_putI (v := v_414) X hw t_375 rfl 49 1249 tyX12 (by decide) rfl inn_X12_grade_12 tyX12_ok nmX12 (by decide) (X.2.2.2.1 (.fieldLink RX12 382 "SilkMillModel" "off" "I") (by decide +kernel)) rfl (Or.inl rfl) rfl rfl (Nat.le_of_ble_eq_true rfl) (st_1249 _ _) dX12_grade_136 (fun H locs hw => ?_)
                obtain ⟨S_416, eS_416⟩ : ∃ T, T = sI S_369 1249 x (v_414) := ⟨_, rfl⟩
                rw [← eS_416] at hw
                have hO_417 : Ok Mgr S S_416 := hO_370.sI eS_416 (by decide +kernel) (uI_12_1249 hO_370.1 t_375)
                have h_418 : pI S_416 1249 x = v_414 := tI_sIs eS_416
                obtain ⟨x_419, ex_419⟩ : ∃ y : Int32, y = i6_52 + 1 := ⟨_, rfl⟩
                have z_420 : x_419.toInt = i6_52_z + 1 := z_add ex_419 hz_i6_52 ti_1 (by omega) (by omega)
                refine lv_iinc (v := x_419) (lv' := [(6, .int (x_419)), (7, .int (i7_343)), (5, .int (rr_332)), (4, .int (rr_42)), (0, .ref x), (1, .int (a1)), (2, .int (a2)), (3, .int (a3))]) X.1 X.2.1 dX12_grade_139 hl (k := 2) rfl (by rw [ex_419]; rfl) (by decide) rfl (fun ls hl => ?_)
                refine lv_goto (tgt := 51) X.1 X.2.1 dX12_grade_142 (by decide) ?_
                have pz_421 : (pI S_416 1249 x).toInt = v_414.toInt := (congrArg Int32.toInt h_418).trans rfl
                have t_422 : At S_416 x 12 := tAt_sI eS_416 t_375
                have zc_423 : zA S_416 x 1239 = zA S x 1239 := (zA_sI eS_416).trans zc_384
                have zc_424 : zA S_416 x 1242 = zA S x 1242 := (zA_sI eS_416).trans zc_406
                have zc_425 : zA S_416 x 1235 = zA S x 1235 := (zA_sI eS_416).trans zc_390
                have zc_426 : zA S_416 x 1236 = zA S x 1236 := (zA_sI eS_416).trans zc_391
                have zc_427 : zA S_369 x 1243 = zA S x 1243 := (zA_sAn eS_369 (ex3 (gQ_12_1243 hO_T_53.1 ha_x_L_54)) h_367 rfl).trans zk_69
                have zc_428 : zA S_416 x 1243 = zA S x 1243 := (zA_sI eS_416).trans zc_427
                have zc_430 : zA S_416 x 1252 = zA S_369 x 1252 := zA_sI eS_416
                have ap_429 : lkZ (zA S_416 x 1252) (x_419.toInt) = lkZ (zA T_53 x 1252) (i6_52_z) ++ [i7_343_z] := by rw [zc_430]; exact lkZ_app (by omega) (by omega) zs_373
                have ds_433 : (rr_42 : Int32).toInt = (s_17.2.2.2.length : Int) := (by have e1 : (rr_42 : Int32).toInt = rr_42.toInt := rfl; omega)
                have nn_434 : i7_343_z = ndF (lkZ (zA T_53 x 1252) (i6_52_z)) (s_17.2.2.2.length : Int) 5 rr_336.toInt := by have h := nn_364; rw [show rr_42.toInt = (s_17.2.2.2.length : Int) by omega] at h; exact h
                obtain ⟨ds_431, ds_432⟩ := dr_step (n := (s_17.2.2.2.length : Int)) (sd := a2) (by omega) (show x_419.toInt = i6_52_z + 1 by omega) iv_71 iv_72 nx_334 ds_433 pt_341 nn_434 ap_429
                exact ih_L_50 _ (by omega) _ _ _ _ (rr_332) (rr_332.toInt) (x_419) (x_419.toInt) rfl hw rfl rfl (by omega) t_422 hO_417 zc_423 zc_424 zc_425 zc_426 zc_428 (by omega) ds_431 ds_432 (by rw [← ds_431, ap_429, iv_71, ofF_s, ← iv_73]; show _ = mxI _ (abI (mtZ S x (mtG s_17.2.2.2 (i7_343_z)) - s_17.2.2.1)); rw [mtG_eq ht_389, ← fb_397, ← am_408, h_418, ev_76, ev_414, ev_411, ev_409]; rfl) (lv_sub hl [2, 0, 3, 4, 5, 6, 7] rfl)
            exact L_342 _ _ _ _ (rr_336) (rr_336.toInt) rfl hw rfl (by omega) Dall_0 (by omega) (lv_sub hl [0, 1, 2, 3, 4, 5, 6, 7] rfl)
        have pz_435 : (pI S_47 1249 x).toInt = 0 := (congrArg Int32.toInt h_49).trans ti_0
        have t_436 : At S_47 x 12 := tAt_sI eS_47 t_10
        exact L_50 _ _ _ _ _ (a2) (a2_z) (0) (0) rfl hw hz_a2 ti_0 (by omega) t_436 hO_48 zc_56 zc_59 zc_62 zc_65 zc_68 (by omega) (lkZ_0 _) rfl (by rw [h_49]; rfl) (lv_sub hl [1, 0, 2, 3, 4, 5, 6] rfl)
      · have z_b_437 := trivial
        have k_438 : a3_z > rr_34.toInt := z_nle hz_a3 rfl c_39
        refine lv_iconst (v := (-1)) X.1 X.2.1 dX12_grade_31 (by decide) ?_
        rw [hQQ]
        exact ret_i X hw hr hlocks (Nat.le_of_ble_eq_true rfl) (Nat.le_of_ble_eq_true rfl) ⟨hO_6, ⟨z_lo _, z_hi _, fun s h0 h1 h2 h3 h4 => (by exfalso; rw [hs_18] at h1; cases h1; omega), fun _ => ⟨by decide, eS_5⟩⟩⟩ dX12_grade_32
    · have z_b_439 := trivial
      refine lv_if_eq (tgt := 31) X.1 X.2.1 dX12_grade_19 (by decide) (fun c_440 => ?_) (fun c_440 => absurd c_440 (by decide))
      refine lv_iconst (v := (-1)) X.1 X.2.1 dX12_grade_31 (by decide) ?_
      rw [hQQ]
      exact ret_i X hw hr hlocks (Nat.le_of_ble_eq_true rfl) (Nat.le_of_ble_eq_true rfl) ⟨hO_6, ⟨z_lo _, z_hi _, fun s h0 h1 h2 h3 h4 => (by exfalso; rw [hs_18] at h1; cases h1; omega), fun _ => ⟨by decide, eS_5⟩⟩⟩ dX12_grade_32
  · have z_b_441 := trivial
    refine lv_if_eq (tgt := 31) X.1 X.2.1 dX12_grade_10 (by decide) (fun c_442 => ?_) (fun c_442 => absurd c_442 (by decide))
    refine lv_iconst (v := (-1)) X.1 X.2.1 dX12_grade_31 (by decide) ?_
    rw [hQQ]
    exact ret_i X hw hr hlocks (Nat.le_of_ble_eq_true rfl) (Nat.le_of_ble_eq_true rfl) ⟨hO_6, ⟨z_lo _, z_hi _, fun s h0 h1 _ _ _ => (by exfalso; have := (List.getElem?_eq_some_iff.mp h1).1; have := hp_1.1; omega), fun _ => ⟨by decide, eS_5⟩⟩⟩ dX12_grade_32
set_option maxHeartbeats 4000000 in
set_option maxRecDepth 100000 in
theorem k_X12_drawn7 (l : Launch) (G : va_G) (cy : Nat → ClassId) (κ : Nat → Nat) (S : PS) (sz : Nat) (x : Nat) (a1 : Int32) (a1_z : Int) (hG : GX S) (ha_x : At S x 12) (hz_a1 : a1.toInt = a1_z) : Ci l yX12_drawn wsX12_drawn ({ frames := 2, cells := 0, slots := 0, locals := 96 }) G cy κ S sz [.ref x, .int (a1)] (fun (r : Int32) (S9 : PS) => Ok MN S S9 ∧ (-2147483648 ≤ r.toInt ∧ r.toInt ≤ 2147483647 ∧ r.toInt = dwF (pI S 1251 x).toInt (pI S 1249 x).toInt (pI S 1250 x).toInt (zA S x 1252) a1_z)) := by
  refine ent_m (cc := cX12_drawn) (maxL := 2) (ret := (some .int)) (by decide) rfl (Nat.le_of_ble_eq_true rfl) ?_
  intro p e s m below meth c ls X hr hlocks hin hw hl hsz
  subst hsz
  have X : Cx p c cX12_drawn 2 s [.ref x, .int (a1)].toArray wsX12_drawn RX12 m G cy κ (AS S s.heap.size) := X
  have hl : lv_has ls 2 [(0, .ref x), (1, .int (a1))] := hl
  have rg_a1 : (-2147483648) ≤ a1_z ∧ a1_z ≤ 2147483647 := by rw [← hz_a1]; exact ⟨z_lo _, z_hi _⟩
  have hO : Ok MN S S := Ok.rf hG
  obtain ⟨v_1, ev_1⟩ : ∃ v, pI S 1251 x = v := ⟨_, rfl⟩
  have rg_2 := gI_12_1251 hO.1 ha_x; rw [ev_1] at rg_2
  have pz_3 : (pI S 1251 x).toInt = v_1.toInt := by rw [ev_1]
  have pz_4 : (pI S 1251 x).toInt = v_1.toInt := (congrArg Int32.toInt ev_1).trans rfl
  obtain ⟨v_5, ev_5⟩ : ∃ v, pI S 1249 x = v := ⟨_, rfl⟩
  have rg_7 := And.intro (z_lo v_5) (z_hi v_5)
  have pz_8 : (pI S 1249 x).toInt = v_5.toInt := by rw [ev_5]
  have pz_9 : (pI S 1249 x).toInt = v_5.toInt := (congrArg Int32.toInt ev_5).trans rfl
  obtain ⟨v_10, ev_10⟩ : ∃ v, pI S 1250 x = v := ⟨_, rfl⟩
  have rg_12 := And.intro (z_lo v_10) (z_hi v_10)
  have pz_13 : (pI S 1250 x).toInt = v_10.toInt := by rw [ev_10]
  have pz_14 : (pI S 1250 x).toInt = v_10.toInt := (congrArg Int32.toInt ev_10).trans rfl
  refine lv_aload_n X.1 X.2.1 dX12_drawn_0 rfl (lv_at hl 0 rfl) ?_
  refine lv_iconst (v := 0) X.1 X.2.1 dX12_drawn_1 (by decide) ?_
  refine r_putI (v := 0) X hw ha_x rfl 0 1200 tyX12 (by decide) rfl inn_X12_drawn_12 tyX12_ok nmX12 (by decide) (X.2.2.2.1 (.fieldLink RX12 161 "SilkMillModel" "thrown" "I") (by decide +kernel)) rfl (Or.inl rfl) rfl rfl (Nat.le_of_ble_eq_true rfl) (st_1200 _ _) dX12_drawn_2 (fun H locs hw => ?_)
  obtain ⟨S_15, eS_15⟩ : ∃ T, T = sI S 1200 x (0) := ⟨_, rfl⟩
  rw [← eS_15] at hw
  have hO_16 : Ok MN S S_15 := hO.sI eS_15 (by decide +kernel) (uI_12_1200 hO.1 ha_x)
  have h_17 : pI S_15 1200 x = 0 := tI_sIs eS_15
  refine lv_aload_n X.1 X.2.1 dX12_drawn_5 rfl (lv_at hl 0 rfl) ?_
  have t_18 : At S_15 x 12 := tAt_sI eS_15 ha_x
  have t_19 : pI S_15 1251 x = v_1 := tI_sI eS_15 rfl ev_1
  refine r_getI (g := 1251) (x := v_1) X hw t_18 rfl 51 t_19 (by decide) rfl inn_X12_drawn_12 (by decide) (X.2.2.2.1 (.fieldLink RX12 388 "SilkMillModel" "draws" "I") (by decide +kernel)) rfl (gv_1251 _ _) dX12_drawn_6 ?_
  refine lv_if_eq (tgt := 26) X.1 X.2.1 dX12_drawn_9 (by decide) (fun c_20 => ?_) (fun c_20 => ?_)
  · have z_b_21 := trivial
    have k_22 : v_1.toInt = 0 := z_eq rfl ti_0 c_20
    refine lv_iconst (v := (-1)) X.1 X.2.1 dX12_drawn_26 (by decide) ?_
    exact ret_i X hw hr hlocks (Nat.le_of_ble_eq_true rfl) (Nat.le_of_ble_eq_true rfl) ⟨hO_16, ⟨z_lo _, z_hi _, (by rw [dwF_n (by omega)]; decide)⟩⟩ dX12_drawn_27
  · have z_b_23 := trivial
    have k_24 : v_1.toInt ≠ 0 := z_ne rfl ti_0 c_20
    refine lv_iload_n X.1 X.2.1 dX12_drawn_12 rfl (lv_at hl 1 rfl) ?_
    refine lv_iconst (v := 0) X.1 X.2.1 dX12_drawn_13 (by decide) ?_
    refine lv_aload_n X.1 X.2.1 dX12_drawn_14 rfl (lv_at hl 0 rfl) ?_
    refine r_getI (g := 1251) (x := v_1) X hw t_18 rfl 51 t_19 (by decide) rfl inn_X12_drawn_12 (by decide) (X.2.2.2.1 (.fieldLink RX12 388 "SilkMillModel" "draws" "I") (by decide +kernel)) rfl (gv_1251 _ _) dX12_drawn_15 ?_
    refine lv_iconst (v := 1) X.1 X.2.1 dX12_drawn_18 (by decide) ?_
    refine lv_iadd X.1 X.2.1 dX12_drawn_19 ?_
    refine lv_topi (fun v_25 ev_25 => ?_)
    have z_26 : v_25.toInt = v_1.toInt + 1 := z_add ev_25 rfl ti_1 (by omega) (by omega)
    refine k_i (rm := { frames := 1, cells := 0, slots := 0, locals := 48 }) (av := [.int (a1), .int 0, .int (v_25)]) X hw (va_runS (As := [.int (a1), .int 0, .int (v_25)]) (rest := []) (cfix X) (k_X12_within l G cy κ S_15 _ (a1) (a1_z) (0) (0) (v_25) ((v_1.toInt + 1)) hO_16.1 hz_a1 ti_0 z_26) (cwS 3 X.2.2.2.1 gX12_drawn_X12_within rfl rfl rfl (by decide +kernel) ⟨Nat.le_of_ble_eq_true rfl, Nat.le_of_ble_eq_true rfl⟩) (pre_S X hw _) rfl rfl hl.1 rfl (lv_room (Nat.le_of_ble_eq_true rfl)) dX12_drawn_20 ⟨Nat.le_of_ble_eq_true rfl, Nat.le_of_ble_eq_true rfl⟩) 0 0 (Nat.le_of_ble_eq_true rfl) (Nat.le_of_ble_eq_true rfl) (fun rr_27 S_28 H locs hp hw hfr hnw => ?_)
    obtain ⟨e2, hp⟩ := hp
    subst e2
    rcases hp with ⟨f_29, er_30⟩ | ⟨f_29, er_30⟩ <;> subst er_30
    · have z_b_31 := trivial
      refine lv_if_ne (tgt := 28) X.1 X.2.1 dX12_drawn_23 (by decide) (fun c_32 => ?_) (fun c_32 => absurd c_32 (by decide))
      refine lv_iload_n X.1 X.2.1 dX12_drawn_28 rfl (lv_at hl 1 rfl) ?_
      refine lv_if_ne (tgt := 39) X.1 X.2.1 dX12_drawn_29 (by decide) (fun c_33 => ?_) (fun c_33 => ?_)
      · have z_b_34 := trivial
        have k_35 : a1_z ≠ 0 := z_ne hz_a1 ti_0 c_33
        refine lv_iload_n X.1 X.2.1 dX12_drawn_39 rfl (lv_at hl 1 rfl) ?_
        refine lv_iconst (v := 1) X.1 X.2.1 dX12_drawn_40 (by decide) ?_
        refine lv_icmp_ne (tgt := 51) X.1 X.2.1 dX12_drawn_41 (by decide) (fun c_36 => ?_) (fun c_36 => ?_)
        · have z_b_37 := trivial
          have k_38 : a1_z ≠ 1 := z_ne hz_a1 ti_1 c_36
          refine lv_aload_n X.1 X.2.1 dX12_drawn_51 rfl (lv_at hl 0 rfl) ?_
          obtain ⟨q_39, h_40, h_41, h_42⟩ := gQ_12_1252 hO_16.1 t_18
          refine r_getR (g := 1252) X hw t_18 rfl 52 h_40 (by decide) rfl inn_X12_drawn_12 (by decide) (X.2.2.2.1 (.fieldLink RX12 122 "SilkMillModel" "draw" "[I") (by decide +kernel)) rfl (gv_1252 _ _) dX12_drawn_52 ?_
          refine lv_iload_n X.1 X.2.1 dX12_drawn_55 rfl (lv_at hl 1 rfl) ?_
          refine lv_iconst (v := 2) X.1 X.2.1 dX12_drawn_56 (by decide) ?_
          refine lv_isub X.1 X.2.1 dX12_drawn_57 ?_
          refine lv_topi (fun v_43 ev_43 => ?_)
          have z_44 : v_43.toInt = a1_z - 2 := z_sub ev_43 hz_a1 ti_2 (by omega) (by omega)
          refine r_iald X hw h_41 rfl (by rw [h_42]; exact z_ix z_44 (by omega) (by omega)) dX12_drawn_58 ?_
          refine lv_topi (fun v_45 ev_45 => ?_)
          have rg_46 := And.intro (z_lo v_45) (z_hi v_45)
          have ev_45 := ev_45.symm
          have zf_47 : zA S_15 x 1252 ((a1_z - 2)).toNat = v_45.toInt := (zA_of h_40 z_44 (by omega) ev_45)
          have zc_48 : zA S_15 x 1252 = zA S x 1252 := zA_sI eS_15
          have zf_49 : zA S x 1252 ((a1_z - 2)).toNat = v_45.toInt := (congrFun zc_48 _).symm.trans zf_47
          exact ret_i X hw hr hlocks (Nat.le_of_ble_eq_true rfl) (Nat.le_of_ble_eq_true rfl) ⟨hO_16, ⟨z_lo _, z_hi _, (by rw [dwF_2 (by omega) (by omega), zf_49]; first | done | (have e1 : (v_45 : Int32).toInt = v_45.toInt := rfl; omega))⟩⟩ dX12_drawn_59
        · have z_b_50 := trivial
          have k_51 : a1_z = 1 := z_eq hz_a1 ti_1 c_36
          refine lv_aload_n X.1 X.2.1 dX12_drawn_44 rfl (lv_at hl 0 rfl) ?_
          have t_52 : pI S_15 1250 x = v_10 := tI_sI eS_15 rfl ev_10
          refine r_getI (g := 1250) (x := v_10) X hw t_18 rfl 50 t_52 (by decide) rfl inn_X12_drawn_12 (by decide) (X.2.2.2.1 (.fieldLink RX12 391 "SilkMillModel" "bound" "I") (by decide +kernel)) rfl (gv_1250 _ _) dX12_drawn_45 ?_
          refine lv_goto (tgt := 59) X.1 X.2.1 dX12_drawn_48 (by decide) ?_
          exact ret_i X hw hr hlocks (Nat.le_of_ble_eq_true rfl) (Nat.le_of_ble_eq_true rfl) ⟨hO_16, ⟨z_lo _, z_hi _, (by rw [dwF_1 (by omega) (by omega)]; have e1 : (v_10 : Int32).toInt = v_10.toInt := rfl; omega)⟩⟩ dX12_drawn_59
      · have z_b_53 := trivial
        have k_54 : a1_z = 0 := z_eq hz_a1 ti_0 c_33
        refine lv_aload_n X.1 X.2.1 dX12_drawn_32 rfl (lv_at hl 0 rfl) ?_
        have t_55 : pI S_15 1249 x = v_5 := tI_sI eS_15 rfl ev_5
        refine r_getI (g := 1249) (x := v_5) X hw t_18 rfl 49 t_55 (by decide) rfl inn_X12_drawn_12 (by decide) (X.2.2.2.1 (.fieldLink RX12 382 "SilkMillModel" "off" "I") (by decide +kernel)) rfl (gv_1249 _ _) dX12_drawn_33 ?_
        refine lv_goto (tgt := 59) X.1 X.2.1 dX12_drawn_36 (by decide) ?_
        exact ret_i X hw hr hlocks (Nat.le_of_ble_eq_true rfl) (Nat.le_of_ble_eq_true rfl) ⟨hO_16, ⟨z_lo _, z_hi _, (by rw [dwF_0 (by omega) (by omega)]; have e1 : (v_5 : Int32).toInt = v_5.toInt := rfl; omega)⟩⟩ dX12_drawn_59
    · have z_b_56 := trivial
      refine lv_if_ne (tgt := 28) X.1 X.2.1 dX12_drawn_23 (by decide) (fun c_57 => absurd c_57 (by decide)) (fun c_57 => ?_)
      refine lv_iconst (v := (-1)) X.1 X.2.1 dX12_drawn_26 (by decide) ?_
      exact ret_i X hw hr hlocks (Nat.le_of_ble_eq_true rfl) (Nat.le_of_ble_eq_true rfl) ⟨hO_16, ⟨z_lo _, z_hi _, (by rw [dwF_n (by omega)]; decide)⟩⟩ dX12_drawn_27
