
set_option maxHeartbeats 4000000 in
set_option maxRecDepth 100000 in
theorem k_X11_fineness2 (l : Launch) (hst : l.stackTraces = false) (G : va_G) (cy : Nat → ClassId) (κ : Nat → Nat) (S : PS) (sz : Nat) (x : Nat) (a1 : Int32) (a1_z : Int) (a2 : Int32) (a2_z : Int) (a3 : Int32) (a3_z : Int) (hG : GX S) (ha_x : At S x 11) (hz_a1 : a1.toInt = a1_z) (hz_a2 : a2.toInt = a2_z) (hz_a3 : a3.toInt = a3_z) : vx_Met l yX11_fineness wsX11_fineness ({ frames := 12, cells := 1, slots := 6, locals := 576 }) (va_Pc [.ref x, .int (a1), .int (a2), .int (a3)] (Qe G cy κ S sz)) (va_Qi (fun (r : Int32) (S9 : PS) => S = S9 ∧ (FC S x a1_z a2_z a3_z ∧ FV S x a1_z a2_z a3 r)) (Bw G cy S sz) (AS S sz)) (vx_X (fun S9 : PS => S = S9 ∧ (CN S x → ¬ FC S x a1_z a2_z a3_z)) (fun E S9 t => E = "java/lang/IndexOutOfBoundsException" ∧ Bw G cy S sz S9 t) (AS S sz)) 1 6 (AS S sz) := by
  refine ent_e (cc := cX11_fineness) (maxL := 5) (ret := (some .int)) (by decide) rfl (Nat.le_of_ble_eq_true rfl) ?_
  intro p e s m below meth c ls X hr hlocks hw hl hsz hdc hnt hml
  subst hsz
  have X : Cx p c cX11_fineness 5 s [.ref x, .int (a1), .int (a2), .int (a3)].toArray wsX11_fineness RX11 m G cy κ (AS S s.heap.size) := X
  have hl : lv_has ls 5 [(0, .ref x), (1, .int (a1)), (2, .int (a2)), (3, .int (a3))] := hl
  have rg_a1 : (-2147483648) ≤ a1_z ∧ a1_z ≤ 2147483647 := by rw [← hz_a1]; exact ⟨z_lo _, z_hi _⟩
  have rg_a2 : (-2147483648) ≤ a2_z ∧ a2_z ≤ 2147483647 := by rw [← hz_a2]; exact ⟨z_lo _, z_hi _⟩
  have rg_a3 : (-2147483648) ≤ a3_z ∧ a3_z ≤ 2147483647 := by rw [← hz_a3]; exact ⟨z_lo _, z_hi _⟩
  refine lv_aload_n X.1 X.2.1 dX11_fineness_0 rfl (lv_at hl 0 rfl) ?_
  refine lv_iload_n X.1 X.2.1 dX11_fineness_1 rfl (lv_at hl 1 rfl) ?_
  refine lv_iload_n X.1 X.2.1 dX11_fineness_2 rfl (lv_at hl 2 rfl) ?_
  refine k_q (rm := { frames := 1, cells := 0, slots := 0, locals := 48 }) (av := [.ref x, .int (a1), .int (a2)]) X hw (va_runV (As := [.int (a1), .int (a2)]) (rest := []) (cfix X) (k_X11_cocoonAt2 l G cy κ S _ x (a1) (a1_z) (a2) (a2_z) hG ha_x hz_a1 hz_a2) (cwV 2 X.2.2.2.1 gX11_fineness_X11_cocoonAt rfl rfl rfl (by decide +kernel) ⟨Nat.le_of_ble_eq_true rfl, Nat.le_of_ble_eq_true rfl⟩) (pre_V X hw _ ha_x rfl (by decide) rfl) rfl rfl hl.1 rfl (lv_room (Nat.le_of_ble_eq_true rfl)) dX11_fineness_3 ⟨Nat.le_of_ble_eq_true rfl, Nat.le_of_ble_eq_true rfl⟩) 0 0 (Nat.le_of_ble_eq_true rfl) (Nat.le_of_ble_eq_true rfl) (fun rr_1 S_2 H locs hp hw hfr hnw => ?_)
  obtain ⟨e2, hp⟩ := hp
  subst e2
  obtain ⟨hq_3, hnf_4⟩ := hp
  rcases rr_1 with _ | q_5
  · refine W.eq (g2 := F0 m 6 ls (.null :: [])) rfl ?_
    have nf_6 := hnf_4 rfl
    refine lv_astoreN (lv' := [(4, .null), (0, .ref x), (1, .int (a1)), (2, .int (a2)), (3, .int (a3))]) X.1 X.2.1 dX11_fineness_6 hl (by decide) rfl (fun ls hl => ?_)
    refine lv_aloadN X.1 X.2.1 dX11_fineness_8 (lv_at hl 0 rfl) ?_
    refine lv_ifnullN (tgt := 26) X.1 X.2.1 dX11_fineness_10 (by decide) ?_
    refine vx_throwS (names := ["java/lang/RuntimeException", "java/lang/Exception"]) X.1 X.2.1 hst X.2.2.2.2.1 (by decide +kernel) (by decide +kernel) (X.2.2.2.1 (.classLink RX11 102 "java/lang/IndexOutOfBoundsException") (by decide +kernel)) (X.2.2.2.1 (.initialized "java/lang/IndexOutOfBoundsException") (by decide +kernel)) (show vk_R RX11 104 "there is no such place of a cocoon" (κ (100 + 0)) s from (X.2.2.2.2.2.2.2.2.2.2.2.2.2.2 0 (by decide)).1) (vx_hat (B := [.castable "java/lang/IndexOutOfBoundsException" "java/lang/IndexOutOfBoundsException", .declares (Bundle.initS "java/lang/RuntimeException"), .declares (Bundle.initS "java/lang/Exception"), .declares (Bundle.initS Bundle.tN)]) (fun w h => X.2.2.2.1 w (List.mem_cons_of_mem _ (List.mem_append_right _ h))) (by decide +kernel) (vx_c (va_Nw.use rfl X.2.2.2.2.2.2.2.1.2.2.1) (vx_c (va_Nw.use rfl (hdc _ (List.mem_of_getElem? (i := 0) rfl))) (vx_c (va_Nw.use rfl (hdc _ (List.mem_of_getElem? (i := 1) rfl))) (vx_c (va_Nw.use rfl (hdc _ (List.mem_of_getElem? (i := 2) rfl))) vx_n))))) (by decide +kernel) X.2.2.2.2.2.2.2.2.2.2.1 X.2.2.2.2.2.2.2.2.2.2.2.1 hw.2.2 (hl.1.trans hml.symm) dX11_fineness_26 dX11_fineness_29 dX11_fineness_30 dX11_fineness_32 dX11_fineness_35 (fun x hx => (hnt x hx).elim) (by decide) (Nat.le_of_ble_eq_true rfl) (Nat.le_of_ble_eq_true rfl) (Nat.le_of_ble_eq_true rfl) hlocks ?_ hw.2.2.2.2 (Nat.le_of_ble_eq_true rfl) (Nat.le_of_ble_eq_true rfl)
    intro t hvm hsz hq
    exact ⟨S, ⟨rfl, fun hC h => nf_6 hC h.1⟩, ⟨rfl, hw.1.kept (fun k q hk => hq q.1 (hw.lt (pl_mem hk))), hw.2.1⟩, ⟨Nat.le_trans hw.2.2.1 hsz, fun q h1 h2 => (hq q (Nat.lt_of_lt_of_le h1 hw.2.2.1)).trans (hw.2.2.2.1 q h1 h2)⟩⟩
  · refine W.eq (g2 := F0 m 6 ls (.ref q_5 :: [])) rfl ?_
    obtain ⟨ha_7, f_8, f_9⟩ := hq_3 _ rfl
    refine lv_astore (lv' := [(4, .ref q_5), (0, .ref x), (1, .int (a1)), (2, .int (a2)), (3, .int (a3))]) X.1 X.2.1 dX11_fineness_6 hl (by decide) rfl (fun ls hl => ?_)
    refine lv_aload X.1 X.2.1 dX11_fineness_8 (lv_at hl 0 rfl) ?_
    refine lv_ifnull X.1 X.2.1 dX11_fineness_10 ?_
    refine lv_iload_n X.1 X.2.1 dX11_fineness_13 rfl (lv_at hl 4 rfl) ?_
    refine lv_if_lt (tgt := 26) X.1 X.2.1 dX11_fineness_14 (by decide) (fun c_10 => ?_) (fun c_10 => ?_)
    · have z_b_11 := trivial
      have k_12 : a3_z < 0 := z_lt hz_a3 ti_0 c_10
      refine vx_throwS (names := ["java/lang/RuntimeException", "java/lang/Exception"]) X.1 X.2.1 hst X.2.2.2.2.1 (by decide +kernel) (by decide +kernel) (X.2.2.2.1 (.classLink RX11 102 "java/lang/IndexOutOfBoundsException") (by decide +kernel)) (X.2.2.2.1 (.initialized "java/lang/IndexOutOfBoundsException") (by decide +kernel)) (show vk_R RX11 104 "there is no such place of a cocoon" (κ (100 + 0)) s from (X.2.2.2.2.2.2.2.2.2.2.2.2.2.2 0 (by decide)).1) (vx_hat (B := [.castable "java/lang/IndexOutOfBoundsException" "java/lang/IndexOutOfBoundsException", .declares (Bundle.initS "java/lang/RuntimeException"), .declares (Bundle.initS "java/lang/Exception"), .declares (Bundle.initS Bundle.tN)]) (fun w h => X.2.2.2.1 w (List.mem_cons_of_mem _ (List.mem_append_right _ h))) (by decide +kernel) (vx_c (va_Nw.use rfl X.2.2.2.2.2.2.2.1.2.2.1) (vx_c (va_Nw.use rfl (hdc _ (List.mem_of_getElem? (i := 0) rfl))) (vx_c (va_Nw.use rfl (hdc _ (List.mem_of_getElem? (i := 1) rfl))) (vx_c (va_Nw.use rfl (hdc _ (List.mem_of_getElem? (i := 2) rfl))) vx_n))))) (by decide +kernel) X.2.2.2.2.2.2.2.2.2.2.1 X.2.2.2.2.2.2.2.2.2.2.2.1 hw.2.2 (hl.1.trans hml.symm) dX11_fineness_26 dX11_fineness_29 dX11_fineness_30 dX11_fineness_32 dX11_fineness_35 (fun x hx => (hnt x hx).elim) (by decide) (Nat.le_of_ble_eq_true rfl) (Nat.le_of_ble_eq_true rfl) (Nat.le_of_ble_eq_true rfl) hlocks ?_ hw.2.2.2.2 (Nat.le_of_ble_eq_true rfl) (Nat.le_of_ble_eq_true rfl)
      intro t hvm hsz hq
      exact ⟨S, ⟨rfl, fun _ h => by obtain ⟨-, c, h1, h2, h3⟩ := h; rw [f_9] at h1; cases h1; omega⟩, ⟨rfl, hw.1.kept (fun k q hk => hq q.1 (hw.lt (pl_mem hk))), hw.2.1⟩, ⟨Nat.le_trans hw.2.2.1 hsz, fun q h1 h2 => (hq q (Nat.lt_of_lt_of_le h1 hw.2.2.1)).trans (hw.2.2.2.1 q h1 h2)⟩⟩
    · have z_b_13 := trivial
      have k_14 : a3_z ≥ 0 := z_nlt hz_a3 ti_0 c_10
      refine lv_iload_n X.1 X.2.1 dX11_fineness_17 rfl (lv_at hl 4 rfl) ?_
      refine lv_aload X.1 X.2.1 dX11_fineness_18 (lv_at hl 0 rfl) ?_
      obtain ⟨v_15, ev_15⟩ : ∃ v, pI S 2 q_5 = v := ⟨_, rfl⟩
      have rg_16 := gI_0_2 hG ha_7; rw [ev_15] at rg_16
      have pz_17 : (pI S 2 q_5).toInt = v_15.toInt := by rw [ev_15]
      refine r_getI (g := 2) (x := v_15) X hw ha_7 rfl 2 ev_15 (by decide) rfl inn_X11_fineness_0 (by decide) (X.2.2.2.1 (.fieldLink RX11 78 "SilkMill$Cocoon" "length" "I") (by decide +kernel)) rfl (gv_2 _ _) dX11_fineness_20 ?_
      refine lv_icmp_lt (tgt := 36) X.1 X.2.1 dX11_fineness_23 (by decide) (fun c_18 => ?_) (fun c_18 => ?_)
      · have z_b_19 := trivial
        have k_20 : a3_z < v_15.toInt := z_lt hz_a3 rfl c_18
        refine lv_aload X.1 X.2.1 dX11_fineness_36 (lv_at hl 0 rfl) ?_
        refine lv_iload_n X.1 X.2.1 dX11_fineness_38 rfl (lv_at hl 4 rfl) ?_
        refine k_i (rm := { frames := 1, cells := 0, slots := 0, locals := 48 }) (av := [.ref q_5, .int (a3)]) X hw (va_runV (As := [.int (a3)]) (rest := []) (cfix X) (k_X0_finenessAt2 l G cy κ S _ q_5 (a3) (a3_z) hG ha_7 hz_a3) (cwV 1 X.2.2.2.1 gX11_fineness_X0_finenessAt rfl rfl rfl (by decide +kernel) ⟨Nat.le_of_ble_eq_true rfl, Nat.le_of_ble_eq_true rfl⟩) (pre_V X hw _ ha_7 rfl (by decide) rfl) rfl rfl hl.1 rfl (lv_room (Nat.le_of_ble_eq_true rfl)) dX11_fineness_39 ⟨Nat.le_of_ble_eq_true rfl, Nat.le_of_ble_eq_true rfl⟩) 0 0 (Nat.le_of_ble_eq_true rfl) (Nat.le_of_ble_eq_true rfl) (fun rr_21 S_22 H locs hp hw hfr hnw => ?_)
        obtain ⟨e2, hp⟩ := hp
        subst e2
        have f_23 := hp
        exact vx_ret (ret_i X hw hr hlocks (Nat.le_of_ble_eq_true rfl) (Nat.le_of_ble_eq_true rfl) ⟨rfl, ⟨⟨f_8, _, f_9, by omega, by omega⟩, _, f_9, by assumption⟩⟩ dX11_fineness_42)
      · have z_b_24 := trivial
        have k_25 : a3_z ≥ v_15.toInt := z_nlt hz_a3 rfl c_18
        refine vx_throwS (names := ["java/lang/RuntimeException", "java/lang/Exception"]) X.1 X.2.1 hst X.2.2.2.2.1 (by decide +kernel) (by decide +kernel) (X.2.2.2.1 (.classLink RX11 102 "java/lang/IndexOutOfBoundsException") (by decide +kernel)) (X.2.2.2.1 (.initialized "java/lang/IndexOutOfBoundsException") (by decide +kernel)) (show vk_R RX11 104 "there is no such place of a cocoon" (κ (100 + 0)) s from (X.2.2.2.2.2.2.2.2.2.2.2.2.2.2 0 (by decide)).1) (vx_hat (B := [.castable "java/lang/IndexOutOfBoundsException" "java/lang/IndexOutOfBoundsException", .declares (Bundle.initS "java/lang/RuntimeException"), .declares (Bundle.initS "java/lang/Exception"), .declares (Bundle.initS Bundle.tN)]) (fun w h => X.2.2.2.1 w (List.mem_cons_of_mem _ (List.mem_append_right _ h))) (by decide +kernel) (vx_c (va_Nw.use rfl X.2.2.2.2.2.2.2.1.2.2.1) (vx_c (va_Nw.use rfl (hdc _ (List.mem_of_getElem? (i := 0) rfl))) (vx_c (va_Nw.use rfl (hdc _ (List.mem_of_getElem? (i := 1) rfl))) (vx_c (va_Nw.use rfl (hdc _ (List.mem_of_getElem? (i := 2) rfl))) vx_n))))) (by decide +kernel) X.2.2.2.2.2.2.2.2.2.2.1 X.2.2.2.2.2.2.2.2.2.2.2.1 hw.2.2 (hl.1.trans hml.symm) dX11_fineness_26 dX11_fineness_29 dX11_fineness_30 dX11_fineness_32 dX11_fineness_35 (fun x hx => (hnt x hx).elim) (by decide) (Nat.le_of_ble_eq_true rfl) (Nat.le_of_ble_eq_true rfl) (Nat.le_of_ble_eq_true rfl) hlocks ?_ hw.2.2.2.2 (Nat.le_of_ble_eq_true rfl) (Nat.le_of_ble_eq_true rfl)
        intro t hvm hsz hq
        exact ⟨S, ⟨rfl, fun _ h => by obtain ⟨-, c, h1, h2, h3⟩ := h; rw [f_9] at h1; cases h1; omega⟩, ⟨rfl, hw.1.kept (fun k q hk => hq q.1 (hw.lt (pl_mem hk))), hw.2.1⟩, ⟨Nat.le_trans hw.2.2.1 hsz, fun q h1 h2 => (hq q (Nat.lt_of_lt_of_le h1 hw.2.2.1)).trans (hw.2.2.2.1 q h1 h2)⟩⟩
