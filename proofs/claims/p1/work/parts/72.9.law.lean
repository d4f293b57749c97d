set_option maxHeartbeats 8000000 in
set_option maxRecDepth 100000 in
theorem whole_start {p : Program} {e : Env} {s : State} {m : MethodId} {below : List Frame} {meth : Method} {c : Code} (l : Launch) (hst : l.stackTraces = false) {b L : Nat} {xs : Nat → Int32} (hL : L ≤ 6) (C0 : lw_At p s m meth c b L xs) : W p l e room_1 s m #[Value.ref b] below meth c s.heap [] 0 0 (lw_Z below #[Value.ref b] s) (entryFrame m ([Value.ref b] : List Value).toArray 7) := by
  obtain ⟨hx, hb, hr, hml, hown, hts0, hX, hbl, hlocks, hgv⟩ := C0
  obtain ⟨G, cy, hK⟩ := law_known hts0
  have hbA : ¬ (fun q : Nat => s.heap.size ≤ q) b := Nat.not_le.mpr hbl
  have X : Cx p c cL_law 7 s #[Value.ref b] lw_tbl RL m G cy (fun q : Nat => s.heap.size ≤ q) := ⟨hx, hb, hml, hts0, hown, hK, fun _ h => h, law_NG hts0⟩
  have hZ : Zs (fun q : Nat => s.heap.size ≤ q) s s.heap := ⟨vx_Zqof (hts0 (.laysStatic Bundle.tN "UNASSIGNED_STACK" Bundle.steD) (by decide +kernel)) (hts0 (.initialized Bundle.tN) (by decide +kernel)) (flat_of_before _ hgv (.isRef (.static Bundle.tN "UNASSIGNED_STACK" Bundle.steD)) (by decide +kernel)) (fun a h => Nat.not_le.mpr h), vx_Zqof (hts0 (.laysStatic Bundle.tN "SUPPRESSED_SENTINEL" Bundle.listD) (by decide +kernel)) (hts0 (.initialized Bundle.tN) (by decide +kernel)) (flat_of_before _ hgv (.isRef (.static Bundle.tN "SUPPRESSED_SENTINEL" Bundle.listD)) (by decide +kernel)) (fun a h => Nat.not_le.mpr h)⟩
  obtain ⟨sa_L_fineness, _, _, _, hev_L_fineness, -⟩ := Cond.exactly_spec (flat_of_before _ hgv (.exactly (.string "SilkMill" 104) "java/lang/String") (by decide +kernel))
  have hStr_L_fineness : vk_R RX11 104 "there is no such place of a cocoon" sa_L_fineness s := vk_R.of (hts0 (.stringRef RX11 104 "there is no such place of a cocoon") (by decide +kernel)) hev_L_fineness
  obtain ⟨sa_L_in, _, _, _, hev_L_in, -⟩ := Cond.exactly_spec (flat_of_before _ hgv (.exactly (.string "SilkMill" 221) "java/lang/String") (by decide +kernel))
  have hStr_L_in : vk_R RX11 221 "there is no such cocoon in a pot" sa_L_in s := vk_R.of (hts0 (.stringRef RX11 221 "there is no such cocoon in a pot") (by decide +kernel)) hev_L_in
  have hdc : ∀ Y ∈ DcL, va_Nw (.declares (Bundle.initS Y)) s := fun Y hY => va_Nw.of rfl (hts0 _ ((by decide +kernel : ∀ Y ∈ DcL, Cond.declares (Bundle.initS Y) ∈ lw_tbl) Y hY))
  have hl := lv_entry ([.ref b]) (n := 7) (Nat.le_of_ble_eq_true rfl)
  rw [lg_entry_eq]
  generalize (lg_sl ([.ref b]) ++ List.replicate (7 - (lg_sl ([.ref b])).length) Slot.unset).toArray = ls at hl ⊢
  have hl : lv_has ls 7 [(0, .ref b)] := hl
  have hw0 : Wd G cy (fun q : Nat => s.heap.size ≤ q) s.heap PS0 s.heap [] := Wd_0
  refine r_new X hw0 11 12 1 tyX11 (by decide) rfl glx_11 tyX11_ok (X.2.2.2.1 (.classLink RL 8 RX11) (by decide +kernel)) (X.2.2.2.1 (.instantiable RX11 12) (by decide +kernel)) (X.2.2.2.1 (.initialized RX11) (by decide +kernel)) zo_11 zd_11 (Nat.le_of_ble_eq_true rfl) (Nat.le_of_ble_eq_true rfl) (Nat.le_of_ble_eq_true rfl) (Nat.le_of_ble_eq_true rfl) dL_law_0 (fun x H hx_n hwX => ?_)
  have hat_x := At_nO PS0 x 11
  have hzx : ∀ g, pI (sO PS0 x 11) g x = 0 := fun g => pI_sO_new
  refine lv_dup X.1 X.2.1 dL_law_3 rfl ?_
  refine k_v (rm := { frames := 5, cells := 100, slots := 3000, locals := 200 }) (av := [.ref x]) X hwX (va_runI (As := []) (rest := [.ref x]) (cfix X) (c_X11_init l G cy _ _ x hat_x hzx) (cwI 0 X.2.2.2.1 gk_X11_init rfl rfl rfl (X.2.2.2.1 (.initialized RX11) (by decide +kernel)) (X.2.2.2.1 (.methodLink RL 20 yX11_init) (by decide +kernel)) (X.2.2.2.1 (.instanceMethod yX11_init) (by decide +kernel)) rfl (by decide +kernel) ⟨Nat.le_of_ble_eq_true rfl, Nat.le_of_ble_eq_true rfl⟩) (pre_S X hwX _) rfl rfl hl.1 rfl (lv_room (Nat.le_of_ble_eq_true rfl)) dL_law_4 ⟨Nat.le_of_ble_eq_true rfl, Nat.le_of_ble_eq_true rfl⟩) 101 3012 (Nat.le_of_ble_eq_true rfl) (Nat.le_of_ble_eq_true rfl) (fun SX H locs hp hwX hfr hnw => ?_)
  obtain ⟨hFX, -⟩ := hp
  refine lv_astore_n (lv' := [(1, .ref x), (0, .ref b)]) X.1 X.2.1 dL_law_7 rfl hl (by decide) rfl (fun ls hl => ?_)
  refine r_new2 X hwX 12 3078 102 tyX12 (by decide) rfl glx_12 tyX12_ok (X.2.2.2.1 (.classLink RL 21 RX12) (by decide +kernel)) (X.2.2.2.1 (.instantiable RX12 66) (by decide +kernel)) (X.2.2.2.1 (.initialized RX12) (by decide +kernel)) zo_12 zd_12 (Nat.le_of_ble_eq_true rfl) (Nat.le_of_ble_eq_true rfl) (Nat.le_of_ble_eq_true rfl) (Nat.le_of_ble_eq_true rfl) dL_law_8 (fun mo H hmo hwX hwM => ?_)
  have hat_mo := At_nO PS0 mo 12
  have hzm : ∀ g, pI (sO PS0 mo 12) g mo = 0 := fun g => pI_sO_new
  have hd0 : ∀ q ∈ pL SX, q ∉ pL (sO PS0 mo 12) := fun q hq h => by
    have h9 : q ∈ ([] ++ [mo] : List Nat) := h
    rw [List.nil_append, List.mem_singleton] at h9
    exact hmo (h9 ▸ hq)
  have hltX : ∀ q ∈ pL SX, q < H.size := fun q hq => hwX.lt hq
  refine lv_dup X.1 X.2.1 dL_law_11 rfl ?_
  refine k_v (rm := { frames := 2, cells := 70, slots := 190000, locals := 80 }) (av := [.ref mo]) X hwM (va_runI (As := []) (rest := [.ref mo]) (cfix X) (c_X12_init l G cy _ _ mo hat_mo hzm) (cwI 0 X.2.2.2.1 gk_X12_init rfl rfl rfl (X.2.2.2.1 (.initialized RX12) (by decide +kernel)) (X.2.2.2.1 (.methodLink RL 23 yX12_init) (by decide +kernel)) (X.2.2.2.1 (.instanceMethod yX12_init) (by decide +kernel)) rfl (by decide +kernel) ⟨Nat.le_of_ble_eq_true rfl, Nat.le_of_ble_eq_true rfl⟩) (pre_S X hwM _) rfl rfl hl.1 rfl (lv_room (Nat.le_of_ble_eq_true rfl)) dL_law_12 ⟨Nat.le_of_ble_eq_true rfl, Nat.le_of_ble_eq_true rfl⟩) 172 193078 (Nat.le_of_ble_eq_true rfl) (Nat.le_of_ble_eq_true rfl) (fun SM H locs hFM hwM hfr hnw => ?_)
  have hwX := Wd_keep hwX hfr hd0 hwM.2.2
  have hdX := dj_keep hd0 hnw hltX
  have hdM : ∀ q ∈ pL SM, q ∉ pL SX := fun q h1 h2 => hdX q h2 h1
  refine lv_astore_n (lv' := [(2, .ref mo), (1, .ref x), (0, .ref b)]) X.1 X.2.1 dL_law_15 rfl hl (by decide) rfl (fun ls hl => ?_)
  refine lv_iconst (v := 1) X.1 X.2.1 dL_law_16 (by decide) ?_
  refine r_newL X hwX hwM hdX 193079 173 (X.2.2.2.1 (.arrayClass .long) (by decide +kernel)) (Nat.le_of_ble_eq_true rfl) (Nat.le_of_ble_eq_true rfl) (Nat.le_of_ble_eq_true rfl) (Nat.le_of_ble_eq_true rfl) dL_law_17 (fun outq H hwX hwM => ?_)
  refine lv_astore_n (lv' := [(3, .ref outq), (2, .ref mo), (1, .ref x), (0, .ref b)]) X.1 X.2.1 dL_law_19 rfl hl (by decide) rfl (fun ls hl => ?_)
  refine lv_iconst (v := 0) X.1 X.2.1 dL_law_20 (by decide) ?_
  refine lv_istore (lv' := [(4, .int 0), (3, .ref outq), (2, .ref mo), (1, .ref x), (0, .ref b)]) X.1 X.2.1 dL_law_21 hl (by decide) rfl (fun ls hl => ?_)
  refine lv_iload X.1 X.2.1 dL_law_23 (lv_at hl 0 rfl) ?_
  refine lv_aload_n X.1 X.2.1 dL_law_25 rfl (lv_at hl 4 rfl) ?_
  refine va_slen X.1 X.2.1 hX hbl hbA hwX.2.2 dL_law_26 ?_
  refine lv_bipush (v := 6) X.1 X.2.1 dL_law_27 (by decide) ?_
  refine lv_isub X.1 X.2.1 dL_law_29 ?_
  refine lv_icmp_gt (tgt := 1567) X.1 X.2.1 dL_law_30 (by decide) (fun c_30 => ?_) (fun c_30 => ?_)
  · refine lv_iconst (v := 1) X.1 X.2.1 dL_law_1567 (by decide) ?_
    refine va_forget (fun q hq => hwM.2.2.2.2 q hq) ?_
    refine W.widen (k := 600002) (n := 7302232) (Nat.le_of_ble_eq_true rfl) (Nat.le_of_ble_eq_true rfl) ?_
    exact lw_ret X.1 X.2.1 hr hlocks dL_law_1568
  have hL6 : L = 6 := len6 hL c_30
  subst hL6
  refine lv_aload_n X.1 X.2.1 dL_law_33 rfl (lv_at hl 4 rfl) ?_
  refine lv_iload X.1 X.2.1 dL_law_34 (lv_at hl 0 rfl) ?_
  refine va_sld X.1 X.2.1 hX hbl hbA hwM.2.2 (vp_in_iff.mpr (by decide +kernel)) dL_law_36 ?_
  refine lv_bipush (v := 31) X.1 X.2.1 dL_law_37 (by decide) ?_
  refine lv_iand X.1 X.2.1 dL_law_39 ?_
  refine lv_topi (fun v_1 ev_1 => ?_)
  by_cases w_40 : (v_1).toInt < 0 ∨ 30 < (v_1).toInt
  · refine lv_tableOut (tgt := 1561) X.1 X.2.1 dL_law_40 w_40 (by decide) ?_
    exact lc_d hst X hr hlocks hX hbl hbA hZ sa_L_fineness sa_L_in hStr_L_fineness hStr_L_in hdc hwX hwM hdM hFX hFM hl
  have w2_40 : (v_1).toInt = 0 ∨ (v_1).toInt = 1 ∨ (v_1).toInt = 2 ∨ (v_1).toInt = 3 ∨ (v_1).toInt = 4 ∨ (v_1).toInt = 5 ∨ (v_1).toInt = 6 ∨ (v_1).toInt = 7 ∨ (v_1).toInt = 8 ∨ (v_1).toInt = 9 ∨ (v_1).toInt = 10 ∨ (v_1).toInt = 11 ∨ (v_1).toInt = 12 ∨ (v_1).toInt = 13 ∨ (v_1).toInt = 14 ∨ (v_1).toInt = 15 ∨ (v_1).toInt = 16 ∨ (v_1).toInt = 17 ∨ (v_1).toInt = 18 ∨ (v_1).toInt = 19 ∨ (v_1).toInt = 20 ∨ (v_1).toInt = 21 ∨ (v_1).toInt = 22 ∨ (v_1).toInt = 23 ∨ (v_1).toInt = 24 ∨ (v_1).toInt = 25 ∨ (v_1).toInt = 26 ∨ (v_1).toInt = 27 ∨ (v_1).toInt = 28 ∨ (v_1).toInt = 29 ∨ (v_1).toInt = 30 := by omega
  rcases w2_40 with w3_40 | w3_40 | w3_40 | w3_40 | w3_40 | w3_40 | w3_40 | w3_40 | w3_40 | w3_40 | w3_40 | w3_40 | w3_40 | w3_40 | w3_40 | w3_40 | w3_40 | w3_40 | w3_40 | w3_40 | w3_40 | w3_40 | w3_40 | w3_40 | w3_40 | w3_40 | w3_40 | w3_40 | w3_40 | w3_40 | w3_40
  · refine lv_tableIn (tgt := 180) X.1 X.2.1 dL_law_40 (by omega) (by omega) (by rw [w3_40]; rfl) (by decide) ?_
    exact lc_0 hst X hr hlocks hX hbl hbA hZ sa_L_fineness sa_L_in hStr_L_fineness hStr_L_in hdc hwX hwM hdM hFX hFM hl
  · refine lv_tableIn (tgt := 253) X.1 X.2.1 dL_law_40 (by omega) (by omega) (by rw [w3_40]; rfl) (by decide) ?_
    exact lc_1 hst X hr hlocks hX hbl hbA hZ sa_L_fineness sa_L_in hStr_L_fineness hStr_L_in hdc hwX hwM hdM hFX hFM hl
  · refine lv_tableIn (tgt := 302) X.1 X.2.1 dL_law_40 (by omega) (by omega) (by rw [w3_40]; rfl) (by decide) ?_
    exact lc_2 hst X hr hlocks hX hbl hbA hZ sa_L_fineness sa_L_in hStr_L_fineness hStr_L_in hdc hwX hwM hdM hFX hFM hl
  · refine lv_tableIn (tgt := 382) X.1 X.2.1 dL_law_40 (by omega) (by omega) (by rw [w3_40]; rfl) (by decide) ?_
    exact lc_3 hst X hr hlocks hX hbl hbA hZ sa_L_fineness sa_L_in hStr_L_fineness hStr_L_in hdc hwX hwM hdM hFX hFM hl
  · refine lv_tableIn (tgt := 431) X.1 X.2.1 dL_law_40 (by omega) (by omega) (by rw [w3_40]; rfl) (by decide) ?_
    exact lc_4 hst X hr hlocks hX hbl hbA hZ sa_L_fineness sa_L_in hStr_L_fineness hStr_L_in hdc hwX hwM hdM hFX hFM hl
  · refine lv_tableIn (tgt := 468) X.1 X.2.1 dL_law_40 (by omega) (by omega) (by rw [w3_40]; rfl) (by decide) ?_
    exact lc_5 hst X hr hlocks hX hbl hbA hZ sa_L_fineness sa_L_in hStr_L_fineness hStr_L_in hdc hwX hwM hdM hFX hFM hl
  · refine lv_tableIn (tgt := 505) X.1 X.2.1 dL_law_40 (by omega) (by omega) (by rw [w3_40]; rfl) (by decide) ?_
    exact lc_6 hst X hr hlocks hX hbl hbA hZ sa_L_fineness sa_L_in hStr_L_fineness hStr_L_in hdc hwX hwM hdM hFX hFM hl
  · refine lv_tableIn (tgt := 566) X.1 X.2.1 dL_law_40 (by omega) (by omega) (by rw [w3_40]; rfl) (by decide) ?_
    exact lc_7 hst X hr hlocks hX hbl hbA hZ sa_L_fineness sa_L_in hStr_L_fineness hStr_L_in hdc hwX hwM hdM hFX hFM hl
  · refine lv_tableIn (tgt := 639) X.1 X.2.1 dL_law_40 (by omega) (by omega) (by rw [w3_40]; rfl) (by decide) ?_
    exact lc_8 hst X hr hlocks hX hbl hbA hZ sa_L_fineness sa_L_in hStr_L_fineness hStr_L_in hdc hwX hwM hdM hFX hFM hl
  · refine lv_tableIn (tgt := 664) X.1 X.2.1 dL_law_40 (by omega) (by omega) (by rw [w3_40]; rfl) (by decide) ?_
    exact lc_9 hst X hr hlocks hX hbl hbA hZ sa_L_fineness sa_L_in hStr_L_fineness hStr_L_in hdc hwX hwM hdM hFX hFM hl
  · refine lv_tableIn (tgt := 689) X.1 X.2.1 dL_law_40 (by omega) (by omega) (by rw [w3_40]; rfl) (by decide) ?_
    exact lc_10 hst X hr hlocks hX hbl hbA hZ sa_L_fineness sa_L_in hStr_L_fineness hStr_L_in hdc hwX hwM hdM hFX hFM hl
  · refine lv_tableIn (tgt := 702) X.1 X.2.1 dL_law_40 (by omega) (by omega) (by rw [w3_40]; rfl) (by decide) ?_
    exact lc_11 hst X hr hlocks hX hbl hbA hZ sa_L_fineness sa_L_in hStr_L_fineness hStr_L_in hdc hwX hwM hdM hFX hFM hl
  · refine lv_tableIn (tgt := 739) X.1 X.2.1 dL_law_40 (by omega) (by omega) (by rw [w3_40]; rfl) (by decide) ?_
    exact lc_12 hst X hr hlocks hX hbl hbA hZ sa_L_fineness sa_L_in hStr_L_fineness hStr_L_in hdc hwX hwM hdM hFX hFM hl
  · refine lv_tableIn (tgt := 776) X.1 X.2.1 dL_law_40 (by omega) (by omega) (by rw [w3_40]; rfl) (by decide) ?_
    exact lc_13 hst X hr hlocks hX hbl hbA hZ sa_L_fineness sa_L_in hStr_L_fineness hStr_L_in hdc hwX hwM hdM hFX hFM hl
  · refine lv_tableIn (tgt := 856) X.1 X.2.1 dL_law_40 (by omega) (by omega) (by rw [w3_40]; rfl) (by decide) ?_
    exact lc_14 hst X hr hlocks hX hbl hbA hZ sa_L_fineness sa_L_in hStr_L_fineness hStr_L_in hdc hwX hwM hdM hFX hFM hl
  · refine lv_tableIn (tgt := 881) X.1 X.2.1 dL_law_40 (by omega) (by omega) (by rw [w3_40]; rfl) (by decide) ?_
    exact lc_15 hst X hr hlocks hX hbl hbA hZ sa_L_fineness sa_L_in hStr_L_fineness hStr_L_in hdc hwX hwM hdM hFX hFM hl
  · refine lv_tableIn (tgt := 918) X.1 X.2.1 dL_law_40 (by omega) (by omega) (by rw [w3_40]; rfl) (by decide) ?_
    exact lc_16 hst X hr hlocks hX hbl hbA hZ sa_L_fineness sa_L_in hStr_L_fineness hStr_L_in hdc hwX hwM hdM hFX hFM hl
  · refine lv_tableIn (tgt := 967) X.1 X.2.1 dL_law_40 (by omega) (by omega) (by rw [w3_40]; rfl) (by decide) ?_
    exact lc_17 hst X hr hlocks hX hbl hbA hZ sa_L_fineness sa_L_in hStr_L_fineness hStr_L_in hdc hwX hwM hdM hFX hFM hl
  · refine lv_tableIn (tgt := 1016) X.1 X.2.1 dL_law_40 (by omega) (by omega) (by rw [w3_40]; rfl) (by decide) ?_
    exact lc_18 hst X hr hlocks hX hbl hbA hZ sa_L_fineness sa_L_in hStr_L_fineness hStr_L_in hdc hwX hwM hdM hFX hFM hl
  · refine lv_tableIn (tgt := 1065) X.1 X.2.1 dL_law_40 (by omega) (by omega) (by rw [w3_40]; rfl) (by decide) ?_
    exact lc_19 hst X hr hlocks hX hbl hbA hZ sa_L_fineness sa_L_in hStr_L_fineness hStr_L_in hdc hwX hwM hdM hFX hFM hl
  · refine lv_tableIn (tgt := 1090) X.1 X.2.1 dL_law_40 (by omega) (by omega) (by rw [w3_40]; rfl) (by decide) ?_
    exact lc_20 hst X hr hlocks hX hbl hbA hZ sa_L_fineness sa_L_in hStr_L_fineness hStr_L_in hdc hwX hwM hdM hFX hFM hl
  · refine lv_tableIn (tgt := 1151) X.1 X.2.1 dL_law_40 (by omega) (by omega) (by rw [w3_40]; rfl) (by decide) ?_
    exact lc_21 hst X hr hlocks hX hbl hbA hZ sa_L_fineness sa_L_in hStr_L_fineness hStr_L_in hdc hwX hwM hdM hFX hFM hl
  · refine lv_tableIn (tgt := 1188) X.1 X.2.1 dL_law_40 (by omega) (by omega) (by rw [w3_40]; rfl) (by decide) ?_
    exact lc_22 hst X hr hlocks hX hbl hbA hZ sa_L_fineness sa_L_in hStr_L_fineness hStr_L_in hdc hwX hwM hdM hFX hFM hl
  · refine lv_tableIn (tgt := 1261) X.1 X.2.1 dL_law_40 (by omega) (by omega) (by rw [w3_40]; rfl) (by decide) ?_
    exact lc_23 hst X hr hlocks hX hbl hbA hZ sa_L_fineness sa_L_in hStr_L_fineness hStr_L_in hdc hwX hwM hdM hFX hFM hl
  · refine lv_tableIn (tgt := 1298) X.1 X.2.1 dL_law_40 (by omega) (by omega) (by rw [w3_40]; rfl) (by decide) ?_
    exact lc_24 hst X hr hlocks hX hbl hbA hZ sa_L_fineness sa_L_in hStr_L_fineness hStr_L_in hdc hwX hwM hdM hFX hFM hl
  · refine lv_tableIn (tgt := 1335) X.1 X.2.1 dL_law_40 (by omega) (by omega) (by rw [w3_40]; rfl) (by decide) ?_
    exact lc_25 hst X hr hlocks hX hbl hbA hZ sa_L_fineness sa_L_in hStr_L_fineness hStr_L_in hdc hwX hwM hdM hFX hFM hl
  · refine lv_tableIn (tgt := 1412) X.1 X.2.1 dL_law_40 (by omega) (by omega) (by rw [w3_40]; rfl) (by decide) ?_
    exact lc_26 hst X hr hlocks hX hbl hbA hZ sa_L_fineness sa_L_in hStr_L_fineness hStr_L_in hdc hwX hwM hdM hFX hFM hl
  · refine lv_tableIn (tgt := 1437) X.1 X.2.1 dL_law_40 (by omega) (by omega) (by rw [w3_40]; rfl) (by decide) ?_
    exact lc_27 hst X hr hlocks hX hbl hbA hZ sa_L_fineness sa_L_in hStr_L_fineness hStr_L_in hdc hwX hwM hdM hFX hFM hl
  · refine lv_tableIn (tgt := 1450) X.1 X.2.1 dL_law_40 (by omega) (by omega) (by rw [w3_40]; rfl) (by decide) ?_
    exact lc_28 hst X hr hlocks hX hbl hbA hZ sa_L_fineness sa_L_in hStr_L_fineness hStr_L_in hdc hwX hwM hdM hFX hFM hl
  · refine lv_tableIn (tgt := 1487) X.1 X.2.1 dL_law_40 (by omega) (by omega) (by rw [w3_40]; rfl) (by decide) ?_
    exact lc_29 hst X hr hlocks hX hbl hbA hZ sa_L_fineness sa_L_in hStr_L_fineness hStr_L_in hdc hwX hwM hdM hFX hFM hl
  · refine lv_tableIn (tgt := 1536) X.1 X.2.1 dL_law_40 (by omega) (by omega) (by rw [w3_40]; rfl) (by decide) ?_
    exact lc_30 hst X hr hlocks hX hbl hbA hZ sa_L_fineness sa_L_in hStr_L_fineness hStr_L_in hdc hwX hwM hdM hFX hFM hl
