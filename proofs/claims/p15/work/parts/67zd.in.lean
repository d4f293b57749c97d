/-! ===== what stands in a pot ===== -/
def inL (A : Pt) (k : Int) : List Nat := if k = 0 then qb A else if k = 1 then qe A else ql A
theorem inL_0 {A : Pt} : inL A 0 = qb A := if_pos rfl
theorem inL_1 {A : Pt} : inL A 1 = qe A := by unfold inL; rw [if_neg (by decide), if_pos rfl]
theorem inL_2 {A : Pt} : inL A 2 = ql A := by unfold inL; rw [if_neg (by decide), if_neg (by decide)]
def InX (S : PS) (x : Nat) (A : Pt) (p k i : Int) : Prop := (0 ≤ p ∧ p < (pI S 1104 x).toInt) ∧ (0 ≤ k ∧ k ≤ 2) ∧ 0 ≤ i ∧ i < ((inL A k).length : Int)
def InV (S : PS) (A : Pt) (k i : Int) (r : Int32) : Prop := ∃ c, (inL A k)[i.toNat]? = some c ∧ r = pI S 0 c * 100 + pI S 1 c
theorem in_row {S : PS} {D : Nat → Prop} {P R0 R1 R2 G K q : Nat} {A : Pt} {k : Int} (hR : PotR S P R0 R1 R2 G) (hV : PotV S D P R0 R1 R2 G K A) (h0 : 0 ≤ k) (h2 : k ≤ 2) (e0 : k = 0 → pR S 400 P = some q) (e1 : k = 1 → pR S 401 P = some q) (e2 : k = 2 → pR S 402 P = some q) : ∃ n, RowIs S q (inL A k) n := by
  rcases (show k = 0 ∨ k = 1 ∨ k = 2 by omega) with z | z | z <;> subst z
  · have h := e0 rfl
    rw [hR.1] at h
    cases h
    rw [inL_0]
    exact ⟨600, hV.1⟩
  · have h := e1 rfl
    rw [hR.2.1] at h
    cases h
    rw [inL_1]
    exact ⟨12, hV.2.1⟩
  · have h := e2 rfl
    rw [hR.2.2.1] at h
    cases h
    rw [inL_2]
    exact ⟨600, hV.2.2.1⟩
def InZ (S : PS) (x : Nat) (p k i : Int) : Prop := 0 ≤ p ∧ p < (pI S 1211 x).toInt ∧ 0 ≤ k ∧ k ≤ 2 ∧ 0 ≤ i ∧ i < zA S x 1219 (3 * p + k).toNat
noncomputable def inZ (S : PS) (x : Nat) (p k i : Int) : Int := zA S x 1218 (600 * (3 * p + k) + i).toNat / 60 * 100 + zA S x 1218 (600 * (3 * p + k) + i).toNat % 60

set_option maxHeartbeats 4000000 in
set_option maxRecDepth 100000 in
theorem k_X4_rowNumbered6 (l : Launch) (G : va_G) (cy : Nat → ClassId) (κ : Nat → Nat) (S : PS) (sz : Nat) (x : Nat) (a1 : Int32) (a1_z : Int) (hG : GX S) (ha_x : At S x 4) (hz_a1 : a1.toInt = a1_z) : Cq l yX4_rowNumbered wsX4_rowNumbered ({ frames := 1, cells := 0, slots := 0, locals := 48 }) G cy κ S sz [.ref x, .int (a1)] (fun (r : Option Nat) (S9 : PS) => S = S9 ∧ ((∀ q, r = some q → At S9 q 5 ∧ 0 ≤ a1_z ∧ a1_z ≤ 2 ∧ (a1_z = 0 → pR S 400 x = some q) ∧ (a1_z = 1 → pR S 401 x = some q) ∧ (a1_z = 2 → pR S 402 x = some q)) ∧ (r = none → ¬ (0 ≤ a1_z ∧ a1_z ≤ 2)))) := by
  refine ent_m (cc := cX4_rowNumbered) (maxL := 2) (ret := (some (.object "SilkMill$Row"))) (by decide) rfl (Nat.le_of_ble_eq_true rfl) ?_
  intro p e s m below meth c ls X hr hlocks hin hw hl hsz
  subst hsz
  have X : Cx p c cX4_rowNumbered 2 s [.ref x, .int (a1)].toArray wsX4_rowNumbered RX4 m G cy κ (AS S s.heap.size) := X
  have hl : lv_has ls 2 [(0, .ref x), (1, .int (a1))] := hl
  have rg_a1 : (-2147483648) ≤ a1_z ∧ a1_z ≤ 2147483647 := by rw [← hz_a1]; exact ⟨z_lo _, z_hi _⟩
  refine lv_iload_n X.1 X.2.1 dX4_rowNumbered_0 rfl (lv_at hl 1 rfl) ?_
  by_cases w_1 : (a1).toInt < 0 ∨ 2 < (a1).toInt
  · refine lv_tableOut (tgt := 43) X.1 X.2.1 dX4_rowNumbered_1 w_1 (by decide) ?_
    refine lv_null X.1 X.2.1 dX4_rowNumbered_43 ?_
    exact ret_q none rfl X hw hr hlocks (Nat.le_of_ble_eq_true rfl) (Nat.le_of_ble_eq_true rfl) ⟨rfl, ⟨fun q h => (by cases h), fun _ h => by omega⟩⟩ dX4_rowNumbered_44
  have w_1b : (a1).toInt = 0 ∨ (a1).toInt = 1 ∨ (a1).toInt = 2 := by omega
  rcases w_1b with w_1c | w_1c | w_1c
  · refine lv_tableIn (tgt := 28) X.1 X.2.1 dX4_rowNumbered_1 (by omega) (by omega) (by rw [w_1c]; rfl) (by decide) ?_
    refine lv_aload_n X.1 X.2.1 dX4_rowNumbered_28 rfl (lv_at hl 0 rfl) ?_
    obtain ⟨q_2, h_3, h_4⟩ := gQ_4_400 hG ha_x
    refine r_getR (g := 400) X hw ha_x rfl 0 h_3 (by decide) rfl inn_X4_rowNumbered_4 (by decide) (X.2.2.2.1 (.fieldLink RX4 14 "SilkMill$Pot" "basket" "LSilkMill$Row;") (by decide +kernel)) rfl (gv_400 _ _) dX4_rowNumbered_29 ?_
    exact ret_q (some q_2) rfl X hw hr hlocks (Nat.le_of_ble_eq_true rfl) (Nat.le_of_ble_eq_true rfl) ⟨rfl, ⟨fun q h => (by cases h; exact ⟨h_4, by omega, by omega, fun _ => h_3, fun e => absurd e (by omega), fun e => absurd e (by omega)⟩), fun h => (by cases h)⟩⟩ dX4_rowNumbered_32
  · refine lv_tableIn (tgt := 33) X.1 X.2.1 dX4_rowNumbered_1 (by omega) (by omega) (by rw [w_1c]; rfl) (by decide) ?_
    refine lv_aload_n X.1 X.2.1 dX4_rowNumbered_33 rfl (lv_at hl 0 rfl) ?_
    obtain ⟨q_6, h_7, h_8⟩ := gQ_4_401 hG ha_x
    refine r_getR (g := 401) X hw ha_x rfl 1 h_7 (by decide) rfl inn_X4_rowNumbered_4 (by decide) (X.2.2.2.1 (.fieldLink RX4 20 "SilkMill$Pot" "ends" "LSilkMill$Row;") (by decide +kernel)) rfl (gv_401 _ _) dX4_rowNumbered_34 ?_
    exact ret_q (some q_6) rfl X hw hr hlocks (Nat.le_of_ble_eq_true rfl) (Nat.le_of_ble_eq_true rfl) ⟨rfl, ⟨fun q h => (by cases h; exact ⟨h_8, by omega, by omega, fun e => absurd e (by omega), fun _ => h_7, fun e => absurd e (by omega)⟩), fun h => (by cases h)⟩⟩ dX4_rowNumbered_37
  · refine lv_tableIn (tgt := 38) X.1 X.2.1 dX4_rowNumbered_1 (by omega) (by omega) (by rw [w_1c]; rfl) (by decide) ?_
    refine lv_aload_n X.1 X.2.1 dX4_rowNumbered_38 rfl (lv_at hl 0 rfl) ?_
    obtain ⟨q_10, h_11, h_12⟩ := gQ_4_402 hG ha_x
    refine r_getR (g := 402) X hw ha_x rfl 2 h_11 (by decide) rfl inn_X4_rowNumbered_4 (by decide) (X.2.2.2.1 (.fieldLink RX4 23 "SilkMill$Pot" "lost" "LSilkMill$Row;") (by decide +kernel)) rfl (gv_402 _ _) dX4_rowNumbered_39 ?_
    exact ret_q (some q_10) rfl X hw hr hlocks (Nat.le_of_ble_eq_true rfl) (Nat.le_of_ble_eq_true rfl) ⟨rfl, ⟨fun q h => (by cases h; exact ⟨h_12, by omega, by omega, fun e => absurd e (by omega), fun e => absurd e (by omega), fun _ => h_11⟩), fun h => (by cases h)⟩⟩ dX4_rowNumbered_42
set_option maxHeartbeats 4000000 in
set_option maxRecDepth 100000 in
theorem k_X11_in6 (l : Launch) (hst : l.stackTraces = false) (G : va_G) (cy : Nat → ClassId) (κ : Nat → Nat) (S : PS) (sz : Nat) (x : Nat) (a1 : Int32) (a1_z : Int) (a2 : Int32) (a2_z : Int) (a3 : Int32) (a3_z : Int) (D : Nat → Prop) (R0 : Nat) (R1 : Nat) (R2 : Nat) (Gs : Nat) (Ks : Nat) (A : Pt) (Ev : En) (Rl : List Ru) (hG : GX S) (ha_x : At S x 11) (hz_a1 : a1.toInt = a1_z) (hz_a2 : a2.toInt = a2_z) (hz_a3 : a3.toInt = a3_z) (hp_0 : (∀ c, D c → At S c 0)) (hp_1 : (∀ P, 0 ≤ a1_z → a1_z < (pI S 1104 x).toInt → mB S x 1103 a1_z.toNat = some P → PotA S D P R0 R1 R2 Gs Ks A Ev Rl)) (hp_2 : pR S 1107 x = some Ks) : vx_Met l yX11_in wiX11_in ({ frames := 12, cells := 1, slots := 6, locals := 576 }) (va_Pc [.ref x, .int (a1), .int (a2), .int (a3)] (Qe G cy κ S sz)) (va_Qi (fun (r : Int32) (S9 : PS) => S = S9 ∧ (InX S x A a1_z a2_z a3_z ∧ InV S A a2_z a3_z r)) (Bw G cy S sz) (AS S sz)) (vx_X (fun S9 : PS => S = S9 ∧ (PN S x → ¬ InX S x A a1_z a2_z a3_z)) (fun E S9 t => E = "java/util/NoSuchElementException" ∧ Bw G cy S sz S9 t) (AS S sz)) 1 6 (AS S sz) := by
  refine ent_e (cc := cX11_in) (maxL := 7) (ret := (some .int)) (by decide) rfl (Nat.le_of_ble_eq_true rfl) ?_
  intro p e s m below meth c ls X hr hlocks hw hl hsz hdc hnt hml
  subst hsz
  have X : Cx p c cX11_in 7 s [.ref x, .int (a1), .int (a2), .int (a3)].toArray wiX11_in RX11 m G cy κ (AS S s.heap.size) := X
  have hl : lv_has ls 7 [(0, .ref x), (1, .int (a1)), (2, .int (a2)), (3, .int (a3))] := hl
  have rg_a1 : (-2147483648) ≤ a1_z ∧ a1_z ≤ 2147483647 := by rw [← hz_a1]; exact ⟨z_lo _, z_hi _⟩
  have rg_a2 : (-2147483648) ≤ a2_z ∧ a2_z ≤ 2147483647 := by rw [← hz_a2]; exact ⟨z_lo _, z_hi _⟩
  have rg_a3 : (-2147483648) ≤ a3_z ∧ a3_z ≤ 2147483647 := by rw [← hz_a3]; exact ⟨z_lo _, z_hi _⟩
  obtain ⟨v_1, ev_1⟩ : ∃ v, pI S 1104 x = v := ⟨_, rfl⟩
  have rg_2 := gI_11_1104 hG ha_x; rw [ev_1] at rg_2
  have pz_3 : (pI S 1104 x).toInt = v_1.toInt := by rw [ev_1]
  have pz_4 : (pI S 1104 x).toInt = v_1.toInt := (congrArg Int32.toInt ev_1).trans rfl
  have haKs : At S Ks 8 := by obtain ⟨c, k1, k2⟩ := gQ_11_1107 hG ha_x; have h3 := hp_2; rw [k1] at h3; cases h3; exact k2
  refine lv_aload_n X.1 X.2.1 dX11_in_0 rfl (lv_at hl 0 rfl) ?_
  refine lv_iload_n X.1 X.2.1 dX11_in_1 rfl (lv_at hl 1 rfl) ?_
  refine k_q (rm := { frames := 1, cells := 0, slots := 0, locals := 48 }) (av := [.ref x, .int (a1)]) X hw (va_runV (As := [.int (a1)]) (rest := []) (cfix X) (k_X11_potAt3 l G cy κ S _ x (a1) (a1_z) hG ha_x hz_a1) (cwV 1 X.2.2.2.1 gX11_in_X11_potAt rfl rfl rfl (by decide +kernel) ⟨Nat.le_of_ble_eq_true rfl, Nat.le_of_ble_eq_true rfl⟩) (pre_V X hw _ ha_x rfl (by decide) rfl) rfl rfl hl.1 rfl (lv_room (Nat.le_of_ble_eq_true rfl)) dX11_in_2 ⟨Nat.le_of_ble_eq_true rfl, Nat.le_of_ble_eq_true rfl⟩) 0 0 (Nat.le_of_ble_eq_true rfl) (Nat.le_of_ble_eq_true rfl) (fun rr_5 S_6 H locs hp hw hfr hnw => ?_)
  obtain ⟨e2, hp⟩ := hp
  subst e2
  obtain ⟨hq_7, hnf_8⟩ := hp
  rcases rr_5 with _ | q_9
  · refine W.eq (g2 := F0 m 5 ls (.null :: [])) rfl ?_
    have nf_10 := hnf_8 rfl
    refine lv_astoreN (lv' := [(4, .null), (0, .ref x), (1, .int (a1)), (2, .int (a2)), (3, .int (a3))]) X.1 X.2.1 dX11_in_5 hl (by decide) rfl (fun ls hl => ?_)
    refine lv_aloadN X.1 X.2.1 dX11_in_7 (lv_at hl 0 rfl) ?_
    refine lv_ifnonnullN X.1 X.2.1 dX11_in_9 ?_
    refine lv_null X.1 X.2.1 dX11_in_12 ?_
    refine lv_goto (tgt := 22) X.1 X.2.1 dX11_in_13 (by decide) ?_
    refine lv_astoreN (lv' := [(5, .null), (4, .null), (0, .ref x), (1, .int (a1)), (2, .int (a2)), (3, .int (a3))]) X.1 X.2.1 dX11_in_22 hl (by decide) rfl (fun ls hl => ?_)
    refine lv_aloadN X.1 X.2.1 dX11_in_24 (lv_at hl 0 rfl) ?_
    refine lv_ifnonnullN X.1 X.2.1 dX11_in_26 ?_
    refine lv_null X.1 X.2.1 dX11_in_29 ?_
    refine lv_goto (tgt := 39) X.1 X.2.1 dX11_in_30 (by decide) ?_
    refine lv_astoreN (lv' := [(6, .null), (5, .null), (4, .null), (0, .ref x), (1, .int (a1)), (2, .int (a2)), (3, .int (a3))]) X.1 X.2.1 dX11_in_39 hl (by decide) rfl (fun ls hl => ?_)
    refine lv_aloadN X.1 X.2.1 dX11_in_41 (lv_at hl 0 rfl) ?_
    refine lv_ifnonnullN X.1 X.2.1 dX11_in_43 ?_
    refine ox_throwS (ix := 13) (rx := prog_26_method_4_code) (names := ["java/lang/RuntimeException", "java/lang/Exception"]) X.1 X.2.1 hst (by decide +kernel) (by decide +kernel) (by decide +kernel) (by decide +kernel) X.2.2.2.2.1 (by decide +kernel) (by decide +kernel) (X.2.2.2.1 (.classLink RX11 219 "java/util/NoSuchElementException") (by decide +kernel)) (X.2.2.2.1 (.initialized "java/util/NoSuchElementException") (by decide +kernel)) (show vk_R RX11 221 "there is no such cocoon in a pot" (κ (100 + 1)) s from (X.2.2.2.2.2.2.2.2.2.2.2.2.2.2 1 (by decide)).1) (vx_hat (B := [.castable "java/util/NoSuchElementException" "java/util/NoSuchElementException", .declares (Bundle.initS "java/lang/RuntimeException"), .declares (Bundle.initS "java/lang/Exception"), .declares (Bundle.initS Bundle.tN)]) (fun w h => X.2.2.2.1 w (List.mem_cons_of_mem _ (List.mem_append_right _ h))) (by decide +kernel) (vx_c (va_Nw.use rfl X.2.2.2.2.2.2.2.1.2.2.2.1) (vx_c (va_Nw.use rfl (hdc _ (List.mem_of_getElem? (i := 0) rfl))) (vx_c (va_Nw.use rfl (hdc _ (List.mem_of_getElem? (i := 1) rfl))) (vx_c (va_Nw.use rfl (hdc _ (List.mem_of_getElem? (i := 2) rfl))) vx_n))))) (by decide +kernel) X.2.2.2.2.2.2.2.2.2.2.1 X.2.2.2.2.2.2.2.2.2.2.2.1 hw.2.2 (hl.1.trans hml.symm) dX11_in_46 dX11_in_49 dX11_in_50 dX11_in_52 dX11_in_55 (fun x hx => (hnt x hx).elim) (by decide) (Nat.le_of_ble_eq_true rfl) (Nat.le_of_ble_eq_true rfl) (Nat.le_of_ble_eq_true rfl) hlocks ?_ hw.2.2.2.2 (Nat.le_of_ble_eq_true rfl) (Nat.le_of_ble_eq_true rfl)
    intro t hvm hsz hq
    exact ⟨S, ⟨rfl, fun hPN h => nf_10 hPN h.1⟩, ⟨rfl, hw.1.kept (fun k q hk => hq q.1 (hw.lt (pl_mem hk))), hw.2.1⟩, ⟨Nat.le_trans hw.2.2.1 hsz, fun q h1 h2 => (hq q (Nat.lt_of_lt_of_le h1 hw.2.2.1)).trans (hw.2.2.2.1 q h1 h2)⟩⟩
  · refine W.eq (g2 := F0 m 5 ls (.ref q_9 :: [])) rfl ?_
    obtain ⟨ha_11, f_12, f_13, f_14⟩ := hq_7 _ rfl
    have pa_15 := hp_1 _ f_12 f_13 f_14
    obtain ⟨pa_16, pa_17, pa_18, pa_19⟩ := pa_15
    have haR0 := row_at hG ha_11 (Or.inl pa_16.1)
    have haR1 := row_at hG ha_11 (Or.inr (Or.inl pa_16.2.1))
    have haR2 := row_at hG ha_11 (Or.inr (Or.inr pa_16.2.2.1))
    refine lv_astore (lv' := [(4, .ref q_9), (0, .ref x), (1, .int (a1)), (2, .int (a2)), (3, .int (a3))]) X.1 X.2.1 dX11_in_5 hl (by decide) rfl (fun ls hl => ?_)
    refine lv_aload X.1 X.2.1 dX11_in_7 (lv_at hl 0 rfl) ?_
    refine lv_ifnonnull (tgt := 16) X.1 X.2.1 dX11_in_9 (by decide) ?_
    refine lv_aload X.1 X.2.1 dX11_in_16 (lv_at hl 0 rfl) ?_
    refine lv_iload_n X.1 X.2.1 dX11_in_18 rfl (lv_at hl 3 rfl) ?_
    refine k_q (rm := { frames := 1, cells := 0, slots := 0, locals := 48 }) (av := [.ref q_9, .int (a2)]) X hw (va_runV (As := [.int (a2)]) (rest := []) (cfix X) (k_X4_rowNumbered6 l G cy κ S _ q_9 (a2) (a2_z) hG ha_11 hz_a2) (cwV 1 X.2.2.2.1 gX11_in_X4_rowNumbered rfl rfl rfl (by decide +kernel) ⟨Nat.le_of_ble_eq_true rfl, Nat.le_of_ble_eq_true rfl⟩) (pre_V X hw _ ha_11 rfl (by decide) rfl) rfl rfl hl.1 rfl (lv_room (Nat.le_of_ble_eq_true rfl)) dX11_in_19 ⟨Nat.le_of_ble_eq_true rfl, Nat.le_of_ble_eq_true rfl⟩) 0 0 (Nat.le_of_ble_eq_true rfl) (Nat.le_of_ble_eq_true rfl) (fun rr_21 S_22 H locs hp hw hfr hnw => ?_)
    obtain ⟨e2, hp⟩ := hp
    subst e2
    obtain ⟨hq_23, hnf_24⟩ := hp
    rcases rr_21 with _ | q_25
    · refine W.eq (g2 := F0 m 22 ls (.null :: [])) rfl ?_
      have nf_26 := hnf_24 rfl
      refine lv_astoreN (lv' := [(5, .null), (4, .ref q_9), (0, .ref x), (1, .int (a1)), (2, .int (a2)), (3, .int (a3))]) X.1 X.2.1 dX11_in_22 hl (by decide) rfl (fun ls hl => ?_)
      refine lv_aloadN X.1 X.2.1 dX11_in_24 (lv_at hl 0 rfl) ?_
      refine lv_ifnonnullN X.1 X.2.1 dX11_in_26 ?_
      refine lv_null X.1 X.2.1 dX11_in_29 ?_
      refine lv_goto (tgt := 39) X.1 X.2.1 dX11_in_30 (by decide) ?_
      refine lv_astoreN (lv' := [(6, .null), (5, .null), (4, .ref q_9), (0, .ref x), (1, .int (a1)), (2, .int (a2)), (3, .int (a3))]) X.1 X.2.1 dX11_in_39 hl (by decide) rfl (fun ls hl => ?_)
      refine lv_aloadN X.1 X.2.1 dX11_in_41 (lv_at hl 0 rfl) ?_
      refine lv_ifnonnullN X.1 X.2.1 dX11_in_43 ?_
      refine ox_throwS (ix := 13) (rx := prog_26_method_4_code) (names := ["java/lang/RuntimeException", "java/lang/Exception"]) X.1 X.2.1 hst (by decide +kernel) (by decide +kernel) (by decide +kernel) (by decide +kernel) X.2.2.2.2.1 (by decide +kernel) (by decide +kernel) (X.2.2.2.1 (.classLink RX11 219 "java/util/NoSuchElementException") (by decide +kernel)) (X.2.2.2.1 (.initialized "java/util/NoSuchElementException") (by decide +kernel)) (show vk_R RX11 221 "there is no such cocoon in a pot" (κ (100 + 1)) s from (X.2.2.2.2.2.2.2.2.2.2.2.2.2.2 1 (by decide)).1) (vx_hat (B := [.castable "java/util/NoSuchElementException" "java/util/NoSuchElementException", .declares (Bundle.initS "java/lang/RuntimeException"), .declares (Bundle.initS "java/lang/Exception"), .declares (Bundle.initS Bundle.tN)]) (fun w h => X.2.2.2.1 w (List.mem_cons_of_mem _ (List.mem_append_right _ h))) (by decide +kernel) (vx_c (va_Nw.use rfl X.2.2.2.2.2.2.2.1.2.2.2.1) (vx_c (va_Nw.use rfl (hdc _ (List.mem_of_getElem? (i := 0) rfl))) (vx_c (va_Nw.use rfl (hdc _ (List.mem_of_getElem? (i := 1) rfl))) (vx_c (va_Nw.use rfl (hdc _ (List.mem_of_getElem? (i := 2) rfl))) vx_n))))) (by decide +kernel) X.2.2.2.2.2.2.2.2.2.2.1 X.2.2.2.2.2.2.2.2.2.2.2.1 hw.2.2 (hl.1.trans hml.symm) dX11_in_46 dX11_in_49 dX11_in_50 dX11_in_52 dX11_in_55 (fun x hx => (hnt x hx).elim) (by decide) (Nat.le_of_ble_eq_true rfl) (Nat.le_of_ble_eq_true rfl) (Nat.le_of_ble_eq_true rfl) hlocks ?_ hw.2.2.2.2 (Nat.le_of_ble_eq_true rfl) (Nat.le_of_ble_eq_true rfl)
      intro t hvm hsz hq
      exact ⟨S, ⟨rfl, fun _ h => nf_26 h.2.1⟩, ⟨rfl, hw.1.kept (fun k q hk => hq q.1 (hw.lt (pl_mem hk))), hw.2.1⟩, ⟨Nat.le_trans hw.2.2.1 hsz, fun q h1 h2 => (hq q (Nat.lt_of_lt_of_le h1 hw.2.2.1)).trans (hw.2.2.2.1 q h1 h2)⟩⟩
    · refine W.eq (g2 := F0 m 22 ls (.ref q_25 :: [])) rfl ?_
      obtain ⟨ha_27, f_28, f_29, f_30, f_31, f_32⟩ := hq_23 _ rfl
      obtain ⟨rn_33, rl_34⟩ := in_row pa_16 pa_17 f_28 f_29 f_30 f_31 f_32
      refine lv_astore (lv' := [(5, .ref q_25), (4, .ref q_9), (0, .ref x), (1, .int (a1)), (2, .int (a2)), (3, .int (a3))]) X.1 X.2.1 dX11_in_22 hl (by decide) rfl (fun ls hl => ?_)
      refine lv_aload X.1 X.2.1 dX11_in_24 (lv_at hl 0 rfl) ?_
      refine lv_ifnonnull (tgt := 33) X.1 X.2.1 dX11_in_26 (by decide) ?_
      refine lv_aload X.1 X.2.1 dX11_in_33 (lv_at hl 0 rfl) ?_
      refine lv_iload_n X.1 X.2.1 dX11_in_35 rfl (lv_at hl 5 rfl) ?_
      refine k_q (rm := { frames := 2, cells := 0, slots := 0, locals := 96 }) (av := [.ref q_25, .int (a3)]) X hw (va_runV (As := [.int (a3)]) (rest := []) (cfix X) (k_X5_at5 l G cy κ S _ q_25 (a3) (a3_z) (inL A a2_z) rn_33 hG ha_27 hz_a3 rl_34) (cwV 1 X.2.2.2.1 gX11_in_X5_at rfl rfl rfl (by decide +kernel) ⟨Nat.le_of_ble_eq_true rfl, Nat.le_of_ble_eq_true rfl⟩) (pre_V X hw _ ha_27 rfl (by decide) rfl) rfl rfl hl.1 rfl (lv_room (Nat.le_of_ble_eq_true rfl)) dX11_in_36 ⟨Nat.le_of_ble_eq_true rfl, Nat.le_of_ble_eq_true rfl⟩) 0 0 (Nat.le_of_ble_eq_true rfl) (Nat.le_of_ble_eq_true rfl) (fun rr_35 S_36 H locs hp hw hfr hnw => ?_)
      obtain ⟨e2, hp⟩ := hp
      subst e2
      obtain ⟨hq_37, hnf_38⟩ := hp
      rcases rr_35 with _ | q_39
      · refine W.eq (g2 := F0 m 39 ls (.null :: [])) rfl ?_
        have nf_40 := hnf_38 rfl
        refine lv_astoreN (lv' := [(6, .null), (5, .ref q_25), (4, .ref q_9), (0, .ref x), (1, .int (a1)), (2, .int (a2)), (3, .int (a3))]) X.1 X.2.1 dX11_in_39 hl (by decide) rfl (fun ls hl => ?_)
        refine lv_aloadN X.1 X.2.1 dX11_in_41 (lv_at hl 0 rfl) ?_
        refine lv_ifnonnullN X.1 X.2.1 dX11_in_43 ?_
        refine ox_throwS (ix := 13) (rx := prog_26_method_4_code) (names := ["java/lang/RuntimeException", "java/lang/Exception"]) X.1 X.2.1 hst (by decide +kernel) (by decide +kernel) (by decide +kernel) (by decide +kernel) X.2.2.2.2.1 (by decide +kernel) (by decide +kernel) (X.2.2.2.1 (.classLink RX11 219 "java/util/NoSuchElementException") (by decide +kernel)) (X.2.2.2.1 (.initialized "java/util/NoSuchElementException") (by decide +kernel)) (show vk_R RX11 221 "there is no such cocoon in a pot" (κ (100 + 1)) s from (X.2.2.2.2.2.2.2.2.2.2.2.2.2.2 1 (by decide)).1) (vx_hat (B := [.castable "java/util/NoSuchElementException" "java/util/NoSuchElementException", .declares (Bundle.initS "java/lang/RuntimeException"), .declares (Bundle.initS "java/lang/Exception"), .declares (Bundle.initS Bundle.tN)]) (fun w h => X.2.2.2.1 w (List.mem_cons_of_mem _ (List.mem_append_right _ h))) (by decide +kernel) (vx_c (va_Nw.use rfl X.2.2.2.2.2.2.2.1.2.2.2.1) (vx_c (va_Nw.use rfl (hdc _ (List.mem_of_getElem? (i := 0) rfl))) (vx_c (va_Nw.use rfl (hdc _ (List.mem_of_getElem? (i := 1) rfl))) (vx_c (va_Nw.use rfl (hdc _ (List.mem_of_getElem? (i := 2) rfl))) vx_n))))) (by decide +kernel) X.2.2.2.2.2.2.2.2.2.2.1 X.2.2.2.2.2.2.2.2.2.2.2.1 hw.2.2 (hl.1.trans hml.symm) dX11_in_46 dX11_in_49 dX11_in_50 dX11_in_52 dX11_in_55 (fun x hx => (hnt x hx).elim) (by decide) (Nat.le_of_ble_eq_true rfl) (Nat.le_of_ble_eq_true rfl) (Nat.le_of_ble_eq_true rfl) hlocks ?_ hw.2.2.2.2 (Nat.le_of_ble_eq_true rfl) (Nat.le_of_ble_eq_true rfl)
        intro t hvm hsz hq
        exact ⟨S, ⟨rfl, fun _ h => nf_40 h.2.2⟩, ⟨rfl, hw.1.kept (fun k q hk => hq q.1 (hw.lt (pl_mem hk))), hw.2.1⟩, ⟨Nat.le_trans hw.2.2.1 hsz, fun q h1 h2 => (hq q (Nat.lt_of_lt_of_le h1 hw.2.2.1)).trans (hw.2.2.2.1 q h1 h2)⟩⟩
      · refine W.eq (g2 := F0 m 39 ls (.ref q_39 :: [])) rfl ?_
        obtain ⟨ha_41, f_42, f_43, f_44⟩ := hq_37 _ rfl
        refine lv_astore (lv' := [(6, .ref q_39), (5, .ref q_25), (4, .ref q_9), (0, .ref x), (1, .int (a1)), (2, .int (a2)), (3, .int (a3))]) X.1 X.2.1 dX11_in_39 hl (by decide) rfl (fun ls hl => ?_)
        refine lv_aload X.1 X.2.1 dX11_in_41 (lv_at hl 0 rfl) ?_
        refine lv_ifnonnull (tgt := 56) X.1 X.2.1 dX11_in_43 (by decide) ?_
        refine lv_aload X.1 X.2.1 dX11_in_56 (lv_at hl 0 rfl) ?_
        refine k_i (rm := { frames := 1, cells := 0, slots := 0, locals := 48 }) (av := [.ref q_39]) X hw (va_runV (As := []) (rest := []) (cfix X) (k_X0_code3 l G cy κ S _ q_39 hG ha_41) (cwV 0 X.2.2.2.1 gX11_in_X0_code rfl rfl rfl (by decide +kernel) ⟨Nat.le_of_ble_eq_true rfl, Nat.le_of_ble_eq_true rfl⟩) (pre_V X hw _ ha_41 rfl (by decide) rfl) rfl rfl hl.1 rfl (lv_room (Nat.le_of_ble_eq_true rfl)) dX11_in_58 ⟨Nat.le_of_ble_eq_true rfl, Nat.le_of_ble_eq_true rfl⟩) 0 0 (Nat.le_of_ble_eq_true rfl) (Nat.le_of_ble_eq_true rfl) (fun rr_45 S_46 H locs hp hw hfr hnw => ?_)
        obtain ⟨e2, hp⟩ := hp
        subst e2
        obtain ⟨cd_47, cd_48, cd_49⟩ := hp
        exact vx_ret (ret_i X hw hr hlocks (Nat.le_of_ble_eq_true rfl) (Nat.le_of_ble_eq_true rfl) ⟨rfl, ⟨⟨⟨f_12, f_13⟩, ⟨f_28, f_29⟩, f_42, f_43⟩, _, f_44, cd_49⟩⟩ dX11_in_61)
