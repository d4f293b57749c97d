theorem prt_rng {a : Int32} : 0 ≤ (prt a 41).toInt ∧ (prt a 41).toInt ≤ 40 := by
  have h1 := z_ushr16 (x := a) rfl
  have h2 : (prt a 41).toInt = _ % 41 := z_rem (x := (a.toUInt32 >>> ((16 : Int32).toUInt32 &&& Int32.toUInt32 31)).toInt32) (y := 41) rfl rfl (by decide) h1.1 (by decide)
  omega
theorem lenI_le {sd lg i : Int32} (h0 : 0 ≤ lg.toInt) (h1 : lg.toInt ≤ 200) : (lenI sd lg i).toInt ≤ 220 := by
  unfold lenI
  have hp := prt_rng (a := nxt (sd + 7919 * i))
  have e1 : (lg + prt (nxt (sd + 7919 * i)) 41).toInt = lg.toInt + (prt (nxt (sd + 7919 * i)) 41).toInt := z_add rfl rfl rfl (by omega) (by omega)
  have e2 : (lg + prt (nxt (sd + 7919 * i)) 41 - 20).toInt = lg.toInt + (prt (nxt (sd + 7919 * i)) 41).toInt - 20 := z_sub rfl e1 (by decide) (by omega) (by omega)
  split
  · omega
  · decide
theorem lenZ_le {S : PS} {x : Nat} (hG : GX S) (ha : At S x 12) (c : Int) : lenZ S x c ≤ 220 := by
  obtain ⟨q, h1, h2, -⟩ := gQ_12_1205 hG ha
  rw [lenZ_eq, mA_eq h1]
  have h3 := gE_314 hG h2 (c / 60).toNat
  exact lenI_le h3.1 h3.2
theorem zA_of {S : PS} {x g q : Nat} {i u : Int32} {z : Int} (hR : pR S g x = some q) (zp : i.toInt = z) (h0 : 0 ≤ z) (ha : pA S q i.toNatClampNeg = u) : zA S x g z.toNat = u.toInt := by
  rw [zA_eq, mA_eq hR, ← z_nc zp h0, ha]
theorem MI_1 {S : PS} {x : Nat} {e c : Int} (h : MIe S x e) (hc0 : 0 ≤ c) (hc : c ≤ 599) : (60 * (pI S 1201 x).toInt ≤ c → zA S x 1208 c.toNat = 0 ∧ zA S x 1207 c.toNat = 0) ∧ (c < 60 * (pI S 1201 x).toInt → zA S x 1208 c.toNat ≤ lenZ S x c ∧ (zA S x 1207 c.toNat ≠ 4 → c ≠ e → zA S x 1208 c.toNat < lenZ S x c)) := by
  have a := h.1 c.toNat (by omega)
  rw [Int.toNat_of_nonneg hc0] at a
  exact a
theorem MI_2 {S : PS} {x : Nat} {e r k : Int} (h : MIe S x e) (hr0 : 0 ≤ r) (hr : r ≤ 11) (hk0 : 0 ≤ k) (hk : k < zA S x 1219 r.toNat) : 0 ≤ zA S x 1218 (600 * r + k).toNat ∧ zA S x 1218 (600 * r + k).toNat < 60 * (pI S 1201 x).toInt ∧ zA S x 1207 (zA S x 1218 (600 * r + k).toNat).toNat = r % 3 + 1 ∧ zA S x 1209 (zA S x 1218 (600 * r + k).toNat).toNat = r / 3 := by
  have a := h.2.1 r.toNat k.toNat (by omega) (by omega)
  rw [show 600 * r.toNat + k.toNat = (600 * r + k).toNat by omega] at a
  refine ⟨a.1, a.2.1, a.2.2.1.trans (by omega), a.2.2.2.trans (by omega)⟩
/-- an end of a row: alive -/
theorem MI_alive {S : PS} {x : Nat} {r k c : Int} (h : MI S x) (hl : (pI S 1201 x).toInt ≤ 10) (hr0 : 0 ≤ r) (hr : r ≤ 11) (hk0 : 0 ≤ k) (hk : k < zA S x 1219 r.toNat) (hc : c = zA S x 1218 (600 * r + k).toNat) : 0 ≤ c ∧ c < 60 * (pI S 1201 x).toInt ∧ c ≤ 599 ∧ zA S x 1208 c.toNat < lenZ S x c := by
  subst hc
  obtain ⟨a, b, d, -⟩ := MI_2 h hr0 hr hk0 hk
  have m := (MI_1 h a (by omega)).2 b
  exact ⟨a, b, by omega, m.2 (by omega) (by omega)⟩
theorem MI_6 {S : PS} {x : Nat} {e j : Int} (h : MIe S x e) (h0 : 0 ≤ j) (h1 : j < 158400) : zA S x 1236 j.toNat % 1000 = 0 ∨ (zA S x 1236 j.toNat / 1000 < 60 * (pI S 1201 x).toInt ∧ zA S x 1236 j.toNat % 1000 < lenZ S x (zA S x 1236 j.toNat / 1000)) := h.2.2.2.2.2.1 j.toNat (by omega)
theorem MI_7 {S : PS} {x : Nat} {e k : Int} (h : MIe S x e) (h0 : 0 ≤ k) (h1 : k < (pI S 1238 x).toInt) : 0 ≤ zA S x 1239 k.toNat ∧ zA S x 1239 k.toNat ≤ 300 * k ∧ 1 ≤ zA S x 1239 (k + 1).toNat - zA S x 1239 k.toNat ∧ zA S x 1239 (k + 1).toNat - zA S x 1239 k.toNat ≤ 300 := by
  have h7 := h.2.2.2.2.2.2
  have a := M7_get h7 k.toNat (by omega)
  have b := h7.2 k.toNat (by omega)
  rw [show k.toNat + 1 = (k + 1).toNat by omega] at b
  exact ⟨a.1, by omega, b.1, b.2⟩
theorem MI_7' {S : PS} {x : Nat} {e k : Int} (h : MIe S x e) (h0 : 0 ≤ k) (h1 : k ≤ (pI S 1238 x).toInt) : 0 ≤ zA S x 1239 k.toNat ∧ zA S x 1239 k.toNat ≤ 300 * k := by
  have a := M7_get h.2.2.2.2.2.2 k.toNat (by omega)
  exact ⟨a.1, by omega⟩
theorem dr_ok {u L lots : Int} (h0 : 0 ≤ u ∧ u ≤ 599999) (h : u % 1000 = 0 ∨ (u / 1000 < 60 * lots ∧ u % 1000 < L)) (hg : 20 ≤ L) (hl : L ≤ 220) : 0 ≤ u / 1000 ∧ u / 1000 ≤ 599 ∧ 0 ≤ u % 1000 ∧ u % 1000 ≤ 219 ∧ u % 1000 < L := by
  refine ⟨by omega, by omega, by omega, ?_, ?_⟩
  · rcases h with h | h <;> omega
  · rcases h with h | h <;> omega
set_option maxRecDepth 20000 in
theorem ggX12_fineAt_X12_fineOf : GoodIn wsX12_fineAt wsX12_fineOf := goodIn_h _ [6, 0, 0, 0, 0, 0, 0, 0, 0, 0, 0, 0, 0, 0, 0, 0, 0, 0, 0, 0, 0, 0, 0, 0, 0, 0, 0, 0, 0, 0, 0, 0, 0, 0, 0, 0, 0, 0, 0, 0, 0, 0, 0, 0, 0, 0, 0, 0, 0, 0, 0, 0, 0, 0, 0, 0, 0, 0, 0, 0, 0, 0, 0, 0, 0, 0, 0, 0, 0, 0, 0, 0, 0, 0, 0, 0, 0, 0, 0, 0, 0, 0, 0] [1, 2, 3, 4, 5, 6, 0, 7, 8, 9, 10, 11, 12, 13, 14, 15, 16, 17, 18, 19, 20, 21, 22, 23, 24, 25, 26, 27, 28, 29, 30, 31, 32, 33, 34, 35, 36, 37, 38, 39, 40, 41, 42, 43, 44, 45, 46, 47, 48, 49, 50, 51, 52, 53, 54, 55, 56, 57, 58, 59, 60, 61, 62, 63, 64, 65, 66, 67, 68, 69, 70, 71, 72, 73, 74, 75, 76, 77, 78, 79, 80, 81, 82] (by decide +kernel) (by decide +kernel)
set_option maxRecDepth 20000 in
theorem gX12_fineAt_X12_fineOf : GoodIn wsX12_fineAt (wsV RX12 183 RX12 yX12_fineOf wsX12_fineOf) := goodIn_app (goodIn_of _ (by decide +kernel)) ggX12_fineAt_X12_fineOf
theorem dX12_fineAt_0 : decode cX12_fineAt 0 = .ok (.iconst 0, 1) := by decide +kernel
theorem dX12_fineAt_1 : decode cX12_fineAt 1 = .ok (.istore_n 2, 1) := by decide +kernel
theorem dX12_fineAt_2 : decode cX12_fineAt 2 = .ok (.iconst 0, 1) := by decide +kernel
theorem dX12_fineAt_3 : decode cX12_fineAt 3 = .ok (.istore_n 3, 1) := by decide +kernel
theorem dX12_fineAt_4 : decode cX12_fineAt 4 = .ok (.iload_n 3, 1) := by decide +kernel
theorem dX12_fineAt_5 : decode cX12_fineAt 5 = .ok (.aload_n 0, 1) := by decide +kernel
theorem dX12_fineAt_6 : decode cX12_fineAt 6 = .ok (.getfield 90, 3) := by decide +kernel
theorem dX12_fineAt_9 : decode cX12_fineAt 9 = .ok (.iload_n 1, 1) := by decide +kernel
theorem dX12_fineAt_10 : decode cX12_fineAt 10 = .ok (.iaload, 1) := by decide +kernel
theorem dX12_fineAt_11 : decode cX12_fineAt 11 = .ok (.if_icmp .ge 46, 3) := by decide +kernel
theorem dX12_fineAt_14 : decode cX12_fineAt 14 = .ok (.iload_n 2, 1) := by decide +kernel
theorem dX12_fineAt_15 : decode cX12_fineAt 15 = .ok (.aload_n 0, 1) := by decide +kernel
theorem dX12_fineAt_16 : decode cX12_fineAt 16 = .ok (.aload_n 0, 1) := by decide +kernel
theorem dX12_fineAt_17 : decode cX12_fineAt 17 = .ok (.getfield 94, 3) := by decide +kernel
theorem dX12_fineAt_20 : decode cX12_fineAt 20 = .ok (.bipush 12, 2) := by decide +kernel
theorem dX12_fineAt_22 : decode cX12_fineAt 22 = .ok (.iload_n 1, 1) := by decide +kernel
theorem dX12_fineAt_23 : decode cX12_fineAt 23 = .ok (.imul, 1) := by decide +kernel
theorem dX12_fineAt_24 : decode cX12_fineAt 24 = .ok (.iload_n 3, 1) := by decide +kernel
theorem dX12_fineAt_25 : decode cX12_fineAt 25 = .ok (.iadd, 1) := by decide +kernel
theorem dX12_fineAt_26 : decode cX12_fineAt 26 = .ok (.iaload, 1) := by decide +kernel
theorem dX12_fineAt_27 : decode cX12_fineAt 27 = .ok (.sipush 1000, 3) := by decide +kernel
theorem dX12_fineAt_30 : decode cX12_fineAt 30 = .ok (.idiv, 1) := by decide +kernel
theorem dX12_fineAt_31 : decode cX12_fineAt 31 = .ok (.aload_n 0, 1) := by decide +kernel
theorem dX12_fineAt_32 : decode cX12_fineAt 32 = .ok (.getfield 94, 3) := by decide +kernel
theorem dX12_fineAt_35 : decode cX12_fineAt 35 = .ok (.bipush 12, 2) := by decide +kernel
theorem dX12_fineAt_37 : decode cX12_fineAt 37 = .ok (.iload_n 1, 1) := by decide +kernel
theorem dX12_fineAt_38 : decode cX12_fineAt 38 = .ok (.imul, 1) := by decide +kernel
theorem dX12_fineAt_39 : decode cX12_fineAt 39 = .ok (.iload_n 3, 1) := by decide +kernel
theorem dX12_fineAt_40 : decode cX12_fineAt 40 = .ok (.iadd, 1) := by decide +kernel
theorem dX12_fineAt_41 : decode cX12_fineAt 41 = .ok (.iaload, 1) := by decide +kernel
theorem dX12_fineAt_42 : decode cX12_fineAt 42 = .ok (.sipush 1000, 3) := by decide +kernel
theorem dX12_fineAt_45 : decode cX12_fineAt 45 = .ok (.irem, 1) := by decide +kernel
theorem dX12_fineAt_46 : decode cX12_fineAt 46 = .ok (.invokevirtual 183, 3) := by decide +kernel
theorem dX12_fineAt_49 : decode cX12_fineAt 49 = .ok (.iadd, 1) := by decide +kernel
theorem dX12_fineAt_50 : decode cX12_fineAt 50 = .ok (.istore_n 2, 1) := by decide +kernel
theorem dX12_fineAt_51 : decode cX12_fineAt 51 = .ok (.iinc 3 1, 3) := by decide +kernel
theorem dX12_fineAt_54 : decode cX12_fineAt 54 = .ok (.goto (-50), 3) := by decide +kernel
theorem dX12_fineAt_57 : decode cX12_fineAt 57 = .ok (.iload_n 2, 1) := by decide +kernel
theorem dX12_fineAt_58 : decode cX12_fineAt 58 = .ok (.ireturn, 1) := by decide +kernel
theorem inn_X12_fineAt_12 : ∀ w ∈ u_ws RX12 TX12 66, w ∈ wsX12_fineAt := fun w h => List.mem_cons_of_mem _ (List.mem_append_right _ h)
set_option maxHeartbeats 4000000 in
set_option maxRecDepth 100000 in
theorem k_X12_at2 (l : Launch) (G : va_G) (cy : Nat → ClassId) (κ : Nat → Nat) (S : PS) (sz : Nat) (x : Nat) (a1 : Int32) (a1_z : Int) (a2 : Int32) (a2_z : Int) (a3 : Int32) (a3_z : Int) (hG : GX S) (ha_x : At S x 12) (hz_a1 : a1.toInt = a1_z) (hz_a2 : a2.toInt = a2_z) (hz_a3 : a3.toInt = a3_z) (hp_0 : 0 ≤ a1_z) (hp_1 : a1_z ≤ 3) (hp_2 : 0 ≤ a2_z) (hp_3 : a2_z ≤ 2) (hp_4 : 0 ≤ a3_z) (hp_5 : a3_z ≤ 599) : Ci l yX12_at wsX12_at ({ frames := 1, cells := 0, slots := 0, locals := 48 }) G cy κ S sz [.ref x, .int (a1), .int (a2), .int (a3)] (fun (r : Int32) (S9 : PS) => S = S9 ∧ (0 ≤ r.toInt ∧ r.toInt ≤ 599 ∧ r.toInt = zA S x 1218 (600 * (3 * a1_z + a2_z) + a3_z).toNat)) := by
  refine ent_m (cc := cX12_at) (maxL := 4) (ret := (some .int)) (by decide) rfl (Nat.le_of_ble_eq_true rfl) ?_
  intro p e s m below meth c ls X hr hlocks hin hw hl hsz
  subst hsz
  have X : Cx p c cX12_at 4 s [.ref x, .int (a1), .int (a2), .int (a3)].toArray wsX12_at RX12 m G cy κ (AS S s.heap.size) := X
  have hl : lv_has ls 4 [(0, .ref x), (1, .int (a1)), (2, .int (a2)), (3, .int (a3))] := hl
  have rg_a1 : (-2147483648) ≤ a1_z ∧ a1_z ≤ 2147483647 := by rw [← hz_a1]; exact ⟨z_lo _, z_hi _⟩
  have rg_a2 : (-2147483648) ≤ a2_z ∧ a2_z ≤ 2147483647 := by rw [← hz_a2]; exact ⟨z_lo _, z_hi _⟩
  have rg_a3 : (-2147483648) ≤ a3_z ∧ a3_z ≤ 2147483647 := by rw [← hz_a3]; exact ⟨z_lo _, z_hi _⟩
  refine lv_aload_n X.1 X.2.1 dX12_at_0 rfl (lv_at hl 0 rfl) ?_
  obtain ⟨q_1, h_2, h_3, h_4⟩ := gQ_12_1218 hG ha_x
  refine r_getR (g := 1218) X hw ha_x rfl 18 h_2 (by decide) rfl inn_X12_at_12 (by decide) (X.2.2.2.1 (.fieldLink RX12 55 "SilkMillModel" "rowOf" "[I") (by decide +kernel)) rfl (gv_1218 _ _) dX12_at_1 ?_
  refine lv_sipush (v := 600) X.1 X.2.1 dX12_at_4 (by decide) ?_
  refine lv_iconst (v := 3) X.1 X.2.1 dX12_at_7 (by decide) ?_
  refine lv_iload_n X.1 X.2.1 dX12_at_8 rfl (lv_at hl 1 rfl) ?_
  refine lv_imul X.1 X.2.1 dX12_at_9 ?_
  refine lv_topi (fun v_5 ev_5 => ?_)
  have z_6 : v_5.toInt = 3 * a1_z := z_mul ev_5 ti_3 hz_a1 (by omega) (by omega)
  refine lv_iload_n X.1 X.2.1 dX12_at_10 rfl (lv_at hl 2 rfl) ?_
  refine lv_iadd X.1 X.2.1 dX12_at_11 ?_
  refine lv_topi (fun v_7 ev_7 => ?_)
  have z_8 : v_7.toInt = (3 * a1_z) + a2_z := z_add ev_7 z_6 hz_a2 (by omega) (by omega)
  refine lv_imul X.1 X.2.1 dX12_at_12 ?_
  refine lv_topi (fun v_9 ev_9 => ?_)
  have z_10 : v_9.toInt = 600 * ((3 * a1_z) + a2_z) := z_mul ev_9 ti_600 z_8 (by omega) (by omega)
  refine lv_iload_n X.1 X.2.1 dX12_at_13 rfl (lv_at hl 3 rfl) ?_
  refine lv_iadd X.1 X.2.1 dX12_at_14 ?_
  refine lv_topi (fun v_11 ev_11 => ?_)
  have z_12 : v_11.toInt = (600 * ((3 * a1_z) + a2_z)) + a3_z := z_add ev_11 z_10 hz_a3 (by omega) (by omega)
  refine r_iald X hw h_3 rfl (by rw [h_4]; exact z_ix z_12 (by omega) (by omega)) dX12_at_15 ?_
  refine lv_topi (fun v_13 ev_13 => ?_)
  have z_14 := gE_574 hG h_3 (Int32.toNatClampNeg (v_11)); rw [← ev_13] at z_14
  have ev_13 := ev_13.symm
  exact ret_i X hw hr hlocks (Nat.le_of_ble_eq_true rfl) (Nat.le_of_ble_eq_true rfl) ⟨rfl, ⟨by omega, by omega, by rw [zA_eq, mA_eq h_2, show (600 * (3 * a1_z + a2_z) + a3_z).toNat = (Int32.toNatClampNeg (v_11)) from by rw [z_nc rfl (by omega)]; omega, ev_13]⟩⟩ dX12_at_16
set_option maxHeartbeats 4000000 in
set_option maxRecDepth 100000 in
theorem k_X12_many2 (l : Launch) (G : va_G) (cy : Nat → ClassId) (κ : Nat → Nat) (S : PS) (sz : Nat) (x : Nat) (a1 : Int32) (a1_z : Int) (a2 : Int32) (a2_z : Int) (hG : GX S) (ha_x : At S x 12) (hz_a1 : a1.toInt = a1_z) (hz_a2 : a2.toInt = a2_z) (hp_0 : 0 ≤ a1_z) (hp_1 : a1_z ≤ 3) (hp_2 : 0 ≤ a2_z) (hp_3 : a2_z ≤ 2) : Ci l yX12_many wsX12_many ({ frames := 1, cells := 0, slots := 0, locals := 48 }) G cy κ S sz [.ref x, .int (a1), .int (a2)] (fun (r : Int32) (S9 : PS) => S = S9 ∧ (0 ≤ r.toInt ∧ r.toInt ≤ 600 ∧ r.toInt = zA S x 1219 (3 * a1_z + a2_z).toNat)) := by
  refine ent_m (cc := cX12_many) (maxL := 3) (ret := (some .int)) (by decide) rfl (Nat.le_of_ble_eq_true rfl) ?_
  intro p e s m below meth c ls X hr hlocks hin hw hl hsz
  subst hsz
  have X : Cx p c cX12_many 3 s [.ref x, .int (a1), .int (a2)].toArray wsX12_many RX12 m G cy κ (AS S s.heap.size) := X
  have hl : lv_has ls 3 [(0, .ref x), (1, .int (a1)), (2, .int (a2))] := hl
  have rg_a1 : (-2147483648) ≤ a1_z ∧ a1_z ≤ 2147483647 := by rw [← hz_a1]; exact ⟨z_lo _, z_hi _⟩
  have rg_a2 : (-2147483648) ≤ a2_z ∧ a2_z ≤ 2147483647 := by rw [← hz_a2]; exact ⟨z_lo _, z_hi _⟩
  refine lv_aload_n X.1 X.2.1 dX12_many_0 rfl (lv_at hl 0 rfl) ?_
  obtain ⟨q_1, h_2, h_3, h_4⟩ := gQ_12_1219 hG ha_x
  refine r_getR (g := 1219) X hw ha_x rfl 19 h_2 (by decide) rfl inn_X12_many_12 (by decide) (X.2.2.2.1 (.fieldLink RX12 58 "SilkMillModel" "rowMany" "[I") (by decide +kernel)) rfl (gv_1219 _ _) dX12_many_1 ?_
  refine lv_iconst (v := 3) X.1 X.2.1 dX12_many_4 (by decide) ?_
  refine lv_iload_n X.1 X.2.1 dX12_many_5 rfl (lv_at hl 1 rfl) ?_
  refine lv_imul X.1 X.2.1 dX12_many_6 ?_
  refine lv_topi (fun v_5 ev_5 => ?_)
  have z_6 : v_5.toInt = 3 * a1_z := z_mul ev_5 ti_3 hz_a1 (by omega) (by omega)
  refine lv_iload_n X.1 X.2.1 dX12_many_7 rfl (lv_at hl 2 rfl) ?_
  refine lv_iadd X.1 X.2.1 dX12_many_8 ?_
  refine lv_topi (fun v_7 ev_7 => ?_)
  have z_8 : v_7.toInt = (3 * a1_z) + a2_z := z_add ev_7 z_6 hz_a2 (by omega) (by omega)
  refine r_iald X hw h_3 rfl (by rw [h_4]; exact z_ix z_8 (by omega) (by omega)) dX12_many_9 ?_
  refine lv_topi (fun v_9 ev_9 => ?_)
  have z_10 := gE_594 hG h_3 (Int32.toNatClampNeg (v_7)); rw [← ev_9] at z_10
  have ev_9 := ev_9.symm
  exact ret_i X hw hr hlocks (Nat.le_of_ble_eq_true rfl) (Nat.le_of_ble_eq_true rfl) ⟨rfl, ⟨by omega, by omega, by rw [zA_eq, mA_eq h_2, show (3 * a1_z + a2_z).toNat = (Int32.toNatClampNeg (v_7)) from by rw [z_nc rfl (by omega)]; omega, ev_9]⟩⟩ dX12_many_10
set_option maxHeartbeats 4000000 in
set_option maxRecDepth 100000 in
theorem k_X12_fineAt (l : Launch) (G : va_G) (cy : Nat → ClassId) (κ : Nat → Nat) (S : PS) (sz : Nat) (x : Nat) (a1 : Int32) (a1_z : Int) (hG : GX S) (ha_x : At S x 12) (hz_a1 : a1.toInt = a1_z) (hp_0 : 0 ≤ a1_z) (hp_1 : a1_z ≤ 13199) (hp_2 : MI S x) : Ci l yX12_fineAt wsX12_fineAt ({ frames := 4, cells := 0, slots := 0, locals := 192 }) G cy κ S sz [.ref x, .int (a1)] (fun (r : Int32) (S9 : PS) => S = S9 ∧ (True)) := by
  refine ent_m (cc := cX12_fineAt) (maxL := 4) (ret := (some .int)) (by decide) rfl (Nat.le_of_ble_eq_true rfl) ?_
  intro p e s m below meth c ls X hr hlocks hin hw hl hsz
  subst hsz
  have X : Cx p c cX12_fineAt 4 s [.ref x, .int (a1)].toArray wsX12_fineAt RX12 m G cy κ (AS S s.heap.size) := X
  have hl : lv_has ls 4 [(0, .ref x), (1, .int (a1))] := hl
  have rg_a1 : (-2147483648) ≤ a1_z ∧ a1_z ≤ 2147483647 := by rw [← hz_a1]; exact ⟨z_lo _, z_hi _⟩
  generalize hQQ : MQ below _ _ _ _ _ _ = QQ
  replace hQQ := hQQ.symm
  refine lv_iconst (v := 0) X.1 X.2.1 dX12_fineAt_0 (by decide) ?_
  refine lv_istore_n (lv' := [(2, .int 0), (0, .ref x), (1, .int (a1))]) X.1 X.2.1 dX12_fineAt_1 rfl hl (by decide) rfl (fun ls hl => ?_)
  refine lv_iconst (v := 0) X.1 X.2.1 dX12_fineAt_2 (by decide) ?_
  refine lv_istore_n (lv' := [(3, .int 0), (2, .int 0), (0, .ref x), (1, .int (a1))]) X.1 X.2.1 dX12_fineAt_3 rfl hl (by decide) rfl (fun ls hl => ?_)
  have L_1 : ∀ (n : Nat) (H : Heap) (locs : List Loc) (ls : Array Slot) (i2_2 : Int32) (i2_2_z : Int) (i3_3 : Int32) (i3_3_z : Int), ((12 - i3_3_z).toNat = n) → (Wd G cy (AS S s.heap.size) s.heap S H locs) → (i2_2.toInt = i2_2_z) → (i3_3.toInt = i3_3_z) → (0 ≤ i3_3_z ∧ i3_3_z ≤ 12) → (lv_has ls 4 [(2, .int (i2_2)), (3, .int (i3_3)), (0, .ref x), (1, .int (a1))]) → W p l e ({ frames := 4, cells := 0, slots := 0, locals := 192 }) s m [.ref x, .int (a1)].toArray below meth c H locs 0 0 QQ (F0 m 4 ls []) := by
    intro n
    induction n using Nat.strongRecOn with
    | ind n ih_L_1 =>
    intro H locs ls i2_2 i2_2_z i3_3 i3_3_z hn hw hz_i2_2 hz_i3_3 hr_i3_3 hl
    have rg_4 : (-2147483648) ≤ i2_2_z ∧ i2_2_z ≤ 2147483647 := by rw [← hz_i2_2]; exact ⟨z_lo _, z_hi _⟩
    have rg_5 : (-2147483648) ≤ i3_3_z ∧ i3_3_z ≤ 2147483647 := by rw [← hz_i3_3]; exact ⟨z_lo _, z_hi _⟩
    refine lv_iload_n X.1 X.2.1 dX12_fineAt_4 rfl (lv_at hl 1 rfl) ?_
    refine lv_aload_n X.1 X.2.1 dX12_fineAt_5 rfl (lv_at hl 2 rfl) ?_
    obtain ⟨q_6, h_7, h_8, h_9⟩ := gQ_12_1235 hG ha_x
    refine r_getR (g := 1235) X hw ha_x rfl 35 h_7 (by decide) rfl inn_X12_fineAt_12 (by decide) (X.2.2.2.1 (.fieldLink RX12 90 "SilkMillModel" "metreEnds" "[I") (by decide +kernel)) rfl (gv_1235 _ _) dX12_fineAt_6 ?_
    refine lv_iload_n X.1 X.2.1 dX12_fineAt_9 rfl (lv_at hl 3 rfl) ?_
    refine r_iald X hw h_8 rfl (by rw [h_9]; exact z_ix hz_a1 (by omega) (by omega)) dX12_fineAt_10 ?_
    refine lv_topi (fun v_10 ev_10 => ?_)
    have z_11 := gE_914 hG h_8 (Int32.toNatClampNeg (a1)); rw [← ev_10] at z_11
    have ev_10 := ev_10.symm
    refine lv_icmp_ge (tgt := 57) X.1 X.2.1 dX12_fineAt_11 (by decide) (fun c_12 => ?_) (fun c_12 => ?_)
    · have z_b_13 := trivial
      have k_14 : i3_3_z ≥ v_10.toInt := z_le rfl hz_i3_3 c_12
      refine lv_iload_n X.1 X.2.1 dX12_fineAt_57 rfl (lv_at hl 0 rfl) ?_
      rw [hQQ]
      exact ret_i X hw hr hlocks (Nat.le_of_ble_eq_true rfl) (Nat.le_of_ble_eq_true rfl) ⟨rfl, trivial⟩ dX12_fineAt_58
    · have z_b_15 := trivial
      have k_16 : i3_3_z < v_10.toInt := z_nle rfl hz_i3_3 c_12
      refine lv_iload_n X.1 X.2.1 dX12_fineAt_14 rfl (lv_at hl 0 rfl) ?_
      refine lv_aload_n X.1 X.2.1 dX12_fineAt_15 rfl (lv_at hl 2 rfl) ?_
      refine lv_aload_n X.1 X.2.1 dX12_fineAt_16 rfl (lv_at hl 2 rfl) ?_
      obtain ⟨q_17, h_18, h_19, h_20⟩ := gQ_12_1236 hG ha_x
      refine r_getR (g := 1236) X hw ha_x rfl 36 h_18 (by decide) rfl inn_X12_fineAt_12 (by decide) (X.2.2.2.1 (.fieldLink RX12 94 "SilkMillModel" "drawn" "[I") (by decide +kernel)) rfl (gv_1236 _ _) dX12_fineAt_17 ?_
      refine lv_bipush (v := 12) X.1 X.2.1 dX12_fineAt_20 (by decide) ?_
      refine lv_iload_n X.1 X.2.1 dX12_fineAt_22 rfl (lv_at hl 3 rfl) ?_
      refine lv_imul X.1 X.2.1 dX12_fineAt_23 ?_
      refine lv_topi (fun v_21 ev_21 => ?_)
      have z_22 : v_21.toInt = 12 * a1_z := z_mul ev_21 ti_12 hz_a1 (by omega) (by omega)
      refine lv_iload_n X.1 X.2.1 dX12_fineAt_24 rfl (lv_at hl 1 rfl) ?_
      refine lv_iadd X.1 X.2.1 dX12_fineAt_25 ?_
      refine lv_topi (fun v_23 ev_23 => ?_)
      have z_24 : v_23.toInt = (12 * a1_z) + i3_3_z := z_add ev_23 z_22 hz_i3_3 (by omega) (by omega)
      refine r_iald X hw h_19 rfl (by rw [h_20]; exact z_ix z_24 (by omega) (by omega)) dX12_fineAt_26 ?_
      refine lv_topi (fun v_25 ev_25 => ?_)
      have z_26 := gE_934 hG h_19 (Int32.toNatClampNeg (v_23)); rw [← ev_25] at z_26
      have ev_25 := ev_25.symm
      have zf_27 : zA S x 1236 (((12 * a1_z) + i3_3_z)).toNat = v_25.toInt := (zA_of h_18 z_24 (by omega) ev_25)
      have m6_28 := MI_6 hp_2 (j := ((12 * a1_z) + i3_3_z)) (by omega) (by omega); rw [zf_27] at m6_28
      obtain ⟨d_29, d_30, d_31, d_32, d_33⟩ := dr_ok (u := v_25.toInt) (by omega) m6_28 (lenZ_ge S x (v_25.toInt / 1000)) (lenZ_le hG ha_x (v_25.toInt / 1000))
      clear m6_28 zf_27
      refine lv_sipush (v := 1000) X.1 X.2.1 dX12_fineAt_27 (by decide) ?_
      refine lv_idiv X.1 X.2.1 dX12_fineAt_30 (by decide) ?_
      refine lv_topi (fun v_34 ev_34 => ?_)
      have z_35 : v_34.toInt = v_25.toInt / 1000 := z_div ev_34 rfl ti_1000 (by omega) (by omega)
      refine lv_aload_n X.1 X.2.1 dX12_fineAt_31 rfl (lv_at hl 2 rfl) ?_
      refine r_getR (g := 1236) X hw ha_x rfl 36 h_18 (by decide) rfl inn_X12_fineAt_12 (by decide) (X.2.2.2.1 (.fieldLink RX12 94 "SilkMillModel" "drawn" "[I") (by decide +kernel)) rfl (gv_1236 _ _) dX12_fineAt_32 ?_
      refine lv_bipush (v := 12) X.1 X.2.1 dX12_fineAt_35 (by decide) ?_
      refine lv_iload_n X.1 X.2.1 dX12_fineAt_37 rfl (lv_at hl 3 rfl) ?_
      refine lv_imul X.1 X.2.1 dX12_fineAt_38 ?_
      refine lv_topi (fun v_36 ev_36 => ?_)
      have z_37 : v_36.toInt = 12 * a1_z := z_mul ev_36 ti_12 hz_a1 (by omega) (by omega)
      refine lv_iload_n X.1 X.2.1 dX12_fineAt_39 rfl (lv_at hl 1 rfl) ?_
      refine lv_iadd X.1 X.2.1 dX12_fineAt_40 ?_
      refine lv_topi (fun v_38 ev_38 => ?_)
      have z_39 : v_38.toInt = (12 * a1_z) + i3_3_z := z_add ev_38 z_37 hz_i3_3 (by omega) (by omega)
      refine r_iald X hw h_19 rfl (by rw [h_20]; exact z_ix z_39 (by omega) (by omega)) dX12_fineAt_41 ?_
      rw [show (Int32.toNatClampNeg (v_38)) = (Int32.toNatClampNeg (v_23)) from (z_nc z_39 (by omega)).trans (z_nc z_24 (by omega)).symm]
      rw [ev_25]
      refine lv_sipush (v := 1000) X.1 X.2.1 dX12_fineAt_42 (by decide) ?_
      refine lv_irem X.1 X.2.1 dX12_fineAt_45 (by decide) ?_
      refine lv_topi (fun v_40 ev_40 => ?_)
      have z_41 : v_40.toInt = v_25.toInt % 1000 := z_rem ev_40 rfl ti_1000 (by omega) (by omega)
      have z_42 : 0 ≤ v_40.toInt ∧ v_40.toInt < 1000 := by rw [z_41]; exact ⟨Int.emod_nonneg _ (by omega), Int.emod_lt_of_pos _ (by omega)⟩
      refine k_i (rm := { frames := 3, cells := 0, slots := 0, locals := 144 }) (av := [.ref x, .int (v_34), .int (v_40)]) X hw (va_runV (As := [.int (v_34), .int (v_40)]) (rest := [.int (i2_2)]) (cfix X) (k_X12_fineOf l G cy κ S _ x (v_34) ((v_25.toInt / 1000)) (v_40) ((v_25.toInt % 1000)) hG ha_x z_35 z_41 (by first | assumption | omega) (by first | assumption | omega) (by first | assumption | omega) (by first | assumption | omega) (by first | assumption | omega)) (cwV 2 X.2.2.2.1 gX12_fineAt_X12_fineOf rfl rfl rfl (by decide +kernel) ⟨Nat.le_of_ble_eq_true rfl, Nat.le_of_ble_eq_true rfl⟩) (pre_V X hw _ ha_x rfl (by decide) rfl) rfl rfl hl.1 rfl (lv_room (Nat.le_of_ble_eq_true rfl)) dX12_fineAt_46 ⟨Nat.le_of_ble_eq_true rfl, Nat.le_of_ble_eq_true rfl⟩) 0 0 (Nat.le_of_ble_eq_true rfl) (Nat.le_of_ble_eq_true rfl) (fun rr_43 S_44 H locs hp hw hfr hnw => ?_)
      obtain ⟨e2, hp⟩ := hp
      subst e2
      have rg_45 := And.intro (z_lo rr_43) (z_hi rr_43)
      refine lv_iadd X.1 X.2.1 dX12_fineAt_49 ?_
      refine lv_topi (fun v_46 ev_46 => ?_)
      have rg_47 := And.intro (z_lo v_46) (z_hi v_46)
      refine lv_istore_n (lv' := [(2, .int (v_46)), (3, .int (i3_3)), (0, .ref x), (1, .int (a1))]) X.1 X.2.1 dX12_fineAt_50 rfl hl (by decide) rfl (fun ls hl => ?_)
      obtain ⟨x_48, ex_48⟩ : ∃ y : Int32, y = i3_3 + 1 := ⟨_, rfl⟩
      have z_49 : x_48.toInt = i3_3_z + 1 := z_add ex_48 hz_i3_3 ti_1 (by omega) (by omega)
      refine lv_iinc (v := x_48) (lv' := [(3, .int (x_48)), (2, .int (v_46)), (0, .ref x), (1, .int (a1))]) X.1 X.2.1 dX12_fineAt_51 hl (k := 1) rfl (by rw [ex_48]; rfl) (by decide) rfl (fun ls hl => ?_)
      refine lv_goto (tgt := 4) X.1 X.2.1 dX12_fineAt_54 (by decide) ?_
      exact ih_L_1 _ (by omega) _ _ _ (v_46) (v_46.toInt) (x_48) (x_48.toInt) rfl hw rfl rfl (by omega) (lv_sub hl [1, 0, 2, 3] rfl)
  exact L_1 _ _ _ _ (0) (0) (0) (0) rfl hw ti_0 ti_0 (by omega) (lv_sub hl [1, 0, 2, 3] rfl)
