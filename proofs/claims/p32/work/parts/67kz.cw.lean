noncomputable def mtZ (S : PS) (x : Nat) (t : Mt) : Int32 := t.foldl (fun a z => a + Int32.ofInt (fnZ S x (z.1 : Int) z.2.toInt)) 0
theorem mtZ_s {S : PS} {x k : Nat} {t : Mt} {z : Nat × Int32} (h : t[k]? = some z) : mtZ S x (t.take (k + 1)) = mtZ S x (t.take k) + Int32.ofInt (fnZ S x (z.1 : Int) z.2.toInt) := by
  unfold mtZ
  rw [List.take_succ, h, List.foldl_append]
  rfl
theorem oi_of {v : Int32} {z : Int} (h : v.toInt = z) : v = Int32.ofInt z := by
  rw [← h]
  exact (Int32.ofInt_toInt v).symm
theorem mtZ_eq {S T : PS} {x : Nat} {t : Mt} (h : fnZ T x = fnZ S x) : mtZ T x t = mtZ S x t := by
  unfold mtZ
  rw [h]
noncomputable def siZ (S : PS) (x : Nat) (g : List Mt) : Int32 := g.foldl (fun a m => a + mtZ S x m) 0
theorem siZ_s {S : PS} {x k : Nat} {g : List Mt} {t : Mt} (h : g[k]? = some t) : siZ S x (g.take (k + 1)) = siZ S x (g.take k) + mtZ S x t := by
  unfold siZ
  rw [List.take_succ, h, List.foldl_append]
  rfl
theorem siZ_to {S T : PS} {x : Nat} (h : fnZ T x = fnZ S x) : siZ T x = siZ S x := by
  funext g
  unfold siZ
  congr 1
  funext a m
  rw [mtZ_eq h]
/-! ===== waste, the reference ===== -/
def WsT (S T : PS) (x : Nat) (E : En) (A B : Pt) : Prop := pI T 1246 x + wsE E (qws A) = pI S 1246 x + wsE E (qws B)
theorem WsT_rf (S : PS) (x : Nat) (E : En) (A : Pt) : WsT S S x E A A := rfl
theorem WsT_tr {S T U : PS} {x : Nat} {E : En} {A B C : Pt} (h : WsT S T x E A B) (h' : WsT T U x E B C) : WsT S U x E A C := cn_tr h h'
theorem WsT_f {S T U : PS} {x : Nat} {E : En} {A B : Pt} (h : WsT S T x E A B) (e : pI U 1246 x = pI T 1246 x) : WsT S U x E A B := by
  unfold WsT at h ⊢
  rw [e]
  exact h
theorem WsT_q {S T : PS} {x : Nat} {E : En} {A B C : Pt} (h : WsT S T x E A B) (e : qws C = qws B) : WsT S T x E A C := by
  unfold WsT at h ⊢
  rw [e]
  exact h
theorem WsT_e {S T : PS} {x : Nat} {E : En} {A B C : Pt} (h : WsT S T x E A B) (e : C = B) : WsT S T x E A C := by
  rw [e]
  exact h
theorem fet_ws {A : Pt} : qws (fetF A) = qws A := by
  cases e : ql A with
  | nil => exact (congrArg qws (fetF_n e)).trans rfl
  | cons c t => exact (congrArg qws (fetF_c e)).trans rfl
theorem sea_ws {E : En} {A : Pt} : qws (seaF E A) = qws A := by
  by_cases h : ql A = []
  · exact congrArg qws (seaF_n h)
  · by_cases h2 : (qse A + 1).toInt < (efind E).toInt
    · exact (congrArg qws (seaF_w h h2)).trans rfl
    · exact (congrArg qws (seaF_f h h2)).trans (fet_ws.trans rfl)
theorem cas_ws {A : Pt} : qws (casF A) = qws A := by
  cases e : qb A with
  | nil => exact congrArg qws (casF_n (Or.inl e))
  | cons c t =>
    by_cases h : (qe A).length < 12
    · exact (congrArg qws (casF_c e h)).trans rfl
    · exact congrArg qws (casF_n (Or.inr h))
theorem dro_ws {E : En} {A : Pt} : qws (droF E A) = qws A := by
  by_cases h0 : 0 ≤ thiF E A ∧ thiF E A < ((qe A).length : Int)
  · obtain ⟨c, hc⟩ : ∃ c, (qe A)[(thiF E A).toNat]? = some c := ⟨_, List.getElem?_eq_getElem (by omega)⟩
    exact (congrArg qws (droF_c h0.1 hc)).trans rfl
  · exact congrArg qws (droF_n h0)
theorem fnd_ws {A : Pt} : qws (fndF A) = qws A := by
  by_cases h : ql A = []
  · exact congrArg qws (fndF_n h)
  · exact (congrArg qws (fndF_c h)).trans fet_ws
theorem thr_ws {A : Pt} : qws (throF A) = qws A := by
  cases e : (qb A)[(qb A).length - 1]? with
  | none =>
    have h : throF A = A := by
      unfold throF
      rw [e]
    exact congrArg qws h
  | some c => exact (congrArg qws (throF_c e)).trans rfl
theorem act_ws {E : En} {a m : Int32} {A : Pt} (h : a ≠ 4) : qws (actF E a m A) = qws A := by
  unfold actF
  by_cases h0 : a = 0
  · rw [if_pos h0]
    exact cas_ws
  rw [if_neg h0]
  by_cases h1 : a = 1
  · rw [if_pos h1]
    exact dro_ws
  rw [if_neg h1]
  by_cases h2 : a = 2
  · rw [if_pos h2]
    exact fnd_ws
  rw [if_neg h2]
  by_cases h3 : a = 3
  · rw [if_pos h3]
    exact thr_ws
  rw [if_neg h3, if_neg h]
  rfl
theorem endK_ws {E : En} {A : Pt} {c : Nat} : qws (endK E A c) = qws A := by
  by_cases h2 : sdV E A c = 2
  · exact (congrArg qws (endK_2 h2)).trans rfl
  · by_cases h3 : sdV E A c = 3
    · exact (congrArg qws (endK_3 h3)).trans rfl
    · exact (congrArg qws (endK_n h2 h3)).trans rfl
theorem fol_ws {E : En} : ∀ {L : List Nat} {A : Pt}, qws (folF E L A) = qws A
  | [], _ => rfl
  | c :: t, A => by
    show qws (folF E t (endK E A c)) = qws A
    exact fol_ws.trans endK_ws
theorem z1236 {S : PS} {x : Nat} (hG : GX S) (hx : At S x 12) (j : Nat) : 0 ≤ zA S x 1236 j ∧ zA S x 1236 j ≤ 599999 := by
  obtain ⟨q, k1, k2, -⟩ := gQ_12_1236 hG hx
  rw [zA_eq, mA_eq k1]
  exact gE_934 hG k2 j
theorem mt_ZE {S : PS} {x m : Nat} {p : Int} {E : En} {t : Mt} (hG : GX S) (hx : At S x 12) (hMI : MI S x) (hE : EnR S x p E) (hm2 : m < 13200) (hR : MtR S x m t) : mtZ S x t = mtE E t := by
  unfold mtZ mtE
  refine flx (fun b z hz => ?_)
  show b + Int32.ofInt (fnZ S x (z.1 : Int) z.2.toInt) = b + efn E z.1 z.2
  obtain ⟨k, hk⟩ := List.mem_iff_getElem?.mp hz
  have hw := MtR_w hG hx hR
  have hkl := (List.getElem?_eq_some_iff.mp hk).1
  obtain ⟨a1, a2, a3⟩ := hR.2 k z hk
  have h6 := MI_6 hMI (j := ((12 * m + k : Nat) : Int)) (by omega) (by omega)
  have hr := z1236 hG hx (12 * m + k)
  rw [a1] at hr
  rw [Int.toNat_natCast, a1] at h6
  have hdv : (1000 * (z.1 : Int) + z.2.toInt) / 1000 = (z.1 : Int) := by omega
  have hmd : (1000 * (z.1 : Int) + z.2.toInt) % 1000 = z.2.toInt := by omega
  rw [hdv, hmd] at h6
  have hge := lenZ_ge S x (z.1 : Int)
  have h1 := ((hE.1 z.1 (by omega)).2.1 z.2 a2 (by omega)).1
  rw [← h1, Int32.ofInt_toInt]
theorem si_ZE {S : PS} {x m : Nat} {p : Int} {E : En} {g : List Mt} (hG : GX S) (hx : At S x 12) (hMI : MI S x) (hE : EnR S x p E) (hm2 : m + g.length ≤ 13200) (hR : ∀ (j : Nat) (t : Mt), g[j]? = some t → MtR S x (m + j) t) : siZ S x g = siE E g := by
  unfold siZ siE
  refine flx (fun b t ht => ?_)
  obtain ⟨j, hj⟩ := List.mem_iff_getElem?.mp ht
  have := (List.getElem?_eq_some_iff.mp hj).1
  show b + mtZ S x t = b + mtE E t
  rw [mt_ZE hG hx hMI hE (by omega) (hR j t hj)]
/-- a cut: what is too much is waste -/
def CuW (S T : PS) (x : Nat) (p : Int) (g : List Mt) : Prop := ((zA S x 1237 p.toNat = 0 ∨ (pI S 1238 x).toInt < 40) → pI T 1246 x = pI S 1246 x) ∧ (zA S x 1237 p.toNat ≠ 0 → ¬ (pI S 1238 x).toInt < 40 → pI T 1246 x = pI S 1246 x + siZ S x g)
theorem WsT_cut {S T : PS} {x : Nat} {p : Int} {A : Pt} {E : En} (hG : GX S) (hx : At S x 12) (hp0 : 0 ≤ p) (hp3 : p ≤ 3) (hMI : MI S x) (hE : EnR S x p E) (hg : GrW S x p.toNat (qg A)) (hl : (qg A).length ≤ 300) (hk : SkW S x (qsk A)) (hc : CuW S T x p (qg A)) : WsT S T x E A (cutF E A) := by
  unfold WsT
  have k1 := hk.1
  have g1 := hg.1
  by_cases h : qg A = []
  · rw [cutF_n h, hc.1 (Or.inl (by rw [g1, h]; rfl))]
  · have hl1 : (qg A).length ≠ 0 := fun z => h (List.eq_nil_of_length_eq_zero z)
    by_cases h2 : (qsk A).length < 40
    · rw [cutF_k h h2, hc.1 (Or.inr (by omega))]
      rfl
    · have e := hc.2 (by omega) (by omega)
      rw [si_ZE hG hx hMI hE (m := 12000 + 300 * p.toNat) (by omega) hg.2] at e
      rw [cutF_w h h2, e]
      show _ = pI S 1246 x + wsE E (qws A ++ [qg A])
      rw [show wsE E (qws A ++ [qg A]) = wsE E (qws A) + siE E (qg A) from fo_app, i3, Int32.add_assoc]

set_option maxHeartbeats 4000000 in
set_option maxRecDepth 100000 in
theorem k_X12_fineAt7 (l : Launch) (G : va_G) (cy : Nat → ClassId) (κ : Nat → Nat) (S : PS) (sz : Nat) (x : Nat) (a1 : Int32) (a1_z : Int) (t : Mt) (hG : GX S) (ha_x : At S x 12) (hz_a1 : a1.toInt = a1_z) (hp_0 : 0 ≤ a1_z) (hp_1 : a1_z ≤ 13199) (hp_2 : MI S x) (hp_3 : MtR S x a1_z.toNat t) : Ci l yX12_fineAt wsX12_fineAt ({ frames := 4, cells := 0, slots := 0, locals := 192 }) G cy κ S sz [.ref x, .int (a1)] (fun (r : Int32) (S9 : PS) => S = S9 ∧ (-2147483648 ≤ r.toInt ∧ r.toInt ≤ 2147483647 ∧ r = mtZ S x t)) := by
  refine ent_m (cc := cX12_fineAt) (maxL := 4) (ret := (some .int)) (by decide) rfl (Nat.le_of_ble_eq_true rfl) ?_
  intro p e s m below meth c ls X hr hlocks hin hw hl hsz
  subst hsz
  have X : Cx p c cX12_fineAt 4 s [.ref x, .int (a1)].toArray wsX12_fineAt RX12 m G cy κ (AS S s.heap.size) := X
  have hl : lv_has ls 4 [(0, .ref x), (1, .int (a1))] := hl
  have rg_a1 : (-2147483648) ≤ a1_z ∧ a1_z ≤ 2147483647 := by rw [← hz_a1]; exact ⟨z_lo _, z_hi _⟩
  generalize hQQ : MQ below _ _ _ _ _ _ = QQ
  replace hQQ := hQQ.symm
  refine lv_iconst (v := 0) X.1 X.2.1 dX12_fineAt_0 (by decide) ?_
  refine lv_istore_n (lv' := [(2, .int 0), (0, .ref x), (1, .int (a1))]) X.1 X.2.1 dX12_fineAt_1 rfl hl (by decide) rfl (fun ls hl => ?_)
  refine lv_iconst (v := 0) X.1 X.2.1 dX12_fineAt_2 (by decide) ?_
  refine lv_istore_n (lv' := [(3, .int 0), (2, .int 0), (0, .ref x), (1, .int (a1))]) X.1 X.2.1 dX12_fineAt_3 rfl hl (by decide) rfl (fun ls hl => ?_)
  have L_1 : ∀ (n : Nat) (H : Heap) (locs : List Loc) (ls : Array Slot) (i2_2 : Int32) (i2_2_z : Int) (i3_3 : Int32) (i3_3_z : Int), ((12 - i3_3_z).toNat = n) → (Wd G cy (AS S s.heap.size) s.heap S H locs) → (i2_2.toInt = i2_2_z) → (i3_3.toInt = i3_3_z) → (0 ≤ i3_3_z ∧ i3_3_z ≤ 12) → ((i2_2) = mtZ S x (t.take (i3_3_z).toNat)) → (i3_3_z ≤ (t.length : Int)) → (lv_has ls 4 [(2, .int (i2_2)), (3, .int (i3_3)), (0, .ref x), (1, .int (a1))]) → W p l e ({ frames := 4, cells := 0, slots := 0, locals := 192 }) s m [.ref x, .int (a1)].toArray below meth c H locs 0 0 QQ (F0 m 4 ls []) := by
    intro n
    induction n using Nat.strongRecOn with
    | ind n ih_L_1 =>
    intro H locs ls i2_2 i2_2_z i3_3 i3_3_z hn hw hz_i2_2 hz_i3_3 hr_i3_3 iv_4 iv_5 hl
    have rg_6 : (-2147483648) ≤ i2_2_z ∧ i2_2_z ≤ 2147483647 := by rw [← hz_i2_2]; exact ⟨z_lo _, z_hi _⟩
    have rg_7 : (-2147483648) ≤ i3_3_z ∧ i3_3_z ≤ 2147483647 := by rw [← hz_i3_3]; exact ⟨z_lo _, z_hi _⟩
    refine lv_iload_n X.1 X.2.1 dX12_fineAt_4 rfl (lv_at hl 1 rfl) ?_
    refine lv_aload_n X.1 X.2.1 dX12_fineAt_5 rfl (lv_at hl 2 rfl) ?_
    obtain ⟨q_8, h_9, h_10, h_11⟩ := gQ_12_1235 hG ha_x
    refine r_getR (g := 1235) X hw ha_x rfl 35 h_9 (by decide) rfl inn_X12_fineAt_12 (by decide) (X.2.2.2.1 (.fieldLink RX12 90 "SilkMillModel" "metreEnds" "[I") (by decide +kernel)) rfl (gv_1235 _ _) dX12_fineAt_6 ?_
    refine lv_iload_n X.1 X.2.1 dX12_fineAt_9 rfl (lv_at hl 3 rfl) ?_
    refine r_iald X hw h_10 rfl (by rw [h_11]; exact z_ix hz_a1 (by omega) (by omega)) dX12_fineAt_10 ?_
    refine lv_topi (fun v_12 ev_12 => ?_)
    have z_13 := gE_914 hG h_10 (Int32.toNatClampNeg (a1)); rw [← ev_12] at z_13
    have ev_12 := ev_12.symm
    have zf_14 : zA S x 1235 (a1_z).toNat = v_12.toInt := (zA_of h_9 hz_a1 (by omega) ev_12)
    have fl_15 : v_12.toInt = (t.length : Int) := by rw [← hp_3.1, ← zf_14]
    refine lv_icmp_ge (tgt := 57) X.1 X.2.1 dX12_fineAt_11 (by decide) (fun c_16 => ?_) (fun c_16 => ?_)
    · have z_b_17 := trivial
      have k_18 : i3_3_z ≥ v_12.toInt := z_le rfl hz_i3_3 c_16
      refine lv_iload_n X.1 X.2.1 dX12_fineAt_57 rfl (lv_at hl 0 rfl) ?_
      rw [hQQ]
      exact ret_i X hw hr hlocks (Nat.le_of_ble_eq_true rfl) (Nat.le_of_ble_eq_true rfl) ⟨rfl, ⟨z_lo _, z_hi _, by rw [iv_4, show (i3_3_z).toNat = t.length by omega, List.take_length]⟩⟩ dX12_fineAt_58
    · have z_b_19 := trivial
      have k_20 : i3_3_z < v_12.toInt := z_nle rfl hz_i3_3 c_16
      refine lv_iload_n X.1 X.2.1 dX12_fineAt_14 rfl (lv_at hl 0 rfl) ?_
      refine lv_aload_n X.1 X.2.1 dX12_fineAt_15 rfl (lv_at hl 2 rfl) ?_
      refine lv_aload_n X.1 X.2.1 dX12_fineAt_16 rfl (lv_at hl 2 rfl) ?_
      obtain ⟨q_21, h_22, h_23, h_24⟩ := gQ_12_1236 hG ha_x
      refine r_getR (g := 1236) X hw ha_x rfl 36 h_22 (by decide) rfl inn_X12_fineAt_12 (by decide) (X.2.2.2.1 (.fieldLink RX12 94 "SilkMillModel" "drawn" "[I") (by decide +kernel)) rfl (gv_1236 _ _) dX12_fineAt_17 ?_
      refine lv_bipush (v := 12) X.1 X.2.1 dX12_fineAt_20 (by decide) ?_
      refine lv_iload_n X.1 X.2.1 dX12_fineAt_22 rfl (lv_at hl 3 rfl) ?_
      refine lv_imul X.1 X.2.1 dX12_fineAt_23 ?_
      refine lv_topi (fun v_25 ev_25 => ?_)
      have z_26 : v_25.toInt = 12 * a1_z := z_mul ev_25 ti_12 hz_a1 (by omega) (by omega)
      refine lv_iload_n X.1 X.2.1 dX12_fineAt_24 rfl (lv_at hl 1 rfl) ?_
      refine lv_iadd X.1 X.2.1 dX12_fineAt_25 ?_
      refine lv_topi (fun v_27 ev_27 => ?_)
      have z_28 : v_27.toInt = (12 * a1_z) + i3_3_z := z_add ev_27 z_26 hz_i3_3 (by omega) (by omega)
      refine r_iald X hw h_23 rfl (by rw [h_24]; exact z_ix z_28 (by omega) (by omega)) dX12_fineAt_26 ?_
      refine lv_topi (fun v_29 ev_29 => ?_)
      have z_30 := gE_934 hG h_23 (Int32.toNatClampNeg (v_27)); rw [← ev_29] at z_30
      have ev_29 := ev_29.symm
      have zf_31 : zA S x 1236 (((12 * a1_z) + i3_3_z)).toNat = v_29.toInt := (zA_of h_22 z_28 (by omega) ev_29)
      obtain ⟨fz_32, fz_33⟩ : ∃ z, t[(i3_3_z).toNat]? = some z := ⟨_, List.getElem?_eq_getElem (by omega)⟩
      obtain ⟨fz_34, fz_35, fz_36⟩ := hp_3.2 _ _ fz_33
      have fz_37 : v_29.toInt = 1000 * (fz_32.1 : Int) + fz_32.2.toInt := by rw [← fz_34, ← zf_31]; congr 1; omega
      have zf_38 : zA S x 1236 (((12 * a1_z) + i3_3_z)).toNat = v_29.toInt := (zA_of h_22 z_28 (by omega) ev_29)
      have m6_39 := MI_6 hp_2 (j := ((12 * a1_z) + i3_3_z)) (by omega) (by omega); rw [zf_38] at m6_39
      obtain ⟨d_40, d_41, d_42, d_43, d_44⟩ := dr_ok (u := v_29.toInt) (by omega) m6_39 (lenZ_ge S x (v_29.toInt / 1000)) (lenZ_le hG ha_x (v_29.toInt / 1000))
      clear m6_39 zf_38
      refine lv_sipush (v := 1000) X.1 X.2.1 dX12_fineAt_27 (by decide) ?_
      refine lv_idiv X.1 X.2.1 dX12_fineAt_30 (by decide) ?_
      refine lv_topi (fun v_45 ev_45 => ?_)
      have z_46 : v_45.toInt = v_29.toInt / 1000 := z_div ev_45 rfl ti_1000 (by omega) (by omega)
      refine lv_aload_n X.1 X.2.1 dX12_fineAt_31 rfl (lv_at hl 2 rfl) ?_
      refine r_getR (g := 1236) X hw ha_x rfl 36 h_22 (by decide) rfl inn_X12_fineAt_12 (by decide) (X.2.2.2.1 (.fieldLink RX12 94 "SilkMillModel" "drawn" "[I") (by decide +kernel)) rfl (gv_1236 _ _) dX12_fineAt_32 ?_
      refine lv_bipush (v := 12) X.1 X.2.1 dX12_fineAt_35 (by decide) ?_
      refine lv_iload_n X.1 X.2.1 dX12_fineAt_37 rfl (lv_at hl 3 rfl) ?_
      refine lv_imul X.1 X.2.1 dX12_fineAt_38 ?_
      refine lv_topi (fun v_47 ev_47 => ?_)
      have z_48 : v_47.toInt = 12 * a1_z := z_mul ev_47 ti_12 hz_a1 (by omega) (by omega)
      refine lv_iload_n X.1 X.2.1 dX12_fineAt_39 rfl (lv_at hl 1 rfl) ?_
      refine lv_iadd X.1 X.2.1 dX12_fineAt_40 ?_
      refine lv_topi (fun v_49 ev_49 => ?_)
      have z_50 : v_49.toInt = (12 * a1_z) + i3_3_z := z_add ev_49 z_48 hz_i3_3 (by omega) (by omega)
      refine r_iald X hw h_23 rfl (by rw [h_24]; exact z_ix z_50 (by omega) (by omega)) dX12_fineAt_41 ?_
      rw [show (Int32.toNatClampNeg (v_49)) = (Int32.toNatClampNeg (v_27)) from (z_nc z_50 (by omega)).trans (z_nc z_28 (by omega)).symm]
      rw [ev_29]
      refine lv_sipush (v := 1000) X.1 X.2.1 dX12_fineAt_42 (by decide) ?_
      refine lv_irem X.1 X.2.1 dX12_fineAt_45 (by decide) ?_
      refine lv_topi (fun v_51 ev_51 => ?_)
      have z_52 : v_51.toInt = v_29.toInt % 1000 := z_rem ev_51 rfl ti_1000 (by omega) (by omega)
      have z_53 : 0 ≤ v_51.toInt ∧ v_51.toInt < 1000 := by rw [z_52]; exact ⟨Int.emod_nonneg _ (by omega), Int.emod_lt_of_pos _ (by omega)⟩
      refine k_i (rm := { frames := 3, cells := 0, slots := 0, locals := 144 }) (av := [.ref x, .int (v_45), .int (v_51)]) X hw (va_runV (As := [.int (v_45), .int (v_51)]) (rest := [.int (i2_2)]) (cfix X) (k_X12_fineOf2 l G cy κ S _ x (v_45) ((v_29.toInt / 1000)) (v_51) ((v_29.toInt % 1000)) hG ha_x z_46 z_52 (by first | assumption | omega) (by first | assumption | omega) (by first | assumption | omega) (by first | assumption | omega) (by first | assumption | omega)) (cwV 2 X.2.2.2.1 gX12_fineAt_X12_fineOf rfl rfl rfl (by decide +kernel) ⟨Nat.le_of_ble_eq_true rfl, Nat.le_of_ble_eq_true rfl⟩) (pre_V X hw _ ha_x rfl (by decide) rfl) rfl rfl hl.1 rfl (lv_room (Nat.le_of_ble_eq_true rfl)) dX12_fineAt_46 ⟨Nat.le_of_ble_eq_true rfl, Nat.le_of_ble_eq_true rfl⟩) 0 0 (Nat.le_of_ble_eq_true rfl) (Nat.le_of_ble_eq_true rfl) (fun rr_54 S_55 H locs hp hw hfr hnw => ?_)
      obtain ⟨e2, hp⟩ := hp
      subst e2
      obtain ⟨fo_56, fo_57, fo_58⟩ := hp
      have rg_59 := And.intro (z_lo rr_54) (z_hi rr_54)
      refine lv_iadd X.1 X.2.1 dX12_fineAt_49 ?_
      refine lv_topi (fun v_60 ev_60 => ?_)
      have rg_61 := And.intro (z_lo v_60) (z_hi v_60)
      refine lv_istore_n (lv' := [(2, .int (v_60)), (3, .int (i3_3)), (0, .ref x), (1, .int (a1))]) X.1 X.2.1 dX12_fineAt_50 rfl hl (by decide) rfl (fun ls hl => ?_)
      obtain ⟨x_62, ex_62⟩ : ∃ y : Int32, y = i3_3 + 1 := ⟨_, rfl⟩
      have z_63 : x_62.toInt = i3_3_z + 1 := z_add ex_62 hz_i3_3 ti_1 (by omega) (by omega)
      refine lv_iinc (v := x_62) (lv' := [(3, .int (x_62)), (2, .int (v_60)), (0, .ref x), (1, .int (a1))]) X.1 X.2.1 dX12_fineAt_51 hl (k := 1) rfl (by rw [ex_62]; rfl) (by decide) rfl (fun ls hl => ?_)
      refine lv_goto (tgt := 4) X.1 X.2.1 dX12_fineAt_54 (by decide) ?_
      have fe_64 : rr_54 = Int32.ofInt (fnZ S x (fz_32.1 : Int) fz_32.2.toInt) := oi_of (by rw [fo_58, show ((v_29.toInt / 1000) : Int) = (fz_32.1 : Int) by omega, show ((v_29.toInt % 1000) : Int) = fz_32.2.toInt by omega])
      exact ih_L_1 _ (by omega) _ _ _ (v_60) (v_60.toInt) (x_62) (x_62.toInt) rfl hw rfl rfl (by omega) (by rw [show (x_62.toInt).toNat = (i3_3_z).toNat + 1 by omega, mtZ_s fz_33, ← iv_4, ← fe_64]; exact ev_60) (by omega) (lv_sub hl [1, 0, 2, 3] rfl)
  exact L_1 _ _ _ _ (0) (0) (0) (0) rfl hw ti_0 ti_0 (by omega) rfl (by omega) (lv_sub hl [1, 0, 2, 3] rfl)
set_option maxHeartbeats 4000000 in
set_option maxRecDepth 100000 in
theorem k_X12_weight8 (l : Launch) (G : va_G) (cy : Nat → ClassId) (κ : Nat → Nat) (S : PS) (sz : Nat) (x : Nat) (a1 : Int32) (a1_z : Int) (a2 : Int32) (a2_z : Int) (g : List Mt) (hG : GX S) (ha_x : At S x 12) (hz_a1 : a1.toInt = a1_z) (hz_a2 : a2.toInt = a2_z) (hp_0 : 0 ≤ a1_z) (hp_1 : 0 ≤ a2_z) (hp_2 : a1_z + a2_z ≤ 13200) (hp_3 : MI S x) (hp_4 : a2_z = (g.length : Int)) (hp_5 : (∀ (j : Nat) (t : Mt), g[j]? = some t → MtR S x (a1_z.toNat + j) t)) : Ci l yX12_weight wsX12_weight ({ frames := 5, cells := 0, slots := 0, locals := 240 }) G cy κ S sz [.ref x, .int (a1), .int (a2)] (fun (r : Int32) (S9 : PS) => S = S9 ∧ (-2147483648 ≤ r.toInt ∧ r.toInt ≤ 2147483647 ∧ r = siZ S x g)) := by
  refine ent_m (cc := cX12_weight) (maxL := 5) (ret := (some .int)) (by decide) rfl (Nat.le_of_ble_eq_true rfl) ?_
  intro p e s m below meth c ls X hr hlocks hin hw hl hsz
  subst hsz
  have X : Cx p c cX12_weight 5 s [.ref x, .int (a1), .int (a2)].toArray wsX12_weight RX12 m G cy κ (AS S s.heap.size) := X
  have hl : lv_has ls 5 [(0, .ref x), (1, .int (a1)), (2, .int (a2))] := hl
  have rg_a1 : (-2147483648) ≤ a1_z ∧ a1_z ≤ 2147483647 := by rw [← hz_a1]; exact ⟨z_lo _, z_hi _⟩
  have rg_a2 : (-2147483648) ≤ a2_z ∧ a2_z ≤ 2147483647 := by rw [← hz_a2]; exact ⟨z_lo _, z_hi _⟩
  generalize hQQ : MQ below _ _ _ _ _ _ = QQ
  replace hQQ := hQQ.symm
  refine lv_iconst (v := 0) X.1 X.2.1 dX12_weight_0 (by decide) ?_
  refine lv_istore_n (lv' := [(3, .int 0), (0, .ref x), (1, .int (a1)), (2, .int (a2))]) X.1 X.2.1 dX12_weight_1 rfl hl (by decide) rfl (fun ls hl => ?_)
  refine lv_iload_n X.1 X.2.1 dX12_weight_2 rfl (lv_at hl 2 rfl) ?_
  refine lv_istore (lv' := [(4, .int (a1)), (3, .int 0), (0, .ref x), (1, .int (a1)), (2, .int (a2))]) X.1 X.2.1 dX12_weight_3 hl (by decide) rfl (fun ls hl => ?_)
  have L_1 : ∀ (n : Nat) (H : Heap) (locs : List Loc) (ls : Array Slot) (i3_2 : Int32) (i3_2_z : Int) (i4_3 : Int32) (i4_3_z : Int), ((a1_z + a2_z - i4_3_z).toNat = n) → (Wd G cy (AS S s.heap.size) s.heap S H locs) → (i3_2.toInt = i3_2_z) → (i4_3.toInt = i4_3_z) → (0 ≤ i4_3_z ∧ i4_3_z ≤ 13200) → ((i3_2) = siZ S x (g.take (i4_3_z - a1_z).toNat)) → (a1_z ≤ i4_3_z) → (i4_3_z ≤ a1_z + a2_z) → (lv_has ls 5 [(3, .int (i3_2)), (4, .int (i4_3)), (0, .ref x), (1, .int (a1)), (2, .int (a2))]) → W p l e ({ frames := 5, cells := 0, slots := 0, locals := 240 }) s m [.ref x, .int (a1), .int (a2)].toArray below meth c H locs 0 0 QQ (F0 m 5 ls []) := by
    intro n
    induction n using Nat.strongRecOn with
    | ind n ih_L_1 =>
    intro H locs ls i3_2 i3_2_z i4_3 i4_3_z hn hw hz_i3_2 hz_i4_3 hr_i4_3 iv_4 iv_5 iv_6 hl
    have rg_7 : (-2147483648) ≤ i3_2_z ∧ i3_2_z ≤ 2147483647 := by rw [← hz_i3_2]; exact ⟨z_lo _, z_hi _⟩
    have rg_8 : (-2147483648) ≤ i4_3_z ∧ i4_3_z ≤ 2147483647 := by rw [← hz_i4_3]; exact ⟨z_lo _, z_hi _⟩
    refine lv_iload X.1 X.2.1 dX12_weight_5 (lv_at hl 1 rfl) ?_
    refine lv_iload_n X.1 X.2.1 dX12_weight_7 rfl (lv_at hl 3 rfl) ?_
    refine lv_iload_n X.1 X.2.1 dX12_weight_8 rfl (lv_at hl 4 rfl) ?_
    refine lv_iadd X.1 X.2.1 dX12_weight_9 ?_
    refine lv_topi (fun v_9 ev_9 => ?_)
    have z_10 : v_9.toInt = a1_z + a2_z := z_add ev_9 hz_a1 hz_a2 (by omega) (by omega)
    refine lv_icmp_ge (tgt := 28) X.1 X.2.1 dX12_weight_10 (by decide) (fun c_11 => ?_) (fun c_11 => ?_)
    · have z_b_12 := trivial
      have k_13 : i4_3_z ≥ (a1_z + a2_z) := z_le z_10 hz_i4_3 c_11
      refine lv_iload_n X.1 X.2.1 dX12_weight_28 rfl (lv_at hl 0 rfl) ?_
      rw [hQQ]
      exact ret_i X hw hr hlocks (Nat.le_of_ble_eq_true rfl) (Nat.le_of_ble_eq_true rfl) ⟨rfl, ⟨z_lo _, z_hi _, by rw [iv_4, show (i4_3_z - a1_z).toNat = g.length by omega, List.take_length]⟩⟩ dX12_weight_29
    · have z_b_14 := trivial
      have k_15 : i4_3_z < (a1_z + a2_z) := z_nle z_10 hz_i4_3 c_11
      refine lv_iload_n X.1 X.2.1 dX12_weight_13 rfl (lv_at hl 0 rfl) ?_
      refine lv_aload_n X.1 X.2.1 dX12_weight_14 rfl (lv_at hl 2 rfl) ?_
      refine lv_iload X.1 X.2.1 dX12_weight_15 (lv_at hl 1 rfl) ?_
      obtain ⟨t_16, ht_17⟩ : ∃ t, g[(i4_3_z - a1_z).toNat]? = some t := ⟨_, List.getElem?_eq_getElem (by omega)⟩
      refine k_i (rm := { frames := 4, cells := 0, slots := 0, locals := 192 }) (av := [.ref x, .int (i4_3)]) X hw (va_runV (As := [.int (i4_3)]) (rest := [.int (i3_2)]) (cfix X) (k_X12_fineAt7 l G cy κ S _ x (i4_3) (i4_3_z) t_16 hG ha_x hz_i4_3 (by omega) (by omega) hp_3 (by rw [show (i4_3_z).toNat = a1_z.toNat + (i4_3_z - a1_z).toNat by omega]; exact hp_5 _ _ ht_17)) (cwV 1 X.2.2.2.1 gX12_weight_X12_fineAt rfl rfl rfl (by decide +kernel) ⟨Nat.le_of_ble_eq_true rfl, Nat.le_of_ble_eq_true rfl⟩) (pre_V X hw _ ha_x rfl (by decide) rfl) rfl rfl hl.1 rfl (lv_room (Nat.le_of_ble_eq_true rfl)) dX12_weight_17 ⟨Nat.le_of_ble_eq_true rfl, Nat.le_of_ble_eq_true rfl⟩) 0 0 (Nat.le_of_ble_eq_true rfl) (Nat.le_of_ble_eq_true rfl) (fun rr_18 S_19 H locs hp hw hfr hnw => ?_)
      obtain ⟨e2, hp⟩ := hp
      subst e2
      obtain ⟨fa_20, fa_21, fa_22⟩ := hp
      have rg_23 := And.intro (z_lo rr_18) (z_hi rr_18)
      refine lv_iadd X.1 X.2.1 dX12_weight_20 ?_
      refine lv_topi (fun v_24 ev_24 => ?_)
      have rg_25 := And.intro (z_lo v_24) (z_hi v_24)
      refine lv_istore_n (lv' := [(3, .int (v_24)), (4, .int (i4_3)), (0, .ref x), (1, .int (a1)), (2, .int (a2))]) X.1 X.2.1 dX12_weight_21 rfl hl (by decide) rfl (fun ls hl => ?_)
      obtain ⟨x_26, ex_26⟩ : ∃ y : Int32, y = i4_3 + 1 := ⟨_, rfl⟩
      have z_27 : x_26.toInt = i4_3_z + 1 := z_add ex_26 hz_i4_3 ti_1 (by omega) (by omega)
      refine lv_iinc (v := x_26) (lv' := [(4, .int (x_26)), (3, .int (v_24)), (0, .ref x), (1, .int (a1)), (2, .int (a2))]) X.1 X.2.1 dX12_weight_22 hl (k := 1) rfl (by rw [ex_26]; rfl) (by decide) rfl (fun ls hl => ?_)
      refine lv_goto (tgt := 5) X.1 X.2.1 dX12_weight_25 (by decide) ?_
      exact ih_L_1 _ (by omega) _ _ _ (v_24) (v_24.toInt) (x_26) (x_26.toInt) rfl hw rfl rfl (by omega) (by rw [show (x_26.toInt - a1_z).toNat = (i4_3_z - a1_z).toNat + 1 by omega, siZ_s ht_17, ← iv_4, ev_24]; exact congrArg (fun y => i3_2 + y) fa_22) (by omega) (by omega) (lv_sub hl [1, 0, 2, 3, 4] rfl)
  exact L_1 _ _ _ _ (0) (0) (a1) (a1_z) rfl hw ti_0 hz_a1 (by omega) (by rw [show (a1_z - a1_z).toNat = 0 by omega]; rfl) (by omega) (by omega) (lv_sub hl [1, 0, 2, 3, 4] rfl)
