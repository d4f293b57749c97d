/-! ===== count, the reference ===== -/
noncomputable def v6 (S : PS) (x j : Nat) : Int32 := if ((j % 60 : Nat) : Int) < zA S x 1202 (j / 60) then slZ S x (j : Int) 0 (zA S x 1208 j).toNat else 0
noncomputable def v10 (S : PS) (x j : Nat) : Int32 := if ((j % 60 : Nat) : Int) < zA S x 1202 (j / 60) ∧ zA S x 1207 j = 6 then slZ S x (j : Int) (zA S x 1208 j) (lenZ S x (j : Int) - zA S x 1208 j).toNat else 0
theorem v6_n {S : PS} {x : Nat} {z m : Int} (hz : 0 ≤ z) (hf : zA S x 1202 (z / 60).toNat = m) (h : m ≤ z % 60) : v6 S x z.toNat = 0 := by
  have e1 : z.toNat / 60 = (z / 60).toNat := by omega
  have e2 : ((z.toNat % 60 : Nat) : Int) = z % 60 := by omega
  unfold v6
  rw [e1, e2, hf, if_neg (by omega)]
theorem v6_y {S : PS} {x : Nat} {z m p : Int} (hz : 0 ≤ z) (hf : zA S x 1202 (z / 60).toNat = m) (h : z % 60 < m) (h8 : zA S x 1208 z.toNat = p) : v6 S x z.toNat = slZ S x z 0 p.toNat := by
  have e1 : z.toNat / 60 = (z / 60).toNat := by omega
  have e2 : ((z.toNat % 60 : Nat) : Int) = z % 60 := by omega
  have e3 : ((z.toNat : Nat) : Int) = z := by omega
  unfold v6
  rw [e1, e2, hf, if_pos h, e3, h8]
theorem v6_to {S T : PS} {x : Nat} (e2 : zA T x 1202 = zA S x 1202) (e8 : zA T x 1208 = zA S x 1208) (hf : fnZ T x = fnZ S x) : v6 T x = v6 S x := by
  funext j
  unfold v6
  rw [e2, e8, slZ_eq hf]
theorem v10_n {S : PS} {x : Nat} {z m : Int} (hz : 0 ≤ z) (hf : zA S x 1202 (z / 60).toNat = m) (h : m ≤ z % 60) : v10 S x z.toNat = 0 := by
  have e1 : z.toNat / 60 = (z / 60).toNat := by omega
  have e2 : ((z.toNat % 60 : Nat) : Int) = z % 60 := by omega
  unfold v10
  rw [e1, e2, hf, if_neg (fun y => by have := y.1; omega)]
theorem v10_m {S : PS} {x : Nat} {z k : Int} (h7 : zA S x 1207 z.toNat = k) (h : k ≠ 6) : v10 S x z.toNat = 0 := by
  unfold v10
  rw [h7, if_neg (by intro y; exact h y.2)]
theorem v10_y {S : PS} {x : Nat} {z m p ln : Int} (hz : 0 ≤ z) (hf : zA S x 1202 (z / 60).toNat = m) (h : z % 60 < m) (h7 : zA S x 1207 z.toNat = 6) (h8 : zA S x 1208 z.toNat = p) (hl : lenZ S x z = ln) : v10 S x z.toNat = slZ S x z p (ln - p).toNat := by
  have e1 : z.toNat / 60 = (z / 60).toNat := by omega
  have e2 : ((z.toNat % 60 : Nat) : Int) = z % 60 := by omega
  have e3 : ((z.toNat : Nat) : Int) = z := by omega
  unfold v10
  rw [e1, e2, hf, if_pos ⟨h, h7⟩, e3, h8, hl]
theorem v10_to {S T : PS} {x : Nat} (e2 : zA T x 1202 = zA S x 1202) (e7 : zA T x 1207 = zA S x 1207) (e8 : zA T x 1208 = zA S x 1208) (hf : fnZ T x = fnZ S x) (hl : lenZ T x = lenZ S x) : v10 T x = v10 S x := by
  funext j
  unfold v10
  rw [e2, e7, e8, hl, slZ_eq hf]
theorem la_y {S : PS} {mo n : Nat} (h : zA S mo 1253 n ≠ 0) : laN S mo (n + 1) = laN S mo n + 1 := by
  show laN S mo n + (if zA S mo 1253 n = 0 then 0 else 1) = _
  rw [if_neg h]
theorem la_n {S : PS} {mo n : Nat} (h : zA S mo 1253 n = 0) : laN S mo (n + 1) = laN S mo n := by
  show laN S mo n + (if zA S mo 1253 n = 0 then 0 else 1) = _
  rw [if_pos h, Int.add_zero]
noncomputable def cnZ (S : PS) (x : Nat) (f9 : Nat → Int32) (w9 : Int32) (k : Int) : Int32 := if k = 0 then pI S 1201 x else if k = 1 then pI S 1211 x else if k = 2 then pI S 1238 x else if k = 3 then pI S 1245 x else if k = 4 then pI S 1228 x else if k = 5 then pI S 1262 x else if k = 6 then suL (v6 S x) (List.range (60 * (pI S 1201 x).toInt).toNat) else if k = 7 then w9 else if k = 8 then suL f9 (List.range (pI S 1211 x).toInt.toNat) else if k = 9 then pI S 1246 x else if k = 10 then suL (v10 S x) (List.range (60 * (pI S 1201 x).toInt).toNat) else if k = 11 then Int32.ofInt (laN S x 16) else -1
theorem cnZ_0 {S : PS} {x : Nat} {f9 : Nat → Int32} {w9 : Int32} {k : Int} (h : k = 0) : cnZ S x f9 w9 k = pI S 1201 x := by subst h; rfl
theorem cnZ_1 {S : PS} {x : Nat} {f9 : Nat → Int32} {w9 : Int32} {k : Int} (h : k = 1) : cnZ S x f9 w9 k = pI S 1211 x := by subst h; rfl
theorem cnZ_2 {S : PS} {x : Nat} {f9 : Nat → Int32} {w9 : Int32} {k : Int} (h : k = 2) : cnZ S x f9 w9 k = pI S 1238 x := by subst h; rfl
theorem cnZ_3 {S : PS} {x : Nat} {f9 : Nat → Int32} {w9 : Int32} {k : Int} (h : k = 3) : cnZ S x f9 w9 k = pI S 1245 x := by subst h; rfl
theorem cnZ_4 {S : PS} {x : Nat} {f9 : Nat → Int32} {w9 : Int32} {k : Int} (h : k = 4) : cnZ S x f9 w9 k = pI S 1228 x := by subst h; rfl
theorem cnZ_5 {S : PS} {x : Nat} {f9 : Nat → Int32} {w9 : Int32} {k : Int} (h : k = 5) : cnZ S x f9 w9 k = pI S 1262 x := by subst h; rfl
theorem cnZ_6 {S : PS} {x : Nat} {f9 : Nat → Int32} {w9 : Int32} {k : Int} (h : k = 6) : cnZ S x f9 w9 k = suL (v6 S x) (List.range (60 * (pI S 1201 x).toInt).toNat) := by subst h; rfl
theorem cnZ_7 {S : PS} {x : Nat} {f9 : Nat → Int32} {w9 : Int32} {k : Int} (h : k = 7) : cnZ S x f9 w9 k = w9 := by subst h; rfl
theorem cnZ_8 {S : PS} {x : Nat} {f9 : Nat → Int32} {w9 : Int32} {k : Int} (h : k = 8) : cnZ S x f9 w9 k = suL f9 (List.range (pI S 1211 x).toInt.toNat) := by subst h; rfl
theorem cnZ_9 {S : PS} {x : Nat} {f9 : Nat → Int32} {w9 : Int32} {k : Int} (h : k = 9) : cnZ S x f9 w9 k = pI S 1246 x := by subst h; rfl
theorem cnZ_10 {S : PS} {x : Nat} {f9 : Nat → Int32} {w9 : Int32} {k : Int} (h : k = 10) : cnZ S x f9 w9 k = suL (v10 S x) (List.range (60 * (pI S 1201 x).toInt).toNat) := by subst h; rfl
theorem cnZ_11 {S : PS} {x : Nat} {f9 : Nat → Int32} {w9 : Int32} {k : Int} (h : k = 11) : cnZ S x f9 w9 k = Int32.ofInt (laN S x 16) := by subst h; rfl
theorem cnZ_d {S : PS} {x : Nat} {f9 : Nat → Int32} {w9 : Int32} {k : Int} (h : ¬ (0 ≤ k ∧ k ≤ 11)) : cnZ S x f9 w9 k = -1 := by
  unfold cnZ
  rw [if_neg (by omega), if_neg (by omega), if_neg (by omega), if_neg (by omega), if_neg (by omega), if_neg (by omega), if_neg (by omega), if_neg (by omega), if_neg (by omega), if_neg (by omega), if_neg (by omega), if_neg (by omega)]

set_option maxHeartbeats 4000000 in
set_option maxRecDepth 100000 in
theorem k_X12_count9 (l : Launch) (G : va_G) (cy : Nat → ClassId) (κ : Nat → Nat) (S : PS) (sz : Nat) (x : Nat) (a1 : Int32) (a1_z : Int) (f9 : Nat → Int32) (w9 : Int32) (hG : GX S) (ha_x : At S x 12) (hz_a1 : a1.toInt = a1_z) (hp_0 : MI S x) (hp_1 : (∃ g : List Mt, (g.length : Int) = zA S x 1239 (pI S 1238 x).toInt.toNat ∧ (∀ (j : Nat) (t : Mt), g[j]? = some t → MtR S x j t) ∧ siZ S x g = w9)) (hp_2 : (∀ p : Nat, (p : Int) < (pI S 1211 x).toInt → ∃ g, GrW S x p g ∧ siZ S x g = f9 p)) : Ci l yX12_count wsX12_count ({ frames := 6, cells := 0, slots := 0, locals := 288 }) G cy κ S sz [.ref x, .int (a1)] (fun (r : Int32) (S9 : PS) => Ok MN S S9 ∧ (-2147483648 ≤ r.toInt ∧ r.toInt ≤ 2147483647 ∧ r = cnZ S x f9 w9 a1_z)) := by
  refine ent_m (cc := cX12_count) (maxL := 4) (ret := (some .int)) (by decide) rfl (Nat.le_of_ble_eq_true rfl) ?_
  intro p e s m below meth c ls X hr hlocks hin hw hl hsz
  subst hsz
  have X : Cx p c cX12_count 4 s [.ref x, .int (a1)].toArray wsX12_count RX12 m G cy κ (AS S s.heap.size) := X
  have hl : lv_has ls 4 [(0, .ref x), (1, .int (a1))] := hl
  have rg_a1 : (-2147483648) ≤ a1_z ∧ a1_z ≤ 2147483647 := by rw [← hz_a1]; exact ⟨z_lo _, z_hi _⟩
  have hO : Ok MN S S := Ok.rf hG
  generalize hQQ : MQ below _ _ _ _ _ _ = QQ
  replace hQQ := hQQ.symm
  obtain ⟨v_1, ev_1⟩ : ∃ v, pI S 1201 x = v := ⟨_, rfl⟩
  have rg_2 := gI_12_1201 hO.1 ha_x; rw [ev_1] at rg_2
  have pz_3 : (pI S 1201 x).toInt = v_1.toInt := by rw [ev_1]
  have pz_4 : (pI S 1201 x).toInt = v_1.toInt := (congrArg Int32.toInt ev_1).trans rfl
  obtain ⟨v_5, ev_5⟩ : ∃ v, pI S 1211 x = v := ⟨_, rfl⟩
  have rg_6 := gI_12_1211 hO.1 ha_x; rw [ev_5] at rg_6
  have pz_7 : (pI S 1211 x).toInt = v_5.toInt := by rw [ev_5]
  have pz_8 : (pI S 1211 x).toInt = v_5.toInt := (congrArg Int32.toInt ev_5).trans rfl
  obtain ⟨v_9, ev_9⟩ : ∃ v, pI S 1238 x = v := ⟨_, rfl⟩
  have rg_10 := gI_12_1238 hO.1 ha_x; rw [ev_9] at rg_10
  have pz_11 : (pI S 1238 x).toInt = v_9.toInt := by rw [ev_9]
  have pz_12 : (pI S 1238 x).toInt = v_9.toInt := (congrArg Int32.toInt ev_9).trans rfl
  obtain ⟨v_13, ev_13⟩ : ∃ v, pI S 1245 x = v := ⟨_, rfl⟩
  have rg_15 := And.intro (z_lo v_13) (z_hi v_13)
  have pz_16 : (pI S 1245 x).toInt = v_13.toInt := by rw [ev_13]
  have pz_17 : (pI S 1245 x).toInt = v_13.toInt := (congrArg Int32.toInt ev_13).trans rfl
  obtain ⟨v_18, ev_18⟩ : ∃ v, pI S 1228 x = v := ⟨_, rfl⟩
  have rg_19 := gI_12_1228 hO.1 ha_x; rw [ev_18] at rg_19
  have pz_20 : (pI S 1228 x).toInt = v_18.toInt := by rw [ev_18]
  have pz_21 : (pI S 1228 x).toInt = v_18.toInt := (congrArg Int32.toInt ev_18).trans rfl
  obtain ⟨v_22, ev_22⟩ : ∃ v, pI S 1262 x = v := ⟨_, rfl⟩
  have rg_23 := gI_12_1262 hO.1 ha_x; rw [ev_22] at rg_23
  have pz_24 : (pI S 1262 x).toInt = v_22.toInt := by rw [ev_22]
  have pz_25 : (pI S 1262 x).toInt = v_22.toInt := (congrArg Int32.toInt ev_22).trans rfl
  obtain ⟨v_26, ev_26⟩ : ∃ v, pI S 1246 x = v := ⟨_, rfl⟩
  have rg_28 := And.intro (z_lo v_26) (z_hi v_26)
  have pz_29 : (pI S 1246 x).toInt = v_26.toInt := by rw [ev_26]
  have pz_30 : (pI S 1246 x).toInt = v_26.toInt := (congrArg Int32.toInt ev_26).trans rfl
  refine lv_aload_n X.1 X.2.1 dX12_count_0 rfl (lv_at hl 0 rfl) ?_
  refine lv_iconst (v := 0) X.1 X.2.1 dX12_count_1 (by decide) ?_
  refine r_putI (v := 0) X hw ha_x rfl 0 1200 tyX12 (by decide) rfl inn_X12_count_12 tyX12_ok nmX12 (by decide) (X.2.2.2.1 (.fieldLink RX12 161 "SilkMillModel" "thrown" "I") (by decide +kernel)) rfl (Or.inl rfl) rfl rfl (Nat.le_of_ble_eq_true rfl) (st_1200 _ _) dX12_count_2 (fun H locs hw => ?_)
  obtain ⟨S_31, eS_31⟩ : ∃ T, T = sI S 1200 x (0) := ⟨_, rfl⟩
  rw [← eS_31] at hw
  have hO_32 : Ok MN S S_31 := hO.sI eS_31 (by decide +kernel) (uI_12_1200 hO.1 ha_x)
  have h_33 : pI S_31 1200 x = 0 := tI_sIs eS_31
  have t_34 : pI S_31 1201 x = v_1 := tI_sI eS_31 rfl ev_1
  have pz_35 : (pI S_31 1201 x).toInt = v_1.toInt := (congrArg Int32.toInt t_34).trans rfl
  have t_36 : pI S_31 1211 x = v_5 := tI_sI eS_31 rfl ev_5
  have pz_37 : (pI S_31 1211 x).toInt = v_5.toInt := (congrArg Int32.toInt t_36).trans rfl
  have t_38 : pI S_31 1238 x = v_9 := tI_sI eS_31 rfl ev_9
  have pz_39 : (pI S_31 1238 x).toInt = v_9.toInt := (congrArg Int32.toInt t_38).trans rfl
  refine lv_iconst (v := 0) X.1 X.2.1 dX12_count_5 (by decide) ?_
  refine lv_istore_n (lv' := [(2, .int 0), (0, .ref x), (1, .int (a1))]) X.1 X.2.1 dX12_count_6 rfl hl (by decide) rfl (fun ls hl => ?_)
  refine lv_iload_n X.1 X.2.1 dX12_count_7 rfl (lv_at hl 2 rfl) ?_
  by_cases w_40 : (a1).toInt < 0 ∨ 11 < (a1).toInt
  · refine lv_tableOut (tgt := 310) X.1 X.2.1 dX12_count_8 w_40 (by decide) ?_
    refine lv_iconst (v := (-1)) X.1 X.2.1 dX12_count_310 (by decide) ?_
    rw [hQQ]
    exact ret_i X hw hr hlocks (Nat.le_of_ble_eq_true rfl) (Nat.le_of_ble_eq_true rfl) ⟨hO_32, ⟨z_lo _, z_hi _, (by rw [cnZ_d (by omega)])⟩⟩ dX12_count_311
  have w_40b : (a1).toInt = 0 ∨ (a1).toInt = 1 ∨ (a1).toInt = 2 ∨ (a1).toInt = 3 ∨ (a1).toInt = 4 ∨ (a1).toInt = 5 ∨ (a1).toInt = 6 ∨ (a1).toInt = 7 ∨ (a1).toInt = 8 ∨ (a1).toInt = 9 ∨ (a1).toInt = 10 ∨ (a1).toInt = 11 := by omega
  rcases w_40b with w_40c | w_40c | w_40c | w_40c | w_40c | w_40c | w_40c | w_40c | w_40c | w_40c | w_40c | w_40c
  · refine lv_tableIn (tgt := 72) X.1 X.2.1 dX12_count_8 (by omega) (by omega) (by rw [w_40c]; rfl) (by decide) ?_
    refine lv_aload_n X.1 X.2.1 dX12_count_72 rfl (lv_at hl 1 rfl) ?_
    have t_41 : At S_31 x 12 := tAt_sI eS_31 ha_x
    refine r_getI (g := 1201) (x := v_1) X hw t_41 rfl 1 t_34 (by decide) rfl inn_X12_count_12 (by decide) (X.2.2.2.1 (.fieldLink RX12 165 "SilkMillModel" "lots" "I") (by decide +kernel)) rfl (gv_1201 _ _) dX12_count_73 ?_
    rw [hQQ]
    exact ret_i X hw hr hlocks (Nat.le_of_ble_eq_true rfl) (Nat.le_of_ble_eq_true rfl) ⟨hO_32, ⟨z_lo _, z_hi _, (by rw [cnZ_0 (by omega)]; exact ev_1.symm)⟩⟩ dX12_count_76
  · refine lv_tableIn (tgt := 77) X.1 X.2.1 dX12_count_8 (by omega) (by omega) (by rw [w_40c]; rfl) (by decide) ?_
    refine lv_aload_n X.1 X.2.1 dX12_count_77 rfl (lv_at hl 1 rfl) ?_
    have t_42 : At S_31 x 12 := tAt_sI eS_31 ha_x
    refine r_getI (g := 1211) (x := v_5) X hw t_42 rfl 11 t_36 (by decide) rfl inn_X12_count_12 (by decide) (X.2.2.2.1 (.fieldLink RX12 197 "SilkMillModel" "pots" "I") (by decide +kernel)) rfl (gv_1211 _ _) dX12_count_78 ?_
    rw [hQQ]
    exact ret_i X hw hr hlocks (Nat.le_of_ble_eq_true rfl) (Nat.le_of_ble_eq_true rfl) ⟨hO_32, ⟨z_lo _, z_hi _, (by rw [cnZ_1 (by omega)]; exact ev_5.symm)⟩⟩ dX12_count_81
  · refine lv_tableIn (tgt := 82) X.1 X.2.1 dX12_count_8 (by omega) (by omega) (by rw [w_40c]; rfl) (by decide) ?_
    refine lv_aload_n X.1 X.2.1 dX12_count_82 rfl (lv_at hl 1 rfl) ?_
    have t_43 : At S_31 x 12 := tAt_sI eS_31 ha_x
    refine r_getI (g := 1238) (x := v_9) X hw t_43 rfl 38 t_38 (by decide) rfl inn_X12_count_12 (by decide) (X.2.2.2.1 (.fieldLink RX12 290 "SilkMillModel" "skeins" "I") (by decide +kernel)) rfl (gv_1238 _ _) dX12_count_83 ?_
    rw [hQQ]
    exact ret_i X hw hr hlocks (Nat.le_of_ble_eq_true rfl) (Nat.le_of_ble_eq_true rfl) ⟨hO_32, ⟨z_lo _, z_hi _, (by rw [cnZ_2 (by omega)]; exact ev_9.symm)⟩⟩ dX12_count_86
  · refine lv_tableIn (tgt := 87) X.1 X.2.1 dX12_count_8 (by omega) (by omega) (by rw [w_40c]; rfl) (by decide) ?_
    refine lv_aload_n X.1 X.2.1 dX12_count_87 rfl (lv_at hl 1 rfl) ?_
    have t_44 : At S_31 x 12 := tAt_sI eS_31 ha_x
    have t_45 : pI S_31 1245 x = v_13 := tI_sI eS_31 rfl ev_13
    refine r_getI (g := 1245) (x := v_13) X hw t_44 rfl 45 t_45 (by decide) rfl inn_X12_count_12 (by decide) (X.2.2.2.1 (.fieldLink RX12 302 "SilkMillModel" "today" "I") (by decide +kernel)) rfl (gv_1245 _ _) dX12_count_88 ?_
    rw [hQQ]
    exact ret_i X hw hr hlocks (Nat.le_of_ble_eq_true rfl) (Nat.le_of_ble_eq_true rfl) ⟨hO_32, ⟨z_lo _, z_hi _, (by rw [cnZ_3 (by omega)]; exact ev_13.symm)⟩⟩ dX12_count_91
  · refine lv_tableIn (tgt := 92) X.1 X.2.1 dX12_count_8 (by omega) (by omega) (by rw [w_40c]; rfl) (by decide) ?_
    refine lv_aload_n X.1 X.2.1 dX12_count_92 rfl (lv_at hl 1 rfl) ?_
    have t_46 : At S_31 x 12 := tAt_sI eS_31 ha_x
    have t_47 : pI S_31 1228 x = v_18 := tI_sI eS_31 rfl ev_18
    refine r_getI (g := 1228) (x := v_18) X hw t_46 rfl 28 t_47 (by decide) rfl inn_X12_count_12 (by decide) (X.2.2.2.1 (.fieldLink RX12 211 "SilkMillModel" "taped" "I") (by decide +kernel)) rfl (gv_1228 _ _) dX12_count_93 ?_
    rw [hQQ]
    exact ret_i X hw hr hlocks (Nat.le_of_ble_eq_true rfl) (Nat.le_of_ble_eq_true rfl) ⟨hO_32, ⟨z_lo _, z_hi _, (by rw [cnZ_4 (by omega)]; exact ev_18.symm)⟩⟩ dX12_count_96
  · refine lv_tableIn (tgt := 97) X.1 X.2.1 dX12_count_8 (by omega) (by omega) (by rw [w_40c]; rfl) (by decide) ?_
    refine lv_aload_n X.1 X.2.1 dX12_count_97 rfl (lv_at hl 1 rfl) ?_
    have t_48 : At S_31 x 12 := tAt_sI eS_31 ha_x
    have t_49 : pI S_31 1262 x = v_22 := tI_sI eS_31 rfl ev_22
    refine r_getI (g := 1262) (x := v_22) X hw t_48 rfl 62 t_49 (by decide) rfl inn_X12_count_12 (by decide) (X.2.2.2.1 (.fieldLink RX12 403 "SilkMillModel" "faults" "I") (by decide +kernel)) rfl (gv_1262 _ _) dX12_count_98 ?_
    rw [hQQ]
    exact ret_i X hw hr hlocks (Nat.le_of_ble_eq_true rfl) (Nat.le_of_ble_eq_true rfl) ⟨hO_32, ⟨z_lo _, z_hi _, (by rw [cnZ_5 (by omega)]; exact ev_22.symm)⟩⟩ dX12_count_101
  · refine lv_tableIn (tgt := 102) X.1 X.2.1 dX12_count_8 (by omega) (by omega) (by rw [w_40c]; rfl) (by decide) ?_
    refine lv_iconst (v := 0) X.1 X.2.1 dX12_count_102 (by decide) ?_
    refine lv_istore_n (lv' := [(3, .int 0), (2, .int 0), (0, .ref x), (1, .int (a1))]) X.1 X.2.1 dX12_count_103 rfl hl (by decide) rfl (fun ls hl => ?_)
    have L_50 : ∀ (n : Nat) (H : Heap) (locs : List Loc) (ls : Array Slot) (i2_51 : Int32) (i2_51_z : Int) (i3_52 : Int32) (i3_52_z : Int), ((600 - i3_52_z).toNat = n) → (Wd G cy (AS S s.heap.size) s.heap S_31 H locs) → (i2_51.toInt = i2_51_z) → (i3_52.toInt = i3_52_z) → (0 ≤ i3_52_z ∧ i3_52_z ≤ 600) → ((i2_51) = suL (v6 S_31 x) (List.range (i3_52_z).toNat)) → (i3_52_z ≤ 60 * (pI S 1201 x).toInt) → (lv_has ls 4 [(2, .int (i2_51)), (3, .int (i3_52)), (0, .ref x), (1, .int (a1))]) → W p l e ({ frames := 6, cells := 0, slots := 0, locals := 288 }) s m [.ref x, .int (a1)].toArray below meth c H locs 0 0 QQ (F0 m 104 ls []) := by
      intro n
      induction n using Nat.strongRecOn with
      | ind n ih_L_50 =>
      intro H locs ls i2_51 i2_51_z i3_52 i3_52_z hn hw hz_i2_51 hz_i3_52 hr_i3_52 iv_53 iv_54 hl
      have rg_55 : (-2147483648) ≤ i2_51_z ∧ i2_51_z ≤ 2147483647 := by rw [← hz_i2_51]; exact ⟨z_lo _, z_hi _⟩
      have rg_56 : (-2147483648) ≤ i3_52_z ∧ i3_52_z ≤ 2147483647 := by rw [← hz_i3_52]; exact ⟨z_lo _, z_hi _⟩
      refine lv_iload_n X.1 X.2.1 dX12_count_104 rfl (lv_at hl 1 rfl) ?_
      refine lv_bipush (v := 60) X.1 X.2.1 dX12_count_105 (by decide) ?_
      refine lv_aload_n X.1 X.2.1 dX12_count_107 rfl (lv_at hl 2 rfl) ?_
      have t_57 : At S_31 x 12 := tAt_sI eS_31 ha_x
      refine r_getI (g := 1201) (x := v_1) X hw t_57 rfl 1 t_34 (by decide) rfl inn_X12_count_12 (by decide) (X.2.2.2.1 (.fieldLink RX12 165 "SilkMillModel" "lots" "I") (by decide +kernel)) rfl (gv_1201 _ _) dX12_count_108 ?_
      refine lv_imul X.1 X.2.1 dX12_count_111 ?_
      refine lv_topi (fun v_58 ev_58 => ?_)
      have z_59 : v_58.toInt = 60 * v_1.toInt := z_mul ev_58 ti_60 rfl (by omega) (by omega)
      refine lv_icmp_ge (tgt := 152) X.1 X.2.1 dX12_count_112 (by decide) (fun c_60 => ?_) (fun c_60 => ?_)
      · have z_b_61 := trivial
        have k_62 : i3_52_z ≥ (60 * v_1.toInt) := z_le z_59 hz_i3_52 c_60
        refine lv_iload_n X.1 X.2.1 dX12_count_152 rfl (lv_at hl 0 rfl) ?_
        rw [hQQ]
        exact ret_i X hw hr hlocks (Nat.le_of_ble_eq_true rfl) (Nat.le_of_ble_eq_true rfl) ⟨hO_32, ⟨z_lo _, z_hi _, (by rw [cnZ_6 (by omega), iv_53, show (i3_52_z).toNat = (60 * (pI S 1201 x).toInt).toNat by omega, v6_to (zA_sI eS_31) (zA_sI eS_31) (fnZ_fr hG ha_x hO_32.fr (by decide +kernel))])⟩⟩ dX12_count_153
      · have z_b_63 := trivial
        have k_64 : i3_52_z < (60 * v_1.toInt) := z_nle z_59 hz_i3_52 c_60
        refine lv_iload_n X.1 X.2.1 dX12_count_115 rfl (lv_at hl 1 rfl) ?_
        refine lv_bipush (v := 60) X.1 X.2.1 dX12_count_116 (by decide) ?_
        refine lv_irem X.1 X.2.1 dX12_count_118 (by decide) ?_
        refine lv_topi (fun v_65 ev_65 => ?_)
        have z_66 : v_65.toInt = i3_52_z % 60 := z_rem ev_65 hz_i3_52 ti_60 (by omega) (by omega)
        have z_67 : 0 ≤ v_65.toInt ∧ v_65.toInt < 60 := by rw [z_66]; exact ⟨Int.emod_nonneg _ (by omega), Int.emod_lt_of_pos _ (by omega)⟩
        refine lv_aload_n X.1 X.2.1 dX12_count_119 rfl (lv_at hl 2 rfl) ?_
        obtain ⟨q_68, h_69, h_70, h_71⟩ := gQ_12_1202 hO_32.1 t_57
        refine r_getR (g := 1202) X hw t_57 rfl 2 h_69 (by decide) rfl inn_X12_count_12 (by decide) (X.2.2.2.1 (.fieldLink RX12 7 "SilkMillModel" "lotMany" "[I") (by decide +kernel)) rfl (gv_1202 _ _) dX12_count_120 ?_
        refine lv_iload_n X.1 X.2.1 dX12_count_123 rfl (lv_at hl 1 rfl) ?_
        refine lv_bipush (v := 60) X.1 X.2.1 dX12_count_124 (by decide) ?_
        refine lv_idiv X.1 X.2.1 dX12_count_126 (by decide) ?_
        refine lv_topi (fun v_72 ev_72 => ?_)
        have z_73 : v_72.toInt = i3_52_z / 60 := z_div ev_72 hz_i3_52 ti_60 (by omega) (by omega)
        refine r_iald X hw h_70 rfl (by rw [h_71]; exact z_ix z_73 (by omega) (by omega)) dX12_count_127 ?_
        refine lv_topi (fun v_74 ev_74 => ?_)
        have z_75 := gE_254 hO_32.1 h_70 (Int32.toNatClampNeg (v_72)); rw [← ev_74] at z_75
        have ev_74 := ev_74.symm
        have zf_76 : zA S_31 x 1202 ((i3_52_z / 60)).toNat = v_74.toInt := (zA_of h_69 z_73 (by omega) ev_74)
        refine lv_icmp_ge (tgt := 146) X.1 X.2.1 dX12_count_128 (by decide) (fun c_77 => ?_) (fun c_77 => ?_)
        · have z_b_78 := trivial
          have k_79 : (i3_52_z % 60) ≥ v_74.toInt := z_le rfl z_66 c_77
          obtain ⟨x_80, ex_80⟩ : ∃ y : Int32, y = i3_52 + 1 := ⟨_, rfl⟩
          have z_81 : x_80.toInt = i3_52_z + 1 := z_add ex_80 hz_i3_52 ti_1 (by omega) (by omega)
          refine lv_iinc (v := x_80) (lv' := [(3, .int (x_80)), (2, .int (i2_51)), (0, .ref x), (1, .int (a1))]) X.1 X.2.1 dX12_count_146 hl (k := 1) rfl (by rw [ex_80]; rfl) (by decide) rfl (fun ls hl => ?_)
          refine lv_goto (tgt := 104) X.1 X.2.1 dX12_count_149 (by decide) ?_
          exact ih_L_50 _ (by omega) _ _ _ (i2_51) (i2_51_z) (x_80) (x_80.toInt) rfl hw hz_i2_51 rfl (by omega) (by rw [show (x_80.toInt).toNat = (i3_52_z).toNat + 1 by omega, List.range_succ, su_a, v6_n (by omega) zf_76 (by omega), ← iv_53]; exact (Int32.add_zero _).symm) (by omega) (lv_sub hl [1, 0, 2, 3] rfl)
        · have z_b_82 := trivial
          have k_83 : (i3_52_z % 60) < v_74.toInt := z_nle rfl z_66 c_77
          refine lv_iload_n X.1 X.2.1 dX12_count_131 rfl (lv_at hl 0 rfl) ?_
          refine lv_aload_n X.1 X.2.1 dX12_count_132 rfl (lv_at hl 2 rfl) ?_
          refine lv_iload_n X.1 X.2.1 dX12_count_133 rfl (lv_at hl 1 rfl) ?_
          refine lv_iconst (v := 0) X.1 X.2.1 dX12_count_134 (by decide) ?_
          refine lv_aload_n X.1 X.2.1 dX12_count_135 rfl (lv_at hl 2 rfl) ?_
          obtain ⟨q_84, h_85, h_86, h_87⟩ := gQ_12_1208 hO_32.1 t_57
          refine r_getR (g := 1208) X hw t_57 rfl 8 h_85 (by decide) rfl inn_X12_count_12 (by decide) (X.2.2.2.1 (.fieldLink RX12 28 "SilkMillModel" "place" "[I") (by decide +kernel)) rfl (gv_1208 _ _) dX12_count_136 ?_
          refine lv_iload_n X.1 X.2.1 dX12_count_139 rfl (lv_at hl 1 rfl) ?_
          refine r_iald X hw h_86 rfl (by rw [h_87]; exact z_ix hz_i3_52 (by omega) (by omega)) dX12_count_140 ?_
          refine lv_topi (fun v_88 ev_88 => ?_)
          have z_89 := gE_374 hO_32.1 h_86 (Int32.toNatClampNeg (i3_52)); rw [← ev_88] at z_89
          have ev_88 := ev_88.symm
          have zf_90 : zA S_31 x 1208 (i3_52_z).toNat = v_88.toInt := (zA_of h_85 hz_i3_52 (by omega) ev_88)
          have m1_91 := (MI_1 (MIe_free hG ha_x hO_32.fr (by decide +kernel) hp_0) (c := i3_52_z) (by omega) (by omega)).2 (by omega); rw [zf_90] at m1_91
          have m1_92 := m1_91.1
          clear m1_91
          have zf_93 : zA S_31 x 1208 (i3_52_z).toNat = v_88.toInt := (zA_of h_85 hz_i3_52 (by omega) ev_88)
          refine k_i (rm := { frames := 4, cells := 0, slots := 0, locals := 192 }) (av := [.ref x, .int (i3_52), .int 0, .int (v_88)]) X hw (va_runV (As := [.int (i3_52), .int 0, .int (v_88)]) (rest := [.int (i2_51)]) (cfix X) (k_X12_silk9 l G cy κ S_31 _ x (i3_52) (i3_52_z) (0) (0) (v_88) (v_88.toInt) hO_32.1 t_57 hz_i3_52 ti_0 rfl (by first | assumption | omega) (by first | assumption | omega) (by first | assumption | omega) (by first | assumption | omega) (by first | assumption | omega)) (cwV 3 X.2.2.2.1 gX12_count_X12_silk rfl rfl rfl (by decide +kernel) ⟨Nat.le_of_ble_eq_true rfl, Nat.le_of_ble_eq_true rfl⟩) (pre_V X hw _ t_57 rfl (by decide) rfl) rfl rfl hl.1 rfl (lv_room (Nat.le_of_ble_eq_true rfl)) dX12_count_141 ⟨Nat.le_of_ble_eq_true rfl, Nat.le_of_ble_eq_true rfl⟩) 0 0 (Nat.le_of_ble_eq_true rfl) (Nat.le_of_ble_eq_true rfl) (fun rr_94 S_95 H locs hp hw hfr hnw => ?_)
          obtain ⟨e2, hp⟩ := hp
          subst e2
          obtain ⟨sl_96, sl_97, sl_98⟩ := hp
          have rg_99 := And.intro (z_lo rr_94) (z_hi rr_94)
          refine lv_iadd X.1 X.2.1 dX12_count_144 ?_
          refine lv_topi (fun v_100 ev_100 => ?_)
          have rg_101 := And.intro (z_lo v_100) (z_hi v_100)
          refine lv_istore_n (lv' := [(2, .int (v_100)), (3, .int (i3_52)), (0, .ref x), (1, .int (a1))]) X.1 X.2.1 dX12_count_145 rfl hl (by decide) rfl (fun ls hl => ?_)
          obtain ⟨x_102, ex_102⟩ : ∃ y : Int32, y = i3_52 + 1 := ⟨_, rfl⟩
          have z_103 : x_102.toInt = i3_52_z + 1 := z_add ex_102 hz_i3_52 ti_1 (by omega) (by omega)
          refine lv_iinc (v := x_102) (lv' := [(3, .int (x_102)), (2, .int (v_100)), (0, .ref x), (1, .int (a1))]) X.1 X.2.1 dX12_count_146 hl (k := 1) rfl (by rw [ex_102]; rfl) (by decide) rfl (fun ls hl => ?_)
          refine lv_goto (tgt := 104) X.1 X.2.1 dX12_count_149 (by decide) ?_
          exact ih_L_50 _ (by omega) _ _ _ (v_100) (v_100.toInt) (x_102) (x_102.toInt) rfl hw rfl rfl (by omega) (by rw [show (x_102.toInt).toNat = (i3_52_z).toNat + 1 by omega, List.range_succ, su_a, v6_y (by omega) zf_76 (by omega) zf_93, ← iv_53, ev_100]; exact congrArg (fun y => i2_51 + y) (sl_98.trans (by rw [Int.sub_zero]))) (by omega) (lv_sub hl [1, 0, 2, 3] rfl)
    exact L_50 _ _ _ _ (0) (0) (0) (0) rfl hw ti_0 ti_0 (by omega) rfl (by omega) (lv_sub hl [1, 0, 2, 3] rfl)
  · refine lv_tableIn (tgt := 154) X.1 X.2.1 dX12_count_8 (by omega) (by omega) (by rw [w_40c]; rfl) (by decide) ?_
    refine lv_aload_n X.1 X.2.1 dX12_count_154 rfl (lv_at hl 1 rfl) ?_
    refine lv_iconst (v := 0) X.1 X.2.1 dX12_count_155 (by decide) ?_
    refine lv_aload_n X.1 X.2.1 dX12_count_156 rfl (lv_at hl 1 rfl) ?_
    have t_104 : At S_31 x 12 := tAt_sI eS_31 ha_x
    obtain ⟨q_105, h_106, h_107, h_108⟩ := gQ_12_1239 hO_32.1 t_104
    refine r_getR (g := 1239) X hw t_104 rfl 39 h_106 (by decide) rfl inn_X12_count_12 (by decide) (X.2.2.2.1 (.fieldLink RX12 100 "SilkMillModel" "firstMetre" "[I") (by decide +kernel)) rfl (gv_1239 _ _) dX12_count_157 ?_
    refine lv_aload_n X.1 X.2.1 dX12_count_160 rfl (lv_at hl 1 rfl) ?_
    refine r_getI (g := 1238) (x := v_9) X hw t_104 rfl 38 t_38 (by decide) rfl inn_X12_count_12 (by decide) (X.2.2.2.1 (.fieldLink RX12 290 "SilkMillModel" "skeins" "I") (by decide +kernel)) rfl (gv_1238 _ _) dX12_count_161 ?_
    refine r_iald X hw h_107 rfl (by rw [h_108]; exact z_ix rfl (by omega) (by omega)) dX12_count_164 ?_
    refine lv_topi (fun v_109 ev_109 => ?_)
    have z_110 := gE_994 hO_32.1 h_107 (Int32.toNatClampNeg (v_9)); rw [← ev_109] at z_110
    have ev_109 := ev_109.symm
    have zf_111 : zA S_31 x 1239 (v_9.toInt).toNat = v_109.toInt := (zA_of h_106 rfl (by omega) ev_109)
    have m7_112 := MI_7' (MIe_free hG ha_x hO_32.fr (by decide +kernel) hp_0) (k := v_9.toInt) (by omega) (by omega); rw [zf_111] at m7_112
    have zf_113 : zA S_31 x 1239 (v_9.toInt).toNat = v_109.toInt := (zA_of h_106 rfl (by omega) ev_109)
    obtain ⟨g_114, hg_115, hg_116, hg_117⟩ := hp_1
    refine k_i (rm := { frames := 5, cells := 0, slots := 0, locals := 240 }) (av := [.ref x, .int 0, .int (v_109)]) X hw (va_runV (As := [.int 0, .int (v_109)]) (rest := []) (cfix X) (k_X12_weight8 l G cy κ S_31 _ x (0) (0) (v_109) (v_109.toInt) g_114 hO_32.1 t_104 ti_0 rfl (by first | assumption | omega) (by first | assumption | omega) (by first | assumption | omega) (MIe_free hG ha_x hO_32.fr (by decide +kernel) hp_0) (by rw [hg_115, show (pI S 1238 x).toInt = v_9.toInt by omega, ← congrFun (zA_sI (x := x) (g := 1239) eS_31) _]; exact zf_113.symm) (fun j t hj => by rw [show (0 : Int).toNat + j = j by omega]; exact MtR_eq (zA_sI eS_31) (zA_sI eS_31) (hg_116 j t hj))) (cwV 2 X.2.2.2.1 gX12_count_X12_weight rfl rfl rfl (by decide +kernel) ⟨Nat.le_of_ble_eq_true rfl, Nat.le_of_ble_eq_true rfl⟩) (pre_V X hw _ t_104 rfl (by decide) rfl) rfl rfl hl.1 rfl (lv_room (Nat.le_of_ble_eq_true rfl)) dX12_count_165 ⟨Nat.le_of_ble_eq_true rfl, Nat.le_of_ble_eq_true rfl⟩) 0 0 (Nat.le_of_ble_eq_true rfl) (Nat.le_of_ble_eq_true rfl) (fun rr_118 S_119 H locs hp hw hfr hnw => ?_)
    obtain ⟨e2, hp⟩ := hp
    subst e2
    obtain ⟨we_120, we_121, we_122⟩ := hp
    have rg_123 := And.intro (z_lo rr_118) (z_hi rr_118)
    rw [hQQ]
    exact ret_i X hw hr hlocks (Nat.le_of_ble_eq_true rfl) (Nat.le_of_ble_eq_true rfl) ⟨hO_32, ⟨z_lo _, z_hi _, (by rw [cnZ_7 (by omega), we_122, siZ_to (fnZ_fr hG ha_x hO_32.fr (by decide +kernel))]; exact hg_117)⟩⟩ dX12_count_168
  · refine lv_tableIn (tgt := 169) X.1 X.2.1 dX12_count_8 (by omega) (by omega) (by rw [w_40c]; rfl) (by decide) ?_
    refine lv_iconst (v := 0) X.1 X.2.1 dX12_count_169 (by decide) ?_
    refine lv_istore_n (lv' := [(3, .int 0), (2, .int 0), (0, .ref x), (1, .int (a1))]) X.1 X.2.1 dX12_count_170 rfl hl (by decide) rfl (fun ls hl => ?_)
    have L_124 : ∀ (n : Nat) (H : Heap) (locs : List Loc) (ls : Array Slot) (i2_125 : Int32) (i2_125_z : Int) (i3_126 : Int32) (i3_126_z : Int), ((4 - i3_126_z).toNat = n) → (Wd G cy (AS S s.heap.size) s.heap S_31 H locs) → (i2_125.toInt = i2_125_z) → (i3_126.toInt = i3_126_z) → (0 ≤ i3_126_z ∧ i3_126_z ≤ 4) → ((i2_125) = suL f9 (List.range (i3_126_z).toNat)) → (i3_126_z ≤ (pI S 1211 x).toInt) → (lv_has ls 4 [(2, .int (i2_125)), (3, .int (i3_126)), (0, .ref x), (1, .int (a1))]) → W p l e ({ frames := 6, cells := 0, slots := 0, locals := 288 }) s m [.ref x, .int (a1)].toArray below meth c H locs 0 0 QQ (F0 m 171 ls []) := by
      intro n
      induction n using Nat.strongRecOn with
      | ind n ih_L_124 =>
      intro H locs ls i2_125 i2_125_z i3_126 i3_126_z hn hw hz_i2_125 hz_i3_126 hr_i3_126 iv_127 iv_128 hl
      have rg_129 : (-2147483648) ≤ i2_125_z ∧ i2_125_z ≤ 2147483647 := by rw [← hz_i2_125]; exact ⟨z_lo _, z_hi _⟩
      have rg_130 : (-2147483648) ≤ i3_126_z ∧ i3_126_z ≤ 2147483647 := by rw [← hz_i3_126]; exact ⟨z_lo _, z_hi _⟩
      refine lv_iload_n X.1 X.2.1 dX12_count_171 rfl (lv_at hl 1 rfl) ?_
      refine lv_aload_n X.1 X.2.1 dX12_count_172 rfl (lv_at hl 2 rfl) ?_
      have t_131 : At S_31 x 12 := tAt_sI eS_31 ha_x
      refine r_getI (g := 1211) (x := v_5) X hw t_131 rfl 11 t_36 (by decide) rfl inn_X12_count_12 (by decide) (X.2.2.2.1 (.fieldLink RX12 197 "SilkMillModel" "pots" "I") (by decide +kernel)) rfl (gv_1211 _ _) dX12_count_173 ?_
      refine lv_icmp_ge (tgt := 203) X.1 X.2.1 dX12_count_176 (by decide) (fun c_132 => ?_) (fun c_132 => ?_)
      · have z_b_133 := trivial
        have k_134 : i3_126_z ≥ v_5.toInt := z_le rfl hz_i3_126 c_132
        refine lv_iload_n X.1 X.2.1 dX12_count_203 rfl (lv_at hl 0 rfl) ?_
        rw [hQQ]
        exact ret_i X hw hr hlocks (Nat.le_of_ble_eq_true rfl) (Nat.le_of_ble_eq_true rfl) ⟨hO_32, ⟨z_lo _, z_hi _, (by rw [cnZ_8 (by omega), iv_127, show (i3_126_z).toNat = (pI S 1211 x).toInt.toNat by omega])⟩⟩ dX12_count_204
      · have z_b_135 := trivial
        have k_136 : i3_126_z < v_5.toInt := z_nle rfl hz_i3_126 c_132
        refine lv_iload_n X.1 X.2.1 dX12_count_179 rfl (lv_at hl 0 rfl) ?_
        refine lv_aload_n X.1 X.2.1 dX12_count_180 rfl (lv_at hl 2 rfl) ?_
        refine lv_aload_n X.1 X.2.1 dX12_count_181 rfl (lv_at hl 2 rfl) ?_
        refine lv_iload_n X.1 X.2.1 dX12_count_182 rfl (lv_at hl 1 rfl) ?_
        refine k_i (rm := { frames := 1, cells := 0, slots := 0, locals := 48 }) (av := [.ref x, .int (i3_126)]) X hw (va_runV (As := [.int (i3_126)]) (rest := [.ref x, .int (i2_125)]) (cfix X) (k_X12_growing l G cy κ S_31 _ x (i3_126) (i3_126_z) hO_32.1 t_131 hz_i3_126 (by first | assumption | omega) (by first | assumption | omega)) (cwV 1 X.2.2.2.1 gX12_count_X12_growing rfl rfl rfl (by decide +kernel) ⟨Nat.le_of_ble_eq_true rfl, Nat.le_of_ble_eq_true rfl⟩) (pre_V X hw _ t_131 rfl (by decide) rfl) rfl rfl hl.1 rfl (lv_room (Nat.le_of_ble_eq_true rfl)) dX12_count_183 ⟨Nat.le_of_ble_eq_true rfl, Nat.le_of_ble_eq_true rfl⟩) 0 0 (Nat.le_of_ble_eq_true rfl) (Nat.le_of_ble_eq_true rfl) (fun rr_137 S_138 H locs hp hw hfr hnw => ?_)
        obtain ⟨e2, hp⟩ := hp
        subst e2
        have f_139 := hp
        refine lv_aload_n X.1 X.2.1 dX12_count_186 rfl (lv_at hl 2 rfl) ?_
        obtain ⟨q_140, h_141, h_142, h_143⟩ := gQ_12_1237 hO_32.1 t_131
        refine r_getR (g := 1237) X hw t_131 rfl 37 h_141 (by decide) rfl inn_X12_count_12 (by decide) (X.2.2.2.1 (.fieldLink RX12 97 "SilkMillModel" "grown" "[I") (by decide +kernel)) rfl (gv_1237 _ _) dX12_count_187 ?_
        refine lv_iload_n X.1 X.2.1 dX12_count_190 rfl (lv_at hl 1 rfl) ?_
        refine r_iald X hw h_142 rfl (by rw [h_143]; exact z_ix hz_i3_126 (by omega) (by omega)) dX12_count_191 ?_
        refine lv_topi (fun v_144 ev_144 => ?_)
        have z_145 := gE_954 hO_32.1 h_142 (Int32.toNatClampNeg (i3_126)); rw [← ev_144] at z_145
        have ev_144 := ev_144.symm
        have zf_146 : zA S_31 x 1237 (i3_126_z).toNat = v_144.toInt := (zA_of h_141 hz_i3_126 (by omega) ev_144)
        obtain ⟨g_147, hg_148, hg_150⟩ := hp_2 (i3_126_z).toNat (by omega)
        refine k_i (rm := { frames := 5, cells := 0, slots := 0, locals := 240 }) (av := [.ref x, .int (rr_137), .int (v_144)]) X hw (va_runV (As := [.int (rr_137), .int (v_144)]) (rest := [.int (i2_125)]) (cfix X) (k_X12_weight8 l G cy κ S_31 _ x (rr_137) (rr_137.toInt) (v_144) (v_144.toInt) g_147 hO_32.1 t_131 rfl rfl (by first | assumption | omega) (by first | assumption | omega) (by first | assumption | omega) (MIe_free hG ha_x hO_32.fr (by decide +kernel) hp_0) (by rw [← hg_148.1, ← congrFun (zA_sI (x := x) (g := 1237) eS_31) _]; exact zf_146.symm) (fun j t hj => by rw [show (rr_137.toInt).toNat + j = 12000 + 300 * (i3_126_z).toNat + j by omega]; exact MtR_eq (zA_sI eS_31) (zA_sI eS_31) (hg_148.2 j t hj))) (cwV 2 X.2.2.2.1 gX12_count_X12_weight rfl rfl rfl (by decide +kernel) ⟨Nat.le_of_ble_eq_true rfl, Nat.le_of_ble_eq_true rfl⟩) (pre_V X hw _ t_131 rfl (by decide) rfl) rfl rfl hl.1 rfl (lv_room (Nat.le_of_ble_eq_true rfl)) dX12_count_192 ⟨Nat.le_of_ble_eq_true rfl, Nat.le_of_ble_eq_true rfl⟩) 0 0 (Nat.le_of_ble_eq_true rfl) (Nat.le_of_ble_eq_true rfl) (fun rr_151 S_152 H locs hp hw hfr hnw => ?_)
        obtain ⟨e2, hp⟩ := hp
        subst e2
        obtain ⟨we_153, we_154, we_155⟩ := hp
        have rg_156 := And.intro (z_lo rr_151) (z_hi rr_151)
        refine lv_iadd X.1 X.2.1 dX12_count_195 ?_
        refine lv_topi (fun v_157 ev_157 => ?_)
        have rg_158 := And.intro (z_lo v_157) (z_hi v_157)
        refine lv_istore_n (lv' := [(2, .int (v_157)), (3, .int (i3_126)), (0, .ref x), (1, .int (a1))]) X.1 X.2.1 dX12_count_196 rfl hl (by decide) rfl (fun ls hl => ?_)
        obtain ⟨x_159, ex_159⟩ : ∃ y : Int32, y = i3_126 + 1 := ⟨_, rfl⟩
        have z_160 : x_159.toInt = i3_126_z + 1 := z_add ex_159 hz_i3_126 ti_1 (by omega) (by omega)
        refine lv_iinc (v := x_159) (lv' := [(3, .int (x_159)), (2, .int (v_157)), (0, .ref x), (1, .int (a1))]) X.1 X.2.1 dX12_count_197 hl (k := 1) rfl (by rw [ex_159]; rfl) (by decide) rfl (fun ls hl => ?_)
        refine lv_goto (tgt := 171) X.1 X.2.1 dX12_count_200 (by decide) ?_
        exact ih_L_124 _ (by omega) _ _ _ (v_157) (v_157.toInt) (x_159) (x_159.toInt) rfl hw rfl rfl (by omega) (by rw [show (x_159.toInt).toNat = (i3_126_z).toNat + 1 by omega, List.range_succ, su_a, ← iv_127, ev_157]; exact congrArg (fun y => i2_125 + y) (we_155.trans (by rw [siZ_to (fnZ_fr hG ha_x hO_32.fr (by decide +kernel))]; exact hg_150))) (by omega) (lv_sub hl [1, 0, 2, 3] rfl)
    exact L_124 _ _ _ _ (0) (0) (0) (0) rfl hw ti_0 ti_0 (by omega) rfl (by omega) (lv_sub hl [1, 0, 2, 3] rfl)
  · refine lv_tableIn (tgt := 205) X.1 X.2.1 dX12_count_8 (by omega) (by omega) (by rw [w_40c]; rfl) (by decide) ?_
    refine lv_aload_n X.1 X.2.1 dX12_count_205 rfl (lv_at hl 1 rfl) ?_
    have t_161 : At S_31 x 12 := tAt_sI eS_31 ha_x
    have t_162 : pI S_31 1246 x = v_26 := tI_sI eS_31 rfl ev_26
    refine r_getI (g := 1246) (x := v_26) X hw t_161 rfl 46 t_162 (by decide) rfl inn_X12_count_12 (by decide) (X.2.2.2.1 (.fieldLink RX12 293 "SilkMillModel" "waste" "I") (by decide +kernel)) rfl (gv_1246 _ _) dX12_count_206 ?_
    rw [hQQ]
    exact ret_i X hw hr hlocks (Nat.le_of_ble_eq_true rfl) (Nat.le_of_ble_eq_true rfl) ⟨hO_32, ⟨z_lo _, z_hi _, (by rw [cnZ_9 (by omega)]; exact ev_26.symm)⟩⟩ dX12_count_209
  · refine lv_tableIn (tgt := 210) X.1 X.2.1 dX12_count_8 (by omega) (by omega) (by rw [w_40c]; rfl) (by decide) ?_
    refine lv_iconst (v := 0) X.1 X.2.1 dX12_count_210 (by decide) ?_
    refine lv_istore_n (lv' := [(3, .int 0), (2, .int 0), (0, .ref x), (1, .int (a1))]) X.1 X.2.1 dX12_count_211 rfl hl (by decide) rfl (fun ls hl => ?_)
    have L_163 : ∀ (n : Nat) (H : Heap) (locs : List Loc) (ls : Array Slot) (i2_164 : Int32) (i2_164_z : Int) (i3_165 : Int32) (i3_165_z : Int), ((600 - i3_165_z).toNat = n) → (Wd G cy (AS S s.heap.size) s.heap S_31 H locs) → (i2_164.toInt = i2_164_z) → (i3_165.toInt = i3_165_z) → (0 ≤ i3_165_z ∧ i3_165_z ≤ 600) → ((i2_164) = suL (v10 S_31 x) (List.range (i3_165_z).toNat)) → (i3_165_z ≤ 60 * (pI S 1201 x).toInt) → (lv_has ls 4 [(2, .int (i2_164)), (3, .int (i3_165)), (0, .ref x), (1, .int (a1))]) → W p l e ({ frames := 6, cells := 0, slots := 0, locals := 288 }) s m [.ref x, .int (a1)].toArray below meth c H locs 0 0 QQ (F0 m 212 ls []) := by
      intro n
      induction n using Nat.strongRecOn with
      | ind n ih_L_163 =>
      intro H locs ls i2_164 i2_164_z i3_165 i3_165_z hn hw hz_i2_164 hz_i3_165 hr_i3_165 iv_166 iv_167 hl
      have rg_168 : (-2147483648) ≤ i2_164_z ∧ i2_164_z ≤ 2147483647 := by rw [← hz_i2_164]; exact ⟨z_lo _, z_hi _⟩
      have rg_169 : (-2147483648) ≤ i3_165_z ∧ i3_165_z ≤ 2147483647 := by rw [← hz_i3_165]; exact ⟨z_lo _, z_hi _⟩
      refine lv_iload_n X.1 X.2.1 dX12_count_212 rfl (lv_at hl 1 rfl) ?_
      refine lv_bipush (v := 60) X.1 X.2.1 dX12_count_213 (by decide) ?_
      refine lv_aload_n X.1 X.2.1 dX12_count_215 rfl (lv_at hl 2 rfl) ?_
      have t_170 : At S_31 x 12 := tAt_sI eS_31 ha_x
      refine r_getI (g := 1201) (x := v_1) X hw t_170 rfl 1 t_34 (by decide) rfl inn_X12_count_12 (by decide) (X.2.2.2.1 (.fieldLink RX12 165 "SilkMillModel" "lots" "I") (by decide +kernel)) rfl (gv_1201 _ _) dX12_count_216 ?_
      refine lv_imul X.1 X.2.1 dX12_count_219 ?_
      refine lv_topi (fun v_171 ev_171 => ?_)
      have z_172 : v_171.toInt = 60 * v_1.toInt := z_mul ev_171 ti_60 rfl (by omega) (by omega)
      refine lv_icmp_ge (tgt := 275) X.1 X.2.1 dX12_count_220 (by decide) (fun c_173 => ?_) (fun c_173 => ?_)
      · have z_b_174 := trivial
        have k_175 : i3_165_z ≥ (60 * v_1.toInt) := z_le z_172 hz_i3_165 c_173
        refine lv_iload_n X.1 X.2.1 dX12_count_275 rfl (lv_at hl 0 rfl) ?_
        rw [hQQ]
        exact ret_i X hw hr hlocks (Nat.le_of_ble_eq_true rfl) (Nat.le_of_ble_eq_true rfl) ⟨hO_32, ⟨z_lo _, z_hi _, (by rw [cnZ_10 (by omega), iv_166, show (i3_165_z).toNat = (60 * (pI S 1201 x).toInt).toNat by omega, v10_to (zA_sI eS_31) (zA_sI eS_31) (zA_sI eS_31) (fnZ_fr hG ha_x hO_32.fr (by decide +kernel)) (lenZ_free hG ha_x hO_32.fr (by decide +kernel))])⟩⟩ dX12_count_276
      · have z_b_176 := trivial
        have k_177 : i3_165_z < (60 * v_1.toInt) := z_nle z_172 hz_i3_165 c_173
        refine lv_iload_n X.1 X.2.1 dX12_count_223 rfl (lv_at hl 1 rfl) ?_
        refine lv_bipush (v := 60) X.1 X.2.1 dX12_count_224 (by decide) ?_
        refine lv_irem X.1 X.2.1 dX12_count_226 (by decide) ?_
        refine lv_topi (fun v_178 ev_178 => ?_)
        have z_179 : v_178.toInt = i3_165_z % 60 := z_rem ev_178 hz_i3_165 ti_60 (by omega) (by omega)
        have z_180 : 0 ≤ v_178.toInt ∧ v_178.toInt < 60 := by rw [z_179]; exact ⟨Int.emod_nonneg _ (by omega), Int.emod_lt_of_pos _ (by omega)⟩
        refine lv_aload_n X.1 X.2.1 dX12_count_227 rfl (lv_at hl 2 rfl) ?_
        obtain ⟨q_181, h_182, h_183, h_184⟩ := gQ_12_1202 hO_32.1 t_170
        refine r_getR (g := 1202) X hw t_170 rfl 2 h_182 (by decide) rfl inn_X12_count_12 (by decide) (X.2.2.2.1 (.fieldLink RX12 7 "SilkMillModel" "lotMany" "[I") (by decide +kernel)) rfl (gv_1202 _ _) dX12_count_228 ?_
        refine lv_iload_n X.1 X.2.1 dX12_count_231 rfl (lv_at hl 1 rfl) ?_
        refine lv_bipush (v := 60) X.1 X.2.1 dX12_count_232 (by decide) ?_
        refine lv_idiv X.1 X.2.1 dX12_count_234 (by decide) ?_
        refine lv_topi (fun v_185 ev_185 => ?_)
        have z_186 : v_185.toInt = i3_165_z / 60 := z_div ev_185 hz_i3_165 ti_60 (by omega) (by omega)
        refine r_iald X hw h_183 rfl (by rw [h_184]; exact z_ix z_186 (by omega) (by omega)) dX12_count_235 ?_
        refine lv_topi (fun v_187 ev_187 => ?_)
        have z_188 := gE_254 hO_32.1 h_183 (Int32.toNatClampNeg (v_185)); rw [← ev_187] at z_188
        have ev_187 := ev_187.symm
        have zf_189 : zA S_31 x 1202 ((i3_165_z / 60)).toNat = v_187.toInt := (zA_of h_182 z_186 (by omega) ev_187)
        refine lv_icmp_ge (tgt := 269) X.1 X.2.1 dX12_count_236 (by decide) (fun c_190 => ?_) (fun c_190 => ?_)
        · have z_b_191 := trivial
          have k_192 : (i3_165_z % 60) ≥ v_187.toInt := z_le rfl z_179 c_190
          obtain ⟨x_193, ex_193⟩ : ∃ y : Int32, y = i3_165 + 1 := ⟨_, rfl⟩
          have z_194 : x_193.toInt = i3_165_z + 1 := z_add ex_193 hz_i3_165 ti_1 (by omega) (by omega)
          refine lv_iinc (v := x_193) (lv' := [(3, .int (x_193)), (2, .int (i2_164)), (0, .ref x), (1, .int (a1))]) X.1 X.2.1 dX12_count_269 hl (k := 1) rfl (by rw [ex_193]; rfl) (by decide) rfl (fun ls hl => ?_)
          refine lv_goto (tgt := 212) X.1 X.2.1 dX12_count_272 (by decide) ?_
          exact ih_L_163 _ (by omega) _ _ _ (i2_164) (i2_164_z) (x_193) (x_193.toInt) rfl hw hz_i2_164 rfl (by omega) (by rw [show (x_193.toInt).toNat = (i3_165_z).toNat + 1 by omega, List.range_succ, su_a, v10_n (by omega) zf_189 (by omega), ← iv_166]; exact (Int32.add_zero _).symm) (by omega) (lv_sub hl [1, 0, 2, 3] rfl)
        · have z_b_195 := trivial
          have k_196 : (i3_165_z % 60) < v_187.toInt := z_nle rfl z_179 c_190
          refine lv_aload_n X.1 X.2.1 dX12_count_239 rfl (lv_at hl 2 rfl) ?_
          obtain ⟨q_197, h_198, h_199, h_200⟩ := gQ_12_1207 hO_32.1 t_170
          refine r_getR (g := 1207) X hw t_170 rfl 7 h_198 (by decide) rfl inn_X12_count_12 (by decide) (X.2.2.2.1 (.fieldLink RX12 25 "SilkMillModel" "stand" "[I") (by decide +kernel)) rfl (gv_1207 _ _) dX12_count_240 ?_
          refine lv_iload_n X.1 X.2.1 dX12_count_243 rfl (lv_at hl 1 rfl) ?_
          refine r_iald X hw h_199 rfl (by rw [h_200]; exact z_ix hz_i3_165 (by omega) (by omega)) dX12_count_244 ?_
          refine lv_topi (fun v_201 ev_201 => ?_)
          have rg_202 := And.intro (z_lo v_201) (z_hi v_201)
          have ev_201 := ev_201.symm
          have zf_203 : zA S_31 x 1207 (i3_165_z).toNat = v_201.toInt := (zA_of h_198 hz_i3_165 (by omega) ev_201)
          refine lv_bipush (v := 6) X.1 X.2.1 dX12_count_245 (by decide) ?_
          refine lv_icmp_ne (tgt := 269) X.1 X.2.1 dX12_count_247 (by decide) (fun c_204 => ?_) (fun c_204 => ?_)
          · have z_b_205 := trivial
            have k_206 : v_201.toInt ≠ 6 := z_ne rfl ti_6 c_204
            obtain ⟨x_207, ex_207⟩ : ∃ y : Int32, y = i3_165 + 1 := ⟨_, rfl⟩
            have z_208 : x_207.toInt = i3_165_z + 1 := z_add ex_207 hz_i3_165 ti_1 (by omega) (by omega)
            refine lv_iinc (v := x_207) (lv' := [(3, .int (x_207)), (2, .int (i2_164)), (0, .ref x), (1, .int (a1))]) X.1 X.2.1 dX12_count_269 hl (k := 1) rfl (by rw [ex_207]; rfl) (by decide) rfl (fun ls hl => ?_)
            refine lv_goto (tgt := 212) X.1 X.2.1 dX12_count_272 (by decide) ?_
            exact ih_L_163 _ (by omega) _ _ _ (i2_164) (i2_164_z) (x_207) (x_207.toInt) rfl hw hz_i2_164 rfl (by omega) (by rw [show (x_207.toInt).toNat = (i3_165_z).toNat + 1 by omega, List.range_succ, su_a, v10_m zf_203 (by omega), ← iv_166]; exact (Int32.add_zero _).symm) (by omega) (lv_sub hl [1, 0, 2, 3] rfl)
          · have z_b_209 := trivial
            have k_210 : v_201.toInt = 6 := z_eq rfl ti_6 c_204
            refine lv_iload_n X.1 X.2.1 dX12_count_250 rfl (lv_at hl 0 rfl) ?_
            refine lv_aload_n X.1 X.2.1 dX12_count_251 rfl (lv_at hl 2 rfl) ?_
            refine lv_iload_n X.1 X.2.1 dX12_count_252 rfl (lv_at hl 1 rfl) ?_
            refine lv_aload_n X.1 X.2.1 dX12_count_253 rfl (lv_at hl 2 rfl) ?_
            obtain ⟨q_211, h_212, h_213, h_214⟩ := gQ_12_1208 hO_32.1 t_170
            refine r_getR (g := 1208) X hw t_170 rfl 8 h_212 (by decide) rfl inn_X12_count_12 (by decide) (X.2.2.2.1 (.fieldLink RX12 28 "SilkMillModel" "place" "[I") (by decide +kernel)) rfl (gv_1208 _ _) dX12_count_254 ?_
            refine lv_iload_n X.1 X.2.1 dX12_count_257 rfl (lv_at hl 1 rfl) ?_
            refine r_iald X hw h_213 rfl (by rw [h_214]; exact z_ix hz_i3_165 (by omega) (by omega)) dX12_count_258 ?_
            refine lv_topi (fun v_215 ev_215 => ?_)
            have z_216 := gE_374 hO_32.1 h_213 (Int32.toNatClampNeg (i3_165)); rw [← ev_215] at z_216
            have ev_215 := ev_215.symm
            have zf_217 : zA S_31 x 1208 (i3_165_z).toNat = v_215.toInt := (zA_of h_212 hz_i3_165 (by omega) ev_215)
            refine lv_aload_n X.1 X.2.1 dX12_count_259 rfl (lv_at hl 2 rfl) ?_
            refine lv_iload_n X.1 X.2.1 dX12_count_260 rfl (lv_at hl 1 rfl) ?_
            refine k_i (rm := { frames := 2, cells := 0, slots := 0, locals := 96 }) (av := [.ref x, .int (i3_165)]) X hw (va_runV (As := [.int (i3_165)]) (rest := [.int (v_215), .int (i3_165), .ref x, .int (i2_164)]) (cfix X) (k_X12_lengthOf l G cy κ S_31 _ x (i3_165) (i3_165_z) hO_32.1 t_170 hz_i3_165 (by first | assumption | omega) (by first | assumption | omega)) (cwV 1 X.2.2.2.1 gX12_count_X12_lengthOf rfl rfl rfl (by decide +kernel) ⟨Nat.le_of_ble_eq_true rfl, Nat.le_of_ble_eq_true rfl⟩) (pre_V X hw _ t_170 rfl (by decide) rfl) rfl rfl hl.1 rfl (lv_room (Nat.le_of_ble_eq_true rfl)) dX12_count_261 ⟨Nat.le_of_ble_eq_true rfl, Nat.le_of_ble_eq_true rfl⟩) 0 0 (Nat.le_of_ble_eq_true rfl) (Nat.le_of_ble_eq_true rfl) (fun rr_218 S_219 H locs hp hw hfr hnw => ?_)
            obtain ⟨e2, hp⟩ := hp
            subst e2
            obtain ⟨f_220, f_221, f_222⟩ := hp
            refine k_i (rm := { frames := 4, cells := 0, slots := 0, locals := 192 }) (av := [.ref x, .int (i3_165), .int (v_215), .int (rr_218)]) X hw (va_runV (As := [.int (i3_165), .int (v_215), .int (rr_218)]) (rest := [.int (i2_164)]) (cfix X) (k_X12_silk9 l G cy κ S_31 _ x (i3_165) (i3_165_z) (v_215) (v_215.toInt) (rr_218) (rr_218.toInt) hO_32.1 t_170 hz_i3_165 rfl rfl (by first | assumption | omega) (by first | assumption | omega) (by first | assumption | omega) (by first | assumption | omega) (by first | assumption | omega)) (cwV 3 X.2.2.2.1 gX12_count_X12_silk rfl rfl rfl (by decide +kernel) ⟨Nat.le_of_ble_eq_true rfl, Nat.le_of_ble_eq_true rfl⟩) (pre_V X hw _ t_170 rfl (by decide) rfl) rfl rfl hl.1 rfl (lv_room (Nat.le_of_ble_eq_true rfl)) dX12_count_264 ⟨Nat.le_of_ble_eq_true rfl, Nat.le_of_ble_eq_true rfl⟩) 0 0 (Nat.le_of_ble_eq_true rfl) (Nat.le_of_ble_eq_true rfl) (fun rr_223 S_224 H locs hp hw hfr hnw => ?_)
            obtain ⟨e2, hp⟩ := hp
            subst e2
            obtain ⟨sl_225, sl_226, sl_227⟩ := hp
            have rg_228 := And.intro (z_lo rr_223) (z_hi rr_223)
            refine lv_iadd X.1 X.2.1 dX12_count_267 ?_
            refine lv_topi (fun v_229 ev_229 => ?_)
            have rg_230 := And.intro (z_lo v_229) (z_hi v_229)
            refine lv_istore_n (lv' := [(2, .int (v_229)), (3, .int (i3_165)), (0, .ref x), (1, .int (a1))]) X.1 X.2.1 dX12_count_268 rfl hl (by decide) rfl (fun ls hl => ?_)
            obtain ⟨x_231, ex_231⟩ : ∃ y : Int32, y = i3_165 + 1 := ⟨_, rfl⟩
            have z_232 : x_231.toInt = i3_165_z + 1 := z_add ex_231 hz_i3_165 ti_1 (by omega) (by omega)
            refine lv_iinc (v := x_231) (lv' := [(3, .int (x_231)), (2, .int (v_229)), (0, .ref x), (1, .int (a1))]) X.1 X.2.1 dX12_count_269 hl (k := 1) rfl (by rw [ex_231]; rfl) (by decide) rfl (fun ls hl => ?_)
            refine lv_goto (tgt := 212) X.1 X.2.1 dX12_count_272 (by decide) ?_
            exact ih_L_163 _ (by omega) _ _ _ (v_229) (v_229.toInt) (x_231) (x_231.toInt) rfl hw rfl rfl (by omega) (by rw [show (x_231.toInt).toNat = (i3_165_z).toNat + 1 by omega, List.range_succ, su_a, v10_y (ln := rr_218.toInt) (by omega) zf_189 (by omega) (zf_203.trans (by omega)) zf_217 (by omega), ← iv_166, ev_229]; exact congrArg (fun y => i2_164 + y) sl_227) (by omega) (lv_sub hl [1, 0, 2, 3] rfl)
    exact L_163 _ _ _ _ (0) (0) (0) (0) rfl hw ti_0 ti_0 (by omega) rfl (by omega) (lv_sub hl [1, 0, 2, 3] rfl)
  · refine lv_tableIn (tgt := 277) X.1 X.2.1 dX12_count_8 (by omega) (by omega) (by rw [w_40c]; rfl) (by decide) ?_
    refine lv_iconst (v := 0) X.1 X.2.1 dX12_count_277 (by decide) ?_
    refine lv_istore_n (lv' := [(3, .int 0), (2, .int 0), (0, .ref x), (1, .int (a1))]) X.1 X.2.1 dX12_count_278 rfl hl (by decide) rfl (fun ls hl => ?_)
    have L_233 : ∀ (n : Nat) (H : Heap) (locs : List Loc) (ls : Array Slot) (i2_234 : Int32) (i2_234_z : Int) (i3_235 : Int32) (i3_235_z : Int), ((16 - i3_235_z).toNat = n) → (Wd G cy (AS S s.heap.size) s.heap S_31 H locs) → (i2_234.toInt = i2_234_z) → (0 ≤ i2_234_z ∧ i2_234_z ≤ 16) → (i3_235.toInt = i3_235_z) → (0 ≤ i3_235_z ∧ i3_235_z ≤ 16) → (i2_234_z = laN S_31 x (i3_235_z).toNat) → (i2_234_z ≤ i3_235_z) → (lv_has ls 4 [(2, .int (i2_234)), (3, .int (i3_235)), (0, .ref x), (1, .int (a1))]) → W p l e ({ frames := 6, cells := 0, slots := 0, locals := 288 }) s m [.ref x, .int (a1)].toArray below meth c H locs 0 0 QQ (F0 m 279 ls []) := by
      intro n
      induction n using Nat.strongRecOn with
      | ind n ih_L_233 =>
      intro H locs ls i2_234 i2_234_z i3_235 i3_235_z hn hw hz_i2_234 hr_i2_234 hz_i3_235 hr_i3_235 iv_236 iv_237 hl
      have rg_238 : (-2147483648) ≤ i2_234_z ∧ i2_234_z ≤ 2147483647 := by rw [← hz_i2_234]; exact ⟨z_lo _, z_hi _⟩
      have rg_239 : (-2147483648) ≤ i3_235_z ∧ i3_235_z ≤ 2147483647 := by rw [← hz_i3_235]; exact ⟨z_lo _, z_hi _⟩
      refine lv_iload_n X.1 X.2.1 dX12_count_279 rfl (lv_at hl 1 rfl) ?_
      refine lv_bipush (v := 16) X.1 X.2.1 dX12_count_280 (by decide) ?_
      refine lv_icmp_ge (tgt := 308) X.1 X.2.1 dX12_count_282 (by decide) (fun c_240 => ?_) (fun c_240 => ?_)
      · have z_b_241 := trivial
        have k_242 : i3_235_z ≥ 16 := z_le ti_16 hz_i3_235 c_240
        refine lv_iload_n X.1 X.2.1 dX12_count_308 rfl (lv_at hl 0 rfl) ?_
        rw [hQQ]
        exact ret_i X hw hr hlocks (Nat.le_of_ble_eq_true rfl) (Nat.le_of_ble_eq_true rfl) ⟨hO_32, ⟨z_lo _, z_hi _, (by rw [cnZ_11 (by omega)]; exact oi_of (hz_i2_234.trans (iv_236.trans (by rw [show (i3_235_z).toNat = 16 by omega]; exact la_e (zA_sI eS_31) 16))))⟩⟩ dX12_count_309
      · have z_b_243 := trivial
        have k_244 : i3_235_z < 16 := z_nle ti_16 hz_i3_235 c_240
        refine lv_iload_n X.1 X.2.1 dX12_count_285 rfl (lv_at hl 0 rfl) ?_
        refine lv_aload_n X.1 X.2.1 dX12_count_286 rfl (lv_at hl 2 rfl) ?_
        have t_245 : At S_31 x 12 := tAt_sI eS_31 ha_x
        obtain ⟨q_246, h_247, h_248, h_249⟩ := gQ_12_1253 hO_32.1 t_245
        refine r_getR (g := 1253) X hw t_245 rfl 53 h_247 (by decide) rfl inn_X12_count_12 (by decide) (X.2.2.2.1 (.fieldLink RX12 125 "SilkMillModel" "isLaid" "[Z") (by decide +kernel)) rfl (gv_1253 _ _) dX12_count_287 ?_
        refine lv_iload_n X.1 X.2.1 dX12_count_290 rfl (lv_at hl 1 rfl) ?_
        refine r_zald X hw h_248 rfl (by rw [h_249]; exact z_ix hz_i3_235 (by omega) (by omega)) dX12_count_291 ?_
        refine lv_topi (fun v_250 ev_250 => ?_)
        have rg_251 := And.intro (z_lo v_250) (z_hi v_250)
        have ev_250 := ev_250.symm
        have zf_252 : zA S_31 x 1253 (i3_235_z).toNat = v_250.toInt := (zA_of h_247 hz_i3_235 (by omega) ev_250)
        refine lv_if_eq (tgt := 299) X.1 X.2.1 dX12_count_292 (by decide) (fun c_253 => ?_) (fun c_253 => ?_)
        · have z_b_254 := trivial
          have k_255 : v_250.toInt = 0 := z_eq rfl ti_0 c_253
          refine lv_iconst (v := 0) X.1 X.2.1 dX12_count_299 (by decide) ?_
          refine lv_iadd X.1 X.2.1 dX12_count_300 ?_
          refine lv_topi (fun v_256 ev_256 => ?_)
          have z_257 : v_256.toInt = i2_234_z + 0 := z_add ev_256 hz_i2_234 ti_0 (by omega) (by omega)
          refine lv_istore_n (lv' := [(2, .int (v_256)), (3, .int (i3_235)), (0, .ref x), (1, .int (a1))]) X.1 X.2.1 dX12_count_301 rfl hl (by decide) rfl (fun ls hl => ?_)
          obtain ⟨x_258, ex_258⟩ : ∃ y : Int32, y = i3_235 + 1 := ⟨_, rfl⟩
          have z_259 : x_258.toInt = i3_235_z + 1 := z_add ex_258 hz_i3_235 ti_1 (by omega) (by omega)
          refine lv_iinc (v := x_258) (lv' := [(3, .int (x_258)), (2, .int (v_256)), (0, .ref x), (1, .int (a1))]) X.1 X.2.1 dX12_count_302 hl (k := 1) rfl (by rw [ex_258]; rfl) (by decide) rfl (fun ls hl => ?_)
          refine lv_goto (tgt := 279) X.1 X.2.1 dX12_count_305 (by decide) ?_
          exact ih_L_233 _ (by omega) _ _ _ (v_256) ((i2_234_z + 0)) (x_258) (x_258.toInt) rfl hw z_257 (by omega) rfl (by omega) (by rw [show (x_258.toInt).toNat = (i3_235_z).toNat + 1 by omega, la_n (zf_252.trans (by omega))]; omega) (by omega) (lv_sub hl [1, 0, 2, 3] rfl)
        · have z_b_260 := trivial
          have k_261 : v_250.toInt ≠ 0 := z_ne rfl ti_0 c_253
          refine lv_iconst (v := 1) X.1 X.2.1 dX12_count_295 (by decide) ?_
          refine lv_goto (tgt := 300) X.1 X.2.1 dX12_count_296 (by decide) ?_
          refine lv_iadd X.1 X.2.1 dX12_count_300 ?_
          refine lv_topi (fun v_262 ev_262 => ?_)
          have z_263 : v_262.toInt = i2_234_z + 1 := z_add ev_262 hz_i2_234 ti_1 (by omega) (by omega)
          refine lv_istore_n (lv' := [(2, .int (v_262)), (3, .int (i3_235)), (0, .ref x), (1, .int (a1))]) X.1 X.2.1 dX12_count_301 rfl hl (by decide) rfl (fun ls hl => ?_)
          obtain ⟨x_264, ex_264⟩ : ∃ y : Int32, y = i3_235 + 1 := ⟨_, rfl⟩
          have z_265 : x_264.toInt = i3_235_z + 1 := z_add ex_264 hz_i3_235 ti_1 (by omega) (by omega)
          refine lv_iinc (v := x_264) (lv' := [(3, .int (x_264)), (2, .int (v_262)), (0, .ref x), (1, .int (a1))]) X.1 X.2.1 dX12_count_302 hl (k := 1) rfl (by rw [ex_264]; rfl) (by decide) rfl (fun ls hl => ?_)
          refine lv_goto (tgt := 279) X.1 X.2.1 dX12_count_305 (by decide) ?_
          exact ih_L_233 _ (by omega) _ _ _ (v_262) ((i2_234_z + 1)) (x_264) (x_264.toInt) rfl hw z_263 (by omega) rfl (by omega) (by rw [show (x_264.toInt).toNat = (i3_235_z).toNat + 1 by omega, la_y (by rw [zf_252]; omega)]; omega) (by omega) (lv_sub hl [1, 0, 2, 3] rfl)
    exact L_233 _ _ _ _ (0) (0) (0) (0) rfl hw ti_0 (by omega) ti_0 (by omega) rfl (by omega) (lv_sub hl [1, 0, 2, 3] rfl)
