noncomputable def skZ (S : PS) (x : Nat) (s : Sk) (w : Int) : Int := if w = 0 then s.1.1.toInt else if w = 1 then s.2.1.toInt else if w = 2 then (s.2.2.2.length : Int) else if w = 3 then (siZ S x s.2.2.2).toInt else if w = 4 then (loZ S x s.2.2.2).toInt else if w = 5 then (hiZ S x s.2.2.2).toInt else if w = 6 then (slN (mtE S x s.2.2.2) s.2.2.2.length).toInt else if w = 7 then ((pcs s.2.2.2).length : Int) else if w = 8 then s.1.2.1.toInt else if w = 9 then soV s.1.2.2.1 else if w = 10 then (pcI (siZ S x s.2.2.2) (mA S x 1248 (gI s.1.2.1))).toInt else if w = 11 then s.2.2.1.toInt else -1
theorem skZ_0 {S : PS} {x : Nat} {s : Sk} {w : Int} (h : w = 0) : skZ S x s w = s.1.1.toInt := by subst h; rfl
theorem skZ_1 {S : PS} {x : Nat} {s : Sk} {w : Int} (h : w = 1) : skZ S x s w = s.2.1.toInt := by subst h; rfl
theorem skZ_2 {S : PS} {x : Nat} {s : Sk} {w : Int} (h : w = 2) : skZ S x s w = (s.2.2.2.length : Int) := by subst h; rfl
theorem skZ_3 {S : PS} {x : Nat} {s : Sk} {w : Int} (h : w = 3) : skZ S x s w = (siZ S x s.2.2.2).toInt := by subst h; rfl
theorem skZ_4 {S : PS} {x : Nat} {s : Sk} {w : Int} (h : w = 4) : skZ S x s w = (loZ S x s.2.2.2).toInt := by subst h; rfl
theorem skZ_5 {S : PS} {x : Nat} {s : Sk} {w : Int} (h : w = 5) : skZ S x s w = (hiZ S x s.2.2.2).toInt := by subst h; rfl
theorem skZ_6 {S : PS} {x : Nat} {s : Sk} {w : Int} (h : w = 6) : skZ S x s w = (slN (mtE S x s.2.2.2) s.2.2.2.length).toInt := by subst h; rfl
theorem skZ_7 {S : PS} {x : Nat} {s : Sk} {w : Int} (h : w = 7) : skZ S x s w = ((pcs s.2.2.2).length : Int) := by subst h; rfl
theorem skZ_8 {S : PS} {x : Nat} {s : Sk} {w : Int} (h : w = 8) : skZ S x s w = s.1.2.1.toInt := by subst h; rfl
theorem skZ_9 {S : PS} {x : Nat} {s : Sk} {w : Int} (h : w = 9) : skZ S x s w = soV s.1.2.2.1 := by subst h; rfl
theorem skZ_10 {S : PS} {x : Nat} {s : Sk} {w : Int} (h : w = 10) : skZ S x s w = (pcI (siZ S x s.2.2.2) (mA S x 1248 (gI s.1.2.1))).toInt := by subst h; rfl
theorem skZ_11 {S : PS} {x : Nat} {s : Sk} {w : Int} (h : w = 11) : skZ S x s w = s.2.2.1.toInt := by subst h; rfl
theorem skZ_d {S : PS} {x : Nat} {s : Sk} {w : Int} (h : ¬ (0 ≤ w ∧ w ≤ 11)) : skZ S x s w = -1 := by
  unfold skZ
  rw [if_neg (by omega), if_neg (by omega), if_neg (by omega), if_neg (by omega), if_neg (by omega), if_neg (by omega), if_neg (by omega), if_neg (by omega), if_neg (by omega), if_neg (by omega), if_neg (by omega), if_neg (by omega)]

set_option maxHeartbeats 4000000 in
set_option maxRecDepth 100000 in
theorem k_X12_slips8 (l : Launch) (G : va_G) (cy : Nat → ClassId) (κ : Nat → Nat) (S : PS) (sz : Nat) (x : Nat) (a1 : Int32) (a1_z : Int) (sQ : Sk) (hG : GX S) (ha_x : At S x 12) (hz_a1 : a1.toInt = a1_z) (hp_0 : 0 ≤ a1_z) (hp_1 : a1_z ≤ 39) (hp_2 : a1_z < (pI S 1238 x).toInt) (hp_3 : MI S x) (hp_4 : SkR S x a1_z.toNat sQ) : Ci l yX12_slips wsX12_slips ({ frames := 5, cells := 0, slots := 0, locals := 240 }) G cy κ S sz [.ref x, .int (a1)] (fun (r : Int32) (S9 : PS) => S = S9 ∧ (-2147483648 ≤ r.toInt ∧ r.toInt ≤ 2147483647 ∧ r = slN (mtE S x sQ.2.2.2) sQ.2.2.2.length)) := by
  refine ent_m (cc := cX12_slips) (maxL := 4) (ret := (some .int)) (by decide) rfl (Nat.le_of_ble_eq_true rfl) ?_
  intro p e s m below meth c ls X hr hlocks hin hw hl hsz
  subst hsz
  have X : Cx p c cX12_slips 4 s [.ref x, .int (a1)].toArray wsX12_slips RX12 m G cy κ (AS S s.heap.size) := X
  have hl : lv_has ls 4 [(0, .ref x), (1, .int (a1))] := hl
  have rg_a1 : (-2147483648) ≤ a1_z ∧ a1_z ≤ 2147483647 := by rw [← hz_a1]; exact ⟨z_lo _, z_hi _⟩
  generalize hQQ : MQ below _ _ _ _ _ _ = QQ
  replace hQQ := hQQ.symm
  have h7 := MI_7 hp_3 (k := a1_z) (by omega) (by omega)
  have hsl := hp_4.2.1
  have hsn : zA S x 1239 (a1_z + 1).toNat = zA S x 1239 (a1_z.toNat + 1) := by rw [show (a1_z + 1).toNat = a1_z.toNat + 1 by omega]
  have hz39 := z1239 hG ha_x a1_z.toNat
  have hz40 := z1239 hG ha_x (a1_z.toNat + 1)
  refine lv_iconst (v := 0) X.1 X.2.1 dX12_slips_0 (by decide) ?_
  refine lv_istore_n (lv' := [(2, .int 0), (0, .ref x), (1, .int (a1))]) X.1 X.2.1 dX12_slips_1 rfl hl (by decide) rfl (fun ls hl => ?_)
  refine lv_aload_n X.1 X.2.1 dX12_slips_2 rfl (lv_at hl 1 rfl) ?_
  obtain ⟨q_1, h_2, h_3, h_4⟩ := gQ_12_1239 hG ha_x
  refine r_getR (g := 1239) X hw ha_x rfl 39 h_2 (by decide) rfl inn_X12_slips_12 (by decide) (X.2.2.2.1 (.fieldLink RX12 100 "SilkMillModel" "firstMetre" "[I") (by decide +kernel)) rfl (gv_1239 _ _) dX12_slips_3 ?_
  refine lv_iload_n X.1 X.2.1 dX12_slips_6 rfl (lv_at hl 2 rfl) ?_
  refine r_iald X hw h_3 rfl (by rw [h_4]; exact z_ix hz_a1 (by omega) (by omega)) dX12_slips_7 ?_
  refine lv_topi (fun v_5 ev_5 => ?_)
  have z_6 := gE_994 hG h_3 (Int32.toNatClampNeg (a1)); rw [← ev_5] at z_6
  have ev_5 := ev_5.symm
  have zf_7 : zA S x 1239 (a1_z).toNat = v_5.toInt := (zA_of h_2 hz_a1 (by omega) ev_5)
  refine lv_iconst (v := 1) X.1 X.2.1 dX12_slips_8 (by decide) ?_
  refine lv_iadd X.1 X.2.1 dX12_slips_9 ?_
  refine lv_topi (fun v_8 ev_8 => ?_)
  have z_9 : v_8.toInt = v_5.toInt + 1 := z_add ev_8 rfl ti_1 (by omega) (by omega)
  refine lv_istore_n (lv' := [(3, .int (v_8)), (2, .int 0), (0, .ref x), (1, .int (a1))]) X.1 X.2.1 dX12_slips_10 rfl hl (by decide) rfl (fun ls hl => ?_)
  have L_10 : ∀ (n : Nat) (H : Heap) (locs : List Loc) (ls : Array Slot) (i2_11 : Int32) (i2_11_z : Int) (i3_12 : Int32) (i3_12_z : Int), ((12000 - i3_12_z).toNat = n) → (Wd G cy (AS S s.heap.size) s.heap S H locs) → (i2_11.toInt = i2_11_z) → (0 ≤ i2_11_z ∧ i2_11_z ≤ 12001) → (i3_12.toInt = i3_12_z) → (1 ≤ i3_12_z ∧ i3_12_z ≤ 12001) → ((i2_11) = slN (mtE S x sQ.2.2.2) (i3_12_z - zA S x 1239 a1_z.toNat).toNat) → (zA S x 1239 a1_z.toNat + 1 ≤ i3_12_z) → (i3_12_z ≤ zA S x 1239 a1_z.toNat + (sQ.2.2.2.length : Int)) → (i2_11_z ≤ i3_12_z) → (lv_has ls 4 [(2, .int (i2_11)), (3, .int (i3_12)), (0, .ref x), (1, .int (a1))]) → W p l e ({ frames := 5, cells := 0, slots := 0, locals := 240 }) s m [.ref x, .int (a1)].toArray below meth c H locs 0 0 QQ (F0 m 11 ls []) := by
    intro n
    induction n using Nat.strongRecOn with
    | ind n ih_L_10 =>
    intro H locs ls i2_11 i2_11_z i3_12 i3_12_z hn hw hz_i2_11 hr_i2_11 hz_i3_12 hr_i3_12 iv_13 iv_14 iv_15 iv_16 hl
    have rg_17 : (-2147483648) ≤ i2_11_z ∧ i2_11_z ≤ 2147483647 := by rw [← hz_i2_11]; exact ⟨z_lo _, z_hi _⟩
    have rg_18 : (-2147483648) ≤ i3_12_z ∧ i3_12_z ≤ 2147483647 := by rw [← hz_i3_12]; exact ⟨z_lo _, z_hi _⟩
    refine lv_iload_n X.1 X.2.1 dX12_slips_11 rfl (lv_at hl 1 rfl) ?_
    refine lv_aload_n X.1 X.2.1 dX12_slips_12 rfl (lv_at hl 2 rfl) ?_
    refine r_getR (g := 1239) X hw ha_x rfl 39 h_2 (by decide) rfl inn_X12_slips_12 (by decide) (X.2.2.2.1 (.fieldLink RX12 100 "SilkMillModel" "firstMetre" "[I") (by decide +kernel)) rfl (gv_1239 _ _) dX12_slips_13 ?_
    refine lv_iload_n X.1 X.2.1 dX12_slips_16 rfl (lv_at hl 3 rfl) ?_
    refine lv_iconst (v := 1) X.1 X.2.1 dX12_slips_17 (by decide) ?_
    refine lv_iadd X.1 X.2.1 dX12_slips_18 ?_
    refine lv_topi (fun v_19 ev_19 => ?_)
    have z_20 : v_19.toInt = a1_z + 1 := z_add ev_19 hz_a1 ti_1 (by omega) (by omega)
    refine r_iald X hw h_3 rfl (by rw [h_4]; exact z_ix z_20 (by omega) (by omega)) dX12_slips_19 ?_
    refine lv_topi (fun v_21 ev_21 => ?_)
    have z_22 := gE_994 hG h_3 (Int32.toNatClampNeg (v_19)); rw [← ev_21] at z_22
    have ev_21 := ev_21.symm
    have zf_23 : zA S x 1239 ((a1_z + 1)).toNat = v_21.toInt := (zA_of h_2 z_20 (by omega) ev_21)
    refine lv_icmp_ge (tgt := 57) X.1 X.2.1 dX12_slips_20 (by decide) (fun c_24 => ?_) (fun c_24 => ?_)
    · have z_b_25 := trivial
      have k_26 : i3_12_z ≥ v_21.toInt := z_le rfl hz_i3_12 c_24
      refine lv_iload_n X.1 X.2.1 dX12_slips_57 rfl (lv_at hl 0 rfl) ?_
      rw [hQQ]
      exact ret_i X hw hr hlocks (Nat.le_of_ble_eq_true rfl) (Nat.le_of_ble_eq_true rfl) ⟨rfl, ⟨z_lo _, z_hi _, by rw [iv_13, show (i3_12_z - zA S x 1239 a1_z.toNat).toNat = sQ.2.2.2.length by omega]⟩⟩ dX12_slips_58
    · have z_b_27 := trivial
      have k_28 : i3_12_z < v_21.toInt := z_nle rfl hz_i3_12 c_24
      refine lv_iload_n X.1 X.2.1 dX12_slips_23 rfl (lv_at hl 0 rfl) ?_
      refine lv_aload_n X.1 X.2.1 dX12_slips_24 rfl (lv_at hl 2 rfl) ?_
      refine lv_iload_n X.1 X.2.1 dX12_slips_25 rfl (lv_at hl 1 rfl) ?_
      obtain ⟨t_29, ht_30⟩ : ∃ t, sQ.2.2.2[(i3_12_z - zA S x 1239 a1_z.toNat).toNat]? = some t := ⟨_, List.getElem?_eq_getElem (by omega)⟩
      refine k_i (rm := { frames := 4, cells := 0, slots := 0, locals := 192 }) (av := [.ref x, .int (i3_12)]) X hw (va_runV (As := [.int (i3_12)]) (rest := [.int (i2_11)]) (cfix X) (k_X12_fineAt7 l G cy κ S _ x (i3_12) (i3_12_z) t_29 hG ha_x hz_i3_12 (by omega) (by omega) hp_3 (by rw [show (i3_12_z).toNat = (zA S x 1239 a1_z.toNat).toNat + (i3_12_z - zA S x 1239 a1_z.toNat).toNat by omega]; exact hp_4.2.2 _ _ ht_30)) (cwV 1 X.2.2.2.1 gX12_slips_X12_fineAt rfl rfl rfl (by decide +kernel) ⟨Nat.le_of_ble_eq_true rfl, Nat.le_of_ble_eq_true rfl⟩) (pre_V X hw _ ha_x rfl (by decide) rfl) rfl rfl hl.1 rfl (lv_room (Nat.le_of_ble_eq_true rfl)) dX12_slips_26 ⟨Nat.le_of_ble_eq_true rfl, Nat.le_of_ble_eq_true rfl⟩) 0 0 (Nat.le_of_ble_eq_true rfl) (Nat.le_of_ble_eq_true rfl) (fun rr_31 S_32 H locs hp hw hfr hnw => ?_)
      obtain ⟨e2, hp⟩ := hp
      subst e2
      obtain ⟨le_33, le_34, le_35⟩ := hp
      have lf_36 : rr_31 = (mtE S x sQ.2.2.2) (i3_12_z - zA S x 1239 a1_z.toNat).toNat := by rw [mtE_of ht_30]; exact le_35
      have rg_37 := And.intro (z_lo rr_31) (z_hi rr_31)
      refine lv_aload_n X.1 X.2.1 dX12_slips_29 rfl (lv_at hl 2 rfl) ?_
      refine lv_iload_n X.1 X.2.1 dX12_slips_30 rfl (lv_at hl 1 rfl) ?_
      refine lv_iconst (v := 1) X.1 X.2.1 dX12_slips_31 (by decide) ?_
      refine lv_isub X.1 X.2.1 dX12_slips_32 ?_
      refine lv_topi (fun v_38 ev_38 => ?_)
      have z_39 : v_38.toInt = i3_12_z - 1 := z_sub ev_38 hz_i3_12 ti_1 (by omega) (by omega)
      obtain ⟨t_40, ht_41⟩ : ∃ t, sQ.2.2.2[((i3_12_z - zA S x 1239 a1_z.toNat).toNat - 1)]? = some t := ⟨_, List.getElem?_eq_getElem (by omega)⟩
      refine k_i (rm := { frames := 4, cells := 0, slots := 0, locals := 192 }) (av := [.ref x, .int (v_38)]) X hw (va_runV (As := [.int (v_38)]) (rest := [.int (rr_31), .int (i2_11)]) (cfix X) (k_X12_fineAt7 l G cy κ S _ x (v_38) ((i3_12_z - 1)) t_40 hG ha_x z_39 (by omega) (by omega) hp_3 (by rw [show ((i3_12_z - 1)).toNat = (zA S x 1239 a1_z.toNat).toNat + ((i3_12_z - zA S x 1239 a1_z.toNat).toNat - 1) by omega]; exact hp_4.2.2 _ _ ht_41)) (cwV 1 X.2.2.2.1 gX12_slips_X12_fineAt rfl rfl rfl (by decide +kernel) ⟨Nat.le_of_ble_eq_true rfl, Nat.le_of_ble_eq_true rfl⟩) (pre_V X hw _ ha_x rfl (by decide) rfl) rfl rfl hl.1 rfl (lv_room (Nat.le_of_ble_eq_true rfl)) dX12_slips_33 ⟨Nat.le_of_ble_eq_true rfl, Nat.le_of_ble_eq_true rfl⟩) 0 0 (Nat.le_of_ble_eq_true rfl) (Nat.le_of_ble_eq_true rfl) (fun rr_42 S_43 H locs hp hw hfr hnw => ?_)
      obtain ⟨e2, hp⟩ := hp
      subst e2
      obtain ⟨le_44, le_45, le_46⟩ := hp
      have lf_47 : rr_42 = (mtE S x sQ.2.2.2) ((i3_12_z - zA S x 1239 a1_z.toNat).toNat - 1) := by rw [mtE_of ht_41]; exact le_46
      have rg_48 := And.intro (z_lo rr_42) (z_hi rr_42)
      refine lv_isub X.1 X.2.1 dX12_slips_36 ?_
      refine lv_topi (fun v_49 ev_49 => ?_)
      have rg_50 := And.intro (z_lo v_49) (z_hi v_49)
      refine va_mabs X.1 X.2.1 (X.2.2.1.trans hl.1.symm) X.2.2.2.2.1 (X.2.2.2.1 (.methodLink RX12 347 Lib.Math.abs.name) (by decide +kernel)) (X.2.2.2.1 (.static Lib.Math.abs.name) (by decide +kernel)) (X.2.2.2.1 (.initialized "java/lang/Math") (by decide +kernel)) (X.2.2.2.1 (.code Lib.Math.abs.name Lib.Math.abs.code 1 (some .int)) (by decide +kernel)) (Nat.le_of_ble_eq_true rfl) (Nat.le_of_ble_eq_true rfl) (Nat.le_of_ble_eq_true rfl) (Nat.le_of_ble_eq_true rfl) dX12_slips_37 ?_
      refine lv_topi (fun v_51 ev_51 => ?_)
      have rg_53 := And.intro (z_lo v_51) (z_hi v_51)
      refine lv_iconst (v := 4) X.1 X.2.1 dX12_slips_40 (by decide) ?_
      refine lv_icmp_le (tgt := 48) X.1 X.2.1 dX12_slips_41 (by decide) (fun c_54 => ?_) (fun c_54 => ?_)
      · have z_b_55 := trivial
        have k_56 : v_51.toInt ≤ 4 := z_le rfl ti_4 c_54
        refine lv_iconst (v := 0) X.1 X.2.1 dX12_slips_48 (by decide) ?_
        refine lv_iadd X.1 X.2.1 dX12_slips_49 ?_
        refine lv_topi (fun v_57 ev_57 => ?_)
        have z_58 : v_57.toInt = i2_11_z + 0 := z_add ev_57 hz_i2_11 ti_0 (by omega) (by omega)
        refine lv_istore_n (lv' := [(2, .int (v_57)), (3, .int (i3_12)), (0, .ref x), (1, .int (a1))]) X.1 X.2.1 dX12_slips_50 rfl hl (by decide) rfl (fun ls hl => ?_)
        obtain ⟨x_59, ex_59⟩ : ∃ y : Int32, y = i3_12 + 1 := ⟨_, rfl⟩
        have z_60 : x_59.toInt = i3_12_z + 1 := z_add ex_59 hz_i3_12 ti_1 (by omega) (by omega)
        refine lv_iinc (v := x_59) (lv' := [(3, .int (x_59)), (2, .int (v_57)), (0, .ref x), (1, .int (a1))]) X.1 X.2.1 dX12_slips_51 hl (k := 1) rfl (by rw [ex_59]; rfl) (by decide) rfl (fun ls hl => ?_)
        refine lv_goto (tgt := 11) X.1 X.2.1 dX12_slips_54 (by decide) ?_
        have ja_61 : (abI ((mtE S x sQ.2.2.2) (i3_12_z - zA S x 1239 a1_z.toNat).toNat - (mtE S x sQ.2.2.2) ((i3_12_z - zA S x 1239 a1_z.toNat).toNat - 1))).toInt = (v_51).toInt := by rw [ev_51]; unfold abI; rw [ev_49, lf_36, lf_47]
        exact ih_L_10 _ (by omega) _ _ _ (v_57) ((i2_11_z + 0)) (x_59) (x_59.toInt) rfl hw z_58 (by omega) rfl (by omega) (by rw [show (x_59.toInt - zA S x 1239 a1_z.toNat).toNat = (i3_12_z - zA S x 1239 a1_z.toNat).toNat + 1 by omega, slN_n (by omega), ← iv_13, ev_57]; exact Int32.add_zero _) (by omega) (by omega) (by omega) (lv_sub hl [1, 0, 2, 3] rfl)
      · have z_b_62 := trivial
        have k_63 : v_51.toInt > 4 := z_nle rfl ti_4 c_54
        refine lv_iconst (v := 1) X.1 X.2.1 dX12_slips_44 (by decide) ?_
        refine lv_goto (tgt := 49) X.1 X.2.1 dX12_slips_45 (by decide) ?_
        refine lv_iadd X.1 X.2.1 dX12_slips_49 ?_
        refine lv_topi (fun v_64 ev_64 => ?_)
        have z_65 : v_64.toInt = i2_11_z + 1 := z_add ev_64 hz_i2_11 ti_1 (by omega) (by omega)
        refine lv_istore_n (lv' := [(2, .int (v_64)), (3, .int (i3_12)), (0, .ref x), (1, .int (a1))]) X.1 X.2.1 dX12_slips_50 rfl hl (by decide) rfl (fun ls hl => ?_)
        obtain ⟨x_66, ex_66⟩ : ∃ y : Int32, y = i3_12 + 1 := ⟨_, rfl⟩
        have z_67 : x_66.toInt = i3_12_z + 1 := z_add ex_66 hz_i3_12 ti_1 (by omega) (by omega)
        refine lv_iinc (v := x_66) (lv' := [(3, .int (x_66)), (2, .int (v_64)), (0, .ref x), (1, .int (a1))]) X.1 X.2.1 dX12_slips_51 hl (k := 1) rfl (by rw [ex_66]; rfl) (by decide) rfl (fun ls hl => ?_)
        refine lv_goto (tgt := 11) X.1 X.2.1 dX12_slips_54 (by decide) ?_
        have ja_68 : (abI ((mtE S x sQ.2.2.2) (i3_12_z - zA S x 1239 a1_z.toNat).toNat - (mtE S x sQ.2.2.2) ((i3_12_z - zA S x 1239 a1_z.toNat).toNat - 1))).toInt = (v_51).toInt := by rw [ev_51]; unfold abI; rw [ev_49, lf_36, lf_47]
        exact ih_L_10 _ (by omega) _ _ _ (v_64) ((i2_11_z + 1)) (x_66) (x_66.toInt) rfl hw z_65 (by omega) rfl (by omega) (by rw [show (x_66.toInt - zA S x 1239 a1_z.toNat).toNat = (i3_12_z - zA S x 1239 a1_z.toNat).toNat + 1 by omega, slN_y (by omega) (by omega), ← iv_13]; exact ev_64) (by omega) (by omega) (by omega) (lv_sub hl [1, 0, 2, 3] rfl)
  exact L_10 _ _ _ _ (0) (0) (v_8) ((v_5.toInt + 1)) rfl hw ti_0 (by omega) z_9 (by omega) (by rw [show ((v_5.toInt + 1) - zA S x 1239 a1_z.toNat).toNat = 0 + 1 by omega, slN_n (by omega)]; rfl) (by omega) (by omega) (by omega) (lv_sub hl [1, 0, 2, 3] rfl)
set_option maxHeartbeats 4000000 in
set_option maxRecDepth 100000 in
theorem k_X12_skein8 (l : Launch) (G : va_G) (cy : Nat → ClassId) (κ : Nat → Nat) (S : PS) (sz : Nat) (x : Nat) (a1 : Int32) (a1_z : Int) (a2 : Int32) (a2_z : Int) (Ls : List Sk) (hG : GX S) (ha_x : At S x 12) (hz_a1 : a1.toInt = a1_z) (hz_a2 : a2.toInt = a2_z) (hp_0 : MI S x) (hp_1 : SkW S x Ls) (hp_2 : NeB Ls) : Ci l yX12_skein wsX12_skein ({ frames := 8, cells := 0, slots := 0, locals := 384 }) G cy κ S sz [.ref x, .int (a1), .int (a2)] (fun (r : Int32) (S9 : PS) => Ok MN S S9 ∧ (-2147483648 ≤ r.toInt ∧ r.toInt ≤ 2147483647 ∧ (∀ s, 0 ≤ a1_z → Ls[a1_z.toNat]? = some s → r.toInt = skZ S x s a2_z) ∧ (¬ SkE Ls a1_z → r.toInt = -1))) := by
  refine ent_m (cc := cX12_skein) (maxL := 3) (ret := (some .int)) (by decide) rfl (Nat.le_of_ble_eq_true rfl) ?_
  intro p e s m below meth c ls X hr hlocks hin hw hl hsz
  subst hsz
  have X : Cx p c cX12_skein 3 s [.ref x, .int (a1), .int (a2)].toArray wsX12_skein RX12 m G cy κ (AS S s.heap.size) := X
  have hl : lv_has ls 3 [(0, .ref x), (1, .int (a1)), (2, .int (a2))] := hl
  have rg_a1 : (-2147483648) ≤ a1_z ∧ a1_z ≤ 2147483647 := by rw [← hz_a1]; exact ⟨z_lo _, z_hi _⟩
  have rg_a2 : (-2147483648) ≤ a2_z ∧ a2_z ≤ 2147483647 := by rw [← hz_a2]; exact ⟨z_lo _, z_hi _⟩
  have hO : Ok MN S S := Ok.rf hG
  obtain ⟨v_1, ev_1⟩ : ∃ v, pI S 1238 x = v := ⟨_, rfl⟩
  have rg_2 := gI_12_1238 hO.1 ha_x; rw [ev_1] at rg_2
  have pz_3 : (pI S 1238 x).toInt = v_1.toInt := by rw [ev_1]
  have pz_4 : (pI S 1238 x).toInt = v_1.toInt := (congrArg Int32.toInt ev_1).trans rfl
  refine lv_aload_n X.1 X.2.1 dX12_skein_0 rfl (lv_at hl 0 rfl) ?_
  refine lv_iconst (v := 0) X.1 X.2.1 dX12_skein_1 (by decide) ?_
  refine r_putI (v := 0) X hw ha_x rfl 0 1200 tyX12 (by decide) rfl inn_X12_skein_12 tyX12_ok nmX12 (by decide) (X.2.2.2.1 (.fieldLink RX12 161 "SilkMillModel" "thrown" "I") (by decide +kernel)) rfl (Or.inl rfl) rfl rfl (Nat.le_of_ble_eq_true rfl) (st_1200 _ _) dX12_skein_2 (fun H locs hw => ?_)
  obtain ⟨S_5, eS_5⟩ : ∃ T, T = sI S 1200 x (0) := ⟨_, rfl⟩
  rw [← eS_5] at hw
  have hO_6 : Ok MN S S_5 := hO.sI eS_5 (by decide +kernel) (uI_12_1200 hO.1 ha_x)
  have h_7 : pI S_5 1200 x = 0 := tI_sIs eS_5
  have t_8 : pI S_5 1238 x = v_1 := tI_sI eS_5 rfl ev_1
  have pz_9 : (pI S_5 1238 x).toInt = v_1.toInt := (congrArg Int32.toInt t_8).trans rfl
  have sw_10 : SkW S_5 x Ls := SkW_n (by rw [eS_5, pI_sI_nf (by decide)]) ⟨zA_sI eS_5, zA_sI eS_5, zA_sI eS_5, zA_sI eS_5, zA_sI eS_5, zA_sI eS_5, zA_sI eS_5, zA_sI eS_5⟩ hp_1
  have hkl := sw_10.1
  refine lv_aload_n X.1 X.2.1 dX12_skein_5 rfl (lv_at hl 0 rfl) ?_
  refine lv_iload_n X.1 X.2.1 dX12_skein_6 rfl (lv_at hl 1 rfl) ?_
  have pz_11 : (pI S_5 1238 x).toInt = v_1.toInt := (congrArg Int32.toInt t_8).trans rfl
  have t_12 : At S_5 x 12 := tAt_sI eS_5 ha_x
  refine k_i (rm := { frames := 2, cells := 0, slots := 0, locals := 96 }) (av := [.ref x, .int (a1)]) X hw (va_runV (As := [.int (a1)]) (rest := []) (cfix X) (k_X12_isSkein7 l G cy κ S_5 _ x (a1) (a1_z) hO_6.1 t_12 hz_a1) (cwV 1 X.2.2.2.1 gX12_skein_X12_isSkein rfl rfl rfl (by decide +kernel) ⟨Nat.le_of_ble_eq_true rfl, Nat.le_of_ble_eq_true rfl⟩) (pre_V X hw _ t_12 rfl (by decide) rfl) rfl rfl hl.1 rfl (lv_room (Nat.le_of_ble_eq_true rfl)) dX12_skein_7 ⟨Nat.le_of_ble_eq_true rfl, Nat.le_of_ble_eq_true rfl⟩) 0 0 (Nat.le_of_ble_eq_true rfl) (Nat.le_of_ble_eq_true rfl) (fun rr_13 S_14 H locs hp hw hfr hnw => ?_)
  obtain ⟨e2, hp⟩ := hp
  subst e2
  rcases hp with ⟨f_15, er_16⟩ | ⟨f_15, er_16⟩ <;> subst er_16
  · have z_b_17 := trivial
    refine lv_if_ne (tgt := 15) X.1 X.2.1 dX12_skein_10 (by decide) (fun c_18 => ?_) (fun c_18 => absurd c_18 (by decide))
    have pz_23 : (pI S_5 1238 x).toInt = v_1.toInt := (congrArg Int32.toInt t_8).trans rfl
    obtain ⟨s_19, hs_20⟩ : ∃ s, Ls[a1_z.toNat]? = some s := ⟨_, List.getElem?_eq_getElem (by omega)⟩
    have sr_21 := sw_10.2 _ _ hs_20
    have ne_22 := hp_2 s_19 (List.mem_of_getElem? hs_20)
    have sl_24 := sr_21.2.1
    have sl_25 : zA S_5 x 1239 (a1_z + 1).toNat = zA S_5 x 1239 (a1_z.toNat + 1) := by rw [show (a1_z + 1).toNat = a1_z.toNat + 1 by omega]
    refine lv_iload_n X.1 X.2.1 dX12_skein_15 rfl (lv_at hl 2 rfl) ?_
    by_cases w_26 : (a2).toInt < 0 ∨ 11 < (a2).toInt
    · refine lv_tableOut (tgt := 168) X.1 X.2.1 dX12_skein_16 w_26 (by decide) ?_
      refine lv_iconst (v := (-1)) X.1 X.2.1 dX12_skein_168 (by decide) ?_
      exact ret_i X hw hr hlocks (Nat.le_of_ble_eq_true rfl) (Nat.le_of_ble_eq_true rfl) ⟨hO_6, ⟨z_lo _, z_hi _, fun s h0 h1 => (by rw [hs_20] at h1; cases h1; rw [skZ_d (by omega)]; decide), fun h => absurd ⟨s_19, by omega, hs_20⟩ h⟩⟩ dX12_skein_169
    have w_26b : (a2).toInt = 0 ∨ (a2).toInt = 1 ∨ (a2).toInt = 2 ∨ (a2).toInt = 3 ∨ (a2).toInt = 4 ∨ (a2).toInt = 5 ∨ (a2).toInt = 6 ∨ (a2).toInt = 7 ∨ (a2).toInt = 8 ∨ (a2).toInt = 9 ∨ (a2).toInt = 10 ∨ (a2).toInt = 11 := by omega
    rcases w_26b with w_26c | w_26c | w_26c | w_26c | w_26c | w_26c | w_26c | w_26c | w_26c | w_26c | w_26c | w_26c
    · refine lv_tableIn (tgt := 80) X.1 X.2.1 dX12_skein_16 (by omega) (by omega) (by rw [w_26c]; rfl) (by decide) ?_
      refine lv_aload_n X.1 X.2.1 dX12_skein_80 rfl (lv_at hl 0 rfl) ?_
      obtain ⟨q_27, h_28, h_29, h_30⟩ := gQ_12_1240 hO_6.1 t_12
      refine r_getR (g := 1240) X hw t_12 rfl 40 h_28 (by decide) rfl inn_X12_skein_12 (by decide) (X.2.2.2.1 (.fieldLink RX12 103 "SilkMillModel" "skeinPot" "[I") (by decide +kernel)) rfl (gv_1240 _ _) dX12_skein_81 ?_
      refine lv_iload_n X.1 X.2.1 dX12_skein_84 rfl (lv_at hl 1 rfl) ?_
      refine r_iald X hw h_29 rfl (by rw [h_30]; exact z_ix hz_a1 (by omega) (by omega)) dX12_skein_85 ?_
      refine lv_topi (fun v_31 ev_31 => ?_)
      have rg_32 := And.intro (z_lo v_31) (z_hi v_31)
      have ev_31 := ev_31.symm
      have zf_33 : zA S_5 x 1240 (a1_z).toNat = v_31.toInt := (zA_of h_28 hz_a1 (by omega) ev_31)
      exact ret_i X hw hr hlocks (Nat.le_of_ble_eq_true rfl) (Nat.le_of_ble_eq_true rfl) ⟨hO_6, ⟨z_lo _, z_hi _, fun s h0 h1 => (by rw [hs_20] at h1; cases h1; rw [skZ_0 (by omega)]; have e1 : (v_31 : Int32).toInt = v_31.toInt := rfl; have e2 := sr_21.1.1.1; have e3 := zf_33; omega), fun h => absurd ⟨s_19, by omega, hs_20⟩ h⟩⟩ dX12_skein_86
    · refine lv_tableIn (tgt := 87) X.1 X.2.1 dX12_skein_16 (by omega) (by omega) (by rw [w_26c]; rfl) (by decide) ?_
      refine lv_aload_n X.1 X.2.1 dX12_skein_87 rfl (lv_at hl 0 rfl) ?_
      obtain ⟨q_34, h_35, h_36, h_37⟩ := gQ_12_1241 hO_6.1 t_12
      refine r_getR (g := 1241) X hw t_12 rfl 41 h_35 (by decide) rfl inn_X12_skein_12 (by decide) (X.2.2.2.1 (.fieldLink RX12 106 "SilkMillModel" "skeinDay" "[I") (by decide +kernel)) rfl (gv_1241 _ _) dX12_skein_88 ?_
      refine lv_iload_n X.1 X.2.1 dX12_skein_91 rfl (lv_at hl 1 rfl) ?_
      refine r_iald X hw h_36 rfl (by rw [h_37]; exact z_ix hz_a1 (by omega) (by omega)) dX12_skein_92 ?_
      refine lv_topi (fun v_38 ev_38 => ?_)
      have rg_39 := And.intro (z_lo v_38) (z_hi v_38)
      have ev_38 := ev_38.symm
      have zf_40 : zA S_5 x 1241 (a1_z).toNat = v_38.toInt := (zA_of h_35 hz_a1 (by omega) ev_38)
      exact ret_i X hw hr hlocks (Nat.le_of_ble_eq_true rfl) (Nat.le_of_ble_eq_true rfl) ⟨hO_6, ⟨z_lo _, z_hi _, fun s h0 h1 => (by rw [hs_20] at h1; cases h1; rw [skZ_1 (by omega)]; have e1 : (v_38 : Int32).toInt = v_38.toInt := rfl; have e2 := sr_21.1.2.1; have e3 := zf_40; omega), fun h => absurd ⟨s_19, by omega, hs_20⟩ h⟩⟩ dX12_skein_93
    · refine lv_tableIn (tgt := 94) X.1 X.2.1 dX12_skein_16 (by omega) (by omega) (by rw [w_26c]; rfl) (by decide) ?_
      refine lv_aload_n X.1 X.2.1 dX12_skein_94 rfl (lv_at hl 0 rfl) ?_
      refine lv_iload_n X.1 X.2.1 dX12_skein_95 rfl (lv_at hl 1 rfl) ?_
      refine k_i (rm := { frames := 1, cells := 0, slots := 0, locals := 48 }) (av := [.ref x, .int (a1)]) X hw (va_runV (As := [.int (a1)]) (rest := []) (cfix X) (k_X12_metres l G cy κ S_5 _ x (a1) (a1_z) hO_6.1 t_12 hz_a1 (by first | assumption | omega) (by first | assumption | omega) (by first | assumption | omega) (MIe_free hG ha_x hO_6.fr (by decide +kernel) hp_0)) (cwV 1 X.2.2.2.1 gX12_skein_X12_metres rfl rfl rfl (by decide +kernel) ⟨Nat.le_of_ble_eq_true rfl, Nat.le_of_ble_eq_true rfl⟩) (pre_V X hw _ t_12 rfl (by decide) rfl) rfl rfl hl.1 rfl (lv_room (Nat.le_of_ble_eq_true rfl)) dX12_skein_96 ⟨Nat.le_of_ble_eq_true rfl, Nat.le_of_ble_eq_true rfl⟩) 0 0 (Nat.le_of_ble_eq_true rfl) (Nat.le_of_ble_eq_true rfl) (fun rr_41 S_42 H locs hp hw hfr hnw => ?_)
      obtain ⟨e2, hp⟩ := hp
      subst e2
      obtain ⟨f_43, f_44, f_45⟩ := hp
      exact ret_i X hw hr hlocks (Nat.le_of_ble_eq_true rfl) (Nat.le_of_ble_eq_true rfl) ⟨hO_6, ⟨z_lo _, z_hi _, fun s h0 h1 => (by rw [hs_20] at h1; cases h1; rw [skZ_2 (by omega)]; have e1 : (rr_41 : Int32).toInt = rr_41.toInt := rfl; omega), fun h => absurd ⟨s_19, by omega, hs_20⟩ h⟩⟩ dX12_skein_99
    · refine lv_tableIn (tgt := 100) X.1 X.2.1 dX12_skein_16 (by omega) (by omega) (by rw [w_26c]; rfl) (by decide) ?_
      refine lv_aload_n X.1 X.2.1 dX12_skein_100 rfl (lv_at hl 0 rfl) ?_
      refine lv_iload_n X.1 X.2.1 dX12_skein_101 rfl (lv_at hl 1 rfl) ?_
      refine k_i (rm := { frames := 6, cells := 0, slots := 0, locals := 288 }) (av := [.ref x, .int (a1)]) X hw (va_runV (As := [.int (a1)]) (rest := []) (cfix X) (k_X12_weightOf8 l G cy κ S_5 _ x (a1) (a1_z) s_19 hO_6.1 t_12 hz_a1 (by first | assumption | omega) (by first | assumption | omega) (by first | assumption | omega) (MIe_free hG ha_x hO_6.fr (by decide +kernel) hp_0) sr_21) (cwV 1 X.2.2.2.1 gX12_skein_X12_weightOf rfl rfl rfl (by decide +kernel) ⟨Nat.le_of_ble_eq_true rfl, Nat.le_of_ble_eq_true rfl⟩) (pre_V X hw _ t_12 rfl (by decide) rfl) rfl rfl hl.1 rfl (lv_room (Nat.le_of_ble_eq_true rfl)) dX12_skein_102 ⟨Nat.le_of_ble_eq_true rfl, Nat.le_of_ble_eq_true rfl⟩) 0 0 (Nat.le_of_ble_eq_true rfl) (Nat.le_of_ble_eq_true rfl) (fun rr_46 S_47 H locs hp hw hfr hnw => ?_)
      obtain ⟨e2, hp⟩ := hp
      subst e2
      obtain ⟨skw_48, skw_49, skw_50⟩ := hp
      have lz_51 := loZ_to (fnZ_fr hG ha_x hO_6.fr (by decide +kernel))
      exact ret_i X hw hr hlocks (Nat.le_of_ble_eq_true rfl) (Nat.le_of_ble_eq_true rfl) ⟨hO_6, ⟨z_lo _, z_hi _, fun s h0 h1 => (by rw [hs_20] at h1; cases h1; rw [skZ_3 (by omega), skw_50, lz_51.2.2]), fun h => absurd ⟨s_19, by omega, hs_20⟩ h⟩⟩ dX12_skein_105
    · refine lv_tableIn (tgt := 106) X.1 X.2.1 dX12_skein_16 (by omega) (by omega) (by rw [w_26c]; rfl) (by decide) ?_
      refine lv_aload_n X.1 X.2.1 dX12_skein_106 rfl (lv_at hl 0 rfl) ?_
      refine lv_iload_n X.1 X.2.1 dX12_skein_107 rfl (lv_at hl 1 rfl) ?_
      refine lv_iload_n X.1 X.2.1 dX12_skein_108 rfl (lv_at hl 2 rfl) ?_
      refine lv_iconst (v := 5) X.1 X.2.1 dX12_skein_109 (by decide) ?_
      refine lv_icmp_ne (tgt := 117) X.1 X.2.1 dX12_skein_110 (by decide) (fun c_52 => ?_) (fun c_52 => ?_)
      · have z_b_53 := trivial
        have k_54 : a2_z ≠ 5 := z_ne hz_a2 ti_5 c_52
        refine lv_iconst (v := 0) X.1 X.2.1 dX12_skein_117 (by decide) ?_
        refine k_i (rm := { frames := 5, cells := 0, slots := 0, locals := 240 }) (av := [.ref x, .int (a1), .int 0]) X hw (va_runV (As := [.int (a1), .int 0]) (rest := []) (cfix X) (k_X12_least8 l G cy κ S_5 _ x (a1) (a1_z) (0) (0) s_19 hO_6.1 t_12 hz_a1 ti_0 (by first | assumption | omega) (by first | assumption | omega) (by first | assumption | omega) (MIe_free hG ha_x hO_6.fr (by decide +kernel) hp_0) sr_21 ne_22) (cwV 2 X.2.2.2.1 gX12_skein_X12_least rfl rfl rfl (by decide +kernel) ⟨Nat.le_of_ble_eq_true rfl, Nat.le_of_ble_eq_true rfl⟩) (pre_V X hw _ t_12 rfl (by decide) rfl) rfl rfl hl.1 rfl (lv_room (Nat.le_of_ble_eq_true rfl)) dX12_skein_118 ⟨Nat.le_of_ble_eq_true rfl, Nat.le_of_ble_eq_true rfl⟩) 0 0 (Nat.le_of_ble_eq_true rfl) (Nat.le_of_ble_eq_true rfl) (fun rr_55 S_56 H locs hp hw hfr hnw => ?_)
        obtain ⟨e2, hp⟩ := hp
        subst e2
        obtain ⟨ske_57, ske_58, ske_59, ske_60⟩ := hp
        have lz_61 := loZ_to (fnZ_fr hG ha_x hO_6.fr (by decide +kernel))
        exact ret_i X hw hr hlocks (Nat.le_of_ble_eq_true rfl) (Nat.le_of_ble_eq_true rfl) ⟨hO_6, ⟨z_lo _, z_hi _, fun s h0 h1 => (by rw [hs_20] at h1; cases h1; rw [skZ_4 (by omega), ske_59 (by decide), lz_61.1]), fun h => absurd ⟨s_19, by omega, hs_20⟩ h⟩⟩ dX12_skein_121
      · have z_b_62 := trivial
        have k_63 : a2_z = 5 := z_eq hz_a2 ti_5 c_52
        refine lv_iconst (v := 1) X.1 X.2.1 dX12_skein_113 (by decide) ?_
        refine lv_goto (tgt := 118) X.1 X.2.1 dX12_skein_114 (by decide) ?_
        refine k_i (rm := { frames := 5, cells := 0, slots := 0, locals := 240 }) (av := [.ref x, .int (a1), .int 1]) X hw (va_runV (As := [.int (a1), .int 1]) (rest := []) (cfix X) (k_X12_least8 l G cy κ S_5 _ x (a1) (a1_z) (1) (1) s_19 hO_6.1 t_12 hz_a1 ti_1 (by first | assumption | omega) (by first | assumption | omega) (by first | assumption | omega) (MIe_free hG ha_x hO_6.fr (by decide +kernel) hp_0) sr_21 ne_22) (cwV 2 X.2.2.2.1 gX12_skein_X12_least rfl rfl rfl (by decide +kernel) ⟨Nat.le_of_ble_eq_true rfl, Nat.le_of_ble_eq_true rfl⟩) (pre_V X hw _ t_12 rfl (by decide) rfl) rfl rfl hl.1 rfl (lv_room (Nat.le_of_ble_eq_true rfl)) dX12_skein_118 ⟨Nat.le_of_ble_eq_true rfl, Nat.le_of_ble_eq_true rfl⟩) 0 0 (Nat.le_of_ble_eq_true rfl) (Nat.le_of_ble_eq_true rfl) (fun rr_64 S_65 H locs hp hw hfr hnw => ?_)
        obtain ⟨e2, hp⟩ := hp
        subst e2
        obtain ⟨ske_66, ske_67, ske_68, ske_69⟩ := hp
        have lz_70 := loZ_to (fnZ_fr hG ha_x hO_6.fr (by decide +kernel))
        exact ret_i X hw hr hlocks (Nat.le_of_ble_eq_true rfl) (Nat.le_of_ble_eq_true rfl) ⟨hO_6, ⟨z_lo _, z_hi _, fun s h0 h1 => (by rw [hs_20] at h1; cases h1; rw [skZ_5 (by omega), ske_69 (by decide), lz_70.2.1]), fun h => absurd ⟨s_19, by omega, hs_20⟩ h⟩⟩ dX12_skein_121
    · refine lv_tableIn (tgt := 106) X.1 X.2.1 dX12_skein_16 (by omega) (by omega) (by rw [w_26c]; rfl) (by decide) ?_
      refine lv_aload_n X.1 X.2.1 dX12_skein_106 rfl (lv_at hl 0 rfl) ?_
      refine lv_iload_n X.1 X.2.1 dX12_skein_107 rfl (lv_at hl 1 rfl) ?_
      refine lv_iload_n X.1 X.2.1 dX12_skein_108 rfl (lv_at hl 2 rfl) ?_
      refine lv_iconst (v := 5) X.1 X.2.1 dX12_skein_109 (by decide) ?_
      refine lv_icmp_ne (tgt := 117) X.1 X.2.1 dX12_skein_110 (by decide) (fun c_71 => ?_) (fun c_71 => ?_)
      · have z_b_72 := trivial
        have k_73 : a2_z ≠ 5 := z_ne hz_a2 ti_5 c_71
        refine lv_iconst (v := 0) X.1 X.2.1 dX12_skein_117 (by decide) ?_
        refine k_i (rm := { frames := 5, cells := 0, slots := 0, locals := 240 }) (av := [.ref x, .int (a1), .int 0]) X hw (va_runV (As := [.int (a1), .int 0]) (rest := []) (cfix X) (k_X12_least8 l G cy κ S_5 _ x (a1) (a1_z) (0) (0) s_19 hO_6.1 t_12 hz_a1 ti_0 (by first | assumption | omega) (by first | assumption | omega) (by first | assumption | omega) (MIe_free hG ha_x hO_6.fr (by decide +kernel) hp_0) sr_21 ne_22) (cwV 2 X.2.2.2.1 gX12_skein_X12_least rfl rfl rfl (by decide +kernel) ⟨Nat.le_of_ble_eq_true rfl, Nat.le_of_ble_eq_true rfl⟩) (pre_V X hw _ t_12 rfl (by decide) rfl) rfl rfl hl.1 rfl (lv_room (Nat.le_of_ble_eq_true rfl)) dX12_skein_118 ⟨Nat.le_of_ble_eq_true rfl, Nat.le_of_ble_eq_true rfl⟩) 0 0 (Nat.le_of_ble_eq_true rfl) (Nat.le_of_ble_eq_true rfl) (fun rr_74 S_75 H locs hp hw hfr hnw => ?_)
        obtain ⟨e2, hp⟩ := hp
        subst e2
        obtain ⟨ske_76, ske_77, ske_78, ske_79⟩ := hp
        have lz_80 := loZ_to (fnZ_fr hG ha_x hO_6.fr (by decide +kernel))
        exact ret_i X hw hr hlocks (Nat.le_of_ble_eq_true rfl) (Nat.le_of_ble_eq_true rfl) ⟨hO_6, ⟨z_lo _, z_hi _, fun s h0 h1 => (by rw [hs_20] at h1; cases h1; rw [skZ_4 (by omega), ske_78 (by decide), lz_80.1]), fun h => absurd ⟨s_19, by omega, hs_20⟩ h⟩⟩ dX12_skein_121
      · have z_b_81 := trivial
        have k_82 : a2_z = 5 := z_eq hz_a2 ti_5 c_71
        refine lv_iconst (v := 1) X.1 X.2.1 dX12_skein_113 (by decide) ?_
        refine lv_goto (tgt := 118) X.1 X.2.1 dX12_skein_114 (by decide) ?_
        refine k_i (rm := { frames := 5, cells := 0, slots := 0, locals := 240 }) (av := [.ref x, .int (a1), .int 1]) X hw (va_runV (As := [.int (a1), .int 1]) (rest := []) (cfix X) (k_X12_least8 l G cy κ S_5 _ x (a1) (a1_z) (1) (1) s_19 hO_6.1 t_12 hz_a1 ti_1 (by first | assumption | omega) (by first | assumption | omega) (by first | assumption | omega) (MIe_free hG ha_x hO_6.fr (by decide +kernel) hp_0) sr_21 ne_22) (cwV 2 X.2.2.2.1 gX12_skein_X12_least rfl rfl rfl (by decide +kernel) ⟨Nat.le_of_ble_eq_true rfl, Nat.le_of_ble_eq_true rfl⟩) (pre_V X hw _ t_12 rfl (by decide) rfl) rfl rfl hl.1 rfl (lv_room (Nat.le_of_ble_eq_true rfl)) dX12_skein_118 ⟨Nat.le_of_ble_eq_true rfl, Nat.le_of_ble_eq_true rfl⟩) 0 0 (Nat.le_of_ble_eq_true rfl) (Nat.le_of_ble_eq_true rfl) (fun rr_83 S_84 H locs hp hw hfr hnw => ?_)
        obtain ⟨e2, hp⟩ := hp
        subst e2
        obtain ⟨ske_85, ske_86, ske_87, ske_88⟩ := hp
        have lz_89 := loZ_to (fnZ_fr hG ha_x hO_6.fr (by decide +kernel))
        exact ret_i X hw hr hlocks (Nat.le_of_ble_eq_true rfl) (Nat.le_of_ble_eq_true rfl) ⟨hO_6, ⟨z_lo _, z_hi _, fun s h0 h1 => (by rw [hs_20] at h1; cases h1; rw [skZ_5 (by omega), ske_88 (by decide), lz_89.2.1]), fun h => absurd ⟨s_19, by omega, hs_20⟩ h⟩⟩ dX12_skein_121
    · refine lv_tableIn (tgt := 122) X.1 X.2.1 dX12_skein_16 (by omega) (by omega) (by rw [w_26c]; rfl) (by decide) ?_
      refine lv_aload_n X.1 X.2.1 dX12_skein_122 rfl (lv_at hl 0 rfl) ?_
      refine lv_iload_n X.1 X.2.1 dX12_skein_123 rfl (lv_at hl 1 rfl) ?_
      refine k_i (rm := { frames := 5, cells := 0, slots := 0, locals := 240 }) (av := [.ref x, .int (a1)]) X hw (va_runV (As := [.int (a1)]) (rest := []) (cfix X) (k_X12_slips8 l G cy κ S_5 _ x (a1) (a1_z) s_19 hO_6.1 t_12 hz_a1 (by first | assumption | omega) (by first | assumption | omega) (by first | assumption | omega) (MIe_free hG ha_x hO_6.fr (by decide +kernel) hp_0) sr_21) (cwV 1 X.2.2.2.1 gX12_skein_X12_slips rfl rfl rfl (by decide +kernel) ⟨Nat.le_of_ble_eq_true rfl, Nat.le_of_ble_eq_true rfl⟩) (pre_V X hw _ t_12 rfl (by decide) rfl) rfl rfl hl.1 rfl (lv_room (Nat.le_of_ble_eq_true rfl)) dX12_skein_124 ⟨Nat.le_of_ble_eq_true rfl, Nat.le_of_ble_eq_true rfl⟩) 0 0 (Nat.le_of_ble_eq_true rfl) (Nat.le_of_ble_eq_true rfl) (fun rr_90 S_91 H locs hp hw hfr hnw => ?_)
      obtain ⟨e2, hp⟩ := hp
      subst e2
      obtain ⟨sks_92, sks_93, sks_94⟩ := hp
      exact ret_i X hw hr hlocks (Nat.le_of_ble_eq_true rfl) (Nat.le_of_ble_eq_true rfl) ⟨hO_6, ⟨z_lo _, z_hi _, fun s h0 h1 => (by rw [hs_20] at h1; cases h1; rw [skZ_6 (by omega), sks_94, mtE_to (fnZ_fr hG ha_x hO_6.fr (by decide +kernel))]), fun h => absurd ⟨s_19, by omega, hs_20⟩ h⟩⟩ dX12_skein_127
    · refine lv_tableIn (tgt := 128) X.1 X.2.1 dX12_skein_16 (by omega) (by omega) (by rw [w_26c]; rfl) (by decide) ?_
      refine lv_aload_n X.1 X.2.1 dX12_skein_128 rfl (lv_at hl 0 rfl) ?_
      refine lv_iload_n X.1 X.2.1 dX12_skein_129 rfl (lv_at hl 1 rfl) ?_
      refine k_i (rm := { frames := 3, cells := 0, slots := 0, locals := 144 }) (av := [.ref x, .int (a1)]) X hw (va_runV (As := [.int (a1)]) (rest := []) (cfix X) (k_X12_pieces8 l G cy κ S_5 _ x (a1) (a1_z) s_19 hO_6.1 t_12 hz_a1 (by first | assumption | omega) (by first | assumption | omega) (by first | assumption | omega) (MIe_free hG ha_x hO_6.fr (by decide +kernel) hp_0) sr_21) (cwV 1 X.2.2.2.1 gX12_skein_X12_pieces rfl rfl rfl (by decide +kernel) ⟨Nat.le_of_ble_eq_true rfl, Nat.le_of_ble_eq_true rfl⟩) (pre_V X hw _ t_12 rfl (by decide) rfl) rfl rfl hl.1 rfl (lv_room (Nat.le_of_ble_eq_true rfl)) dX12_skein_130 ⟨Nat.le_of_ble_eq_true rfl, Nat.le_of_ble_eq_true rfl⟩) 0 0 (Nat.le_of_ble_eq_true rfl) (Nat.le_of_ble_eq_true rfl) (fun rr_95 S_96 H locs hp hw hfr hnw => ?_)
      obtain ⟨e2, hp⟩ := hp
      subst e2
      obtain ⟨skp_97, skp_98, skp_99⟩ := hp
      exact ret_i X hw hr hlocks (Nat.le_of_ble_eq_true rfl) (Nat.le_of_ble_eq_true rfl) ⟨hO_6, ⟨z_lo _, z_hi _, fun s h0 h1 => (by rw [hs_20] at h1; cases h1; rw [skZ_7 (by omega)]; exact skp_99), fun h => absurd ⟨s_19, by omega, hs_20⟩ h⟩⟩ dX12_skein_133
    · refine lv_tableIn (tgt := 134) X.1 X.2.1 dX12_skein_16 (by omega) (by omega) (by rw [w_26c]; rfl) (by decide) ?_
      refine lv_aload_n X.1 X.2.1 dX12_skein_134 rfl (lv_at hl 0 rfl) ?_
      refine lv_iload_n X.1 X.2.1 dX12_skein_135 rfl (lv_at hl 1 rfl) ?_
      refine k_i (rm := { frames := 1, cells := 0, slots := 0, locals := 48 }) (av := [.ref x, .int (a1)]) X hw (va_runV (As := [.int (a1)]) (rest := []) (cfix X) (k_X12_gradeOf8 l G cy κ S_5 _ x (a1) (a1_z) hO_6.1 t_12 hz_a1 (by first | assumption | omega) (by first | assumption | omega)) (cwV 1 X.2.2.2.1 gX12_skein_X12_gradeOf rfl rfl rfl (by decide +kernel) ⟨Nat.le_of_ble_eq_true rfl, Nat.le_of_ble_eq_true rfl⟩) (pre_V X hw _ t_12 rfl (by decide) rfl) rfl rfl hl.1 rfl (lv_room (Nat.le_of_ble_eq_true rfl)) dX12_skein_136 ⟨Nat.le_of_ble_eq_true rfl, Nat.le_of_ble_eq_true rfl⟩) 0 0 (Nat.le_of_ble_eq_true rfl) (Nat.le_of_ble_eq_true rfl) (fun rr_100 S_101 H locs hp hw hfr hnw => ?_)
      obtain ⟨e2, hp⟩ := hp
      subst e2
      obtain ⟨skg_102, skg_103, skg_104⟩ := hp
      exact ret_i X hw hr hlocks (Nat.le_of_ble_eq_true rfl) (Nat.le_of_ble_eq_true rfl) ⟨hO_6, ⟨z_lo _, z_hi _, fun s h0 h1 => (by rw [hs_20] at h1; cases h1; rw [skZ_8 (by omega), skg_104]; exact sr_21.1.1.2.1), fun h => absurd ⟨s_19, by omega, hs_20⟩ h⟩⟩ dX12_skein_139
    · refine lv_tableIn (tgt := 140) X.1 X.2.1 dX12_skein_16 (by omega) (by omega) (by rw [w_26c]; rfl) (by decide) ?_
      refine lv_aload_n X.1 X.2.1 dX12_skein_140 rfl (lv_at hl 0 rfl) ?_
      obtain ⟨q_105, h_106, h_107, h_108⟩ := gQ_12_1244 hO_6.1 t_12
      refine r_getR (g := 1244) X hw t_12 rfl 44 h_106 (by decide) rfl inn_X12_skein_12 (by decide) (X.2.2.2.1 (.fieldLink RX12 115 "SilkMillModel" "isSold" "[Z") (by decide +kernel)) rfl (gv_1244 _ _) dX12_skein_141 ?_
      refine lv_iload_n X.1 X.2.1 dX12_skein_144 rfl (lv_at hl 1 rfl) ?_
      refine r_zald X hw h_107 rfl (by rw [h_108]; exact z_ix hz_a1 (by omega) (by omega)) dX12_skein_145 ?_
      refine lv_topi (fun v_109 ev_109 => ?_)
      have rg_110 := And.intro (z_lo v_109) (z_hi v_109)
      have ev_109 := ev_109.symm
      have zf_111 : zA S_5 x 1244 (a1_z).toNat = v_109.toInt := (zA_of h_106 hz_a1 (by omega) ev_109)
      refine lv_if_eq (tgt := 153) X.1 X.2.1 dX12_skein_146 (by decide) (fun c_112 => ?_) (fun c_112 => ?_)
      · have z_b_113 := trivial
        have k_114 : v_109.toInt = 0 := z_eq rfl ti_0 c_112
        refine lv_iconst (v := 0) X.1 X.2.1 dX12_skein_153 (by decide) ?_
        exact ret_i X hw hr hlocks (Nat.le_of_ble_eq_true rfl) (Nat.le_of_ble_eq_true rfl) ⟨hO_6, ⟨z_lo _, z_hi _, fun s h0 h1 => (by rw [hs_20] at h1; cases h1; rw [skZ_9 (by omega), soV_n (by have e2 := sr_21.1.1.2.2; have e3 := zf_111; omega)]; decide), fun h => absurd ⟨s_19, by omega, hs_20⟩ h⟩⟩ dX12_skein_154
      · have z_b_115 := trivial
        have k_116 : v_109.toInt ≠ 0 := z_ne rfl ti_0 c_112
        refine lv_iconst (v := 1) X.1 X.2.1 dX12_skein_149 (by decide) ?_
        refine lv_goto (tgt := 154) X.1 X.2.1 dX12_skein_150 (by decide) ?_
        exact ret_i X hw hr hlocks (Nat.le_of_ble_eq_true rfl) (Nat.le_of_ble_eq_true rfl) ⟨hO_6, ⟨z_lo _, z_hi _, fun s h0 h1 => (by rw [hs_20] at h1; cases h1; rw [skZ_9 (by omega), soV_y (by have e2 := sr_21.1.1.2.2; have e3 := zf_111; omega)]; decide), fun h => absurd ⟨s_19, by omega, hs_20⟩ h⟩⟩ dX12_skein_154
    · refine lv_tableIn (tgt := 155) X.1 X.2.1 dX12_skein_16 (by omega) (by omega) (by rw [w_26c]; rfl) (by decide) ?_
      refine lv_aload_n X.1 X.2.1 dX12_skein_155 rfl (lv_at hl 0 rfl) ?_
      refine lv_iload_n X.1 X.2.1 dX12_skein_156 rfl (lv_at hl 1 rfl) ?_
      refine k_i (rm := { frames := 7, cells := 0, slots := 0, locals := 336 }) (av := [.ref x, .int (a1)]) X hw (va_runV (As := [.int (a1)]) (rest := []) (cfix X) (k_X12_priceOf8 l G cy κ S_5 _ x (a1) (a1_z) s_19 hO_6.1 t_12 hz_a1 (by first | assumption | omega) (by first | assumption | omega) (by first | assumption | omega) (MIe_free hG ha_x hO_6.fr (by decide +kernel) hp_0) sr_21) (cwV 1 X.2.2.2.1 gX12_skein_X12_priceOf rfl rfl rfl (by decide +kernel) ⟨Nat.le_of_ble_eq_true rfl, Nat.le_of_ble_eq_true rfl⟩) (pre_V X hw _ t_12 rfl (by decide) rfl) rfl rfl hl.1 rfl (lv_room (Nat.le_of_ble_eq_true rfl)) dX12_skein_157 ⟨Nat.le_of_ble_eq_true rfl, Nat.le_of_ble_eq_true rfl⟩) 0 0 (Nat.le_of_ble_eq_true rfl) (Nat.le_of_ble_eq_true rfl) (fun rr_117 S_118 H locs hp hw hfr hnw => ?_)
      obtain ⟨e2, hp⟩ := hp
      subst e2
      obtain ⟨skr_119, skr_120, skr_121⟩ := hp
      have lz_122 := loZ_to (fnZ_fr hG ha_x hO_6.fr (by decide +kernel))
      exact ret_i X hw hr hlocks (Nat.le_of_ble_eq_true rfl) (Nat.le_of_ble_eq_true rfl) ⟨hO_6, ⟨z_lo _, z_hi _, fun s h0 h1 => (by rw [hs_20] at h1; cases h1; rw [skZ_10 (by omega), skr_121, lz_122.2.2, mA_sI eS_5]), fun h => absurd ⟨s_19, by omega, hs_20⟩ h⟩⟩ dX12_skein_160
    · refine lv_tableIn (tgt := 161) X.1 X.2.1 dX12_skein_16 (by omega) (by omega) (by rw [w_26c]; rfl) (by decide) ?_
      refine lv_aload_n X.1 X.2.1 dX12_skein_161 rfl (lv_at hl 0 rfl) ?_
      obtain ⟨q_123, h_124, h_125, h_126⟩ := gQ_12_1242 hO_6.1 t_12
      refine r_getR (g := 1242) X hw t_12 rfl 42 h_124 (by decide) rfl inn_X12_skein_12 (by decide) (X.2.2.2.1 (.fieldLink RX12 109 "SilkMillModel" "skeinAim" "[I") (by decide +kernel)) rfl (gv_1242 _ _) dX12_skein_162 ?_
      refine lv_iload_n X.1 X.2.1 dX12_skein_165 rfl (lv_at hl 1 rfl) ?_
      refine r_iald X hw h_125 rfl (by rw [h_126]; exact z_ix hz_a1 (by omega) (by omega)) dX12_skein_166 ?_
      refine lv_topi (fun v_127 ev_127 => ?_)
      have rg_128 := And.intro (z_lo v_127) (z_hi v_127)
      have ev_127 := ev_127.symm
      have zf_129 : zA S_5 x 1242 (a1_z).toNat = v_127.toInt := (zA_of h_124 hz_a1 (by omega) ev_127)
      exact ret_i X hw hr hlocks (Nat.le_of_ble_eq_true rfl) (Nat.le_of_ble_eq_true rfl) ⟨hO_6, ⟨z_lo _, z_hi _, fun s h0 h1 => (by rw [hs_20] at h1; cases h1; rw [skZ_11 (by omega)]; have e1 : (v_127 : Int32).toInt = v_127.toInt := rfl; have e2 := sr_21.1.2.2; have e3 := zf_129; omega), fun h => absurd ⟨s_19, by omega, hs_20⟩ h⟩⟩ dX12_skein_167
  · have z_b_130 := trivial
    refine lv_if_ne (tgt := 15) X.1 X.2.1 dX12_skein_10 (by decide) (fun c_131 => absurd c_131 (by decide)) (fun c_131 => ?_)
    refine lv_iconst (v := (-1)) X.1 X.2.1 dX12_skein_13 (by decide) ?_
    exact ret_i X hw hr hlocks (Nat.le_of_ble_eq_true rfl) (Nat.le_of_ble_eq_true rfl) ⟨hO_6, ⟨z_lo _, z_hi _, fun s h0 h1 => (by exfalso; have := (List.getElem?_eq_some_iff.mp h1).1; omega), fun _ => by decide⟩⟩ dX12_skein_14
