def MTA : List Nat := [1200, 10354, 11275]
def SE (S T : PS) (mo : Nat) (p k a b : Int) : Prop := (∀ j, zA T mo 1253 j = if j = p.toNat then 1 else zA S mo 1253 j) ∧ (∀ j, zA T mo 1254 j = if j = p.toNat then k else zA S mo 1254 j) ∧ (∀ j, zA T mo 1255 j = if k = 0 then (if j = p.toNat then 60 * a + b else zA S mo 1255 j) else (if j = p.toNat then a else zA S mo 1255 j)) ∧ (∀ j, zA T mo 1207 j = if k = 0 then (if j = (60 * a + b).toNat then 5 else zA S mo 1207 j) else zA S mo 1207 j) ∧ ∀ j, zA T mo 1256 j = if k = 2 then (if j = p.toNat then a else zA S mo 1256 j) else zA S mo 1256 j
def ShR (S : PS) (x : Nat) (p k a b : Int) : Prop := 0 ≤ p ∧ p ≤ 15 ∧ zA S x 1253 p.toNat = 0 ∧ ((k = 0 ∧ 0 ≤ a ∧ a < (pI S 1201 x).toInt ∧ 0 ≤ b ∧ b < zA S x 1202 a.toNat ∧ zA S x 1207 (60 * a + b).toNat = 0) ∨ k = 1 ∨ (k = 2 ∧ 0 ≤ a ∧ a ≤ 8))
def TkR (S T : PS) (x : Nat) (p k r : Int) : Prop := (zA S x 1253 p.toNat = 0 ∧ r = -2 ∧ zA T x 1207 = zA S x 1207 ∧ zA T x 1253 = zA S x 1253) ∨ (zA S x 1253 p.toNat ≠ 0 ∧ zA S x 1254 p.toNat ≠ k ∧ r = -3 ∧ zA T x 1207 = zA S x 1207 ∧ zA T x 1253 = zA S x 1253) ∨ (zA S x 1253 p.toNat ≠ 0 ∧ zA S x 1254 p.toNat = k ∧ k = 2 ∧ zA S x 1256 p.toNat = 0 ∧ r = -4 ∧ zA T x 1207 = zA S x 1207 ∧ zA T x 1253 = zA S x 1253) ∨ (zA S x 1253 p.toNat ≠ 0 ∧ zA S x 1254 p.toNat = k ∧ k = 2 ∧ zA S x 1256 p.toNat ≠ 0 ∧ zA T x 1207 = zA S x 1207 ∧ ∀ j, zA T x 1253 j = if j = p.toNat then 0 else zA S x 1253 j) ∨ (zA S x 1253 p.toNat ≠ 0 ∧ zA S x 1254 p.toNat = k ∧ k = 1 ∧ r = zA S x 1255 p.toNat ∧ zA T x 1207 = zA S x 1207 ∧ ∀ j, zA T x 1253 j = if j = p.toNat then 0 else zA S x 1253 j) ∨ (zA S x 1253 p.toNat ≠ 0 ∧ zA S x 1254 p.toNat = k ∧ k = 0 ∧ r = zA S x 1255 p.toNat / 60 * 100 + zA S x 1255 p.toNat % 60 ∧ (∀ j, zA T x 1207 j = if j = (zA S x 1255 p.toNat).toNat then 0 else zA S x 1207 j) ∧ ∀ j, zA T x 1253 j = if j = p.toNat then 0 else zA S x 1253 j)

set_option maxHeartbeats 4000000 in
set_option maxRecDepth 100000 in
theorem k_X12_shelve3 (l : Launch) (G : va_G) (cy : Nat → ClassId) (κ : Nat → Nat) (S : PS) (sz : Nat) (x : Nat) (a1 : Int32) (a1_z : Int) (a2 : Int32) (a2_z : Int) (a3 : Int32) (a3_z : Int) (a4 : Int32) (a4_z : Int) (hG : GX S) (ha_x : At S x 12) (hz_a1 : a1.toInt = a1_z) (hz_a2 : a2.toInt = a2_z) (hz_a3 : a3.toInt = a3_z) (hz_a4 : a4.toInt = a4_z) (hp_0 : MI S x) : Ci l yX12_shelve wsX12_shelve ({ frames := 3, cells := 0, slots := 0, locals := 144 }) G cy κ S sz [.ref x, .int (a1), .int (a2), .int (a3), .int (a4)] (fun (r : Int32) (S9 : PS) => Ok MSH S S9 ∧ (((MI S9 x ∧ ShR S x a1_z a2_z a3_z a4_z ∧ SE S S9 x a1_z a2_z a3_z a4_z) ∧ r = 1) ∨ ((MI S9 x ∧ ¬ ShR S x a1_z a2_z a3_z a4_z ∧ zA S9 x 1207 = zA S x 1207 ∧ zA S9 x 1253 = zA S x 1253 ∧ zA S9 x 1254 = zA S x 1254 ∧ zA S9 x 1255 = zA S x 1255 ∧ zA S9 x 1256 = zA S x 1256) ∧ r = 0))) := by
  refine ent_m (cc := cX12_shelve) (maxL := 6) (ret := (some .boolean)) (by decide) rfl (Nat.le_of_ble_eq_true rfl) ?_
  intro p e s m below meth c ls X hr hlocks hin hw hl hsz
  subst hsz
  have X : Cx p c cX12_shelve 6 s [.ref x, .int (a1), .int (a2), .int (a3), .int (a4)].toArray wsX12_shelve RX12 m G cy κ (AS S s.heap.size) := X
  have hl : lv_has ls 6 [(0, .ref x), (1, .int (a1)), (2, .int (a2)), (3, .int (a3)), (4, .int (a4))] := hl
  have rg_a1 : (-2147483648) ≤ a1_z ∧ a1_z ≤ 2147483647 := by rw [← hz_a1]; exact ⟨z_lo _, z_hi _⟩
  have rg_a2 : (-2147483648) ≤ a2_z ∧ a2_z ≤ 2147483647 := by rw [← hz_a2]; exact ⟨z_lo _, z_hi _⟩
  have rg_a3 : (-2147483648) ≤ a3_z ∧ a3_z ≤ 2147483647 := by rw [← hz_a3]; exact ⟨z_lo _, z_hi _⟩
  have rg_a4 : (-2147483648) ≤ a4_z ∧ a4_z ≤ 2147483647 := by rw [← hz_a4]; exact ⟨z_lo _, z_hi _⟩
  have hO : Ok MSH S S := Ok.rf hG
  generalize hQQ : MQ below _ _ _ _ _ _ = QQ
  replace hQQ := hQQ.symm
  obtain ⟨v_1, ev_1⟩ : ∃ v, pI S 1201 x = v := ⟨_, rfl⟩
  have rg_2 := gI_12_1201 hO.1 ha_x; rw [ev_1] at rg_2
  have pz_3 : (pI S 1201 x).toInt = v_1.toInt := by rw [ev_1]
  have pz_4 : (pI S 1201 x).toInt = v_1.toInt := (congrArg Int32.toInt ev_1).trans rfl
  refine lv_aload_n X.1 X.2.1 dX12_shelve_0 rfl (lv_at hl 0 rfl) ?_
  refine lv_iconst (v := 0) X.1 X.2.1 dX12_shelve_1 (by decide) ?_
  refine r_putI (v := 0) X hw ha_x rfl 0 1200 tyX12 (by decide) rfl inn_X12_shelve_12 tyX12_ok nmX12 (by decide) (X.2.2.2.1 (.fieldLink RX12 161 "SilkMillModel" "thrown" "I") (by decide +kernel)) rfl (Or.inl rfl) rfl rfl (Nat.le_of_ble_eq_true rfl) (st_1200 _ _) dX12_shelve_2 (fun H locs hw => ?_)
  obtain ⟨S_5, eS_5⟩ : ∃ T, T = sI S 1200 x (0) := ⟨_, rfl⟩
  rw [← eS_5] at hw
  have hO_6 : Ok MSH S S_5 := hO.sI eS_5 (by decide +kernel) (uI_12_1200 hO.1 ha_x)
  have h_7 : pI S_5 1200 x = 0 := tI_sIs eS_5
  refine lv_iload_n X.1 X.2.1 dX12_shelve_5 rfl (lv_at hl 1 rfl) ?_
  refine lv_iconst (v := 0) X.1 X.2.1 dX12_shelve_6 (by decide) ?_
  refine lv_bipush (v := 15) X.1 X.2.1 dX12_shelve_7 (by decide) ?_
  refine k_i (rm := { frames := 1, cells := 0, slots := 0, locals := 48 }) (av := [.int (a1), .int 0, .int 15]) X hw (va_runS (As := [.int (a1), .int 0, .int 15]) (rest := []) (cfix X) (k_X12_within l G cy κ S_5 _ (a1) (a1_z) (0) (0) (15) (15) hO_6.1 hz_a1 ti_0 ti_15) (cwS 3 X.2.2.2.1 gX12_shelve_X12_within rfl rfl rfl (by decide +kernel) ⟨Nat.le_of_ble_eq_true rfl, Nat.le_of_ble_eq_true rfl⟩) (pre_S X hw _) rfl rfl hl.1 rfl (lv_room (Nat.le_of_ble_eq_true rfl)) dX12_shelve_9 ⟨Nat.le_of_ble_eq_true rfl, Nat.le_of_ble_eq_true rfl⟩) 0 0 (Nat.le_of_ble_eq_true rfl) (Nat.le_of_ble_eq_true rfl) (fun rr_8 S_9 H locs hp hw hfr hnw => ?_)
  obtain ⟨e2, hp⟩ := hp
  subst e2
  rcases hp with ⟨f_10, er_11⟩ | ⟨f_10, er_11⟩ <;> subst er_11
  · have z_b_12 := trivial
    refine lv_if_eq (tgt := 33) X.1 X.2.1 dX12_shelve_12 (by decide) (fun c_13 => absurd c_13 (by decide)) (fun c_13 => ?_)
    refine lv_aload_n X.1 X.2.1 dX12_shelve_15 rfl (lv_at hl 0 rfl) ?_
    have t_14 : At S_5 x 12 := tAt_sI eS_5 ha_x
    obtain ⟨q_15, h_16, h_17, h_18⟩ := gQ_12_1253 hO_6.1 t_14
    refine r_getR (g := 1253) X hw t_14 rfl 53 h_16 (by decide) rfl inn_X12_shelve_12 (by decide) (X.2.2.2.1 (.fieldLink RX12 125 "SilkMillModel" "isLaid" "[Z") (by decide +kernel)) rfl (gv_1253 _ _) dX12_shelve_16 ?_
    refine lv_iload_n X.1 X.2.1 dX12_shelve_19 rfl (lv_at hl 1 rfl) ?_
    refine r_zald X hw h_17 rfl (by rw [h_18]; exact z_ix hz_a1 (by omega) (by omega)) dX12_shelve_20 ?_
    refine lv_topi (fun v_19 ev_19 => ?_)
    have rg_20 := And.intro (z_lo v_19) (z_hi v_19)
    have ev_19 := ev_19.symm
    have zf_21 : zA S_5 x 1253 (a1_z).toNat = v_19.toInt := (zA_of h_16 hz_a1 (by omega) ev_19)
    have zc_22 : zA S_5 x 1253 = zA S x 1253 := zA_sI eS_5
    have zz_23 := congrFun zc_22 (a1_z).toNat
    refine lv_if_ne (tgt := 33) X.1 X.2.1 dX12_shelve_21 (by decide) (fun c_24 => ?_) (fun c_24 => ?_)
    · have z_b_25 := trivial
      have k_26 : v_19.toInt ≠ 0 := z_ne rfl ti_0 c_24
      refine lv_iconst (v := 0) X.1 X.2.1 dX12_shelve_33 (by decide) ?_
      have mi_27 : MIe S_5 x (-1) := MIe_sI hp_0 hO.1 ha_x eS_5 (by decide +kernel)
      have zc_28 : zA S_5 x 1207 = zA S x 1207 := zA_sI eS_5
      have zc_29 : zA S_5 x 1254 = zA S x 1254 := zA_sI eS_5
      have zc_30 : zA S_5 x 1255 = zA S x 1255 := zA_sI eS_5
      have zc_31 : zA S_5 x 1256 = zA S x 1256 := zA_sI eS_5
      rw [hQQ]
      exact ret_z X hw hr hlocks (Nat.le_of_ble_eq_true rfl) (Nat.le_of_ble_eq_true rfl) (by decide) ⟨hO_6, Or.inr ⟨⟨mi_27, fun h => (by obtain ⟨h1, h2, h3, h4⟩ := h; have hz7 := congrFun zc_28 (60 * a3_z + a4_z).toNat; have hz53 := congrFun zc_22 (a1_z).toNat; rcases h4 with ⟨h5, h6, h7, h8, h9, h10⟩ | h5 | ⟨h5, h6, h7⟩ <;> omega), zc_28, zc_22, zc_29, zc_30, zc_31⟩, rfl⟩⟩ dX12_shelve_34
    · have z_b_32 := trivial
      have k_33 : v_19.toInt = 0 := z_eq rfl ti_0 c_24
      refine lv_iload_n X.1 X.2.1 dX12_shelve_24 rfl (lv_at hl 2 rfl) ?_
      refine lv_iconst (v := 0) X.1 X.2.1 dX12_shelve_25 (by decide) ?_
      refine lv_iconst (v := 2) X.1 X.2.1 dX12_shelve_26 (by decide) ?_
      refine k_i (rm := { frames := 1, cells := 0, slots := 0, locals := 48 }) (av := [.int (a2), .int 0, .int 2]) X hw (va_runS (As := [.int (a2), .int 0, .int 2]) (rest := []) (cfix X) (k_X12_within l G cy κ S_5 _ (a2) (a2_z) (0) (0) (2) (2) hO_6.1 hz_a2 ti_0 ti_2) (cwS 3 X.2.2.2.1 gX12_shelve_X12_within rfl rfl rfl (by decide +kernel) ⟨Nat.le_of_ble_eq_true rfl, Nat.le_of_ble_eq_true rfl⟩) (pre_S X hw _) rfl rfl hl.1 rfl (lv_room (Nat.le_of_ble_eq_true rfl)) dX12_shelve_27 ⟨Nat.le_of_ble_eq_true rfl, Nat.le_of_ble_eq_true rfl⟩) 0 0 (Nat.le_of_ble_eq_true rfl) (Nat.le_of_ble_eq_true rfl) (fun rr_34 S_35 H locs hp hw hfr hnw => ?_)
      obtain ⟨e2, hp⟩ := hp
      subst e2
      rcases hp with ⟨f_36, er_37⟩ | ⟨f_36, er_37⟩ <;> subst er_37
      · have z_b_38 := trivial
        refine lv_if_ne (tgt := 35) X.1 X.2.1 dX12_shelve_30 (by decide) (fun c_39 => ?_) (fun c_39 => absurd c_39 (by decide))
        refine lv_iload_n X.1 X.2.1 dX12_shelve_35 rfl (lv_at hl 2 rfl) ?_
        refine lv_if_ne (tgt := 64) X.1 X.2.1 dX12_shelve_36 (by decide) (fun c_40 => ?_) (fun c_40 => ?_)
        · have z_b_41 := trivial
          have k_42 : a2_z ≠ 0 := z_ne hz_a2 ti_0 c_40
          refine lv_iload_n X.1 X.2.1 dX12_shelve_64 rfl (lv_at hl 2 rfl) ?_
          refine lv_iconst (v := 2) X.1 X.2.1 dX12_shelve_65 (by decide) ?_
          refine lv_icmp_ne (tgt := 81) X.1 X.2.1 dX12_shelve_66 (by decide) (fun c_43 => ?_) (fun c_43 => ?_)
          · have z_b_44 := trivial
            have k_45 : a2_z ≠ 2 := z_ne hz_a2 ti_2 c_43
            refine lv_aload_n X.1 X.2.1 dX12_shelve_81 rfl (lv_at hl 0 rfl) ?_
            refine r_getR (g := 1253) X hw t_14 rfl 53 h_16 (by decide) rfl inn_X12_shelve_12 (by decide) (X.2.2.2.1 (.fieldLink RX12 125 "SilkMillModel" "isLaid" "[Z") (by decide +kernel)) rfl (gv_1253 _ _) dX12_shelve_82 ?_
            refine lv_iload_n X.1 X.2.1 dX12_shelve_85 rfl (lv_at hl 1 rfl) ?_
            refine lv_iconst (v := 1) X.1 X.2.1 dX12_shelve_86 (by decide) ?_
            refine r_zast X hw h_17 rfl (by rw [h_18]; exact z_ix hz_a1 (by omega) (by omega)) dX12_shelve_87 (fun H locs hw => ?_)
            obtain ⟨S_46, eS_46⟩ : ∃ T, T = sA S_5 q_15 (upd (pA S_5 q_15) (Int32.toNatClampNeg (a1)) (vp_nar .boolean (1))) := ⟨_, rfl⟩
            rw [← eS_46] at hw
            have hO_47 : Ok MSH S S_46 := hO_6.sA eS_46 h_17 (by decide +kernel) (uA_1275 hO_6.1 h_17)
            have t_48 : pR S_46 1253 x = some q_15 := tR_sA eS_46 h_16
            have t_50 : pR S_5 1253 x = some q_15 := by have h := t_48; rw [eS_46, pR_sA] at h; exact h
            have zs_49 : ∀ j, zA S_46 x 1253 j = if j = (a1_z).toNat then 1 else zA S_5 x 1253 j := by have h := zA_sAs eS_46 t_50 nar1; rw [z_nc hz_a1 (by omega)] at h; exact h
            have zs_51 : ∀ j, zA S_46 x 1253 j = if j = (a1_z).toNat then 1 else zA S x 1253 j := fun j => by rw [zs_49 j, zc_22]
            refine lv_aload_n X.1 X.2.1 dX12_shelve_88 rfl (lv_at hl 0 rfl) ?_
            have t_52 : At S_46 x 12 := tAt_sA eS_46 t_14
            obtain ⟨q_53, h_54, h_55, h_56⟩ := gQ_12_1254 hO_47.1 t_52
            refine r_getR (g := 1254) X hw t_52 rfl 54 h_54 (by decide) rfl inn_X12_shelve_12 (by decide) (X.2.2.2.1 (.fieldLink RX12 128 "SilkMillModel" "laid" "[I") (by decide +kernel)) rfl (gv_1254 _ _) dX12_shelve_89 ?_
            refine lv_iload_n X.1 X.2.1 dX12_shelve_92 rfl (lv_at hl 1 rfl) ?_
            refine lv_iload_n X.1 X.2.1 dX12_shelve_93 rfl (lv_at hl 2 rfl) ?_
            refine r_iast X hw h_55 rfl (by rw [h_56]; exact z_ix hz_a1 (by omega) (by omega)) dX12_shelve_94 (fun H locs hw => ?_)
            obtain ⟨S_57, eS_57⟩ : ∃ T, T = sA S_46 q_53 (upd (pA S_46 q_53) (Int32.toNatClampNeg (a1)) (a2)) := ⟨_, rfl⟩
            rw [← eS_57] at hw
            have hO_58 : Ok MSH S S_57 := hO_47.sA eS_57 h_55 (by decide +kernel) (uA_1294 hO_47.1 h_55)
            have h_59 : pA S_57 q_53 (Int32.toNatClampNeg (a1)) = a2 := tA_sAs eS_57
            have zc_60 : zA S_5 x 1254 = zA S x 1254 := zA_sI eS_5
            have zc_61 : zA S_46 x 1254 = zA S x 1254 := (zA_sAn eS_46 (ex3 (gQ_12_1254 hO_6.1 t_14)) h_17 rfl).trans zc_60
            have t_62 : pR S_57 1254 x = some q_53 := tR_sA eS_57 h_54
            have t_64 : pR S_46 1254 x = some q_53 := by have h := t_62; rw [eS_57, pR_sA] at h; exact h
            have zs_63 : ∀ j, zA S_57 x 1254 j = if j = (a1_z).toNat then a2_z else zA S_46 x 1254 j := by have h := zA_sAs eS_57 t_64 hz_a2; rw [z_nc hz_a1 (by omega)] at h; exact h
            have zs_65 : ∀ j, zA S_57 x 1254 j = if j = (a1_z).toNat then a2_z else zA S x 1254 j := fun j => by rw [zs_63 j, zc_61]
            refine lv_aload_n X.1 X.2.1 dX12_shelve_95 rfl (lv_at hl 0 rfl) ?_
            have t_66 : At S_57 x 12 := tAt_sA eS_57 t_52
            obtain ⟨q_67, h_68, h_69, h_70⟩ := gQ_12_1255 hO_58.1 t_66
            refine r_getR (g := 1255) X hw t_66 rfl 55 h_68 (by decide) rfl inn_X12_shelve_12 (by decide) (X.2.2.2.1 (.fieldLink RX12 131 "SilkMillModel" "laidValue" "[I") (by decide +kernel)) rfl (gv_1255 _ _) dX12_shelve_96 ?_
            refine lv_iload_n X.1 X.2.1 dX12_shelve_99 rfl (lv_at hl 1 rfl) ?_
            refine lv_iload_n X.1 X.2.1 dX12_shelve_100 rfl (lv_at hl 2 rfl) ?_
            refine lv_if_ne (tgt := 114) X.1 X.2.1 dX12_shelve_101 (by decide) (fun c_71 => ?_) (fun c_71 => ?_)
            rotate_left
            · exfalso
              have k_72 : a2_z = 0 := z_eq hz_a2 ti_0 c_71
              omega
            have k_73 : a2_z ≠ 0 := z_ne hz_a2 ti_0 c_71
            refine lv_iload_n X.1 X.2.1 dX12_shelve_114 rfl (lv_at hl 3 rfl) ?_
            refine r_iast X hw h_69 rfl (by rw [h_70]; exact z_ix hz_a1 (by omega) (by omega)) dX12_shelve_115 (fun H locs hw => ?_)
            obtain ⟨S_74, eS_74⟩ : ∃ T, T = sA S_57 q_67 (upd (pA S_57 q_67) (Int32.toNatClampNeg (a1)) (a3)) := ⟨_, rfl⟩
            rw [← eS_74] at hw
            have hO_75 : Ok MSH S S_74 := hO_58.sA eS_74 h_69 (by decide +kernel) (uA_1314 hO_58.1 h_69)
            have h_76 : pA S_74 q_67 (Int32.toNatClampNeg (a1)) = a3 := tA_sAs eS_74
            have zc_77 : zA S_5 x 1255 = zA S x 1255 := zA_sI eS_5
            have zc_78 : zA S_46 x 1255 = zA S x 1255 := (zA_sAn eS_46 (ex3 (gQ_12_1255 hO_6.1 t_14)) h_17 rfl).trans zc_77
            have zc_79 : zA S_57 x 1255 = zA S x 1255 := (zA_sAn eS_57 (ex3 (gQ_12_1255 hO_47.1 t_52)) h_55 rfl).trans zc_78
            have t_80 : pR S_74 1255 x = some q_67 := tR_sA eS_74 h_68
            have t_82 : pR S_57 1255 x = some q_67 := by have h := t_80; rw [eS_74, pR_sA] at h; exact h
            have zs_81 : ∀ j, zA S_74 x 1255 j = if j = (a1_z).toNat then a3_z else zA S_57 x 1255 j := by have h := zA_sAs eS_74 t_82 hz_a3; rw [z_nc hz_a1 (by omega)] at h; exact h
            have zs_83 : ∀ j, zA S_74 x 1255 j = if j = (a1_z).toNat then a3_z else zA S x 1255 j := fun j => by rw [zs_81 j, zc_79]
            refine lv_iload_n X.1 X.2.1 dX12_shelve_116 rfl (lv_at hl 2 rfl) ?_
            refine lv_if_ne (tgt := 133) X.1 X.2.1 dX12_shelve_117 (by decide) (fun c_84 => ?_) (fun c_84 => ?_)
            rotate_left
            · exfalso
              have k_85 : a2_z = 0 := z_eq hz_a2 ti_0 c_84
              omega
            have k_86 : a2_z ≠ 0 := z_ne hz_a2 ti_0 c_84
            have zc_87 : zA S_57 x 1253 = zA S_46 x 1253 := zA_sAn eS_57 (ex3 (gQ_12_1253 hO_47.1 t_52)) h_55 rfl
            have zc_88 : zA S_74 x 1253 = zA S_46 x 1253 := (zA_sAn eS_74 (ex3 (gQ_12_1253 hO_58.1 t_66)) h_69 rfl).trans zc_87
            have zs_89 : ∀ j, zA S_74 x 1253 j = if j = (a1_z).toNat then 1 else zA S x 1253 j := fun j => by rw [zc_88]; exact zs_51 j
            have zc_90 : zA S_5 x 1254 = zA S x 1254 := zA_sI eS_5
            have zc_91 : zA S_46 x 1254 = zA S x 1254 := (zA_sAn eS_46 (ex3 (gQ_12_1254 hO_6.1 t_14)) h_17 rfl).trans zc_90
            have zc_92 : zA S_74 x 1254 = zA S_57 x 1254 := zA_sAn eS_74 (ex3 (gQ_12_1254 hO_58.1 t_66)) h_69 rfl
            have zs_93 : ∀ j, zA S_74 x 1254 j = if j = (a1_z).toNat then a2_z else zA S x 1254 j := fun j => by rw [zc_92]; exact zs_65 j
            have zc_94 : zA S_5 x 1255 = zA S x 1255 := zA_sI eS_5
            have zc_95 : zA S_46 x 1255 = zA S x 1255 := (zA_sAn eS_46 (ex3 (gQ_12_1255 hO_6.1 t_14)) h_17 rfl).trans zc_94
            have zc_96 : zA S_57 x 1255 = zA S x 1255 := (zA_sAn eS_57 (ex3 (gQ_12_1255 hO_47.1 t_52)) h_55 rfl).trans zc_95
            have zc_98 : zA S_5 x 1207 = zA S x 1207 := zA_sI eS_5
            have zc_99 : zA S_46 x 1207 = zA S x 1207 := (zA_sAn eS_46 (ex3 (gQ_12_1207 hO_6.1 t_14)) h_17 rfl).trans zc_98
            have zc_100 : zA S_57 x 1207 = zA S x 1207 := (zA_sAn eS_57 (ex3 (gQ_12_1207 hO_47.1 t_52)) h_55 rfl).trans zc_99
            have zc_101 : zA S_74 x 1207 = zA S x 1207 := (zA_sAn eS_74 (ex3 (gQ_12_1207 hO_58.1 t_66)) h_69 rfl).trans zc_100
            have mi_97 : MI S_74 x := lay_MI (p := (a1_z).toNat) hG ha_x hO_75.fr hp_0 zc_101 (fun j hj => by rw [zs_89 j, if_neg hj]) (fun j hj => by rw [zs_93 j, if_neg hj]) (fun j hj => by rw [zs_83 j, if_neg hj]) (Or.inr (by rw [zs_93, if_pos rfl]; omega))
            refine lv_iload_n X.1 X.2.1 dX12_shelve_133 rfl (lv_at hl 2 rfl) ?_
            refine lv_iconst (v := 2) X.1 X.2.1 dX12_shelve_134 (by decide) ?_
            refine lv_icmp_ne (tgt := 174) X.1 X.2.1 dX12_shelve_135 (by decide) (fun c_102 => ?_) (fun c_102 => ?_)
            rotate_left
            · exfalso
              have k_103 : a2_z = 2 := z_eq hz_a2 ti_2 c_102
              omega
            have k_104 : a2_z ≠ 2 := z_ne hz_a2 ti_2 c_102
            refine lv_iconst (v := 1) X.1 X.2.1 dX12_shelve_174 (by decide) ?_
            have zs_105 : ∀ j, zA S_74 x 1253 j = if j = (a1_z).toNat then 1 else zA S x 1253 j := fun j => by rw [zc_88]; exact zs_51 j
            have zs_106 : ∀ j, zA S_74 x 1254 j = if j = (a1_z).toNat then a2_z else zA S x 1254 j := fun j => by rw [zc_92]; exact zs_65 j
            have zc_107 : zA S_5 x 1256 = zA S x 1256 := zA_sI eS_5
            have zc_108 : zA S_46 x 1256 = zA S x 1256 := (zA_sAn eS_46 (ex3 (gQ_12_1256 hO_6.1 t_14)) h_17 rfl).trans zc_107
            have zc_109 : zA S_57 x 1256 = zA S x 1256 := (zA_sAn eS_57 (ex3 (gQ_12_1256 hO_47.1 t_52)) h_55 rfl).trans zc_108
            have zc_110 : zA S_74 x 1256 = zA S x 1256 := (zA_sAn eS_74 (ex3 (gQ_12_1256 hO_58.1 t_66)) h_69 rfl).trans zc_109
            rw [hQQ]
            exact ret_z X hw hr hlocks (Nat.le_of_ble_eq_true rfl) (Nat.le_of_ble_eq_true rfl) (by decide) ⟨hO_75, Or.inl ⟨⟨mi_97, ⟨by omega, by omega, by omega, Or.inr (Or.inl (by omega))⟩, zs_105, (fun j => (zs_106 j).trans (by first | rfl | (split <;> first | rfl | omega))), (fun j => by rw [zs_83 j, if_neg (show ¬ a2_z = 0 by omega)]), (fun j => by rw [zc_101, if_neg (show ¬ a2_z = 0 by omega)]), (fun j => by rw [zc_110, if_neg (show ¬ a2_z = 2 by omega)])⟩, rfl⟩⟩ dX12_shelve_175
          · have z_b_111 := trivial
            have k_112 : a2_z = 2 := z_eq hz_a2 ti_2 c_43
            refine lv_iload_n X.1 X.2.1 dX12_shelve_69 rfl (lv_at hl 3 rfl) ?_
            refine lv_iconst (v := 0) X.1 X.2.1 dX12_shelve_70 (by decide) ?_
            refine lv_bipush (v := 8) X.1 X.2.1 dX12_shelve_71 (by decide) ?_
            refine k_i (rm := { frames := 1, cells := 0, slots := 0, locals := 48 }) (av := [.int (a3), .int 0, .int 8]) X hw (va_runS (As := [.int (a3), .int 0, .int 8]) (rest := []) (cfix X) (k_X12_within l G cy κ S_5 _ (a3) (a3_z) (0) (0) (8) (8) hO_6.1 hz_a3 ti_0 ti_8) (cwS 3 X.2.2.2.1 gX12_shelve_X12_within rfl rfl rfl (by decide +kernel) ⟨Nat.le_of_ble_eq_true rfl, Nat.le_of_ble_eq_true rfl⟩) (pre_S X hw _) rfl rfl hl.1 rfl (lv_room (Nat.le_of_ble_eq_true rfl)) dX12_shelve_73 ⟨Nat.le_of_ble_eq_true rfl, Nat.le_of_ble_eq_true rfl⟩) 0 0 (Nat.le_of_ble_eq_true rfl) (Nat.le_of_ble_eq_true rfl) (fun rr_113 S_114 H locs hp hw hfr hnw => ?_)
            obtain ⟨e2, hp⟩ := hp
            subst e2
            rcases hp with ⟨f_115, er_116⟩ | ⟨f_115, er_116⟩ <;> subst er_116
            · have z_b_117 := trivial
              refine lv_if_ne (tgt := 81) X.1 X.2.1 dX12_shelve_76 (by decide) (fun c_118 => ?_) (fun c_118 => absurd c_118 (by decide))
              refine lv_aload_n X.1 X.2.1 dX12_shelve_81 rfl (lv_at hl 0 rfl) ?_
              refine r_getR (g := 1253) X hw t_14 rfl 53 h_16 (by decide) rfl inn_X12_shelve_12 (by decide) (X.2.2.2.1 (.fieldLink RX12 125 "SilkMillModel" "isLaid" "[Z") (by decide +kernel)) rfl (gv_1253 _ _) dX12_shelve_82 ?_
              refine lv_iload_n X.1 X.2.1 dX12_shelve_85 rfl (lv_at hl 1 rfl) ?_
              refine lv_iconst (v := 1) X.1 X.2.1 dX12_shelve_86 (by decide) ?_
              refine r_zast X hw h_17 rfl (by rw [h_18]; exact z_ix hz_a1 (by omega) (by omega)) dX12_shelve_87 (fun H locs hw => ?_)
              obtain ⟨S_119, eS_119⟩ : ∃ T, T = sA S_5 q_15 (upd (pA S_5 q_15) (Int32.toNatClampNeg (a1)) (vp_nar .boolean (1))) := ⟨_, rfl⟩
              rw [← eS_119] at hw
              have hO_120 : Ok MSH S S_119 := hO_6.sA eS_119 h_17 (by decide +kernel) (uA_1275 hO_6.1 h_17)
              have t_121 : pR S_119 1253 x = some q_15 := tR_sA eS_119 h_16
              have t_123 : pR S_5 1253 x = some q_15 := by have h := t_121; rw [eS_119, pR_sA] at h; exact h
              have zs_122 : ∀ j, zA S_119 x 1253 j = if j = (a1_z).toNat then 1 else zA S_5 x 1253 j := by have h := zA_sAs eS_119 t_123 nar1; rw [z_nc hz_a1 (by omega)] at h; exact h
              have zs_124 : ∀ j, zA S_119 x 1253 j = if j = (a1_z).toNat then 1 else zA S x 1253 j := fun j => by rw [zs_122 j, zc_22]
              refine lv_aload_n X.1 X.2.1 dX12_shelve_88 rfl (lv_at hl 0 rfl) ?_
              have t_125 : At S_119 x 12 := tAt_sA eS_119 t_14
              obtain ⟨q_126, h_127, h_128, h_129⟩ := gQ_12_1254 hO_120.1 t_125
              refine r_getR (g := 1254) X hw t_125 rfl 54 h_127 (by decide) rfl inn_X12_shelve_12 (by decide) (X.2.2.2.1 (.fieldLink RX12 128 "SilkMillModel" "laid" "[I") (by decide +kernel)) rfl (gv_1254 _ _) dX12_shelve_89 ?_
              refine lv_iload_n X.1 X.2.1 dX12_shelve_92 rfl (lv_at hl 1 rfl) ?_
              refine lv_iload_n X.1 X.2.1 dX12_shelve_93 rfl (lv_at hl 2 rfl) ?_
              refine r_iast X hw h_128 rfl (by rw [h_129]; exact z_ix hz_a1 (by omega) (by omega)) dX12_shelve_94 (fun H locs hw => ?_)
              obtain ⟨S_130, eS_130⟩ : ∃ T, T = sA S_119 q_126 (upd (pA S_119 q_126) (Int32.toNatClampNeg (a1)) (a2)) := ⟨_, rfl⟩
              rw [← eS_130] at hw
              have hO_131 : Ok MSH S S_130 := hO_120.sA eS_130 h_128 (by decide +kernel) (uA_1294 hO_120.1 h_128)
              have h_132 : pA S_130 q_126 (Int32.toNatClampNeg (a1)) = a2 := tA_sAs eS_130
              have zc_133 : zA S_5 x 1254 = zA S x 1254 := zA_sI eS_5
              have zc_134 : zA S_119 x 1254 = zA S x 1254 := (zA_sAn eS_119 (ex3 (gQ_12_1254 hO_6.1 t_14)) h_17 rfl).trans zc_133
              have t_135 : pR S_130 1254 x = some q_126 := tR_sA eS_130 h_127
              have t_137 : pR S_119 1254 x = some q_126 := by have h := t_135; rw [eS_130, pR_sA] at h; exact h
              have zs_136 : ∀ j, zA S_130 x 1254 j = if j = (a1_z).toNat then a2_z else zA S_119 x 1254 j := by have h := zA_sAs eS_130 t_137 hz_a2; rw [z_nc hz_a1 (by omega)] at h; exact h
              have zs_138 : ∀ j, zA S_130 x 1254 j = if j = (a1_z).toNat then a2_z else zA S x 1254 j := fun j => by rw [zs_136 j, zc_134]
              refine lv_aload_n X.1 X.2.1 dX12_shelve_95 rfl (lv_at hl 0 rfl) ?_
              have t_139 : At S_130 x 12 := tAt_sA eS_130 t_125
              obtain ⟨q_140, h_141, h_142, h_143⟩ := gQ_12_1255 hO_131.1 t_139
              refine r_getR (g := 1255) X hw t_139 rfl 55 h_141 (by decide) rfl inn_X12_shelve_12 (by decide) (X.2.2.2.1 (.fieldLink RX12 131 "SilkMillModel" "laidValue" "[I") (by decide +kernel)) rfl (gv_1255 _ _) dX12_shelve_96 ?_
              refine lv_iload_n X.1 X.2.1 dX12_shelve_99 rfl (lv_at hl 1 rfl) ?_
              refine lv_iload_n X.1 X.2.1 dX12_shelve_100 rfl (lv_at hl 2 rfl) ?_
              refine lv_if_ne (tgt := 114) X.1 X.2.1 dX12_shelve_101 (by decide) (fun c_144 => ?_) (fun c_144 => ?_)
              rotate_left
              · exfalso
                have k_145 : a2_z = 0 := z_eq hz_a2 ti_0 c_144
                omega
              have k_146 : a2_z ≠ 0 := z_ne hz_a2 ti_0 c_144
              refine lv_iload_n X.1 X.2.1 dX12_shelve_114 rfl (lv_at hl 3 rfl) ?_
              refine r_iast X hw h_142 rfl (by rw [h_143]; exact z_ix hz_a1 (by omega) (by omega)) dX12_shelve_115 (fun H locs hw => ?_)
              obtain ⟨S_147, eS_147⟩ : ∃ T, T = sA S_130 q_140 (upd (pA S_130 q_140) (Int32.toNatClampNeg (a1)) (a3)) := ⟨_, rfl⟩
              rw [← eS_147] at hw
              have hO_148 : Ok MSH S S_147 := hO_131.sA eS_147 h_142 (by decide +kernel) (uA_1314 hO_131.1 h_142)
              have h_149 : pA S_147 q_140 (Int32.toNatClampNeg (a1)) = a3 := tA_sAs eS_147
              have zc_150 : zA S_5 x 1255 = zA S x 1255 := zA_sI eS_5
              have zc_151 : zA S_119 x 1255 = zA S x 1255 := (zA_sAn eS_119 (ex3 (gQ_12_1255 hO_6.1 t_14)) h_17 rfl).trans zc_150
              have zc_152 : zA S_130 x 1255 = zA S x 1255 := (zA_sAn eS_130 (ex3 (gQ_12_1255 hO_120.1 t_125)) h_128 rfl).trans zc_151
              have t_153 : pR S_147 1255 x = some q_140 := tR_sA eS_147 h_141
              have t_155 : pR S_130 1255 x = some q_140 := by have h := t_153; rw [eS_147, pR_sA] at h; exact h
              have zs_154 : ∀ j, zA S_147 x 1255 j = if j = (a1_z).toNat then a3_z else zA S_130 x 1255 j := by have h := zA_sAs eS_147 t_155 hz_a3; rw [z_nc hz_a1 (by omega)] at h; exact h
              have zs_156 : ∀ j, zA S_147 x 1255 j = if j = (a1_z).toNat then a3_z else zA S x 1255 j := fun j => by rw [zs_154 j, zc_152]
              refine lv_iload_n X.1 X.2.1 dX12_shelve_116 rfl (lv_at hl 2 rfl) ?_
              refine lv_if_ne (tgt := 133) X.1 X.2.1 dX12_shelve_117 (by decide) (fun c_157 => ?_) (fun c_157 => ?_)
              rotate_left
              · exfalso
                have k_158 : a2_z = 0 := z_eq hz_a2 ti_0 c_157
                omega
              have k_159 : a2_z ≠ 0 := z_ne hz_a2 ti_0 c_157
              have zc_160 : zA S_130 x 1253 = zA S_119 x 1253 := zA_sAn eS_130 (ex3 (gQ_12_1253 hO_120.1 t_125)) h_128 rfl
              have zc_161 : zA S_147 x 1253 = zA S_119 x 1253 := (zA_sAn eS_147 (ex3 (gQ_12_1253 hO_131.1 t_139)) h_142 rfl).trans zc_160
              have zs_162 : ∀ j, zA S_147 x 1253 j = if j = (a1_z).toNat then 1 else zA S x 1253 j := fun j => by rw [zc_161]; exact zs_124 j
              have zc_163 : zA S_5 x 1254 = zA S x 1254 := zA_sI eS_5
              have zc_164 : zA S_119 x 1254 = zA S x 1254 := (zA_sAn eS_119 (ex3 (gQ_12_1254 hO_6.1 t_14)) h_17 rfl).trans zc_163
              have zc_165 : zA S_147 x 1254 = zA S_130 x 1254 := zA_sAn eS_147 (ex3 (gQ_12_1254 hO_131.1 t_139)) h_142 rfl
              have zs_166 : ∀ j, zA S_147 x 1254 j = if j = (a1_z).toNat then a2_z else zA S x 1254 j := fun j => by rw [zc_165]; exact zs_138 j
              have zc_167 : zA S_5 x 1255 = zA S x 1255 := zA_sI eS_5
              have zc_168 : zA S_119 x 1255 = zA S x 1255 := (zA_sAn eS_119 (ex3 (gQ_12_1255 hO_6.1 t_14)) h_17 rfl).trans zc_167
              have zc_169 : zA S_130 x 1255 = zA S x 1255 := (zA_sAn eS_130 (ex3 (gQ_12_1255 hO_120.1 t_125)) h_128 rfl).trans zc_168
              have zc_171 : zA S_5 x 1207 = zA S x 1207 := zA_sI eS_5
              have zc_172 : zA S_119 x 1207 = zA S x 1207 := (zA_sAn eS_119 (ex3 (gQ_12_1207 hO_6.1 t_14)) h_17 rfl).trans zc_171
              have zc_173 : zA S_130 x 1207 = zA S x 1207 := (zA_sAn eS_130 (ex3 (gQ_12_1207 hO_120.1 t_125)) h_128 rfl).trans zc_172
              have zc_174 : zA S_147 x 1207 = zA S x 1207 := (zA_sAn eS_147 (ex3 (gQ_12_1207 hO_131.1 t_139)) h_142 rfl).trans zc_173
              have mi_170 : MI S_147 x := lay_MI (p := (a1_z).toNat) hG ha_x hO_148.fr hp_0 zc_174 (fun j hj => by rw [zs_162 j, if_neg hj]) (fun j hj => by rw [zs_166 j, if_neg hj]) (fun j hj => by rw [zs_156 j, if_neg hj]) (Or.inr (by rw [zs_166, if_pos rfl]; omega))
              refine lv_iload_n X.1 X.2.1 dX12_shelve_133 rfl (lv_at hl 2 rfl) ?_
              refine lv_iconst (v := 2) X.1 X.2.1 dX12_shelve_134 (by decide) ?_
              refine lv_icmp_ne (tgt := 174) X.1 X.2.1 dX12_shelve_135 (by decide) (fun c_175 => ?_) (fun c_175 => ?_)
              · exfalso
                have k_176 : a2_z ≠ 2 := z_ne hz_a2 ti_2 c_175
                omega
              have k_177 : a2_z = 2 := z_eq hz_a2 ti_2 c_175
              refine lv_aload_n X.1 X.2.1 dX12_shelve_138 rfl (lv_at hl 0 rfl) ?_
              have t_178 : At S_147 x 12 := tAt_sA eS_147 t_139
              obtain ⟨q_179, h_180, h_181, h_182⟩ := gQ_12_1256 hO_148.1 t_178
              refine r_getR (g := 1256) X hw t_178 rfl 56 h_180 (by decide) rfl inn_X12_shelve_12 (by decide) (X.2.2.2.1 (.fieldLink RX12 134 "SilkMillModel" "wordMany" "[I") (by decide +kernel)) rfl (gv_1256 _ _) dX12_shelve_139 ?_
              refine lv_iload_n X.1 X.2.1 dX12_shelve_142 rfl (lv_at hl 1 rfl) ?_
              refine lv_iload_n X.1 X.2.1 dX12_shelve_143 rfl (lv_at hl 3 rfl) ?_
              refine r_iast X hw h_181 rfl (by rw [h_182]; exact z_ix hz_a1 (by omega) (by omega)) dX12_shelve_144 (fun H locs hw => ?_)
              obtain ⟨S_183, eS_183⟩ : ∃ T, T = sA S_147 q_179 (upd (pA S_147 q_179) (Int32.toNatClampNeg (a1)) (a3)) := ⟨_, rfl⟩
              rw [← eS_183] at hw
              have hO_184 : Ok MSH S S_183 := hO_148.sA eS_183 h_181 (by decide +kernel) (uA_1334 hO_148.1 h_181 (by omega) (by omega))
              have h_185 : pA S_183 q_179 (Int32.toNatClampNeg (a1)) = a3 := tA_sAs eS_183
              have zc_186 : zA S_5 x 1256 = zA S x 1256 := zA_sI eS_5
              have zc_187 : zA S_119 x 1256 = zA S x 1256 := (zA_sAn eS_119 (ex3 (gQ_12_1256 hO_6.1 t_14)) h_17 rfl).trans zc_186
              have zc_188 : zA S_130 x 1256 = zA S x 1256 := (zA_sAn eS_130 (ex3 (gQ_12_1256 hO_120.1 t_125)) h_128 rfl).trans zc_187
              have zc_189 : zA S_147 x 1256 = zA S x 1256 := (zA_sAn eS_147 (ex3 (gQ_12_1256 hO_131.1 t_139)) h_142 rfl).trans zc_188
              have t_190 : pR S_183 1256 x = some q_179 := tR_sA eS_183 h_180
              have t_192 : pR S_147 1256 x = some q_179 := by have h := t_190; rw [eS_183, pR_sA] at h; exact h
              have zs_191 : ∀ j, zA S_183 x 1256 j = if j = (a1_z).toNat then a3_z else zA S_147 x 1256 j := by have h := zA_sAs eS_183 t_192 hz_a3; rw [z_nc hz_a1 (by omega)] at h; exact h
              have zs_193 : ∀ j, zA S_183 x 1256 j = if j = (a1_z).toNat then a3_z else zA S x 1256 j := fun j => by rw [zs_191 j, zc_189]
              refine lv_iconst (v := 0) X.1 X.2.1 dX12_shelve_145 (by decide) ?_
              refine lv_istore (lv' := [(5, .int 0), (0, .ref x), (1, .int (a1)), (2, .int (a2)), (3, .int (a3)), (4, .int (a4))]) X.1 X.2.1 dX12_shelve_146 hl (by decide) rfl (fun ls hl => ?_)
              have zc_198 : zA S_183 x 1207 = zA S x 1207 := (zA_sAn eS_183 (ex3 (gQ_12_1207 hO_148.1 t_178)) h_181 rfl).trans zc_174
              have zc_200 : zA S_183 x 1253 = zA S_119 x 1253 := (zA_sAn eS_183 (ex3 (gQ_12_1253 hO_148.1 t_178)) h_181 rfl).trans zc_161
              have zc_202 : zA S_183 x 1254 = zA S_130 x 1254 := (zA_sAn eS_183 (ex3 (gQ_12_1254 hO_148.1 t_178)) h_181 rfl).trans zc_165
              have zc_204 : zA S_183 x 1255 = zA S_147 x 1255 := zA_sAn eS_183 (ex3 (gQ_12_1255 hO_148.1 t_178)) h_181 rfl
              have zc_206 : zA S_5 x 1256 = zA S x 1256 := zA_sI eS_5
              have zc_207 : zA S_119 x 1256 = zA S x 1256 := (zA_sAn eS_119 (ex3 (gQ_12_1256 hO_6.1 t_14)) h_17 rfl).trans zc_206
              have zc_208 : zA S_130 x 1256 = zA S x 1256 := (zA_sAn eS_130 (ex3 (gQ_12_1256 hO_120.1 t_125)) h_128 rfl).trans zc_207
              have zc_209 : zA S_147 x 1256 = zA S x 1256 := (zA_sAn eS_147 (ex3 (gQ_12_1256 hO_131.1 t_139)) h_142 rfl).trans zc_208
              have L_194 : ∀ (n : Nat) (T_196 : PS) (H : Heap) (locs : List Loc) (ls : Array Slot) (i5_195 : Int32) (i5_195_z : Int), ((8 - i5_195_z).toNat = n) → (Wd G cy (AS S s.heap.size) s.heap T_196 H locs) → (i5_195.toInt = i5_195_z) → (0 ≤ i5_195_z ∧ i5_195_z ≤ 8) → (At T_196 x 12) → (Ok MSH S T_196) → (zA T_196 x 1207 = zA S x 1207) → (zA T_196 x 1253 = zA S_119 x 1253) → (zA T_196 x 1254 = zA S_130 x 1254) → (zA T_196 x 1255 = zA S_147 x 1255) → (zA T_196 x 1256 = zA S_183 x 1256) → (MIe T_196 x (-1)) → (lv_has ls 6 [(5, .int (i5_195)), (0, .ref x), (1, .int (a1)), (2, .int (a2)), (3, .int (a3)), (4, .int (a4))]) → W p l e ({ frames := 3, cells := 0, slots := 0, locals := 144 }) s m [.ref x, .int (a1), .int (a2), .int (a3), .int (a4)].toArray below meth c H locs 0 0 QQ (F0 m 148 ls []) := by
                intro n
                induction n using Nat.strongRecOn with
                | ind n ih_L_194 =>
                intro T_196 H locs ls i5_195 i5_195_z hn hw hz_i5_195 hr_i5_195 ha_x_L_197 hO_T_196 zk_199 zk_201 zk_203 zk_205 zk_210 mk_211 hl
                have rg_212 : (-2147483648) ≤ i5_195_z ∧ i5_195_z ≤ 2147483647 := by rw [← hz_i5_195]; exact ⟨z_lo _, z_hi _⟩
                refine lv_iload X.1 X.2.1 dX12_shelve_148 (lv_at hl 0 rfl) ?_
                refine lv_iload_n X.1 X.2.1 dX12_shelve_150 rfl (lv_at hl 4 rfl) ?_
                refine lv_icmp_ge (tgt := 174) X.1 X.2.1 dX12_shelve_151 (by decide) (fun c_213 => ?_) (fun c_213 => ?_)
                · have z_b_214 := trivial
                  have k_215 : i5_195_z ≥ a3_z := z_le hz_a3 hz_i5_195 c_213
                  refine lv_iconst (v := 1) X.1 X.2.1 dX12_shelve_174 (by decide) ?_
                  have zs_216 : ∀ j, zA T_196 x 1253 j = if j = (a1_z).toNat then 1 else zA S x 1253 j := fun j => by rw [zk_201]; exact zs_124 j
                  have zs_217 : ∀ j, zA T_196 x 1254 j = if j = (a1_z).toNat then a2_z else zA S x 1254 j := fun j => by rw [zk_203]; exact zs_138 j
                  have zs_218 : ∀ j, zA T_196 x 1255 j = if j = (a1_z).toNat then a3_z else zA S x 1255 j := fun j => by rw [zk_205]; exact zs_156 j
                  have zs_219 : ∀ j, zA T_196 x 1256 j = if j = (a1_z).toNat then a3_z else zA S x 1256 j := fun j => by rw [zk_210]; exact zs_193 j
                  rw [hQQ]
                  exact ret_z X hw hr hlocks (Nat.le_of_ble_eq_true rfl) (Nat.le_of_ble_eq_true rfl) (by decide) ⟨hO_T_196, Or.inl ⟨⟨mk_211, ⟨by omega, by omega, by omega, Or.inr (Or.inr ⟨by omega, by omega, by omega⟩)⟩, zs_216, (fun j => (zs_217 j).trans (by first | rfl | (split <;> first | rfl | omega))), (fun j => by rw [zs_218 j, if_neg (show ¬ a2_z = 0 by omega)]), (fun j => by rw [zk_199, if_neg (show ¬ a2_z = 0 by omega)]), (fun j => by rw [zs_219 j, if_pos (show a2_z = 2 by omega)])⟩, rfl⟩⟩ dX12_shelve_175
                · have z_b_220 := trivial
                  have k_221 : i5_195_z < a3_z := z_nle hz_a3 hz_i5_195 c_213
                  refine lv_aload_n X.1 X.2.1 dX12_shelve_154 rfl (lv_at hl 1 rfl) ?_
                  obtain ⟨q_222, h_223, h_224, h_225⟩ := gQ_12_1257 hO_T_196.1 ha_x_L_197
                  refine r_getR (g := 1257) X hw ha_x_L_197 rfl 57 h_223 (by decide) rfl inn_X12_shelve_12 (by decide) (X.2.2.2.1 (.fieldLink RX12 137 "SilkMillModel" "wordOf" "[I") (by decide +kernel)) rfl (gv_1257 _ _) dX12_shelve_155 ?_
                  refine lv_bipush (v := 8) X.1 X.2.1 dX12_shelve_158 (by decide) ?_
                  refine lv_iload_n X.1 X.2.1 dX12_shelve_160 rfl (lv_at hl 2 rfl) ?_
                  refine lv_imul X.1 X.2.1 dX12_shelve_161 ?_
                  refine lv_topi (fun v_226 ev_226 => ?_)
                  have z_227 : v_226.toInt = 8 * a1_z := z_mul ev_226 ti_8 hz_a1 (by omega) (by omega)
                  refine lv_iload X.1 X.2.1 dX12_shelve_162 (lv_at hl 0 rfl) ?_
                  refine lv_iadd X.1 X.2.1 dX12_shelve_164 ?_
                  refine lv_topi (fun v_228 ev_228 => ?_)
                  have z_229 : v_228.toInt = (8 * a1_z) + i5_195_z := z_add ev_228 z_227 hz_i5_195 (by omega) (by omega)
                  refine lv_iload X.1 X.2.1 dX12_shelve_165 (lv_at hl 5 rfl) ?_
                  refine r_iast X hw h_224 rfl (by rw [h_225]; exact z_ix z_229 (by omega) (by omega)) dX12_shelve_167 (fun H locs hw => ?_)
                  obtain ⟨S_230, eS_230⟩ : ∃ T, T = sA T_196 q_222 (upd (pA T_196 q_222) (Int32.toNatClampNeg (v_228)) (a4)) := ⟨_, rfl⟩
                  rw [← eS_230] at hw
                  have hO_231 : Ok MSH S S_230 := hO_T_196.sA eS_230 h_224 (by decide +kernel) (uA_1354 hO_T_196.1 h_224)
                  have h_232 : pA S_230 q_222 (Int32.toNatClampNeg (v_228)) = a4 := tA_sAs eS_230
                  obtain ⟨x_233, ex_233⟩ : ∃ y : Int32, y = i5_195 + 1 := ⟨_, rfl⟩
                  have z_234 : x_233.toInt = i5_195_z + 1 := z_add ex_233 hz_i5_195 ti_1 (by omega) (by omega)
                  refine lv_iinc (v := x_233) (lv' := [(5, .int (x_233)), (0, .ref x), (1, .int (a1)), (2, .int (a2)), (3, .int (a3)), (4, .int (a4))]) X.1 X.2.1 dX12_shelve_168 hl (k := 0) rfl (by rw [ex_233]; rfl) (by decide) rfl (fun ls hl => ?_)
                  refine lv_goto (tgt := 148) X.1 X.2.1 dX12_shelve_171 (by decide) ?_
                  have t_235 : At S_230 x 12 := tAt_sA eS_230 ha_x_L_197
                  have zc_236 : zA S_230 x 1207 = zA S x 1207 := (zA_sAn eS_230 (ex3 (gQ_12_1207 hO_T_196.1 ha_x_L_197)) h_224 rfl).trans zk_199
                  have zc_237 : zA S_230 x 1253 = zA S_119 x 1253 := (zA_sAn eS_230 (ex3 (gQ_12_1253 hO_T_196.1 ha_x_L_197)) h_224 rfl).trans zk_201
                  have zc_238 : zA S_230 x 1254 = zA S_130 x 1254 := (zA_sAn eS_230 (ex3 (gQ_12_1254 hO_T_196.1 ha_x_L_197)) h_224 rfl).trans zk_203
                  have zc_239 : zA S_230 x 1255 = zA S_147 x 1255 := (zA_sAn eS_230 (ex3 (gQ_12_1255 hO_T_196.1 ha_x_L_197)) h_224 rfl).trans zk_205
                  have zc_240 : zA S_230 x 1256 = zA S_183 x 1256 := (zA_sAn eS_230 (ex3 (gQ_12_1256 hO_T_196.1 ha_x_L_197)) h_224 rfl).trans zk_210
                  have mi_241 : MIe S_230 x (-1) := MIe_sA mk_211 hO_T_196.1 ha_x_L_197 h_224 eS_230 (by decide +kernel)
                  exact ih_L_194 _ (by omega) _ _ _ _ (x_233) (x_233.toInt) rfl hw rfl (by omega) t_235 hO_231 zc_236 zc_237 zc_238 zc_239 zc_240 mi_241 (lv_sub hl [0, 1, 2, 3, 4, 5] rfl)
              have t_242 : At S_183 x 12 := tAt_sA eS_183 t_178
              have mi_243 : MIe S_183 x (-1) := MIe_sA mi_170 hO_148.1 t_178 h_181 eS_183 (by decide +kernel)
              exact L_194 _ _ _ _ _ (0) (0) rfl hw ti_0 (by omega) t_242 hO_184 zc_198 zc_200 zc_202 zc_204 (Eq.refl _) mi_243 (lv_sub hl [0, 1, 2, 3, 4, 5] rfl)
            · have z_b_244 := trivial
              refine lv_if_ne (tgt := 81) X.1 X.2.1 dX12_shelve_76 (by decide) (fun c_245 => absurd c_245 (by decide)) (fun c_245 => ?_)
              refine lv_iconst (v := 0) X.1 X.2.1 dX12_shelve_79 (by decide) ?_
              have mi_246 : MIe S_5 x (-1) := MIe_sI hp_0 hO.1 ha_x eS_5 (by decide +kernel)
              have zc_247 : zA S_5 x 1207 = zA S x 1207 := zA_sI eS_5
              have zc_248 : zA S_5 x 1254 = zA S x 1254 := zA_sI eS_5
              have zc_249 : zA S_5 x 1255 = zA S x 1255 := zA_sI eS_5
              have zc_250 : zA S_5 x 1256 = zA S x 1256 := zA_sI eS_5
              rw [hQQ]
              exact ret_z X hw hr hlocks (Nat.le_of_ble_eq_true rfl) (Nat.le_of_ble_eq_true rfl) (by decide) ⟨hO_6, Or.inr ⟨⟨mi_246, fun h => (by obtain ⟨h1, h2, h3, h4⟩ := h; have hz7 := congrFun zc_247 (60 * a3_z + a4_z).toNat; have hz53 := congrFun zc_22 (a1_z).toNat; rcases h4 with ⟨h5, h6, h7, h8, h9, h10⟩ | h5 | ⟨h5, h6, h7⟩ <;> omega), zc_247, zc_22, zc_248, zc_249, zc_250⟩, rfl⟩⟩ dX12_shelve_80
        · have z_b_251 := trivial
          have k_252 : a2_z = 0 := z_eq hz_a2 ti_0 c_40
          refine lv_aload_n X.1 X.2.1 dX12_shelve_39 rfl (lv_at hl 0 rfl) ?_
          refine lv_iload_n X.1 X.2.1 dX12_shelve_40 rfl (lv_at hl 3 rfl) ?_
          refine lv_iload X.1 X.2.1 dX12_shelve_41 (lv_at hl 4 rfl) ?_
          have t_253 : pI S_5 1201 x = v_1 := tI_sI eS_5 rfl ev_1
          have pz_254 : (pI S_5 1201 x).toInt = v_1.toInt := (congrArg Int32.toInt t_253).trans rfl
          refine k_i (rm := { frames := 2, cells := 0, slots := 0, locals := 96 }) (av := [.ref x, .int (a3), .int (a4)]) X hw (va_runV (As := [.int (a3), .int (a4)]) (rest := []) (cfix X) (k_X12_isCocoon2 l G cy κ S_5 _ x (a3) (a3_z) (a4) (a4_z) hO_6.1 t_14 hz_a3 hz_a4) (cwV 2 X.2.2.2.1 gX12_shelve_X12_isCocoon rfl rfl rfl (by decide +kernel) ⟨Nat.le_of_ble_eq_true rfl, Nat.le_of_ble_eq_true rfl⟩) (pre_V X hw _ t_14 rfl (by decide) rfl) rfl rfl hl.1 rfl (lv_room (Nat.le_of_ble_eq_true rfl)) dX12_shelve_43 ⟨Nat.le_of_ble_eq_true rfl, Nat.le_of_ble_eq_true rfl⟩) 0 0 (Nat.le_of_ble_eq_true rfl) (Nat.le_of_ble_eq_true rfl) (fun rr_255 S_256 H locs hp hw hfr hnw => ?_)
          obtain ⟨e2, hp⟩ := hp
          subst e2
          rcases hp with ⟨f_257, er_258⟩ | ⟨f_257, er_258⟩ <;> subst er_258
          · have z_b_259 := trivial
            have zc_260 : zA S_5 x 1202 = zA S x 1202 := zA_sI eS_5
            have zz_261 := congrFun zc_260 a3_z.toNat
            refine lv_if_eq (tgt := 79) X.1 X.2.1 dX12_shelve_46 (by decide) (fun c_262 => absurd c_262 (by decide)) (fun c_262 => ?_)
            refine lv_aload_n X.1 X.2.1 dX12_shelve_49 rfl (lv_at hl 0 rfl) ?_
            obtain ⟨q_263, h_264, h_265, h_266⟩ := gQ_12_1207 hO_6.1 t_14
            refine r_getR (g := 1207) X hw t_14 rfl 7 h_264 (by decide) rfl inn_X12_shelve_12 (by decide) (X.2.2.2.1 (.fieldLink RX12 25 "SilkMillModel" "stand" "[I") (by decide +kernel)) rfl (gv_1207 _ _) dX12_shelve_50 ?_
            refine lv_bipush (v := 60) X.1 X.2.1 dX12_shelve_53 (by decide) ?_
            refine lv_iload_n X.1 X.2.1 dX12_shelve_55 rfl (lv_at hl 3 rfl) ?_
            refine lv_imul X.1 X.2.1 dX12_shelve_56 ?_
            refine lv_topi (fun v_267 ev_267 => ?_)
            have z_268 : v_267.toInt = 60 * a3_z := z_mul ev_267 ti_60 hz_a3 (by omega) (by omega)
            refine lv_iload X.1 X.2.1 dX12_shelve_57 (lv_at hl 4 rfl) ?_
            refine lv_iadd X.1 X.2.1 dX12_shelve_59 ?_
            refine lv_topi (fun v_269 ev_269 => ?_)
            have z_270 : v_269.toInt = (60 * a3_z) + a4_z := z_add ev_269 z_268 hz_a4 (by omega) (by omega)
            refine r_iald X hw h_265 rfl (by rw [h_266]; exact z_ix z_270 (by omega) (by omega)) dX12_shelve_60 ?_
            refine lv_topi (fun v_271 ev_271 => ?_)
            have rg_272 := And.intro (z_lo v_271) (z_hi v_271)
            have ev_271 := ev_271.symm
            have zf_273 : zA S_5 x 1207 (((60 * a3_z) + a4_z)).toNat = v_271.toInt := (zA_of h_264 z_270 (by omega) ev_271)
            have zc_274 : zA S_5 x 1207 = zA S x 1207 := zA_sI eS_5
            have zz_275 := congrFun zc_274 (((60 * a3_z) + a4_z).toNat)
            have zz_276 := congrFun zc_274 (60 * a3_z + a4_z).toNat
            refine lv_if_ne (tgt := 79) X.1 X.2.1 dX12_shelve_61 (by decide) (fun c_277 => ?_) (fun c_277 => ?_)
            · have z_b_278 := trivial
              have k_279 : v_271.toInt ≠ 0 := z_ne rfl ti_0 c_277
              refine lv_iconst (v := 0) X.1 X.2.1 dX12_shelve_79 (by decide) ?_
              have mi_280 : MIe S_5 x (-1) := MIe_sI hp_0 hO.1 ha_x eS_5 (by decide +kernel)
              have zc_281 : zA S_5 x 1254 = zA S x 1254 := zA_sI eS_5
              have zc_282 : zA S_5 x 1255 = zA S x 1255 := zA_sI eS_5
              have zc_283 : zA S_5 x 1256 = zA S x 1256 := zA_sI eS_5
              rw [hQQ]
              exact ret_z X hw hr hlocks (Nat.le_of_ble_eq_true rfl) (Nat.le_of_ble_eq_true rfl) (by decide) ⟨hO_6, Or.inr ⟨⟨mi_280, fun h => (by obtain ⟨h1, h2, h3, h4⟩ := h; have hz7 := congrFun zc_274 (60 * a3_z + a4_z).toNat; have hz53 := congrFun zc_22 (a1_z).toNat; rcases h4 with ⟨h5, h6, h7, h8, h9, h10⟩ | h5 | ⟨h5, h6, h7⟩ <;> omega), zc_274, zc_22, zc_281, zc_282, zc_283⟩, rfl⟩⟩ dX12_shelve_80
            · have z_b_284 := trivial
              have k_285 : v_271.toInt = 0 := z_eq rfl ti_0 c_277
              refine lv_iload_n X.1 X.2.1 dX12_shelve_64 rfl (lv_at hl 2 rfl) ?_
              refine lv_iconst (v := 2) X.1 X.2.1 dX12_shelve_65 (by decide) ?_
              refine lv_icmp_ne (tgt := 81) X.1 X.2.1 dX12_shelve_66 (by decide) (fun c_286 => ?_) (fun c_286 => ?_)
              rotate_left
              · exfalso
                have k_287 : a2_z = 2 := z_eq hz_a2 ti_2 c_286
                omega
              have k_288 : a2_z ≠ 2 := z_ne hz_a2 ti_2 c_286
              refine lv_aload_n X.1 X.2.1 dX12_shelve_81 rfl (lv_at hl 0 rfl) ?_
              refine r_getR (g := 1253) X hw t_14 rfl 53 h_16 (by decide) rfl inn_X12_shelve_12 (by decide) (X.2.2.2.1 (.fieldLink RX12 125 "SilkMillModel" "isLaid" "[Z") (by decide +kernel)) rfl (gv_1253 _ _) dX12_shelve_82 ?_
              refine lv_iload_n X.1 X.2.1 dX12_shelve_85 rfl (lv_at hl 1 rfl) ?_
              refine lv_iconst (v := 1) X.1 X.2.1 dX12_shelve_86 (by decide) ?_
              refine r_zast X hw h_17 rfl (by rw [h_18]; exact z_ix hz_a1 (by omega) (by omega)) dX12_shelve_87 (fun H locs hw => ?_)
              obtain ⟨S_289, eS_289⟩ : ∃ T, T = sA S_5 q_15 (upd (pA S_5 q_15) (Int32.toNatClampNeg (a1)) (vp_nar .boolean (1))) := ⟨_, rfl⟩
              rw [← eS_289] at hw
              have hO_290 : Ok MSH S S_289 := hO_6.sA eS_289 h_17 (by decide +kernel) (uA_1275 hO_6.1 h_17)
              have t_291 : pR S_289 1253 x = some q_15 := tR_sA eS_289 h_16
              have t_293 : pR S_5 1253 x = some q_15 := by have h := t_291; rw [eS_289, pR_sA] at h; exact h
              have zs_292 : ∀ j, zA S_289 x 1253 j = if j = (a1_z).toNat then 1 else zA S_5 x 1253 j := by have h := zA_sAs eS_289 t_293 nar1; rw [z_nc hz_a1 (by omega)] at h; exact h
              have zs_294 : ∀ j, zA S_289 x 1253 j = if j = (a1_z).toNat then 1 else zA S x 1253 j := fun j => by rw [zs_292 j, zc_22]
              refine lv_aload_n X.1 X.2.1 dX12_shelve_88 rfl (lv_at hl 0 rfl) ?_
              have t_295 : At S_289 x 12 := tAt_sA eS_289 t_14
              obtain ⟨q_296, h_297, h_298, h_299⟩ := gQ_12_1254 hO_290.1 t_295
              refine r_getR (g := 1254) X hw t_295 rfl 54 h_297 (by decide) rfl inn_X12_shelve_12 (by decide) (X.2.2.2.1 (.fieldLink RX12 128 "SilkMillModel" "laid" "[I") (by decide +kernel)) rfl (gv_1254 _ _) dX12_shelve_89 ?_
              refine lv_iload_n X.1 X.2.1 dX12_shelve_92 rfl (lv_at hl 1 rfl) ?_
              refine lv_iload_n X.1 X.2.1 dX12_shelve_93 rfl (lv_at hl 2 rfl) ?_
              refine r_iast X hw h_298 rfl (by rw [h_299]; exact z_ix hz_a1 (by omega) (by omega)) dX12_shelve_94 (fun H locs hw => ?_)
              obtain ⟨S_300, eS_300⟩ : ∃ T, T = sA S_289 q_296 (upd (pA S_289 q_296) (Int32.toNatClampNeg (a1)) (a2)) := ⟨_, rfl⟩
              rw [← eS_300] at hw
              have hO_301 : Ok MSH S S_300 := hO_290.sA eS_300 h_298 (by decide +kernel) (uA_1294 hO_290.1 h_298)
              have h_302 : pA S_300 q_296 (Int32.toNatClampNeg (a1)) = a2 := tA_sAs eS_300
              have zc_303 : zA S_5 x 1254 = zA S x 1254 := zA_sI eS_5
              have zc_304 : zA S_289 x 1254 = zA S x 1254 := (zA_sAn eS_289 (ex3 (gQ_12_1254 hO_6.1 t_14)) h_17 rfl).trans zc_303
              have t_305 : pR S_300 1254 x = some q_296 := tR_sA eS_300 h_297
              have t_307 : pR S_289 1254 x = some q_296 := by have h := t_305; rw [eS_300, pR_sA] at h; exact h
              have zs_306 : ∀ j, zA S_300 x 1254 j = if j = (a1_z).toNat then a2_z else zA S_289 x 1254 j := by have h := zA_sAs eS_300 t_307 hz_a2; rw [z_nc hz_a1 (by omega)] at h; exact h
              have zs_308 : ∀ j, zA S_300 x 1254 j = if j = (a1_z).toNat then a2_z else zA S x 1254 j := fun j => by rw [zs_306 j, zc_304]
              refine lv_aload_n X.1 X.2.1 dX12_shelve_95 rfl (lv_at hl 0 rfl) ?_
              have t_309 : At S_300 x 12 := tAt_sA eS_300 t_295
              obtain ⟨q_310, h_311, h_312, h_313⟩ := gQ_12_1255 hO_301.1 t_309
              refine r_getR (g := 1255) X hw t_309 rfl 55 h_311 (by decide) rfl inn_X12_shelve_12 (by decide) (X.2.2.2.1 (.fieldLink RX12 131 "SilkMillModel" "laidValue" "[I") (by decide +kernel)) rfl (gv_1255 _ _) dX12_shelve_96 ?_
              refine lv_iload_n X.1 X.2.1 dX12_shelve_99 rfl (lv_at hl 1 rfl) ?_
              refine lv_iload_n X.1 X.2.1 dX12_shelve_100 rfl (lv_at hl 2 rfl) ?_
              refine lv_if_ne (tgt := 114) X.1 X.2.1 dX12_shelve_101 (by decide) (fun c_314 => ?_) (fun c_314 => ?_)
              · exfalso
                have k_315 : a2_z ≠ 0 := z_ne hz_a2 ti_0 c_314
                omega
              have k_316 : a2_z = 0 := z_eq hz_a2 ti_0 c_314
              refine lv_bipush (v := 60) X.1 X.2.1 dX12_shelve_104 (by decide) ?_
              refine lv_iload_n X.1 X.2.1 dX12_shelve_106 rfl (lv_at hl 3 rfl) ?_
              refine lv_imul X.1 X.2.1 dX12_shelve_107 ?_
              refine lv_topi (fun v_317 ev_317 => ?_)
              have z_318 : v_317.toInt = 60 * a3_z := z_mul ev_317 ti_60 hz_a3 (by omega) (by omega)
              refine lv_iload X.1 X.2.1 dX12_shelve_108 (lv_at hl 4 rfl) ?_
              refine lv_iadd X.1 X.2.1 dX12_shelve_110 ?_
              refine lv_topi (fun v_319 ev_319 => ?_)
              have z_320 : v_319.toInt = (60 * a3_z) + a4_z := z_add ev_319 z_318 hz_a4 (by omega) (by omega)
              refine lv_goto (tgt := 115) X.1 X.2.1 dX12_shelve_111 (by decide) ?_
              refine r_iast X hw h_312 rfl (by rw [h_313]; exact z_ix hz_a1 (by omega) (by omega)) dX12_shelve_115 (fun H locs hw => ?_)
              obtain ⟨S_321, eS_321⟩ : ∃ T, T = sA S_300 q_310 (upd (pA S_300 q_310) (Int32.toNatClampNeg (a1)) (v_319)) := ⟨_, rfl⟩
              rw [← eS_321] at hw
              have hO_322 : Ok MSH S S_321 := hO_301.sA eS_321 h_312 (by decide +kernel) (uA_1314 hO_301.1 h_312)
              have h_323 : pA S_321 q_310 (Int32.toNatClampNeg (a1)) = v_319 := tA_sAs eS_321
              have zc_324 : zA S_5 x 1255 = zA S x 1255 := zA_sI eS_5
              have zc_325 : zA S_289 x 1255 = zA S x 1255 := (zA_sAn eS_289 (ex3 (gQ_12_1255 hO_6.1 t_14)) h_17 rfl).trans zc_324
              have zc_326 : zA S_300 x 1255 = zA S x 1255 := (zA_sAn eS_300 (ex3 (gQ_12_1255 hO_290.1 t_295)) h_298 rfl).trans zc_325
              have t_327 : pR S_321 1255 x = some q_310 := tR_sA eS_321 h_311
              have t_329 : pR S_300 1255 x = some q_310 := by have h := t_327; rw [eS_321, pR_sA] at h; exact h
              have zs_328 : ∀ j, zA S_321 x 1255 j = if j = (a1_z).toNat then ((60 * a3_z) + a4_z) else zA S_300 x 1255 j := by have h := zA_sAs eS_321 t_329 z_320; rw [z_nc hz_a1 (by omega)] at h; exact h
              have zs_330 : ∀ j, zA S_321 x 1255 j = if j = (a1_z).toNat then ((60 * a3_z) + a4_z) else zA S x 1255 j := fun j => by rw [zs_328 j, zc_326]
              refine lv_iload_n X.1 X.2.1 dX12_shelve_116 rfl (lv_at hl 2 rfl) ?_
              refine lv_if_ne (tgt := 133) X.1 X.2.1 dX12_shelve_117 (by decide) (fun c_331 => ?_) (fun c_331 => ?_)
              · exfalso
                have k_332 : a2_z ≠ 0 := z_ne hz_a2 ti_0 c_331
                omega
              have k_333 : a2_z = 0 := z_eq hz_a2 ti_0 c_331
              refine lv_aload_n X.1 X.2.1 dX12_shelve_120 rfl (lv_at hl 0 rfl) ?_
              have t_334 : At S_321 x 12 := tAt_sA eS_321 t_309
              have t_335 : pR S_289 1207 x = some q_263 := tR_sA eS_289 h_264
              have t_336 : pR S_300 1207 x = some q_263 := tR_sA eS_300 t_335
              have t_337 : pR S_321 1207 x = some q_263 := tR_sA eS_321 t_336
              refine r_getR (g := 1207) X hw t_334 rfl 7 t_337 (by decide) rfl inn_X12_shelve_12 (by decide) (X.2.2.2.1 (.fieldLink RX12 25 "SilkMillModel" "stand" "[I") (by decide +kernel)) rfl (gv_1207 _ _) dX12_shelve_121 ?_
              refine lv_bipush (v := 60) X.1 X.2.1 dX12_shelve_124 (by decide) ?_
              refine lv_iload_n X.1 X.2.1 dX12_shelve_126 rfl (lv_at hl 3 rfl) ?_
              refine lv_imul X.1 X.2.1 dX12_shelve_127 ?_
              refine lv_topi (fun v_338 ev_338 => ?_)
              have z_339 : v_338.toInt = 60 * a3_z := z_mul ev_338 ti_60 hz_a3 (by omega) (by omega)
              refine lv_iload X.1 X.2.1 dX12_shelve_128 (lv_at hl 4 rfl) ?_
              refine lv_iadd X.1 X.2.1 dX12_shelve_130 ?_
              refine lv_topi (fun v_340 ev_340 => ?_)
              have z_341 : v_340.toInt = (60 * a3_z) + a4_z := z_add ev_340 z_339 hz_a4 (by omega) (by omega)
              refine lv_iconst (v := 5) X.1 X.2.1 dX12_shelve_131 (by decide) ?_
              have t_342 : At S_289 q_263 354 := tAt_sA eS_289 h_265
              have t_343 : At S_300 q_263 354 := tAt_sA eS_300 t_342
              have t_344 : At S_321 q_263 354 := tAt_sA eS_321 t_343
              have t_345 : pN S_289 q_263 = 600 := tN_sA eS_289 h_266
              clear h_266
              have t_346 : pN S_300 q_263 = 600 := tN_sA eS_300 t_345
              clear t_345
              have t_347 : pN S_321 q_263 = 600 := tN_sA eS_321 t_346
              clear t_346
              refine r_iast X hw t_344 rfl (by rw [t_347]; exact z_ix z_341 (by omega) (by omega)) dX12_shelve_132 (fun H locs hw => ?_)
              obtain ⟨S_348, eS_348⟩ : ∃ T, T = sA S_321 q_263 (upd (pA S_321 q_263) (Int32.toNatClampNeg (v_340)) (5)) := ⟨_, rfl⟩
              rw [← eS_348] at hw
              have hO_349 : Ok MSH S S_348 := hO_322.sA eS_348 t_344 (by decide +kernel) (uA_354 hO_322.1 t_344)
              have h_350 : pA S_348 q_263 (Int32.toNatClampNeg (v_340)) = 5 := tA_sAs eS_348
              have zc_351 : zA S_289 x 1207 = zA S x 1207 := (zA_sAn eS_289 (ex3 (gQ_12_1207 hO_6.1 t_14)) h_17 rfl).trans zc_274
              have zc_352 : zA S_300 x 1207 = zA S x 1207 := (zA_sAn eS_300 (ex3 (gQ_12_1207 hO_290.1 t_295)) h_298 rfl).trans zc_351
              have zc_353 : zA S_321 x 1207 = zA S x 1207 := (zA_sAn eS_321 (ex3 (gQ_12_1207 hO_301.1 t_309)) h_312 rfl).trans zc_352
              have t_354 : pR S_348 1207 x = some q_263 := tR_sA eS_348 t_337
              have t_356 : pR S_321 1207 x = some q_263 := by have h := t_354; rw [eS_348, pR_sA] at h; exact h
              have zs_355 : ∀ j, zA S_348 x 1207 j = if j = (((60 * a3_z) + a4_z)).toNat then 5 else zA S_321 x 1207 j := by have h := zA_sAs eS_348 t_356 ti_5; rw [z_nc z_341 (by omega)] at h; exact h
              have zs_357 : ∀ j, zA S_348 x 1207 j = if j = (((60 * a3_z) + a4_z)).toNat then 5 else zA S x 1207 j := fun j => by rw [zs_355 j, zc_353]
              have zc_358 : zA S_300 x 1253 = zA S_289 x 1253 := zA_sAn eS_300 (ex3 (gQ_12_1253 hO_290.1 t_295)) h_298 rfl
              have zc_359 : zA S_321 x 1253 = zA S_289 x 1253 := (zA_sAn eS_321 (ex3 (gQ_12_1253 hO_301.1 t_309)) h_312 rfl).trans zc_358
              have zc_360 : zA S_348 x 1253 = zA S_289 x 1253 := (zA_sAn eS_348 (ex3 (gQ_12_1253 hO_322.1 t_334)) t_344 rfl).trans zc_359
              have zs_361 : ∀ j, zA S_348 x 1253 j = if j = (a1_z).toNat then 1 else zA S x 1253 j := fun j => by rw [zc_360]; exact zs_294 j
              have zc_362 : zA S_5 x 1254 = zA S x 1254 := zA_sI eS_5
              have zc_363 : zA S_289 x 1254 = zA S x 1254 := (zA_sAn eS_289 (ex3 (gQ_12_1254 hO_6.1 t_14)) h_17 rfl).trans zc_362
              have zc_364 : zA S_321 x 1254 = zA S_300 x 1254 := zA_sAn eS_321 (ex3 (gQ_12_1254 hO_301.1 t_309)) h_312 rfl
              have zc_365 : zA S_348 x 1254 = zA S_300 x 1254 := (zA_sAn eS_348 (ex3 (gQ_12_1254 hO_322.1 t_334)) t_344 rfl).trans zc_364
              have zs_366 : ∀ j, zA S_348 x 1254 j = if j = (a1_z).toNat then a2_z else zA S x 1254 j := fun j => by rw [zc_365]; exact zs_308 j
              have zc_367 : zA S_5 x 1255 = zA S x 1255 := zA_sI eS_5
              have zc_368 : zA S_289 x 1255 = zA S x 1255 := (zA_sAn eS_289 (ex3 (gQ_12_1255 hO_6.1 t_14)) h_17 rfl).trans zc_367
              have zc_369 : zA S_300 x 1255 = zA S x 1255 := (zA_sAn eS_300 (ex3 (gQ_12_1255 hO_290.1 t_295)) h_298 rfl).trans zc_368
              have zc_370 : zA S_348 x 1255 = zA S_321 x 1255 := zA_sAn eS_348 (ex3 (gQ_12_1255 hO_322.1 t_334)) t_344 rfl
              have zs_371 : ∀ j, zA S_348 x 1255 j = if j = (a1_z).toNat then ((60 * a3_z) + a4_z) else zA S x 1255 j := fun j => by rw [zc_370]; exact zs_330 j
              have zc_373 : zA S_289 x 1207 = zA S x 1207 := (zA_sAn eS_289 (ex3 (gQ_12_1207 hO_6.1 t_14)) h_17 rfl).trans zc_274
              have zc_374 : zA S_300 x 1207 = zA S x 1207 := (zA_sAn eS_300 (ex3 (gQ_12_1207 hO_290.1 t_295)) h_298 rfl).trans zc_373
              have zc_375 : zA S_321 x 1207 = zA S x 1207 := (zA_sAn eS_321 (ex3 (gQ_12_1207 hO_301.1 t_309)) h_312 rfl).trans zc_374
              have hla : ∀ j, zA S_348 x 1254 j = if j = (a1_z).toNat then 0 else zA S x 1254 j := fun j => by rw [zs_366 j]; split <;> omega
              have mi_372 : MI S_348 x := shelve_MI (p := (a1_z).toNat) (c := ((60 * a3_z) + a4_z)) hG ha_x hO_349.fr hp_0 (by omega) (by omega) (by omega) (by omega) zs_357 zs_361 hla zs_371
              refine lv_iload_n X.1 X.2.1 dX12_shelve_133 rfl (lv_at hl 2 rfl) ?_
              refine lv_iconst (v := 2) X.1 X.2.1 dX12_shelve_134 (by decide) ?_
              refine lv_icmp_ne (tgt := 174) X.1 X.2.1 dX12_shelve_135 (by decide) (fun c_376 => ?_) (fun c_376 => ?_)
              rotate_left
              · exfalso
                have k_377 : a2_z = 2 := z_eq hz_a2 ti_2 c_376
                omega
              have k_378 : a2_z ≠ 2 := z_ne hz_a2 ti_2 c_376
              refine lv_iconst (v := 1) X.1 X.2.1 dX12_shelve_174 (by decide) ?_
              have zs_379 : ∀ j, zA S_348 x 1253 j = if j = (a1_z).toNat then 1 else zA S x 1253 j := fun j => by rw [zc_360]; exact zs_294 j
              have zs_380 : ∀ j, zA S_348 x 1254 j = if j = (a1_z).toNat then a2_z else zA S x 1254 j := fun j => by rw [zc_365]; exact zs_308 j
              have zs_381 : ∀ j, zA S_348 x 1255 j = if j = (a1_z).toNat then ((60 * a3_z) + a4_z) else zA S x 1255 j := fun j => by rw [zc_370]; exact zs_330 j
              have zc_382 : zA S_5 x 1256 = zA S x 1256 := zA_sI eS_5
              have zc_383 : zA S_289 x 1256 = zA S x 1256 := (zA_sAn eS_289 (ex3 (gQ_12_1256 hO_6.1 t_14)) h_17 rfl).trans zc_382
              have zc_384 : zA S_300 x 1256 = zA S x 1256 := (zA_sAn eS_300 (ex3 (gQ_12_1256 hO_290.1 t_295)) h_298 rfl).trans zc_383
              have zc_385 : zA S_321 x 1256 = zA S x 1256 := (zA_sAn eS_321 (ex3 (gQ_12_1256 hO_301.1 t_309)) h_312 rfl).trans zc_384
              have zc_386 : zA S_348 x 1256 = zA S x 1256 := (zA_sAn eS_348 (ex3 (gQ_12_1256 hO_322.1 t_334)) t_344 rfl).trans zc_385
              rw [hQQ]
              exact ret_z X hw hr hlocks (Nat.le_of_ble_eq_true rfl) (Nat.le_of_ble_eq_true rfl) (by decide) ⟨hO_349, Or.inl ⟨⟨mi_372, ⟨by omega, by omega, by omega, Or.inl ⟨by omega, by omega, by omega, by omega, by omega, by omega⟩⟩, zs_379, (fun j => (zs_380 j).trans (by first | rfl | (split <;> first | rfl | omega))), (fun j => by rw [zs_381 j, if_pos (show a2_z = 0 by omega)]), (fun j => by rw [zs_357 j, if_pos (show a2_z = 0 by omega)]), (fun j => by rw [zc_386, if_neg (show ¬ a2_z = 2 by omega)])⟩, rfl⟩⟩ dX12_shelve_175
          · have z_b_387 := trivial
            have zc_388 : zA S_5 x 1202 = zA S x 1202 := zA_sI eS_5
            have zz_389 := congrFun zc_388 a3_z.toNat
            refine lv_if_eq (tgt := 79) X.1 X.2.1 dX12_shelve_46 (by decide) (fun c_390 => ?_) (fun c_390 => absurd c_390 (by decide))
            refine lv_iconst (v := 0) X.1 X.2.1 dX12_shelve_79 (by decide) ?_
            have mi_391 : MIe S_5 x (-1) := MIe_sI hp_0 hO.1 ha_x eS_5 (by decide +kernel)
            have zc_392 : zA S_5 x 1207 = zA S x 1207 := zA_sI eS_5
            have zc_393 : zA S_5 x 1254 = zA S x 1254 := zA_sI eS_5
            have zc_394 : zA S_5 x 1255 = zA S x 1255 := zA_sI eS_5
            have zc_395 : zA S_5 x 1256 = zA S x 1256 := zA_sI eS_5
            rw [hQQ]
            exact ret_z X hw hr hlocks (Nat.le_of_ble_eq_true rfl) (Nat.le_of_ble_eq_true rfl) (by decide) ⟨hO_6, Or.inr ⟨⟨mi_391, fun h => (by obtain ⟨h1, h2, h3, h4⟩ := h; have hz7 := congrFun zc_392 (60 * a3_z + a4_z).toNat; have hz53 := congrFun zc_22 (a1_z).toNat; rcases h4 with ⟨h5, h6, h7, h8, h9, h10⟩ | h5 | ⟨h5, h6, h7⟩ <;> omega), zc_392, zc_22, zc_393, zc_394, zc_395⟩, rfl⟩⟩ dX12_shelve_80
      · have z_b_396 := trivial
        refine lv_if_ne (tgt := 35) X.1 X.2.1 dX12_shelve_30 (by decide) (fun c_397 => absurd c_397 (by decide)) (fun c_397 => ?_)
        refine lv_iconst (v := 0) X.1 X.2.1 dX12_shelve_33 (by decide) ?_
        have mi_398 : MIe S_5 x (-1) := MIe_sI hp_0 hO.1 ha_x eS_5 (by decide +kernel)
        have zc_399 : zA S_5 x 1207 = zA S x 1207 := zA_sI eS_5
        have zc_400 : zA S_5 x 1254 = zA S x 1254 := zA_sI eS_5
        have zc_401 : zA S_5 x 1255 = zA S x 1255 := zA_sI eS_5
        have zc_402 : zA S_5 x 1256 = zA S x 1256 := zA_sI eS_5
        rw [hQQ]
        exact ret_z X hw hr hlocks (Nat.le_of_ble_eq_true rfl) (Nat.le_of_ble_eq_true rfl) (by decide) ⟨hO_6, Or.inr ⟨⟨mi_398, fun h => (by obtain ⟨h1, h2, h3, h4⟩ := h; have hz7 := congrFun zc_399 (60 * a3_z + a4_z).toNat; have hz53 := congrFun zc_22 (a1_z).toNat; rcases h4 with ⟨h5, h6, h7, h8, h9, h10⟩ | h5 | ⟨h5, h6, h7⟩ <;> omega), zc_399, zc_22, zc_400, zc_401, zc_402⟩, rfl⟩⟩ dX12_shelve_34
  · have z_b_403 := trivial
    refine lv_if_eq (tgt := 33) X.1 X.2.1 dX12_shelve_12 (by decide) (fun c_404 => ?_) (fun c_404 => absurd c_404 (by decide))
    refine lv_iconst (v := 0) X.1 X.2.1 dX12_shelve_33 (by decide) ?_
    have mi_405 : MIe S_5 x (-1) := MIe_sI hp_0 hO.1 ha_x eS_5 (by decide +kernel)
    have zc_406 : zA S_5 x 1207 = zA S x 1207 := zA_sI eS_5
    have zc_407 : zA S_5 x 1253 = zA S x 1253 := zA_sI eS_5
    have zc_408 : zA S_5 x 1254 = zA S x 1254 := zA_sI eS_5
    have zc_409 : zA S_5 x 1255 = zA S x 1255 := zA_sI eS_5
    have zc_410 : zA S_5 x 1256 = zA S x 1256 := zA_sI eS_5
    rw [hQQ]
    exact ret_z X hw hr hlocks (Nat.le_of_ble_eq_true rfl) (Nat.le_of_ble_eq_true rfl) (by decide) ⟨hO_6, Or.inr ⟨⟨mi_405, fun h => (by obtain ⟨h1, h2, h3, h4⟩ := h; have hz7 := congrFun zc_406 (60 * a3_z + a4_z).toNat; have hz53 := congrFun zc_407 (a1_z).toNat; rcases h4 with ⟨h5, h6, h7, h8, h9, h10⟩ | h5 | ⟨h5, h6, h7⟩ <;> omega), zc_406, zc_407, zc_408, zc_409, zc_410⟩, rfl⟩⟩ dX12_shelve_34
set_option maxHeartbeats 4000000 in
set_option maxRecDepth 100000 in
theorem k_X12_take3 (l : Launch) (G : va_G) (cy : Nat → ClassId) (κ : Nat → Nat) (S : PS) (sz : Nat) (x : Nat) (a1 : Int32) (a1_z : Int) (a2 : Int32) (a2_z : Int) (hG : GX S) (ha_x : At S x 12) (hz_a1 : a1.toInt = a1_z) (hz_a2 : a2.toInt = a2_z) (hp_0 : MI S x) : Ci l yX12_take wsX12_take ({ frames := 2, cells := 0, slots := 0, locals := 96 }) G cy κ S sz [.ref x, .int (a1), .int (a2)] (fun (r : Int32) (S9 : PS) => Ok MTA S S9 ∧ (MI S9 x ∧ (¬ (0 ≤ a1_z ∧ a1_z ≤ 15 ∧ 0 ≤ a2_z ∧ a2_z ≤ 2) → r.toInt = -1 ∧ zA S9 x 1207 = zA S x 1207 ∧ zA S9 x 1253 = zA S x 1253) ∧ (0 ≤ a1_z ∧ a1_z ≤ 15 ∧ 0 ≤ a2_z ∧ a2_z ≤ 2 → TkR S S9 x a1_z a2_z r.toInt))) := by
  refine ent_m (cc := cX12_take) (maxL := 5) (ret := (some .int)) (by decide) rfl (Nat.le_of_ble_eq_true rfl) ?_
  intro p e s m below meth c ls X hr hlocks hin hw hl hsz
  subst hsz
  have X : Cx p c cX12_take 5 s [.ref x, .int (a1), .int (a2)].toArray wsX12_take RX12 m G cy κ (AS S s.heap.size) := X
  have hl : lv_has ls 5 [(0, .ref x), (1, .int (a1)), (2, .int (a2))] := hl
  have rg_a1 : (-2147483648) ≤ a1_z ∧ a1_z ≤ 2147483647 := by rw [← hz_a1]; exact ⟨z_lo _, z_hi _⟩
  have rg_a2 : (-2147483648) ≤ a2_z ∧ a2_z ≤ 2147483647 := by rw [← hz_a2]; exact ⟨z_lo _, z_hi _⟩
  have hO : Ok MTA S S := Ok.rf hG
  generalize hQQ : MQ below _ _ _ _ _ _ = QQ
  replace hQQ := hQQ.symm
  obtain ⟨v_1, ev_1⟩ : ∃ v, pI S 1201 x = v := ⟨_, rfl⟩
  have rg_2 := gI_12_1201 hO.1 ha_x; rw [ev_1] at rg_2
  have pz_3 : (pI S 1201 x).toInt = v_1.toInt := (congrArg Int32.toInt ev_1).trans rfl
  refine lv_aload_n X.1 X.2.1 dX12_take_0 rfl (lv_at hl 0 rfl) ?_
  refine lv_iconst (v := 0) X.1 X.2.1 dX12_take_1 (by decide) ?_
  refine r_putI (v := 0) X hw ha_x rfl 0 1200 tyX12 (by decide) rfl inn_X12_take_12 tyX12_ok nmX12 (by decide) (X.2.2.2.1 (.fieldLink RX12 161 "SilkMillModel" "thrown" "I") (by decide +kernel)) rfl (Or.inl rfl) rfl rfl (Nat.le_of_ble_eq_true rfl) (st_1200 _ _) dX12_take_2 (fun H locs hw => ?_)
  obtain ⟨S_4, eS_4⟩ : ∃ T, T = sI S 1200 x (0) := ⟨_, rfl⟩
  rw [← eS_4] at hw
  have hO_5 : Ok MTA S S_4 := hO.sI eS_4 (by decide +kernel) (uI_12_1200 hO.1 ha_x)
  have h_6 : pI S_4 1200 x = 0 := tI_sIs eS_4
  refine lv_iload_n X.1 X.2.1 dX12_take_5 rfl (lv_at hl 1 rfl) ?_
  refine lv_iconst (v := 0) X.1 X.2.1 dX12_take_6 (by decide) ?_
  refine lv_bipush (v := 15) X.1 X.2.1 dX12_take_7 (by decide) ?_
  refine k_i (rm := { frames := 1, cells := 0, slots := 0, locals := 48 }) (av := [.int (a1), .int 0, .int 15]) X hw (va_runS (As := [.int (a1), .int 0, .int 15]) (rest := []) (cfix X) (k_X12_within l G cy κ S_4 _ (a1) (a1_z) (0) (0) (15) (15) hO_5.1 hz_a1 ti_0 ti_15) (cwS 3 X.2.2.2.1 gX12_take_X12_within rfl rfl rfl (by decide +kernel) ⟨Nat.le_of_ble_eq_true rfl, Nat.le_of_ble_eq_true rfl⟩) (pre_S X hw _) rfl rfl hl.1 rfl (lv_room (Nat.le_of_ble_eq_true rfl)) dX12_take_9 ⟨Nat.le_of_ble_eq_true rfl, Nat.le_of_ble_eq_true rfl⟩) 0 0 (Nat.le_of_ble_eq_true rfl) (Nat.le_of_ble_eq_true rfl) (fun rr_7 S_8 H locs hp hw hfr hnw => ?_)
  obtain ⟨e2, hp⟩ := hp
  subst e2
  rcases hp with ⟨f_9, er_10⟩ | ⟨f_9, er_10⟩ <;> subst er_10
  · have z_b_11 := trivial
    refine lv_if_eq (tgt := 24) X.1 X.2.1 dX12_take_12 (by decide) (fun c_12 => absurd c_12 (by decide)) (fun c_12 => ?_)
    refine lv_iload_n X.1 X.2.1 dX12_take_15 rfl (lv_at hl 2 rfl) ?_
    refine lv_iconst (v := 0) X.1 X.2.1 dX12_take_16 (by decide) ?_
    refine lv_iconst (v := 2) X.1 X.2.1 dX12_take_17 (by decide) ?_
    refine k_i (rm := { frames := 1, cells := 0, slots := 0, locals := 48 }) (av := [.int (a2), .int 0, .int 2]) X hw (va_runS (As := [.int (a2), .int 0, .int 2]) (rest := []) (cfix X) (k_X12_within l G cy κ S_4 _ (a2) (a2_z) (0) (0) (2) (2) hO_5.1 hz_a2 ti_0 ti_2) (cwS 3 X.2.2.2.1 gX12_take_X12_within rfl rfl rfl (by decide +kernel) ⟨Nat.le_of_ble_eq_true rfl, Nat.le_of_ble_eq_true rfl⟩) (pre_S X hw _) rfl rfl hl.1 rfl (lv_room (Nat.le_of_ble_eq_true rfl)) dX12_take_18 ⟨Nat.le_of_ble_eq_true rfl, Nat.le_of_ble_eq_true rfl⟩) 0 0 (Nat.le_of_ble_eq_true rfl) (Nat.le_of_ble_eq_true rfl) (fun rr_13 S_14 H locs hp hw hfr hnw => ?_)
    obtain ⟨e2, hp⟩ := hp
    subst e2
    rcases hp with ⟨f_15, er_16⟩ | ⟨f_15, er_16⟩ <;> subst er_16
    · have z_b_17 := trivial
      refine lv_if_ne (tgt := 26) X.1 X.2.1 dX12_take_21 (by decide) (fun c_18 => ?_) (fun c_18 => absurd c_18 (by decide))
      refine lv_aload_n X.1 X.2.1 dX12_take_26 rfl (lv_at hl 0 rfl) ?_
      have t_19 : At S_4 x 12 := tAt_sI eS_4 ha_x
      obtain ⟨q_20, h_21, h_22, h_23⟩ := gQ_12_1253 hO_5.1 t_19
      refine r_getR (g := 1253) X hw t_19 rfl 53 h_21 (by decide) rfl inn_X12_take_12 (by decide) (X.2.2.2.1 (.fieldLink RX12 125 "SilkMillModel" "isLaid" "[Z") (by decide +kernel)) rfl (gv_1253 _ _) dX12_take_27 ?_
      refine lv_iload_n X.1 X.2.1 dX12_take_30 rfl (lv_at hl 1 rfl) ?_
      refine r_zald X hw h_22 rfl (by rw [h_23]; exact z_ix hz_a1 (by omega) (by omega)) dX12_take_31 ?_
      refine lv_topi (fun v_24 ev_24 => ?_)
      have rg_25 := And.intro (z_lo v_24) (z_hi v_24)
      have ev_24 := ev_24.symm
      have zf_26 : zA S_4 x 1253 (a1_z).toNat = v_24.toInt := (zA_of h_21 hz_a1 (by omega) ev_24)
      have zc_27 : zA S_4 x 1253 = zA S x 1253 := zA_sI eS_4
      have zz_28 := congrFun zc_27 ((a1_z).toNat)
      refine lv_if_ne (tgt := 38) X.1 X.2.1 dX12_take_32 (by decide) (fun c_29 => ?_) (fun c_29 => ?_)
      · have z_b_30 := trivial
        have k_31 : v_24.toInt ≠ 0 := z_ne rfl ti_0 c_29
        refine lv_aload_n X.1 X.2.1 dX12_take_38 rfl (lv_at hl 0 rfl) ?_
        obtain ⟨q_32, h_33, h_34, h_35⟩ := gQ_12_1254 hO_5.1 t_19
        refine r_getR (g := 1254) X hw t_19 rfl 54 h_33 (by decide) rfl inn_X12_take_12 (by decide) (X.2.2.2.1 (.fieldLink RX12 128 "SilkMillModel" "laid" "[I") (by decide +kernel)) rfl (gv_1254 _ _) dX12_take_39 ?_
        refine lv_iload_n X.1 X.2.1 dX12_take_42 rfl (lv_at hl 1 rfl) ?_
        refine r_iald X hw h_34 rfl (by rw [h_35]; exact z_ix hz_a1 (by omega) (by omega)) dX12_take_43 ?_
        refine lv_topi (fun v_36 ev_36 => ?_)
        have rg_37 := And.intro (z_lo v_36) (z_hi v_36)
        have ev_36 := ev_36.symm
        have zf_38 : zA S_4 x 1254 (a1_z).toNat = v_36.toInt := (zA_of h_33 hz_a1 (by omega) ev_36)
        have zc_39 : zA S_4 x 1254 = zA S x 1254 := zA_sI eS_4
        have zz_40 := congrFun zc_39 ((a1_z).toNat)
        refine lv_iload_n X.1 X.2.1 dX12_take_44 rfl (lv_at hl 2 rfl) ?_
        refine lv_icmp_eq (tgt := 51) X.1 X.2.1 dX12_take_45 (by decide) (fun c_41 => ?_) (fun c_41 => ?_)
        · have z_b_42 := trivial
          have k_43 : v_36.toInt = a2_z := z_eq rfl hz_a2 c_41
          refine lv_iload_n X.1 X.2.1 dX12_take_51 rfl (lv_at hl 2 rfl) ?_
          refine lv_iconst (v := 2) X.1 X.2.1 dX12_take_52 (by decide) ?_
          refine lv_icmp_ne (tgt := 68) X.1 X.2.1 dX12_take_53 (by decide) (fun c_44 => ?_) (fun c_44 => ?_)
          · have z_b_45 := trivial
            have k_46 : a2_z ≠ 2 := z_ne hz_a2 ti_2 c_44
            refine lv_aload_n X.1 X.2.1 dX12_take_68 rfl (lv_at hl 0 rfl) ?_
            refine r_getR (g := 1253) X hw t_19 rfl 53 h_21 (by decide) rfl inn_X12_take_12 (by decide) (X.2.2.2.1 (.fieldLink RX12 125 "SilkMillModel" "isLaid" "[Z") (by decide +kernel)) rfl (gv_1253 _ _) dX12_take_69 ?_
            refine lv_iload_n X.1 X.2.1 dX12_take_72 rfl (lv_at hl 1 rfl) ?_
            refine lv_iconst (v := 0) X.1 X.2.1 dX12_take_73 (by decide) ?_
            refine r_zast X hw h_22 rfl (by rw [h_23]; exact z_ix hz_a1 (by omega) (by omega)) dX12_take_74 (fun H locs hw => ?_)
            obtain ⟨S_47, eS_47⟩ : ∃ T, T = sA S_4 q_20 (upd (pA S_4 q_20) (Int32.toNatClampNeg (a1)) (vp_nar .boolean (0))) := ⟨_, rfl⟩
            rw [← eS_47] at hw
            have hO_48 : Ok MTA S S_47 := hO_5.sA eS_47 h_22 (by decide +kernel) (uA_1275 hO_5.1 h_22)
            have t_49 : pR S_47 1253 x = some q_20 := tR_sA eS_47 h_21
            have t_51 : pR S_4 1253 x = some q_20 := by have h := t_49; rw [eS_47, pR_sA] at h; exact h
            have zs_50 : ∀ j, zA S_47 x 1253 j = if j = (a1_z).toNat then 0 else zA S_4 x 1253 j := by have h := zA_sAs eS_47 t_51 nar0; rw [z_nc hz_a1 (by omega)] at h; exact h
            have zs_52 : ∀ j, zA S_47 x 1253 j = if j = (a1_z).toNat then 0 else zA S x 1253 j := fun j => by rw [zs_50 j, zc_27]
            have hm_53 : Ok MSH S S_47 := ⟨hO_48.1, hO_48.2.1.mono (by decide +kernel), hO_48.2.2⟩
            have zc_54 : zA S_4 x 1207 = zA S x 1207 := zA_sI eS_4
            have zc_55 : zA S_47 x 1207 = zA S x 1207 := (zA_sAn eS_47 (ex3 (gQ_12_1207 hO_5.1 t_19)) h_22 rfl).trans zc_54
            have zc_56 : zA S_47 x 1254 = zA S x 1254 := (zA_sAn eS_47 (ex3 (gQ_12_1254 hO_5.1 t_19)) h_22 rfl).trans zc_39
            have zc_57 : zA S_4 x 1255 = zA S x 1255 := zA_sI eS_4
            have zc_58 : zA S_47 x 1255 = zA S x 1255 := (zA_sAn eS_47 (ex3 (gQ_12_1255 hO_5.1 t_19)) h_22 rfl).trans zc_57
            have mi_59 : MI S_47 x := lay_MI (p := (a1_z).toNat) hG ha_x hm_53.fr hp_0 zc_55 (fun j hj => by rw [zs_52 j, if_neg hj]) (fun j _ => congrFun zc_56 j) (fun j _ => congrFun zc_58 j) (Or.inl (by rw [zs_52, if_pos rfl]))
            refine lv_iload_n X.1 X.2.1 dX12_take_75 rfl (lv_at hl 2 rfl) ?_
            refine lv_iconst (v := 1) X.1 X.2.1 dX12_take_76 (by decide) ?_
            refine lv_icmp_ne (tgt := 87) X.1 X.2.1 dX12_take_77 (by decide) (fun c_60 => ?_) (fun c_60 => ?_)
            · have z_b_61 := trivial
              have k_62 : a2_z ≠ 1 := z_ne hz_a2 ti_1 c_60
              refine lv_iload_n X.1 X.2.1 dX12_take_87 rfl (lv_at hl 2 rfl) ?_
              refine lv_if_ne (tgt := 126) X.1 X.2.1 dX12_take_88 (by decide) (fun c_63 => ?_) (fun c_63 => ?_)
              · exfalso
                have k_64 : a2_z ≠ 0 := z_ne hz_a2 ti_0 c_63
                omega
              have k_65 : a2_z = 0 := z_eq hz_a2 ti_0 c_63
              refine lv_aload_n X.1 X.2.1 dX12_take_91 rfl (lv_at hl 0 rfl) ?_
              have t_66 : At S_47 x 12 := tAt_sA eS_47 t_19
              obtain ⟨q_67, h_68, h_69, h_70⟩ := gQ_12_1207 hO_48.1 t_66
              refine r_getR (g := 1207) X hw t_66 rfl 7 h_68 (by decide) rfl inn_X12_take_12 (by decide) (X.2.2.2.1 (.fieldLink RX12 25 "SilkMillModel" "stand" "[I") (by decide +kernel)) rfl (gv_1207 _ _) dX12_take_92 ?_
              refine lv_aload_n X.1 X.2.1 dX12_take_95 rfl (lv_at hl 0 rfl) ?_
              obtain ⟨q_71, h_72, h_73, h_74⟩ := gQ_12_1255 hO_48.1 t_66
              refine r_getR (g := 1255) X hw t_66 rfl 55 h_72 (by decide) rfl inn_X12_take_12 (by decide) (X.2.2.2.1 (.fieldLink RX12 131 "SilkMillModel" "laidValue" "[I") (by decide +kernel)) rfl (gv_1255 _ _) dX12_take_96 ?_
              refine lv_iload_n X.1 X.2.1 dX12_take_99 rfl (lv_at hl 1 rfl) ?_
              refine r_iald X hw h_73 rfl (by rw [h_74]; exact z_ix hz_a1 (by omega) (by omega)) dX12_take_100 ?_
              refine lv_topi (fun v_75 ev_75 => ?_)
              have rg_76 := And.intro (z_lo v_75) (z_hi v_75)
              have ev_75 := ev_75.symm
              have zf_77 : zA S_47 x 1255 (a1_z).toNat = v_75.toInt := (zA_of h_72 hz_a1 (by omega) ev_75)
              have hlv : zA S x 1255 (a1_z).toNat = v_75.toInt := (congrFun zc_58 _).symm.trans zf_77
              obtain ⟨tf1, tf2, tf3, tf4, tf5⟩ := take_free (p := (a1_z).toNat) hp_0 (by omega) (by omega) (by omega) hlv
              have zc_78 : zA S_4 x 1218 = zA S x 1218 := zA_sI eS_4
              have zc_79 : zA S_47 x 1218 = zA S x 1218 := (zA_sAn eS_47 (ex3 (gQ_12_1218 hO_5.1 t_19)) h_22 rfl).trans zc_78
              have zc_80 : zA S_4 x 1219 = zA S x 1219 := zA_sI eS_4
              have zc_81 : zA S_47 x 1219 = zA S x 1219 := (zA_sAn eS_47 (ex3 (gQ_12_1219 hO_5.1 t_19)) h_22 rfl).trans zc_80
              have hfre : Fre S_47 x v_75.toInt := take_fre zs_52 zc_56 zc_58 zc_79 zc_81 tf4 tf5
              have tf6 : zA S_47 x 1207 (v_75.toInt).toNat = 5 := (congrFun zc_55 _).trans tf3
              have t_82 : pI S_4 1201 x = v_1 := tI_sI eS_4 rfl ev_1
              have t_83 : pI S_47 1201 x = v_1 := tI_sA eS_47 t_82
              have pz_84 : (pI S_47 1201 x).toInt = v_1.toInt := (congrArg Int32.toInt t_83).trans rfl
              have hal := ((MI_1 mi_59 (c := v_75.toInt) (by omega) (by omega)).2 (by omega)).2 (by omega) (by omega)
              refine lv_iconst (v := 0) X.1 X.2.1 dX12_take_101 (by decide) ?_
              refine r_iast X hw h_69 rfl (by rw [h_70]; exact z_ix rfl (by omega) (by omega)) dX12_take_102 (fun H locs hw => ?_)
              obtain ⟨S_85, eS_85⟩ : ∃ T, T = sA S_47 q_67 (upd (pA S_47 q_67) (Int32.toNatClampNeg (v_75)) (0)) := ⟨_, rfl⟩
              rw [← eS_85] at hw
              have hO_86 : Ok MTA S S_85 := hO_48.sA eS_85 h_69 (by decide +kernel) (uA_354 hO_48.1 h_69)
              have h_87 : pA S_85 q_67 (Int32.toNatClampNeg (v_75)) = 0 := tA_sAs eS_85
              have t_88 : pR S_85 1207 x = some q_67 := tR_sA eS_85 h_68
              have t_90 : pR S_47 1207 x = some q_67 := by have h := t_88; rw [eS_85, pR_sA] at h; exact h
              have zs_89 : ∀ j, zA S_85 x 1207 j = if j = (v_75.toInt).toNat then 0 else zA S_47 x 1207 j := by have h := zA_sAs eS_85 t_90 ti_0; rw [z_nc rfl (by omega)] at h; exact h
              have mi_91 : MIe S_85 x (-1) := stand_MI (c := v_75.toInt) hO_48.1 t_66 (show Fr [10354] S_47 S_85 by rw [eS_85]; exact Fr_sA h_69 List.mem_cons_self) mi_59 (by omega) (by omega) hfre zs_89 (Or.inr (Or.inr hal))
              have t_93 : pR S_47 1207 x = some q_67 := by have h := t_88; rw [eS_85, pR_sA] at h; exact h
              have zs_92 : ∀ j, zA S_85 x 1207 j = if j = (v_75.toInt).toNat then 0 else zA S_47 x 1207 j := by have h := zA_sAs eS_85 t_93 ti_0; rw [z_nc rfl (by omega)] at h; exact h
              refine lv_aload_n X.1 X.2.1 dX12_take_103 rfl (lv_at hl 0 rfl) ?_
              have t_94 : At S_85 x 12 := tAt_sA eS_85 t_66
              have t_95 : pR S_85 1255 x = some q_71 := tR_sA eS_85 h_72
              refine r_getR (g := 1255) X hw t_94 rfl 55 t_95 (by decide) rfl inn_X12_take_12 (by decide) (X.2.2.2.1 (.fieldLink RX12 131 "SilkMillModel" "laidValue" "[I") (by decide +kernel)) rfl (gv_1255 _ _) dX12_take_104 ?_
              refine lv_iload_n X.1 X.2.1 dX12_take_107 rfl (lv_at hl 1 rfl) ?_
              have t_96 : At S_85 q_71 1314 := tAt_sA eS_85 h_73
              have t_97 : pN S_85 q_71 = 16 := tN_sA eS_85 h_74
              clear h_74
              refine r_iald X hw t_96 rfl (by rw [t_97]; exact z_ix hz_a1 (by omega) (by omega)) dX12_take_108 ?_
              have t_98 : pA S_85 q_71 (Int32.toNatClampNeg (a1)) = v_75 := tA_sA eS_85 (At_ne h_73 h_69 (by decide)) ev_75
              rw [t_98]
              refine lv_bipush (v := 60) X.1 X.2.1 dX12_take_109 (by decide) ?_
              refine lv_idiv X.1 X.2.1 dX12_take_111 (by decide) ?_
              refine lv_topi (fun v_99 ev_99 => ?_)
              have z_100 : v_99.toInt = v_75.toInt / 60 := z_div ev_99 rfl ti_60 (by omega) (by omega)
              refine lv_bipush (v := 100) X.1 X.2.1 dX12_take_112 (by decide) ?_
              refine lv_imul X.1 X.2.1 dX12_take_114 ?_
              refine lv_topi (fun v_101 ev_101 => ?_)
              have z_102 : v_101.toInt = (v_75.toInt / 60) * 100 := z_mul ev_101 z_100 ti_100 (by omega) (by omega)
              refine lv_aload_n X.1 X.2.1 dX12_take_115 rfl (lv_at hl 0 rfl) ?_
              refine r_getR (g := 1255) X hw t_94 rfl 55 t_95 (by decide) rfl inn_X12_take_12 (by decide) (X.2.2.2.1 (.fieldLink RX12 131 "SilkMillModel" "laidValue" "[I") (by decide +kernel)) rfl (gv_1255 _ _) dX12_take_116 ?_
              refine lv_iload_n X.1 X.2.1 dX12_take_119 rfl (lv_at hl 1 rfl) ?_
              refine r_iald X hw t_96 rfl (by rw [t_97]; exact z_ix hz_a1 (by omega) (by omega)) dX12_take_120 ?_
              rw [t_98]
              refine lv_bipush (v := 60) X.1 X.2.1 dX12_take_121 (by decide) ?_
              refine lv_irem X.1 X.2.1 dX12_take_123 (by decide) ?_
              refine lv_topi (fun v_103 ev_103 => ?_)
              have z_104 : v_103.toInt = v_75.toInt % 60 := z_rem ev_103 rfl ti_60 (by omega) (by omega)
              have z_105 : 0 ≤ v_103.toInt ∧ v_103.toInt < 60 := by rw [z_104]; exact ⟨Int.emod_nonneg _ (by omega), Int.emod_lt_of_pos _ (by omega)⟩
              refine lv_iadd X.1 X.2.1 dX12_take_124 ?_
              refine lv_topi (fun v_106 ev_106 => ?_)
              have z_107 : v_106.toInt = ((v_75.toInt / 60) * 100) + (v_75.toInt % 60) := z_add ev_106 z_102 z_104 (by omega) (by omega)
              have zc_108 : zA S_85 x 1253 = zA S_47 x 1253 := zA_sAn eS_85 (ex3 (gQ_12_1253 hO_48.1 t_66)) h_69 rfl
              have zs_109 : ∀ j, zA S_85 x 1253 j = if j = (a1_z).toNat then 0 else zA S x 1253 j := fun j => by rw [zc_108]; exact zs_52 j
              rw [hQQ]
              exact ret_i X hw hr hlocks (Nat.le_of_ble_eq_true rfl) (Nat.le_of_ble_eq_true rfl) ⟨hO_86, ⟨mi_91, fun h => by exfalso; omega, fun _ => Or.inr (Or.inr (Or.inr (Or.inr (Or.inr ⟨by omega, by omega, by omega, by rw [hlv]; omega, by rw [hlv]; exact (fun j => by rw [zs_92 j, zc_55]), zs_109⟩))))⟩⟩ dX12_take_125
            · have z_b_110 := trivial
              have k_111 : a2_z = 1 := z_eq hz_a2 ti_1 c_60
              refine lv_aload_n X.1 X.2.1 dX12_take_80 rfl (lv_at hl 0 rfl) ?_
              have t_112 : At S_47 x 12 := tAt_sA eS_47 t_19
              obtain ⟨q_113, h_114, h_115, h_116⟩ := gQ_12_1255 hO_48.1 t_112
              refine r_getR (g := 1255) X hw t_112 rfl 55 h_114 (by decide) rfl inn_X12_take_12 (by decide) (X.2.2.2.1 (.fieldLink RX12 131 "SilkMillModel" "laidValue" "[I") (by decide +kernel)) rfl (gv_1255 _ _) dX12_take_81 ?_
              refine lv_iload_n X.1 X.2.1 dX12_take_84 rfl (lv_at hl 1 rfl) ?_
              refine r_iald X hw h_115 rfl (by rw [h_116]; exact z_ix hz_a1 (by omega) (by omega)) dX12_take_85 ?_
              refine lv_topi (fun v_117 ev_117 => ?_)
              have rg_118 := And.intro (z_lo v_117) (z_hi v_117)
              have ev_117 := ev_117.symm
              have zf_119 : zA S_47 x 1255 (a1_z).toNat = v_117.toInt := (zA_of h_114 hz_a1 (by omega) ev_117)
              have zz_120 := congrFun zc_58 (a1_z).toNat
              rw [hQQ]
              exact ret_i X hw hr hlocks (Nat.le_of_ble_eq_true rfl) (Nat.le_of_ble_eq_true rfl) ⟨hO_48, ⟨mi_59, fun h => by exfalso; omega, fun _ => Or.inr (Or.inr (Or.inr (Or.inr (Or.inl ⟨by omega, by omega, by omega, by omega, zc_55, zs_52⟩))))⟩⟩ dX12_take_86
          · have z_b_121 := trivial
            have k_122 : a2_z = 2 := z_eq hz_a2 ti_2 c_44
            refine lv_aload_n X.1 X.2.1 dX12_take_56 rfl (lv_at hl 0 rfl) ?_
            obtain ⟨q_123, h_124, h_125, h_126⟩ := gQ_12_1256 hO_5.1 t_19
            refine r_getR (g := 1256) X hw t_19 rfl 56 h_124 (by decide) rfl inn_X12_take_12 (by decide) (X.2.2.2.1 (.fieldLink RX12 134 "SilkMillModel" "wordMany" "[I") (by decide +kernel)) rfl (gv_1256 _ _) dX12_take_57 ?_
            refine lv_iload_n X.1 X.2.1 dX12_take_60 rfl (lv_at hl 1 rfl) ?_
            refine r_iald X hw h_125 rfl (by rw [h_126]; exact z_ix hz_a1 (by omega) (by omega)) dX12_take_61 ?_
            refine lv_topi (fun v_127 ev_127 => ?_)
            have z_128 := gE_1334 hO_5.1 h_125 (Int32.toNatClampNeg (a1)); rw [← ev_127] at z_128
            have ev_127 := ev_127.symm
            have zf_129 : zA S_4 x 1256 (a1_z).toNat = v_127.toInt := (zA_of h_124 hz_a1 (by omega) ev_127)
            have zc_130 : zA S_4 x 1256 = zA S x 1256 := zA_sI eS_4
            have zz_131 := congrFun zc_130 ((a1_z).toNat)
            refine lv_if_ne (tgt := 68) X.1 X.2.1 dX12_take_62 (by decide) (fun c_132 => ?_) (fun c_132 => ?_)
            · have z_b_133 := trivial
              have k_134 : v_127.toInt ≠ 0 := z_ne rfl ti_0 c_132
              refine lv_aload_n X.1 X.2.1 dX12_take_68 rfl (lv_at hl 0 rfl) ?_
              refine r_getR (g := 1253) X hw t_19 rfl 53 h_21 (by decide) rfl inn_X12_take_12 (by decide) (X.2.2.2.1 (.fieldLink RX12 125 "SilkMillModel" "isLaid" "[Z") (by decide +kernel)) rfl (gv_1253 _ _) dX12_take_69 ?_
              refine lv_iload_n X.1 X.2.1 dX12_take_72 rfl (lv_at hl 1 rfl) ?_
              refine lv_iconst (v := 0) X.1 X.2.1 dX12_take_73 (by decide) ?_
              refine r_zast X hw h_22 rfl (by rw [h_23]; exact z_ix hz_a1 (by omega) (by omega)) dX12_take_74 (fun H locs hw => ?_)
              obtain ⟨S_135, eS_135⟩ : ∃ T, T = sA S_4 q_20 (upd (pA S_4 q_20) (Int32.toNatClampNeg (a1)) (vp_nar .boolean (0))) := ⟨_, rfl⟩
              rw [← eS_135] at hw
              have hO_136 : Ok MTA S S_135 := hO_5.sA eS_135 h_22 (by decide +kernel) (uA_1275 hO_5.1 h_22)
              have t_137 : pR S_135 1253 x = some q_20 := tR_sA eS_135 h_21
              have t_139 : pR S_4 1253 x = some q_20 := by have h := t_137; rw [eS_135, pR_sA] at h; exact h
              have zs_138 : ∀ j, zA S_135 x 1253 j = if j = (a1_z).toNat then 0 else zA S_4 x 1253 j := by have h := zA_sAs eS_135 t_139 nar0; rw [z_nc hz_a1 (by omega)] at h; exact h
              have zs_140 : ∀ j, zA S_135 x 1253 j = if j = (a1_z).toNat then 0 else zA S x 1253 j := fun j => by rw [zs_138 j, zc_27]
              have hm_141 : Ok MSH S S_135 := ⟨hO_136.1, hO_136.2.1.mono (by decide +kernel), hO_136.2.2⟩
              have zc_142 : zA S_4 x 1207 = zA S x 1207 := zA_sI eS_4
              have zc_143 : zA S_135 x 1207 = zA S x 1207 := (zA_sAn eS_135 (ex3 (gQ_12_1207 hO_5.1 t_19)) h_22 rfl).trans zc_142
              have zc_144 : zA S_135 x 1254 = zA S x 1254 := (zA_sAn eS_135 (ex3 (gQ_12_1254 hO_5.1 t_19)) h_22 rfl).trans zc_39
              have zc_145 : zA S_4 x 1255 = zA S x 1255 := zA_sI eS_4
              have zc_146 : zA S_135 x 1255 = zA S x 1255 := (zA_sAn eS_135 (ex3 (gQ_12_1255 hO_5.1 t_19)) h_22 rfl).trans zc_145
              have mi_147 : MI S_135 x := lay_MI (p := (a1_z).toNat) hG ha_x hm_141.fr hp_0 zc_143 (fun j hj => by rw [zs_140 j, if_neg hj]) (fun j _ => congrFun zc_144 j) (fun j _ => congrFun zc_146 j) (Or.inl (by rw [zs_140, if_pos rfl]))
              refine lv_iload_n X.1 X.2.1 dX12_take_75 rfl (lv_at hl 2 rfl) ?_
              refine lv_iconst (v := 1) X.1 X.2.1 dX12_take_76 (by decide) ?_
              refine lv_icmp_ne (tgt := 87) X.1 X.2.1 dX12_take_77 (by decide) (fun c_148 => ?_) (fun c_148 => ?_)
              rotate_left
              · exfalso
                have k_149 : a2_z = 1 := z_eq hz_a2 ti_1 c_148
                omega
              have k_150 : a2_z ≠ 1 := z_ne hz_a2 ti_1 c_148
              refine lv_iload_n X.1 X.2.1 dX12_take_87 rfl (lv_at hl 2 rfl) ?_
              refine lv_if_ne (tgt := 126) X.1 X.2.1 dX12_take_88 (by decide) (fun c_151 => ?_) (fun c_151 => ?_)
              rotate_left
              · exfalso
                have k_152 : a2_z = 0 := z_eq hz_a2 ti_0 c_151
                omega
              have k_153 : a2_z ≠ 0 := z_ne hz_a2 ti_0 c_151
              refine lv_iconst (v := 0) X.1 X.2.1 dX12_take_126 (by decide) ?_
              refine lv_istore_n (lv' := [(3, .int 0), (0, .ref x), (1, .int (a1)), (2, .int (a2))]) X.1 X.2.1 dX12_take_127 rfl hl (by decide) rfl (fun ls hl => ?_)
              refine lv_iconst (v := 0) X.1 X.2.1 dX12_take_128 (by decide) ?_
              refine lv_istore (lv' := [(4, .int 0), (3, .int 0), (0, .ref x), (1, .int (a1)), (2, .int (a2))]) X.1 X.2.1 dX12_take_129 hl (by decide) rfl (fun ls hl => ?_)
              have L_154 : ∀ (n : Nat) (H : Heap) (locs : List Loc) (ls : Array Slot) (i3_155 : Int32) (i3_155_z : Int) (i4_156 : Int32) (i4_156_z : Int), ((8 - i4_156_z).toNat = n) → (Wd G cy (AS S s.heap.size) s.heap S_135 H locs) → (i3_155.toInt = i3_155_z) → (i4_156.toInt = i4_156_z) → (0 ≤ i4_156_z ∧ i4_156_z ≤ 8) → (lv_has ls 5 [(3, .int (i3_155)), (4, .int (i4_156)), (0, .ref x), (1, .int (a1)), (2, .int (a2))]) → W p l e ({ frames := 2, cells := 0, slots := 0, locals := 96 }) s m [.ref x, .int (a1), .int (a2)].toArray below meth c H locs 0 0 QQ (F0 m 131 ls []) := by
                intro n
                induction n using Nat.strongRecOn with
                | ind n ih_L_154 =>
                intro H locs ls i3_155 i3_155_z i4_156 i4_156_z hn hw hz_i3_155 hz_i4_156 hr_i4_156 hl
                have rg_157 : (-2147483648) ≤ i3_155_z ∧ i3_155_z ≤ 2147483647 := by rw [← hz_i3_155]; exact ⟨z_lo _, z_hi _⟩
                have rg_158 : (-2147483648) ≤ i4_156_z ∧ i4_156_z ≤ 2147483647 := by rw [← hz_i4_156]; exact ⟨z_lo _, z_hi _⟩
                refine lv_iload X.1 X.2.1 dX12_take_131 (lv_at hl 1 rfl) ?_
                refine lv_aload_n X.1 X.2.1 dX12_take_133 rfl (lv_at hl 2 rfl) ?_
                have t_159 : At S_135 x 12 := tAt_sA eS_135 t_19
                have t_160 : pR S_135 1256 x = some q_123 := tR_sA eS_135 h_124
                refine r_getR (g := 1256) X hw t_159 rfl 56 t_160 (by decide) rfl inn_X12_take_12 (by decide) (X.2.2.2.1 (.fieldLink RX12 134 "SilkMillModel" "wordMany" "[I") (by decide +kernel)) rfl (gv_1256 _ _) dX12_take_134 ?_
                refine lv_iload_n X.1 X.2.1 dX12_take_137 rfl (lv_at hl 3 rfl) ?_
                have t_161 : At S_135 q_123 1334 := tAt_sA eS_135 h_125
                have t_162 : pN S_135 q_123 = 16 := tN_sA eS_135 h_126
                clear h_126
                refine r_iald X hw t_161 rfl (by rw [t_162]; exact z_ix hz_a1 (by omega) (by omega)) dX12_take_138 ?_
                have t_163 : pA S_135 q_123 (Int32.toNatClampNeg (a1)) = v_127 := tA_sA eS_135 (At_ne h_125 h_22 (by decide)) ev_127
                rw [t_163]
                refine lv_icmp_ge (tgt := 163) X.1 X.2.1 dX12_take_139 (by decide) (fun c_164 => ?_) (fun c_164 => ?_)
                · have z_b_165 := trivial
                  have k_166 : i4_156_z ≥ v_127.toInt := z_le rfl hz_i4_156 c_164
                  refine lv_iload_n X.1 X.2.1 dX12_take_163 rfl (lv_at hl 0 rfl) ?_
                  rw [hQQ]
                  exact ret_i X hw hr hlocks (Nat.le_of_ble_eq_true rfl) (Nat.le_of_ble_eq_true rfl) ⟨hO_136, ⟨mi_147, fun h => by exfalso; omega, fun _ => Or.inr (Or.inr (Or.inr (Or.inl ⟨by omega, by omega, by omega, by omega, zc_143, zs_140⟩)))⟩⟩ dX12_take_164
                · have z_b_167 := trivial
                  have k_168 : i4_156_z < v_127.toInt := z_nle rfl hz_i4_156 c_164
                  refine lv_iload_n X.1 X.2.1 dX12_take_142 rfl (lv_at hl 0 rfl) ?_
                  refine lv_aload_n X.1 X.2.1 dX12_take_143 rfl (lv_at hl 2 rfl) ?_
                  obtain ⟨q_169, h_170, h_171, h_172⟩ := gQ_12_1257 hO_136.1 t_159
                  refine r_getR (g := 1257) X hw t_159 rfl 57 h_170 (by decide) rfl inn_X12_take_12 (by decide) (X.2.2.2.1 (.fieldLink RX12 137 "SilkMillModel" "wordOf" "[I") (by decide +kernel)) rfl (gv_1257 _ _) dX12_take_144 ?_
                  refine lv_bipush (v := 8) X.1 X.2.1 dX12_take_147 (by decide) ?_
                  refine lv_iload_n X.1 X.2.1 dX12_take_149 rfl (lv_at hl 3 rfl) ?_
                  refine lv_imul X.1 X.2.1 dX12_take_150 ?_
                  refine lv_topi (fun v_173 ev_173 => ?_)
                  have z_174 : v_173.toInt = 8 * a1_z := z_mul ev_173 ti_8 hz_a1 (by omega) (by omega)
                  refine lv_iload X.1 X.2.1 dX12_take_151 (lv_at hl 1 rfl) ?_
                  refine lv_iadd X.1 X.2.1 dX12_take_153 ?_
                  refine lv_topi (fun v_175 ev_175 => ?_)
                  have z_176 : v_175.toInt = (8 * a1_z) + i4_156_z := z_add ev_175 z_174 hz_i4_156 (by omega) (by omega)
                  refine r_iald X hw h_171 rfl (by rw [h_172]; exact z_ix z_176 (by omega) (by omega)) dX12_take_154 ?_
                  refine lv_topi (fun v_177 ev_177 => ?_)
                  have rg_178 := And.intro (z_lo v_177) (z_hi v_177)
                  have ev_177 := ev_177.symm
                  refine lv_iadd X.1 X.2.1 dX12_take_155 ?_
                  refine lv_topi (fun v_179 ev_179 => ?_)
                  have rg_180 := And.intro (z_lo v_179) (z_hi v_179)
                  refine lv_istore_n (lv' := [(3, .int (v_179)), (4, .int (i4_156)), (0, .ref x), (1, .int (a1)), (2, .int (a2))]) X.1 X.2.1 dX12_take_156 rfl hl (by decide) rfl (fun ls hl => ?_)
                  obtain ⟨x_181, ex_181⟩ : ∃ y : Int32, y = i4_156 + 1 := ⟨_, rfl⟩
                  have z_182 : x_181.toInt = i4_156_z + 1 := z_add ex_181 hz_i4_156 ti_1 (by omega) (by omega)
                  refine lv_iinc (v := x_181) (lv' := [(4, .int (x_181)), (3, .int (v_179)), (0, .ref x), (1, .int (a1)), (2, .int (a2))]) X.1 X.2.1 dX12_take_157 hl (k := 1) rfl (by rw [ex_181]; rfl) (by decide) rfl (fun ls hl => ?_)
                  refine lv_goto (tgt := 131) X.1 X.2.1 dX12_take_160 (by decide) ?_
                  exact ih_L_154 _ (by omega) _ _ _ (v_179) (v_179.toInt) (x_181) (x_181.toInt) rfl hw rfl rfl (by omega) (lv_sub hl [1, 0, 2, 3, 4] rfl)
              exact L_154 _ _ _ _ (0) (0) (0) (0) rfl hw ti_0 ti_0 (by omega) (lv_sub hl [1, 0, 2, 3, 4] rfl)
            · have z_b_183 := trivial
              have k_184 : v_127.toInt = 0 := z_eq rfl ti_0 c_132
              refine lv_bipush (v := (-4)) X.1 X.2.1 dX12_take_65 (by decide) ?_
              have mi_185 : MIe S_4 x (-1) := MIe_sI hp_0 hO.1 ha_x eS_4 (by decide +kernel)
              have zc_186 : zA S_4 x 1207 = zA S x 1207 := zA_sI eS_4
              rw [hQQ]
              exact ret_i X hw hr hlocks (Nat.le_of_ble_eq_true rfl) (Nat.le_of_ble_eq_true rfl) ⟨hO_5, ⟨mi_185, fun h => by exfalso; omega, fun _ => Or.inr (Or.inr (Or.inl ⟨by omega, by omega, by omega, by omega, by decide, ⟨zc_186, zc_27⟩⟩))⟩⟩ dX12_take_67
        · have z_b_187 := trivial
          have k_188 : v_36.toInt ≠ a2_z := z_ne rfl hz_a2 c_41
          refine lv_bipush (v := (-3)) X.1 X.2.1 dX12_take_48 (by decide) ?_
          have mi_189 : MIe S_4 x (-1) := MIe_sI hp_0 hO.1 ha_x eS_4 (by decide +kernel)
          have zc_190 : zA S_4 x 1207 = zA S x 1207 := zA_sI eS_4
          rw [hQQ]
          exact ret_i X hw hr hlocks (Nat.le_of_ble_eq_true rfl) (Nat.le_of_ble_eq_true rfl) ⟨hO_5, ⟨mi_189, fun h => by exfalso; omega, fun _ => Or.inr (Or.inl ⟨by omega, by omega, by decide, ⟨zc_190, zc_27⟩⟩)⟩⟩ dX12_take_50
      · have z_b_191 := trivial
        have k_192 : v_24.toInt = 0 := z_eq rfl ti_0 c_29
        refine lv_bipush (v := (-2)) X.1 X.2.1 dX12_take_35 (by decide) ?_
        have mi_193 : MIe S_4 x (-1) := MIe_sI hp_0 hO.1 ha_x eS_4 (by decide +kernel)
        have zc_194 : zA S_4 x 1207 = zA S x 1207 := zA_sI eS_4
        rw [hQQ]
        exact ret_i X hw hr hlocks (Nat.le_of_ble_eq_true rfl) (Nat.le_of_ble_eq_true rfl) ⟨hO_5, ⟨mi_193, fun h => by exfalso; omega, fun _ => Or.inl ⟨by omega, by decide, ⟨zc_194, zc_27⟩⟩⟩⟩ dX12_take_37
    · have z_b_195 := trivial
      refine lv_if_ne (tgt := 26) X.1 X.2.1 dX12_take_21 (by decide) (fun c_196 => absurd c_196 (by decide)) (fun c_196 => ?_)
      refine lv_iconst (v := (-1)) X.1 X.2.1 dX12_take_24 (by decide) ?_
      have mi_197 : MIe S_4 x (-1) := MIe_sI hp_0 hO.1 ha_x eS_4 (by decide +kernel)
      have zc_198 : zA S_4 x 1207 = zA S x 1207 := zA_sI eS_4
      have zc_199 : zA S_4 x 1253 = zA S x 1253 := zA_sI eS_4
      rw [hQQ]
      exact ret_i X hw hr hlocks (Nat.le_of_ble_eq_true rfl) (Nat.le_of_ble_eq_true rfl) ⟨hO_5, ⟨mi_197, fun _ => ⟨by decide, ⟨zc_198, zc_199⟩⟩, fun h => by exfalso; omega⟩⟩ dX12_take_25
  · have z_b_200 := trivial
    refine lv_if_eq (tgt := 24) X.1 X.2.1 dX12_take_12 (by decide) (fun c_201 => ?_) (fun c_201 => absurd c_201 (by decide))
    refine lv_iconst (v := (-1)) X.1 X.2.1 dX12_take_24 (by decide) ?_
    have mi_202 : MIe S_4 x (-1) := MIe_sI hp_0 hO.1 ha_x eS_4 (by decide +kernel)
    have zc_203 : zA S_4 x 1207 = zA S x 1207 := zA_sI eS_4
    have zc_204 : zA S_4 x 1253 = zA S x 1253 := zA_sI eS_4
    rw [hQQ]
    exact ret_i X hw hr hlocks (Nat.le_of_ble_eq_true rfl) (Nat.le_of_ble_eq_true rfl) ⟨hO_5, ⟨mi_202, fun _ => ⟨by decide, ⟨zc_203, zc_204⟩⟩, fun h => by exfalso; omega⟩⟩ dX12_take_25
