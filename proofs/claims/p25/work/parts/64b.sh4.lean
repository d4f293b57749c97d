
set_option maxHeartbeats 4000000 in
set_option maxRecDepth 100000 in
theorem k_X12_shelve4 (l : Launch) (G : va_G) (cy : Nat → ClassId) (κ : Nat → Nat) (S : PS) (sz : Nat) (x : Nat) (a1 : Int32) (a1_z : Int) (a2 : Int32) (a2_z : Int) (a3 : Int32) (a3_z : Int) (a4 : Int32) (a4_z : Int) (hG : GX S) (ha_x : At S x 12) (hz_a1 : a1.toInt = a1_z) (hz_a2 : a2.toInt = a2_z) (hz_a3 : a3.toInt = a3_z) (hz_a4 : a4.toInt = a4_z) (hp_0 : MI S x) : Ci l yX12_shelve wsX12_shelve ({ frames := 3, cells := 0, slots := 0, locals := 144 }) G cy κ S sz [.ref x, .int (a1), .int (a2), .int (a3), .int (a4)] (fun (r : Int32) (S9 : PS) => Ok MSH S S9 ∧ ((((MI S9 x ∧ ShR S x a1_z a2_z a3_z a4_z ∧ SE S S9 x a1_z a2_z a3_z a4_z) ∧ (∀ j : Nat, zA S9 x 1257 j = if a2_z = 2 ∧ 8 * a1_z ≤ (j : Int) ∧ (j : Int) < 8 * a1_z + a3_z then a4_z else zA S x 1257 j)) ∧ r = 1) ∨ (((MI S9 x ∧ ¬ ShR S x a1_z a2_z a3_z a4_z ∧ zA S9 x 1207 = zA S x 1207 ∧ zA S9 x 1253 = zA S x 1253 ∧ zA S9 x 1254 = zA S x 1254 ∧ zA S9 x 1255 = zA S x 1255 ∧ zA S9 x 1256 = zA S x 1256) ∧ zA S9 x 1257 = zA S x 1257) ∧ r = 0))) := by
  refine ent_m (cc := cX12_shelve) (maxL := 6) (ret := (some .boolean)) (by decide) rfl (Nat.le_of_ble_eq_true rfl) ?_
  intro p e s m below meth c ls X hr hlocks hin hw hl hsz
  subst hsz
  have X : Cx p c cX12_shelve 6 s [.ref x, .int (a1), .int (a2), .int (a3), .int (a4)].toArray wsX12_shelve RX12 m G cy κ (AS S s.heap.size) := X
  have hl : lv_has ls 6 [(0, .ref x), (1, .int (a1)), (2, .int (a2)), (3, .int (a3)), (4, .int (a4))] := hl
  have rg_a1 : (-2147483648) ≤ a1_z ∧ a1_z ≤ 2147483647 := by rw [← hz_a1]; exact ⟨z_lo _, z_hi _⟩
  have rg_a2 : (-2147483648) ≤ a2_z ∧ a2_z ≤ 2147483647 := by rw [← hz_a2]; exact ⟨z_lo _, z_hi _⟩
  have rg_a3 : (-2147483648) ≤ a3_z ∧ a3_z ≤ 2147483647 := by rw [← hz_a3]; exact ⟨z_lo _, z_hi _⟩
  have rg_a4 : (-2147483648) ≤ a4_z ∧ a4_z ≤ 2147483647 := by rw [← hz_a4]; exact ⟨z_lo _, z_hi _⟩
  have hO : Ok MSH S S := Ok.rf hG
  generalize hQQ : MQ below _ _ _ _ _ _ = QQ
  replace hQQ := hQQ.symm
  obtain ⟨v_1, ev_1⟩ : ∃ v, pI S 1201 x = v := ⟨_, rfl⟩
  have rg_2 := gI_12_1201 hO.1 ha_x; rw [ev_1] at rg_2
  have pz_3 : (pI S 1201 x).toInt = v_1.toInt := by rw [ev_1]
  have pz_4 : (pI S 1201 x).toInt = v_1.toInt := (congrArg Int32.toInt ev_1).trans rfl
  refine lv_aload_n X.1 X.2.1 dX12_shelve_0 rfl (lv_at hl 0 rfl) ?_
  refine lv_iconst (v := 0) X.1 X.2.1 dX12_shelve_1 (by decide) ?_
  refine r_putI (v := 0) X hw ha_x rfl 0 1200 tyX12 (by decide) rfl inn_X12_shelve_12 tyX12_ok nmX12 (by decide) (X.2.2.2.1 (.fieldLink RX12 161 "SilkMillModel" "thrown" "I") (by decide +kernel)) rfl (Or.inl rfl) rfl rfl (Nat.le_of_ble_eq_true rfl) (st_1200 _ _) dX12_shelve_2 (fun H locs hw => ?_)
  obtain ⟨S_5, eS_5⟩ : ∃ T, T = sI S 1200 x (0) := ⟨_, rfl⟩
  rw [← eS_5] at hw
  have hO_6 : Ok MSH S S_5 := hO.sI eS_5 (by decide +kernel) (uI_12_1200 hO.1 ha_x)
  have h_7 : pI S_5 1200 x = 0 := tI_sIs eS_5
  refine lv_iload_n X.1 X.2.1 dX12_shelve_5 rfl (lv_at hl 1 rfl) ?_
  refine lv_iconst (v := 0) X.1 X.2.1 dX12_shelve_6 (by decide) ?_
  refine lv_bipush (v := 15) X.1 X.2.1 dX12_shelve_7 (by decide) ?_
  refine k_i (rm := { frames := 1, cells := 0, slots := 0, locals := 48 }) (av := [.int (a1), .int 0, .int 15]) X hw (va_runS (As := [.int (a1), .int 0, .int 15]) (rest := []) (cfix X) (k_X12_within l G cy κ S_5 _ (a1) (a1_z) (0) (0) (15) (15) hO_6.1 hz_a1 ti_0 ti_15) (cwS 3 X.2.2.2.1 gX12_shelve_X12_within rfl rfl rfl (by decide +kernel) ⟨Nat.le_of_ble_eq_true rfl, Nat.le_of_ble_eq_true rfl⟩) (pre_S X hw _) rfl rfl hl.1 rfl (lv_room (Nat.le_of_ble_eq_true rfl)) dX12_shelve_9 ⟨Nat.le_of_ble_eq_true rfl, Nat.le_of_ble_eq_true rfl⟩) 0 0 (Nat.le_of_ble_eq_true rfl) (Nat.le_of_ble_eq_true rfl) (fun rr_8 S_9 H locs hp hw hfr hnw => ?_)
  obtain ⟨e2, hp⟩ := hp
  subst e2
  rcases hp with ⟨f_10, er_11⟩ | ⟨f_10, er_11⟩ <;> subst er_11
  · have z_b_12 := trivial
    refine lv_if_eq (tgt := 33) X.1 X.2.1 dX12_shelve_12 (by decide) (fun c_13 => absurd c_13 (by decide)) (fun c_13 => ?_)
    refine lv_aload_n X.1 X.2.1 dX12_shelve_15 rfl (lv_at hl 0 rfl) ?_
    have t_14 : At S_5 x 12 := tAt_sI eS_5 ha_x
    obtain ⟨q_15, h_16, h_17, h_18⟩ := gQ_12_1253 hO_6.1 t_14
    refine r_getR (g := 1253) X hw t_14 rfl 53 h_16 (by decide) rfl inn_X12_shelve_12 (by decide) (X.2.2.2.1 (.fieldLink RX12 125 "SilkMillModel" "isLaid" "[Z") (by decide +kernel)) rfl (gv_1253 _ _) dX12_shelve_16 ?_
    refine lv_iload_n X.1 X.2.1 dX12_shelve_19 rfl (lv_at hl 1 rfl) ?_
    refine r_zald X hw h_17 rfl (by rw [h_18]; exact z_ix hz_a1 (by omega) (by omega)) dX12_shelve_20 ?_
    refine lv_topi (fun v_19 ev_19 => ?_)
    have rg_20 := And.intro (z_lo v_19) (z_hi v_19)
    have ev_19 := ev_19.symm
    have zf_21 : zA S_5 x 1253 (a1_z).toNat = v_19.toInt := (zA_of h_16 hz_a1 (by omega) ev_19)
    have zc_22 : zA S_5 x 1253 = zA S x 1253 := zA_sI eS_5
    have zz_23 := congrFun zc_22 (a1_z).toNat
    refine lv_if_ne (tgt := 33) X.1 X.2.1 dX12_shelve_21 (by decide) (fun c_24 => ?_) (fun c_24 => ?_)
    · have z_b_25 := trivial
      have k_26 : v_19.toInt ≠ 0 := z_ne rfl ti_0 c_24
      refine lv_iconst (v := 0) X.1 X.2.1 dX12_shelve_33 (by decide) ?_
      have mi_27 : MIe S_5 x (-1) := MIe_sI hp_0 hO.1 ha_x eS_5 (by decide +kernel)
      have zc_28 : zA S_5 x 1207 = zA S x 1207 := zA_sI eS_5
      have zc_29 : zA S_5 x 1254 = zA S x 1254 := zA_sI eS_5
      have zc_30 : zA S_5 x 1255 = zA S x 1255 := zA_sI eS_5
      have zc_31 : zA S_5 x 1256 = zA S x 1256 := zA_sI eS_5
      have zc_32 : zA S_5 x 1257 = zA S x 1257 := zA_sI eS_5
      rw [hQQ]
      exact ret_z X hw hr hlocks (Nat.le_of_ble_eq_true rfl) (Nat.le_of_ble_eq_true rfl) (by decide) ⟨hO_6, Or.inr ⟨⟨⟨mi_27, fun h => (by obtain ⟨h1, h2, h3, h4⟩ := h; have hz7 := congrFun zc_28 (60 * a3_z + a4_z).toNat; have hz53 := congrFun zc_22 (a1_z).toNat; rcases h4 with ⟨h5, h6, h7, h8, h9, h10⟩ | h5 | ⟨h5, h6, h7⟩ <;> omega), zc_28, zc_22, zc_29, zc_30, zc_31⟩, zc_32⟩, rfl⟩⟩ dX12_shelve_34
    · have z_b_33 := trivial
      have k_34 : v_19.toInt = 0 := z_eq rfl ti_0 c_24
      refine lv_iload_n X.1 X.2.1 dX12_shelve_24 rfl (lv_at hl 2 rfl) ?_
      refine lv_iconst (v := 0) X.1 X.2.1 dX12_shelve_25 (by decide) ?_
      refine lv_iconst (v := 2) X.1 X.2.1 dX12_shelve_26 (by decide) ?_
      refine k_i (rm := { frames := 1, cells := 0, slots := 0, locals := 48 }) (av := [.int (a2), .int 0, .int 2]) X hw (va_runS (As := [.int (a2), .int 0, .int 2]) (rest := []) (cfix X) (k_X12_within l G cy κ S_5 _ (a2) (a2_z) (0) (0) (2) (2) hO_6.1 hz_a2 ti_0 ti_2) (cwS 3 X.2.2.2.1 gX12_shelve_X12_within rfl rfl rfl (by decide +kernel) ⟨Nat.le_of_ble_eq_true rfl, Nat.le_of_ble_eq_true rfl⟩) (pre_S X hw _) rfl rfl hl.1 rfl (lv_room (Nat.le_of_ble_eq_true rfl)) dX12_shelve_27 ⟨Nat.le_of_ble_eq_true rfl, Nat.le_of_ble_eq_true rfl⟩) 0 0 (Nat.le_of_ble_eq_true rfl) (Nat.le_of_ble_eq_true rfl) (fun rr_35 S_36 H locs hp hw hfr hnw => ?_)
      obtain ⟨e2, hp⟩ := hp
      subst e2
      rcases hp with ⟨f_37, er_38⟩ | ⟨f_37, er_38⟩ <;> subst er_38
      · have z_b_39 := trivial
        refine lv_if_ne (tgt := 35) X.1 X.2.1 dX12_shelve_30 (by decide) (fun c_40 => ?_) (fun c_40 => absurd c_40 (by decide))
        refine lv_iload_n X.1 X.2.1 dX12_shelve_35 rfl (lv_at hl 2 rfl) ?_
        refine lv_if_ne (tgt := 64) X.1 X.2.1 dX12_shelve_36 (by decide) (fun c_41 => ?_) (fun c_41 => ?_)
        · have z_b_42 := trivial
          have k_43 : a2_z ≠ 0 := z_ne hz_a2 ti_0 c_41
          refine lv_iload_n X.1 X.2.1 dX12_shelve_64 rfl (lv_at hl 2 rfl) ?_
          refine lv_iconst (v := 2) X.1 X.2.1 dX12_shelve_65 (by decide) ?_
          refine lv_icmp_ne (tgt := 81) X.1 X.2.1 dX12_shelve_66 (by decide) (fun c_44 => ?_) (fun c_44 => ?_)
          · have z_b_45 := trivial
            have k_46 : a2_z ≠ 2 := z_ne hz_a2 ti_2 c_44
            refine lv_aload_n X.1 X.2.1 dX12_shelve_81 rfl (lv_at hl 0 rfl) ?_
            refine r_getR (g := 1253) X hw t_14 rfl 53 h_16 (by decide) rfl inn_X12_shelve_12 (by decide) (X.2.2.2.1 (.fieldLink RX12 125 "SilkMillModel" "isLaid" "[Z") (by decide +kernel)) rfl (gv_1253 _ _) dX12_shelve_82 ?_
            refine lv_iload_n X.1 X.2.1 dX12_shelve_85 rfl (lv_at hl 1 rfl) ?_
            refine lv_iconst (v := 1) X.1 X.2.1 dX12_shelve_86 (by decide) ?_
            refine r_zast X hw h_17 rfl (by rw [h_18]; exact z_ix hz_a1 (by omega) (by omega)) dX12_shelve_87 (fun H locs hw => ?_)
            obtain ⟨S_47, eS_47⟩ : ∃ T, T = sA S_5 q_15 (upd (pA S_5 q_15) (Int32.toNatClampNeg (a1)) (vp_nar .boolean (1))) := ⟨_, rfl⟩
            rw [← eS_47] at hw
            have hO_48 : Ok MSH S S_47 := hO_6.sA eS_47 h_17 (by decide +kernel) (uA_1275 hO_6.1 h_17)
            have t_49 : pR S_47 1253 x = some q_15 := tR_sA eS_47 h_16
            have t_51 : pR S_5 1253 x = some q_15 := by have h := t_49; rw [eS_47, pR_sA] at h; exact h
            have zs_50 : ∀ j, zA S_47 x 1253 j = if j = (a1_z).toNat then 1 else zA S_5 x 1253 j := by have h := zA_sAs eS_47 t_51 nar1; rw [z_nc hz_a1 (by omega)] at h; exact h
            have zs_52 : ∀ j, zA S_47 x 1253 j = if j = (a1_z).toNat then 1 else zA S x 1253 j := fun j => by rw [zs_50 j, zc_22]
            refine lv_aload_n X.1 X.2.1 dX12_shelve_88 rfl (lv_at hl 0 rfl) ?_
            have t_53 : At S_47 x 12 := tAt_sA eS_47 t_14
            obtain ⟨q_54, h_55, h_56, h_57⟩ := gQ_12_1254 hO_48.1 t_53
            refine r_getR (g := 1254) X hw t_53 rfl 54 h_55 (by decide) rfl inn_X12_shelve_12 (by decide) (X.2.2.2.1 (.fieldLink RX12 128 "SilkMillModel" "laid" "[I") (by decide +kernel)) rfl (gv_1254 _ _) dX12_shelve_89 ?_
            refine lv_iload_n X.1 X.2.1 dX12_shelve_92 rfl (lv_at hl 1 rfl) ?_
            refine lv_iload_n X.1 X.2.1 dX12_shelve_93 rfl (lv_at hl 2 rfl) ?_
            refine r_iast X hw h_56 rfl (by rw [h_57]; exact z_ix hz_a1 (by omega) (by omega)) dX12_shelve_94 (fun H locs hw => ?_)
            obtain ⟨S_58, eS_58⟩ : ∃ T, T = sA S_47 q_54 (upd (pA S_47 q_54) (Int32.toNatClampNeg (a1)) (a2)) := ⟨_, rfl⟩
            rw [← eS_58] at hw
            have hO_59 : Ok MSH S S_58 := hO_48.sA eS_58 h_56 (by decide +kernel) (uA_1294 hO_48.1 h_56)
            have h_60 : pA S_58 q_54 (Int32.toNatClampNeg (a1)) = a2 := tA_sAs eS_58
            have zc_61 : zA S_5 x 1254 = zA S x 1254 := zA_sI eS_5
            have zc_62 : zA S_47 x 1254 = zA S x 1254 := (zA_sAn eS_47 (ex3 (gQ_12_1254 hO_6.1 t_14)) h_17 rfl).trans zc_61
            have t_63 : pR S_58 1254 x = some q_54 := tR_sA eS_58 h_55
            have t_65 : pR S_47 1254 x = some q_54 := by have h := t_63; rw [eS_58, pR_sA] at h; exact h
            have zs_64 : ∀ j, zA S_58 x 1254 j = if j = (a1_z).toNat then a2_z else zA S_47 x 1254 j := by have h := zA_sAs eS_58 t_65 hz_a2; rw [z_nc hz_a1 (by omega)] at h; exact h
            have zs_66 : ∀ j, zA S_58 x 1254 j = if j = (a1_z).toNat then a2_z else zA S x 1254 j := fun j => by rw [zs_64 j, zc_62]
            refine lv_aload_n X.1 X.2.1 dX12_shelve_95 rfl (lv_at hl 0 rfl) ?_
            have t_67 : At S_58 x 12 := tAt_sA eS_58 t_53
            obtain ⟨q_68, h_69, h_70, h_71⟩ := gQ_12_1255 hO_59.1 t_67
            refine r_getR (g := 1255) X hw t_67 rfl 55 h_69 (by decide) rfl inn_X12_shelve_12 (by decide) (X.2.2.2.1 (.fieldLink RX12 131 "SilkMillModel" "laidValue" "[I") (by decide +kernel)) rfl (gv_1255 _ _) dX12_shelve_96 ?_
            refine lv_iload_n X.1 X.2.1 dX12_shelve_99 rfl (lv_at hl 1 rfl) ?_
            refine lv_iload_n X.1 X.2.1 dX12_shelve_100 rfl (lv_at hl 2 rfl) ?_
            refine lv_if_ne (tgt := 114) X.1 X.2.1 dX12_shelve_101 (by decide) (fun c_72 => ?_) (fun c_72 => ?_)
            rotate_left
            · exfalso
              have k_73 : a2_z = 0 := z_eq hz_a2 ti_0 c_72
              omega
            have k_74 : a2_z ≠ 0 := z_ne hz_a2 ti_0 c_72
            refine lv_iload_n X.1 X.2.1 dX12_shelve_114 rfl (lv_at hl 3 rfl) ?_
            refine r_iast X hw h_70 rfl (by rw [h_71]; exact z_ix hz_a1 (by omega) (by omega)) dX12_shelve_115 (fun H locs hw => ?_)
            obtain ⟨S_75, eS_75⟩ : ∃ T, T = sA S_58 q_68 (upd (pA S_58 q_68) (Int32.toNatClampNeg (a1)) (a3)) := ⟨_, rfl⟩
            rw [← eS_75] at hw
            have hO_76 : Ok MSH S S_75 := hO_59.sA eS_75 h_70 (by decide +kernel) (uA_1314 hO_59.1 h_70)
            have h_77 : pA S_75 q_68 (Int32.toNatClampNeg (a1)) = a3 := tA_sAs eS_75
            have zc_78 : zA S_5 x 1255 = zA S x 1255 := zA_sI eS_5
            have zc_79 : zA S_47 x 1255 = zA S x 1255 := (zA_sAn eS_47 (ex3 (gQ_12_1255 hO_6.1 t_14)) h_17 rfl).trans zc_78
            have zc_80 : zA S_58 x 1255 = zA S x 1255 := (zA_sAn eS_58 (ex3 (gQ_12_1255 hO_48.1 t_53)) h_56 rfl).trans zc_79
            have t_81 : pR S_75 1255 x = some q_68 := tR_sA eS_75 h_69
            have t_83 : pR S_58 1255 x = some q_68 := by have h := t_81; rw [eS_75, pR_sA] at h; exact h
            have zs_82 : ∀ j, zA S_75 x 1255 j = if j = (a1_z).toNat then a3_z else zA S_58 x 1255 j := by have h := zA_sAs eS_75 t_83 hz_a3; rw [z_nc hz_a1 (by omega)] at h; exact h
            have zs_84 : ∀ j, zA S_75 x 1255 j = if j = (a1_z).toNat then a3_z else zA S x 1255 j := fun j => by rw [zs_82 j, zc_80]
            refine lv_iload_n X.1 X.2.1 dX12_shelve_116 rfl (lv_at hl 2 rfl) ?_
            refine lv_if_ne (tgt := 133) X.1 X.2.1 dX12_shelve_117 (by decide) (fun c_85 => ?_) (fun c_85 => ?_)
            rotate_left
            · exfalso
              have k_86 : a2_z = 0 := z_eq hz_a2 ti_0 c_85
              omega
            have k_87 : a2_z ≠ 0 := z_ne hz_a2 ti_0 c_85
            have zc_88 : zA S_58 x 1253 = zA S_47 x 1253 := zA_sAn eS_58 (ex3 (gQ_12_1253 hO_48.1 t_53)) h_56 rfl
            have zc_89 : zA S_75 x 1253 = zA S_47 x 1253 := (zA_sAn eS_75 (ex3 (gQ_12_1253 hO_59.1 t_67)) h_70 rfl).trans zc_88
            have zs_90 : ∀ j, zA S_75 x 1253 j = if j = (a1_z).toNat then 1 else zA S x 1253 j := fun j => by rw [zc_89]; exact zs_52 j
            have zc_91 : zA S_5 x 1254 = zA S x 1254 := zA_sI eS_5
            have zc_92 : zA S_47 x 1254 = zA S x 1254 := (zA_sAn eS_47 (ex3 (gQ_12_1254 hO_6.1 t_14)) h_17 rfl).trans zc_91
            have zc_93 : zA S_75 x 1254 = zA S_58 x 1254 := zA_sAn eS_75 (ex3 (gQ_12_1254 hO_59.1 t_67)) h_70 rfl
            have zs_94 : ∀ j, zA S_75 x 1254 j = if j = (a1_z).toNat then a2_z else zA S x 1254 j := fun j => by rw [zc_93]; exact zs_66 j
            have zc_95 : zA S_5 x 1255 = zA S x 1255 := zA_sI eS_5
            have zc_96 : zA S_47 x 1255 = zA S x 1255 := (zA_sAn eS_47 (ex3 (gQ_12_1255 hO_6.1 t_14)) h_17 rfl).trans zc_95
            have zc_97 : zA S_58 x 1255 = zA S x 1255 := (zA_sAn eS_58 (ex3 (gQ_12_1255 hO_48.1 t_53)) h_56 rfl).trans zc_96
            have zc_99 : zA S_5 x 1207 = zA S x 1207 := zA_sI eS_5
            have zc_100 : zA S_47 x 1207 = zA S x 1207 := (zA_sAn eS_47 (ex3 (gQ_12_1207 hO_6.1 t_14)) h_17 rfl).trans zc_99
            have zc_101 : zA S_58 x 1207 = zA S x 1207 := (zA_sAn eS_58 (ex3 (gQ_12_1207 hO_48.1 t_53)) h_56 rfl).trans zc_100
            have zc_102 : zA S_75 x 1207 = zA S x 1207 := (zA_sAn eS_75 (ex3 (gQ_12_1207 hO_59.1 t_67)) h_70 rfl).trans zc_101
            have mi_98 : MI S_75 x := lay_MI (p := (a1_z).toNat) hG ha_x hO_76.fr hp_0 zc_102 (fun j hj => by rw [zs_90 j, if_neg hj]) (fun j hj => by rw [zs_94 j, if_neg hj]) (fun j hj => by rw [zs_84 j, if_neg hj]) (Or.inr (by rw [zs_94, if_pos rfl]; omega))
            refine lv_iload_n X.1 X.2.1 dX12_shelve_133 rfl (lv_at hl 2 rfl) ?_
            refine lv_iconst (v := 2) X.1 X.2.1 dX12_shelve_134 (by decide) ?_
            refine lv_icmp_ne (tgt := 174) X.1 X.2.1 dX12_shelve_135 (by decide) (fun c_103 => ?_) (fun c_103 => ?_)
            rotate_left
            · exfalso
              have k_104 : a2_z = 2 := z_eq hz_a2 ti_2 c_103
              omega
            have k_105 : a2_z ≠ 2 := z_ne hz_a2 ti_2 c_103
            refine lv_iconst (v := 1) X.1 X.2.1 dX12_shelve_174 (by decide) ?_
            have zs_106 : ∀ j, zA S_75 x 1253 j = if j = (a1_z).toNat then 1 else zA S x 1253 j := fun j => by rw [zc_89]; exact zs_52 j
            have zs_107 : ∀ j, zA S_75 x 1254 j = if j = (a1_z).toNat then a2_z else zA S x 1254 j := fun j => by rw [zc_93]; exact zs_66 j
            have zc_108 : zA S_5 x 1256 = zA S x 1256 := zA_sI eS_5
            have zc_109 : zA S_47 x 1256 = zA S x 1256 := (zA_sAn eS_47 (ex3 (gQ_12_1256 hO_6.1 t_14)) h_17 rfl).trans zc_108
            have zc_110 : zA S_58 x 1256 = zA S x 1256 := (zA_sAn eS_58 (ex3 (gQ_12_1256 hO_48.1 t_53)) h_56 rfl).trans zc_109
            have zc_111 : zA S_75 x 1256 = zA S x 1256 := (zA_sAn eS_75 (ex3 (gQ_12_1256 hO_59.1 t_67)) h_70 rfl).trans zc_110
            have zc_112 : zA S_5 x 1257 = zA S x 1257 := zA_sI eS_5
            have zc_113 : zA S_47 x 1257 = zA S x 1257 := (zA_sAn eS_47 (ex3 (gQ_12_1257 hO_6.1 t_14)) h_17 rfl).trans zc_112
            have zc_114 : zA S_58 x 1257 = zA S x 1257 := (zA_sAn eS_58 (ex3 (gQ_12_1257 hO_48.1 t_53)) h_56 rfl).trans zc_113
            have zc_115 : zA S_75 x 1257 = zA S x 1257 := (zA_sAn eS_75 (ex3 (gQ_12_1257 hO_59.1 t_67)) h_70 rfl).trans zc_114
            rw [hQQ]
            exact ret_z X hw hr hlocks (Nat.le_of_ble_eq_true rfl) (Nat.le_of_ble_eq_true rfl) (by decide) ⟨hO_76, Or.inl ⟨⟨⟨mi_98, ⟨by omega, by omega, by omega, Or.inr (Or.inl (by omega))⟩, zs_106, (fun j => (zs_107 j).trans (by first | rfl | (split <;> first | rfl | omega))), (fun j => by rw [zs_84 j, if_neg (show ¬ a2_z = 0 by omega)]), (fun j => by rw [zc_102, if_neg (show ¬ a2_z = 0 by omega)]), (fun j => by rw [zc_111, if_neg (show ¬ a2_z = 2 by omega)])⟩, (fun j => by rw [zc_115, if_neg (by omega)])⟩, rfl⟩⟩ dX12_shelve_175
          · have z_b_116 := trivial
            have k_117 : a2_z = 2 := z_eq hz_a2 ti_2 c_44
            refine lv_iload_n X.1 X.2.1 dX12_shelve_69 rfl (lv_at hl 3 rfl) ?_
            refine lv_iconst (v := 0) X.1 X.2.1 dX12_shelve_70 (by decide) ?_
            refine lv_bipush (v := 8) X.1 X.2.1 dX12_shelve_71 (by decide) ?_
            refine k_i (rm := { frames := 1, cells := 0, slots := 0, locals := 48 }) (av := [.int (a3), .int 0, .int 8]) X hw (va_runS (As := [.int (a3), .int 0, .int 8]) (rest := []) (cfix X) (k_X12_within l G cy κ S_5 _ (a3) (a3_z) (0) (0) (8) (8) hO_6.1 hz_a3 ti_0 ti_8) (cwS 3 X.2.2.2.1 gX12_shelve_X12_within rfl rfl rfl (by decide +kernel) ⟨Nat.le_of_ble_eq_true rfl, Nat.le_of_ble_eq_true rfl⟩) (pre_S X hw _) rfl rfl hl.1 rfl (lv_room (Nat.le_of_ble_eq_true rfl)) dX12_shelve_73 ⟨Nat.le_of_ble_eq_true rfl, Nat.le_of_ble_eq_true rfl⟩) 0 0 (Nat.le_of_ble_eq_true rfl) (Nat.le_of_ble_eq_true rfl) (fun rr_118 S_119 H locs hp hw hfr hnw => ?_)
            obtain ⟨e2, hp⟩ := hp
            subst e2
            rcases hp with ⟨f_120, er_121⟩ | ⟨f_120, er_121⟩ <;> subst er_121
            · have z_b_122 := trivial
              refine lv_if_ne (tgt := 81) X.1 X.2.1 dX12_shelve_76 (by decide) (fun c_123 => ?_) (fun c_123 => absurd c_123 (by decide))
              refine lv_aload_n X.1 X.2.1 dX12_shelve_81 rfl (lv_at hl 0 rfl) ?_
              refine r_getR (g := 1253) X hw t_14 rfl 53 h_16 (by decide) rfl inn_X12_shelve_12 (by decide) (X.2.2.2.1 (.fieldLink RX12 125 "SilkMillModel" "isLaid" "[Z") (by decide +kernel)) rfl (gv_1253 _ _) dX12_shelve_82 ?_
              refine lv_iload_n X.1 X.2.1 dX12_shelve_85 rfl (lv_at hl 1 rfl) ?_
              refine lv_iconst (v := 1) X.1 X.2.1 dX12_shelve_86 (by decide) ?_
              refine r_zast X hw h_17 rfl (by rw [h_18]; exact z_ix hz_a1 (by omega) (by omega)) dX12_shelve_87 (fun H locs hw => ?_)
              obtain ⟨S_124, eS_124⟩ : ∃ T, T = sA S_5 q_15 (upd (pA S_5 q_15) (Int32.toNatClampNeg (a1)) (vp_nar .boolean (1))) := ⟨_, rfl⟩
              rw [← eS_124] at hw
              have hO_125 : Ok MSH S S_124 := hO_6.sA eS_124 h_17 (by decide +kernel) (uA_1275 hO_6.1 h_17)
              have t_126 : pR S_124 1253 x = some q_15 := tR_sA eS_124 h_16
              have t_128 : pR S_5 1253 x = some q_15 := by have h := t_126; rw [eS_124, pR_sA] at h; exact h
              have zs_127 : ∀ j, zA S_124 x 1253 j = if j = (a1_z).toNat then 1 else zA S_5 x 1253 j := by have h := zA_sAs eS_124 t_128 nar1; rw [z_nc hz_a1 (by omega)] at h; exact h
              have zs_129 : ∀ j, zA S_124 x 1253 j = if j = (a1_z).toNat then 1 else zA S x 1253 j := fun j => by rw [zs_127 j, zc_22]
              refine lv_aload_n X.1 X.2.1 dX12_shelve_88 rfl (lv_at hl 0 rfl) ?_
              have t_130 : At S_124 x 12 := tAt_sA eS_124 t_14
              obtain ⟨q_131, h_132, h_133, h_134⟩ := gQ_12_1254 hO_125.1 t_130
              refine r_getR (g := 1254) X hw t_130 rfl 54 h_132 (by decide) rfl inn_X12_shelve_12 (by decide) (X.2.2.2.1 (.fieldLink RX12 128 "SilkMillModel" "laid" "[I") (by decide +kernel)) rfl (gv_1254 _ _) dX12_shelve_89 ?_
              refine lv_iload_n X.1 X.2.1 dX12_shelve_92 rfl (lv_at hl 1 rfl) ?_
              refine lv_iload_n X.1 X.2.1 dX12_shelve_93 rfl (lv_at hl 2 rfl) ?_
              refine r_iast X hw h_133 rfl (by rw [h_134]; exact z_ix hz_a1 (by omega) (by omega)) dX12_shelve_94 (fun H locs hw => ?_)
              obtain ⟨S_135, eS_135⟩ : ∃ T, T = sA S_124 q_131 (upd (pA S_124 q_131) (Int32.toNatClampNeg (a1)) (a2)) := ⟨_, rfl⟩
              rw [← eS_135] at hw
              have hO_136 : Ok MSH S S_135 := hO_125.sA eS_135 h_133 (by decide +kernel) (uA_1294 hO_125.1 h_133)
              have h_137 : pA S_135 q_131 (Int32.toNatClampNeg (a1)) = a2 := tA_sAs eS_135
              have zc_138 : zA S_5 x 1254 = zA S x 1254 := zA_sI eS_5
              have zc_139 : zA S_124 x 1254 = zA S x 1254 := (zA_sAn eS_124 (ex3 (gQ_12_1254 hO_6.1 t_14)) h_17 rfl).trans zc_138
              have t_140 : pR S_135 1254 x = some q_131 := tR_sA eS_135 h_132
              have t_142 : pR S_124 1254 x = some q_131 := by have h := t_140; rw [eS_135, pR_sA] at h; exact h
              have zs_141 : ∀ j, zA S_135 x 1254 j = if j = (a1_z).toNat then a2_z else zA S_124 x 1254 j := by have h := zA_sAs eS_135 t_142 hz_a2; rw [z_nc hz_a1 (by omega)] at h; exact h
              have zs_143 : ∀ j, zA S_135 x 1254 j = if j = (a1_z).toNat then a2_z else zA S x 1254 j := fun j => by rw [zs_141 j, zc_139]
              refine lv_aload_n X.1 X.2.1 dX12_shelve_95 rfl (lv_at hl 0 rfl) ?_
              have t_144 : At S_135 x 12 := tAt_sA eS_135 t_130
              obtain ⟨q_145, h_146, h_147, h_148⟩ := gQ_12_1255 hO_136.1 t_144
              refine r_getR (g := 1255) X hw t_144 rfl 55 h_146 (by decide) rfl inn_X12_shelve_12 (by decide) (X.2.2.2.1 (.fieldLink RX12 131 "SilkMillModel" "laidValue" "[I") (by decide +kernel)) rfl (gv_1255 _ _) dX12_shelve_96 ?_
              refine lv_iload_n X.1 X.2.1 dX12_shelve_99 rfl (lv_at hl 1 rfl) ?_
              refine lv_iload_n X.1 X.2.1 dX12_shelve_100 rfl (lv_at hl 2 rfl) ?_
              refine lv_if_ne (tgt := 114) X.1 X.2.1 dX12_shelve_101 (by decide) (fun c_149 => ?_) (fun c_149 => ?_)
              rotate_left
              · exfalso
                have k_150 : a2_z = 0 := z_eq hz_a2 ti_0 c_149
                omega
              have k_151 : a2_z ≠ 0 := z_ne hz_a2 ti_0 c_149
              refine lv_iload_n X.1 X.2.1 dX12_shelve_114 rfl (lv_at hl 3 rfl) ?_
              refine r_iast X hw h_147 rfl (by rw [h_148]; exact z_ix hz_a1 (by omega) (by omega)) dX12_shelve_115 (fun H locs hw => ?_)
              obtain ⟨S_152, eS_152⟩ : ∃ T, T = sA S_135 q_145 (upd (pA S_135 q_145) (Int32.toNatClampNeg (a1)) (a3)) := ⟨_, rfl⟩
              rw [← eS_152] at hw
              have hO_153 : Ok MSH S S_152 := hO_136.sA eS_152 h_147 (by decide +kernel) (uA_1314 hO_136.1 h_147)
              have h_154 : pA S_152 q_145 (Int32.toNatClampNeg (a1)) = a3 := tA_sAs eS_152
              have zc_155 : zA S_5 x 1255 = zA S x 1255 := zA_sI eS_5
              have zc_156 : zA S_124 x 1255 = zA S x 1255 := (zA_sAn eS_124 (ex3 (gQ_12_1255 hO_6.1 t_14)) h_17 rfl).trans zc_155
              have zc_157 : zA S_135 x 1255 = zA S x 1255 := (zA_sAn eS_135 (ex3 (gQ_12_1255 hO_125.1 t_130)) h_133 rfl).trans zc_156
              have t_158 : pR S_152 1255 x = some q_145 := tR_sA eS_152 h_146
              have t_160 : pR S_135 1255 x = some q_145 := by have h := t_158; rw [eS_152, pR_sA] at h; exact h
              have zs_159 : ∀ j, zA S_152 x 1255 j = if j = (a1_z).toNat then a3_z else zA S_135 x 1255 j := by have h := zA_sAs eS_152 t_160 hz_a3; rw [z_nc hz_a1 (by omega)] at h; exact h
              have zs_161 : ∀ j, zA S_152 x 1255 j = if j = (a1_z).toNat then a3_z else zA S x 1255 j := fun j => by rw [zs_159 j, zc_157]
              refine lv_iload_n X.1 X.2.1 dX12_shelve_116 rfl (lv_at hl 2 rfl) ?_
              refine lv_if_ne (tgt := 133) X.1 X.2.1 dX12_shelve_117 (by decide) (fun c_162 => ?_) (fun c_162 => ?_)
              rotate_left
              · exfalso
                have k_163 : a2_z = 0 := z_eq hz_a2 ti_0 c_162
                omega
              have k_164 : a2_z ≠ 0 := z_ne hz_a2 ti_0 c_162
              have zc_165 : zA S_135 x 1253 = zA S_124 x 1253 := zA_sAn eS_135 (ex3 (gQ_12_1253 hO_125.1 t_130)) h_133 rfl
              have zc_166 : zA S_152 x 1253 = zA S_124 x 1253 := (zA_sAn eS_152 (ex3 (gQ_12_1253 hO_136.1 t_144)) h_147 rfl).trans zc_165
              have zs_167 : ∀ j, zA S_152 x 1253 j = if j = (a1_z).toNat then 1 else zA S x 1253 j := fun j => by rw [zc_166]; exact zs_129 j
              have zc_168 : zA S_5 x 1254 = zA S x 1254 := zA_sI eS_5
              have zc_169 : zA S_124 x 1254 = zA S x 1254 := (zA_sAn eS_124 (ex3 (gQ_12_1254 hO_6.1 t_14)) h_17 rfl).trans zc_168
              have zc_170 : zA S_152 x 1254 = zA S_135 x 1254 := zA_sAn eS_152 (ex3 (gQ_12_1254 hO_136.1 t_144)) h_147 rfl
              have zs_171 : ∀ j, zA S_152 x 1254 j = if j = (a1_z).toNat then a2_z else zA S x 1254 j := fun j => by rw [zc_170]; exact zs_143 j
              have zc_172 : zA S_5 x 1255 = zA S x 1255 := zA_sI eS_5
              have zc_173 : zA S_124 x 1255 = zA S x 1255 := (zA_sAn eS_124 (ex3 (gQ_12_1255 hO_6.1 t_14)) h_17 rfl).trans zc_172
              have zc_174 : zA S_135 x 1255 = zA S x 1255 := (zA_sAn eS_135 (ex3 (gQ_12_1255 hO_125.1 t_130)) h_133 rfl).trans zc_173
              have zc_176 : zA S_5 x 1207 = zA S x 1207 := zA_sI eS_5
              have zc_177 : zA S_124 x 1207 = zA S x 1207 := (zA_sAn eS_124 (ex3 (gQ_12_1207 hO_6.1 t_14)) h_17 rfl).trans zc_176
              have zc_178 : zA S_135 x 1207 = zA S x 1207 := (zA_sAn eS_135 (ex3 (gQ_12_1207 hO_125.1 t_130)) h_133 rfl).trans zc_177
              have zc_179 : zA S_152 x 1207 = zA S x 1207 := (zA_sAn eS_152 (ex3 (gQ_12_1207 hO_136.1 t_144)) h_147 rfl).trans zc_178
              have mi_175 : MI S_152 x := lay_MI (p := (a1_z).toNat) hG ha_x hO_153.fr hp_0 zc_179 (fun j hj => by rw [zs_167 j, if_neg hj]) (fun j hj => by rw [zs_171 j, if_neg hj]) (fun j hj => by rw [zs_161 j, if_neg hj]) (Or.inr (by rw [zs_171, if_pos rfl]; omega))
              refine lv_iload_n X.1 X.2.1 dX12_shelve_133 rfl (lv_at hl 2 rfl) ?_
              refine lv_iconst (v := 2) X.1 X.2.1 dX12_shelve_134 (by decide) ?_
              refine lv_icmp_ne (tgt := 174) X.1 X.2.1 dX12_shelve_135 (by decide) (fun c_180 => ?_) (fun c_180 => ?_)
              · exfalso
                have k_181 : a2_z ≠ 2 := z_ne hz_a2 ti_2 c_180
                omega
              have k_182 : a2_z = 2 := z_eq hz_a2 ti_2 c_180
              refine lv_aload_n X.1 X.2.1 dX12_shelve_138 rfl (lv_at hl 0 rfl) ?_
              have t_183 : At S_152 x 12 := tAt_sA eS_152 t_144
              obtain ⟨q_184, h_185, h_186, h_187⟩ := gQ_12_1256 hO_153.1 t_183
              refine r_getR (g := 1256) X hw t_183 rfl 56 h_185 (by decide) rfl inn_X12_shelve_12 (by decide) (X.2.2.2.1 (.fieldLink RX12 134 "SilkMillModel" "wordMany" "[I") (by decide +kernel)) rfl (gv_1256 _ _) dX12_shelve_139 ?_
              refine lv_iload_n X.1 X.2.1 dX12_shelve_142 rfl (lv_at hl 1 rfl) ?_
              refine lv_iload_n X.1 X.2.1 dX12_shelve_143 rfl (lv_at hl 3 rfl) ?_
              refine r_iast X hw h_186 rfl (by rw [h_187]; exact z_ix hz_a1 (by omega) (by omega)) dX12_shelve_144 (fun H locs hw => ?_)
              obtain ⟨S_188, eS_188⟩ : ∃ T, T = sA S_152 q_184 (upd (pA S_152 q_184) (Int32.toNatClampNeg (a1)) (a3)) := ⟨_, rfl⟩
              rw [← eS_188] at hw
              have hO_189 : Ok MSH S S_188 := hO_153.sA eS_188 h_186 (by decide +kernel) (uA_1334 hO_153.1 h_186 (by omega) (by omega))
              have h_190 : pA S_188 q_184 (Int32.toNatClampNeg (a1)) = a3 := tA_sAs eS_188
              have zc_191 : zA S_5 x 1256 = zA S x 1256 := zA_sI eS_5
              have zc_192 : zA S_124 x 1256 = zA S x 1256 := (zA_sAn eS_124 (ex3 (gQ_12_1256 hO_6.1 t_14)) h_17 rfl).trans zc_191
              have zc_193 : zA S_135 x 1256 = zA S x 1256 := (zA_sAn eS_135 (ex3 (gQ_12_1256 hO_125.1 t_130)) h_133 rfl).trans zc_192
              have zc_194 : zA S_152 x 1256 = zA S x 1256 := (zA_sAn eS_152 (ex3 (gQ_12_1256 hO_136.1 t_144)) h_147 rfl).trans zc_193
              have t_195 : pR S_188 1256 x = some q_184 := tR_sA eS_188 h_185
              have t_197 : pR S_152 1256 x = some q_184 := by have h := t_195; rw [eS_188, pR_sA] at h; exact h
              have zs_196 : ∀ j, zA S_188 x 1256 j = if j = (a1_z).toNat then a3_z else zA S_152 x 1256 j := by have h := zA_sAs eS_188 t_197 hz_a3; rw [z_nc hz_a1 (by omega)] at h; exact h
              have zs_198 : ∀ j, zA S_188 x 1256 j = if j = (a1_z).toNat then a3_z else zA S x 1256 j := fun j => by rw [zs_196 j, zc_194]
              refine lv_iconst (v := 0) X.1 X.2.1 dX12_shelve_145 (by decide) ?_
              refine lv_istore (lv' := [(5, .int 0), (0, .ref x), (1, .int (a1)), (2, .int (a2)), (3, .int (a3)), (4, .int (a4))]) X.1 X.2.1 dX12_shelve_146 hl (by decide) rfl (fun ls hl => ?_)
              have zc_203 : zA S_188 x 1207 = zA S x 1207 := (zA_sAn eS_188 (ex3 (gQ_12_1207 hO_153.1 t_183)) h_186 rfl).trans zc_179
              have zc_205 : zA S_188 x 1253 = zA S_124 x 1253 := (zA_sAn eS_188 (ex3 (gQ_12_1253 hO_153.1 t_183)) h_186 rfl).trans zc_166
              have zc_207 : zA S_188 x 1254 = zA S_135 x 1254 := (zA_sAn eS_188 (ex3 (gQ_12_1254 hO_153.1 t_183)) h_186 rfl).trans zc_170
              have zc_209 : zA S_188 x 1255 = zA S_152 x 1255 := zA_sAn eS_188 (ex3 (gQ_12_1255 hO_153.1 t_183)) h_186 rfl
              have zc_211 : zA S_5 x 1256 = zA S x 1256 := zA_sI eS_5
              have zc_212 : zA S_124 x 1256 = zA S x 1256 := (zA_sAn eS_124 (ex3 (gQ_12_1256 hO_6.1 t_14)) h_17 rfl).trans zc_211
              have zc_213 : zA S_135 x 1256 = zA S x 1256 := (zA_sAn eS_135 (ex3 (gQ_12_1256 hO_125.1 t_130)) h_133 rfl).trans zc_212
              have zc_214 : zA S_152 x 1256 = zA S x 1256 := (zA_sAn eS_152 (ex3 (gQ_12_1256 hO_136.1 t_144)) h_147 rfl).trans zc_213
              have L_199 : ∀ (n : Nat) (T_201 : PS) (H : Heap) (locs : List Loc) (ls : Array Slot) (i5_200 : Int32) (i5_200_z : Int), ((8 - i5_200_z).toNat = n) → (Wd G cy (AS S s.heap.size) s.heap T_201 H locs) → (i5_200.toInt = i5_200_z) → (0 ≤ i5_200_z ∧ i5_200_z ≤ 8) → (At T_201 x 12) → (Ok MSH S T_201) → (zA T_201 x 1207 = zA S x 1207) → (zA T_201 x 1253 = zA S_124 x 1253) → (zA T_201 x 1254 = zA S_135 x 1254) → (zA T_201 x 1255 = zA S_152 x 1255) → (zA T_201 x 1256 = zA S_188 x 1256) → (MIe T_201 x (-1)) → ((∀ j : Nat, zA T_201 x 1257 j = if 8 * a1_z ≤ (j : Int) ∧ (j : Int) < 8 * a1_z + i5_200_z then a4_z else zA S x 1257 j)) → (i5_200_z ≤ a3_z) → (lv_has ls 6 [(5, .int (i5_200)), (0, .ref x), (1, .int (a1)), (2, .int (a2)), (3, .int (a3)), (4, .int (a4))]) → W p l e ({ frames := 3, cells := 0, slots := 0, locals := 144 }) s m [.ref x, .int (a1), .int (a2), .int (a3), .int (a4)].toArray below meth c H locs 0 0 QQ (F0 m 148 ls []) := by
                intro n
                induction n using Nat.strongRecOn with
                | ind n ih_L_199 =>
                intro T_201 H locs ls i5_200 i5_200_z hn hw hz_i5_200 hr_i5_200 ha_x_L_202 hO_T_201 zk_204 zk_206 zk_208 zk_210 zk_215 mk_216 iv_217 iv_218 hl
                have rg_219 : (-2147483648) ≤ i5_200_z ∧ i5_200_z ≤ 2147483647 := by rw [← hz_i5_200]; exact ⟨z_lo _, z_hi _⟩
                refine lv_iload X.1 X.2.1 dX12_shelve_148 (lv_at hl 0 rfl) ?_
                refine lv_iload_n X.1 X.2.1 dX12_shelve_150 rfl (lv_at hl 4 rfl) ?_
                refine lv_icmp_ge (tgt := 174) X.1 X.2.1 dX12_shelve_151 (by decide) (fun c_220 => ?_) (fun c_220 => ?_)
                · have z_b_221 := trivial
                  have k_222 : i5_200_z ≥ a3_z := z_le hz_a3 hz_i5_200 c_220
                  refine lv_iconst (v := 1) X.1 X.2.1 dX12_shelve_174 (by decide) ?_
                  have zs_223 : ∀ j, zA T_201 x 1253 j = if j = (a1_z).toNat then 1 else zA S x 1253 j := fun j => by rw [zk_206]; exact zs_129 j
                  have zs_224 : ∀ j, zA T_201 x 1254 j = if j = (a1_z).toNat then a2_z else zA S x 1254 j := fun j => by rw [zk_208]; exact zs_143 j
                  have zs_225 : ∀ j, zA T_201 x 1255 j = if j = (a1_z).toNat then a3_z else zA S x 1255 j := fun j => by rw [zk_210]; exact zs_161 j
                  have zs_226 : ∀ j, zA T_201 x 1256 j = if j = (a1_z).toNat then a3_z else zA S x 1256 j := fun j => by rw [zk_215]; exact zs_198 j
                  rw [hQQ]
                  exact ret_z X hw hr hlocks (Nat.le_of_ble_eq_true rfl) (Nat.le_of_ble_eq_true rfl) (by decide) ⟨hO_T_201, Or.inl ⟨⟨⟨mk_216, ⟨by omega, by omega, by omega, Or.inr (Or.inr ⟨by omega, by omega, by omega⟩)⟩, zs_223, (fun j => (zs_224 j).trans (by first | rfl | (split <;> first | rfl | omega))), (fun j => by rw [zs_225 j, if_neg (show ¬ a2_z = 0 by omega)]), (fun j => by rw [zk_204, if_neg (show ¬ a2_z = 0 by omega)]), (fun j => by rw [zs_226 j, if_pos (show a2_z = 2 by omega)])⟩, (fun j => by rw [iv_217 j]; exact (Classical.em (8 * a1_z ≤ (j : Int) ∧ (j : Int) < 8 * a1_z + i5_200_z)).elim (fun e => by rw [if_pos e, if_pos (by omega)]) (fun e => by rw [if_neg e, if_neg (by omega)]))⟩, rfl⟩⟩ dX12_shelve_175
                · have z_b_227 := trivial
                  have k_228 : i5_200_z < a3_z := z_nle hz_a3 hz_i5_200 c_220
                  refine lv_aload_n X.1 X.2.1 dX12_shelve_154 rfl (lv_at hl 1 rfl) ?_
                  obtain ⟨q_229, h_230, h_231, h_232⟩ := gQ_12_1257 hO_T_201.1 ha_x_L_202
                  refine r_getR (g := 1257) X hw ha_x_L_202 rfl 57 h_230 (by decide) rfl inn_X12_shelve_12 (by decide) (X.2.2.2.1 (.fieldLink RX12 137 "SilkMillModel" "wordOf" "[I") (by decide +kernel)) rfl (gv_1257 _ _) dX12_shelve_155 ?_
                  refine lv_bipush (v := 8) X.1 X.2.1 dX12_shelve_158 (by decide) ?_
                  refine lv_iload_n X.1 X.2.1 dX12_shelve_160 rfl (lv_at hl 2 rfl) ?_
                  refine lv_imul X.1 X.2.1 dX12_shelve_161 ?_
                  refine lv_topi (fun v_233 ev_233 => ?_)
                  have z_234 : v_233.toInt = 8 * a1_z := z_mul ev_233 ti_8 hz_a1 (by omega) (by omega)
                  refine lv_iload X.1 X.2.1 dX12_shelve_162 (lv_at hl 0 rfl) ?_
                  refine lv_iadd X.1 X.2.1 dX12_shelve_164 ?_
                  refine lv_topi (fun v_235 ev_235 => ?_)
                  have z_236 : v_235.toInt = (8 * a1_z) + i5_200_z := z_add ev_235 z_234 hz_i5_200 (by omega) (by omega)
                  refine lv_iload X.1 X.2.1 dX12_shelve_165 (lv_at hl 5 rfl) ?_
                  refine r_iast X hw h_231 rfl (by rw [h_232]; exact z_ix z_236 (by omega) (by omega)) dX12_shelve_167 (fun H locs hw => ?_)
                  obtain ⟨S_237, eS_237⟩ : ∃ T, T = sA T_201 q_229 (upd (pA T_201 q_229) (Int32.toNatClampNeg (v_235)) (a4)) := ⟨_, rfl⟩
                  rw [← eS_237] at hw
                  have hO_238 : Ok MSH S S_237 := hO_T_201.sA eS_237 h_231 (by decide +kernel) (uA_1354 hO_T_201.1 h_231)
                  have h_239 : pA S_237 q_229 (Int32.toNatClampNeg (v_235)) = a4 := tA_sAs eS_237
                  have t_240 : pR S_237 1257 x = some q_229 := tR_sA eS_237 h_230
                  have t_242 : pR T_201 1257 x = some q_229 := by have h := t_240; rw [eS_237, pR_sA] at h; exact h
                  have zs_241 : ∀ j, zA S_237 x 1257 j = if j = (((8 * a1_z) + i5_200_z)).toNat then a4_z else zA T_201 x 1257 j := by have h := zA_sAs eS_237 t_242 hz_a4; rw [z_nc z_236 (by omega)] at h; exact h
                  have f57_243 : ∀ j : Nat, zA S_237 x 1257 j = if j = (8 * a1_z + i5_200_z).toNat then a4_z else zA T_201 x 1257 j := by rw [show (8 * a1_z + i5_200_z).toNat = (((8 * a1_z) + i5_200_z)).toNat by omega]; exact zs_241
                  obtain ⟨x_244, ex_244⟩ : ∃ y : Int32, y = i5_200 + 1 := ⟨_, rfl⟩
                  have z_245 : x_244.toInt = i5_200_z + 1 := z_add ex_244 hz_i5_200 ti_1 (by omega) (by omega)
                  refine lv_iinc (v := x_244) (lv' := [(5, .int (x_244)), (0, .ref x), (1, .int (a1)), (2, .int (a2)), (3, .int (a3)), (4, .int (a4))]) X.1 X.2.1 dX12_shelve_168 hl (k := 0) rfl (by rw [ex_244]; rfl) (by decide) rfl (fun ls hl => ?_)
                  refine lv_goto (tgt := 148) X.1 X.2.1 dX12_shelve_171 (by decide) ?_
                  have t_246 : At S_237 x 12 := tAt_sA eS_237 ha_x_L_202
                  have zc_247 : zA S_237 x 1207 = zA S x 1207 := (zA_sAn eS_237 (ex3 (gQ_12_1207 hO_T_201.1 ha_x_L_202)) h_231 rfl).trans zk_204
                  have zc_248 : zA S_237 x 1253 = zA S_124 x 1253 := (zA_sAn eS_237 (ex3 (gQ_12_1253 hO_T_201.1 ha_x_L_202)) h_231 rfl).trans zk_206
                  have zc_249 : zA S_237 x 1254 = zA S_135 x 1254 := (zA_sAn eS_237 (ex3 (gQ_12_1254 hO_T_201.1 ha_x_L_202)) h_231 rfl).trans zk_208
                  have zc_250 : zA S_237 x 1255 = zA S_152 x 1255 := (zA_sAn eS_237 (ex3 (gQ_12_1255 hO_T_201.1 ha_x_L_202)) h_231 rfl).trans zk_210
                  have zc_251 : zA S_237 x 1256 = zA S_188 x 1256 := (zA_sAn eS_237 (ex3 (gQ_12_1256 hO_T_201.1 ha_x_L_202)) h_231 rfl).trans zk_215
                  have mi_252 : MIe S_237 x (-1) := MIe_sA mk_216 hO_T_201.1 ha_x_L_202 h_231 eS_237 (by decide +kernel)
                  exact ih_L_199 _ (by omega) _ _ _ _ (x_244) (x_244.toInt) rfl hw rfl (by omega) t_246 hO_238 zc_247 zc_248 zc_249 zc_250 zc_251 mi_252 (by have h := up_rng f57_243 iv_217 (show (((8 * a1_z + i5_200_z).toNat : Nat) : Int) = 8 * a1_z + i5_200_z by omega) (by omega); rw [show 8 * a1_z + i5_200_z + 1 = 8 * a1_z + x_244.toInt by omega] at h; exact h) (by omega) (lv_sub hl [0, 1, 2, 3, 4, 5] rfl)
              have t_254 : At S_188 x 12 := tAt_sA eS_188 t_183
              have mi_255 : MIe S_188 x (-1) := MIe_sA mi_175 hO_153.1 t_183 h_186 eS_188 (by decide +kernel)
              have zc_256 : zA S_5 x 1257 = zA S x 1257 := zA_sI eS_5
              have zc_257 : zA S_124 x 1257 = zA S x 1257 := (zA_sAn eS_124 (ex3 (gQ_12_1257 hO_6.1 t_14)) h_17 rfl).trans zc_256
              have zc_258 : zA S_135 x 1257 = zA S x 1257 := (zA_sAn eS_135 (ex3 (gQ_12_1257 hO_125.1 t_130)) h_133 rfl).trans zc_257
              have zc_259 : zA S_152 x 1257 = zA S x 1257 := (zA_sAn eS_152 (ex3 (gQ_12_1257 hO_136.1 t_144)) h_147 rfl).trans zc_258
              have zc_260 : zA S_188 x 1257 = zA S x 1257 := (zA_sAn eS_188 (ex3 (gQ_12_1257 hO_153.1 t_183)) h_186 rfl).trans zc_259
              exact L_199 _ _ _ _ _ (0) (0) rfl hw ti_0 (by omega) t_254 hO_189 zc_203 zc_205 zc_207 zc_209 (Eq.refl _) mi_255 (fun j => by rw [if_neg (by omega), zc_260]) (by omega) (lv_sub hl [0, 1, 2, 3, 4, 5] rfl)
            · have z_b_261 := trivial
              refine lv_if_ne (tgt := 81) X.1 X.2.1 dX12_shelve_76 (by decide) (fun c_262 => absurd c_262 (by decide)) (fun c_262 => ?_)
              refine lv_iconst (v := 0) X.1 X.2.1 dX12_shelve_79 (by decide) ?_
              have mi_263 : MIe S_5 x (-1) := MIe_sI hp_0 hO.1 ha_x eS_5 (by decide +kernel)
              have zc_264 : zA S_5 x 1207 = zA S x 1207 := zA_sI eS_5
              have zc_265 : zA S_5 x 1254 = zA S x 1254 := zA_sI eS_5
              have zc_266 : zA S_5 x 1255 = zA S x 1255 := zA_sI eS_5
              have zc_267 : zA S_5 x 1256 = zA S x 1256 := zA_sI eS_5
              have zc_268 : zA S_5 x 1257 = zA S x 1257 := zA_sI eS_5
              rw [hQQ]
              exact ret_z X hw hr hlocks (Nat.le_of_ble_eq_true rfl) (Nat.le_of_ble_eq_true rfl) (by decide) ⟨hO_6, Or.inr ⟨⟨⟨mi_263, fun h => (by obtain ⟨h1, h2, h3, h4⟩ := h; have hz7 := congrFun zc_264 (60 * a3_z + a4_z).toNat; have hz53 := congrFun zc_22 (a1_z).toNat; rcases h4 with ⟨h5, h6, h7, h8, h9, h10⟩ | h5 | ⟨h5, h6, h7⟩ <;> omega), zc_264, zc_22, zc_265, zc_266, zc_267⟩, zc_268⟩, rfl⟩⟩ dX12_shelve_80
        · have z_b_269 := trivial
          have k_270 : a2_z = 0 := z_eq hz_a2 ti_0 c_41
          refine lv_aload_n X.1 X.2.1 dX12_shelve_39 rfl (lv_at hl 0 rfl) ?_
          refine lv_iload_n X.1 X.2.1 dX12_shelve_40 rfl (lv_at hl 3 rfl) ?_
          refine lv_iload X.1 X.2.1 dX12_shelve_41 (lv_at hl 4 rfl) ?_
          have t_271 : pI S_5 1201 x = v_1 := tI_sI eS_5 rfl ev_1
          have pz_272 : (pI S_5 1201 x).toInt = v_1.toInt := (congrArg Int32.toInt t_271).trans rfl
          refine k_i (rm := { frames := 2, cells := 0, slots := 0, locals := 96 }) (av := [.ref x, .int (a3), .int (a4)]) X hw (va_runV (As := [.int (a3), .int (a4)]) (rest := []) (cfix X) (k_X12_isCocoon2 l G cy κ S_5 _ x (a3) (a3_z) (a4) (a4_z) hO_6.1 t_14 hz_a3 hz_a4) (cwV 2 X.2.2.2.1 gX12_shelve_X12_isCocoon rfl rfl rfl (by decide +kernel) ⟨Nat.le_of_ble_eq_true rfl, Nat.le_of_ble_eq_true rfl⟩) (pre_V X hw _ t_14 rfl (by decide) rfl) rfl rfl hl.1 rfl (lv_room (Nat.le_of_ble_eq_true rfl)) dX12_shelve_43 ⟨Nat.le_of_ble_eq_true rfl, Nat.le_of_ble_eq_true rfl⟩) 0 0 (Nat.le_of_ble_eq_true rfl) (Nat.le_of_ble_eq_true rfl) (fun rr_273 S_274 H locs hp hw hfr hnw => ?_)
          obtain ⟨e2, hp⟩ := hp
          subst e2
          rcases hp with ⟨f_275, er_276⟩ | ⟨f_275, er_276⟩ <;> subst er_276
          · have z_b_277 := trivial
            have zc_278 : zA S_5 x 1202 = zA S x 1202 := zA_sI eS_5
            have zz_279 := congrFun zc_278 a3_z.toNat
            refine lv_if_eq (tgt := 79) X.1 X.2.1 dX12_shelve_46 (by decide) (fun c_280 => absurd c_280 (by decide)) (fun c_280 => ?_)
            refine lv_aload_n X.1 X.2.1 dX12_shelve_49 rfl (lv_at hl 0 rfl) ?_
            obtain ⟨q_281, h_282, h_283, h_284⟩ := gQ_12_1207 hO_6.1 t_14
            refine r_getR (g := 1207) X hw t_14 rfl 7 h_282 (by decide) rfl inn_X12_shelve_12 (by decide) (X.2.2.2.1 (.fieldLink RX12 25 "SilkMillModel" "stand" "[I") (by decide +kernel)) rfl (gv_1207 _ _) dX12_shelve_50 ?_
            refine lv_bipush (v := 60) X.1 X.2.1 dX12_shelve_53 (by decide) ?_
            refine lv_iload_n X.1 X.2.1 dX12_shelve_55 rfl (lv_at hl 3 rfl) ?_
            refine lv_imul X.1 X.2.1 dX12_shelve_56 ?_
            refine lv_topi (fun v_285 ev_285 => ?_)
            have z_286 : v_285.toInt = 60 * a3_z := z_mul ev_285 ti_60 hz_a3 (by omega) (by omega)
            refine lv_iload X.1 X.2.1 dX12_shelve_57 (lv_at hl 4 rfl) ?_
            refine lv_iadd X.1 X.2.1 dX12_shelve_59 ?_
            refine lv_topi (fun v_287 ev_287 => ?_)
            have z_288 : v_287.toInt = (60 * a3_z) + a4_z := z_add ev_287 z_286 hz_a4 (by omega) (by omega)
            refine r_iald X hw h_283 rfl (by rw [h_284]; exact z_ix z_288 (by omega) (by omega)) dX12_shelve_60 ?_
            refine lv_topi (fun v_289 ev_289 => ?_)
            have rg_290 := And.intro (z_lo v_289) (z_hi v_289)
            have ev_289 := ev_289.symm
            have zf_291 : zA S_5 x 1207 (((60 * a3_z) + a4_z)).toNat = v_289.toInt := (zA_of h_282 z_288 (by omega) ev_289)
            have zc_292 : zA S_5 x 1207 = zA S x 1207 := zA_sI eS_5
            have zz_293 := congrFun zc_292 (((60 * a3_z) + a4_z).toNat)
            have zz_294 := congrFun zc_292 (60 * a3_z + a4_z).toNat
            refine lv_if_ne (tgt := 79) X.1 X.2.1 dX12_shelve_61 (by decide) (fun c_295 => ?_) (fun c_295 => ?_)
            · have z_b_296 := trivial
              have k_297 : v_289.toInt ≠ 0 := z_ne rfl ti_0 c_295
              refine lv_iconst (v := 0) X.1 X.2.1 dX12_shelve_79 (by decide) ?_
              have mi_298 : MIe S_5 x (-1) := MIe_sI hp_0 hO.1 ha_x eS_5 (by decide +kernel)
              have zc_299 : zA S_5 x 1254 = zA S x 1254 := zA_sI eS_5
              have zc_300 : zA S_5 x 1255 = zA S x 1255 := zA_sI eS_5
              have zc_301 : zA S_5 x 1256 = zA S x 1256 := zA_sI eS_5
              have zc_302 : zA S_5 x 1257 = zA S x 1257 := zA_sI eS_5
              rw [hQQ]
              exact ret_z X hw hr hlocks (Nat.le_of_ble_eq_true rfl) (Nat.le_of_ble_eq_true rfl) (by decide) ⟨hO_6, Or.inr ⟨⟨⟨mi_298, fun h => (by obtain ⟨h1, h2, h3, h4⟩ := h; have hz7 := congrFun zc_292 (60 * a3_z + a4_z).toNat; have hz53 := congrFun zc_22 (a1_z).toNat; rcases h4 with ⟨h5, h6, h7, h8, h9, h10⟩ | h5 | ⟨h5, h6, h7⟩ <;> omega), zc_292, zc_22, zc_299, zc_300, zc_301⟩, zc_302⟩, rfl⟩⟩ dX12_shelve_80
            · have z_b_303 := trivial
              have k_304 : v_289.toInt = 0 := z_eq rfl ti_0 c_295
              refine lv_iload_n X.1 X.2.1 dX12_shelve_64 rfl (lv_at hl 2 rfl) ?_
              refine lv_iconst (v := 2) X.1 X.2.1 dX12_shelve_65 (by decide) ?_
              refine lv_icmp_ne (tgt := 81) X.1 X.2.1 dX12_shelve_66 (by decide) (fun c_305 => ?_) (fun c_305 => ?_)
              rotate_left
              · exfalso
                have k_306 : a2_z = 2 := z_eq hz_a2 ti_2 c_305
                omega
              have k_307 : a2_z ≠ 2 := z_ne hz_a2 ti_2 c_305
              refine lv_aload_n X.1 X.2.1 dX12_shelve_81 rfl (lv_at hl 0 rfl) ?_
              refine r_getR (g := 1253) X hw t_14 rfl 53 h_16 (by decide) rfl inn_X12_shelve_12 (by decide) (X.2.2.2.1 (.fieldLink RX12 125 "SilkMillModel" "isLaid" "[Z") (by decide +kernel)) rfl (gv_1253 _ _) dX12_shelve_82 ?_
              refine lv_iload_n X.1 X.2.1 dX12_shelve_85 rfl (lv_at hl 1 rfl) ?_
              refine lv_iconst (v := 1) X.1 X.2.1 dX12_shelve_86 (by decide) ?_
              refine r_zast X hw h_17 rfl (by rw [h_18]; exact z_ix hz_a1 (by omega) (by omega)) dX12_shelve_87 (fun H locs hw => ?_)
              obtain ⟨S_308, eS_308⟩ : ∃ T, T = sA S_5 q_15 (upd (pA S_5 q_15) (Int32.toNatClampNeg (a1)) (vp_nar .boolean (1))) := ⟨_, rfl⟩
              rw [← eS_308] at hw
              have hO_309 : Ok MSH S S_308 := hO_6.sA eS_308 h_17 (by decide +kernel) (uA_1275 hO_6.1 h_17)
              have t_310 : pR S_308 1253 x = some q_15 := tR_sA eS_308 h_16
              have t_312 : pR S_5 1253 x = some q_15 := by have h := t_310; rw [eS_308, pR_sA] at h; exact h
              have zs_311 : ∀ j, zA S_308 x 1253 j = if j = (a1_z).toNat then 1 else zA S_5 x 1253 j := by have h := zA_sAs eS_308 t_312 nar1; rw [z_nc hz_a1 (by omega)] at h; exact h
              have zs_313 : ∀ j, zA S_308 x 1253 j = if j = (a1_z).toNat then 1 else zA S x 1253 j := fun j => by rw [zs_311 j, zc_22]
              refine lv_aload_n X.1 X.2.1 dX12_shelve_88 rfl (lv_at hl 0 rfl) ?_
              have t_314 : At S_308 x 12 := tAt_sA eS_308 t_14
              obtain ⟨q_315, h_316, h_317, h_318⟩ := gQ_12_1254 hO_309.1 t_314
              refine r_getR (g := 1254) X hw t_314 rfl 54 h_316 (by decide) rfl inn_X12_shelve_12 (by decide) (X.2.2.2.1 (.fieldLink RX12 128 "SilkMillModel" "laid" "[I") (by decide +kernel)) rfl (gv_1254 _ _) dX12_shelve_89 ?_
              refine lv_iload_n X.1 X.2.1 dX12_shelve_92 rfl (lv_at hl 1 rfl) ?_
              refine lv_iload_n X.1 X.2.1 dX12_shelve_93 rfl (lv_at hl 2 rfl) ?_
              refine r_iast X hw h_317 rfl (by rw [h_318]; exact z_ix hz_a1 (by omega) (by omega)) dX12_shelve_94 (fun H locs hw => ?_)
              obtain ⟨S_319, eS_319⟩ : ∃ T, T = sA S_308 q_315 (upd (pA S_308 q_315) (Int32.toNatClampNeg (a1)) (a2)) := ⟨_, rfl⟩
              rw [← eS_319] at hw
              have hO_320 : Ok MSH S S_319 := hO_309.sA eS_319 h_317 (by decide +kernel) (uA_1294 hO_309.1 h_317)
              have h_321 : pA S_319 q_315 (Int32.toNatClampNeg (a1)) = a2 := tA_sAs eS_319
              have zc_322 : zA S_5 x 1254 = zA S x 1254 := zA_sI eS_5
              have zc_323 : zA S_308 x 1254 = zA S x 1254 := (zA_sAn eS_308 (ex3 (gQ_12_1254 hO_6.1 t_14)) h_17 rfl).trans zc_322
              have t_324 : pR S_319 1254 x = some q_315 := tR_sA eS_319 h_316
              have t_326 : pR S_308 1254 x = some q_315 := by have h := t_324; rw [eS_319, pR_sA] at h; exact h
              have zs_325 : ∀ j, zA S_319 x 1254 j = if j = (a1_z).toNat then a2_z else zA S_308 x 1254 j := by have h := zA_sAs eS_319 t_326 hz_a2; rw [z_nc hz_a1 (by omega)] at h; exact h
              have zs_327 : ∀ j, zA S_319 x 1254 j = if j = (a1_z).toNat then a2_z else zA S x 1254 j := fun j => by rw [zs_325 j, zc_323]
              refine lv_aload_n X.1 X.2.1 dX12_shelve_95 rfl (lv_at hl 0 rfl) ?_
              have t_328 : At S_319 x 12 := tAt_sA eS_319 t_314
              obtain ⟨q_329, h_330, h_331, h_332⟩ := gQ_12_1255 hO_320.1 t_328
              refine r_getR (g := 1255) X hw t_328 rfl 55 h_330 (by decide) rfl inn_X12_shelve_12 (by decide) (X.2.2.2.1 (.fieldLink RX12 131 "SilkMillModel" "laidValue" "[I") (by decide +kernel)) rfl (gv_1255 _ _) dX12_shelve_96 ?_
              refine lv_iload_n X.1 X.2.1 dX12_shelve_99 rfl (lv_at hl 1 rfl) ?_
              refine lv_iload_n X.1 X.2.1 dX12_shelve_100 rfl (lv_at hl 2 rfl) ?_
              refine lv_if_ne (tgt := 114) X.1 X.2.1 dX12_shelve_101 (by decide) (fun c_333 => ?_) (fun c_333 => ?_)
              · exfalso
                have k_334 : a2_z ≠ 0 := z_ne hz_a2 ti_0 c_333
                omega
              have k_335 : a2_z = 0 := z_eq hz_a2 ti_0 c_333
              refine lv_bipush (v := 60) X.1 X.2.1 dX12_shelve_104 (by decide) ?_
              refine lv_iload_n X.1 X.2.1 dX12_shelve_106 rfl (lv_at hl 3 rfl) ?_
              refine lv_imul X.1 X.2.1 dX12_shelve_107 ?_
              refine lv_topi (fun v_336 ev_336 => ?_)
              have z_337 : v_336.toInt = 60 * a3_z := z_mul ev_336 ti_60 hz_a3 (by omega) (by omega)
              refine lv_iload X.1 X.2.1 dX12_shelve_108 (lv_at hl 4 rfl) ?_
              refine lv_iadd X.1 X.2.1 dX12_shelve_110 ?_
              refine lv_topi (fun v_338 ev_338 => ?_)
              have z_339 : v_338.toInt = (60 * a3_z) + a4_z := z_add ev_338 z_337 hz_a4 (by omega) (by omega)
              refine lv_goto (tgt := 115) X.1 X.2.1 dX12_shelve_111 (by decide) ?_
              refine r_iast X hw h_331 rfl (by rw [h_332]; exact z_ix hz_a1 (by omega) (by omega)) dX12_shelve_115 (fun H locs hw => ?_)
              obtain ⟨S_340, eS_340⟩ : ∃ T, T = sA S_319 q_329 (upd (pA S_319 q_329) (Int32.toNatClampNeg (a1)) (v_338)) := ⟨_, rfl⟩
              rw [← eS_340] at hw
              have hO_341 : Ok MSH S S_340 := hO_320.sA eS_340 h_331 (by decide +kernel) (uA_1314 hO_320.1 h_331)
              have h_342 : pA S_340 q_329 (Int32.toNatClampNeg (a1)) = v_338 := tA_sAs eS_340
              have zc_343 : zA S_5 x 1255 = zA S x 1255 := zA_sI eS_5
              have zc_344 : zA S_308 x 1255 = zA S x 1255 := (zA_sAn eS_308 (ex3 (gQ_12_1255 hO_6.1 t_14)) h_17 rfl).trans zc_343
              have zc_345 : zA S_319 x 1255 = zA S x 1255 := (zA_sAn eS_319 (ex3 (gQ_12_1255 hO_309.1 t_314)) h_317 rfl).trans zc_344
              have t_346 : pR S_340 1255 x = some q_329 := tR_sA eS_340 h_330
              have t_348 : pR S_319 1255 x = some q_329 := by have h := t_346; rw [eS_340, pR_sA] at h; exact h
              have zs_347 : ∀ j, zA S_340 x 1255 j = if j = (a1_z).toNat then ((60 * a3_z) + a4_z) else zA S_319 x 1255 j := by have h := zA_sAs eS_340 t_348 z_339; rw [z_nc hz_a1 (by omega)] at h; exact h
              have zs_349 : ∀ j, zA S_340 x 1255 j = if j = (a1_z).toNat then ((60 * a3_z) + a4_z) else zA S x 1255 j := fun j => by rw [zs_347 j, zc_345]
              refine lv_iload_n X.1 X.2.1 dX12_shelve_116 rfl (lv_at hl 2 rfl) ?_
              refine lv_if_ne (tgt := 133) X.1 X.2.1 dX12_shelve_117 (by decide) (fun c_350 => ?_) (fun c_350 => ?_)
              · exfalso
                have k_351 : a2_z ≠ 0 := z_ne hz_a2 ti_0 c_350
                omega
              have k_352 : a2_z = 0 := z_eq hz_a2 ti_0 c_350
              refine lv_aload_n X.1 X.2.1 dX12_shelve_120 rfl (lv_at hl 0 rfl) ?_
              have t_353 : At S_340 x 12 := tAt_sA eS_340 t_328
              have t_354 : pR S_308 1207 x = some q_281 := tR_sA eS_308 h_282
              have t_355 : pR S_319 1207 x = some q_281 := tR_sA eS_319 t_354
              have t_356 : pR S_340 1207 x = some q_281 := tR_sA eS_340 t_355
              refine r_getR (g := 1207) X hw t_353 rfl 7 t_356 (by decide) rfl inn_X12_shelve_12 (by decide) (X.2.2.2.1 (.fieldLink RX12 25 "SilkMillModel" "stand" "[I") (by decide +kernel)) rfl (gv_1207 _ _) dX12_shelve_121 ?_
              refine lv_bipush (v := 60) X.1 X.2.1 dX12_shelve_124 (by decide) ?_
              refine lv_iload_n X.1 X.2.1 dX12_shelve_126 rfl (lv_at hl 3 rfl) ?_
              refine lv_imul X.1 X.2.1 dX12_shelve_127 ?_
              refine lv_topi (fun v_357 ev_357 => ?_)
              have z_358 : v_357.toInt = 60 * a3_z := z_mul ev_357 ti_60 hz_a3 (by omega) (by omega)
              refine lv_iload X.1 X.2.1 dX12_shelve_128 (lv_at hl 4 rfl) ?_
              refine lv_iadd X.1 X.2.1 dX12_shelve_130 ?_
              refine lv_topi (fun v_359 ev_359 => ?_)
              have z_360 : v_359.toInt = (60 * a3_z) + a4_z := z_add ev_359 z_358 hz_a4 (by omega) (by omega)
              refine lv_iconst (v := 5) X.1 X.2.1 dX12_shelve_131 (by decide) ?_
              have t_361 : At S_308 q_281 354 := tAt_sA eS_308 h_283
              have t_362 : At S_319 q_281 354 := tAt_sA eS_319 t_361
              have t_363 : At S_340 q_281 354 := tAt_sA eS_340 t_362
              have t_364 : pN S_308 q_281 = 600 := tN_sA eS_308 h_284
              clear h_284
              have t_365 : pN S_319 q_281 = 600 := tN_sA eS_319 t_364
              clear t_364
              have t_366 : pN S_340 q_281 = 600 := tN_sA eS_340 t_365
              clear t_365
              refine r_iast X hw t_363 rfl (by rw [t_366]; exact z_ix z_360 (by omega) (by omega)) dX12_shelve_132 (fun H locs hw => ?_)
              obtain ⟨S_367, eS_367⟩ : ∃ T, T = sA S_340 q_281 (upd (pA S_340 q_281) (Int32.toNatClampNeg (v_359)) (5)) := ⟨_, rfl⟩
              rw [← eS_367] at hw
              have hO_368 : Ok MSH S S_367 := hO_341.sA eS_367 t_363 (by decide +kernel) (uA_354 hO_341.1 t_363)
              have h_369 : pA S_367 q_281 (Int32.toNatClampNeg (v_359)) = 5 := tA_sAs eS_367
              have zc_370 : zA S_308 x 1207 = zA S x 1207 := (zA_sAn eS_308 (ex3 (gQ_12_1207 hO_6.1 t_14)) h_17 rfl).trans zc_292
              have zc_371 : zA S_319 x 1207 = zA S x 1207 := (zA_sAn eS_319 (ex3 (gQ_12_1207 hO_309.1 t_314)) h_317 rfl).trans zc_370
              have zc_372 : zA S_340 x 1207 = zA S x 1207 := (zA_sAn eS_340 (ex3 (gQ_12_1207 hO_320.1 t_328)) h_331 rfl).trans zc_371
              have t_373 : pR S_367 1207 x = some q_281 := tR_sA eS_367 t_356
              have t_375 : pR S_340 1207 x = some q_281 := by have h := t_373; rw [eS_367, pR_sA] at h; exact h
              have zs_374 : ∀ j, zA S_367 x 1207 j = if j = (((60 * a3_z) + a4_z)).toNat then 5 else zA S_340 x 1207 j := by have h := zA_sAs eS_367 t_375 ti_5; rw [z_nc z_360 (by omega)] at h; exact h
              have zs_376 : ∀ j, zA S_367 x 1207 j = if j = (((60 * a3_z) + a4_z)).toNat then 5 else zA S x 1207 j := fun j => by rw [zs_374 j, zc_372]
              have zc_377 : zA S_319 x 1253 = zA S_308 x 1253 := zA_sAn eS_319 (ex3 (gQ_12_1253 hO_309.1 t_314)) h_317 rfl
              have zc_378 : zA S_340 x 1253 = zA S_308 x 1253 := (zA_sAn eS_340 (ex3 (gQ_12_1253 hO_320.1 t_328)) h_331 rfl).trans zc_377
              have zc_379 : zA S_367 x 1253 = zA S_308 x 1253 := (zA_sAn eS_367 (ex3 (gQ_12_1253 hO_341.1 t_353)) t_363 rfl).trans zc_378
              have zs_380 : ∀ j, zA S_367 x 1253 j = if j = (a1_z).toNat then 1 else zA S x 1253 j := fun j => by rw [zc_379]; exact zs_313 j
              have zc_381 : zA S_5 x 1254 = zA S x 1254 := zA_sI eS_5
              have zc_382 : zA S_308 x 1254 = zA S x 1254 := (zA_sAn eS_308 (ex3 (gQ_12_1254 hO_6.1 t_14)) h_17 rfl).trans zc_381
              have zc_383 : zA S_340 x 1254 = zA S_319 x 1254 := zA_sAn eS_340 (ex3 (gQ_12_1254 hO_320.1 t_328)) h_331 rfl
              have zc_384 : zA S_367 x 1254 = zA S_319 x 1254 := (zA_sAn eS_367 (ex3 (gQ_12_1254 hO_341.1 t_353)) t_363 rfl).trans zc_383
              have zs_385 : ∀ j, zA S_367 x 1254 j = if j = (a1_z).toNat then a2_z else zA S x 1254 j := fun j => by rw [zc_384]; exact zs_327 j
              have zc_386 : zA S_5 x 1255 = zA S x 1255 := zA_sI eS_5
              have zc_387 : zA S_308 x 1255 = zA S x 1255 := (zA_sAn eS_308 (ex3 (gQ_12_1255 hO_6.1 t_14)) h_17 rfl).trans zc_386
              have zc_388 : zA S_319 x 1255 = zA S x 1255 := (zA_sAn eS_319 (ex3 (gQ_12_1255 hO_309.1 t_314)) h_317 rfl).trans zc_387
              have zc_389 : zA S_367 x 1255 = zA S_340 x 1255 := zA_sAn eS_367 (ex3 (gQ_12_1255 hO_341.1 t_353)) t_363 rfl
              have zs_390 : ∀ j, zA S_367 x 1255 j = if j = (a1_z).toNat then ((60 * a3_z) + a4_z) else zA S x 1255 j := fun j => by rw [zc_389]; exact zs_349 j
              have zc_392 : zA S_308 x 1207 = zA S x 1207 := (zA_sAn eS_308 (ex3 (gQ_12_1207 hO_6.1 t_14)) h_17 rfl).trans zc_292
              have zc_393 : zA S_319 x 1207 = zA S x 1207 := (zA_sAn eS_319 (ex3 (gQ_12_1207 hO_309.1 t_314)) h_317 rfl).trans zc_392
              have zc_394 : zA S_340 x 1207 = zA S x 1207 := (zA_sAn eS_340 (ex3 (gQ_12_1207 hO_320.1 t_328)) h_331 rfl).trans zc_393
              have hla : ∀ j, zA S_367 x 1254 j = if j = (a1_z).toNat then 0 else zA S x 1254 j := fun j => by rw [zs_385 j]; split <;> omega
              have mi_391 : MI S_367 x := shelve_MI (p := (a1_z).toNat) (c := ((60 * a3_z) + a4_z)) hG ha_x hO_368.fr hp_0 (by omega) (by omega) (by omega) (by omega) zs_376 zs_380 hla zs_390
              refine lv_iload_n X.1 X.2.1 dX12_shelve_133 rfl (lv_at hl 2 rfl) ?_
              refine lv_iconst (v := 2) X.1 X.2.1 dX12_shelve_134 (by decide) ?_
              refine lv_icmp_ne (tgt := 174) X.1 X.2.1 dX12_shelve_135 (by decide) (fun c_395 => ?_) (fun c_395 => ?_)
              rotate_left
              · exfalso
                have k_396 : a2_z = 2 := z_eq hz_a2 ti_2 c_395
                omega
              have k_397 : a2_z ≠ 2 := z_ne hz_a2 ti_2 c_395
              refine lv_iconst (v := 1) X.1 X.2.1 dX12_shelve_174 (by decide) ?_
              have zs_398 : ∀ j, zA S_367 x 1253 j = if j = (a1_z).toNat then 1 else zA S x 1253 j := fun j => by rw [zc_379]; exact zs_313 j
              have zs_399 : ∀ j, zA S_367 x 1254 j = if j = (a1_z).toNat then a2_z else zA S x 1254 j := fun j => by rw [zc_384]; exact zs_327 j
              have zs_400 : ∀ j, zA S_367 x 1255 j = if j = (a1_z).toNat then ((60 * a3_z) + a4_z) else zA S x 1255 j := fun j => by rw [zc_389]; exact zs_349 j
              have zc_401 : zA S_5 x 1256 = zA S x 1256 := zA_sI eS_5
              have zc_402 : zA S_308 x 1256 = zA S x 1256 := (zA_sAn eS_308 (ex3 (gQ_12_1256 hO_6.1 t_14)) h_17 rfl).trans zc_401
              have zc_403 : zA S_319 x 1256 = zA S x 1256 := (zA_sAn eS_319 (ex3 (gQ_12_1256 hO_309.1 t_314)) h_317 rfl).trans zc_402
              have zc_404 : zA S_340 x 1256 = zA S x 1256 := (zA_sAn eS_340 (ex3 (gQ_12_1256 hO_320.1 t_328)) h_331 rfl).trans zc_403
              have zc_405 : zA S_367 x 1256 = zA S x 1256 := (zA_sAn eS_367 (ex3 (gQ_12_1256 hO_341.1 t_353)) t_363 rfl).trans zc_404
              have zc_406 : zA S_5 x 1257 = zA S x 1257 := zA_sI eS_5
              have zc_407 : zA S_308 x 1257 = zA S x 1257 := (zA_sAn eS_308 (ex3 (gQ_12_1257 hO_6.1 t_14)) h_17 rfl).trans zc_406
              have zc_408 : zA S_319 x 1257 = zA S x 1257 := (zA_sAn eS_319 (ex3 (gQ_12_1257 hO_309.1 t_314)) h_317 rfl).trans zc_407
              have zc_409 : zA S_340 x 1257 = zA S x 1257 := (zA_sAn eS_340 (ex3 (gQ_12_1257 hO_320.1 t_328)) h_331 rfl).trans zc_408
              have zc_410 : zA S_367 x 1257 = zA S x 1257 := (zA_sAn eS_367 (ex3 (gQ_12_1257 hO_341.1 t_353)) t_363 rfl).trans zc_409
              rw [hQQ]
              exact ret_z X hw hr hlocks (Nat.le_of_ble_eq_true rfl) (Nat.le_of_ble_eq_true rfl) (by decide) ⟨hO_368, Or.inl ⟨⟨⟨mi_391, ⟨by omega, by omega, by omega, Or.inl ⟨by omega, by omega, by omega, by omega, by omega, by omega⟩⟩, zs_398, (fun j => (zs_399 j).trans (by first | rfl | (split <;> first | rfl | omega))), (fun j => by rw [zs_400 j, if_pos (show a2_z = 0 by omega)]), (fun j => by rw [zs_376 j, if_pos (show a2_z = 0 by omega)]), (fun j => by rw [zc_405, if_neg (show ¬ a2_z = 2 by omega)])⟩, (fun j => by rw [zc_410, if_neg (by omega)])⟩, rfl⟩⟩ dX12_shelve_175
          · have z_b_411 := trivial
            have zc_412 : zA S_5 x 1202 = zA S x 1202 := zA_sI eS_5
            have zz_413 := congrFun zc_412 a3_z.toNat
            refine lv_if_eq (tgt := 79) X.1 X.2.1 dX12_shelve_46 (by decide) (fun c_414 => ?_) (fun c_414 => absurd c_414 (by decide))
            refine lv_iconst (v := 0) X.1 X.2.1 dX12_shelve_79 (by decide) ?_
            have mi_415 : MIe S_5 x (-1) := MIe_sI hp_0 hO.1 ha_x eS_5 (by decide +kernel)
            have zc_416 : zA S_5 x 1207 = zA S x 1207 := zA_sI eS_5
            have zc_417 : zA S_5 x 1254 = zA S x 1254 := zA_sI eS_5
            have zc_418 : zA S_5 x 1255 = zA S x 1255 := zA_sI eS_5
            have zc_419 : zA S_5 x 1256 = zA S x 1256 := zA_sI eS_5
            have zc_420 : zA S_5 x 1257 = zA S x 1257 := zA_sI eS_5
            rw [hQQ]
            exact ret_z X hw hr hlocks (Nat.le_of_ble_eq_true rfl) (Nat.le_of_ble_eq_true rfl) (by decide) ⟨hO_6, Or.inr ⟨⟨⟨mi_415, fun h => (by obtain ⟨h1, h2, h3, h4⟩ := h; have hz7 := congrFun zc_416 (60 * a3_z + a4_z).toNat; have hz53 := congrFun zc_22 (a1_z).toNat; rcases h4 with ⟨h5, h6, h7, h8, h9, h10⟩ | h5 | ⟨h5, h6, h7⟩ <;> omega), zc_416, zc_22, zc_417, zc_418, zc_419⟩, zc_420⟩, rfl⟩⟩ dX12_shelve_80
      · have z_b_421 := trivial
        refine lv_if_ne (tgt := 35) X.1 X.2.1 dX12_shelve_30 (by decide) (fun c_422 => absurd c_422 (by decide)) (fun c_422 => ?_)
        refine lv_iconst (v := 0) X.1 X.2.1 dX12_shelve_33 (by decide) ?_
        have mi_423 : MIe S_5 x (-1) := MIe_sI hp_0 hO.1 ha_x eS_5 (by decide +kernel)
        have zc_424 : zA S_5 x 1207 = zA S x 1207 := zA_sI eS_5
        have zc_425 : zA S_5 x 1254 = zA S x 1254 := zA_sI eS_5
        have zc_426 : zA S_5 x 1255 = zA S x 1255 := zA_sI eS_5
        have zc_427 : zA S_5 x 1256 = zA S x 1256 := zA_sI eS_5
        have zc_428 : zA S_5 x 1257 = zA S x 1257 := zA_sI eS_5
        rw [hQQ]
        exact ret_z X hw hr hlocks (Nat.le_of_ble_eq_true rfl) (Nat.le_of_ble_eq_true rfl) (by decide) ⟨hO_6, Or.inr ⟨⟨⟨mi_423, fun h => (by obtain ⟨h1, h2, h3, h4⟩ := h; have hz7 := congrFun zc_424 (60 * a3_z + a4_z).toNat; have hz53 := congrFun zc_22 (a1_z).toNat; rcases h4 with ⟨h5, h6, h7, h8, h9, h10⟩ | h5 | ⟨h5, h6, h7⟩ <;> omega), zc_424, zc_22, zc_425, zc_426, zc_427⟩, zc_428⟩, rfl⟩⟩ dX12_shelve_34
  · have z_b_429 := trivial
    refine lv_if_eq (tgt := 33) X.1 X.2.1 dX12_shelve_12 (by decide) (fun c_430 => ?_) (fun c_430 => absurd c_430 (by decide))
    refine lv_iconst (v := 0) X.1 X.2.1 dX12_shelve_33 (by decide) ?_
    have mi_431 : MIe S_5 x (-1) := MIe_sI hp_0 hO.1 ha_x eS_5 (by decide +kernel)
    have zc_432 : zA S_5 x 1207 = zA S x 1207 := zA_sI eS_5
    have zc_433 : zA S_5 x 1253 = zA S x 1253 := zA_sI eS_5
    have zc_434 : zA S_5 x 1254 = zA S x 1254 := zA_sI eS_5
    have zc_435 : zA S_5 x 1255 = zA S x 1255 := zA_sI eS_5
    have zc_436 : zA S_5 x 1256 = zA S x 1256 := zA_sI eS_5
    have zc_437 : zA S_5 x 1257 = zA S x 1257 := zA_sI eS_5
    rw [hQQ]
    exact ret_z X hw hr hlocks (Nat.le_of_ble_eq_true rfl) (Nat.le_of_ble_eq_true rfl) (by decide) ⟨hO_6, Or.inr ⟨⟨⟨mi_431, fun h => (by obtain ⟨h1, h2, h3, h4⟩ := h; have hz7 := congrFun zc_432 (60 * a3_z + a4_z).toNat; have hz53 := congrFun zc_433 (a1_z).toNat; rcases h4 with ⟨h5, h6, h7, h8, h9, h10⟩ | h5 | ⟨h5, h6, h7⟩ <;> omega), zc_432, zc_433, zc_434, zc_435, zc_436⟩, zc_437⟩, rfl⟩⟩ dX12_shelve_34
set_option maxHeartbeats 4000000 in
set_option maxRecDepth 100000 in
theorem k_X12_take4 (l : Launch) (G : va_G) (cy : Nat → ClassId) (κ : Nat → Nat) (S : PS) (sz : Nat) (x : Nat) (a1 : Int32) (a1_z : Int) (a2 : Int32) (a2_z : Int) (hG : GX S) (ha_x : At S x 12) (hz_a1 : a1.toInt = a1_z) (hz_a2 : a2.toInt = a2_z) (hp_0 : MI S x) : Ci l yX12_take wsX12_take ({ frames := 2, cells := 0, slots := 0, locals := 96 }) G cy κ S sz [.ref x, .int (a1), .int (a2)] (fun (r : Int32) (S9 : PS) => Ok MTA S S9 ∧ (MI S9 x ∧ (¬ (0 ≤ a1_z ∧ a1_z ≤ 15 ∧ 0 ≤ a2_z ∧ a2_z ≤ 2) → r.toInt = -1 ∧ zA S9 x 1207 = zA S x 1207 ∧ zA S9 x 1253 = zA S x 1253) ∧ (0 ≤ a1_z ∧ a1_z ≤ 15 ∧ 0 ≤ a2_z ∧ a2_z ≤ 2 → TkR S S9 x a1_z a2_z r.toInt) ∧ (0 ≤ a1_z ∧ a1_z ≤ 15 ∧ a2_z = 2 ∧ zA S x 1253 a1_z.toNat ≠ 0 ∧ zA S x 1254 a1_z.toNat = 2 ∧ zA S x 1256 a1_z.toNat ≠ 0 → r = sumI (fun i => mA S x 1257 ((8 * a1_z).toNat + i)) (zA S x 1256 a1_z.toNat).toNat))) := by
  refine ent_m (cc := cX12_take) (maxL := 5) (ret := (some .int)) (by decide) rfl (Nat.le_of_ble_eq_true rfl) ?_
  intro p e s m below meth c ls X hr hlocks hin hw hl hsz
  subst hsz
  have X : Cx p c cX12_take 5 s [.ref x, .int (a1), .int (a2)].toArray wsX12_take RX12 m G cy κ (AS S s.heap.size) := X
  have hl : lv_has ls 5 [(0, .ref x), (1, .int (a1)), (2, .int (a2))] := hl
  have rg_a1 : (-2147483648) ≤ a1_z ∧ a1_z ≤ 2147483647 := by rw [← hz_a1]; exact ⟨z_lo _, z_hi _⟩
  have rg_a2 : (-2147483648) ≤ a2_z ∧ a2_z ≤ 2147483647 := by rw [← hz_a2]; exact ⟨z_lo _, z_hi _⟩
  have hO : Ok MTA S S := Ok.rf hG
  generalize hQQ : MQ below _ _ _ _ _ _ = QQ
  replace hQQ := hQQ.symm
  obtain ⟨v_1, ev_1⟩ : ∃ v, pI S 1201 x = v := ⟨_, rfl⟩
  have rg_2 := gI_12_1201 hO.1 ha_x; rw [ev_1] at rg_2
  have pz_3 : (pI S 1201 x).toInt = v_1.toInt := (congrArg Int32.toInt ev_1).trans rfl
  refine lv_aload_n X.1 X.2.1 dX12_take_0 rfl (lv_at hl 0 rfl) ?_
  refine lv_iconst (v := 0) X.1 X.2.1 dX12_take_1 (by decide) ?_
  refine r_putI (v := 0) X hw ha_x rfl 0 1200 tyX12 (by decide) rfl inn_X12_take_12 tyX12_ok nmX12 (by decide) (X.2.2.2.1 (.fieldLink RX12 161 "SilkMillModel" "thrown" "I") (by decide +kernel)) rfl (Or.inl rfl) rfl rfl (Nat.le_of_ble_eq_true rfl) (st_1200 _ _) dX12_take_2 (fun H locs hw => ?_)
  obtain ⟨S_4, eS_4⟩ : ∃ T, T = sI S 1200 x (0) := ⟨_, rfl⟩
  rw [← eS_4] at hw
  have hO_5 : Ok MTA S S_4 := hO.sI eS_4 (by decide +kernel) (uI_12_1200 hO.1 ha_x)
  have h_6 : pI S_4 1200 x = 0 := tI_sIs eS_4
  refine lv_iload_n X.1 X.2.1 dX12_take_5 rfl (lv_at hl 1 rfl) ?_
  refine lv_iconst (v := 0) X.1 X.2.1 dX12_take_6 (by decide) ?_
  refine lv_bipush (v := 15) X.1 X.2.1 dX12_take_7 (by decide) ?_
  refine k_i (rm := { frames := 1, cells := 0, slots := 0, locals := 48 }) (av := [.int (a1), .int 0, .int 15]) X hw (va_runS (As := [.int (a1), .int 0, .int 15]) (rest := []) (cfix X) (k_X12_within l G cy κ S_4 _ (a1) (a1_z) (0) (0) (15) (15) hO_5.1 hz_a1 ti_0 ti_15) (cwS 3 X.2.2.2.1 gX12_take_X12_within rfl rfl rfl (by decide +kernel) ⟨Nat.le_of_ble_eq_true rfl, Nat.le_of_ble_eq_true rfl⟩) (pre_S X hw _) rfl rfl hl.1 rfl (lv_room (Nat.le_of_ble_eq_true rfl)) dX12_take_9 ⟨Nat.le_of_ble_eq_true rfl, Nat.le_of_ble_eq_true rfl⟩) 0 0 (Nat.le_of_ble_eq_true rfl) (Nat.le_of_ble_eq_true rfl) (fun rr_7 S_8 H locs hp hw hfr hnw => ?_)
  obtain ⟨e2, hp⟩ := hp
  subst e2
  rcases hp with ⟨f_9, er_10⟩ | ⟨f_9, er_10⟩ <;> subst er_10
  · have z_b_11 := trivial
    refine lv_if_eq (tgt := 24) X.1 X.2.1 dX12_take_12 (by decide) (fun c_12 => absurd c_12 (by decide)) (fun c_12 => ?_)
    refine lv_iload_n X.1 X.2.1 dX12_take_15 rfl (lv_at hl 2 rfl) ?_
    refine lv_iconst (v := 0) X.1 X.2.1 dX12_take_16 (by decide) ?_
    refine lv_iconst (v := 2) X.1 X.2.1 dX12_take_17 (by decide) ?_
    refine k_i (rm := { frames := 1, cells := 0, slots := 0, locals := 48 }) (av := [.int (a2), .int 0, .int 2]) X hw (va_runS (As := [.int (a2), .int 0, .int 2]) (rest := []) (cfix X) (k_X12_within l G cy κ S_4 _ (a2) (a2_z) (0) (0) (2) (2) hO_5.1 hz_a2 ti_0 ti_2) (cwS 3 X.2.2.2.1 gX12_take_X12_within rfl rfl rfl (by decide +kernel) ⟨Nat.le_of_ble_eq_true rfl, Nat.le_of_ble_eq_true rfl⟩) (pre_S X hw _) rfl rfl hl.1 rfl (lv_room (Nat.le_of_ble_eq_true rfl)) dX12_take_18 ⟨Nat.le_of_ble_eq_true rfl, Nat.le_of_ble_eq_true rfl⟩) 0 0 (Nat.le_of_ble_eq_true rfl) (Nat.le_of_ble_eq_true rfl) (fun rr_13 S_14 H locs hp hw hfr hnw => ?_)
    obtain ⟨e2, hp⟩ := hp
    subst e2
    rcases hp with ⟨f_15, er_16⟩ | ⟨f_15, er_16⟩ <;> subst er_16
    · have z_b_17 := trivial
      refine lv_if_ne (tgt := 26) X.1 X.2.1 dX12_take_21 (by decide) (fun c_18 => ?_) (fun c_18 => absurd c_18 (by decide))
      refine lv_aload_n X.1 X.2.1 dX12_take_26 rfl (lv_at hl 0 rfl) ?_
      have t_19 : At S_4 x 12 := tAt_sI eS_4 ha_x
      obtain ⟨q_20, h_21, h_22, h_23⟩ := gQ_12_1253 hO_5.1 t_19
      refine r_getR (g := 1253) X hw t_19 rfl 53 h_21 (by decide) rfl inn_X12_take_12 (by decide) (X.2.2.2.1 (.fieldLink RX12 125 "SilkMillModel" "isLaid" "[Z") (by decide +kernel)) rfl (gv_1253 _ _) dX12_take_27 ?_
      refine lv_iload_n X.1 X.2.1 dX12_take_30 rfl (lv_at hl 1 rfl) ?_
      refine r_zald X hw h_22 rfl (by rw [h_23]; exact z_ix hz_a1 (by omega) (by omega)) dX12_take_31 ?_
      refine lv_topi (fun v_24 ev_24 => ?_)
      have rg_25 := And.intro (z_lo v_24) (z_hi v_24)
      have ev_24 := ev_24.symm
      have zf_26 : zA S_4 x 1253 (a1_z).toNat = v_24.toInt := (zA_of h_21 hz_a1 (by omega) ev_24)
      have zc_27 : zA S_4 x 1253 = zA S x 1253 := zA_sI eS_4
      have zz_28 := congrFun zc_27 ((a1_z).toNat)
      refine lv_if_ne (tgt := 38) X.1 X.2.1 dX12_take_32 (by decide) (fun c_29 => ?_) (fun c_29 => ?_)
      · have z_b_30 := trivial
        have k_31 : v_24.toInt ≠ 0 := z_ne rfl ti_0 c_29
        refine lv_aload_n X.1 X.2.1 dX12_take_38 rfl (lv_at hl 0 rfl) ?_
        obtain ⟨q_32, h_33, h_34, h_35⟩ := gQ_12_1254 hO_5.1 t_19
        refine r_getR (g := 1254) X hw t_19 rfl 54 h_33 (by decide) rfl inn_X12_take_12 (by decide) (X.2.2.2.1 (.fieldLink RX12 128 "SilkMillModel" "laid" "[I") (by decide +kernel)) rfl (gv_1254 _ _) dX12_take_39 ?_
        refine lv_iload_n X.1 X.2.1 dX12_take_42 rfl (lv_at hl 1 rfl) ?_
        refine r_iald X hw h_34 rfl (by rw [h_35]; exact z_ix hz_a1 (by omega) (by omega)) dX12_take_43 ?_
        refine lv_topi (fun v_36 ev_36 => ?_)
        have rg_37 := And.intro (z_lo v_36) (z_hi v_36)
        have ev_36 := ev_36.symm
        have zf_38 : zA S_4 x 1254 (a1_z).toNat = v_36.toInt := (zA_of h_33 hz_a1 (by omega) ev_36)
        have zc_39 : zA S_4 x 1254 = zA S x 1254 := zA_sI eS_4
        have zz_40 := congrFun zc_39 ((a1_z).toNat)
        refine lv_iload_n X.1 X.2.1 dX12_take_44 rfl (lv_at hl 2 rfl) ?_
        refine lv_icmp_eq (tgt := 51) X.1 X.2.1 dX12_take_45 (by decide) (fun c_41 => ?_) (fun c_41 => ?_)
        · have z_b_42 := trivial
          have k_43 : v_36.toInt = a2_z := z_eq rfl hz_a2 c_41
          refine lv_iload_n X.1 X.2.1 dX12_take_51 rfl (lv_at hl 2 rfl) ?_
          refine lv_iconst (v := 2) X.1 X.2.1 dX12_take_52 (by decide) ?_
          refine lv_icmp_ne (tgt := 68) X.1 X.2.1 dX12_take_53 (by decide) (fun c_44 => ?_) (fun c_44 => ?_)
          · have z_b_45 := trivial
            have k_46 : a2_z ≠ 2 := z_ne hz_a2 ti_2 c_44
            refine lv_aload_n X.1 X.2.1 dX12_take_68 rfl (lv_at hl 0 rfl) ?_
            refine r_getR (g := 1253) X hw t_19 rfl 53 h_21 (by decide) rfl inn_X12_take_12 (by decide) (X.2.2.2.1 (.fieldLink RX12 125 "SilkMillModel" "isLaid" "[Z") (by decide +kernel)) rfl (gv_1253 _ _) dX12_take_69 ?_
            refine lv_iload_n X.1 X.2.1 dX12_take_72 rfl (lv_at hl 1 rfl) ?_
            refine lv_iconst (v := 0) X.1 X.2.1 dX12_take_73 (by decide) ?_
            refine r_zast X hw h_22 rfl (by rw [h_23]; exact z_ix hz_a1 (by omega) (by omega)) dX12_take_74 (fun H locs hw => ?_)
            obtain ⟨S_47, eS_47⟩ : ∃ T, T = sA S_4 q_20 (upd (pA S_4 q_20) (Int32.toNatClampNeg (a1)) (vp_nar .boolean (0))) := ⟨_, rfl⟩
            rw [← eS_47] at hw
            have hO_48 : Ok MTA S S_47 := hO_5.sA eS_47 h_22 (by decide +kernel) (uA_1275 hO_5.1 h_22)
            have t_49 : pR S_47 1253 x = some q_20 := tR_sA eS_47 h_21
            have t_51 : pR S_4 1253 x = some q_20 := by have h := t_49; rw [eS_47, pR_sA] at h; exact h
            have zs_50 : ∀ j, zA S_47 x 1253 j = if j = (a1_z).toNat then 0 else zA S_4 x 1253 j := by have h := zA_sAs eS_47 t_51 nar0; rw [z_nc hz_a1 (by omega)] at h; exact h
            have zs_52 : ∀ j, zA S_47 x 1253 j = if j = (a1_z).toNat then 0 else zA S x 1253 j := fun j => by rw [zs_50 j, zc_27]
            have hm_53 : Ok MSH S S_47 := ⟨hO_48.1, hO_48.2.1.mono (by decide +kernel), hO_48.2.2⟩
            have zc_54 : zA S_4 x 1207 = zA S x 1207 := zA_sI eS_4
            have zc_55 : zA S_47 x 1207 = zA S x 1207 := (zA_sAn eS_47 (ex3 (gQ_12_1207 hO_5.1 t_19)) h_22 rfl).trans zc_54
            have zc_56 : zA S_47 x 1254 = zA S x 1254 := (zA_sAn eS_47 (ex3 (gQ_12_1254 hO_5.1 t_19)) h_22 rfl).trans zc_39
            have zc_57 : zA S_4 x 1255 = zA S x 1255 := zA_sI eS_4
            have zc_58 : zA S_47 x 1255 = zA S x 1255 := (zA_sAn eS_47 (ex3 (gQ_12_1255 hO_5.1 t_19)) h_22 rfl).trans zc_57
            have mi_59 : MI S_47 x := lay_MI (p := (a1_z).toNat) hG ha_x hm_53.fr hp_0 zc_55 (fun j hj => by rw [zs_52 j, if_neg hj]) (fun j _ => congrFun zc_56 j) (fun j _ => congrFun zc_58 j) (Or.inl (by rw [zs_52, if_pos rfl]))
            refine lv_iload_n X.1 X.2.1 dX12_take_75 rfl (lv_at hl 2 rfl) ?_
            refine lv_iconst (v := 1) X.1 X.2.1 dX12_take_76 (by decide) ?_
            refine lv_icmp_ne (tgt := 87) X.1 X.2.1 dX12_take_77 (by decide) (fun c_60 => ?_) (fun c_60 => ?_)
            · have z_b_61 := trivial
              have k_62 : a2_z ≠ 1 := z_ne hz_a2 ti_1 c_60
              refine lv_iload_n X.1 X.2.1 dX12_take_87 rfl (lv_at hl 2 rfl) ?_
              refine lv_if_ne (tgt := 126) X.1 X.2.1 dX12_take_88 (by decide) (fun c_63 => ?_) (fun c_63 => ?_)
              · exfalso
                have k_64 : a2_z ≠ 0 := z_ne hz_a2 ti_0 c_63
                omega
              have k_65 : a2_z = 0 := z_eq hz_a2 ti_0 c_63
              refine lv_aload_n X.1 X.2.1 dX12_take_91 rfl (lv_at hl 0 rfl) ?_
              have t_66 : At S_47 x 12 := tAt_sA eS_47 t_19
              obtain ⟨q_67, h_68, h_69, h_70⟩ := gQ_12_1207 hO_48.1 t_66
              refine r_getR (g := 1207) X hw t_66 rfl 7 h_68 (by decide) rfl inn_X12_take_12 (by decide) (X.2.2.2.1 (.fieldLink RX12 25 "SilkMillModel" "stand" "[I") (by decide +kernel)) rfl (gv_1207 _ _) dX12_take_92 ?_
              refine lv_aload_n X.1 X.2.1 dX12_take_95 rfl (lv_at hl 0 rfl) ?_
              obtain ⟨q_71, h_72, h_73, h_74⟩ := gQ_12_1255 hO_48.1 t_66
              refine r_getR (g := 1255) X hw t_66 rfl 55 h_72 (by decide) rfl inn_X12_take_12 (by decide) (X.2.2.2.1 (.fieldLink RX12 131 "SilkMillModel" "laidValue" "[I") (by decide +kernel)) rfl (gv_1255 _ _) dX12_take_96 ?_
              refine lv_iload_n X.1 X.2.1 dX12_take_99 rfl (lv_at hl 1 rfl) ?_
              refine r_iald X hw h_73 rfl (by rw [h_74]; exact z_ix hz_a1 (by omega) (by omega)) dX12_take_100 ?_
              refine lv_topi (fun v_75 ev_75 => ?_)
              have rg_76 := And.intro (z_lo v_75) (z_hi v_75)
              have ev_75 := ev_75.symm
              have zf_77 : zA S_47 x 1255 (a1_z).toNat = v_75.toInt := (zA_of h_72 hz_a1 (by omega) ev_75)
              have hlv : zA S x 1255 (a1_z).toNat = v_75.toInt := (congrFun zc_58 _).symm.trans zf_77
              obtain ⟨tf1, tf2, tf3, tf4, tf5⟩ := take_free (p := (a1_z).toNat) hp_0 (by omega) (by omega) (by omega) hlv
              have zc_78 : zA S_4 x 1218 = zA S x 1218 := zA_sI eS_4
              have zc_79 : zA S_47 x 1218 = zA S x 1218 := (zA_sAn eS_47 (ex3 (gQ_12_1218 hO_5.1 t_19)) h_22 rfl).trans zc_78
              have zc_80 : zA S_4 x 1219 = zA S x 1219 := zA_sI eS_4
              have zc_81 : zA S_47 x 1219 = zA S x 1219 := (zA_sAn eS_47 (ex3 (gQ_12_1219 hO_5.1 t_19)) h_22 rfl).trans zc_80
              have hfre : Fre S_47 x v_75.toInt := take_fre zs_52 zc_56 zc_58 zc_79 zc_81 tf4 tf5
              have tf6 : zA S_47 x 1207 (v_75.toInt).toNat = 5 := (congrFun zc_55 _).trans tf3
              have t_82 : pI S_4 1201 x = v_1 := tI_sI eS_4 rfl ev_1
              have t_83 : pI S_47 1201 x = v_1 := tI_sA eS_47 t_82
              have pz_84 : (pI S_47 1201 x).toInt = v_1.toInt := (congrArg Int32.toInt t_83).trans rfl
              have hal := ((MI_1 mi_59 (c := v_75.toInt) (by omega) (by omega)).2 (by omega)).2 (by omega) (by omega)
              refine lv_iconst (v := 0) X.1 X.2.1 dX12_take_101 (by decide) ?_
              refine r_iast X hw h_69 rfl (by rw [h_70]; exact z_ix rfl (by omega) (by omega)) dX12_take_102 (fun H locs hw => ?_)
              obtain ⟨S_85, eS_85⟩ : ∃ T, T = sA S_47 q_67 (upd (pA S_47 q_67) (Int32.toNatClampNeg (v_75)) (0)) := ⟨_, rfl⟩
              rw [← eS_85] at hw
              have hO_86 : Ok MTA S S_85 := hO_48.sA eS_85 h_69 (by decide +kernel) (uA_354 hO_48.1 h_69)
              have h_87 : pA S_85 q_67 (Int32.toNatClampNeg (v_75)) = 0 := tA_sAs eS_85
              have t_88 : pR S_85 1207 x = some q_67 := tR_sA eS_85 h_68
              have t_90 : pR S_47 1207 x = some q_67 := by have h := t_88; rw [eS_85, pR_sA] at h; exact h
              have zs_89 : ∀ j, zA S_85 x 1207 j = if j = (v_75.toInt).toNat then 0 else zA S_47 x 1207 j := by have h := zA_sAs eS_85 t_90 ti_0; rw [z_nc rfl (by omega)] at h; exact h
              have mi_91 : MIe S_85 x (-1) := stand_MI (c := v_75.toInt) hO_48.1 t_66 (show Fr [10354] S_47 S_85 by rw [eS_85]; exact Fr_sA h_69 List.mem_cons_self) mi_59 (by omega) (by omega) hfre zs_89 (Or.inr (Or.inr hal))
              have t_93 : pR S_47 1207 x = some q_67 := by have h := t_88; rw [eS_85, pR_sA] at h; exact h
              have zs_92 : ∀ j, zA S_85 x 1207 j = if j = (v_75.toInt).toNat then 0 else zA S_47 x 1207 j := by have h := zA_sAs eS_85 t_93 ti_0; rw [z_nc rfl (by omega)] at h; exact h
              refine lv_aload_n X.1 X.2.1 dX12_take_103 rfl (lv_at hl 0 rfl) ?_
              have t_94 : At S_85 x 12 := tAt_sA eS_85 t_66
              have t_95 : pR S_85 1255 x = some q_71 := tR_sA eS_85 h_72
              refine r_getR (g := 1255) X hw t_94 rfl 55 t_95 (by decide) rfl inn_X12_take_12 (by decide) (X.2.2.2.1 (.fieldLink RX12 131 "SilkMillModel" "laidValue" "[I") (by decide +kernel)) rfl (gv_1255 _ _) dX12_take_104 ?_
              refine lv_iload_n X.1 X.2.1 dX12_take_107 rfl (lv_at hl 1 rfl) ?_
              have t_96 : At S_85 q_71 1314 := tAt_sA eS_85 h_73
              have t_97 : pN S_85 q_71 = 16 := tN_sA eS_85 h_74
              clear h_74
              refine r_iald X hw t_96 rfl (by rw [t_97]; exact z_ix hz_a1 (by omega) (by omega)) dX12_take_108 ?_
              have t_98 : pA S_85 q_71 (Int32.toNatClampNeg (a1)) = v_75 := tA_sA eS_85 (At_ne h_73 h_69 (by decide)) ev_75
              rw [t_98]
              refine lv_bipush (v := 60) X.1 X.2.1 dX12_take_109 (by decide) ?_
              refine lv_idiv X.1 X.2.1 dX12_take_111 (by decide) ?_
              refine lv_topi (fun v_99 ev_99 => ?_)
              have z_100 : v_99.toInt = v_75.toInt / 60 := z_div ev_99 rfl ti_60 (by omega) (by omega)
              refine lv_bipush (v := 100) X.1 X.2.1 dX12_take_112 (by decide) ?_
              refine lv_imul X.1 X.2.1 dX12_take_114 ?_
              refine lv_topi (fun v_101 ev_101 => ?_)
              have z_102 : v_101.toInt = (v_75.toInt / 60) * 100 := z_mul ev_101 z_100 ti_100 (by omega) (by omega)
              refine lv_aload_n X.1 X.2.1 dX12_take_115 rfl (lv_at hl 0 rfl) ?_
              refine r_getR (g := 1255) X hw t_94 rfl 55 t_95 (by decide) rfl inn_X12_take_12 (by decide) (X.2.2.2.1 (.fieldLink RX12 131 "SilkMillModel" "laidValue" "[I") (by decide +kernel)) rfl (gv_1255 _ _) dX12_take_116 ?_
              refine lv_iload_n X.1 X.2.1 dX12_take_119 rfl (lv_at hl 1 rfl) ?_
              refine r_iald X hw t_96 rfl (by rw [t_97]; exact z_ix hz_a1 (by omega) (by omega)) dX12_take_120 ?_
              rw [t_98]
              refine lv_bipush (v := 60) X.1 X.2.1 dX12_take_121 (by decide) ?_
              refine lv_irem X.1 X.2.1 dX12_take_123 (by decide) ?_
              refine lv_topi (fun v_103 ev_103 => ?_)
              have z_104 : v_103.toInt = v_75.toInt % 60 := z_rem ev_103 rfl ti_60 (by omega) (by omega)
              have z_105 : 0 ≤ v_103.toInt ∧ v_103.toInt < 60 := by rw [z_104]; exact ⟨Int.emod_nonneg _ (by omega), Int.emod_lt_of_pos _ (by omega)⟩
              refine lv_iadd X.1 X.2.1 dX12_take_124 ?_
              refine lv_topi (fun v_106 ev_106 => ?_)
              have z_107 : v_106.toInt = ((v_75.toInt / 60) * 100) + (v_75.toInt % 60) := z_add ev_106 z_102 z_104 (by omega) (by omega)
              have zc_108 : zA S_85 x 1253 = zA S_47 x 1253 := zA_sAn eS_85 (ex3 (gQ_12_1253 hO_48.1 t_66)) h_69 rfl
              have zs_109 : ∀ j, zA S_85 x 1253 j = if j = (a1_z).toNat then 0 else zA S x 1253 j := fun j => by rw [zc_108]; exact zs_52 j
              rw [hQQ]
              exact ret_i X hw hr hlocks (Nat.le_of_ble_eq_true rfl) (Nat.le_of_ble_eq_true rfl) ⟨hO_86, ⟨mi_91, fun h => by exfalso; omega, fun _ => Or.inr (Or.inr (Or.inr (Or.inr (Or.inr ⟨by omega, by omega, by omega, by rw [hlv]; omega, by rw [hlv]; exact (fun j => by rw [zs_92 j, zc_55]), zs_109⟩)))), (fun h => by exfalso; omega)⟩⟩ dX12_take_125
            · have z_b_110 := trivial
              have k_111 : a2_z = 1 := z_eq hz_a2 ti_1 c_60
              refine lv_aload_n X.1 X.2.1 dX12_take_80 rfl (lv_at hl 0 rfl) ?_
              have t_112 : At S_47 x 12 := tAt_sA eS_47 t_19
              obtain ⟨q_113, h_114, h_115, h_116⟩ := gQ_12_1255 hO_48.1 t_112
              refine r_getR (g := 1255) X hw t_112 rfl 55 h_114 (by decide) rfl inn_X12_take_12 (by decide) (X.2.2.2.1 (.fieldLink RX12 131 "SilkMillModel" "laidValue" "[I") (by decide +kernel)) rfl (gv_1255 _ _) dX12_take_81 ?_
              refine lv_iload_n X.1 X.2.1 dX12_take_84 rfl (lv_at hl 1 rfl) ?_
              refine r_iald X hw h_115 rfl (by rw [h_116]; exact z_ix hz_a1 (by omega) (by omega)) dX12_take_85 ?_
              refine lv_topi (fun v_117 ev_117 => ?_)
              have rg_118 := And.intro (z_lo v_117) (z_hi v_117)
              have ev_117 := ev_117.symm
              have zf_119 : zA S_47 x 1255 (a1_z).toNat = v_117.toInt := (zA_of h_114 hz_a1 (by omega) ev_117)
              have zz_120 := congrFun zc_58 (a1_z).toNat
              rw [hQQ]
              exact ret_i X hw hr hlocks (Nat.le_of_ble_eq_true rfl) (Nat.le_of_ble_eq_true rfl) ⟨hO_48, ⟨mi_59, fun h => by exfalso; omega, fun _ => Or.inr (Or.inr (Or.inr (Or.inr (Or.inl ⟨by omega, by omega, by omega, by omega, zc_55, zs_52⟩)))), (fun h => by exfalso; omega)⟩⟩ dX12_take_86
          · have z_b_121 := trivial
            have k_122 : a2_z = 2 := z_eq hz_a2 ti_2 c_44
            refine lv_aload_n X.1 X.2.1 dX12_take_56 rfl (lv_at hl 0 rfl) ?_
            obtain ⟨q_123, h_124, h_125, h_126⟩ := gQ_12_1256 hO_5.1 t_19
            refine r_getR (g := 1256) X hw t_19 rfl 56 h_124 (by decide) rfl inn_X12_take_12 (by decide) (X.2.2.2.1 (.fieldLink RX12 134 "SilkMillModel" "wordMany" "[I") (by decide +kernel)) rfl (gv_1256 _ _) dX12_take_57 ?_
            refine lv_iload_n X.1 X.2.1 dX12_take_60 rfl (lv_at hl 1 rfl) ?_
            refine r_iald X hw h_125 rfl (by rw [h_126]; exact z_ix hz_a1 (by omega) (by omega)) dX12_take_61 ?_
            refine lv_topi (fun v_127 ev_127 => ?_)
            have z_128 := gE_1334 hO_5.1 h_125 (Int32.toNatClampNeg (a1)); rw [← ev_127] at z_128
            have ev_127 := ev_127.symm
            have zf_129 : zA S_4 x 1256 (a1_z).toNat = v_127.toInt := (zA_of h_124 hz_a1 (by omega) ev_127)
            have zc_130 : zA S_4 x 1256 = zA S x 1256 := zA_sI eS_4
            have zz_131 := congrFun zc_130 ((a1_z).toNat)
            refine lv_if_ne (tgt := 68) X.1 X.2.1 dX12_take_62 (by decide) (fun c_132 => ?_) (fun c_132 => ?_)
            · have z_b_133 := trivial
              have k_134 : v_127.toInt ≠ 0 := z_ne rfl ti_0 c_132
              refine lv_aload_n X.1 X.2.1 dX12_take_68 rfl (lv_at hl 0 rfl) ?_
              refine r_getR (g := 1253) X hw t_19 rfl 53 h_21 (by decide) rfl inn_X12_take_12 (by decide) (X.2.2.2.1 (.fieldLink RX12 125 "SilkMillModel" "isLaid" "[Z") (by decide +kernel)) rfl (gv_1253 _ _) dX12_take_69 ?_
              refine lv_iload_n X.1 X.2.1 dX12_take_72 rfl (lv_at hl 1 rfl) ?_
              refine lv_iconst (v := 0) X.1 X.2.1 dX12_take_73 (by decide) ?_
              refine r_zast X hw h_22 rfl (by rw [h_23]; exact z_ix hz_a1 (by omega) (by omega)) dX12_take_74 (fun H locs hw => ?_)
              obtain ⟨S_135, eS_135⟩ : ∃ T, T = sA S_4 q_20 (upd (pA S_4 q_20) (Int32.toNatClampNeg (a1)) (vp_nar .boolean (0))) := ⟨_, rfl⟩
              rw [← eS_135] at hw
              have hO_136 : Ok MTA S S_135 := hO_5.sA eS_135 h_22 (by decide +kernel) (uA_1275 hO_5.1 h_22)
              have t_137 : pR S_135 1253 x = some q_20 := tR_sA eS_135 h_21
              have t_139 : pR S_4 1253 x = some q_20 := by have h := t_137; rw [eS_135, pR_sA] at h; exact h
              have zs_138 : ∀ j, zA S_135 x 1253 j = if j = (a1_z).toNat then 0 else zA S_4 x 1253 j := by have h := zA_sAs eS_135 t_139 nar0; rw [z_nc hz_a1 (by omega)] at h; exact h
              have zs_140 : ∀ j, zA S_135 x 1253 j = if j = (a1_z).toNat then 0 else zA S x 1253 j := fun j => by rw [zs_138 j, zc_27]
              have hm_141 : Ok MSH S S_135 := ⟨hO_136.1, hO_136.2.1.mono (by decide +kernel), hO_136.2.2⟩
              have zc_142 : zA S_4 x 1207 = zA S x 1207 := zA_sI eS_4
              have zc_143 : zA S_135 x 1207 = zA S x 1207 := (zA_sAn eS_135 (ex3 (gQ_12_1207 hO_5.1 t_19)) h_22 rfl).trans zc_142
              have zc_144 : zA S_135 x 1254 = zA S x 1254 := (zA_sAn eS_135 (ex3 (gQ_12_1254 hO_5.1 t_19)) h_22 rfl).trans zc_39
              have zc_145 : zA S_4 x 1255 = zA S x 1255 := zA_sI eS_4
              have zc_146 : zA S_135 x 1255 = zA S x 1255 := (zA_sAn eS_135 (ex3 (gQ_12_1255 hO_5.1 t_19)) h_22 rfl).trans zc_145
              have mi_147 : MI S_135 x := lay_MI (p := (a1_z).toNat) hG ha_x hm_141.fr hp_0 zc_143 (fun j hj => by rw [zs_140 j, if_neg hj]) (fun j _ => congrFun zc_144 j) (fun j _ => congrFun zc_146 j) (Or.inl (by rw [zs_140, if_pos rfl]))
              refine lv_iload_n X.1 X.2.1 dX12_take_75 rfl (lv_at hl 2 rfl) ?_
              refine lv_iconst (v := 1) X.1 X.2.1 dX12_take_76 (by decide) ?_
              refine lv_icmp_ne (tgt := 87) X.1 X.2.1 dX12_take_77 (by decide) (fun c_148 => ?_) (fun c_148 => ?_)
              rotate_left
              · exfalso
                have k_149 : a2_z = 1 := z_eq hz_a2 ti_1 c_148
                omega
              have k_150 : a2_z ≠ 1 := z_ne hz_a2 ti_1 c_148
              refine lv_iload_n X.1 X.2.1 dX12_take_87 rfl (lv_at hl 2 rfl) ?_
              refine lv_if_ne (tgt := 126) X.1 X.2.1 dX12_take_88 (by decide) (fun c_151 => ?_) (fun c_151 => ?_)
              rotate_left
              · exfalso
                have k_152 : a2_z = 0 := z_eq hz_a2 ti_0 c_151
                omega
              have k_153 : a2_z ≠ 0 := z_ne hz_a2 ti_0 c_151
              refine lv_iconst (v := 0) X.1 X.2.1 dX12_take_126 (by decide) ?_
              refine lv_istore_n (lv' := [(3, .int 0), (0, .ref x), (1, .int (a1)), (2, .int (a2))]) X.1 X.2.1 dX12_take_127 rfl hl (by decide) rfl (fun ls hl => ?_)
              refine lv_iconst (v := 0) X.1 X.2.1 dX12_take_128 (by decide) ?_
              refine lv_istore (lv' := [(4, .int 0), (3, .int 0), (0, .ref x), (1, .int (a1)), (2, .int (a2))]) X.1 X.2.1 dX12_take_129 hl (by decide) rfl (fun ls hl => ?_)
              have L_154 : ∀ (n : Nat) (H : Heap) (locs : List Loc) (ls : Array Slot) (i3_155 : Int32) (i3_155_z : Int) (i4_156 : Int32) (i4_156_z : Int), ((8 - i4_156_z).toNat = n) → (Wd G cy (AS S s.heap.size) s.heap S_135 H locs) → (i3_155.toInt = i3_155_z) → (i4_156.toInt = i4_156_z) → (0 ≤ i4_156_z ∧ i4_156_z ≤ 8) → (i3_155_z = (sumI (fun i => mA S x 1257 ((8 * a1_z).toNat + i)) (i4_156_z).toNat).toInt) → (i4_156_z ≤ zA S x 1256 a1_z.toNat) → (lv_has ls 5 [(3, .int (i3_155)), (4, .int (i4_156)), (0, .ref x), (1, .int (a1)), (2, .int (a2))]) → W p l e ({ frames := 2, cells := 0, slots := 0, locals := 96 }) s m [.ref x, .int (a1), .int (a2)].toArray below meth c H locs 0 0 QQ (F0 m 131 ls []) := by
                intro n
                induction n using Nat.strongRecOn with
                | ind n ih_L_154 =>
                intro H locs ls i3_155 i3_155_z i4_156 i4_156_z hn hw hz_i3_155 hz_i4_156 hr_i4_156 iv_157 iv_158 hl
                have rg_159 : (-2147483648) ≤ i3_155_z ∧ i3_155_z ≤ 2147483647 := by rw [← hz_i3_155]; exact ⟨z_lo _, z_hi _⟩
                have rg_160 : (-2147483648) ≤ i4_156_z ∧ i4_156_z ≤ 2147483647 := by rw [← hz_i4_156]; exact ⟨z_lo _, z_hi _⟩
                refine lv_iload X.1 X.2.1 dX12_take_131 (lv_at hl 1 rfl) ?_
                refine lv_aload_n X.1 X.2.1 dX12_take_133 rfl (lv_at hl 2 rfl) ?_
                have t_161 : At S_135 x 12 := tAt_sA eS_135 t_19
                have t_162 : pR S_135 1256 x = some q_123 := tR_sA eS_135 h_124
                refine r_getR (g := 1256) X hw t_161 rfl 56 t_162 (by decide) rfl inn_X12_take_12 (by decide) (X.2.2.2.1 (.fieldLink RX12 134 "SilkMillModel" "wordMany" "[I") (by decide +kernel)) rfl (gv_1256 _ _) dX12_take_134 ?_
                refine lv_iload_n X.1 X.2.1 dX12_take_137 rfl (lv_at hl 3 rfl) ?_
                have t_163 : At S_135 q_123 1334 := tAt_sA eS_135 h_125
                have t_164 : pN S_135 q_123 = 16 := tN_sA eS_135 h_126
                clear h_126
                refine r_iald X hw t_163 rfl (by rw [t_164]; exact z_ix hz_a1 (by omega) (by omega)) dX12_take_138 ?_
                have t_165 : pA S_135 q_123 (Int32.toNatClampNeg (a1)) = v_127 := tA_sA eS_135 (At_ne h_125 h_22 (by decide)) ev_127
                rw [t_165]
                refine lv_icmp_ge (tgt := 163) X.1 X.2.1 dX12_take_139 (by decide) (fun c_166 => ?_) (fun c_166 => ?_)
                · have z_b_167 := trivial
                  have k_168 : i4_156_z ≥ v_127.toInt := z_le rfl hz_i4_156 c_166
                  refine lv_iload_n X.1 X.2.1 dX12_take_163 rfl (lv_at hl 0 rfl) ?_
                  rw [hQQ]
                  exact ret_i X hw hr hlocks (Nat.le_of_ble_eq_true rfl) (Nat.le_of_ble_eq_true rfl) ⟨hO_136, ⟨mi_147, fun h => by exfalso; omega, fun _ => Or.inr (Or.inr (Or.inr (Or.inl ⟨by omega, by omega, by omega, by omega, zc_143, zs_140⟩))), (fun _ => Int32.toInt_inj.mp (by rw [hz_i3_155, iv_157, show (i4_156_z).toNat = (zA S x 1256 a1_z.toNat).toNat by omega]))⟩⟩ dX12_take_164
                · have z_b_169 := trivial
                  have k_170 : i4_156_z < v_127.toInt := z_nle rfl hz_i4_156 c_166
                  refine lv_iload_n X.1 X.2.1 dX12_take_142 rfl (lv_at hl 0 rfl) ?_
                  refine lv_aload_n X.1 X.2.1 dX12_take_143 rfl (lv_at hl 2 rfl) ?_
                  obtain ⟨q_171, h_172, h_173, h_174⟩ := gQ_12_1257 hO_136.1 t_161
                  refine r_getR (g := 1257) X hw t_161 rfl 57 h_172 (by decide) rfl inn_X12_take_12 (by decide) (X.2.2.2.1 (.fieldLink RX12 137 "SilkMillModel" "wordOf" "[I") (by decide +kernel)) rfl (gv_1257 _ _) dX12_take_144 ?_
                  refine lv_bipush (v := 8) X.1 X.2.1 dX12_take_147 (by decide) ?_
                  refine lv_iload_n X.1 X.2.1 dX12_take_149 rfl (lv_at hl 3 rfl) ?_
                  refine lv_imul X.1 X.2.1 dX12_take_150 ?_
                  refine lv_topi (fun v_175 ev_175 => ?_)
                  have z_176 : v_175.toInt = 8 * a1_z := z_mul ev_175 ti_8 hz_a1 (by omega) (by omega)
                  refine lv_iload X.1 X.2.1 dX12_take_151 (lv_at hl 1 rfl) ?_
                  refine lv_iadd X.1 X.2.1 dX12_take_153 ?_
                  refine lv_topi (fun v_177 ev_177 => ?_)
                  have z_178 : v_177.toInt = (8 * a1_z) + i4_156_z := z_add ev_177 z_176 hz_i4_156 (by omega) (by omega)
                  refine r_iald X hw h_173 rfl (by rw [h_174]; exact z_ix z_178 (by omega) (by omega)) dX12_take_154 ?_
                  refine lv_topi (fun v_179 ev_179 => ?_)
                  have rg_180 := And.intro (z_lo v_179) (z_hi v_179)
                  have ev_179 := ev_179.symm
                  refine lv_iadd X.1 X.2.1 dX12_take_155 ?_
                  refine lv_topi (fun v_181 ev_181 => ?_)
                  have rg_182 := And.intro (z_lo v_181) (z_hi v_181)
                  refine lv_istore_n (lv' := [(3, .int (v_181)), (4, .int (i4_156)), (0, .ref x), (1, .int (a1)), (2, .int (a2))]) X.1 X.2.1 dX12_take_156 rfl hl (by decide) rfl (fun ls hl => ?_)
                  obtain ⟨x_183, ex_183⟩ : ∃ y : Int32, y = i4_156 + 1 := ⟨_, rfl⟩
                  have z_184 : x_183.toInt = i4_156_z + 1 := z_add ex_183 hz_i4_156 ti_1 (by omega) (by omega)
                  refine lv_iinc (v := x_183) (lv' := [(4, .int (x_183)), (3, .int (v_181)), (0, .ref x), (1, .int (a1)), (2, .int (a2))]) X.1 X.2.1 dX12_take_157 hl (k := 1) rfl (by rw [ex_183]; rfl) (by decide) rfl (fun ls hl => ?_)
                  refine lv_goto (tgt := 131) X.1 X.2.1 dX12_take_160 (by decide) ?_
                  have zc_185 : mA S_4 x 1257 = mA S x 1257 := mA_sI eS_4
                  have zc_186 : mA S_135 x 1257 = mA S x 1257 := (mA_sAn eS_135 (ex3 (gQ_12_1257 hO_5.1 t_19)) h_22 rfl).trans zc_185
                  exact ih_L_154 _ (by omega) _ _ _ (v_181) (v_181.toInt) (x_183) (x_183.toInt) rfl hw rfl rfl (by omega) (by rw [show (x_183.toInt).toNat = (i4_156_z).toNat + 1 by omega]; show v_181.toInt = (sumI (fun i => mA S x 1257 ((8 * a1_z).toNat + i)) (i4_156_z).toNat + mA S x 1257 ((8 * a1_z).toNat + (i4_156_z).toNat)).toInt; rw [← (Int32.toInt_inj.mp (hz_i3_155.trans iv_157) : i3_155 = _), ← zc_186, mA_eq h_172, show (8 * a1_z).toNat + (i4_156_z).toNat = (Int32.toNatClampNeg (v_177)) from by rw [z_nc z_178 (by omega)]; omega, ev_179, ← ev_181]) (by omega) (lv_sub hl [1, 0, 2, 3, 4] rfl)
              exact L_154 _ _ _ _ (0) (0) (0) (0) rfl hw ti_0 ti_0 (by omega) (by rw [show (0 : Int).toNat = 0 from rfl]; exact ti_0.symm) (by omega) (lv_sub hl [1, 0, 2, 3, 4] rfl)
            · have z_b_187 := trivial
              have k_188 : v_127.toInt = 0 := z_eq rfl ti_0 c_132
              refine lv_bipush (v := (-4)) X.1 X.2.1 dX12_take_65 (by decide) ?_
              have mi_189 : MIe S_4 x (-1) := MIe_sI hp_0 hO.1 ha_x eS_4 (by decide +kernel)
              have zc_190 : zA S_4 x 1207 = zA S x 1207 := zA_sI eS_4
              rw [hQQ]
              exact ret_i X hw hr hlocks (Nat.le_of_ble_eq_true rfl) (Nat.le_of_ble_eq_true rfl) ⟨hO_5, ⟨mi_189, fun h => by exfalso; omega, fun _ => Or.inr (Or.inr (Or.inl ⟨by omega, by omega, by omega, by omega, by decide, ⟨zc_190, zc_27⟩⟩)), (fun h => by exfalso; omega)⟩⟩ dX12_take_67
        · have z_b_191 := trivial
          have k_192 : v_36.toInt ≠ a2_z := z_ne rfl hz_a2 c_41
          refine lv_bipush (v := (-3)) X.1 X.2.1 dX12_take_48 (by decide) ?_
          have mi_193 : MIe S_4 x (-1) := MIe_sI hp_0 hO.1 ha_x eS_4 (by decide +kernel)
          have zc_194 : zA S_4 x 1207 = zA S x 1207 := zA_sI eS_4
          rw [hQQ]
          exact ret_i X hw hr hlocks (Nat.le_of_ble_eq_true rfl) (Nat.le_of_ble_eq_true rfl) ⟨hO_5, ⟨mi_193, fun h => by exfalso; omega, fun _ => Or.inr (Or.inl ⟨by omega, by omega, by decide, ⟨zc_194, zc_27⟩⟩), (fun h => by exfalso; omega)⟩⟩ dX12_take_50
      · have z_b_195 := trivial
        have k_196 : v_24.toInt = 0 := z_eq rfl ti_0 c_29
        refine lv_bipush (v := (-2)) X.1 X.2.1 dX12_take_35 (by decide) ?_
        have mi_197 : MIe S_4 x (-1) := MIe_sI hp_0 hO.1 ha_x eS_4 (by decide +kernel)
        have zc_198 : zA S_4 x 1207 = zA S x 1207 := zA_sI eS_4
        rw [hQQ]
        exact ret_i X hw hr hlocks (Nat.le_of_ble_eq_true rfl) (Nat.le_of_ble_eq_true rfl) ⟨hO_5, ⟨mi_197, fun h => by exfalso; omega, fun _ => Or.inl ⟨by omega, by decide, ⟨zc_198, zc_27⟩⟩, (fun h => by exfalso; omega)⟩⟩ dX12_take_37
    · have z_b_199 := trivial
      refine lv_if_ne (tgt := 26) X.1 X.2.1 dX12_take_21 (by decide) (fun c_200 => absurd c_200 (by decide)) (fun c_200 => ?_)
      refine lv_iconst (v := (-1)) X.1 X.2.1 dX12_take_24 (by decide) ?_
      have mi_201 : MIe S_4 x (-1) := MIe_sI hp_0 hO.1 ha_x eS_4 (by decide +kernel)
      have zc_202 : zA S_4 x 1207 = zA S x 1207 := zA_sI eS_4
      have zc_203 : zA S_4 x 1253 = zA S x 1253 := zA_sI eS_4
      rw [hQQ]
      exact ret_i X hw hr hlocks (Nat.le_of_ble_eq_true rfl) (Nat.le_of_ble_eq_true rfl) ⟨hO_5, ⟨mi_201, fun _ => ⟨by decide, ⟨zc_202, zc_203⟩⟩, fun h => by exfalso; omega, (fun h => by exfalso; omega)⟩⟩ dX12_take_25
  · have z_b_204 := trivial
    refine lv_if_eq (tgt := 24) X.1 X.2.1 dX12_take_12 (by decide) (fun c_205 => ?_) (fun c_205 => absurd c_205 (by decide))
    refine lv_iconst (v := (-1)) X.1 X.2.1 dX12_take_24 (by decide) ?_
    have mi_206 : MIe S_4 x (-1) := MIe_sI hp_0 hO.1 ha_x eS_4 (by decide +kernel)
    have zc_207 : zA S_4 x 1207 = zA S x 1207 := zA_sI eS_4
    have zc_208 : zA S_4 x 1253 = zA S x 1253 := zA_sI eS_4
    rw [hQQ]
    exact ret_i X hw hr hlocks (Nat.le_of_ble_eq_true rfl) (Nat.le_of_ble_eq_true rfl) ⟨hO_5, ⟨mi_206, fun _ => ⟨by decide, ⟨zc_207, zc_208⟩⟩, fun h => by exfalso; omega, (fun h => by exfalso; omega)⟩⟩ dX12_take_25
