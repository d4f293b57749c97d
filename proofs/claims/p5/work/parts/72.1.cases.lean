set_option maxHeartbeats 4000000 in
set_option maxRecDepth 100000 in
theorem lc_8 {p : Program} {l : Launch} {e : Env} {s : State} {m : MethodId} {below : List Frame} {meth : Method} {c : Code} (hst : l.stackTraces = false) {b x mo oq L : Nat} {xs : Nat → Int32} {cL : ClassId} {G : va_G} {cy : Nat → ClassId} {κ : Nat → Nat} {S : PS} {H : Heap} {locs : List Loc} {ls : Array Slot} {cc nn : Nat} {Q : State → Prop} {i : Int32} {i_z : Int} (X : Cx p c cL_law 7 s #[Value.ref b] lw_tbl RL m G cy κ (fun q : Nat => s.heap.size ≤ q)) (hX : va_X b L xs s s.heap) (hbl : b < s.heap.size) (hbA : ¬ (fun q : Nat => s.heap.size ≤ q) b) (hdc : ∀ Y ∈ DcL, va_Nw (.declares (Bundle.initS Y)) s) (hkl : Kl cL s) (hAo : (fun q : Nat => s.heap.size ≤ q) oq) (hL : L ≤ 3072) (hz_i : i.toInt = i_z) (hi0 : 0 ≤ i_z) (hi1 : i_z + 6 ≤ (L : Int)) (hw : Wd G cy (fun q : Nat => s.heap.size ≤ q) s.heap S H locs) (hG : GX S) (hax : At S x 11) (ham : At S mo 12) (hMI : MI S mo) (hGR : GR S mo) (hTD : TD S x mo) (hLA : LA cL oq H) (hoq : oq ∉ pL S) (hl : lv_has ls 7 [(4, .int i), (3, .ref oq), (2, .ref mo), (1, .ref x), (0, .ref b)]) (hcc : cc + Phc S + 20000 ≤ 601024) (hnn : nn + Phs S + 100000 ≤ 7293034) (K : ∀ (S9 : PS) (H9 : Heap) (locs9 : List Loc) (ls9 : Array Slot) (c9 n9 : Nat), Wd G cy (fun q : Nat => s.heap.size ≤ q) s.heap S9 H9 locs9 → GX S9 → At S9 x 11 → At S9 mo 12 → MI S9 mo → GR S9 mo → TD S9 x mo → LA cL oq H9 → oq ∉ pL S9 → lv_has ls9 7 [(4, .int i), (3, .ref oq), (2, .ref mo), (1, .ref x), (0, .ref b)] → c9 + Phc S9 ≤ cc + Phc S + 102 → n9 + Phs S9 ≤ nn + Phs S + 1020 → W p l e room_1 s m #[Value.ref b] below meth c H9 locs9 c9 n9 Q (F0 m 1505 ls9 [])) : W p l e room_1 s m #[Value.ref b] below meth c H locs cc nn Q (F0 m 611 ls []) := by
  refine lv_aload_n X.1 X.2.1 dL_law_611 rfl (lv_at hl 3 rfl) ?_
  refine lv_aload_n X.1 X.2.1 dL_law_612 rfl (lv_at hl 4 rfl) ?_
  refine lv_iload X.1 X.2.1 dL_law_613 (lv_at hl 0 rfl) ?_
  refine lv_iconst (v := 1) X.1 X.2.1 dL_law_615 (by decide) ?_
  refine lv_iadd X.1 X.2.1 dL_law_616 ?_
  refine lv_topi (fun v_1 ev_1 => ?_)
  have z_2 : v_1.toInt = i_z + 1 := z_add ev_1 hz_i ti_1 (by omega) (by omega)
  refine va_sld X.1 X.2.1 hX hbl hbA hw.2.2 (z_ix rfl (by omega) (by omega)) dL_law_617 ?_
  refine lv_topi (fun v_3 ev_3 => ?_)
  have rg_4 := And.intro (z_lo v_3) (z_hi v_3)
  refine k_i (rm := { frames := 1, cells := 0, slots := 0, locals := 48 }) (av := [.ref x, .int (v_3)]) X hw (va_runV (As := [.int (v_3)]) (rest := []) (cfix X) (k_X11_end l G cy κ S _ x (v_3) (v_3.toInt) hG hax rfl) (cwV 1 X.2.2.2.1 gk_X11_end rfl rfl rfl (by decide +kernel) ⟨Nat.le_of_ble_eq_true rfl, Nat.le_of_ble_eq_true rfl⟩) (pre_V X hw _ hax rfl (by decide) rfl) rfl rfl hl.1 rfl (lv_room (Nat.le_of_ble_eq_true rfl)) dL_law_618 ⟨(by show cc + 0 ≤ 601024; omega), (by show nn + 0 ≤ 7293034; omega)⟩) cc nn (by show cc + 0 ≤ cc; omega) (by show nn + 0 ≤ nn; omega) (fun rr_5 S_6 H locs hp hw hfr hnw => ?_)
  have la_7 := LA_keep hLA hoq hfr
  have oq_8 := oq_keep hLA hoq hnw
  obtain ⟨hk_9, hp⟩ := hp
  have ax_12 : At S_6 x 11 := hk_9.fr.at hax
  have am_13 : At S_6 mo 12 := hk_9.fr.at ham
  have mi_10 : MI S_6 mo := MIe_free hG ham hk_9.fr (by decide +kernel) hMI
  have gr_11 : GR S_6 mo := GR_free hG ham hk_9.fr (by decide +kernel) hGR
  have ph_14 : Phc S_6 = Phc S := Ph_ok hG hk_9 (by decide +kernel) (by decide +kernel) (by decide +kernel)
  have ph_15 : Phs S_6 = Phs S := Ph_ok hG hk_9 (by decide +kernel) (by decide +kernel) (by decide +kernel)
  obtain ⟨⟨q_16, td_17, td_18, td_19⟩, td_20, td_21, ⟨u_22, td_23, td_24, td_25⟩, pn_26, ct_27, th_28, tx_29⟩ := hTD
  have hq_30 := mkhid hp
  have th_31 : pR S_6 1107 x = some q_16 := hk_9.fr.R' (by decide +kernel) hax td_17
  have th_32 : At S_6 q_16 8 := hk_9.fr.at td_18
  have th_35 : pR S_6 1105 x = some u_22 := hk_9.fr.R' (by decide +kernel) hax td_23
  have th_36 : At S_6 u_22 10 := hk_9.fr.at td_24
  have th_33 : pI S_6 801 q_16 = pI S 801 q_16 := hk_9.fr.I' (by decide +kernel) td_18 rfl
  have th_34 : pI S_6 1245 mo = pI S 1245 mo := hk_9.fr.I' (by decide +kernel) ham rfl
  have tf_40 : (pI S_6 1102 x).toInt = (pI S 1102 x).toInt := congrArg Int32.toInt (hk_9.fr.I' (by decide +kernel) hax rfl)
  have tf_41 : (pI S_6 1104 x).toInt = (pI S 1104 x).toInt := congrArg Int32.toInt (hk_9.fr.I' (by decide +kernel) hax rfl)
  have tf_42 : (pI S_6 1201 mo).toInt = (pI S 1201 mo).toInt := congrArg Int32.toInt (hk_9.fr.I' (by decide +kernel) ham rfl)
  have tf_43 : (pI S_6 1211 mo).toInt = (pI S 1211 mo).toInt := congrArg Int32.toInt (hk_9.fr.I' (by decide +kernel) ham rfl)
  have tf_44 := hp.2.2 _ td_23
  have tf_47 : (pI S_6 1228 mo).toInt = (pI S 1228 mo).toInt := congrArg Int32.toInt (hk_9.fr.I' (by decide +kernel) ham rfl)
  have tf_48 : (pI S_6 1228 mo).toInt = (pI S 1228 mo).toInt := congrArg Int32.toInt (hk_9.fr.I' (by decide +kernel) ham rfl)
  have th_50 : mA S_6 mo 1210 = thinF := TH_fr hG hk_9.fr ham (by decide +kernel) th_28
  have ct_49 : CT S_6 x mo := CT_eq hG hk_9.fr hax (by decide +kernel) (by decide +kernel) (S12_fr hG hk_9.fr ham (by decide +kernel)) ct_27
  have th_39 : PN S_6 x := PN_fr hG hax hk_9.fr (by decide +kernel) (by decide +kernel) (by decide +kernel) pn_26
  have hg_52 : GX S_6 := hk_9.1
  have rg_53 := And.intro (z_lo rr_5) (z_hi rr_5)
  refine lv_pop X.1 X.2.1 dL_law_621 rfl ?_
  refine lv_aload_n X.1 X.2.1 dL_law_622 rfl (lv_at hl 2 rfl) ?_
  refine lv_aload_n X.1 X.2.1 dL_law_623 rfl (lv_at hl 4 rfl) ?_
  refine lv_iload X.1 X.2.1 dL_law_624 (lv_at hl 0 rfl) ?_
  refine lv_iconst (v := 1) X.1 X.2.1 dL_law_626 (by decide) ?_
  refine lv_iadd X.1 X.2.1 dL_law_627 ?_
  refine lv_topi (fun v_54 ev_54 => ?_)
  have z_55 : v_54.toInt = i_z + 1 := z_add ev_54 hz_i ti_1 (by omega) (by omega)
  refine va_sld X.1 X.2.1 hX hbl hbA hw.2.2 (z_ix rfl (by omega) (by omega)) dL_law_628 ?_
  refine lv_topi (fun v_56 ev_56 => ?_)
  have es_57 : v_3 = v_56 := by rw [ev_3, ev_56, ev_1, ev_54]
  subst es_57
  refine k_i (rm := { frames := 2, cells := 0, slots := 0, locals := 96 }) (av := [.ref mo, .int (v_3)]) X hw (va_runV (As := [.int (v_3)]) (rest := []) (cfix X) (k_X12_end l G cy κ S_6 _ mo (v_3) (v_3.toInt) hg_52 am_13 rfl) (cwV 1 X.2.2.2.1 gk_X12_end rfl rfl rfl (by decide +kernel) ⟨Nat.le_of_ble_eq_true rfl, Nat.le_of_ble_eq_true rfl⟩) (pre_V X hw _ am_13 rfl (by decide) rfl) rfl rfl hl.1 rfl (lv_room (Nat.le_of_ble_eq_true rfl)) dL_law_629 ⟨(by show cc + 0 ≤ 601024; omega), (by show nn + 0 ≤ 7293034; omega)⟩) cc nn (by show cc + 0 ≤ cc; omega) (by show nn + 0 ≤ nn; omega) (fun rr_58 S_59 H locs hp hw hfr hnw => ?_)
  have la_60 := LA_keep la_7 oq_8 hfr
  have oq_61 := oq_keep la_7 oq_8 hnw
  obtain ⟨hk_62, hp⟩ := hp
  have ax_65 : At S_59 x 11 := hk_62.fr.at ax_12
  have am_66 : At S_59 mo 12 := hk_62.fr.at am_13
  have mi_63 : MI S_59 mo := MIe_free hg_52 am_13 hk_62.fr (by decide +kernel) mi_10
  have gr_64 : GR S_59 mo := GR_free hg_52 am_13 hk_62.fr (by decide +kernel) gr_11
  have ph_67 : Phc S_59 = Phc S_6 := Ph_ok hg_52 hk_62 (by decide +kernel) (by decide +kernel) (by decide +kernel)
  have ph_68 : Phs S_59 = Phs S_6 := Ph_ok hg_52 hk_62 (by decide +kernel) (by decide +kernel) (by decide +kernel)
  have th_69 : pR S_59 1107 x = some q_16 := hk_62.fr.R' (by decide +kernel) ax_12 th_31
  have th_70 : At S_59 q_16 8 := hk_62.fr.at th_32
  have th_73 : pR S_59 1105 x = some u_22 := hk_62.fr.R' (by decide +kernel) ax_12 th_35
  have th_74 : At S_59 u_22 10 := hk_62.fr.at th_36
  have th_71 : pI S_59 801 q_16 = pI S_6 801 q_16 := hk_62.fr.I' (by decide +kernel) th_32 rfl
  have th_72 : pI S_59 1245 mo = pI S_6 1245 mo := hk_62.fr.I' (by decide +kernel) am_13 rfl
  have tf_78 : (pI S_59 1102 x).toInt = (pI S_6 1102 x).toInt := congrArg Int32.toInt (hk_62.fr.I' (by decide +kernel) ax_12 rfl)
  have tf_79 : (pI S_59 1104 x).toInt = (pI S_6 1104 x).toInt := congrArg Int32.toInt (hk_62.fr.I' (by decide +kernel) ax_12 rfl)
  have tf_80 : (pI S_59 1201 mo).toInt = (pI S_6 1201 mo).toInt := congrArg Int32.toInt (hk_62.fr.I' (by decide +kernel) am_13 rfl)
  have tf_81 : (pI S_59 1211 mo).toInt = (pI S_6 1211 mo).toInt := congrArg Int32.toInt (hk_62.fr.I' (by decide +kernel) am_13 rfl)
  have tf_82 : (pI S_59 1000 u_22).toInt = (pI S_6 1000 u_22).toInt := congrArg Int32.toInt (hk_62.fr.I' (by decide +kernel) th_36 rfl)
  have tf_83 : (pI S_59 1000 u_22).toInt = (pI S_6 1000 u_22).toInt := congrArg Int32.toInt (hk_62.fr.I' (by decide +kernel) th_36 rfl)
  have tf_84 : (pI S_59 1000 u_22).toInt = (pI S_6 1000 u_22).toInt := congrArg Int32.toInt (hk_62.fr.I' (by decide +kernel) th_36 rfl)
  have tf_85 := hp.2.2
  have th_88 : mA S_59 mo 1210 = thinF := TH_fr hg_52 hk_62.fr am_13 (by decide +kernel) th_50
  have ct_87 : CT S_59 x mo := CT_eq hg_52 hk_62.fr ax_12 (by decide +kernel) (by decide +kernel) (S12_fr hg_52 hk_62.fr am_13 (by decide +kernel)) ct_49
  have th_77 : PN S_59 x := PN_fr hg_52 ax_12 hk_62.fr (by decide +kernel) (by decide +kernel) (by decide +kernel) th_39
  have td_89 : TD S_59 x mo := ⟨⟨q_16, th_69, th_70, by rw [th_71, th_33, th_72, th_34, td_19]⟩, by omega, by omega, ⟨u_22, th_73, th_74, by omega⟩, th_77, ct_87, th_88, TX_fr hg_52 hk_62.fr ax_12 am_13 (by decide +kernel) (TX_fr hG hk_9.fr hax ham (by decide +kernel) tx_29)⟩
  have rq_90 : rr_5.toInt = rr_58.toInt := by omega
  have hg_91 : GX S_59 := hk_62.1
  have rg_92 := And.intro (z_lo rr_58) (z_hi rr_58)
  refine lv_pop X.1 X.2.1 dL_law_632 rfl ?_
  refine lv_goto (tgt := 1505) X.1 X.2.1 dL_law_633 (by decide) ?_
  exact K _ _ _ _ cc nn hw hg_91 ax_65 am_66 mi_63 gr_64 td_89 la_60 oq_61 (lv_sub hl [0, 1, 2, 3, 4] rfl) (by omega) (by omega)
set_option maxHeartbeats 4000000 in
set_option maxRecDepth 100000 in
theorem lc_9 {p : Program} {l : Launch} {e : Env} {s : State} {m : MethodId} {below : List Frame} {meth : Method} {c : Code} (hst : l.stackTraces = false) {b x mo oq L : Nat} {xs : Nat → Int32} {cL : ClassId} {G : va_G} {cy : Nat → ClassId} {κ : Nat → Nat} {S : PS} {H : Heap} {locs : List Loc} {ls : Array Slot} {cc nn : Nat} {Q : State → Prop} {i : Int32} {i_z : Int} (X : Cx p c cL_law 7 s #[Value.ref b] lw_tbl RL m G cy κ (fun q : Nat => s.heap.size ≤ q)) (hX : va_X b L xs s s.heap) (hbl : b < s.heap.size) (hbA : ¬ (fun q : Nat => s.heap.size ≤ q) b) (hdc : ∀ Y ∈ DcL, va_Nw (.declares (Bundle.initS Y)) s) (hkl : Kl cL s) (hAo : (fun q : Nat => s.heap.size ≤ q) oq) (hL : L ≤ 3072) (hz_i : i.toInt = i_z) (hi0 : 0 ≤ i_z) (hi1 : i_z + 6 ≤ (L : Int)) (hw : Wd G cy (fun q : Nat => s.heap.size ≤ q) s.heap S H locs) (hG : GX S) (hax : At S x 11) (ham : At S mo 12) (hMI : MI S mo) (hGR : GR S mo) (hTD : TD S x mo) (hLA : LA cL oq H) (hoq : oq ∉ pL S) (hl : lv_has ls 7 [(4, .int i), (3, .ref oq), (2, .ref mo), (1, .ref x), (0, .ref b)]) (hcc : cc + Phc S + 20000 ≤ 601024) (hnn : nn + Phs S + 100000 ≤ 7293034) (K : ∀ (S9 : PS) (H9 : Heap) (locs9 : List Loc) (ls9 : Array Slot) (c9 n9 : Nat), Wd G cy (fun q : Nat => s.heap.size ≤ q) s.heap S9 H9 locs9 → GX S9 → At S9 x 11 → At S9 mo 12 → MI S9 mo → GR S9 mo → TD S9 x mo → LA cL oq H9 → oq ∉ pL S9 → lv_has ls9 7 [(4, .int i), (3, .ref oq), (2, .ref mo), (1, .ref x), (0, .ref b)] → c9 + Phc S9 ≤ cc + Phc S + 102 → n9 + Phs S9 ≤ nn + Phs S + 1020 → W p l e room_1 s m #[Value.ref b] below meth c H9 locs9 c9 n9 Q (F0 m 1505 ls9 [])) : W p l e room_1 s m #[Value.ref b] below meth c H locs cc nn Q (F0 m 636 ls []) := by
  refine lv_aload_n X.1 X.2.1 dL_law_636 rfl (lv_at hl 3 rfl) ?_
  refine lv_aload_n X.1 X.2.1 dL_law_637 rfl (lv_at hl 4 rfl) ?_
  refine lv_iload X.1 X.2.1 dL_law_638 (lv_at hl 0 rfl) ?_
  refine lv_iconst (v := 1) X.1 X.2.1 dL_law_640 (by decide) ?_
  refine lv_iadd X.1 X.2.1 dL_law_641 ?_
  refine lv_topi (fun v_1 ev_1 => ?_)
  have z_2 : v_1.toInt = i_z + 1 := z_add ev_1 hz_i ti_1 (by omega) (by omega)
  refine va_sld X.1 X.2.1 hX hbl hbA hw.2.2 (z_ix rfl (by omega) (by omega)) dL_law_642 ?_
  refine lv_topi (fun v_3 ev_3 => ?_)
  have rg_4 := And.intro (z_lo v_3) (z_hi v_3)
  refine k_i (rm := { frames := 11, cells := 0, slots := 0, locals := 528 }) (av := [.ref x, .int (v_3)]) X hw (va_runV (As := [.int (v_3)]) (rest := []) (cfix X) (k_X11_program l G cy κ S _ x (v_3) (v_3.toInt) hG hax rfl) (cwV 1 X.2.2.2.1 gk_X11_program rfl rfl rfl (by decide +kernel) ⟨Nat.le_of_ble_eq_true rfl, Nat.le_of_ble_eq_true rfl⟩) (pre_V X hw _ hax rfl (by decide) rfl) rfl rfl hl.1 rfl (lv_room (Nat.le_of_ble_eq_true rfl)) dL_law_643 ⟨(by show cc + 0 ≤ 601024; omega), (by show nn + 0 ≤ 7293034; omega)⟩) cc nn (by show cc + 0 ≤ cc; omega) (by show nn + 0 ≤ nn; omega) (fun rr_5 S_6 H locs hp hw hfr hnw => ?_)
  have la_7 := LA_keep hLA hoq hfr
  have oq_8 := oq_keep hLA hoq hnw
  obtain ⟨hk_9, hp⟩ := hp
  have ax_12 : At S_6 x 11 := hk_9.fr.at hax
  have am_13 : At S_6 mo 12 := hk_9.fr.at ham
  have mi_10 : MI S_6 mo := MIe_free hG ham hk_9.fr (by decide +kernel) hMI
  have gr_11 : GR S_6 mo := GR_free hG ham hk_9.fr (by decide +kernel) hGR
  have ph_14 : Phc S_6 = Phc S := Ph_ok hG hk_9 (by decide +kernel) (by decide +kernel) (by decide +kernel)
  have ph_15 : Phs S_6 = Phs S := Ph_ok hG hk_9 (by decide +kernel) (by decide +kernel) (by decide +kernel)
  obtain ⟨⟨q_16, td_17, td_18, td_19⟩, td_20, td_21, ⟨u_22, td_23, td_24, td_25⟩, pn_26, ct_27, th_28, tx_29⟩ := hTD
  have hq_30 := mkhid hp
  have th_31 : pR S_6 1107 x = some q_16 := hk_9.fr.R' (by decide +kernel) hax td_17
  have th_32 : At S_6 q_16 8 := hk_9.fr.at td_18
  have th_35 : pR S_6 1105 x = some u_22 := hk_9.fr.R' (by decide +kernel) hax td_23
  have th_36 : At S_6 u_22 10 := hk_9.fr.at td_24
  have th_33 : pI S_6 801 q_16 = pI S 801 q_16 := hk_9.fr.I' (by decide +kernel) td_18 rfl
  have th_34 : pI S_6 1245 mo = pI S 1245 mo := hk_9.fr.I' (by decide +kernel) ham rfl
  have tf_40 : (pI S_6 1102 x).toInt = (pI S 1102 x).toInt := congrArg Int32.toInt (hk_9.fr.I' (by decide +kernel) hax rfl)
  have tf_41 : (pI S_6 1104 x).toInt = (pI S 1104 x).toInt := congrArg Int32.toInt (hk_9.fr.I' (by decide +kernel) hax rfl)
  have tf_42 : (pI S_6 1201 mo).toInt = (pI S 1201 mo).toInt := congrArg Int32.toInt (hk_9.fr.I' (by decide +kernel) ham rfl)
  have tf_43 : (pI S_6 1211 mo).toInt = (pI S 1211 mo).toInt := congrArg Int32.toInt (hk_9.fr.I' (by decide +kernel) ham rfl)
  have tf_46 := hp.2.2 _ td_23 pn_26
  have tf_47 : (pI S_6 1228 mo).toInt = (pI S 1228 mo).toInt := congrArg Int32.toInt (hk_9.fr.I' (by decide +kernel) ham rfl)
  have tf_48 : (pI S_6 1228 mo).toInt = (pI S 1228 mo).toInt := congrArg Int32.toInt (hk_9.fr.I' (by decide +kernel) ham rfl)
  have th_50 : mA S_6 mo 1210 = thinF := TH_fr hG hk_9.fr ham (by decide +kernel) th_28
  have ct_49 : CT S_6 x mo := CT_eq hG hk_9.fr hax (by decide +kernel) (by decide +kernel) (S12_fr hG hk_9.fr ham (by decide +kernel)) ct_27
  have th_39 : PN S_6 x := PN_fr hG hax hk_9.fr (by decide +kernel) (by decide +kernel) (by decide +kernel) pn_26
  have hg_52 : GX S_6 := hk_9.1
  have rg_53 := And.intro (z_lo rr_5) (z_hi rr_5)
  refine lv_pop X.1 X.2.1 dL_law_646 rfl ?_
  refine lv_aload_n X.1 X.2.1 dL_law_647 rfl (lv_at hl 2 rfl) ?_
  refine lv_aload_n X.1 X.2.1 dL_law_648 rfl (lv_at hl 4 rfl) ?_
  refine lv_iload X.1 X.2.1 dL_law_649 (lv_at hl 0 rfl) ?_
  refine lv_iconst (v := 1) X.1 X.2.1 dL_law_651 (by decide) ?_
  refine lv_iadd X.1 X.2.1 dL_law_652 ?_
  refine lv_topi (fun v_54 ev_54 => ?_)
  have z_55 : v_54.toInt = i_z + 1 := z_add ev_54 hz_i ti_1 (by omega) (by omega)
  refine va_sld X.1 X.2.1 hX hbl hbA hw.2.2 (z_ix rfl (by omega) (by omega)) dL_law_653 ?_
  refine lv_topi (fun v_56 ev_56 => ?_)
  have es_57 : v_3 = v_56 := by rw [ev_3, ev_56, ev_1, ev_54]
  subst es_57
  refine k_i (rm := { frames := 8, cells := 0, slots := 0, locals := 384 }) (av := [.ref mo, .int (v_3)]) X hw (va_runV (As := [.int (v_3)]) (rest := []) (cfix X) (k_X12_program l G cy κ S_6 _ mo (v_3) (v_3.toInt) hg_52 am_13 rfl) (cwV 1 X.2.2.2.1 gk_X12_program rfl rfl rfl (by decide +kernel) ⟨Nat.le_of_ble_eq_true rfl, Nat.le_of_ble_eq_true rfl⟩) (pre_V X hw _ am_13 rfl (by decide) rfl) rfl rfl hl.1 rfl (lv_room (Nat.le_of_ble_eq_true rfl)) dL_law_654 ⟨(by show cc + 0 ≤ 601024; omega), (by show nn + 0 ≤ 7293034; omega)⟩) cc nn (by show cc + 0 ≤ cc; omega) (by show nn + 0 ≤ nn; omega) (fun rr_58 S_59 H locs hp hw hfr hnw => ?_)
  have la_60 := LA_keep la_7 oq_8 hfr
  have oq_61 := oq_keep la_7 oq_8 hnw
  obtain ⟨hk_62, hp⟩ := hp
  have ax_65 : At S_59 x 11 := hk_62.fr.at ax_12
  have am_66 : At S_59 mo 12 := hk_62.fr.at am_13
  have mi_63 : MI S_59 mo := MIe_free hg_52 am_13 hk_62.fr (by decide +kernel) mi_10
  have gr_64 : GR S_59 mo := GR_free hg_52 am_13 hk_62.fr (by decide +kernel) gr_11
  have ph_67 : Phc S_59 = Phc S_6 := Ph_ok hg_52 hk_62 (by decide +kernel) (by decide +kernel) (by decide +kernel)
  have ph_68 : Phs S_59 = Phs S_6 := Ph_ok hg_52 hk_62 (by decide +kernel) (by decide +kernel) (by decide +kernel)
  have th_69 : pR S_59 1107 x = some q_16 := hk_62.fr.R' (by decide +kernel) ax_12 th_31
  have th_70 : At S_59 q_16 8 := hk_62.fr.at th_32
  have th_73 : pR S_59 1105 x = some u_22 := hk_62.fr.R' (by decide +kernel) ax_12 th_35
  have th_74 : At S_59 u_22 10 := hk_62.fr.at th_36
  have th_71 : pI S_59 801 q_16 = pI S_6 801 q_16 := hk_62.fr.I' (by decide +kernel) th_32 rfl
  have th_72 : pI S_59 1245 mo = pI S_6 1245 mo := hk_62.fr.I' (by decide +kernel) am_13 rfl
  have tf_78 : (pI S_59 1102 x).toInt = (pI S_6 1102 x).toInt := congrArg Int32.toInt (hk_62.fr.I' (by decide +kernel) ax_12 rfl)
  have tf_79 : (pI S_59 1104 x).toInt = (pI S_6 1104 x).toInt := congrArg Int32.toInt (hk_62.fr.I' (by decide +kernel) ax_12 rfl)
  have tf_80 : (pI S_59 1201 mo).toInt = (pI S_6 1201 mo).toInt := congrArg Int32.toInt (hk_62.fr.I' (by decide +kernel) am_13 rfl)
  have tf_81 : (pI S_59 1211 mo).toInt = (pI S_6 1211 mo).toInt := congrArg Int32.toInt (hk_62.fr.I' (by decide +kernel) am_13 rfl)
  have tf_82 : (pI S_59 1000 u_22).toInt = (pI S_6 1000 u_22).toInt := congrArg Int32.toInt (hk_62.fr.I' (by decide +kernel) th_36 rfl)
  have tf_83 : (pI S_59 1000 u_22).toInt = (pI S_6 1000 u_22).toInt := congrArg Int32.toInt (hk_62.fr.I' (by decide +kernel) th_36 rfl)
  have tf_84 : (pI S_59 1000 u_22).toInt = (pI S_6 1000 u_22).toInt := congrArg Int32.toInt (hk_62.fr.I' (by decide +kernel) th_36 rfl)
  have tf_86 := hp.2.2
  have th_88 : mA S_59 mo 1210 = thinF := TH_fr hg_52 hk_62.fr am_13 (by decide +kernel) th_50
  have ct_87 : CT S_59 x mo := CT_eq hg_52 hk_62.fr ax_12 (by decide +kernel) (by decide +kernel) (S12_fr hg_52 hk_62.fr am_13 (by decide +kernel)) ct_49
  have th_77 : PN S_59 x := PN_fr hg_52 ax_12 hk_62.fr (by decide +kernel) (by decide +kernel) (by decide +kernel) th_39
  have rg_90 := gI_12_1228 hg_52 am_13
  have td_89 : TD S_59 x mo := ⟨⟨q_16, th_69, th_70, by rw [th_71, th_33, th_72, th_34, td_19]⟩, by omega, by omega, ⟨u_22, th_73, th_74, by omega⟩, th_77, ct_87, th_88, TX_fr hg_52 hk_62.fr ax_12 am_13 (by decide +kernel) (TX_fr hG hk_9.fr hax ham (by decide +kernel) tx_29)⟩
  have hg_91 : GX S_59 := hk_62.1
  have rg_92 := And.intro (z_lo rr_58) (z_hi rr_58)
  refine lv_pop X.1 X.2.1 dL_law_657 rfl ?_
  refine lv_goto (tgt := 1505) X.1 X.2.1 dL_law_658 (by decide) ?_
  exact K _ _ _ _ cc nn hw hg_91 ax_65 am_66 mi_63 gr_64 td_89 la_60 oq_61 (lv_sub hl [0, 1, 2, 3, 4] rfl) (by omega) (by omega)
set_option maxHeartbeats 4000000 in
set_option maxRecDepth 100000 in
theorem lc_10 {p : Program} {l : Launch} {e : Env} {s : State} {m : MethodId} {below : List Frame} {meth : Method} {c : Code} (hst : l.stackTraces = false) {b x mo oq L : Nat} {xs : Nat → Int32} {cL : ClassId} {G : va_G} {cy : Nat → ClassId} {κ : Nat → Nat} {S : PS} {H : Heap} {locs : List Loc} {ls : Array Slot} {cc nn : Nat} {Q : State → Prop} {i : Int32} {i_z : Int} (X : Cx p c cL_law 7 s #[Value.ref b] lw_tbl RL m G cy κ (fun q : Nat => s.heap.size ≤ q)) (hX : va_X b L xs s s.heap) (hbl : b < s.heap.size) (hbA : ¬ (fun q : Nat => s.heap.size ≤ q) b) (hdc : ∀ Y ∈ DcL, va_Nw (.declares (Bundle.initS Y)) s) (hkl : Kl cL s) (hAo : (fun q : Nat => s.heap.size ≤ q) oq) (hL : L ≤ 3072) (hz_i : i.toInt = i_z) (hi0 : 0 ≤ i_z) (hi1 : i_z + 6 ≤ (L : Int)) (hw : Wd G cy (fun q : Nat => s.heap.size ≤ q) s.heap S H locs) (hG : GX S) (hax : At S x 11) (ham : At S mo 12) (hMI : MI S mo) (hGR : GR S mo) (hTD : TD S x mo) (hLA : LA cL oq H) (hoq : oq ∉ pL S) (hl : lv_has ls 7 [(4, .int i), (3, .ref oq), (2, .ref mo), (1, .ref x), (0, .ref b)]) (hcc : cc + Phc S + 20000 ≤ 601024) (hnn : nn + Phs S + 100000 ≤ 7293034) (K : ∀ (S9 : PS) (H9 : Heap) (locs9 : List Loc) (ls9 : Array Slot) (c9 n9 : Nat), Wd G cy (fun q : Nat => s.heap.size ≤ q) s.heap S9 H9 locs9 → GX S9 → At S9 x 11 → At S9 mo 12 → MI S9 mo → GR S9 mo → TD S9 x mo → LA cL oq H9 → oq ∉ pL S9 → lv_has ls9 7 [(4, .int i), (3, .ref oq), (2, .ref mo), (1, .ref x), (0, .ref b)] → c9 + Phc S9 ≤ cc + Phc S + 102 → n9 + Phs S9 ≤ nn + Phs S + 1020 → W p l e room_1 s m #[Value.ref b] below meth c H9 locs9 c9 n9 Q (F0 m 1505 ls9 [])) : W p l e room_1 s m #[Value.ref b] below meth c H locs cc nn Q (F0 m 661 ls []) := by
  refine lv_aload_n X.1 X.2.1 dL_law_661 rfl (lv_at hl 3 rfl) ?_
  refine k_i (rm := { frames := 1, cells := 0, slots := 0, locals := 48 }) (av := [.ref x]) X hw (va_runV (As := []) (rest := []) (cfix X) (k_X11_place l G cy κ S _ x hG hax) (cwV 0 X.2.2.2.1 gk_X11_place rfl rfl rfl (by decide +kernel) ⟨Nat.le_of_ble_eq_true rfl, Nat.le_of_ble_eq_true rfl⟩) (pre_V X hw _ hax rfl (by decide) rfl) rfl rfl hl.1 rfl (lv_room (Nat.le_of_ble_eq_true rfl)) dL_law_662 ⟨(by show cc + 0 ≤ 601024; omega), (by show nn + 0 ≤ 7293034; omega)⟩) cc nn (by show cc + 0 ≤ cc; omega) (by show nn + 0 ≤ nn; omega) (fun rr_1 S_2 H locs hp hw hfr hnw => ?_)
  have la_3 := LA_keep hLA hoq hfr
  have oq_4 := oq_keep hLA hoq hnw
  obtain ⟨e2, hp⟩ := hp
  subst e2
  have rg_5 := And.intro (z_lo rr_1) (z_hi rr_1)
  refine lv_pop X.1 X.2.1 dL_law_665 rfl ?_
  refine lv_aload_n X.1 X.2.1 dL_law_666 rfl (lv_at hl 2 rfl) ?_
  refine k_i (rm := { frames := 1, cells := 0, slots := 0, locals := 48 }) (av := [.ref mo]) X hw (va_runV (As := []) (rest := []) (cfix X) (k_X12_place l G cy κ S _ mo hG ham) (cwV 0 X.2.2.2.1 gk_X12_place rfl rfl rfl (by decide +kernel) ⟨Nat.le_of_ble_eq_true rfl, Nat.le_of_ble_eq_true rfl⟩) (pre_V X hw _ ham rfl (by decide) rfl) rfl rfl hl.1 rfl (lv_room (Nat.le_of_ble_eq_true rfl)) dL_law_667 ⟨(by show cc + 0 ≤ 601024; omega), (by show nn + 0 ≤ 7293034; omega)⟩) cc nn (by show cc + 0 ≤ cc; omega) (by show nn + 0 ≤ nn; omega) (fun rr_6 S_7 H locs hp hw hfr hnw => ?_)
  have la_8 := LA_keep la_3 oq_4 hfr
  have oq_9 := oq_keep la_3 oq_4 hnw
  obtain ⟨hk_10, hp⟩ := hp
  have ax_13 : At S_7 x 11 := hk_10.fr.at hax
  have am_14 : At S_7 mo 12 := hk_10.fr.at ham
  have mi_11 : MI S_7 mo := MIe_free hG ham hk_10.fr (by decide +kernel) hMI
  have gr_12 : GR S_7 mo := GR_free hG ham hk_10.fr (by decide +kernel) hGR
  have ph_15 : Phc S_7 = Phc S := Ph_ok hG hk_10 (by decide +kernel) (by decide +kernel) (by decide +kernel)
  have ph_16 : Phs S_7 = Phs S := Ph_ok hG hk_10 (by decide +kernel) (by decide +kernel) (by decide +kernel)
  have td_17 : TD S_7 x mo := TD_fr hG hk_10.fr hax ham (by decide +kernel) (by decide +kernel) (by decide +kernel) (by decide +kernel) (by decide +kernel) (by decide +kernel) hTD
  have hg_18 : GX S_7 := hk_10.1
  have rg_19 := And.intro (z_lo rr_6) (z_hi rr_6)
  refine lv_pop X.1 X.2.1 dL_law_670 rfl ?_
  refine lv_goto (tgt := 1505) X.1 X.2.1 dL_law_671 (by decide) ?_
  exact K _ _ _ _ cc nn hw hg_18 ax_13 am_14 mi_11 gr_12 td_17 la_8 oq_9 (lv_sub hl [0, 1, 2, 3, 4] rfl) (by omega) (by omega)
set_option maxHeartbeats 4000000 in
set_option maxRecDepth 100000 in
theorem lc_11 {p : Program} {l : Launch} {e : Env} {s : State} {m : MethodId} {below : List Frame} {meth : Method} {c : Code} (hst : l.stackTraces = false) {b x mo oq L : Nat} {xs : Nat → Int32} {cL : ClassId} {G : va_G} {cy : Nat → ClassId} {κ : Nat → Nat} {S : PS} {H : Heap} {locs : List Loc} {ls : Array Slot} {cc nn : Nat} {Q : State → Prop} {i : Int32} {i_z : Int} (X : Cx p c cL_law 7 s #[Value.ref b] lw_tbl RL m G cy κ (fun q : Nat => s.heap.size ≤ q)) (hX : va_X b L xs s s.heap) (hbl : b < s.heap.size) (hbA : ¬ (fun q : Nat => s.heap.size ≤ q) b) (hdc : ∀ Y ∈ DcL, va_Nw (.declares (Bundle.initS Y)) s) (hkl : Kl cL s) (hAo : (fun q : Nat => s.heap.size ≤ q) oq) (hL : L ≤ 3072) (hz_i : i.toInt = i_z) (hi0 : 0 ≤ i_z) (hi1 : i_z + 6 ≤ (L : Int)) (hw : Wd G cy (fun q : Nat => s.heap.size ≤ q) s.heap S H locs) (hG : GX S) (hax : At S x 11) (ham : At S mo 12) (hMI : MI S mo) (hGR : GR S mo) (hTD : TD S x mo) (hLA : LA cL oq H) (hoq : oq ∉ pL S) (hl : lv_has ls 7 [(4, .int i), (3, .ref oq), (2, .ref mo), (1, .ref x), (0, .ref b)]) (hcc : cc + Phc S + 20000 ≤ 601024) (hnn : nn + Phs S + 100000 ≤ 7293034) (K : ∀ (S9 : PS) (H9 : Heap) (locs9 : List Loc) (ls9 : Array Slot) (c9 n9 : Nat), Wd G cy (fun q : Nat => s.heap.size ≤ q) s.heap S9 H9 locs9 → GX S9 → At S9 x 11 → At S9 mo 12 → MI S9 mo → GR S9 mo → TD S9 x mo → LA cL oq H9 → oq ∉ pL S9 → lv_has ls9 7 [(4, .int i), (3, .ref oq), (2, .ref mo), (1, .ref x), (0, .ref b)] → c9 + Phc S9 ≤ cc + Phc S + 102 → n9 + Phs S9 ≤ nn + Phs S + 1020 → W p l e room_1 s m #[Value.ref b] below meth c H9 locs9 c9 n9 Q (F0 m 1505 ls9 [])) : W p l e room_1 s m #[Value.ref b] below meth c H locs cc nn Q (F0 m 674 ls []) := by
  refine lv_aload_n X.1 X.2.1 dL_law_674 rfl (lv_at hl 3 rfl) ?_
  refine lv_aload_n X.1 X.2.1 dL_law_675 rfl (lv_at hl 4 rfl) ?_
  refine lv_iload X.1 X.2.1 dL_law_676 (lv_at hl 0 rfl) ?_
  refine lv_iconst (v := 1) X.1 X.2.1 dL_law_678 (by decide) ?_
  refine lv_iadd X.1 X.2.1 dL_law_679 ?_
  refine lv_topi (fun v_1 ev_1 => ?_)
  have z_2 : v_1.toInt = i_z + 1 := z_add ev_1 hz_i ti_1 (by omega) (by omega)
  refine va_sld X.1 X.2.1 hX hbl hbA hw.2.2 (z_ix rfl (by omega) (by omega)) dL_law_680 ?_
  refine lv_topi (fun v_3 ev_3 => ?_)
  have rg_4 := And.intro (z_lo v_3) (z_hi v_3)
  refine lv_aload_n X.1 X.2.1 dL_law_681 rfl (lv_at hl 4 rfl) ?_
  refine lv_iload X.1 X.2.1 dL_law_682 (lv_at hl 0 rfl) ?_
  refine lv_iconst (v := 2) X.1 X.2.1 dL_law_684 (by decide) ?_
  refine lv_iadd X.1 X.2.1 dL_law_685 ?_
  refine lv_topi (fun v_5 ev_5 => ?_)
  have z_6 : v_5.toInt = i_z + 2 := z_add ev_5 hz_i ti_2 (by omega) (by omega)
  refine va_sld X.1 X.2.1 hX hbl hbA hw.2.2 (z_ix rfl (by omega) (by omega)) dL_law_686 ?_
  refine lv_topi (fun v_7 ev_7 => ?_)
  have rg_8 := And.intro (z_lo v_7) (z_hi v_7)
  refine k_gi2 (kc := 0) (ks := 0) (rm := { frames := 9, cells := Phc S + 8, slots := Phs S + 15019, locals := 432 }) (av := [.ref x, .int (v_3), .int (v_7)]) X hw (va_runV (As := [.int (v_3), .int (v_7)]) (rest := []) (cfix X) (k_X11_run3 l G cy κ S _ _ x (v_3) (v_3.toInt) (v_7) (v_7.toInt) (RA S x) hG hax rfl rfl (RA_AO hG hax) RA_PIn) (cwV 2 X.2.2.2.1 gk_X11_run rfl rfl rfl (by decide +kernel) ⟨Nat.le_of_ble_eq_true rfl, Nat.le_of_ble_eq_true rfl⟩) (pre_gV X hw _ hax rfl (by decide) rfl) rfl rfl hl.1 rfl (lv_room (Nat.le_of_ble_eq_true rfl)) dL_law_687 ⟨(by show cc + (Phc S + 8) ≤ 601024; omega), (by show nn + (Phs S + 15019) ≤ 7293034; omega)⟩) (fun rr_9 S_10 H locs c_11 n_12 hc_11 hn_12 hp hw hfr hnw => ?_)
  have la_13 := LA_keep hLA hoq hfr
  have oq_14 := oq_keep hLA hoq hnw
  obtain ⟨hk_15, hp⟩ := hp
  have ax_18 : At S_10 x 11 := hk_15.fr.at hax
  have am_19 : At S_10 mo 12 := hk_15.fr.at ham
  have mi_16 : MI S_10 mo := MIe_free hG ham hk_15.fr (by decide +kernel) hMI
  have gr_17 : GR S_10 mo := GR_free hG ham hk_15.fr (by decide +kernel) hGR
  obtain ⟨⟨q_20, td_21, td_22, td_23⟩, td_24, td_25, ⟨u_26, td_27, td_28, td_29⟩, pn_30, ct_31, th_32, tx_33⟩ := hTD
  have hq_34 := mkhid hp
  have th_35 : pR S_10 1107 x = some q_20 := hk_15.fr.R' (by decide +kernel) hax td_21
  have th_36 : At S_10 q_20 8 := hk_15.fr.at td_22
  have th_39 : pR S_10 1105 x = some u_26 := hk_15.fr.R' (by decide +kernel) hax td_27
  have th_40 : At S_10 u_26 10 := hk_15.fr.at td_28
  have th_37 : pI S_10 801 q_20 = pI S 801 q_20 := hk_15.fr.I' (by decide +kernel) td_22 rfl
  have th_38 : pI S_10 1245 mo = pI S 1245 mo := hk_15.fr.I' (by decide +kernel) ham rfl
  have tf_44 : (pI S_10 1102 x).toInt = (pI S 1102 x).toInt := congrArg Int32.toInt (hk_15.fr.I' (by decide +kernel) hax rfl)
  have tf_45 : (pI S_10 1104 x).toInt = (pI S 1104 x).toInt := congrArg Int32.toInt (hk_15.fr.I' (by decide +kernel) hax rfl)
  have tf_46 : (pI S_10 1201 mo).toInt = (pI S 1201 mo).toInt := congrArg Int32.toInt (hk_15.fr.I' (by decide +kernel) ham rfl)
  have tf_47 : (pI S_10 1211 mo).toInt = (pI S 1211 mo).toInt := congrArg Int32.toInt (hk_15.fr.I' (by decide +kernel) ham rfl)
  have tf_48 : (pI S_10 1000 u_26).toInt = (pI S 1000 u_26).toInt := congrArg Int32.toInt (hk_15.fr.I' (by decide +kernel) td_28 rfl)
  have tf_49 : (pI S_10 1000 u_26).toInt = (pI S 1000 u_26).toInt := congrArg Int32.toInt (hk_15.fr.I' (by decide +kernel) td_28 rfl)
  have tf_50 : (pI S_10 1000 u_26).toInt = (pI S 1000 u_26).toInt := congrArg Int32.toInt (hk_15.fr.I' (by decide +kernel) td_28 rfl)
  have tf_51 : (pI S_10 1228 mo).toInt = (pI S 1228 mo).toInt := congrArg Int32.toInt (hk_15.fr.I' (by decide +kernel) ham rfl)
  have tf_52 : (pI S_10 1228 mo).toInt = (pI S 1228 mo).toInt := congrArg Int32.toInt (hk_15.fr.I' (by decide +kernel) ham rfl)
  have th_54 : mA S_10 mo 1210 = thinF := TH_fr hG hk_15.fr ham (by decide +kernel) th_32
  have ct_53 : CT S_10 x mo := CT_eq hG hk_15.fr hax (by decide +kernel) (by decide +kernel) (S12_fr hG hk_15.fr ham (by decide +kernel)) ct_31
  have th_43 : PN S_10 x := PN_fr hG hax hk_15.fr (by decide +kernel) (by decide +kernel) (by decide +kernel) pn_30
  have hg_56 : GX S_10 := hk_15.1
  have rg_57 := And.intro (z_lo rr_9) (z_hi rr_9)
  refine lv_pop X.1 X.2.1 dL_law_690 rfl ?_
  refine lv_aload_n X.1 X.2.1 dL_law_691 rfl (lv_at hl 2 rfl) ?_
  refine lv_aload_n X.1 X.2.1 dL_law_692 rfl (lv_at hl 4 rfl) ?_
  refine lv_iload X.1 X.2.1 dL_law_693 (lv_at hl 0 rfl) ?_
  refine lv_iconst (v := 1) X.1 X.2.1 dL_law_695 (by decide) ?_
  refine lv_iadd X.1 X.2.1 dL_law_696 ?_
  refine lv_topi (fun v_58 ev_58 => ?_)
  have z_59 : v_58.toInt = i_z + 1 := z_add ev_58 hz_i ti_1 (by omega) (by omega)
  refine va_sld X.1 X.2.1 hX hbl hbA hw.2.2 (z_ix rfl (by omega) (by omega)) dL_law_697 ?_
  refine lv_topi (fun v_60 ev_60 => ?_)
  have es_61 : v_3 = v_60 := by rw [ev_3, ev_60, ev_1, ev_58]
  subst es_61
  refine lv_aload_n X.1 X.2.1 dL_law_698 rfl (lv_at hl 4 rfl) ?_
  refine lv_iload X.1 X.2.1 dL_law_699 (lv_at hl 0 rfl) ?_
  refine lv_iconst (v := 2) X.1 X.2.1 dL_law_701 (by decide) ?_
  refine lv_iadd X.1 X.2.1 dL_law_702 ?_
  refine lv_topi (fun v_62 ev_62 => ?_)
  have z_63 : v_62.toInt = i_z + 2 := z_add ev_62 hz_i ti_2 (by omega) (by omega)
  refine va_sld X.1 X.2.1 hX hbl hbA hw.2.2 (z_ix rfl (by omega) (by omega)) dL_law_703 ?_
  refine lv_topi (fun v_64 ev_64 => ?_)
  have es_65 : v_7 = v_64 := by rw [ev_7, ev_64, ev_5, ev_62]
  subst es_65
  refine k_i (rm := { frames := 9, cells := 0, slots := 0, locals := 432 }) (av := [.ref mo, .int (v_3), .int (v_7)]) X hw (va_runV (As := [.int (v_3), .int (v_7)]) (rest := []) (cfix X) (k_X12_run3 l G cy κ S_10 _ mo (v_3) (v_3.toInt) (v_7) (v_7.toInt) hg_56 am_19 rfl rfl mi_16 gr_17) (cwV 2 X.2.2.2.1 gk_X12_run rfl rfl rfl (by decide +kernel) ⟨Nat.le_of_ble_eq_true rfl, Nat.le_of_ble_eq_true rfl⟩) (pre_V X hw _ am_19 rfl (by decide) rfl) rfl rfl hl.1 rfl (lv_room (Nat.le_of_ble_eq_true rfl)) dL_law_704 ⟨(by show c_11 + 0 ≤ 601024; omega), (by show n_12 + 0 ≤ 7293034; omega)⟩) c_11 n_12 (by show c_11 + 0 ≤ c_11; omega) (by show n_12 + 0 ≤ n_12; omega) (fun rr_66 S_67 H locs hp hw hfr hnw => ?_)
  have la_68 := LA_keep la_13 oq_14 hfr
  have oq_69 := oq_keep la_13 oq_14 hnw
  obtain ⟨hk_70, hp⟩ := hp
  have ax_73 : At S_67 x 11 := hk_70.fr.at ax_18
  have am_74 : At S_67 mo 12 := hk_70.fr.at am_19
  have mi_71 : MI S_67 mo := hp.1
  have gr_72 : GR S_67 mo := hp.2.1
  have ph_75 : Phc S_67 = Phc S_10 := Ph_ok hg_56 hk_70 (by decide +kernel) (by decide +kernel) (by decide +kernel)
  have ph_76 : Phs S_67 = Phs S_10 := Ph_ok hg_56 hk_70 (by decide +kernel) (by decide +kernel) (by decide +kernel)
  have th_77 : pR S_67 1107 x = some q_20 := hk_70.fr.R' (by decide +kernel) ax_18 th_35
  have th_78 : At S_67 q_20 8 := hk_70.fr.at th_36
  have th_81 : pR S_67 1105 x = some u_26 := hk_70.fr.R' (by decide +kernel) ax_18 th_39
  have th_82 : At S_67 u_26 10 := hk_70.fr.at th_40
  have th_79 : pI S_67 801 q_20 = pI S_10 801 q_20 := hk_70.fr.I' (by decide +kernel) th_36 rfl
  have th_80 : pI S_67 1245 mo = pI S_10 1245 mo := hk_70.fr.I' (by decide +kernel) am_19 rfl
  have tf_86 : (pI S_67 1102 x).toInt = (pI S_10 1102 x).toInt := congrArg Int32.toInt (hk_70.fr.I' (by decide +kernel) ax_18 rfl)
  have tf_87 : (pI S_67 1104 x).toInt = (pI S_10 1104 x).toInt := congrArg Int32.toInt (hk_70.fr.I' (by decide +kernel) ax_18 rfl)
  have tf_88 : (pI S_67 1201 mo).toInt = (pI S_10 1201 mo).toInt := congrArg Int32.toInt (hk_70.fr.I' (by decide +kernel) am_19 rfl)
  have tf_89 : (pI S_67 1211 mo).toInt = (pI S_10 1211 mo).toInt := congrArg Int32.toInt (hk_70.fr.I' (by decide +kernel) am_19 rfl)
  have tf_90 : (pI S_67 1000 u_26).toInt = (pI S_10 1000 u_26).toInt := congrArg Int32.toInt (hk_70.fr.I' (by decide +kernel) th_40 rfl)
  have tf_91 : (pI S_67 1000 u_26).toInt = (pI S_10 1000 u_26).toInt := congrArg Int32.toInt (hk_70.fr.I' (by decide +kernel) th_40 rfl)
  have tf_92 : (pI S_67 1000 u_26).toInt = (pI S_10 1000 u_26).toInt := congrArg Int32.toInt (hk_70.fr.I' (by decide +kernel) th_40 rfl)
  have tf_93 : (pI S_67 1228 mo).toInt = (pI S_10 1228 mo).toInt := congrArg Int32.toInt (hk_70.fr.I' (by decide +kernel) am_19 rfl)
  have tf_94 : (pI S_67 1228 mo).toInt = (pI S_10 1228 mo).toInt := congrArg Int32.toInt (hk_70.fr.I' (by decide +kernel) am_19 rfl)
  have th_96 : mA S_67 mo 1210 = thinF := TH_fr hg_56 hk_70.fr am_19 (by decide +kernel) th_54
  have ct_95 : CT S_67 x mo := CT_eq hg_56 hk_70.fr ax_18 (by decide +kernel) (by decide +kernel) (S12_fr hg_56 hk_70.fr am_19 (by decide +kernel)) ct_53
  have th_85 : PN S_67 x := PN_fr hg_56 ax_18 hk_70.fr (by decide +kernel) (by decide +kernel) (by decide +kernel) th_43
  have td_97 : TD S_67 x mo := ⟨⟨q_20, th_77, th_78, by rw [th_79, th_37, th_80, th_38, td_23]⟩, by omega, by omega, ⟨u_26, th_81, th_82, by omega⟩, th_85, ct_95, th_96, TX_run hG hg_56 hax ham hk_15.fr hk_70.fr (unhid hq_34).2.2 hp.2.2 tx_33⟩
  have hg_98 : GX S_67 := hk_70.1
  have rg_99 := And.intro (z_lo rr_66) (z_hi rr_66)
  refine lv_pop X.1 X.2.1 dL_law_707 rfl ?_
  refine lv_goto (tgt := 1505) X.1 X.2.1 dL_law_708 (by decide) ?_
  exact K _ _ _ _ c_11 n_12 hw hg_98 ax_73 am_74 mi_71 gr_72 td_97 la_68 oq_69 (lv_sub hl [0, 1, 2, 3, 4] rfl) (by omega) (by omega)
set_option maxHeartbeats 4000000 in
set_option maxRecDepth 100000 in
theorem lc_12 {p : Program} {l : Launch} {e : Env} {s : State} {m : MethodId} {below : List Frame} {meth : Method} {c : Code} (hst : l.stackTraces = false) {b x mo oq L : Nat} {xs : Nat → Int32} {cL : ClassId} {G : va_G} {cy : Nat → ClassId} {κ : Nat → Nat} {S : PS} {H : Heap} {locs : List Loc} {ls : Array Slot} {cc nn : Nat} {Q : State → Prop} {i : Int32} {i_z : Int} (X : Cx p c cL_law 7 s #[Value.ref b] lw_tbl RL m G cy κ (fun q : Nat => s.heap.size ≤ q)) (hX : va_X b L xs s s.heap) (hbl : b < s.heap.size) (hbA : ¬ (fun q : Nat => s.heap.size ≤ q) b) (hdc : ∀ Y ∈ DcL, va_Nw (.declares (Bundle.initS Y)) s) (hkl : Kl cL s) (hAo : (fun q : Nat => s.heap.size ≤ q) oq) (hL : L ≤ 3072) (hz_i : i.toInt = i_z) (hi0 : 0 ≤ i_z) (hi1 : i_z + 6 ≤ (L : Int)) (hw : Wd G cy (fun q : Nat => s.heap.size ≤ q) s.heap S H locs) (hG : GX S) (hax : At S x 11) (ham : At S mo 12) (hMI : MI S mo) (hGR : GR S mo) (hTD : TD S x mo) (hLA : LA cL oq H) (hoq : oq ∉ pL S) (hl : lv_has ls 7 [(4, .int i), (3, .ref oq), (2, .ref mo), (1, .ref x), (0, .ref b)]) (hcc : cc + Phc S + 20000 ≤ 601024) (hnn : nn + Phs S + 100000 ≤ 7293034) (K : ∀ (S9 : PS) (H9 : Heap) (locs9 : List Loc) (ls9 : Array Slot) (c9 n9 : Nat), Wd G cy (fun q : Nat => s.heap.size ≤ q) s.heap S9 H9 locs9 → GX S9 → At S9 x 11 → At S9 mo 12 → MI S9 mo → GR S9 mo → TD S9 x mo → LA cL oq H9 → oq ∉ pL S9 → lv_has ls9 7 [(4, .int i), (3, .ref oq), (2, .ref mo), (1, .ref x), (0, .ref b)] → c9 + Phc S9 ≤ cc + Phc S + 102 → n9 + Phs S9 ≤ nn + Phs S + 1020 → W p l e room_1 s m #[Value.ref b] below meth c H9 locs9 c9 n9 Q (F0 m 1505 ls9 [])) : W p l e room_1 s m #[Value.ref b] below meth c H locs cc nn Q (F0 m 711 ls []) := by
  refine lv_aload_n X.1 X.2.1 dL_law_711 rfl (lv_at hl 3 rfl) ?_
  refine lv_aload_n X.1 X.2.1 dL_law_712 rfl (lv_at hl 4 rfl) ?_
  refine lv_iload X.1 X.2.1 dL_law_713 (lv_at hl 0 rfl) ?_
  refine lv_iconst (v := 1) X.1 X.2.1 dL_law_715 (by decide) ?_
  refine lv_iadd X.1 X.2.1 dL_law_716 ?_
  refine lv_topi (fun v_1 ev_1 => ?_)
  have z_2 : v_1.toInt = i_z + 1 := z_add ev_1 hz_i ti_1 (by omega) (by omega)
  refine va_sld X.1 X.2.1 hX hbl hbA hw.2.2 (z_ix rfl (by omega) (by omega)) dL_law_717 ?_
  refine lv_topi (fun v_3 ev_3 => ?_)
  have rg_4 := And.intro (z_lo v_3) (z_hi v_3)
  refine lv_aload_n X.1 X.2.1 dL_law_718 rfl (lv_at hl 4 rfl) ?_
  refine lv_iload X.1 X.2.1 dL_law_719 (lv_at hl 0 rfl) ?_
  refine lv_iconst (v := 2) X.1 X.2.1 dL_law_721 (by decide) ?_
  refine lv_iadd X.1 X.2.1 dL_law_722 ?_
  refine lv_topi (fun v_5 ev_5 => ?_)
  have z_6 : v_5.toInt = i_z + 2 := z_add ev_5 hz_i ti_2 (by omega) (by omega)
  refine va_sld X.1 X.2.1 hX hbl hbA hw.2.2 (z_ix rfl (by omega) (by omega)) dL_law_723 ?_
  refine lv_topi (fun v_7 ev_7 => ?_)
  have rg_8 := And.intro (z_lo v_7) (z_hi v_7)
  refine k_i (rm := { frames := 4, cells := 0, slots := 0, locals := 192 }) (av := [.ref x, .int (v_3), .int (v_7)]) X hw (va_runV (As := [.int (v_3), .int (v_7)]) (rest := []) (cfix X) (k_X11_about l G cy κ S _ x (v_3) (v_3.toInt) (v_7) (v_7.toInt) hG hax rfl rfl) (cwV 2 X.2.2.2.1 gk_X11_about rfl rfl rfl (by decide +kernel) ⟨Nat.le_of_ble_eq_true rfl, Nat.le_of_ble_eq_true rfl⟩) (pre_V X hw _ hax rfl (by decide) rfl) rfl rfl hl.1 rfl (lv_room (Nat.le_of_ble_eq_true rfl)) dL_law_724 ⟨(by show cc + 0 ≤ 601024; omega), (by show nn + 0 ≤ 7293034; omega)⟩) cc nn (by show cc + 0 ≤ cc; omega) (by show nn + 0 ≤ nn; omega) (fun rr_9 S_10 H locs hp hw hfr hnw => ?_)
  have la_11 := LA_keep hLA hoq hfr
  have oq_12 := oq_keep hLA hoq hnw
  obtain ⟨e2, hp⟩ := hp
  subst e2
  have rg_13 := And.intro (z_lo rr_9) (z_hi rr_9)
  refine lv_pop X.1 X.2.1 dL_law_727 rfl ?_
  refine lv_aload_n X.1 X.2.1 dL_law_728 rfl (lv_at hl 2 rfl) ?_
  refine lv_aload_n X.1 X.2.1 dL_law_729 rfl (lv_at hl 4 rfl) ?_
  refine lv_iload X.1 X.2.1 dL_law_730 (lv_at hl 0 rfl) ?_
  refine lv_iconst (v := 1) X.1 X.2.1 dL_law_732 (by decide) ?_
  refine lv_iadd X.1 X.2.1 dL_law_733 ?_
  refine lv_topi (fun v_14 ev_14 => ?_)
  have z_15 : v_14.toInt = i_z + 1 := z_add ev_14 hz_i ti_1 (by omega) (by omega)
  refine va_sld X.1 X.2.1 hX hbl hbA hw.2.2 (z_ix rfl (by omega) (by omega)) dL_law_734 ?_
  refine lv_topi (fun v_16 ev_16 => ?_)
  have es_17 : v_3 = v_16 := by rw [ev_3, ev_16, ev_1, ev_14]
  subst es_17
  refine lv_aload_n X.1 X.2.1 dL_law_735 rfl (lv_at hl 4 rfl) ?_
  refine lv_iload X.1 X.2.1 dL_law_736 (lv_at hl 0 rfl) ?_
  refine lv_iconst (v := 2) X.1 X.2.1 dL_law_738 (by decide) ?_
  refine lv_iadd X.1 X.2.1 dL_law_739 ?_
  refine lv_topi (fun v_18 ev_18 => ?_)
  have z_19 : v_18.toInt = i_z + 2 := z_add ev_18 hz_i ti_2 (by omega) (by omega)
  refine va_sld X.1 X.2.1 hX hbl hbA hw.2.2 (z_ix rfl (by omega) (by omega)) dL_law_740 ?_
  refine lv_topi (fun v_20 ev_20 => ?_)
  have es_21 : v_7 = v_20 := by rw [ev_7, ev_20, ev_5, ev_18]
  subst es_21
  refine k_i (rm := { frames := 5, cells := 0, slots := 0, locals := 240 }) (av := [.ref mo, .int (v_3), .int (v_7)]) X hw (va_runV (As := [.int (v_3), .int (v_7)]) (rest := []) (cfix X) (k_X12_about l G cy κ S _ mo (v_3) (v_3.toInt) (v_7) (v_7.toInt) hG ham rfl rfl hMI) (cwV 2 X.2.2.2.1 gk_X12_about rfl rfl rfl (by decide +kernel) ⟨Nat.le_of_ble_eq_true rfl, Nat.le_of_ble_eq_true rfl⟩) (pre_V X hw _ ham rfl (by decide) rfl) rfl rfl hl.1 rfl (lv_room (Nat.le_of_ble_eq_true rfl)) dL_law_741 ⟨(by show cc + 0 ≤ 601024; omega), (by show nn + 0 ≤ 7293034; omega)⟩) cc nn (by show cc + 0 ≤ cc; omega) (by show nn + 0 ≤ nn; omega) (fun rr_22 S_23 H locs hp hw hfr hnw => ?_)
  have la_24 := LA_keep la_11 oq_12 hfr
  have oq_25 := oq_keep la_11 oq_12 hnw
  obtain ⟨hk_26, hp⟩ := hp
  have ax_29 : At S_23 x 11 := hk_26.fr.at hax
  have am_30 : At S_23 mo 12 := hk_26.fr.at ham
  have mi_27 : MI S_23 mo := MIe_free hG ham hk_26.fr (by decide +kernel) hMI
  have gr_28 : GR S_23 mo := GR_free hG ham hk_26.fr (by decide +kernel) hGR
  have ph_31 : Phc S_23 = Phc S := Ph_ok hG hk_26 (by decide +kernel) (by decide +kernel) (by decide +kernel)
  have ph_32 : Phs S_23 = Phs S := Ph_ok hG hk_26 (by decide +kernel) (by decide +kernel) (by decide +kernel)
  have td_33 : TD S_23 x mo := TD_fr hG hk_26.fr hax ham (by decide +kernel) (by decide +kernel) (by decide +kernel) (by decide +kernel) (by decide +kernel) (by decide +kernel) hTD
  have hg_34 : GX S_23 := hk_26.1
  have rg_35 := And.intro (z_lo rr_22) (z_hi rr_22)
  refine lv_pop X.1 X.2.1 dL_law_744 rfl ?_
  refine lv_goto (tgt := 1505) X.1 X.2.1 dL_law_745 (by decide) ?_
  exact K _ _ _ _ cc nn hw hg_34 ax_29 am_30 mi_27 gr_28 td_33 la_24 oq_25 (lv_sub hl [0, 1, 2, 3, 4] rfl) (by omega) (by omega)
set_option maxHeartbeats 4000000 in
set_option maxRecDepth 100000 in
theorem lc_13 {p : Program} {l : Launch} {e : Env} {s : State} {m : MethodId} {below : List Frame} {meth : Method} {c : Code} (hst : l.stackTraces = false) {b x mo oq L : Nat} {xs : Nat → Int32} {cL : ClassId} {G : va_G} {cy : Nat → ClassId} {κ : Nat → Nat} {S : PS} {H : Heap} {locs : List Loc} {ls : Array Slot} {cc nn : Nat} {Q : State → Prop} {i : Int32} {i_z : Int} (X : Cx p c cL_law 7 s #[Value.ref b] lw_tbl RL m G cy κ (fun q : Nat => s.heap.size ≤ q)) (hX : va_X b L xs s s.heap) (hbl : b < s.heap.size) (hbA : ¬ (fun q : Nat => s.heap.size ≤ q) b) (hdc : ∀ Y ∈ DcL, va_Nw (.declares (Bundle.initS Y)) s) (hkl : Kl cL s) (hAo : (fun q : Nat => s.heap.size ≤ q) oq) (hL : L ≤ 3072) (hz_i : i.toInt = i_z) (hi0 : 0 ≤ i_z) (hi1 : i_z + 6 ≤ (L : Int)) (hw : Wd G cy (fun q : Nat => s.heap.size ≤ q) s.heap S H locs) (hG : GX S) (hax : At S x 11) (ham : At S mo 12) (hMI : MI S mo) (hGR : GR S mo) (hTD : TD S x mo) (hLA : LA cL oq H) (hoq : oq ∉ pL S) (hl : lv_has ls 7 [(4, .int i), (3, .ref oq), (2, .ref mo), (1, .ref x), (0, .ref b)]) (hcc : cc + Phc S + 20000 ≤ 601024) (hnn : nn + Phs S + 100000 ≤ 7293034) (K : ∀ (S9 : PS) (H9 : Heap) (locs9 : List Loc) (ls9 : Array Slot) (c9 n9 : Nat), Wd G cy (fun q : Nat => s.heap.size ≤ q) s.heap S9 H9 locs9 → GX S9 → At S9 x 11 → At S9 mo 12 → MI S9 mo → GR S9 mo → TD S9 x mo → LA cL oq H9 → oq ∉ pL S9 → lv_has ls9 7 [(4, .int i), (3, .ref oq), (2, .ref mo), (1, .ref x), (0, .ref b)] → c9 + Phc S9 ≤ cc + Phc S + 102 → n9 + Phs S9 ≤ nn + Phs S + 1020 → W p l e room_1 s m #[Value.ref b] below meth c H9 locs9 c9 n9 Q (F0 m 1505 ls9 [])) : W p l e room_1 s m #[Value.ref b] below meth c H locs cc nn Q (F0 m 748 ls []) := by
  refine lv_aload_n X.1 X.2.1 dL_law_748 rfl (lv_at hl 3 rfl) ?_
  refine lv_aload_n X.1 X.2.1 dL_law_749 rfl (lv_at hl 4 rfl) ?_
  refine lv_iload X.1 X.2.1 dL_law_750 (lv_at hl 0 rfl) ?_
  refine lv_iconst (v := 1) X.1 X.2.1 dL_law_752 (by decide) ?_
  refine lv_iadd X.1 X.2.1 dL_law_753 ?_
  refine lv_topi (fun v_1 ev_1 => ?_)
  have z_2 : v_1.toInt = i_z + 1 := z_add ev_1 hz_i ti_1 (by omega) (by omega)
  refine va_sld X.1 X.2.1 hX hbl hbA hw.2.2 (z_ix rfl (by omega) (by omega)) dL_law_754 ?_
  refine lv_topi (fun v_3 ev_3 => ?_)
  have rg_4 := And.intro (z_lo v_3) (z_hi v_3)
  refine lv_aload_n X.1 X.2.1 dL_law_755 rfl (lv_at hl 4 rfl) ?_
  refine lv_iload X.1 X.2.1 dL_law_756 (lv_at hl 0 rfl) ?_
  refine lv_iconst (v := 2) X.1 X.2.1 dL_law_758 (by decide) ?_
  refine lv_iadd X.1 X.2.1 dL_law_759 ?_
  refine lv_topi (fun v_5 ev_5 => ?_)
  have z_6 : v_5.toInt = i_z + 2 := z_add ev_5 hz_i ti_2 (by omega) (by omega)
  refine va_sld X.1 X.2.1 hX hbl hbA hw.2.2 (z_ix rfl (by omega) (by omega)) dL_law_760 ?_
  refine lv_topi (fun v_7 ev_7 => ?_)
  have rg_8 := And.intro (z_lo v_7) (z_hi v_7)
  refine lv_aload_n X.1 X.2.1 dL_law_761 rfl (lv_at hl 4 rfl) ?_
  refine lv_iload X.1 X.2.1 dL_law_762 (lv_at hl 0 rfl) ?_
  refine lv_iconst (v := 3) X.1 X.2.1 dL_law_764 (by decide) ?_
  refine lv_iadd X.1 X.2.1 dL_law_765 ?_
  refine lv_topi (fun v_9 ev_9 => ?_)
  have z_10 : v_9.toInt = i_z + 3 := z_add ev_9 hz_i ti_3 (by omega) (by omega)
  refine va_sld X.1 X.2.1 hX hbl hbA hw.2.2 (z_ix rfl (by omega) (by omega)) dL_law_766 ?_
  refine lv_topi (fun v_11 ev_11 => ?_)
  have rg_12 := And.intro (z_lo v_11) (z_hi v_11)
  refine lv_aload_n X.1 X.2.1 dL_law_767 rfl (lv_at hl 1 rfl) ?_
  refine k_out (rm := { frames := 13, cells := 1, slots := 6, locals := 624 }) (av := [.ref x, .int (v_3), .int (v_7), .int (v_11), .ref oq]) (post := fun (r : Int32) (S9 : PS) => S = S9) X hw hAo (vx_runSW (As := [.ref x, .int (v_3), .int (v_7), .int (v_11), .ref oq]) (rest := []) (cfix X) (k_L_in l hst G cy κ S _ x (v_3) (v_7) (v_11) oq cL hG hax hoq) (vx_cwSW 5 X.2.2.2.1 gk_L_in rfl rfl rfl (by decide +kernel) ⟨Nat.le_of_ble_eq_true rfl, Nat.le_of_ble_eq_true rfl⟩) (pre_SO X hw hdc hkl hLA hAo _) rfl rfl hl.1 rfl (lv_room (Nat.le_of_ble_eq_true rfl)) dL_law_768 ⟨(by show cc + 1 ≤ 601024; omega), (by show nn + 6 ≤ 7293034; omega)⟩) (fun _ _ h => h) (cc + 1) (nn + 6) (Nat.le_refl _) (Nat.le_refl _) (fun rr_13 H locs hw hLA => ?_)
  have rg_14 := And.intro (z_lo rr_13) (z_hi rr_13)
  refine lv_istore (lv' := [(5, .int (rr_13)), (4, .int (i)), (3, .ref oq), (2, .ref mo), (1, .ref x), (0, .ref b)]) X.1 X.2.1 dL_law_771 hl (by decide) rfl (fun ls hl => ?_)
  refine lv_aload_n X.1 X.2.1 dL_law_773 rfl (lv_at hl 3 rfl) ?_
  refine lv_aload_n X.1 X.2.1 dL_law_774 rfl (lv_at hl 5 rfl) ?_
  refine lv_iload X.1 X.2.1 dL_law_775 (lv_at hl 1 rfl) ?_
  refine lv_iconst (v := 1) X.1 X.2.1 dL_law_777 (by decide) ?_
  refine lv_iadd X.1 X.2.1 dL_law_778 ?_
  refine lv_topi (fun v_15 ev_15 => ?_)
  have z_16 : v_15.toInt = i_z + 1 := z_add ev_15 hz_i ti_1 (by omega) (by omega)
  refine va_sld X.1 X.2.1 hX hbl hbA hw.2.2 (z_ix rfl (by omega) (by omega)) dL_law_779 ?_
  refine lv_topi (fun v_17 ev_17 => ?_)
  have es_18 : v_3 = v_17 := by rw [ev_3, ev_17, ev_1, ev_15]
  subst es_18
  refine lv_aload_n X.1 X.2.1 dL_law_780 rfl (lv_at hl 5 rfl) ?_
  refine lv_iload X.1 X.2.1 dL_law_781 (lv_at hl 1 rfl) ?_
  refine lv_iconst (v := 2) X.1 X.2.1 dL_law_783 (by decide) ?_
  refine lv_iadd X.1 X.2.1 dL_law_784 ?_
  refine lv_topi (fun v_19 ev_19 => ?_)
  have z_20 : v_19.toInt = i_z + 2 := z_add ev_19 hz_i ti_2 (by omega) (by omega)
  refine va_sld X.1 X.2.1 hX hbl hbA hw.2.2 (z_ix rfl (by omega) (by omega)) dL_law_785 ?_
  refine lv_topi (fun v_21 ev_21 => ?_)
  have es_22 : v_7 = v_21 := by rw [ev_7, ev_21, ev_5, ev_19]
  subst es_22
  refine lv_aload_n X.1 X.2.1 dL_law_786 rfl (lv_at hl 5 rfl) ?_
  refine lv_iload X.1 X.2.1 dL_law_787 (lv_at hl 1 rfl) ?_
  refine lv_iconst (v := 3) X.1 X.2.1 dL_law_789 (by decide) ?_
  refine lv_iadd X.1 X.2.1 dL_law_790 ?_
  refine lv_topi (fun v_23 ev_23 => ?_)
  have z_24 : v_23.toInt = i_z + 3 := z_add ev_23 hz_i ti_3 (by omega) (by omega)
  refine va_sld X.1 X.2.1 hX hbl hbA hw.2.2 (z_ix rfl (by omega) (by omega)) dL_law_791 ?_
  refine lv_topi (fun v_25 ev_25 => ?_)
  have es_26 : v_11 = v_25 := by rw [ev_11, ev_25, ev_9, ev_23]
  subst es_26
  refine k_i (rm := { frames := 3, cells := 0, slots := 0, locals := 144 }) (av := [.ref mo, .int (v_3), .int (v_7), .int (v_11)]) X hw (va_runV (As := [.int (v_3), .int (v_7), .int (v_11)]) (rest := []) (cfix X) (k_X12_in l G cy κ S _ mo (v_3) (v_3.toInt) (v_7) (v_7.toInt) (v_11) (v_11.toInt) hG ham rfl rfl rfl) (cwV 3 X.2.2.2.1 gk_X12_in rfl rfl rfl (by decide +kernel) ⟨Nat.le_of_ble_eq_true rfl, Nat.le_of_ble_eq_true rfl⟩) (pre_V X hw _ ham rfl (by decide) rfl) rfl rfl hl.1 rfl (lv_room (Nat.le_of_ble_eq_true rfl)) dL_law_792 ⟨(by show (cc + 1) + 0 ≤ 601024; omega), (by show (nn + 6) + 0 ≤ 7293034; omega)⟩) (cc + 1) (nn + 6) (by show (cc + 1) + 0 ≤ (cc + 1); omega) (by show (nn + 6) + 0 ≤ (nn + 6); omega) (fun rr_27 S_28 H locs hp hw hfr hnw => ?_)
  have la_29 := LA_keep hLA hoq hfr
  have oq_30 := oq_keep hLA hoq hnw
  obtain ⟨hk_31, hp⟩ := hp
  have ax_34 : At S_28 x 11 := hk_31.fr.at hax
  have am_35 : At S_28 mo 12 := hk_31.fr.at ham
  have mi_32 : MI S_28 mo := MIe_free hG ham hk_31.fr (by decide +kernel) hMI
  have gr_33 : GR S_28 mo := GR_free hG ham hk_31.fr (by decide +kernel) hGR
  have ph_36 : Phc S_28 = Phc S := Ph_ok hG hk_31 (by decide +kernel) (by decide +kernel) (by decide +kernel)
  have ph_37 : Phs S_28 = Phs S := Ph_ok hG hk_31 (by decide +kernel) (by decide +kernel) (by decide +kernel)
  have td_38 : TD S_28 x mo := TD_fr hG hk_31.fr hax ham (by decide +kernel) (by decide +kernel) (by decide +kernel) (by decide +kernel) (by decide +kernel) (by decide +kernel) hTD
  have hg_39 : GX S_28 := hk_31.1
  have rg_40 := And.intro (z_lo rr_27) (z_hi rr_27)
  refine lv_istore (lv' := [(6, .int (rr_27)), (5, .int (rr_13)), (4, .int (i)), (3, .ref oq), (2, .ref mo), (1, .ref x), (0, .ref b)]) X.1 X.2.1 dL_law_795 hl (by decide) rfl (fun ls hl => ?_)
  refine lv_goto (tgt := 1505) X.1 X.2.1 dL_law_797 (by decide) ?_
  exact K _ _ _ _ (cc + 1) (nn + 6) hw hg_39 ax_34 am_35 mi_32 gr_33 td_38 la_29 oq_30 (lv_sub hl [2, 3, 4, 5, 6] rfl) (by omega) (by omega)
set_option maxHeartbeats 4000000 in
set_option maxRecDepth 100000 in
theorem lc_14 {p : Program} {l : Launch} {e : Env} {s : State} {m : MethodId} {below : List Frame} {meth : Method} {c : Code} (hst : l.stackTraces = false) {b x mo oq L : Nat} {xs : Nat → Int32} {cL : ClassId} {G : va_G} {cy : Nat → ClassId} {κ : Nat → Nat} {S : PS} {H : Heap} {locs : List Loc} {ls : Array Slot} {cc nn : Nat} {Q : State → Prop} {i : Int32} {i_z : Int} (X : Cx p c cL_law 7 s #[Value.ref b] lw_tbl RL m G cy κ (fun q : Nat => s.heap.size ≤ q)) (hX : va_X b L xs s s.heap) (hbl : b < s.heap.size) (hbA : ¬ (fun q : Nat => s.heap.size ≤ q) b) (hdc : ∀ Y ∈ DcL, va_Nw (.declares (Bundle.initS Y)) s) (hkl : Kl cL s) (hAo : (fun q : Nat => s.heap.size ≤ q) oq) (hL : L ≤ 3072) (hz_i : i.toInt = i_z) (hi0 : 0 ≤ i_z) (hi1 : i_z + 6 ≤ (L : Int)) (hw : Wd G cy (fun q : Nat => s.heap.size ≤ q) s.heap S H locs) (hG : GX S) (hax : At S x 11) (ham : At S mo 12) (hMI : MI S mo) (hGR : GR S mo) (hTD : TD S x mo) (hLA : LA cL oq H) (hoq : oq ∉ pL S) (hl : lv_has ls 7 [(4, .int i), (3, .ref oq), (2, .ref mo), (1, .ref x), (0, .ref b)]) (hcc : cc + Phc S + 20000 ≤ 601024) (hnn : nn + Phs S + 100000 ≤ 7293034) (K : ∀ (S9 : PS) (H9 : Heap) (locs9 : List Loc) (ls9 : Array Slot) (c9 n9 : Nat), Wd G cy (fun q : Nat => s.heap.size ≤ q) s.heap S9 H9 locs9 → GX S9 → At S9 x 11 → At S9 mo 12 → MI S9 mo → GR S9 mo → TD S9 x mo → LA cL oq H9 → oq ∉ pL S9 → lv_has ls9 7 [(4, .int i), (3, .ref oq), (2, .ref mo), (1, .ref x), (0, .ref b)] → c9 + Phc S9 ≤ cc + Phc S + 102 → n9 + Phs S9 ≤ nn + Phs S + 1020 → W p l e room_1 s m #[Value.ref b] below meth c H9 locs9 c9 n9 Q (F0 m 1505 ls9 [])) : W p l e room_1 s m #[Value.ref b] below meth c H locs cc nn Q (F0 m 800 ls []) := by
  refine lv_aload_n X.1 X.2.1 dL_law_800 rfl (lv_at hl 3 rfl) ?_
  refine lv_aload_n X.1 X.2.1 dL_law_801 rfl (lv_at hl 4 rfl) ?_
  refine lv_iload X.1 X.2.1 dL_law_802 (lv_at hl 0 rfl) ?_
  refine lv_iconst (v := 1) X.1 X.2.1 dL_law_804 (by decide) ?_
  refine lv_iadd X.1 X.2.1 dL_law_805 ?_
  refine lv_topi (fun v_1 ev_1 => ?_)
  have z_2 : v_1.toInt = i_z + 1 := z_add ev_1 hz_i ti_1 (by omega) (by omega)
  refine va_sld X.1 X.2.1 hX hbl hbA hw.2.2 (z_ix rfl (by omega) (by omega)) dL_law_806 ?_
  refine lv_topi (fun v_3 ev_3 => ?_)
  have rg_4 := And.intro (z_lo v_3) (z_hi v_3)
  refine k_gi2 (kc := 0) (ks := 0) (rm := { frames := 6, cells := Phc S + 8, slots := Phs S + 15019, locals := 288 }) (av := [.ref x, .int (v_3)]) X hw (va_runV (As := [.int (v_3)]) (rest := []) (cfix X) (k_X11_cut l G cy κ S _ _ x (v_3) (v_3.toInt) hG hax rfl) (cwV 1 X.2.2.2.1 gk_X11_cut rfl rfl rfl (by decide +kernel) ⟨Nat.le_of_ble_eq_true rfl, Nat.le_of_ble_eq_true rfl⟩) (pre_gV X hw _ hax rfl (by decide) rfl) rfl rfl hl.1 rfl (lv_room (Nat.le_of_ble_eq_true rfl)) dL_law_807 ⟨(by show cc + (Phc S + 8) ≤ 601024; omega), (by show nn + (Phs S + 15019) ≤ 7293034; omega)⟩) (fun rr_5 S_6 H locs c_7 n_8 hc_7 hn_8 hp hw hfr hnw => ?_)
  have la_9 := LA_keep hLA hoq hfr
  have oq_10 := oq_keep hLA hoq hnw
  obtain ⟨hk_11, hp⟩ := hp
  have ax_14 : At S_6 x 11 := hk_11.fr.at hax
  have am_15 : At S_6 mo 12 := hk_11.fr.at ham
  have mi_12 : MI S_6 mo := MIe_free hG ham hk_11.fr (by decide +kernel) hMI
  have gr_13 : GR S_6 mo := GR_free hG ham hk_11.fr (by decide +kernel) hGR
  have td_16 : TD S_6 x mo := TD_fr hG hk_11.fr hax ham (by decide +kernel) (by decide +kernel) (by decide +kernel) (by decide +kernel) (by decide +kernel) (by decide +kernel) hTD
  have hg_17 : GX S_6 := hk_11.1
  have rg_18 := And.intro (z_lo rr_5) (z_hi rr_5)
  refine lv_pop X.1 X.2.1 dL_law_810 rfl ?_
  refine lv_aload_n X.1 X.2.1 dL_law_811 rfl (lv_at hl 2 rfl) ?_
  refine lv_aload_n X.1 X.2.1 dL_law_812 rfl (lv_at hl 4 rfl) ?_
  refine lv_iload X.1 X.2.1 dL_law_813 (lv_at hl 0 rfl) ?_
  refine lv_iconst (v := 1) X.1 X.2.1 dL_law_815 (by decide) ?_
  refine lv_iadd X.1 X.2.1 dL_law_816 ?_
  refine lv_topi (fun v_19 ev_19 => ?_)
  have z_20 : v_19.toInt = i_z + 1 := z_add ev_19 hz_i ti_1 (by omega) (by omega)
  refine va_sld X.1 X.2.1 hX hbl hbA hw.2.2 (z_ix rfl (by omega) (by omega)) dL_law_817 ?_
  refine lv_topi (fun v_21 ev_21 => ?_)
  have es_22 : v_3 = v_21 := by rw [ev_3, ev_21, ev_1, ev_19]
  subst es_22
  refine k_i (rm := { frames := 7, cells := 0, slots := 0, locals := 336 }) (av := [.ref mo, .int (v_3)]) X hw (va_runV (As := [.int (v_3)]) (rest := []) (cfix X) (k_X12_cut l G cy κ S_6 _ mo (v_3) (v_3.toInt) hg_17 am_15 rfl mi_12 gr_13) (cwV 1 X.2.2.2.1 gk_X12_cut rfl rfl rfl (by decide +kernel) ⟨Nat.le_of_ble_eq_true rfl, Nat.le_of_ble_eq_true rfl⟩) (pre_V X hw _ am_15 rfl (by decide) rfl) rfl rfl hl.1 rfl (lv_room (Nat.le_of_ble_eq_true rfl)) dL_law_818 ⟨(by show c_7 + 0 ≤ 601024; omega), (by show n_8 + 0 ≤ 7293034; omega)⟩) c_7 n_8 (by show c_7 + 0 ≤ c_7; omega) (by show n_8 + 0 ≤ n_8; omega) (fun rr_23 S_24 H locs hp hw hfr hnw => ?_)
  have la_25 := LA_keep la_9 oq_10 hfr
  have oq_26 := oq_keep la_9 oq_10 hnw
  obtain ⟨hk_27, hp⟩ := hp
  have ax_30 : At S_24 x 11 := hk_27.fr.at ax_14
  have am_31 : At S_24 mo 12 := hk_27.fr.at am_15
  have mi_28 : MI S_24 mo := hp.1
  have gr_29 : GR S_24 mo := hp.2
  have ph_32 : Phc S_24 = Phc S_6 := Ph_ok hg_17 hk_27 (by decide +kernel) (by decide +kernel) (by decide +kernel)
  have ph_33 : Phs S_24 = Phs S_6 := Ph_ok hg_17 hk_27 (by decide +kernel) (by decide +kernel) (by decide +kernel)
  have td_34 : TD S_24 x mo := TD_fr hg_17 hk_27.fr ax_14 am_15 (by decide +kernel) (by decide +kernel) (by decide +kernel) (by decide +kernel) (by decide +kernel) (by decide +kernel) td_16
  have hg_35 : GX S_24 := hk_27.1
  have rg_36 := And.intro (z_lo rr_23) (z_hi rr_23)
  refine lv_pop X.1 X.2.1 dL_law_821 rfl ?_
  refine lv_goto (tgt := 1505) X.1 X.2.1 dL_law_822 (by decide) ?_
  exact K _ _ _ _ c_7 n_8 hw hg_35 ax_30 am_31 mi_28 gr_29 td_34 la_25 oq_26 (lv_sub hl [0, 1, 2, 3, 4] rfl) (by omega) (by omega)
set_option maxHeartbeats 4000000 in
set_option maxRecDepth 100000 in
theorem lc_15 {p : Program} {l : Launch} {e : Env} {s : State} {m : MethodId} {below : List Frame} {meth : Method} {c : Code} (hst : l.stackTraces = false) {b x mo oq L : Nat} {xs : Nat → Int32} {cL : ClassId} {G : va_G} {cy : Nat → ClassId} {κ : Nat → Nat} {S : PS} {H : Heap} {locs : List Loc} {ls : Array Slot} {cc nn : Nat} {Q : State → Prop} {i : Int32} {i_z : Int} (X : Cx p c cL_law 7 s #[Value.ref b] lw_tbl RL m G cy κ (fun q : Nat => s.heap.size ≤ q)) (hX : va_X b L xs s s.heap) (hbl : b < s.heap.size) (hbA : ¬ (fun q : Nat => s.heap.size ≤ q) b) (hdc : ∀ Y ∈ DcL, va_Nw (.declares (Bundle.initS Y)) s) (hkl : Kl cL s) (hAo : (fun q : Nat => s.heap.size ≤ q) oq) (hL : L ≤ 3072) (hz_i : i.toInt = i_z) (hi0 : 0 ≤ i_z) (hi1 : i_z + 6 ≤ (L : Int)) (hw : Wd G cy (fun q : Nat => s.heap.size ≤ q) s.heap S H locs) (hG : GX S) (hax : At S x 11) (ham : At S mo 12) (hMI : MI S mo) (hGR : GR S mo) (hTD : TD S x mo) (hLA : LA cL oq H) (hoq : oq ∉ pL S) (hl : lv_has ls 7 [(4, .int i), (3, .ref oq), (2, .ref mo), (1, .ref x), (0, .ref b)]) (hcc : cc + Phc S + 20000 ≤ 601024) (hnn : nn + Phs S + 100000 ≤ 7293034) (K : ∀ (S9 : PS) (H9 : Heap) (locs9 : List Loc) (ls9 : Array Slot) (c9 n9 : Nat), Wd G cy (fun q : Nat => s.heap.size ≤ q) s.heap S9 H9 locs9 → GX S9 → At S9 x 11 → At S9 mo 12 → MI S9 mo → GR S9 mo → TD S9 x mo → LA cL oq H9 → oq ∉ pL S9 → lv_has ls9 7 [(4, .int i), (3, .ref oq), (2, .ref mo), (1, .ref x), (0, .ref b)] → c9 + Phc S9 ≤ cc + Phc S + 102 → n9 + Phs S9 ≤ nn + Phs S + 1020 → W p l e room_1 s m #[Value.ref b] below meth c H9 locs9 c9 n9 Q (F0 m 1505 ls9 [])) : W p l e room_1 s m #[Value.ref b] below meth c H locs cc nn Q (F0 m 825 ls []) := by
  refine lv_aload_n X.1 X.2.1 dL_law_825 rfl (lv_at hl 3 rfl) ?_
  refine lv_aload_n X.1 X.2.1 dL_law_826 rfl (lv_at hl 4 rfl) ?_
  refine lv_iload X.1 X.2.1 dL_law_827 (lv_at hl 0 rfl) ?_
  refine lv_iconst (v := 1) X.1 X.2.1 dL_law_829 (by decide) ?_
  refine lv_iadd X.1 X.2.1 dL_law_830 ?_
  refine lv_topi (fun v_1 ev_1 => ?_)
  have z_2 : v_1.toInt = i_z + 1 := z_add ev_1 hz_i ti_1 (by omega) (by omega)
  refine va_sld X.1 X.2.1 hX hbl hbA hw.2.2 (z_ix rfl (by omega) (by omega)) dL_law_831 ?_
  refine lv_topi (fun v_3 ev_3 => ?_)
  have rg_4 := And.intro (z_lo v_3) (z_hi v_3)
  refine lv_aload_n X.1 X.2.1 dL_law_832 rfl (lv_at hl 4 rfl) ?_
  refine lv_iload X.1 X.2.1 dL_law_833 (lv_at hl 0 rfl) ?_
  refine lv_iconst (v := 2) X.1 X.2.1 dL_law_835 (by decide) ?_
  refine lv_iadd X.1 X.2.1 dL_law_836 ?_
  refine lv_topi (fun v_5 ev_5 => ?_)
  have z_6 : v_5.toInt = i_z + 2 := z_add ev_5 hz_i ti_2 (by omega) (by omega)
  refine va_sld X.1 X.2.1 hX hbl hbA hw.2.2 (z_ix rfl (by omega) (by omega)) dL_law_837 ?_
  refine lv_topi (fun v_7 ev_7 => ?_)
  have rg_8 := And.intro (z_lo v_7) (z_hi v_7)
  refine k_i (rm := { frames := 3, cells := 0, slots := 0, locals := 144 }) (av := [.ref x, .int (v_3), .int (v_7)]) X hw (va_runV (As := [.int (v_3), .int (v_7)]) (rest := []) (cfix X) (k_X11_skein l G cy κ S _ x (v_3) (v_3.toInt) (v_7) (v_7.toInt) hG hax rfl rfl) (cwV 2 X.2.2.2.1 gk_X11_skein rfl rfl rfl (by decide +kernel) ⟨Nat.le_of_ble_eq_true rfl, Nat.le_of_ble_eq_true rfl⟩) (pre_V X hw _ hax rfl (by decide) rfl) rfl rfl hl.1 rfl (lv_room (Nat.le_of_ble_eq_true rfl)) dL_law_838 ⟨(by show cc + 0 ≤ 601024; omega), (by show nn + 0 ≤ 7293034; omega)⟩) cc nn (by show cc + 0 ≤ cc; omega) (by show nn + 0 ≤ nn; omega) (fun rr_9 S_10 H locs hp hw hfr hnw => ?_)
  have la_11 := LA_keep hLA hoq hfr
  have oq_12 := oq_keep hLA hoq hnw
  obtain ⟨e2, hp⟩ := hp
  subst e2
  have rg_13 := And.intro (z_lo rr_9) (z_hi rr_9)
  refine lv_pop X.1 X.2.1 dL_law_841 rfl ?_
  refine lv_aload_n X.1 X.2.1 dL_law_842 rfl (lv_at hl 2 rfl) ?_
  refine lv_aload_n X.1 X.2.1 dL_law_843 rfl (lv_at hl 4 rfl) ?_
  refine lv_iload X.1 X.2.1 dL_law_844 (lv_at hl 0 rfl) ?_
  refine lv_iconst (v := 1) X.1 X.2.1 dL_law_846 (by decide) ?_
  refine lv_iadd X.1 X.2.1 dL_law_847 ?_
  refine lv_topi (fun v_14 ev_14 => ?_)
  have z_15 : v_14.toInt = i_z + 1 := z_add ev_14 hz_i ti_1 (by omega) (by omega)
  refine va_sld X.1 X.2.1 hX hbl hbA hw.2.2 (z_ix rfl (by omega) (by omega)) dL_law_848 ?_
  refine lv_topi (fun v_16 ev_16 => ?_)
  have es_17 : v_3 = v_16 := by rw [ev_3, ev_16, ev_1, ev_14]
  subst es_17
  refine lv_aload_n X.1 X.2.1 dL_law_849 rfl (lv_at hl 4 rfl) ?_
  refine lv_iload X.1 X.2.1 dL_law_850 (lv_at hl 0 rfl) ?_
  refine lv_iconst (v := 2) X.1 X.2.1 dL_law_852 (by decide) ?_
  refine lv_iadd X.1 X.2.1 dL_law_853 ?_
  refine lv_topi (fun v_18 ev_18 => ?_)
  have z_19 : v_18.toInt = i_z + 2 := z_add ev_18 hz_i ti_2 (by omega) (by omega)
  refine va_sld X.1 X.2.1 hX hbl hbA hw.2.2 (z_ix rfl (by omega) (by omega)) dL_law_854 ?_
  refine lv_topi (fun v_20 ev_20 => ?_)
  have es_21 : v_7 = v_20 := by rw [ev_7, ev_20, ev_5, ev_18]
  subst es_21
  refine k_i (rm := { frames := 8, cells := 0, slots := 0, locals := 384 }) (av := [.ref mo, .int (v_3), .int (v_7)]) X hw (va_runV (As := [.int (v_3), .int (v_7)]) (rest := []) (cfix X) (k_X12_skein l G cy κ S _ mo (v_3) (v_3.toInt) (v_7) (v_7.toInt) hG ham rfl rfl hMI) (cwV 2 X.2.2.2.1 gk_X12_skein rfl rfl rfl (by decide +kernel) ⟨Nat.le_of_ble_eq_true rfl, Nat.le_of_ble_eq_true rfl⟩) (pre_V X hw _ ham rfl (by decide) rfl) rfl rfl hl.1 rfl (lv_room (Nat.le_of_ble_eq_true rfl)) dL_law_855 ⟨(by show cc + 0 ≤ 601024; omega), (by show nn + 0 ≤ 7293034; omega)⟩) cc nn (by show cc + 0 ≤ cc; omega) (by show nn + 0 ≤ nn; omega) (fun rr_22 S_23 H locs hp hw hfr hnw => ?_)
  have la_24 := LA_keep la_11 oq_12 hfr
  have oq_25 := oq_keep la_11 oq_12 hnw
  obtain ⟨hk_26, hp⟩ := hp
  have ax_29 : At S_23 x 11 := hk_26.fr.at hax
  have am_30 : At S_23 mo 12 := hk_26.fr.at ham
  have mi_27 : MI S_23 mo := MIe_free hG ham hk_26.fr (by decide +kernel) hMI
  have gr_28 : GR S_23 mo := GR_free hG ham hk_26.fr (by decide +kernel) hGR
  have ph_31 : Phc S_23 = Phc S := Ph_ok hG hk_26 (by decide +kernel) (by decide +kernel) (by decide +kernel)
  have ph_32 : Phs S_23 = Phs S := Ph_ok hG hk_26 (by decide +kernel) (by decide +kernel) (by decide +kernel)
  have td_33 : TD S_23 x mo := TD_fr hG hk_26.fr hax ham (by decide +kernel) (by decide +kernel) (by decide +kernel) (by decide +kernel) (by decide +kernel) (by decide +kernel) hTD
  have hg_34 : GX S_23 := hk_26.1
  have rg_35 := And.intro (z_lo rr_22) (z_hi rr_22)
  refine lv_pop X.1 X.2.1 dL_law_858 rfl ?_
  refine lv_goto (tgt := 1505) X.1 X.2.1 dL_law_859 (by decide) ?_
  exact K _ _ _ _ cc nn hw hg_34 ax_29 am_30 mi_27 gr_28 td_33 la_24 oq_25 (lv_sub hl [0, 1, 2, 3, 4] rfl) (by omega) (by omega)
