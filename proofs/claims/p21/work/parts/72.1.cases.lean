set_option maxHeartbeats 4000000 in
set_option maxRecDepth 100000 in
theorem lc_8 {p : Program} {l : Launch} {e : Env} {s : State} {m : MethodId} {below : List Frame} {meth : Method} {c : Code} (hst : l.stackTraces = false) {b x mo oq L : Nat} {xs : Nat → Int32} {cL : ClassId} {G : va_G} {cy : Nat → ClassId} {κ : Nat → Nat} {S : PS} {H : Heap} {locs : List Loc} {ls : Array Slot} {cc nn : Nat} {Q : State → Prop} {i : Int32} {i_z : Int} (X : Cx p c cL_law 7 s #[Value.ref b] lw_tbl RL m G cy κ (fun q : Nat => s.heap.size ≤ q)) (hX : va_X b L xs s s.heap) (hbl : b < s.heap.size) (hbA : ¬ (fun q : Nat => s.heap.size ≤ q) b) (hdc : ∀ Y ∈ DcL, va_Nw (.declares (Bundle.initS Y)) s) (hkl : Kl cL s) (hAo : (fun q : Nat => s.heap.size ≤ q) oq) (hL : L ≤ 3072) (hz_i : i.toInt = i_z) (hi0 : 0 ≤ i_z) (hi1 : i_z + 6 ≤ (L : Int)) (hw : Wd G cy (fun q : Nat => s.heap.size ≤ q) s.heap S H locs) (hG : GX S) (hax : At S x 11) (ham : At S mo 12) (hMI : MI S mo) (hGR : GR S mo) (hTD : TD S x mo) (hLA : LA cL oq H) (hoq : oq ∉ pL S) (hl : lv_has ls 7 [(4, .int i), (3, .ref oq), (2, .ref mo), (1, .ref x), (0, .ref b)]) (hcc : cc + Phc S + 20000 ≤ 601024) (hnn : nn + Phs S + 100000 ≤ 7293034) (K : ∀ (S9 : PS) (H9 : Heap) (locs9 : List Loc) (ls9 : Array Slot) (c9 n9 : Nat), Wd G cy (fun q : Nat => s.heap.size ≤ q) s.heap S9 H9 locs9 → GX S9 → At S9 x 11 → At S9 mo 12 → MI S9 mo → GR S9 mo → TD S9 x mo → LA cL oq H9 → oq ∉ pL S9 → lv_has ls9 7 [(4, .int i), (3, .ref oq), (2, .ref mo), (1, .ref x), (0, .ref b)] → c9 + Phc S9 ≤ cc + Phc S + 102 → n9 + Phs S9 ≤ nn + Phs S + 1020 → W p l e room_1 s m #[Value.ref b] below meth c H9 locs9 c9 n9 Q (F0 m 1505 ls9 [])) : W p l e room_1 s m #[Value.ref b] below meth c H locs cc nn Q (F0 m 611 ls []) := by
  refine lv_aload_n X.1 X.2.1 dL_law_611 rfl (lv_at hl 3 rfl) ?_
  refine lv_aload_n X.1 X.2.1 dL_law_612 rfl (lv_at hl 4 rfl) ?_
  refine lv_iload X.1 X.2.1 dL_law_613 (lv_at hl 0 rfl) ?_
  refine lv_iconst (v := 1) X.1 X.2.1 dL_law_615 (by decide) ?_
  refine lv_iadd X.1 X.2.1 dL_law_616 ?_
  refine lv_topi (fun v_1 ev_1 => ?_)
  have z_2 : v_1.toInt = i_z + 1 := z_add ev_1 hz_i ti_1 (by omega) (by omega)
  refine va_sld X.1 X.2.1 hX hbl hbA hw.2.2 (z_ix rfl (by omega) (by omega)) dL_law_617 ?_
  refine lv_topi (fun v_3 ev_3 => ?_)
  have rg_4 := And.intro (z_lo v_3) (z_hi v_3)
  refine k_i (rm := { frames := 1, cells := 0, slots := 0, locals := 48 }) (av := [.ref x, .int (v_3)]) X hw (va_runV (As := [.int (v_3)]) (rest := []) (cfix X) (k_X11_end l G cy κ S _ x (v_3) (v_3.toInt) hG hax rfl) (cwV 1 X.2.2.2.1 gk_X11_end rfl rfl rfl (by decide +kernel) ⟨Nat.le_of_ble_eq_true rfl, Nat.le_of_ble_eq_true rfl⟩) (pre_V X hw _ hax rfl (by decide) rfl) rfl rfl hl.1 rfl (lv_room (Nat.le_of_ble_eq_true rfl)) dL_law_618 ⟨(by show cc + 0 ≤ 601024; omega), (by show nn + 0 ≤ 7293034; omega)⟩) cc nn (by show cc + 0 ≤ cc; omega) (by show nn + 0 ≤ nn; omega) (fun rr_5 S_6 H locs hp hw hfr hnw => ?_)
  have la_7 := LA_keep hLA hoq hfr
  have oq_8 := oq_keep hLA hoq hnw
  obtain ⟨hk_9, hp⟩ := hp
  have ax_12 : At S_6 x 11 := hk_9.fr.at hax
  have am_13 : At S_6 mo 12 := hk_9.fr.at ham
  have mi_10 : MI S_6 mo := MIe_free hG ham hk_9.fr (by decide +kernel) hMI
  have gr_11 : GR S_6 mo := GR_free hG ham hk_9.fr (by decide +kernel) hGR
  have ph_14 : Phc S_6 = Phc S := Ph_ok hG hk_9 (by decide +kernel) (by decide +kernel) (by decide +kernel)
  have ph_15 : Phs S_6 = Phs S := Ph_ok hG hk_9 (by decide +kernel) (by decide +kernel) (by decide +kernel)
  obtain ⟨⟨q_16, td_17, td_18, td_19⟩, td_20, td_21, ⟨u_22, td_23, td_24, td_25⟩, pn_26, ct_27, th_28, tx_29⟩ := hTD
  have hq_30 := mkhid hp
  have th_31 : pR S_6 1107 x = some q_16 := hk_9.fr.R' (by decide +kernel) hax td_17
  have th_32 : At S_6 q_16 8 := hk_9.fr.at td_18
  have th_35 : pR S_6 1105 x = some u_22 := hk_9.fr.R' (by decide +kernel) hax td_23
  have th_36 : At S_6 u_22 10 := hk_9.fr.at td_24
  have th_33 : pI S_6 801 q_16 = pI S 801 q_16 := hk_9.fr.I' (by decide +kernel) td_18 rfl
  have th_34 : pI S_6 1245 mo = pI S 1245 mo := hk_9.fr.I' (by decide +kernel) ham rfl
  have tf_40 : (pI S_6 1102 x).toInt = (pI S 1102 x).toInt := congrArg Int32.toInt (hk_9.fr.I' (by decide +kernel) hax rfl)
  have tf_41 : (pI S_6 1104 x).toInt = (pI S 1104 x).toInt := congrArg Int32.toInt (hk_9.fr.I' (by decide +kernel) hax rfl)
  have tf_42 : (pI S_6 1201 mo).toInt = (pI S 1201 mo).toInt := congrArg Int32.toInt (hk_9.fr.I' (by decide +kernel) ham rfl)
  have tf_43 : (pI S_6 1211 mo).toInt = (pI S 1211 mo).toInt := congrArg Int32.toInt (hk_9.fr.I' (by decide +kernel) ham rfl)
  have tf_44 := hp.2.2 _ td_23
  have tf_47 : (pI S_6 1228 mo).toInt = (pI S 1228 mo).toInt := congrArg Int32.toInt (hk_9.fr.I' (by decide +kernel) ham rfl)
  have tf_48 : (pI S_6 1228 mo).toInt = (pI S 1228 mo).toInt := congrArg Int32.toInt (hk_9.fr.I' (by decide +kernel) ham rfl)
  have th_50 : mA S_6 mo 1210 = thinF := TH_fr hG hk_9.fr ham (by decide +kernel) th_28
  have ct_49 : CT S_6 x mo := CT_eq hG hk_9.fr hax (by decide +kernel) (by decide +kernel) (S12_fr hG hk_9.fr ham (by decide +kernel)) ct_27
  have th_39 : PN S_6 x := PN_fr hG hax hk_9.fr (by decide +kernel) (by decide +kernel) (by decide +kernel) pn_26
  have hg_52 : GX S_6 := hk_9.1
  have rg_53 := And.intro (z_lo rr_5) (z_hi rr_5)
  refine lv_pop X.1 X.2.1 dL_law_621 rfl ?_
  refine lv_aload_n X.1 X.2.1 dL_law_622 rfl (lv_at hl 2 rfl) ?_
  refine lv_aload_n X.1 X.2.1 dL_law_623 rfl (lv_at hl 4 rfl) ?_
  refine lv_iload X.1 X.2.1 dL_law_624 (lv_at hl 0 rfl) ?_
  refine lv_iconst (v := 1) X.1 X.2.1 dL_law_626 (by decide) ?_
  refine lv_iadd X.1 X.2.1 dL_law_627 ?_
  refine lv_topi (fun v_54 ev_54 => ?_)
  have z_55 : v_54.toInt = i_z + 1 := z_add ev_54 hz_i ti_1 (by omega) (by omega)
  refine va_sld X.1 X.2.1 hX hbl hbA hw.2.2 (z_ix rfl (by omega) (by omega)) dL_law_628 ?_
  refine lv_topi (fun v_56 ev_56 => ?_)
  have es_57 : v_3 = v_56 := by rw [ev_3, ev_56, ev_1, ev_54]
  subst es_57
  refine k_i (rm := { frames := 2, cells := 0, slots := 0, locals := 96 }) (av := [.ref mo, .int (v_3)]) X hw (va_runV (As := [.int (v_3)]) (rest := []) (cfix X) (k_X12_end l G cy κ S_6 _ mo (v_3) (v_3.toInt) hg_52 am_13 rfl) (cwV 1 X.2.2.2.1 gk_X12_end rfl rfl rfl (by decide +kernel) ⟨Nat.le_of_ble_eq_true rfl, Nat.le_of_ble_eq_true rfl⟩) (pre_V X hw _ am_13 rfl (by decide) rfl) rfl rfl hl.1 rfl (lv_room (Nat.le_of_ble_eq_true rfl)) dL_law_629 ⟨(by show cc + 0 ≤ 601024; omega), (by show nn + 0 ≤ 7293034; omega)⟩) cc nn (by show cc + 0 ≤ cc; omega) (by show nn + 0 ≤ nn; omega) (fun rr_58 S_59 H locs hp hw hfr hnw => ?_)
  have la_60 := LA_keep la_7 oq_8 hfr
  have oq_61 := oq_keep la_7 oq_8 hnw
  obtain ⟨hk_62, hp⟩ := hp
  have ax_65 : At S_59 x 11 := hk_62.fr.at ax_12
  have am_66 : At S_59 mo 12 := hk_62.fr.at am_13
  have mi_63 : MI S_59 mo := MIe_free hg_52 am_13 hk_62.fr (by decide +kernel) mi_10
  have gr_64 : GR S_59 mo := GR_free hg_52 am_13 hk_62.fr (by decide +kernel) gr_11
  have ph_67 : Phc S_59 = Phc S_6 := Ph_ok hg_52 hk_62 (by decide +kernel) (by decide +kernel) (by decide +kernel)
  have ph_68 : Phs S_59 = Phs S_6 := Ph_ok hg_52 hk_62 (by decide +kernel) (by decide +kernel) (by decide +kernel)
  have th_69 : pR S_59 1107 x = some q_16 := hk_62.fr.R' (by decide +kernel) ax_12 th_31
  have th_70 : At S_59 q_16 8 := hk_62.fr.at th_32
  have th_73 : pR S_59 1105 x = some u_22 := hk_62.fr.R' (by decide +kernel) ax_12 th_35
  have th_74 : At S_59 u_22 10 := hk_62.fr.at th_36
  have th_71 : pI S_59 801 q_16 = pI S_6 801 q_16 := hk_62.fr.I' (by decide +kernel) th_32 rfl
  have th_72 : pI S_59 1245 mo = pI S_6 1245 mo := hk_62.fr.I' (by decide +kernel) am_13 rfl
  have tf_78 : (pI S_59 1102 x).toInt = (pI S_6 1102 x).toInt := congrArg Int32.toInt (hk_62.fr.I' (by decide +kernel) ax_12 rfl)
  have tf_79 : (pI S_59 1104 x).toInt = (pI S_6 1104 x).toInt := congrArg Int32.toInt (hk_62.fr.I' (by decide +kernel) ax_12 rfl)
  have tf_80 : (pI S_59 1201 mo).toInt = (pI S_6 1201 mo).toInt := congrArg Int32.toInt (hk_62.fr.I' (by decide +kernel) am_13 rfl)
  have tf_81 : (pI S_59 1211 mo).toInt = (pI S_6 1211 mo).toInt := congrArg Int32.toInt (hk_62.fr.I' (by decide +kernel) am_13 rfl)
  have tf_82 : (pI S_59 1000 u_22).toInt = (pI S_6 1000 u_22).toInt := congrArg Int32.toInt (hk_62.fr.I' (by decide +kernel) th_36 rfl)
  have tf_83 : (pI S_59 1000 u_22).toInt = (pI S_6 1000 u_22).toInt := congrArg Int32.toInt (hk_62.fr.I' (by decide +kernel) th_36 rfl)
  have tf_84 : (pI S_59 1000 u_22).toInt = (pI S_6 1000 u_22).toInt := congrArg Int32.toInt (hk_62.fr.I' (by decide +kernel) th_36 rfl)
  have tf_85 := hp.2.2
  have th_88 : mA S_59 mo 1210 = thinF := TH_fr hg_52 hk_62.fr am_13 (by decide +kernel) th_50
  have ct_87 : CT S_59 x mo := CT_eq hg_52 hk_62.fr ax_12 (by decide +kernel) (by decide +kernel) (S12_fr hg_52 hk_62.fr am_13 (by decide +kernel)) ct_49
  have th_77 : PN S_59 x := PN_fr hg_52 ax_12 hk_62.fr (by decide +kernel) (by decide +kernel) (by decide +kernel) th_39
  have td_89 : TD S_59 x mo := ⟨⟨q_16, th_69, th_70, by rw [th_71, th_33, th_72, th_34, td_19]⟩, by omega, by omega, ⟨u_22, th_73, th_74, by omega⟩, th_77, ct_87, th_88, TX_fr hg_52 hk_62.fr ax_12 am_13 (by decide +kernel) (TX_le hG hk_9.fr hax ham (by decide +kernel) td_23 (by omega) tx_29)⟩
  have rq_91 : rr_5.toInt = rr_58.toInt := by omega
  have hg_92 : GX S_59 := hk_62.1
  have rg_93 := And.intro (z_lo rr_58) (z_hi rr_58)
  refine lv_pop X.1 X.2.1 dL_law_632 rfl ?_
  refine lv_goto (tgt := 1505) X.1 X.2.1 dL_law_633 (by decide) ?_
  exact K _ _ _ _ cc nn hw hg_92 ax_65 am_66 mi_63 gr_64 td_89 la_60 oq_61 (lv_sub hl [0, 1, 2, 3, 4] rfl) (by omega) (by omega)
set_option maxHeartbeats 4000000 in
set_option maxRecDepth 100000 in
theorem lc_9 {p : Program} {l : Launch} {e : Env} {s : State} {m : MethodId} {below : List Frame} {meth : Method} {c : Code} (hst : l.stackTraces = false) {b x mo oq L : Nat} {xs : Nat → Int32} {cL : ClassId} {G : va_G} {cy : Nat → ClassId} {κ : Nat → Nat} {S : PS} {H : Heap} {locs : List Loc} {ls : Array Slot} {cc nn : Nat} {Q : State → Prop} {i : Int32} {i_z : Int} (X : Cx p c cL_law 7 s #[Value.ref b] lw_tbl RL m G cy κ (fun q : Nat => s.heap.size ≤ q)) (hX : va_X b L xs s s.heap) (hbl : b < s.heap.size) (hbA : ¬ (fun q : Nat => s.heap.size ≤ q) b) (hdc : ∀ Y ∈ DcL, va_Nw (.declares (Bundle.initS Y)) s) (hkl : Kl cL s) (hAo : (fun q : Nat => s.heap.size ≤ q) oq) (hL : L ≤ 3072) (hz_i : i.toInt = i_z) (hi0 : 0 ≤ i_z) (hi1 : i_z + 6 ≤ (L : Int)) (hw : Wd G cy (fun q : Nat => s.heap.size ≤ q) s.heap S H locs) (hG : GX S) (hax : At S x 11) (ham : At S mo 12) (hMI : MI S mo) (hGR : GR S mo) (hTD : TD S x mo) (hLA : LA cL oq H) (hoq : oq ∉ pL S) (hl : lv_has ls 7 [(4, .int i), (3, .ref oq), (2, .ref mo), (1, .ref x), (0, .ref b)]) (hcc : cc + Phc S + 20000 ≤ 601024) (hnn : nn + Phs S + 100000 ≤ 7293034) (K : ∀ (S9 : PS) (H9 : Heap) (locs9 : List Loc) (ls9 : Array Slot) (c9 n9 : Nat), Wd G cy (fun q : Nat => s.heap.size ≤ q) s.heap S9 H9 locs9 → GX S9 → At S9 x 11 → At S9 mo 12 → MI S9 mo → GR S9 mo → TD S9 x mo → LA cL oq H9 → oq ∉ pL S9 → lv_has ls9 7 [(4, .int i), (3, .ref oq), (2, .ref mo), (1, .ref x), (0, .ref b)] → c9 + Phc S9 ≤ cc + Phc S + 102 → n9 + Phs S9 ≤ nn + Phs S + 1020 → W p l e room_1 s m #[Value.ref b] below meth c H9 locs9 c9 n9 Q (F0 m 1505 ls9 [])) : W p l e room_1 s m #[Value.ref b] below meth c H locs cc nn Q (F0 m 636 ls []) := by
  refine lv_aload_n X.1 X.2.1 dL_law_636 rfl (lv_at hl 3 rfl) ?_
  refine lv_aload_n X.1 X.2.1 dL_law_637 rfl (lv_at hl 4 rfl) ?_
  refine lv_iload X.1 X.2.1 dL_law_638 (lv_at hl 0 rfl) ?_
  refine lv_iconst (v := 1) X.1 X.2.1 dL_law_640 (by decide) ?_
  refine lv_iadd X.1 X.2.1 dL_law_641 ?_
  refine lv_topi (fun v_1 ev_1 => ?_)
  have z_2 : v_1.toInt = i_z + 1 := z_add ev_1 hz_i ti_1 (by omega) (by omega)
  refine va_sld X.1 X.2.1 hX hbl hbA hw.2.2 (z_ix rfl (by omega) (by omega)) dL_law_642 ?_
  refine lv_topi (fun v_3 ev_3 => ?_)
  have rg_4 := And.intro (z_lo v_3) (z_hi v_3)
  refine k_i (rm := { frames := 11, cells := 0, slots := 0, locals := 528 }) (av := [.ref x, .int (v_3)]) X hw (va_runV (As := [.int (v_3)]) (rest := []) (cfix X) (k_X11_program6 l G cy κ S _ x (v_3) (v_3.toInt) hG hax rfl (sp_D hTD.2.2.2.2.2.2.2)) (cwV 1 X.2.2.2.1 gk_X11_program rfl rfl rfl (by decide +kernel) ⟨Nat.le_of_ble_eq_true rfl, Nat.le_of_ble_eq_true rfl⟩) (pre_V X hw _ hax rfl (by decide) rfl) rfl rfl hl.1 rfl (lv_room (Nat.le_of_ble_eq_true rfl)) dL_law_643 ⟨(by show cc + 0 ≤ 601024; omega), (by show nn + 0 ≤ 7293034; omega)⟩) cc nn (by show cc + 0 ≤ cc; omega) (by show nn + 0 ≤ nn; omega) (fun rr_5 S_6 H locs hp hw hfr hnw => ?_)
  have la_7 := LA_keep hLA hoq hfr
  have oq_8 := oq_keep hLA hoq hnw
  obtain ⟨hk_9, hp⟩ := hp
  have ax_12 : At S_6 x 11 := hk_9.fr.at hax
  have am_13 : At S_6 mo 12 := hk_9.fr.at ham
  have mi_10 : MI S_6 mo := MIe_free hG ham hk_9.fr (by decide +kernel) hMI
  have gr_11 : GR S_6 mo := GR_free hG ham hk_9.fr (by decide +kernel) hGR
  have ph_14 : Phc S_6 = Phc S := Ph_ok hG hk_9 (by decide +kernel) (by decide +kernel) (by decide +kernel)
  have ph_15 : Phs S_6 = Phs S := Ph_ok hG hk_9 (by decide +kernel) (by decide +kernel) (by decide +kernel)
  obtain ⟨⟨q_16, td_17, td_18, td_19⟩, td_20, td_21, ⟨u_22, td_23, td_24, td_25⟩, pn_26, ct_27, th_28, tx_29⟩ := hTD
  have hq_30 := mkhid hp
  have th_31 : pR S_6 1107 x = some q_16 := hk_9.fr.R' (by decide +kernel) hax td_17
  have th_32 : At S_6 q_16 8 := hk_9.fr.at td_18
  have th_35 : pR S_6 1105 x = some u_22 := hk_9.fr.R' (by decide +kernel) hax td_23
  have th_36 : At S_6 u_22 10 := hk_9.fr.at td_24
  have th_33 : pI S_6 801 q_16 = pI S 801 q_16 := hk_9.fr.I' (by decide +kernel) td_18 rfl
  have th_34 : pI S_6 1245 mo = pI S 1245 mo := hk_9.fr.I' (by decide +kernel) ham rfl
  have tf_40 : (pI S_6 1102 x).toInt = (pI S 1102 x).toInt := congrArg Int32.toInt (hk_9.fr.I' (by decide +kernel) hax rfl)
  have tf_41 : (pI S_6 1104 x).toInt = (pI S 1104 x).toInt := congrArg Int32.toInt (hk_9.fr.I' (by decide +kernel) hax rfl)
  have tf_42 : (pI S_6 1201 mo).toInt = (pI S 1201 mo).toInt := congrArg Int32.toInt (hk_9.fr.I' (by decide +kernel) ham rfl)
  have tf_43 : (pI S_6 1211 mo).toInt = (pI S 1211 mo).toInt := congrArg Int32.toInt (hk_9.fr.I' (by decide +kernel) ham rfl)
  have tf_46 := hp.2.2.1 _ td_23 pn_26
  have tf_47 : (pI S_6 1228 mo).toInt = (pI S 1228 mo).toInt := congrArg Int32.toInt (hk_9.fr.I' (by decide +kernel) ham rfl)
  have tf_48 : (pI S_6 1228 mo).toInt = (pI S 1228 mo).toInt := congrArg Int32.toInt (hk_9.fr.I' (by decide +kernel) ham rfl)
  have th_50 : mA S_6 mo 1210 = thinF := TH_fr hG hk_9.fr ham (by decide +kernel) th_28
  have ct_49 : CT S_6 x mo := CT_eq hG hk_9.fr hax (by decide +kernel) (by decide +kernel) (S12_fr hG hk_9.fr ham (by decide +kernel)) ct_27
  have th_39 : PN S_6 x := PN_fr hG hax hk_9.fr (by decide +kernel) (by decide +kernel) (by decide +kernel) pn_26
  have hg_52 : GX S_6 := hk_9.1
  have rg_53 := And.intro (z_lo rr_5) (z_hi rr_5)
  refine lv_pop X.1 X.2.1 dL_law_646 rfl ?_
  refine lv_aload_n X.1 X.2.1 dL_law_647 rfl (lv_at hl 2 rfl) ?_
  refine lv_aload_n X.1 X.2.1 dL_law_648 rfl (lv_at hl 4 rfl) ?_
  refine lv_iload X.1 X.2.1 dL_law_649 (lv_at hl 0 rfl) ?_
  refine lv_iconst (v := 1) X.1 X.2.1 dL_law_651 (by decide) ?_
  refine lv_iadd X.1 X.2.1 dL_law_652 ?_
  refine lv_topi (fun v_54 ev_54 => ?_)
  have z_55 : v_54.toInt = i_z + 1 := z_add ev_54 hz_i ti_1 (by omega) (by omega)
  refine va_sld X.1 X.2.1 hX hbl hbA hw.2.2 (z_ix rfl (by omega) (by omega)) dL_law_653 ?_
  refine lv_topi (fun v_56 ev_56 => ?_)
  have es_57 : v_3 = v_56 := by rw [ev_3, ev_56, ev_1, ev_54]
  subst es_57
  refine k_i (rm := { frames := 8, cells := 0, slots := 0, locals := 384 }) (av := [.ref mo, .int (v_3)]) X hw (va_runV (As := [.int (v_3)]) (rest := []) (cfix X) (k_X12_program6 l G cy κ S_6 _ mo (v_3) (v_3.toInt) hg_52 am_13 rfl) (cwV 1 X.2.2.2.1 gk_X12_program rfl rfl rfl (by decide +kernel) ⟨Nat.le_of_ble_eq_true rfl, Nat.le_of_ble_eq_true rfl⟩) (pre_V X hw _ am_13 rfl (by decide) rfl) rfl rfl hl.1 rfl (lv_room (Nat.le_of_ble_eq_true rfl)) dL_law_654 ⟨(by show cc + 0 ≤ 601024; omega), (by show nn + 0 ≤ 7293034; omega)⟩) cc nn (by show cc + 0 ≤ cc; omega) (by show nn + 0 ≤ nn; omega) (fun rr_58 S_59 H locs hp hw hfr hnw => ?_)
  have la_60 := LA_keep la_7 oq_8 hfr
  have oq_61 := oq_keep la_7 oq_8 hnw
  obtain ⟨hk_62, hp⟩ := hp
  have ax_65 : At S_59 x 11 := hk_62.fr.at ax_12
  have am_66 : At S_59 mo 12 := hk_62.fr.at am_13
  have mi_63 : MI S_59 mo := MIe_free hg_52 am_13 hk_62.fr (by decide +kernel) mi_10
  have gr_64 : GR S_59 mo := GR_free hg_52 am_13 hk_62.fr (by decide +kernel) gr_11
  have ph_67 : Phc S_59 = Phc S_6 := Ph_ok hg_52 hk_62 (by decide +kernel) (by decide +kernel) (by decide +kernel)
  have ph_68 : Phs S_59 = Phs S_6 := Ph_ok hg_52 hk_62 (by decide +kernel) (by decide +kernel) (by decide +kernel)
  have th_69 : pR S_59 1107 x = some q_16 := hk_62.fr.R' (by decide +kernel) ax_12 th_31
  have th_70 : At S_59 q_16 8 := hk_62.fr.at th_32
  have th_73 : pR S_59 1105 x = some u_22 := hk_62.fr.R' (by decide +kernel) ax_12 th_35
  have th_74 : At S_59 u_22 10 := hk_62.fr.at th_36
  have th_71 : pI S_59 801 q_16 = pI S_6 801 q_16 := hk_62.fr.I' (by decide +kernel) th_32 rfl
  have th_72 : pI S_59 1245 mo = pI S_6 1245 mo := hk_62.fr.I' (by decide +kernel) am_13 rfl
  have tf_78 : (pI S_59 1102 x).toInt = (pI S_6 1102 x).toInt := congrArg Int32.toInt (hk_62.fr.I' (by decide +kernel) ax_12 rfl)
  have tf_79 : (pI S_59 1104 x).toInt = (pI S_6 1104 x).toInt := congrArg Int32.toInt (hk_62.fr.I' (by decide +kernel) ax_12 rfl)
  have tf_80 : (pI S_59 1201 mo).toInt = (pI S_6 1201 mo).toInt := congrArg Int32.toInt (hk_62.fr.I' (by decide +kernel) am_13 rfl)
  have tf_81 : (pI S_59 1211 mo).toInt = (pI S_6 1211 mo).toInt := congrArg Int32.toInt (hk_62.fr.I' (by decide +kernel) am_13 rfl)
  have tf_82 : (pI S_59 1000 u_22).toInt = (pI S_6 1000 u_22).toInt := congrArg Int32.toInt (hk_62.fr.I' (by decide +kernel) th_36 rfl)
  have tf_83 : (pI S_59 1000 u_22).toInt = (pI S_6 1000 u_22).toInt := congrArg Int32.toInt (hk_62.fr.I' (by decide +kernel) th_36 rfl)
  have tf_84 : (pI S_59 1000 u_22).toInt = (pI S_6 1000 u_22).toInt := congrArg Int32.toInt (hk_62.fr.I' (by decide +kernel) th_36 rfl)
  have tf_86 := hp.2.2.1
  have th_88 : mA S_59 mo 1210 = thinF := TH_fr hg_52 hk_62.fr am_13 (by decide +kernel) th_50
  have ct_87 : CT S_59 x mo := CT_eq hg_52 hk_62.fr ax_12 (by decide +kernel) (by decide +kernel) (S12_fr hg_52 hk_62.fr am_13 (by decide +kernel)) ct_49
  have th_77 : PN S_59 x := PN_fr hg_52 ax_12 hk_62.fr (by decide +kernel) (by decide +kernel) (by decide +kernel) th_39
  have rg_90 := gI_12_1228 hg_52 am_13
  have td_89 : TD S_59 x mo := ⟨⟨q_16, th_69, th_70, by rw [th_71, th_33, th_72, th_34, td_19]⟩, by omega, by omega, ⟨u_22, th_73, th_74, by omega⟩, th_77, ct_87, th_88, TX_prog hG hg_52 hax ham hk_9.fr hk_62.fr pn_26 td_21 td_23 td_25 (by omega) (by omega) ((unhid hq_30).2.2.2.2.2.1) ((unhid hq_30).2.2.2.2.2.2) hp.2.2.2.2.2.1 hp.2.2.2.2.2.2 tx_29⟩
  have rq_92 : rr_5.toInt = rr_58.toInt := rq_prog hG ham hk_9.fr (by decide +kernel) td_23 td_25 td_21 tx_29.2.1 (fun h => (unhid hq_30).2.2.2.1 _ td_23 pn_26 h) (fun h => (unhid hq_30).2.2.2.2.1 pn_26 h) (fun h => hp.2.2.2.1 h) (fun h => hp.2.2.2.2.1 h)
  have hg_93 : GX S_59 := hk_62.1
  have rg_94 := And.intro (z_lo rr_58) (z_hi rr_58)
  refine lv_pop X.1 X.2.1 dL_law_657 rfl ?_
  refine lv_goto (tgt := 1505) X.1 X.2.1 dL_law_658 (by decide) ?_
  exact K _ _ _ _ cc nn hw hg_93 ax_65 am_66 mi_63 gr_64 td_89 la_60 oq_61 (lv_sub hl [0, 1, 2, 3, 4] rfl) (by omega) (by omega)
set_option maxHeartbeats 4000000 in
set_option maxRecDepth 100000 in
theorem lc_10 {p : Program} {l : Launch} {e : Env} {s : State} {m : MethodId} {below : List Frame} {meth : Method} {c : Code} (hst : l.stackTraces = false) {b x mo oq L : Nat} {xs : Nat → Int32} {cL : ClassId} {G : va_G} {cy : Nat → ClassId} {κ : Nat → Nat} {S : PS} {H : Heap} {locs : List Loc} {ls : Array Slot} {cc nn : Nat} {Q : State → Prop} {i : Int32} {i_z : Int} (X : Cx p c cL_law 7 s #[Value.ref b] lw_tbl RL m G cy κ (fun q : Nat => s.heap.size ≤ q)) (hX : va_X b L xs s s.heap) (hbl : b < s.heap.size) (hbA : ¬ (fun q : Nat => s.heap.size ≤ q) b) (hdc : ∀ Y ∈ DcL, va_Nw (.declares (Bundle.initS Y)) s) (hkl : Kl cL s) (hAo : (fun q : Nat => s.heap.size ≤ q) oq) (hL : L ≤ 3072) (hz_i : i.toInt = i_z) (hi0 : 0 ≤ i_z) (hi1 : i_z + 6 ≤ (L : Int)) (hw : Wd G cy (fun q : Nat => s.heap.size ≤ q) s.heap S H locs) (hG : GX S) (hax : At S x 11) (ham : At S mo 12) (hMI : MI S mo) (hGR : GR S mo) (hTD : TD S x mo) (hLA : LA cL oq H) (hoq : oq ∉ pL S) (hl : lv_has ls 7 [(4, .int i), (3, .ref oq), (2, .ref mo), (1, .ref x), (0, .ref b)]) (hcc : cc + Phc S + 20000 ≤ 601024) (hnn : nn + Phs S + 100000 ≤ 7293034) (K : ∀ (S9 : PS) (H9 : Heap) (locs9 : List Loc) (ls9 : Array Slot) (c9 n9 : Nat), Wd G cy (fun q : Nat => s.heap.size ≤ q) s.heap S9 H9 locs9 → GX S9 → At S9 x 11 → At S9 mo 12 → MI S9 mo → GR S9 mo → TD S9 x mo → LA cL oq H9 → oq ∉ pL S9 → lv_has ls9 7 [(4, .int i), (3, .ref oq), (2, .ref mo), (1, .ref x), (0, .ref b)] → c9 + Phc S9 ≤ cc + Phc S + 102 → n9 + Phs S9 ≤ nn + Phs S + 1020 → W p l e room_1 s m #[Value.ref b] below meth c H9 locs9 c9 n9 Q (F0 m 1505 ls9 [])) : W p l e room_1 s m #[Value.ref b] below meth c H locs cc nn Q (F0 m 661 ls []) := by
  refine lv_aload_n X.1 X.2.1 dL_law_661 rfl (lv_at hl 3 rfl) ?_
  refine k_i (rm := { frames := 1, cells := 0, slots := 0, locals := 48 }) (av := [.ref x]) X hw (va_runV (As := []) (rest := []) (cfix X) (k_X11_place l G cy κ S _ x hG hax) (cwV 0 X.2.2.2.1 gk_X11_place rfl rfl rfl (by decide +kernel) ⟨Nat.le_of_ble_eq_true rfl, Nat.le_of_ble_eq_true rfl⟩) (pre_V X hw _ hax rfl (by decide) rfl) rfl rfl hl.1 rfl (lv_room (Nat.le_of_ble_eq_true rfl)) dL_law_662 ⟨(by show cc + 0 ≤ 601024; omega), (by show nn + 0 ≤ 7293034; omega)⟩) cc nn (by show cc + 0 ≤ cc; omega) (by show nn + 0 ≤ nn; omega) (fun rr_1 S_2 H locs hp hw hfr hnw => ?_)
  have la_3 := LA_keep hLA hoq hfr
  have oq_4 := oq_keep hLA hoq hnw
  obtain ⟨e2, hp⟩ := hp
  subst e2
  have rg_5 := And.intro (z_lo rr_1) (z_hi rr_1)
  refine lv_pop X.1 X.2.1 dL_law_665 rfl ?_
  refine lv_aload_n X.1 X.2.1 dL_law_666 rfl (lv_at hl 2 rfl) ?_
  refine k_i (rm := { frames := 1, cells := 0, slots := 0, locals := 48 }) (av := [.ref mo]) X hw (va_runV (As := []) (rest := []) (cfix X) (k_X12_place l G cy κ S _ mo hG ham) (cwV 0 X.2.2.2.1 gk_X12_place rfl rfl rfl (by decide +kernel) ⟨Nat.le_of_ble_eq_true rfl, Nat.le_of_ble_eq_true rfl⟩) (pre_V X hw _ ham rfl (by decide) rfl) rfl rfl hl.1 rfl (lv_room (Nat.le_of_ble_eq_true rfl)) dL_law_667 ⟨(by show cc + 0 ≤ 601024; omega), (by show nn + 0 ≤ 7293034; omega)⟩) cc nn (by show cc + 0 ≤ cc; omega) (by show nn + 0 ≤ nn; omega) (fun rr_6 S_7 H locs hp hw hfr hnw => ?_)
  have la_8 := LA_keep la_3 oq_4 hfr
  have oq_9 := oq_keep la_3 oq_4 hnw
  obtain ⟨hk_10, hp⟩ := hp
  have ax_13 : At S_7 x 11 := hk_10.fr.at hax
  have am_14 : At S_7 mo 12 := hk_10.fr.at ham
  have mi_11 : MI S_7 mo := MIe_free hG ham hk_10.fr (by decide +kernel) hMI
  have gr_12 : GR S_7 mo := GR_free hG ham hk_10.fr (by decide +kernel) hGR
  have ph_15 : Phc S_7 = Phc S := Ph_ok hG hk_10 (by decide +kernel) (by decide +kernel) (by decide +kernel)
  have ph_16 : Phs S_7 = Phs S := Ph_ok hG hk_10 (by decide +kernel) (by decide +kernel) (by decide +kernel)
  have td_17 : TD S_7 x mo := TD_fr hG hk_10.fr hax ham (by decide +kernel) (by decide +kernel) (by decide +kernel) (by decide +kernel) (by decide +kernel) (by decide +kernel) hTD
  have hg_18 : GX S_7 := hk_10.1
  have rg_19 := And.intro (z_lo rr_6) (z_hi rr_6)
  refine lv_pop X.1 X.2.1 dL_law_670 rfl ?_
  refine lv_goto (tgt := 1505) X.1 X.2.1 dL_law_671 (by decide) ?_
  exact K _ _ _ _ cc nn hw hg_18 ax_13 am_14 mi_11 gr_12 td_17 la_8 oq_9 (lv_sub hl [0, 1, 2, 3, 4] rfl) (by omega) (by omega)
set_option maxHeartbeats 4000000 in
set_option maxRecDepth 100000 in
theorem lc_11 {p : Program} {l : Launch} {e : Env} {s : State} {m : MethodId} {below : List Frame} {meth : Method} {c : Code} (hst : l.stackTraces = false) {b x mo oq L : Nat} {xs : Nat → Int32} {cL : ClassId} {G : va_G} {cy : Nat → ClassId} {κ : Nat → Nat} {S : PS} {H : Heap} {locs : List Loc} {ls : Array Slot} {cc nn : Nat} {Q : State → Prop} {i : Int32} {i_z : Int} (X : Cx p c cL_law 7 s #[Value.ref b] lw_tbl RL m G cy κ (fun q : Nat => s.heap.size ≤ q)) (hX : va_X b L xs s s.heap) (hbl : b < s.heap.size) (hbA : ¬ (fun q : Nat => s.heap.size ≤ q) b) (hdc : ∀ Y ∈ DcL, va_Nw (.declares (Bundle.initS Y)) s) (hkl : Kl cL s) (hAo : (fun q : Nat => s.heap.size ≤ q) oq) (hL : L ≤ 3072) (hz_i : i.toInt = i_z) (hi0 : 0 ≤ i_z) (hi1 : i_z + 6 ≤ (L : Int)) (hw : Wd G cy (fun q : Nat => s.heap.size ≤ q) s.heap S H locs) (hG : GX S) (hax : At S x 11) (ham : At S mo 12) (hMI : MI S mo) (hGR : GR S mo) (hTD : TD S x mo) (hLA : LA cL oq H) (hoq : oq ∉ pL S) (hl : lv_has ls 7 [(4, .int i), (3, .ref oq), (2, .ref mo), (1, .ref x), (0, .ref b)]) (hcc : cc + Phc S + 20000 ≤ 601024) (hnn : nn + Phs S + 100000 ≤ 7293034) (K : ∀ (S9 : PS) (H9 : Heap) (locs9 : List Loc) (ls9 : Array Slot) (c9 n9 : Nat), Wd G cy (fun q : Nat => s.heap.size ≤ q) s.heap S9 H9 locs9 → GX S9 → At S9 x 11 → At S9 mo 12 → MI S9 mo → GR S9 mo → TD S9 x mo → LA cL oq H9 → oq ∉ pL S9 → lv_has ls9 7 [(4, .int i), (3, .ref oq), (2, .ref mo), (1, .ref x), (0, .ref b)] → c9 + Phc S9 ≤ cc + Phc S + 102 → n9 + Phs S9 ≤ nn + Phs S + 1020 → W p l e room_1 s m #[Value.ref b] below meth c H9 locs9 c9 n9 Q (F0 m 1505 ls9 [])) : W p l e room_1 s m #[Value.ref b] below meth c H locs cc nn Q (F0 m 674 ls []) := by
  refine lv_aload_n X.1 X.2.1 dL_law_674 rfl (lv_at hl 3 rfl) ?_
  refine lv_aload_n X.1 X.2.1 dL_law_675 rfl (lv_at hl 4 rfl) ?_
  refine lv_iload X.1 X.2.1 dL_law_676 (lv_at hl 0 rfl) ?_
  refine lv_iconst (v := 1) X.1 X.2.1 dL_law_678 (by decide) ?_
  refine lv_iadd X.1 X.2.1 dL_law_679 ?_
  refine lv_topi (fun v_1 ev_1 => ?_)
  have z_2 : v_1.toInt = i_z + 1 := z_add ev_1 hz_i ti_1 (by omega) (by omega)
  refine va_sld X.1 X.2.1 hX hbl hbA hw.2.2 (z_ix rfl (by omega) (by omega)) dL_law_680 ?_
  refine lv_topi (fun v_3 ev_3 => ?_)
  have rg_4 := And.intro (z_lo v_3) (z_hi v_3)
  refine lv_aload_n X.1 X.2.1 dL_law_681 rfl (lv_at hl 4 rfl) ?_
  refine lv_iload X.1 X.2.1 dL_law_682 (lv_at hl 0 rfl) ?_
  refine lv_iconst (v := 2) X.1 X.2.1 dL_law_684 (by decide) ?_
  refine lv_iadd X.1 X.2.1 dL_law_685 ?_
  refine lv_topi (fun v_5 ev_5 => ?_)
  have z_6 : v_5.toInt = i_z + 2 := z_add ev_5 hz_i ti_2 (by omega) (by omega)
  refine va_sld X.1 X.2.1 hX hbl hbA hw.2.2 (z_ix rfl (by omega) (by omega)) dL_law_686 ?_
  refine lv_topi (fun v_7 ev_7 => ?_)
  have rg_8 := And.intro (z_lo v_7) (z_hi v_7)
  obtain ⟨nu_9, Ks_10, sk_11, Pt__12, R0_13, R1_14, R2_15, Gs_16, At__17, Ru__18, hwt_19, hpt_20⟩ := TP_wit hTD.2.2.2.2.2.2.2.2.2 (v_3.toInt)
  refine k_gi2 (kc := 0) (ks := 0) (rm := { frames := 9, cells := Phc S + 8, slots := Phs S + 15019, locals := 432 }) (av := [.ref x, .int (v_3), .int (v_7)]) X hw (va_runV (As := [.int (v_3), .int (v_7)]) (rest := []) (cfix X) (k_X11_run5 l G cy κ S _ _ x (v_3) (v_3.toInt) (v_7) (v_7.toInt) (DC S x) R0_13 R1_14 R2_15 Gs_16 Ks_10 (cA S At__17 sk_11) (EC S Ks_10 Pt__12) Ru__18 hG hax rfl rfl (dc_at hG hax) (wit_A hwt_19 hpt_20) hwt_19.2.1) (cwV 2 X.2.2.2.1 gk_X11_run rfl rfl rfl (by decide +kernel) ⟨Nat.le_of_ble_eq_true rfl, Nat.le_of_ble_eq_true rfl⟩) (pre_gV X hw _ hax rfl (by decide) rfl) rfl rfl hl.1 rfl (lv_room (Nat.le_of_ble_eq_true rfl)) dL_law_687 ⟨(by show cc + (Phc S + 8) ≤ 601024; omega), (by show nn + (Phs S + 15019) ≤ 7293034; omega)⟩) (fun rr_21 S_22 H locs c_23 n_24 hc_23 hn_24 hp hw hfr hnw => ?_)
  have la_25 := LA_keep hLA hoq hfr
  have oq_26 := oq_keep hLA hoq hnw
  obtain ⟨hk_27, hp⟩ := hp
  have ax_30 : At S_22 x 11 := hk_27.fr.at hax
  have am_31 : At S_22 mo 12 := hk_27.fr.at ham
  have mi_28 : MI S_22 mo := MIe_free hG ham hk_27.fr (by decide +kernel) hMI
  have gr_29 : GR S_22 mo := GR_free hG ham hk_27.fr (by decide +kernel) hGR
  obtain ⟨⟨q_32, td_33, td_34, td_35⟩, td_36, td_37, ⟨u_38, td_39, td_40, td_41⟩, pn_42, ct_43, th_44, tx_45⟩ := hTD
  have hq_46 := mkhid hp
  have th_47 : pR S_22 1107 x = some q_32 := hk_27.fr.R' (by decide +kernel) hax td_33
  have th_48 : At S_22 q_32 8 := hk_27.fr.at td_34
  have th_51 : pR S_22 1105 x = some u_38 := hk_27.fr.R' (by decide +kernel) hax td_39
  have th_52 : At S_22 u_38 10 := hk_27.fr.at td_40
  have th_49 : pI S_22 801 q_32 = pI S 801 q_32 := hk_27.fr.I' (by decide +kernel) td_34 rfl
  have th_50 : pI S_22 1245 mo = pI S 1245 mo := hk_27.fr.I' (by decide +kernel) ham rfl
  have tf_56 : (pI S_22 1102 x).toInt = (pI S 1102 x).toInt := congrArg Int32.toInt (hk_27.fr.I' (by decide +kernel) hax rfl)
  have tf_57 : (pI S_22 1104 x).toInt = (pI S 1104 x).toInt := congrArg Int32.toInt (hk_27.fr.I' (by decide +kernel) hax rfl)
  have tf_58 : (pI S_22 1201 mo).toInt = (pI S 1201 mo).toInt := congrArg Int32.toInt (hk_27.fr.I' (by decide +kernel) ham rfl)
  have tf_59 : (pI S_22 1211 mo).toInt = (pI S 1211 mo).toInt := congrArg Int32.toInt (hk_27.fr.I' (by decide +kernel) ham rfl)
  have tf_60 : (pI S_22 1000 u_38).toInt = (pI S 1000 u_38).toInt := congrArg Int32.toInt (hk_27.fr.I' (by decide +kernel) td_40 rfl)
  have tf_61 : (pI S_22 1000 u_38).toInt = (pI S 1000 u_38).toInt := congrArg Int32.toInt (hk_27.fr.I' (by decide +kernel) td_40 rfl)
  have tf_62 : (pI S_22 1000 u_38).toInt = (pI S 1000 u_38).toInt := congrArg Int32.toInt (hk_27.fr.I' (by decide +kernel) td_40 rfl)
  have tf_63 : (pI S_22 1228 mo).toInt = (pI S 1228 mo).toInt := congrArg Int32.toInt (hk_27.fr.I' (by decide +kernel) ham rfl)
  have tf_64 : (pI S_22 1228 mo).toInt = (pI S 1228 mo).toInt := congrArg Int32.toInt (hk_27.fr.I' (by decide +kernel) ham rfl)
  have th_66 : mA S_22 mo 1210 = thinF := TH_fr hG hk_27.fr ham (by decide +kernel) th_44
  have ct_65 : CT S_22 x mo := CT_eq hG hk_27.fr hax (by decide +kernel) (by decide +kernel) (S12_fr hG hk_27.fr ham (by decide +kernel)) ct_43
  have th_55 : PN S_22 x := PN_fr hG hax hk_27.fr (by decide +kernel) (by decide +kernel) (by decide +kernel) pn_42
  have hg_68 : GX S_22 := hk_27.1
  have rg_69 := And.intro (z_lo rr_21) (z_hi rr_21)
  refine lv_pop X.1 X.2.1 dL_law_690 rfl ?_
  refine lv_aload_n X.1 X.2.1 dL_law_691 rfl (lv_at hl 2 rfl) ?_
  refine lv_aload_n X.1 X.2.1 dL_law_692 rfl (lv_at hl 4 rfl) ?_
  refine lv_iload X.1 X.2.1 dL_law_693 (lv_at hl 0 rfl) ?_
  refine lv_iconst (v := 1) X.1 X.2.1 dL_law_695 (by decide) ?_
  refine lv_iadd X.1 X.2.1 dL_law_696 ?_
  refine lv_topi (fun v_70 ev_70 => ?_)
  have z_71 : v_70.toInt = i_z + 1 := z_add ev_70 hz_i ti_1 (by omega) (by omega)
  refine va_sld X.1 X.2.1 hX hbl hbA hw.2.2 (z_ix rfl (by omega) (by omega)) dL_law_697 ?_
  refine lv_topi (fun v_72 ev_72 => ?_)
  have es_73 : v_3 = v_72 := by rw [ev_3, ev_72, ev_1, ev_70]
  subst es_73
  refine lv_aload_n X.1 X.2.1 dL_law_698 rfl (lv_at hl 4 rfl) ?_
  refine lv_iload X.1 X.2.1 dL_law_699 (lv_at hl 0 rfl) ?_
  refine lv_iconst (v := 2) X.1 X.2.1 dL_law_701 (by decide) ?_
  refine lv_iadd X.1 X.2.1 dL_law_702 ?_
  refine lv_topi (fun v_74 ev_74 => ?_)
  have z_75 : v_74.toInt = i_z + 2 := z_add ev_74 hz_i ti_2 (by omega) (by omega)
  refine va_sld X.1 X.2.1 hX hbl hbA hw.2.2 (z_ix rfl (by omega) (by omega)) dL_law_703 ?_
  refine lv_topi (fun v_76 ev_76 => ?_)
  have es_77 : v_7 = v_76 := by rw [ev_7, ev_76, ev_5, ev_74]
  subst es_77
  refine k_i (rm := { frames := 9, cells := 0, slots := 0, locals := 432 }) (av := [.ref mo, .int (v_3), .int (v_7)]) X hw (va_runV (As := [.int (v_3), .int (v_7)]) (rest := []) (cfix X) (k_X12_run6 l G cy κ S_22 _ mo (v_3) (v_3.toInt) (v_7) (v_7.toInt) (cB S mo nu_9 At__17 sk_11) (ER S mo (v_3.toInt).toNat) Ru__18 hg_68 am_31 rfl rfl mi_28 gr_29 (wit_B hG hax ham hk_27.fr (by decide +kernel) (by decide +kernel) (by decide +kernel) (by decide +kernel) th_44 td_37 hwt_19 hpt_20)) (cwV 2 X.2.2.2.1 gk_X12_run rfl rfl rfl (by decide +kernel) ⟨Nat.le_of_ble_eq_true rfl, Nat.le_of_ble_eq_true rfl⟩) (pre_V X hw _ am_31 rfl (by decide) rfl) rfl rfl hl.1 rfl (lv_room (Nat.le_of_ble_eq_true rfl)) dL_law_704 ⟨(by show c_23 + 0 ≤ 601024; omega), (by show n_24 + 0 ≤ 7293034; omega)⟩) c_23 n_24 (by show c_23 + 0 ≤ c_23; omega) (by show n_24 + 0 ≤ n_24; omega) (fun rr_78 S_79 H locs hp hw hfr hnw => ?_)
  have la_80 := LA_keep la_25 oq_26 hfr
  have oq_81 := oq_keep la_25 oq_26 hnw
  obtain ⟨hk_82, hp⟩ := hp
  have ax_85 : At S_79 x 11 := hk_82.fr.at ax_30
  have am_86 : At S_79 mo 12 := hk_82.fr.at am_31
  have mi_83 : MI S_79 mo := hp.1
  have gr_84 : GR S_79 mo := hp.2.1
  have ph_87 : Phc S_79 = Phc S_22 := Ph_ok hg_68 hk_82 (by decide +kernel) (by decide +kernel) (by decide +kernel)
  have ph_88 : Phs S_79 = Phs S_22 := Ph_ok hg_68 hk_82 (by decide +kernel) (by decide +kernel) (by decide +kernel)
  have th_89 : pR S_79 1107 x = some q_32 := hk_82.fr.R' (by decide +kernel) ax_30 th_47
  have th_90 : At S_79 q_32 8 := hk_82.fr.at th_48
  have th_93 : pR S_79 1105 x = some u_38 := hk_82.fr.R' (by decide +kernel) ax_30 th_51
  have th_94 : At S_79 u_38 10 := hk_82.fr.at th_52
  have th_91 : pI S_79 801 q_32 = pI S_22 801 q_32 := hk_82.fr.I' (by decide +kernel) th_48 rfl
  have th_92 : pI S_79 1245 mo = pI S_22 1245 mo := hk_82.fr.I' (by decide +kernel) am_31 rfl
  have tf_98 : (pI S_79 1102 x).toInt = (pI S_22 1102 x).toInt := congrArg Int32.toInt (hk_82.fr.I' (by decide +kernel) ax_30 rfl)
  have tf_99 : (pI S_79 1104 x).toInt = (pI S_22 1104 x).toInt := congrArg Int32.toInt (hk_82.fr.I' (by decide +kernel) ax_30 rfl)
  have tf_100 : (pI S_79 1201 mo).toInt = (pI S_22 1201 mo).toInt := congrArg Int32.toInt (hk_82.fr.I' (by decide +kernel) am_31 rfl)
  have tf_101 : (pI S_79 1211 mo).toInt = (pI S_22 1211 mo).toInt := congrArg Int32.toInt (hk_82.fr.I' (by decide +kernel) am_31 rfl)
  have tf_102 : (pI S_79 1000 u_38).toInt = (pI S_22 1000 u_38).toInt := congrArg Int32.toInt (hk_82.fr.I' (by decide +kernel) th_52 rfl)
  have tf_103 : (pI S_79 1000 u_38).toInt = (pI S_22 1000 u_38).toInt := congrArg Int32.toInt (hk_82.fr.I' (by decide +kernel) th_52 rfl)
  have tf_104 : (pI S_79 1000 u_38).toInt = (pI S_22 1000 u_38).toInt := congrArg Int32.toInt (hk_82.fr.I' (by decide +kernel) th_52 rfl)
  have tf_105 : (pI S_79 1228 mo).toInt = (pI S_22 1228 mo).toInt := congrArg Int32.toInt (hk_82.fr.I' (by decide +kernel) am_31 rfl)
  have tf_106 : (pI S_79 1228 mo).toInt = (pI S_22 1228 mo).toInt := congrArg Int32.toInt (hk_82.fr.I' (by decide +kernel) am_31 rfl)
  have th_108 : mA S_79 mo 1210 = thinF := TH_fr hg_68 hk_82.fr am_31 (by decide +kernel) th_66
  have ct_107 : CT S_79 x mo := CT_eq hg_68 hk_82.fr ax_30 (by decide +kernel) (by decide +kernel) (S12_fr hg_68 hk_82.fr am_31 (by decide +kernel)) ct_65
  have th_97 : PN S_79 x := PN_fr hg_68 ax_30 hk_82.fr (by decide +kernel) (by decide +kernel) (by decide +kernel) th_55
  have tz_110 := TX_run hG hg_68 hax ham hk_27.fr hk_82.fr ct_43 pn_42 td_37 (fun K h => by rw [td_33] at h; cases h; exact td_35) hwt_19 hpt_20 (unhid hq_46).2.2.1 (unhid hq_46).2.2.2 hp.2.2.2.1 hp.2.2.2.2 tx_45
  have td_109 : TD S_79 x mo := ⟨⟨q_32, th_89, th_90, by rw [th_91, th_49, th_92, th_50, td_35]⟩, by omega, by omega, ⟨u_38, th_93, th_94, by omega⟩, th_97, ct_107, th_108, tz_110.1⟩
  have rq_111 : rr_21.toInt = rr_78.toInt := tz_110.2
  have hg_112 : GX S_79 := hk_82.1
  have rg_113 := And.intro (z_lo rr_78) (z_hi rr_78)
  refine lv_pop X.1 X.2.1 dL_law_707 rfl ?_
  refine lv_goto (tgt := 1505) X.1 X.2.1 dL_law_708 (by decide) ?_
  exact K _ _ _ _ c_23 n_24 hw hg_112 ax_85 am_86 mi_83 gr_84 td_109 la_80 oq_81 (lv_sub hl [0, 1, 2, 3, 4] rfl) (by omega) (by omega)
set_option maxHeartbeats 4000000 in
set_option maxRecDepth 100000 in
theorem lc_12 {p : Program} {l : Launch} {e : Env} {s : State} {m : MethodId} {below : List Frame} {meth : Method} {c : Code} (hst : l.stackTraces = false) {b x mo oq L : Nat} {xs : Nat → Int32} {cL : ClassId} {G : va_G} {cy : Nat → ClassId} {κ : Nat → Nat} {S : PS} {H : Heap} {locs : List Loc} {ls : Array Slot} {cc nn : Nat} {Q : State → Prop} {i : Int32} {i_z : Int} (X : Cx p c cL_law 7 s #[Value.ref b] lw_tbl RL m G cy κ (fun q : Nat => s.heap.size ≤ q)) (hX : va_X b L xs s s.heap) (hbl : b < s.heap.size) (hbA : ¬ (fun q : Nat => s.heap.size ≤ q) b) (hdc : ∀ Y ∈ DcL, va_Nw (.declares (Bundle.initS Y)) s) (hkl : Kl cL s) (hAo : (fun q : Nat => s.heap.size ≤ q) oq) (hL : L ≤ 3072) (hz_i : i.toInt = i_z) (hi0 : 0 ≤ i_z) (hi1 : i_z + 6 ≤ (L : Int)) (hw : Wd G cy (fun q : Nat => s.heap.size ≤ q) s.heap S H locs) (hG : GX S) (hax : At S x 11) (ham : At S mo 12) (hMI : MI S mo) (hGR : GR S mo) (hTD : TD S x mo) (hLA : LA cL oq H) (hoq : oq ∉ pL S) (hl : lv_has ls 7 [(4, .int i), (3, .ref oq), (2, .ref mo), (1, .ref x), (0, .ref b)]) (hcc : cc + Phc S + 20000 ≤ 601024) (hnn : nn + Phs S + 100000 ≤ 7293034) (K : ∀ (S9 : PS) (H9 : Heap) (locs9 : List Loc) (ls9 : Array Slot) (c9 n9 : Nat), Wd G cy (fun q : Nat => s.heap.size ≤ q) s.heap S9 H9 locs9 → GX S9 → At S9 x 11 → At S9 mo 12 → MI S9 mo → GR S9 mo → TD S9 x mo → LA cL oq H9 → oq ∉ pL S9 → lv_has ls9 7 [(4, .int i), (3, .ref oq), (2, .ref mo), (1, .ref x), (0, .ref b)] → c9 + Phc S9 ≤ cc + Phc S + 102 → n9 + Phs S9 ≤ nn + Phs S + 1020 → W p l e room_1 s m #[Value.ref b] below meth c H9 locs9 c9 n9 Q (F0 m 1505 ls9 [])) : W p l e room_1 s m #[Value.ref b] below meth c H locs cc nn Q (F0 m 711 ls []) := by
  refine lv_aload_n X.1 X.2.1 dL_law_711 rfl (lv_at hl 3 rfl) ?_
  refine lv_aload_n X.1 X.2.1 dL_law_712 rfl (lv_at hl 4 rfl) ?_
  refine lv_iload X.1 X.2.1 dL_law_713 (lv_at hl 0 rfl) ?_
  refine lv_iconst (v := 1) X.1 X.2.1 dL_law_715 (by decide) ?_
  refine lv_iadd X.1 X.2.1 dL_law_716 ?_
  refine lv_topi (fun v_1 ev_1 => ?_)
  have z_2 : v_1.toInt = i_z + 1 := z_add ev_1 hz_i ti_1 (by omega) (by omega)
  refine va_sld X.1 X.2.1 hX hbl hbA hw.2.2 (z_ix rfl (by omega) (by omega)) dL_law_717 ?_
  refine lv_topi (fun v_3 ev_3 => ?_)
  have rg_4 := And.intro (z_lo v_3) (z_hi v_3)
  refine lv_aload_n X.1 X.2.1 dL_law_718 rfl (lv_at hl 4 rfl) ?_
  refine lv_iload X.1 X.2.1 dL_law_719 (lv_at hl 0 rfl) ?_
  refine lv_iconst (v := 2) X.1 X.2.1 dL_law_721 (by decide) ?_
  refine lv_iadd X.1 X.2.1 dL_law_722 ?_
  refine lv_topi (fun v_5 ev_5 => ?_)
  have z_6 : v_5.toInt = i_z + 2 := z_add ev_5 hz_i ti_2 (by omega) (by omega)
  refine va_sld X.1 X.2.1 hX hbl hbA hw.2.2 (z_ix rfl (by omega) (by omega)) dL_law_723 ?_
  refine lv_topi (fun v_7 ev_7 => ?_)
  have rg_8 := And.intro (z_lo v_7) (z_hi v_7)
  refine k_i (rm := { frames := 4, cells := 0, slots := 0, locals := 192 }) (av := [.ref x, .int (v_3), .int (v_7)]) X hw (va_runV (As := [.int (v_3), .int (v_7)]) (rest := []) (cfix X) (k_X11_about l G cy κ S _ x (v_3) (v_3.toInt) (v_7) (v_7.toInt) hG hax rfl rfl) (cwV 2 X.2.2.2.1 gk_X11_about rfl rfl rfl (by decide +kernel) ⟨Nat.le_of_ble_eq_true rfl, Nat.le_of_ble_eq_true rfl⟩) (pre_V X hw _ hax rfl (by decide) rfl) rfl rfl hl.1 rfl (lv_room (Nat.le_of_ble_eq_true rfl)) dL_law_724 ⟨(by show cc + 0 ≤ 601024; omega), (by show nn + 0 ≤ 7293034; omega)⟩) cc nn (by show cc + 0 ≤ cc; omega) (by show nn + 0 ≤ nn; omega) (fun rr_9 S_10 H locs hp hw hfr hnw => ?_)
  have la_11 := LA_keep hLA hoq hfr
  have oq_12 := oq_keep hLA hoq hnw
  obtain ⟨e2, hp⟩ := hp
  subst e2
  have rg_13 := And.intro (z_lo rr_9) (z_hi rr_9)
  refine lv_pop X.1 X.2.1 dL_law_727 rfl ?_
  refine lv_aload_n X.1 X.2.1 dL_law_728 rfl (lv_at hl 2 rfl) ?_
  refine lv_aload_n X.1 X.2.1 dL_law_729 rfl (lv_at hl 4 rfl) ?_
  refine lv_iload X.1 X.2.1 dL_law_730 (lv_at hl 0 rfl) ?_
  refine lv_iconst (v := 1) X.1 X.2.1 dL_law_732 (by decide) ?_
  refine lv_iadd X.1 X.2.1 dL_law_733 ?_
  refine lv_topi (fun v_14 ev_14 => ?_)
  have z_15 : v_14.toInt = i_z + 1 := z_add ev_14 hz_i ti_1 (by omega) (by omega)
  refine va_sld X.1 X.2.1 hX hbl hbA hw.2.2 (z_ix rfl (by omega) (by omega)) dL_law_734 ?_
  refine lv_topi (fun v_16 ev_16 => ?_)
  have es_17 : v_3 = v_16 := by rw [ev_3, ev_16, ev_1, ev_14]
  subst es_17
  refine lv_aload_n X.1 X.2.1 dL_law_735 rfl (lv_at hl 4 rfl) ?_
  refine lv_iload X.1 X.2.1 dL_law_736 (lv_at hl 0 rfl) ?_
  refine lv_iconst (v := 2) X.1 X.2.1 dL_law_738 (by decide) ?_
  refine lv_iadd X.1 X.2.1 dL_law_739 ?_
  refine lv_topi (fun v_18 ev_18 => ?_)
  have z_19 : v_18.toInt = i_z + 2 := z_add ev_18 hz_i ti_2 (by omega) (by omega)
  refine va_sld X.1 X.2.1 hX hbl hbA hw.2.2 (z_ix rfl (by omega) (by omega)) dL_law_740 ?_
  refine lv_topi (fun v_20 ev_20 => ?_)
  have es_21 : v_7 = v_20 := by rw [ev_7, ev_20, ev_5, ev_18]
  subst es_21
  refine k_i (rm := { frames := 5, cells := 0, slots := 0, locals := 240 }) (av := [.ref mo, .int (v_3), .int (v_7)]) X hw (va_runV (As := [.int (v_3), .int (v_7)]) (rest := []) (cfix X) (k_X12_about l G cy κ S _ mo (v_3) (v_3.toInt) (v_7) (v_7.toInt) hG ham rfl rfl hMI) (cwV 2 X.2.2.2.1 gk_X12_about rfl rfl rfl (by decide +kernel) ⟨Nat.le_of_ble_eq_true rfl, Nat.le_of_ble_eq_true rfl⟩) (pre_V X hw _ ham rfl (by decide) rfl) rfl rfl hl.1 rfl (lv_room (Nat.le_of_ble_eq_true rfl)) dL_law_741 ⟨(by show cc + 0 ≤ 601024; omega), (by show nn + 0 ≤ 7293034; omega)⟩) cc nn (by show cc + 0 ≤ cc; omega) (by show nn + 0 ≤ nn; omega) (fun rr_22 S_23 H locs hp hw hfr hnw => ?_)
  have la_24 := LA_keep la_11 oq_12 hfr
  have oq_25 := oq_keep la_11 oq_12 hnw
  obtain ⟨hk_26, hp⟩ := hp
  have ax_29 : At S_23 x 11 := hk_26.fr.at hax
  have am_30 : At S_23 mo 12 := hk_26.fr.at ham
  have mi_27 : MI S_23 mo := MIe_free hG ham hk_26.fr (by decide +kernel) hMI
  have gr_28 : GR S_23 mo := GR_free hG ham hk_26.fr (by decide +kernel) hGR
  have ph_31 : Phc S_23 = Phc S := Ph_ok hG hk_26 (by decide +kernel) (by decide +kernel) (by decide +kernel)
  have ph_32 : Phs S_23 = Phs S := Ph_ok hG hk_26 (by decide +kernel) (by decide +kernel) (by decide +kernel)
  have td_33 : TD S_23 x mo := TD_fr hG hk_26.fr hax ham (by decide +kernel) (by decide +kernel) (by decide +kernel) (by decide +kernel) (by decide +kernel) (by decide +kernel) hTD
  have hg_34 : GX S_23 := hk_26.1
  have rg_35 := And.intro (z_lo rr_22) (z_hi rr_22)
  refine lv_pop X.1 X.2.1 dL_law_744 rfl ?_
  refine lv_goto (tgt := 1505) X.1 X.2.1 dL_law_745 (by decide) ?_
  exact K _ _ _ _ cc nn hw hg_34 ax_29 am_30 mi_27 gr_28 td_33 la_24 oq_25 (lv_sub hl [0, 1, 2, 3, 4] rfl) (by omega) (by omega)
set_option maxHeartbeats 4000000 in
set_option maxRecDepth 100000 in
theorem lc_13 {p : Program} {l : Launch} {e : Env} {s : State} {m : MethodId} {below : List Frame} {meth : Method} {c : Code} (hst : l.stackTraces = false) {b x mo oq L : Nat} {xs : Nat → Int32} {cL : ClassId} {G : va_G} {cy : Nat → ClassId} {κ : Nat → Nat} {S : PS} {H : Heap} {locs : List Loc} {ls : Array Slot} {cc nn : Nat} {Q : State → Prop} {i : Int32} {i_z : Int} (X : Cx p c cL_law 7 s #[Value.ref b] lw_tbl RL m G cy κ (fun q : Nat => s.heap.size ≤ q)) (hX : va_X b L xs s s.heap) (hbl : b < s.heap.size) (hbA : ¬ (fun q : Nat => s.heap.size ≤ q) b) (hdc : ∀ Y ∈ DcL, va_Nw (.declares (Bundle.initS Y)) s) (hkl : Kl cL s) (hAo : (fun q : Nat => s.heap.size ≤ q) oq) (hL : L ≤ 3072) (hz_i : i.toInt = i_z) (hi0 : 0 ≤ i_z) (hi1 : i_z + 6 ≤ (L : Int)) (hw : Wd G cy (fun q : Nat => s.heap.size ≤ q) s.heap S H locs) (hG : GX S) (hax : At S x 11) (ham : At S mo 12) (hMI : MI S mo) (hGR : GR S mo) (hTD : TD S x mo) (hLA : LA cL oq H) (hoq : oq ∉ pL S) (hl : lv_has ls 7 [(4, .int i), (3, .ref oq), (2, .ref mo), (1, .ref x), (0, .ref b)]) (hcc : cc + Phc S + 20000 ≤ 601024) (hnn : nn + Phs S + 100000 ≤ 7293034) (K : ∀ (S9 : PS) (H9 : Heap) (locs9 : List Loc) (ls9 : Array Slot) (c9 n9 : Nat), Wd G cy (fun q : Nat => s.heap.size ≤ q) s.heap S9 H9 locs9 → GX S9 → At S9 x 11 → At S9 mo 12 → MI S9 mo → GR S9 mo → TD S9 x mo → LA cL oq H9 → oq ∉ pL S9 → lv_has ls9 7 [(4, .int i), (3, .ref oq), (2, .ref mo), (1, .ref x), (0, .ref b)] → c9 + Phc S9 ≤ cc + Phc S + 102 → n9 + Phs S9 ≤ nn + Phs S + 1020 → W p l e room_1 s m #[Value.ref b] below meth c H9 locs9 c9 n9 Q (F0 m 1505 ls9 [])) : W p l e room_1 s m #[Value.ref b] below meth c H locs cc nn Q (F0 m 748 ls []) := by
  refine lv_aload_n X.1 X.2.1 dL_law_748 rfl (lv_at hl 3 rfl) ?_
  refine lv_aload_n X.1 X.2.1 dL_law_749 rfl (lv_at hl 4 rfl) ?_
  refine lv_iload X.1 X.2.1 dL_law_750 (lv_at hl 0 rfl) ?_
  refine lv_iconst (v := 1) X.1 X.2.1 dL_law_752 (by decide) ?_
  refine lv_iadd X.1 X.2.1 dL_law_753 ?_
  refine lv_topi (fun v_1 ev_1 => ?_)
  have z_2 : v_1.toInt = i_z + 1 := z_add ev_1 hz_i ti_1 (by omega) (by omega)
  refine va_sld X.1 X.2.1 hX hbl hbA hw.2.2 (z_ix rfl (by omega) (by omega)) dL_law_754 ?_
  refine lv_topi (fun v_3 ev_3 => ?_)
  have rg_4 := And.intro (z_lo v_3) (z_hi v_3)
  refine lv_aload_n X.1 X.2.1 dL_law_755 rfl (lv_at hl 4 rfl) ?_
  refine lv_iload X.1 X.2.1 dL_law_756 (lv_at hl 0 rfl) ?_
  refine lv_iconst (v := 2) X.1 X.2.1 dL_law_758 (by decide) ?_
  refine lv_iadd X.1 X.2.1 dL_law_759 ?_
  refine lv_topi (fun v_5 ev_5 => ?_)
  have z_6 : v_5.toInt = i_z + 2 := z_add ev_5 hz_i ti_2 (by omega) (by omega)
  refine va_sld X.1 X.2.1 hX hbl hbA hw.2.2 (z_ix rfl (by omega) (by omega)) dL_law_760 ?_
  refine lv_topi (fun v_7 ev_7 => ?_)
  have rg_8 := And.intro (z_lo v_7) (z_hi v_7)
  refine lv_aload_n X.1 X.2.1 dL_law_761 rfl (lv_at hl 4 rfl) ?_
  refine lv_iload X.1 X.2.1 dL_law_762 (lv_at hl 0 rfl) ?_
  refine lv_iconst (v := 3) X.1 X.2.1 dL_law_764 (by decide) ?_
  refine lv_iadd X.1 X.2.1 dL_law_765 ?_
  refine lv_topi (fun v_9 ev_9 => ?_)
  have z_10 : v_9.toInt = i_z + 3 := z_add ev_9 hz_i ti_3 (by omega) (by omega)
  refine va_sld X.1 X.2.1 hX hbl hbA hw.2.2 (z_ix rfl (by omega) (by omega)) dL_law_766 ?_
  refine lv_topi (fun v_11 ev_11 => ?_)
  have rg_12 := And.intro (z_lo v_11) (z_hi v_11)
  refine lv_aload_n X.1 X.2.1 dL_law_767 rfl (lv_at hl 1 rfl) ?_
  refine k_out (rm := { frames := 13, cells := 1, slots := 6, locals := 624 }) (av := [.ref x, .int (v_3), .int (v_7), .int (v_11), .ref oq]) (post := fun (r : Int32) (S9 : PS) => S = S9) X hw hAo (vx_runSW (As := [.ref x, .int (v_3), .int (v_7), .int (v_11), .ref oq]) (rest := []) (cfix X) (k_L_in l hst G cy κ S _ x (v_3) (v_7) (v_11) oq cL hG hax hoq) (vx_cwSW 5 X.2.2.2.1 gk_L_in rfl rfl rfl (by decide +kernel) ⟨Nat.le_of_ble_eq_true rfl, Nat.le_of_ble_eq_true rfl⟩) (pre_SO X hw hdc hkl hLA hAo _) rfl rfl hl.1 rfl (lv_room (Nat.le_of_ble_eq_true rfl)) dL_law_768 ⟨(by show cc + 1 ≤ 601024; omega), (by show nn + 6 ≤ 7293034; omega)⟩) (fun _ _ h => h) (cc + 1) (nn + 6) (Nat.le_refl _) (Nat.le_refl _) (fun rr_13 H locs hw hLA => ?_)
  have rg_14 := And.intro (z_lo rr_13) (z_hi rr_13)
  refine lv_istore (lv' := [(5, .int (rr_13)), (4, .int (i)), (3, .ref oq), (2, .ref mo), (1, .ref x), (0, .ref b)]) X.1 X.2.1 dL_law_771 hl (by decide) rfl (fun ls hl => ?_)
  refine lv_aload_n X.1 X.2.1 dL_law_773 rfl (lv_at hl 3 rfl) ?_
  refine lv_aload_n X.1 X.2.1 dL_law_774 rfl (lv_at hl 5 rfl) ?_
  refine lv_iload X.1 X.2.1 dL_law_775 (lv_at hl 1 rfl) ?_
  refine lv_iconst (v := 1) X.1 X.2.1 dL_law_777 (by decide) ?_
  refine lv_iadd X.1 X.2.1 dL_law_778 ?_
  refine lv_topi (fun v_15 ev_15 => ?_)
  have z_16 : v_15.toInt = i_z + 1 := z_add ev_15 hz_i ti_1 (by omega) (by omega)
  refine va_sld X.1 X.2.1 hX hbl hbA hw.2.2 (z_ix rfl (by omega) (by omega)) dL_law_779 ?_
  refine lv_topi (fun v_17 ev_17 => ?_)
  have es_18 : v_3 = v_17 := by rw [ev_3, ev_17, ev_1, ev_15]
  subst es_18
  refine lv_aload_n X.1 X.2.1 dL_law_780 rfl (lv_at hl 5 rfl) ?_
  refine lv_iload X.1 X.2.1 dL_law_781 (lv_at hl 1 rfl) ?_
  refine lv_iconst (v := 2) X.1 X.2.1 dL_law_783 (by decide) ?_
  refine lv_iadd X.1 X.2.1 dL_law_784 ?_
  refine lv_topi (fun v_19 ev_19 => ?_)
  have z_20 : v_19.toInt = i_z + 2 := z_add ev_19 hz_i ti_2 (by omega) (by omega)
  refine va_sld X.1 X.2.1 hX hbl hbA hw.2.2 (z_ix rfl (by omega) (by omega)) dL_law_785 ?_
  refine lv_topi (fun v_21 ev_21 => ?_)
  have es_22 : v_7 = v_21 := by rw [ev_7, ev_21, ev_5, ev_19]
  subst es_22
  refine lv_aload_n X.1 X.2.1 dL_law_786 rfl (lv_at hl 5 rfl) ?_
  refine lv_iload X.1 X.2.1 dL_law_787 (lv_at hl 1 rfl) ?_
  refine lv_iconst (v := 3) X.1 X.2.1 dL_law_789 (by decide) ?_
  refine lv_iadd X.1 X.2.1 dL_law_790 ?_
  refine lv_topi (fun v_23 ev_23 => ?_)
  have z_24 : v_23.toInt = i_z + 3 := z_add ev_23 hz_i ti_3 (by omega) (by omega)
  refine va_sld X.1 X.2.1 hX hbl hbA hw.2.2 (z_ix rfl (by omega) (by omega)) dL_law_791 ?_
  refine lv_topi (fun v_25 ev_25 => ?_)
  have es_26 : v_11 = v_25 := by rw [ev_11, ev_25, ev_9, ev_23]
  subst es_26
  refine k_i (rm := { frames := 3, cells := 0, slots := 0, locals := 144 }) (av := [.ref mo, .int (v_3), .int (v_7), .int (v_11)]) X hw (va_runV (As := [.int (v_3), .int (v_7), .int (v_11)]) (rest := []) (cfix X) (k_X12_in l G cy κ S _ mo (v_3) (v_3.toInt) (v_7) (v_7.toInt) (v_11) (v_11.toInt) hG ham rfl rfl rfl) (cwV 3 X.2.2.2.1 gk_X12_in rfl rfl rfl (by decide +kernel) ⟨Nat.le_of_ble_eq_true rfl, Nat.le_of_ble_eq_true rfl⟩) (pre_V X hw _ ham rfl (by decide) rfl) rfl rfl hl.1 rfl (lv_room (Nat.le_of_ble_eq_true rfl)) dL_law_792 ⟨(by show (cc + 1) + 0 ≤ 601024; omega), (by show (nn + 6) + 0 ≤ 7293034; omega)⟩) (cc + 1) (nn + 6) (by show (cc + 1) + 0 ≤ (cc + 1); omega) (by show (nn + 6) + 0 ≤ (nn + 6); omega) (fun rr_27 S_28 H locs hp hw hfr hnw => ?_)
  have la_29 := LA_keep hLA hoq hfr
  have oq_30 := oq_keep hLA hoq hnw
  obtain ⟨hk_31, hp⟩ := hp
  have ax_34 : At S_28 x 11 := hk_31.fr.at hax
  have am_35 : At S_28 mo 12 := hk_31.fr.at ham
  have mi_32 : MI S_28 mo := MIe_free hG ham hk_31.fr (by decide +kernel) hMI
  have gr_33 : GR S_28 mo := GR_free hG ham hk_31.fr (by decide +kernel) hGR
  have ph_36 : Phc S_28 = Phc S := Ph_ok hG hk_31 (by decide +kernel) (by decide +kernel) (by decide +kernel)
  have ph_37 : Phs S_28 = Phs S := Ph_ok hG hk_31 (by decide +kernel) (by decide +kernel) (by decide +kernel)
  have td_38 : TD S_28 x mo := TD_fr hG hk_31.fr hax ham (by decide +kernel) (by decide +kernel) (by decide +kernel) (by decide +kernel) (by decide +kernel) (by decide +kernel) hTD
  have hg_39 : GX S_28 := hk_31.1
  have rg_40 := And.intro (z_lo rr_27) (z_hi rr_27)
  refine lv_istore (lv' := [(6, .int (rr_27)), (5, .int (rr_13)), (4, .int (i)), (3, .ref oq), (2, .ref mo), (1, .ref x), (0, .ref b)]) X.1 X.2.1 dL_law_795 hl (by decide) rfl (fun ls hl => ?_)
  refine lv_goto (tgt := 1505) X.1 X.2.1 dL_law_797 (by decide) ?_
  exact K _ _ _ _ (cc + 1) (nn + 6) hw hg_39 ax_34 am_35 mi_32 gr_33 td_38 la_29 oq_30 (lv_sub hl [2, 3, 4, 5, 6] rfl) (by omega) (by omega)
set_option maxHeartbeats 4000000 in
set_option maxRecDepth 100000 in
theorem lc_14 {p : Program} {l : Launch} {e : Env} {s : State} {m : MethodId} {below : List Frame} {meth : Method} {c : Code} (hst : l.stackTraces = false) {b x mo oq L : Nat} {xs : Nat → Int32} {cL : ClassId} {G : va_G} {cy : Nat → ClassId} {κ : Nat → Nat} {S : PS} {H : Heap} {locs : List Loc} {ls : Array Slot} {cc nn : Nat} {Q : State → Prop} {i : Int32} {i_z : Int} (X : Cx p c cL_law 7 s #[Value.ref b] lw_tbl RL m G cy κ (fun q : Nat => s.heap.size ≤ q)) (hX : va_X b L xs s s.heap) (hbl : b < s.heap.size) (hbA : ¬ (fun q : Nat => s.heap.size ≤ q) b) (hdc : ∀ Y ∈ DcL, va_Nw (.declares (Bundle.initS Y)) s) (hkl : Kl cL s) (hAo : (fun q : Nat => s.heap.size ≤ q) oq) (hL : L ≤ 3072) (hz_i : i.toInt = i_z) (hi0 : 0 ≤ i_z) (hi1 : i_z + 6 ≤ (L : Int)) (hw : Wd G cy (fun q : Nat => s.heap.size ≤ q) s.heap S H locs) (hG : GX S) (hax : At S x 11) (ham : At S mo 12) (hMI : MI S mo) (hGR : GR S mo) (hTD : TD S x mo) (hLA : LA cL oq H) (hoq : oq ∉ pL S) (hl : lv_has ls 7 [(4, .int i), (3, .ref oq), (2, .ref mo), (1, .ref x), (0, .ref b)]) (hcc : cc + Phc S + 20000 ≤ 601024) (hnn : nn + Phs S + 100000 ≤ 7293034) (K : ∀ (S9 : PS) (H9 : Heap) (locs9 : List Loc) (ls9 : Array Slot) (c9 n9 : Nat), Wd G cy (fun q : Nat => s.heap.size ≤ q) s.heap S9 H9 locs9 → GX S9 → At S9 x 11 → At S9 mo 12 → MI S9 mo → GR S9 mo → TD S9 x mo → LA cL oq H9 → oq ∉ pL S9 → lv_has ls9 7 [(4, .int i), (3, .ref oq), (2, .ref mo), (1, .ref x), (0, .ref b)] → c9 + Phc S9 ≤ cc + Phc S + 102 → n9 + Phs S9 ≤ nn + Phs S + 1020 → W p l e room_1 s m #[Value.ref b] below meth c H9 locs9 c9 n9 Q (F0 m 1505 ls9 [])) : W p l e room_1 s m #[Value.ref b] below meth c H locs cc nn Q (F0 m 800 ls []) := by
  refine lv_aload_n X.1 X.2.1 dL_law_800 rfl (lv_at hl 3 rfl) ?_
  refine lv_aload_n X.1 X.2.1 dL_law_801 rfl (lv_at hl 4 rfl) ?_
  refine lv_iload X.1 X.2.1 dL_law_802 (lv_at hl 0 rfl) ?_
  refine lv_iconst (v := 1) X.1 X.2.1 dL_law_804 (by decide) ?_
  refine lv_iadd X.1 X.2.1 dL_law_805 ?_
  refine lv_topi (fun v_1 ev_1 => ?_)
  have z_2 : v_1.toInt = i_z + 1 := z_add ev_1 hz_i ti_1 (by omega) (by omega)
  refine va_sld X.1 X.2.1 hX hbl hbA hw.2.2 (z_ix rfl (by omega) (by omega)) dL_law_806 ?_
  refine lv_topi (fun v_3 ev_3 => ?_)
  have rg_4 := And.intro (z_lo v_3) (z_hi v_3)
  obtain ⟨nu_5, Ks_6, sk_7, Pt__8, R0_9, R1_10, R2_11, Gs_12, At__13, Ru__14, hwt_15, hpt_16⟩ := TP_wit hTD.2.2.2.2.2.2.2.2.2 (v_3.toInt)
  refine k_gi2 (kc := 0) (ks := 0) (rm := { frames := 6, cells := Phc S + 8, slots := Phs S + 15019, locals := 288 }) (av := [.ref x, .int (v_3)]) X hw (va_runV (As := [.int (v_3)]) (rest := []) (cfix X) (k_X11_cut6 l G cy κ S _ _ x (v_3) (v_3.toInt) (DC S x) R0_9 R1_10 R2_11 Gs_12 Ks_6 (cA S At__13 sk_7) (EC S Ks_6 Pt__8) Ru__14 hG hax rfl (dc_at hG hax) (wit_A hwt_15 hpt_16) hwt_15.2.1) (cwV 1 X.2.2.2.1 gk_X11_cut rfl rfl rfl (by decide +kernel) ⟨Nat.le_of_ble_eq_true rfl, Nat.le_of_ble_eq_true rfl⟩) (pre_gV X hw _ hax rfl (by decide) rfl) rfl rfl hl.1 rfl (lv_room (Nat.le_of_ble_eq_true rfl)) dL_law_807 ⟨(by show cc + (Phc S + 8) ≤ 601024; omega), (by show nn + (Phs S + 15019) ≤ 7293034; omega)⟩) (fun rr_17 S_18 H locs c_19 n_20 hc_19 hn_20 hp hw hfr hnw => ?_)
  have la_21 := LA_keep hLA hoq hfr
  have oq_22 := oq_keep hLA hoq hnw
  obtain ⟨hk_23, hp⟩ := hp
  have ax_26 : At S_18 x 11 := hk_23.fr.at hax
  have am_27 : At S_18 mo 12 := hk_23.fr.at ham
  have mi_24 : MI S_18 mo := MIe_free hG ham hk_23.fr (by decide +kernel) hMI
  have gr_25 : GR S_18 mo := GR_free hG ham hk_23.fr (by decide +kernel) hGR
  obtain ⟨⟨q_28, td_29, td_30, td_31⟩, td_32, td_33, ⟨u_34, td_35, td_36, td_37⟩, pn_38, ct_39, th_40, tx_41⟩ := hTD
  have hq_42 := mkhid hp
  have th_43 : pR S_18 1107 x = some q_28 := hk_23.fr.R' (by decide +kernel) hax td_29
  have th_44 : At S_18 q_28 8 := hk_23.fr.at td_30
  have th_47 : pR S_18 1105 x = some u_34 := hk_23.fr.R' (by decide +kernel) hax td_35
  have th_48 : At S_18 u_34 10 := hk_23.fr.at td_36
  have th_45 : pI S_18 801 q_28 = pI S 801 q_28 := hk_23.fr.I' (by decide +kernel) td_30 rfl
  have th_46 : pI S_18 1245 mo = pI S 1245 mo := hk_23.fr.I' (by decide +kernel) ham rfl
  have tf_52 : (pI S_18 1102 x).toInt = (pI S 1102 x).toInt := congrArg Int32.toInt (hk_23.fr.I' (by decide +kernel) hax rfl)
  have tf_53 : (pI S_18 1104 x).toInt = (pI S 1104 x).toInt := congrArg Int32.toInt (hk_23.fr.I' (by decide +kernel) hax rfl)
  have tf_54 : (pI S_18 1201 mo).toInt = (pI S 1201 mo).toInt := congrArg Int32.toInt (hk_23.fr.I' (by decide +kernel) ham rfl)
  have tf_55 : (pI S_18 1211 mo).toInt = (pI S 1211 mo).toInt := congrArg Int32.toInt (hk_23.fr.I' (by decide +kernel) ham rfl)
  have tf_56 : (pI S_18 1000 u_34).toInt = (pI S 1000 u_34).toInt := congrArg Int32.toInt (hk_23.fr.I' (by decide +kernel) td_36 rfl)
  have tf_57 : (pI S_18 1000 u_34).toInt = (pI S 1000 u_34).toInt := congrArg Int32.toInt (hk_23.fr.I' (by decide +kernel) td_36 rfl)
  have tf_58 : (pI S_18 1000 u_34).toInt = (pI S 1000 u_34).toInt := congrArg Int32.toInt (hk_23.fr.I' (by decide +kernel) td_36 rfl)
  have tf_59 : (pI S_18 1228 mo).toInt = (pI S 1228 mo).toInt := congrArg Int32.toInt (hk_23.fr.I' (by decide +kernel) ham rfl)
  have tf_60 : (pI S_18 1228 mo).toInt = (pI S 1228 mo).toInt := congrArg Int32.toInt (hk_23.fr.I' (by decide +kernel) ham rfl)
  have th_62 : mA S_18 mo 1210 = thinF := TH_fr hG hk_23.fr ham (by decide +kernel) th_40
  have ct_61 : CT S_18 x mo := CT_eq hG hk_23.fr hax (by decide +kernel) (by decide +kernel) (S12_fr hG hk_23.fr ham (by decide +kernel)) ct_39
  have th_51 : PN S_18 x := PN_fr hG hax hk_23.fr (by decide +kernel) (by decide +kernel) (by decide +kernel) pn_38
  have hg_64 : GX S_18 := hk_23.1
  have rg_65 := And.intro (z_lo rr_17) (z_hi rr_17)
  refine lv_pop X.1 X.2.1 dL_law_810 rfl ?_
  refine lv_aload_n X.1 X.2.1 dL_law_811 rfl (lv_at hl 2 rfl) ?_
  refine lv_aload_n X.1 X.2.1 dL_law_812 rfl (lv_at hl 4 rfl) ?_
  refine lv_iload X.1 X.2.1 dL_law_813 (lv_at hl 0 rfl) ?_
  refine lv_iconst (v := 1) X.1 X.2.1 dL_law_815 (by decide) ?_
  refine lv_iadd X.1 X.2.1 dL_law_816 ?_
  refine lv_topi (fun v_66 ev_66 => ?_)
  have z_67 : v_66.toInt = i_z + 1 := z_add ev_66 hz_i ti_1 (by omega) (by omega)
  refine va_sld X.1 X.2.1 hX hbl hbA hw.2.2 (z_ix rfl (by omega) (by omega)) dL_law_817 ?_
  refine lv_topi (fun v_68 ev_68 => ?_)
  have es_69 : v_3 = v_68 := by rw [ev_3, ev_68, ev_1, ev_66]
  subst es_69
  refine k_i (rm := { frames := 7, cells := 0, slots := 0, locals := 336 }) (av := [.ref mo, .int (v_3)]) X hw (va_runV (As := [.int (v_3)]) (rest := []) (cfix X) (k_X12_cut6 l G cy κ S_18 _ mo (v_3) (v_3.toInt) (cB S mo nu_5 At__13 sk_7) (ER S mo (v_3.toInt).toNat) hg_64 am_27 rfl mi_24 gr_25 (wit_W hG ham hk_23.fr (by decide +kernel) (by decide +kernel) td_33 hwt_15 hpt_16) (wit_E hG hax ham hk_23.fr (by decide +kernel) (by decide +kernel) th_40 td_33)) (cwV 1 X.2.2.2.1 gk_X12_cut rfl rfl rfl (by decide +kernel) ⟨Nat.le_of_ble_eq_true rfl, Nat.le_of_ble_eq_true rfl⟩) (pre_V X hw _ am_27 rfl (by decide) rfl) rfl rfl hl.1 rfl (lv_room (Nat.le_of_ble_eq_true rfl)) dL_law_818 ⟨(by show c_19 + 0 ≤ 601024; omega), (by show n_20 + 0 ≤ 7293034; omega)⟩) c_19 n_20 (by show c_19 + 0 ≤ c_19; omega) (by show n_20 + 0 ≤ n_20; omega) (fun rr_70 S_71 H locs hp hw hfr hnw => ?_)
  have la_72 := LA_keep la_21 oq_22 hfr
  have oq_73 := oq_keep la_21 oq_22 hnw
  obtain ⟨hk_74, hp⟩ := hp
  have ax_77 : At S_71 x 11 := hk_74.fr.at ax_26
  have am_78 : At S_71 mo 12 := hk_74.fr.at am_27
  have mi_75 : MI S_71 mo := hp.1
  have gr_76 : GR S_71 mo := hp.2.1
  have ph_79 : Phc S_71 = Phc S_18 := Ph_ok hg_64 hk_74 (by decide +kernel) (by decide +kernel) (by decide +kernel)
  have ph_80 : Phs S_71 = Phs S_18 := Ph_ok hg_64 hk_74 (by decide +kernel) (by decide +kernel) (by decide +kernel)
  have th_81 : pR S_71 1107 x = some q_28 := hk_74.fr.R' (by decide +kernel) ax_26 th_43
  have th_82 : At S_71 q_28 8 := hk_74.fr.at th_44
  have th_85 : pR S_71 1105 x = some u_34 := hk_74.fr.R' (by decide +kernel) ax_26 th_47
  have th_86 : At S_71 u_34 10 := hk_74.fr.at th_48
  have th_83 : pI S_71 801 q_28 = pI S_18 801 q_28 := hk_74.fr.I' (by decide +kernel) th_44 rfl
  have th_84 : pI S_71 1245 mo = pI S_18 1245 mo := hk_74.fr.I' (by decide +kernel) am_27 rfl
  have tf_90 : (pI S_71 1102 x).toInt = (pI S_18 1102 x).toInt := congrArg Int32.toInt (hk_74.fr.I' (by decide +kernel) ax_26 rfl)
  have tf_91 : (pI S_71 1104 x).toInt = (pI S_18 1104 x).toInt := congrArg Int32.toInt (hk_74.fr.I' (by decide +kernel) ax_26 rfl)
  have tf_92 : (pI S_71 1201 mo).toInt = (pI S_18 1201 mo).toInt := congrArg Int32.toInt (hk_74.fr.I' (by decide +kernel) am_27 rfl)
  have tf_93 : (pI S_71 1211 mo).toInt = (pI S_18 1211 mo).toInt := congrArg Int32.toInt (hk_74.fr.I' (by decide +kernel) am_27 rfl)
  have tf_94 : (pI S_71 1000 u_34).toInt = (pI S_18 1000 u_34).toInt := congrArg Int32.toInt (hk_74.fr.I' (by decide +kernel) th_48 rfl)
  have tf_95 : (pI S_71 1000 u_34).toInt = (pI S_18 1000 u_34).toInt := congrArg Int32.toInt (hk_74.fr.I' (by decide +kernel) th_48 rfl)
  have tf_96 : (pI S_71 1000 u_34).toInt = (pI S_18 1000 u_34).toInt := congrArg Int32.toInt (hk_74.fr.I' (by decide +kernel) th_48 rfl)
  have tf_97 : (pI S_71 1228 mo).toInt = (pI S_18 1228 mo).toInt := congrArg Int32.toInt (hk_74.fr.I' (by decide +kernel) am_27 rfl)
  have tf_98 : (pI S_71 1228 mo).toInt = (pI S_18 1228 mo).toInt := congrArg Int32.toInt (hk_74.fr.I' (by decide +kernel) am_27 rfl)
  have th_100 : mA S_71 mo 1210 = thinF := TH_fr hg_64 hk_74.fr am_27 (by decide +kernel) th_62
  have ct_99 : CT S_71 x mo := CT_eq hg_64 hk_74.fr ax_26 (by decide +kernel) (by decide +kernel) (S12_fr hg_64 hk_74.fr am_27 (by decide +kernel)) ct_61
  have th_89 : PN S_71 x := PN_fr hg_64 ax_26 hk_74.fr (by decide +kernel) (by decide +kernel) (by decide +kernel) th_51
  have tz_102 := TX_cut hG hg_64 hax ham hk_23.fr hk_74.fr ct_39 pn_38 td_33 (fun K h => by rw [td_29] at h; cases h; exact td_31) hwt_15 hpt_16 (unhid hq_42).2.2.1 (unhid hq_42).2.2.2 hp.2.2.1 hp.2.2.2 tx_41
  have td_101 : TD S_71 x mo := ⟨⟨q_28, th_81, th_82, by rw [th_83, th_45, th_84, th_46, td_31]⟩, by omega, by omega, ⟨u_34, th_85, th_86, by omega⟩, th_89, ct_99, th_100, tz_102.1⟩
  have rq_103 : rr_17.toInt = rr_70.toInt := tz_102.2
  have hg_104 : GX S_71 := hk_74.1
  have rg_105 := And.intro (z_lo rr_70) (z_hi rr_70)
  refine lv_pop X.1 X.2.1 dL_law_821 rfl ?_
  refine lv_goto (tgt := 1505) X.1 X.2.1 dL_law_822 (by decide) ?_
  exact K _ _ _ _ c_19 n_20 hw hg_104 ax_77 am_78 mi_75 gr_76 td_101 la_72 oq_73 (lv_sub hl [0, 1, 2, 3, 4] rfl) (by omega) (by omega)
set_option maxHeartbeats 4000000 in
set_option maxRecDepth 100000 in
theorem lc_15 {p : Program} {l : Launch} {e : Env} {s : State} {m : MethodId} {below : List Frame} {meth : Method} {c : Code} (hst : l.stackTraces = false) {b x mo oq L : Nat} {xs : Nat → Int32} {cL : ClassId} {G : va_G} {cy : Nat → ClassId} {κ : Nat → Nat} {S : PS} {H : Heap} {locs : List Loc} {ls : Array Slot} {cc nn : Nat} {Q : State → Prop} {i : Int32} {i_z : Int} (X : Cx p c cL_law 7 s #[Value.ref b] lw_tbl RL m G cy κ (fun q : Nat => s.heap.size ≤ q)) (hX : va_X b L xs s s.heap) (hbl : b < s.heap.size) (hbA : ¬ (fun q : Nat => s.heap.size ≤ q) b) (hdc : ∀ Y ∈ DcL, va_Nw (.declares (Bundle.initS Y)) s) (hkl : Kl cL s) (hAo : (fun q : Nat => s.heap.size ≤ q) oq) (hL : L ≤ 3072) (hz_i : i.toInt = i_z) (hi0 : 0 ≤ i_z) (hi1 : i_z + 6 ≤ (L : Int)) (hw : Wd G cy (fun q : Nat => s.heap.size ≤ q) s.heap S H locs) (hG : GX S) (hax : At S x 11) (ham : At S mo 12) (hMI : MI S mo) (hGR : GR S mo) (hTD : TD S x mo) (hLA : LA cL oq H) (hoq : oq ∉ pL S) (hl : lv_has ls 7 [(4, .int i), (3, .ref oq), (2, .ref mo), (1, .ref x), (0, .ref b)]) (hcc : cc + Phc S + 20000 ≤ 601024) (hnn : nn + Phs S + 100000 ≤ 7293034) (K : ∀ (S9 : PS) (H9 : Heap) (locs9 : List Loc) (ls9 : Array Slot) (c9 n9 : Nat), Wd G cy (fun q : Nat => s.heap.size ≤ q) s.heap S9 H9 locs9 → GX S9 → At S9 x 11 → At S9 mo 12 → MI S9 mo → GR S9 mo → TD S9 x mo → LA cL oq H9 → oq ∉ pL S9 → lv_has ls9 7 [(4, .int i), (3, .ref oq), (2, .ref mo), (1, .ref x), (0, .ref b)] → c9 + Phc S9 ≤ cc + Phc S + 102 → n9 + Phs S9 ≤ nn + Phs S + 1020 → W p l e room_1 s m #[Value.ref b] below meth c H9 locs9 c9 n9 Q (F0 m 1505 ls9 [])) : W p l e room_1 s m #[Value.ref b] below meth c H locs cc nn Q (F0 m 825 ls []) := by
  refine lv_aload_n X.1 X.2.1 dL_law_825 rfl (lv_at hl 3 rfl) ?_
  refine lv_aload_n X.1 X.2.1 dL_law_826 rfl (lv_at hl 4 rfl) ?_
  refine lv_iload X.1 X.2.1 dL_law_827 (lv_at hl 0 rfl) ?_
  refine lv_iconst (v := 1) X.1 X.2.1 dL_law_829 (by decide) ?_
  refine lv_iadd X.1 X.2.1 dL_law_830 ?_
  refine lv_topi (fun v_1 ev_1 => ?_)
  have z_2 : v_1.toInt = i_z + 1 := z_add ev_1 hz_i ti_1 (by omega) (by omega)
  refine va_sld X.1 X.2.1 hX hbl hbA hw.2.2 (z_ix rfl (by omega) (by omega)) dL_law_831 ?_
  refine lv_topi (fun v_3 ev_3 => ?_)
  have rg_4 := And.intro (z_lo v_3) (z_hi v_3)
  refine lv_aload_n X.1 X.2.1 dL_law_832 rfl (lv_at hl 4 rfl) ?_
  refine lv_iload X.1 X.2.1 dL_law_833 (lv_at hl 0 rfl) ?_
  refine lv_iconst (v := 2) X.1 X.2.1 dL_law_835 (by decide) ?_
  refine lv_iadd X.1 X.2.1 dL_law_836 ?_
  refine lv_topi (fun v_5 ev_5 => ?_)
  have z_6 : v_5.toInt = i_z + 2 := z_add ev_5 hz_i ti_2 (by omega) (by omega)
  refine va_sld X.1 X.2.1 hX hbl hbA hw.2.2 (z_ix rfl (by omega) (by omega)) dL_law_837 ?_
  refine lv_topi (fun v_7 ev_7 => ?_)
  have rg_8 := And.intro (z_lo v_7) (z_hi v_7)
  refine k_i (rm := { frames := 3, cells := 0, slots := 0, locals := 144 }) (av := [.ref x, .int (v_3), .int (v_7)]) X hw (va_runV (As := [.int (v_3), .int (v_7)]) (rest := []) (cfix X) (k_X11_skein l G cy κ S _ x (v_3) (v_3.toInt) (v_7) (v_7.toInt) hG hax rfl rfl) (cwV 2 X.2.2.2.1 gk_X11_skein rfl rfl rfl (by decide +kernel) ⟨Nat.le_of_ble_eq_true rfl, Nat.le_of_ble_eq_true rfl⟩) (pre_V X hw _ hax rfl (by decide) rfl) rfl rfl hl.1 rfl (lv_room (Nat.le_of_ble_eq_true rfl)) dL_law_838 ⟨(by show cc + 0 ≤ 601024; omega), (by show nn + 0 ≤ 7293034; omega)⟩) cc nn (by show cc + 0 ≤ cc; omega) (by show nn + 0 ≤ nn; omega) (fun rr_9 S_10 H locs hp hw hfr hnw => ?_)
  have la_11 := LA_keep hLA hoq hfr
  have oq_12 := oq_keep hLA hoq hnw
  obtain ⟨e2, hp⟩ := hp
  subst e2
  have rg_13 := And.intro (z_lo rr_9) (z_hi rr_9)
  refine lv_pop X.1 X.2.1 dL_law_841 rfl ?_
  refine lv_aload_n X.1 X.2.1 dL_law_842 rfl (lv_at hl 2 rfl) ?_
  refine lv_aload_n X.1 X.2.1 dL_law_843 rfl (lv_at hl 4 rfl) ?_
  refine lv_iload X.1 X.2.1 dL_law_844 (lv_at hl 0 rfl) ?_
  refine lv_iconst (v := 1) X.1 X.2.1 dL_law_846 (by decide) ?_
  refine lv_iadd X.1 X.2.1 dL_law_847 ?_
  refine lv_topi (fun v_14 ev_14 => ?_)
  have z_15 : v_14.toInt = i_z + 1 := z_add ev_14 hz_i ti_1 (by omega) (by omega)
  refine va_sld X.1 X.2.1 hX hbl hbA hw.2.2 (z_ix rfl (by omega) (by omega)) dL_law_848 ?_
  refine lv_topi (fun v_16 ev_16 => ?_)
  have es_17 : v_3 = v_16 := by rw [ev_3, ev_16, ev_1, ev_14]
  subst es_17
  refine lv_aload_n X.1 X.2.1 dL_law_849 rfl (lv_at hl 4 rfl) ?_
  refine lv_iload X.1 X.2.1 dL_law_850 (lv_at hl 0 rfl) ?_
  refine lv_iconst (v := 2) X.1 X.2.1 dL_law_852 (by decide) ?_
  refine lv_iadd X.1 X.2.1 dL_law_853 ?_
  refine lv_topi (fun v_18 ev_18 => ?_)
  have z_19 : v_18.toInt = i_z + 2 := z_add ev_18 hz_i ti_2 (by omega) (by omega)
  refine va_sld X.1 X.2.1 hX hbl hbA hw.2.2 (z_ix rfl (by omega) (by omega)) dL_law_854 ?_
  refine lv_topi (fun v_20 ev_20 => ?_)
  have es_21 : v_7 = v_20 := by rw [ev_7, ev_20, ev_5, ev_18]
  subst es_21
  refine k_i (rm := { frames := 8, cells := 0, slots := 0, locals := 384 }) (av := [.ref mo, .int (v_3), .int (v_7)]) X hw (va_runV (As := [.int (v_3), .int (v_7)]) (rest := []) (cfix X) (k_X12_skein l G cy κ S _ mo (v_3) (v_3.toInt) (v_7) (v_7.toInt) hG ham rfl rfl hMI) (cwV 2 X.2.2.2.1 gk_X12_skein rfl rfl rfl (by decide +kernel) ⟨Nat.le_of_ble_eq_true rfl, Nat.le_of_ble_eq_true rfl⟩) (pre_V X hw _ ham rfl (by decide) rfl) rfl rfl hl.1 rfl (lv_room (Nat.le_of_ble_eq_true rfl)) dL_law_855 ⟨(by show cc + 0 ≤ 601024; omega), (by show nn + 0 ≤ 7293034; omega)⟩) cc nn (by show cc + 0 ≤ cc; omega) (by show nn + 0 ≤ nn; omega) (fun rr_22 S_23 H locs hp hw hfr hnw => ?_)
  have la_24 := LA_keep la_11 oq_12 hfr
  have oq_25 := oq_keep la_11 oq_12 hnw
  obtain ⟨hk_26, hp⟩ := hp
  have ax_29 : At S_23 x 11 := hk_26.fr.at hax
  have am_30 : At S_23 mo 12 := hk_26.fr.at ham
  have mi_27 : MI S_23 mo := MIe_free hG ham hk_26.fr (by decide +kernel) hMI
  have gr_28 : GR S_23 mo := GR_free hG ham hk_26.fr (by decide +kernel) hGR
  have ph_31 : Phc S_23 = Phc S := Ph_ok hG hk_26 (by decide +kernel) (by decide +kernel) (by decide +kernel)
  have ph_32 : Phs S_23 = Phs S := Ph_ok hG hk_26 (by decide +kernel) (by decide +kernel) (by decide +kernel)
  have td_33 : TD S_23 x mo := TD_fr hG hk_26.fr hax ham (by decide +kernel) (by decide +kernel) (by decide +kernel) (by decide +kernel) (by decide +kernel) (by decide +kernel) hTD
  have hg_34 : GX S_23 := hk_26.1
  have rg_35 := And.intro (z_lo rr_22) (z_hi rr_22)
  refine lv_pop X.1 X.2.1 dL_law_858 rfl ?_
  refine lv_goto (tgt := 1505) X.1 X.2.1 dL_law_859 (by decide) ?_
  exact K _ _ _ _ cc nn hw hg_34 ax_29 am_30 mi_27 gr_28 td_33 la_24 oq_25 (lv_sub hl [0, 1, 2, 3, 4] rfl) (by omega) (by omega)
