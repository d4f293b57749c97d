set_option maxHeartbeats 4000000 in
set_option maxRecDepth 100000 in
theorem lc_24 {p : Program} {l : Launch} {e : Env} {s : State} {m : MethodId} {below : List Frame} {meth : Method} {c : Code} (hst : l.stackTraces = false) {b x mo oq L : Nat} {xs : Nat → Int32} {cL : ClassId} {G : va_G} {cy : Nat → ClassId} {κ : Nat → Nat} {S : PS} {H : Heap} {locs : List Loc} {ls : Array Slot} {cc nn : Nat} {Q : State → Prop} {i : Int32} {i_z : Int} (X : Cx p c cL_law 7 s #[Value.ref b] lw_tbl RL m G cy κ (fun q : Nat => s.heap.size ≤ q)) (hX : va_X b L xs s s.heap) (hbl : b < s.heap.size) (hbA : ¬ (fun q : Nat => s.heap.size ≤ q) b) (hdc : ∀ Y ∈ DcL, va_Nw (.declares (Bundle.initS Y)) s) (hkl : Kl cL s) (hAo : (fun q : Nat => s.heap.size ≤ q) oq) (hL : L ≤ 3072) (hz_i : i.toInt = i_z) (hi0 : 0 ≤ i_z) (hi1 : i_z + 6 ≤ (L : Int)) (hw : Wd G cy (fun q : Nat => s.heap.size ≤ q) s.heap S H locs) (hG : GX S) (hax : At S x 11) (ham : At S mo 12) (hMI : MI S mo) (hGR : GR S mo) (hTD : TD S x mo) (hLA : LA cL oq H) (hoq : oq ∉ pL S) (hl : lv_has ls 7 [(4, .int i), (3, .ref oq), (2, .ref mo), (1, .ref x), (0, .ref b)]) (hcc : cc + Phc S + 20000 ≤ 601024) (hnn : nn + Phs S + 100000 ≤ 7293034) (K : ∀ (S9 : PS) (H9 : Heap) (locs9 : List Loc) (ls9 : Array Slot) (c9 n9 : Nat), Wd G cy (fun q : Nat => s.heap.size ≤ q) s.heap S9 H9 locs9 → GX S9 → At S9 x 11 → At S9 mo 12 → MI S9 mo → GR S9 mo → TD S9 x mo → LA cL oq H9 → oq ∉ pL S9 → lv_has ls9 7 [(4, .int i), (3, .ref oq), (2, .ref mo), (1, .ref x), (0, .ref b)] → c9 + Phc S9 ≤ cc + Phc S + 102 → n9 + Phs S9 ≤ nn + Phs S + 1020 → W p l e room_1 s m #[Value.ref b] below meth c H9 locs9 c9 n9 Q (F0 m 1505 ls9 [])) : W p l e room_1 s m #[Value.ref b] below meth c H locs cc nn Q (F0 m 1242 ls []) := by
  refine lv_aload_n X.1 X.2.1 dL_law_1242 rfl (lv_at hl 3 rfl) ?_
  refine lv_aload_n X.1 X.2.1 dL_law_1243 rfl (lv_at hl 4 rfl) ?_
  refine lv_iload X.1 X.2.1 dL_law_1244 (lv_at hl 0 rfl) ?_
  refine lv_iconst (v := 1) X.1 X.2.1 dL_law_1246 (by decide) ?_
  refine lv_iadd X.1 X.2.1 dL_law_1247 ?_
  refine lv_topi (fun v_1 ev_1 => ?_)
  have z_2 : v_1.toInt = i_z + 1 := z_add ev_1 hz_i ti_1 (by omega) (by omega)
  refine va_sld X.1 X.2.1 hX hbl hbA hw.2.2 (z_ix rfl (by omega) (by omega)) dL_law_1248 ?_
  refine lv_topi (fun v_3 ev_3 => ?_)
  have rg_4 := And.intro (z_lo v_3) (z_hi v_3)
  refine lv_aload_n X.1 X.2.1 dL_law_1249 rfl (lv_at hl 4 rfl) ?_
  refine lv_iload X.1 X.2.1 dL_law_1250 (lv_at hl 0 rfl) ?_
  refine lv_iconst (v := 2) X.1 X.2.1 dL_law_1252 (by decide) ?_
  refine lv_iadd X.1 X.2.1 dL_law_1253 ?_
  refine lv_topi (fun v_5 ev_5 => ?_)
  have z_6 : v_5.toInt = i_z + 2 := z_add ev_5 hz_i ti_2 (by omega) (by omega)
  refine va_sld X.1 X.2.1 hX hbl hbA hw.2.2 (z_ix rfl (by omega) (by omega)) dL_law_1254 ?_
  refine lv_topi (fun v_7 ev_7 => ?_)
  have rg_8 := And.intro (z_lo v_7) (z_hi v_7)
  refine k_i (rm := { frames := 2, cells := 0, slots := 0, locals := 96 }) (av := [.ref x, .int (v_3), .int (v_7)]) X hw (va_runV (As := [.int (v_3), .int (v_7)]) (rest := []) (cfix X) (k_X11_price8 l G cy κ S _ x (v_3) (v_3.toInt) (v_7) (v_7.toInt) hG hax rfl rfl) (cwV 2 X.2.2.2.1 gk_X11_price rfl rfl rfl (by decide +kernel) ⟨Nat.le_of_ble_eq_true rfl, Nat.le_of_ble_eq_true rfl⟩) (pre_V X hw _ hax rfl (by decide) rfl) rfl rfl hl.1 rfl (lv_room (Nat.le_of_ble_eq_true rfl)) dL_law_1255 ⟨(by show cc + 0 ≤ 601024; omega), (by show nn + 0 ≤ 7293034; omega)⟩) cc nn (by show cc + 0 ≤ cc; omega) (by show nn + 0 ≤ nn; omega) (fun rr_9 S_10 H locs hp hw hfr hnw => ?_)
  have la_11 := LA_keep hLA hoq hfr
  have oq_12 := oq_keep hLA hoq hnw
  obtain ⟨hk_13, hp⟩ := hp
  have ax_16 : At S_10 x 11 := hk_13.fr.at hax
  have am_17 : At S_10 mo 12 := hk_13.fr.at ham
  have mi_14 : MI S_10 mo := MIe_free hG ham hk_13.fr (by decide +kernel) hMI
  have gr_15 : GR S_10 mo := GR_free hG ham hk_13.fr (by decide +kernel) hGR
  have ph_18 : Phc S_10 = Phc S := Ph_ok hG hk_13 (by decide +kernel) (by decide +kernel) (by decide +kernel)
  have ph_19 : Phs S_10 = Phs S := Ph_ok hG hk_13 (by decide +kernel) (by decide +kernel) (by decide +kernel)
  obtain ⟨⟨q_20, td_21, td_22, td_23⟩, td_24, td_25, ⟨u_26, td_27, td_28, td_29⟩, pn_30, ct_31, th_32, tx_33⟩ := hTD
  have hq_34 := mkhid hp
  have th_35 : pR S_10 1107 x = some q_20 := hk_13.fr.R' (by decide +kernel) hax td_21
  have th_36 : At S_10 q_20 8 := hk_13.fr.at td_22
  have th_39 : pR S_10 1105 x = some u_26 := hk_13.fr.R' (by decide +kernel) hax td_27
  have th_40 : At S_10 u_26 10 := hk_13.fr.at td_28
  have th_37 : pI S_10 801 q_20 = pI S 801 q_20 := hk_13.fr.I' (by decide +kernel) td_22 rfl
  have th_38 : pI S_10 1245 mo = pI S 1245 mo := hk_13.fr.I' (by decide +kernel) ham rfl
  have tf_44 : (pI S_10 1102 x).toInt = (pI S 1102 x).toInt := congrArg Int32.toInt (hk_13.fr.I' (by decide +kernel) hax rfl)
  have tf_45 : (pI S_10 1104 x).toInt = (pI S 1104 x).toInt := congrArg Int32.toInt (hk_13.fr.I' (by decide +kernel) hax rfl)
  have tf_46 : (pI S_10 1201 mo).toInt = (pI S 1201 mo).toInt := congrArg Int32.toInt (hk_13.fr.I' (by decide +kernel) ham rfl)
  have tf_47 : (pI S_10 1211 mo).toInt = (pI S 1211 mo).toInt := congrArg Int32.toInt (hk_13.fr.I' (by decide +kernel) ham rfl)
  have tf_48 : (pI S_10 1000 u_26).toInt = (pI S 1000 u_26).toInt := congrArg Int32.toInt (hk_13.fr.I' (by decide +kernel) td_28 rfl)
  have tf_49 : (pI S_10 1000 u_26).toInt = (pI S 1000 u_26).toInt := congrArg Int32.toInt (hk_13.fr.I' (by decide +kernel) td_28 rfl)
  have tf_50 : (pI S_10 1000 u_26).toInt = (pI S 1000 u_26).toInt := congrArg Int32.toInt (hk_13.fr.I' (by decide +kernel) td_28 rfl)
  have tf_51 : (pI S_10 1228 mo).toInt = (pI S 1228 mo).toInt := congrArg Int32.toInt (hk_13.fr.I' (by decide +kernel) ham rfl)
  have tf_52 : (pI S_10 1228 mo).toInt = (pI S 1228 mo).toInt := congrArg Int32.toInt (hk_13.fr.I' (by decide +kernel) ham rfl)
  have th_54 : mA S_10 mo 1210 = thinF := TH_fr hG hk_13.fr ham (by decide +kernel) th_32
  have ct_53 : CT S_10 x mo := CT_eq hG hk_13.fr hax (by decide +kernel) (by decide +kernel) (S12_fr hG hk_13.fr ham (by decide +kernel)) ct_31
  have th_43 : PN S_10 x := PN_fr hG hax hk_13.fr (by decide +kernel) (by decide +kernel) (by decide +kernel) pn_30
  have hg_56 : GX S_10 := hk_13.1
  have rg_57 := And.intro (z_lo rr_9) (z_hi rr_9)
  refine lv_pop X.1 X.2.1 dL_law_1258 rfl ?_
  refine lv_aload_n X.1 X.2.1 dL_law_1259 rfl (lv_at hl 2 rfl) ?_
  refine lv_aload_n X.1 X.2.1 dL_law_1260 rfl (lv_at hl 4 rfl) ?_
  refine lv_iload X.1 X.2.1 dL_law_1261 (lv_at hl 0 rfl) ?_
  refine lv_iconst (v := 1) X.1 X.2.1 dL_law_1263 (by decide) ?_
  refine lv_iadd X.1 X.2.1 dL_law_1264 ?_
  refine lv_topi (fun v_58 ev_58 => ?_)
  have z_59 : v_58.toInt = i_z + 1 := z_add ev_58 hz_i ti_1 (by omega) (by omega)
  refine va_sld X.1 X.2.1 hX hbl hbA hw.2.2 (z_ix rfl (by omega) (by omega)) dL_law_1265 ?_
  refine lv_topi (fun v_60 ev_60 => ?_)
  have es_61 : v_3 = v_60 := by rw [ev_3, ev_60, ev_1, ev_58]
  subst es_61
  refine lv_aload_n X.1 X.2.1 dL_law_1266 rfl (lv_at hl 4 rfl) ?_
  refine lv_iload X.1 X.2.1 dL_law_1267 (lv_at hl 0 rfl) ?_
  refine lv_iconst (v := 2) X.1 X.2.1 dL_law_1269 (by decide) ?_
  refine lv_iadd X.1 X.2.1 dL_law_1270 ?_
  refine lv_topi (fun v_62 ev_62 => ?_)
  have z_63 : v_62.toInt = i_z + 2 := z_add ev_62 hz_i ti_2 (by omega) (by omega)
  refine va_sld X.1 X.2.1 hX hbl hbA hw.2.2 (z_ix rfl (by omega) (by omega)) dL_law_1271 ?_
  refine lv_topi (fun v_64 ev_64 => ?_)
  have es_65 : v_7 = v_64 := by rw [ev_7, ev_64, ev_5, ev_62]
  subst es_65
  refine k_i (rm := { frames := 2, cells := 0, slots := 0, locals := 96 }) (av := [.ref mo, .int (v_3), .int (v_7)]) X hw (va_runV (As := [.int (v_3), .int (v_7)]) (rest := []) (cfix X) (k_X12_price8 l G cy κ S_10 _ mo (v_3) (v_3.toInt) (v_7) (v_7.toInt) hg_56 am_17 rfl rfl) (cwV 2 X.2.2.2.1 gk_X12_price rfl rfl rfl (by decide +kernel) ⟨Nat.le_of_ble_eq_true rfl, Nat.le_of_ble_eq_true rfl⟩) (pre_V X hw _ am_17 rfl (by decide) rfl) rfl rfl hl.1 rfl (lv_room (Nat.le_of_ble_eq_true rfl)) dL_law_1272 ⟨(by show cc + 0 ≤ 601024; omega), (by show nn + 0 ≤ 7293034; omega)⟩) cc nn (by show cc + 0 ≤ cc; omega) (by show nn + 0 ≤ nn; omega) (fun rr_66 S_67 H locs hp hw hfr hnw => ?_)
  have la_68 := LA_keep la_11 oq_12 hfr
  have oq_69 := oq_keep la_11 oq_12 hnw
  obtain ⟨hk_70, hp⟩ := hp
  have ax_73 : At S_67 x 11 := hk_70.fr.at ax_16
  have am_74 : At S_67 mo 12 := hk_70.fr.at am_17
  have mi_71 : MI S_67 mo := MIe_free hg_56 am_17 hk_70.fr (by decide +kernel) mi_14
  have gr_72 : GR S_67 mo := GR_free hg_56 am_17 hk_70.fr (by decide +kernel) gr_15
  have ph_75 : Phc S_67 = Phc S_10 := Ph_ok hg_56 hk_70 (by decide +kernel) (by decide +kernel) (by decide +kernel)
  have ph_76 : Phs S_67 = Phs S_10 := Ph_ok hg_56 hk_70 (by decide +kernel) (by decide +kernel) (by decide +kernel)
  have th_77 : pR S_67 1107 x = some q_20 := hk_70.fr.R' (by decide +kernel) ax_16 th_35
  have th_78 : At S_67 q_20 8 := hk_70.fr.at th_36
  have th_81 : pR S_67 1105 x = some u_26 := hk_70.fr.R' (by decide +kernel) ax_16 th_39
  have th_82 : At S_67 u_26 10 := hk_70.fr.at th_40
  have th_79 : pI S_67 801 q_20 = pI S_10 801 q_20 := hk_70.fr.I' (by decide +kernel) th_36 rfl
  have th_80 : pI S_67 1245 mo = pI S_10 1245 mo := hk_70.fr.I' (by decide +kernel) am_17 rfl
  have tf_86 : (pI S_67 1102 x).toInt = (pI S_10 1102 x).toInt := congrArg Int32.toInt (hk_70.fr.I' (by decide +kernel) ax_16 rfl)
  have tf_87 : (pI S_67 1104 x).toInt = (pI S_10 1104 x).toInt := congrArg Int32.toInt (hk_70.fr.I' (by decide +kernel) ax_16 rfl)
  have tf_88 : (pI S_67 1201 mo).toInt = (pI S_10 1201 mo).toInt := congrArg Int32.toInt (hk_70.fr.I' (by decide +kernel) am_17 rfl)
  have tf_89 : (pI S_67 1211 mo).toInt = (pI S_10 1211 mo).toInt := congrArg Int32.toInt (hk_70.fr.I' (by decide +kernel) am_17 rfl)
  have tf_90 : (pI S_67 1000 u_26).toInt = (pI S_10 1000 u_26).toInt := congrArg Int32.toInt (hk_70.fr.I' (by decide +kernel) th_40 rfl)
  have tf_91 : (pI S_67 1000 u_26).toInt = (pI S_10 1000 u_26).toInt := congrArg Int32.toInt (hk_70.fr.I' (by decide +kernel) th_40 rfl)
  have tf_92 : (pI S_67 1000 u_26).toInt = (pI S_10 1000 u_26).toInt := congrArg Int32.toInt (hk_70.fr.I' (by decide +kernel) th_40 rfl)
  have tf_93 : (pI S_67 1228 mo).toInt = (pI S_10 1228 mo).toInt := congrArg Int32.toInt (hk_70.fr.I' (by decide +kernel) am_17 rfl)
  have tf_94 : (pI S_67 1228 mo).toInt = (pI S_10 1228 mo).toInt := congrArg Int32.toInt (hk_70.fr.I' (by decide +kernel) am_17 rfl)
  have th_96 : mA S_67 mo 1210 = thinF := TH_fr hg_56 hk_70.fr am_17 (by decide +kernel) th_54
  have ct_95 : CT S_67 x mo := CT_eq hg_56 hk_70.fr ax_16 (by decide +kernel) (by decide +kernel) (S12_fr hg_56 hk_70.fr am_17 (by decide +kernel)) ct_53
  have th_85 : PN S_67 x := PN_fr hg_56 ax_16 hk_70.fr (by decide +kernel) (by decide +kernel) (by decide +kernel) th_43
  have tz_98 := TX_price hG hg_56 hax ham hk_13.fr hk_70.fr (unhid hq_34) hp tx_33
  have td_97 : TD S_67 x mo := ⟨⟨q_20, th_77, th_78, by rw [th_79, th_37, th_80, th_38, td_23]⟩, by omega, by omega, ⟨u_26, th_81, th_82, by omega⟩, th_85, ct_95, th_96, tz_98⟩
  have hg_99 : GX S_67 := hk_70.1
  have rg_100 := And.intro (z_lo rr_66) (z_hi rr_66)
  refine lv_pop X.1 X.2.1 dL_law_1275 rfl ?_
  refine lv_goto (tgt := 1505) X.1 X.2.1 dL_law_1276 (by decide) ?_
  exact K _ _ _ _ cc nn hw hg_99 ax_73 am_74 mi_71 gr_72 td_97 la_68 oq_69 (lv_sub hl [0, 1, 2, 3, 4] rfl) (by omega) (by omega)
set_option maxHeartbeats 4000000 in
set_option maxRecDepth 100000 in
theorem lc_25 {p : Program} {l : Launch} {e : Env} {s : State} {m : MethodId} {below : List Frame} {meth : Method} {c : Code} (hst : l.stackTraces = false) {b x mo oq L : Nat} {xs : Nat → Int32} {cL : ClassId} {G : va_G} {cy : Nat → ClassId} {κ : Nat → Nat} {S : PS} {H : Heap} {locs : List Loc} {ls : Array Slot} {cc nn : Nat} {Q : State → Prop} {i : Int32} {i_z : Int} (X : Cx p c cL_law 7 s #[Value.ref b] lw_tbl RL m G cy κ (fun q : Nat => s.heap.size ≤ q)) (hX : va_X b L xs s s.heap) (hbl : b < s.heap.size) (hbA : ¬ (fun q : Nat => s.heap.size ≤ q) b) (hdc : ∀ Y ∈ DcL, va_Nw (.declares (Bundle.initS Y)) s) (hkl : Kl cL s) (hAo : (fun q : Nat => s.heap.size ≤ q) oq) (hL : L ≤ 3072) (hz_i : i.toInt = i_z) (hi0 : 0 ≤ i_z) (hi1 : i_z + 6 ≤ (L : Int)) (hw : Wd G cy (fun q : Nat => s.heap.size ≤ q) s.heap S H locs) (hG : GX S) (hax : At S x 11) (ham : At S mo 12) (hMI : MI S mo) (hGR : GR S mo) (hTD : TD S x mo) (hLA : LA cL oq H) (hoq : oq ∉ pL S) (hl : lv_has ls 7 [(4, .int i), (3, .ref oq), (2, .ref mo), (1, .ref x), (0, .ref b)]) (hcc : cc + Phc S + 20000 ≤ 601024) (hnn : nn + Phs S + 100000 ≤ 7293034) (K : ∀ (S9 : PS) (H9 : Heap) (locs9 : List Loc) (ls9 : Array Slot) (c9 n9 : Nat), Wd G cy (fun q : Nat => s.heap.size ≤ q) s.heap S9 H9 locs9 → GX S9 → At S9 x 11 → At S9 mo 12 → MI S9 mo → GR S9 mo → TD S9 x mo → LA cL oq H9 → oq ∉ pL S9 → lv_has ls9 7 [(4, .int i), (3, .ref oq), (2, .ref mo), (1, .ref x), (0, .ref b)] → c9 + Phc S9 ≤ cc + Phc S + 102 → n9 + Phs S9 ≤ nn + Phs S + 1020 → W p l e room_1 s m #[Value.ref b] below meth c H9 locs9 c9 n9 Q (F0 m 1505 ls9 [])) : W p l e room_1 s m #[Value.ref b] below meth c H locs cc nn Q (F0 m 1279 ls []) := by
  refine lv_aload_n X.1 X.2.1 dL_law_1279 rfl (lv_at hl 3 rfl) ?_
  refine lv_aload_n X.1 X.2.1 dL_law_1280 rfl (lv_at hl 4 rfl) ?_
  refine lv_iload X.1 X.2.1 dL_law_1281 (lv_at hl 0 rfl) ?_
  refine lv_iconst (v := 1) X.1 X.2.1 dL_law_1283 (by decide) ?_
  refine lv_iadd X.1 X.2.1 dL_law_1284 ?_
  refine lv_topi (fun v_1 ev_1 => ?_)
  have z_2 : v_1.toInt = i_z + 1 := z_add ev_1 hz_i ti_1 (by omega) (by omega)
  refine va_sld X.1 X.2.1 hX hbl hbA hw.2.2 (z_ix rfl (by omega) (by omega)) dL_law_1285 ?_
  refine lv_topi (fun v_3 ev_3 => ?_)
  have rg_4 := And.intro (z_lo v_3) (z_hi v_3)
  refine lv_aload_n X.1 X.2.1 dL_law_1286 rfl (lv_at hl 4 rfl) ?_
  refine lv_iload X.1 X.2.1 dL_law_1287 (lv_at hl 0 rfl) ?_
  refine lv_iconst (v := 2) X.1 X.2.1 dL_law_1289 (by decide) ?_
  refine lv_iadd X.1 X.2.1 dL_law_1290 ?_
  refine lv_topi (fun v_5 ev_5 => ?_)
  have z_6 : v_5.toInt = i_z + 2 := z_add ev_5 hz_i ti_2 (by omega) (by omega)
  refine va_sld X.1 X.2.1 hX hbl hbA hw.2.2 (z_ix rfl (by omega) (by omega)) dL_law_1291 ?_
  refine lv_topi (fun v_7 ev_7 => ?_)
  have rg_8 := And.intro (z_lo v_7) (z_hi v_7)
  refine lv_aload_n X.1 X.2.1 dL_law_1292 rfl (lv_at hl 4 rfl) ?_
  refine lv_iload X.1 X.2.1 dL_law_1293 (lv_at hl 0 rfl) ?_
  refine lv_iconst (v := 3) X.1 X.2.1 dL_law_1295 (by decide) ?_
  refine lv_iadd X.1 X.2.1 dL_law_1296 ?_
  refine lv_topi (fun v_9 ev_9 => ?_)
  have z_10 : v_9.toInt = i_z + 3 := z_add ev_9 hz_i ti_3 (by omega) (by omega)
  refine va_sld X.1 X.2.1 hX hbl hbA hw.2.2 (z_ix rfl (by omega) (by omega)) dL_law_1297 ?_
  refine lv_topi (fun v_11 ev_11 => ?_)
  have rg_12 := And.intro (z_lo v_11) (z_hi v_11)
  refine lv_aload_n X.1 X.2.1 dL_law_1298 rfl (lv_at hl 4 rfl) ?_
  refine lv_iload X.1 X.2.1 dL_law_1299 (lv_at hl 0 rfl) ?_
  refine lv_iconst (v := 4) X.1 X.2.1 dL_law_1301 (by decide) ?_
  refine lv_iadd X.1 X.2.1 dL_law_1302 ?_
  refine lv_topi (fun v_13 ev_13 => ?_)
  have z_14 : v_13.toInt = i_z + 4 := z_add ev_13 hz_i ti_4 (by omega) (by omega)
  refine va_sld X.1 X.2.1 hX hbl hbA hw.2.2 (z_ix rfl (by omega) (by omega)) dL_law_1303 ?_
  refine lv_topi (fun v_15 ev_15 => ?_)
  have rg_16 := And.intro (z_lo v_15) (z_hi v_15)
  refine lv_if_eq (tgt := 1311) X.1 X.2.1 dL_law_1304 (by decide) (fun c_17 => ?_) (fun c_17 => ?_)
  · have z_b_18 := trivial
    have k_19 : v_15.toInt = 0 := z_eq rfl ti_0 c_17
    refine lv_iconst (v := 0) X.1 X.2.1 dL_law_1311 (by decide) ?_
    obtain ⟨nu_20, Ks_21, sk_22, hwt_23⟩ := hTD.2.2.2.2.2.2.2.2.2
    refine k_i (rm := { frames := 18, cells := 0, slots := 0, locals := 864 }) (av := [.ref x, .int (v_3), .int (v_7), .int (v_11), .int 0]) X hw (va_runV (As := [.int (v_3), .int (v_7), .int (v_11), .int 0]) (rest := []) (cfix X) (k_X11_mix8 l G cy κ S _ x (v_3) (v_3.toInt) (v_7) (v_7.toInt) (v_11) (v_11.toInt) (0) (0) (DC S x) Ks_21 sk_22 hG hax rfl rfl rfl ti_0 hwt_23.2.1 hwt_23.2.2.1.1 (wd_of hG ham hwt_23)) (cwV 4 X.2.2.2.1 gk_X11_mix rfl rfl rfl (by decide +kernel) ⟨Nat.le_of_ble_eq_true rfl, Nat.le_of_ble_eq_true rfl⟩) (pre_V X hw _ hax rfl (by decide) rfl) rfl rfl hl.1 rfl (lv_room (Nat.le_of_ble_eq_true rfl)) dL_law_1312 ⟨(by show cc + 0 ≤ 601024; omega), (by show nn + 0 ≤ 7293034; omega)⟩) cc nn (by show cc + 0 ≤ cc; omega) (by show nn + 0 ≤ nn; omega) (fun rr_24 S_25 H locs hp hw hfr hnw => ?_)
    have la_26 := LA_keep hLA hoq hfr
    have oq_27 := oq_keep hLA hoq hnw
    obtain ⟨hk_28, hp⟩ := hp
    have ax_31 : At S_25 x 11 := hk_28.fr.at hax
    have am_32 : At S_25 mo 12 := hk_28.fr.at ham
    have mi_29 : MI S_25 mo := MIe_free hG ham hk_28.fr (by decide +kernel) hMI
    have gr_30 : GR S_25 mo := GR_free hG ham hk_28.fr (by decide +kernel) hGR
    have ph_33 : Phc S_25 = Phc S := Ph_ok hG hk_28 (by decide +kernel) (by decide +kernel) (by decide +kernel)
    have ph_34 : Phs S_25 = Phs S := Ph_ok hG hk_28 (by decide +kernel) (by decide +kernel) (by decide +kernel)
    obtain ⟨⟨q_35, td_36, td_37, td_38⟩, td_39, td_40, ⟨u_41, td_42, td_43, td_44⟩, pn_45, ct_46, th_47, tx_48⟩ := hTD
    have hq_49 := mkhid hp
    have th_50 : pR S_25 1107 x = some q_35 := hk_28.fr.R' (by decide +kernel) hax td_36
    have th_51 : At S_25 q_35 8 := hk_28.fr.at td_37
    have th_54 : pR S_25 1105 x = some u_41 := hk_28.fr.R' (by decide +kernel) hax td_42
    have th_55 : At S_25 u_41 10 := hk_28.fr.at td_43
    have th_52 : pI S_25 801 q_35 = pI S 801 q_35 := hk_28.fr.I' (by decide +kernel) td_37 rfl
    have th_53 : pI S_25 1245 mo = pI S 1245 mo := hk_28.fr.I' (by decide +kernel) ham rfl
    have tf_59 : (pI S_25 1102 x).toInt = (pI S 1102 x).toInt := congrArg Int32.toInt (hk_28.fr.I' (by decide +kernel) hax rfl)
    have tf_60 : (pI S_25 1104 x).toInt = (pI S 1104 x).toInt := congrArg Int32.toInt (hk_28.fr.I' (by decide +kernel) hax rfl)
    have tf_61 : (pI S_25 1201 mo).toInt = (pI S 1201 mo).toInt := congrArg Int32.toInt (hk_28.fr.I' (by decide +kernel) ham rfl)
    have tf_62 : (pI S_25 1211 mo).toInt = (pI S 1211 mo).toInt := congrArg Int32.toInt (hk_28.fr.I' (by decide +kernel) ham rfl)
    have tf_63 : (pI S_25 1000 u_41).toInt = (pI S 1000 u_41).toInt := congrArg Int32.toInt (hk_28.fr.I' (by decide +kernel) td_43 rfl)
    have tf_64 : (pI S_25 1000 u_41).toInt = (pI S 1000 u_41).toInt := congrArg Int32.toInt (hk_28.fr.I' (by decide +kernel) td_43 rfl)
    have tf_65 : (pI S_25 1000 u_41).toInt = (pI S 1000 u_41).toInt := congrArg Int32.toInt (hk_28.fr.I' (by decide +kernel) td_43 rfl)
    have tf_66 : (pI S_25 1228 mo).toInt = (pI S 1228 mo).toInt := congrArg Int32.toInt (hk_28.fr.I' (by decide +kernel) ham rfl)
    have tf_67 : (pI S_25 1228 mo).toInt = (pI S 1228 mo).toInt := congrArg Int32.toInt (hk_28.fr.I' (by decide +kernel) ham rfl)
    have th_69 : mA S_25 mo 1210 = thinF := TH_fr hG hk_28.fr ham (by decide +kernel) th_47
    have ct_68 : CT S_25 x mo := CT_eq hG hk_28.fr hax (by decide +kernel) (by decide +kernel) (S12_fr hG hk_28.fr ham (by decide +kernel)) ct_46
    have th_58 : PN S_25 x := PN_fr hG hax hk_28.fr (by decide +kernel) (by decide +kernel) (by decide +kernel) pn_45
    have hg_71 : GX S_25 := hk_28.1
    have rg_72 := And.intro (z_lo rr_24) (z_hi rr_24)
    refine lv_pop X.1 X.2.1 dL_law_1315 rfl ?_
    refine lv_aload_n X.1 X.2.1 dL_law_1316 rfl (lv_at hl 2 rfl) ?_
    refine lv_aload_n X.1 X.2.1 dL_law_1317 rfl (lv_at hl 4 rfl) ?_
    refine lv_iload X.1 X.2.1 dL_law_1318 (lv_at hl 0 rfl) ?_
    refine lv_iconst (v := 1) X.1 X.2.1 dL_law_1320 (by decide) ?_
    refine lv_iadd X.1 X.2.1 dL_law_1321 ?_
    refine lv_topi (fun v_73 ev_73 => ?_)
    have z_74 : v_73.toInt = i_z + 1 := z_add ev_73 hz_i ti_1 (by omega) (by omega)
    refine va_sld X.1 X.2.1 hX hbl hbA hw.2.2 (z_ix rfl (by omega) (by omega)) dL_law_1322 ?_
    refine lv_topi (fun v_75 ev_75 => ?_)
    have es_76 : v_3 = v_75 := by rw [ev_3, ev_75, ev_1, ev_73]
    subst es_76
    refine lv_aload_n X.1 X.2.1 dL_law_1323 rfl (lv_at hl 4 rfl) ?_
    refine lv_iload X.1 X.2.1 dL_law_1324 (lv_at hl 0 rfl) ?_
    refine lv_iconst (v := 2) X.1 X.2.1 dL_law_1326 (by decide) ?_
    refine lv_iadd X.1 X.2.1 dL_law_1327 ?_
    refine lv_topi (fun v_77 ev_77 => ?_)
    have z_78 : v_77.toInt = i_z + 2 := z_add ev_77 hz_i ti_2 (by omega) (by omega)
    refine va_sld X.1 X.2.1 hX hbl hbA hw.2.2 (z_ix rfl (by omega) (by omega)) dL_law_1328 ?_
    refine lv_topi (fun v_79 ev_79 => ?_)
    have es_80 : v_7 = v_79 := by rw [ev_7, ev_79, ev_5, ev_77]
    subst es_80
    refine lv_aload_n X.1 X.2.1 dL_law_1329 rfl (lv_at hl 4 rfl) ?_
    refine lv_iload X.1 X.2.1 dL_law_1330 (lv_at hl 0 rfl) ?_
    refine lv_iconst (v := 3) X.1 X.2.1 dL_law_1332 (by decide) ?_
    refine lv_iadd X.1 X.2.1 dL_law_1333 ?_
    refine lv_topi (fun v_81 ev_81 => ?_)
    have z_82 : v_81.toInt = i_z + 3 := z_add ev_81 hz_i ti_3 (by omega) (by omega)
    refine va_sld X.1 X.2.1 hX hbl hbA hw.2.2 (z_ix rfl (by omega) (by omega)) dL_law_1334 ?_
    refine lv_topi (fun v_83 ev_83 => ?_)
    have es_84 : v_11 = v_83 := by rw [ev_11, ev_83, ev_9, ev_81]
    subst es_84
    refine lv_aload_n X.1 X.2.1 dL_law_1335 rfl (lv_at hl 4 rfl) ?_
    refine lv_iload X.1 X.2.1 dL_law_1336 (lv_at hl 0 rfl) ?_
    refine lv_iconst (v := 4) X.1 X.2.1 dL_law_1338 (by decide) ?_
    refine lv_iadd X.1 X.2.1 dL_law_1339 ?_
    refine lv_topi (fun v_85 ev_85 => ?_)
    have z_86 : v_85.toInt = i_z + 4 := z_add ev_85 hz_i ti_4 (by omega) (by omega)
    refine va_sld X.1 X.2.1 hX hbl hbA hw.2.2 (z_ix rfl (by omega) (by omega)) dL_law_1340 ?_
    refine lv_topi (fun v_87 ev_87 => ?_)
    have es_88 : v_15 = v_87 := by rw [ev_15, ev_87, ev_13, ev_85]
    subst es_88
    refine lv_if_eq (tgt := 1348) X.1 X.2.1 dL_law_1341 (by decide) (fun c_89 => ?_) (fun c_89 => ?_)
    · have z_b_90 := trivial
      have k_91 : v_15.toInt = 0 := z_eq rfl ti_0 c_89
      refine lv_iconst (v := 0) X.1 X.2.1 dL_law_1348 (by decide) ?_
      refine k_i (rm := { frames := 8, cells := 0, slots := 0, locals := 384 }) (av := [.ref mo, .int (v_3), .int (v_7), .int (v_11), .int 0]) X hw (va_runV (As := [.int (v_3), .int (v_7), .int (v_11), .int 0]) (rest := []) (cfix X) (k_X12_mix8 l G cy κ S_25 _ mo (v_3) (v_3.toInt) (v_7) (v_7.toInt) (v_11) (v_11.toInt) (0) (0) (sk_22.map (skN nu_20)) hg_71 am_32 rfl rfl rfl ti_0 mi_29 (SkW_fr hG ham hk_28.fr (by decide +kernel) hwt_23.2.2.1.2.1) (ne_of hwt_23 hwt_23.2.2.1.2.2.2.1).2 (ofR_b hG hax ham hk_28.fr ct_46 th_47 hMI hwt_23 hwt_23.2.2.1.2.2.1 hwt_23.2.2.1.2.2.2.1)) (cwV 4 X.2.2.2.1 gk_X12_mix rfl rfl rfl (by decide +kernel) ⟨Nat.le_of_ble_eq_true rfl, Nat.le_of_ble_eq_true rfl⟩) (pre_V X hw _ am_32 rfl (by decide) rfl) rfl rfl hl.1 rfl (lv_room (Nat.le_of_ble_eq_true rfl)) dL_law_1349 ⟨(by show cc + 0 ≤ 601024; omega), (by show nn + 0 ≤ 7293034; omega)⟩) cc nn (by show cc + 0 ≤ cc; omega) (by show nn + 0 ≤ nn; omega) (fun rr_92 S_93 H locs hp hw hfr hnw => ?_)
      have la_94 := LA_keep la_26 oq_27 hfr
      have oq_95 := oq_keep la_26 oq_27 hnw
      obtain ⟨hk_96, hp⟩ := hp
      have ax_99 : At S_93 x 11 := hk_96.fr.at ax_31
      have am_100 : At S_93 mo 12 := hk_96.fr.at am_32
      have mi_97 : MI S_93 mo := MIe_free hg_71 am_32 hk_96.fr (by decide +kernel) mi_29
      have gr_98 : GR S_93 mo := GR_free hg_71 am_32 hk_96.fr (by decide +kernel) gr_30
      have ph_101 : Phc S_93 = Phc S_25 := Ph_ok hg_71 hk_96 (by decide +kernel) (by decide +kernel) (by decide +kernel)
      have ph_102 : Phs S_93 = Phs S_25 := Ph_ok hg_71 hk_96 (by decide +kernel) (by decide +kernel) (by decide +kernel)
      have th_103 : pR S_93 1107 x = some q_35 := hk_96.fr.R' (by decide +kernel) ax_31 th_50
      have th_104 : At S_93 q_35 8 := hk_96.fr.at th_51
      have th_107 : pR S_93 1105 x = some u_41 := hk_96.fr.R' (by decide +kernel) ax_31 th_54
      have th_108 : At S_93 u_41 10 := hk_96.fr.at th_55
      have th_105 : pI S_93 801 q_35 = pI S_25 801 q_35 := hk_96.fr.I' (by decide +kernel) th_51 rfl
      have th_106 : pI S_93 1245 mo = pI S_25 1245 mo := hk_96.fr.I' (by decide +kernel) am_32 rfl
      have tf_112 : (pI S_93 1102 x).toInt = (pI S_25 1102 x).toInt := congrArg Int32.toInt (hk_96.fr.I' (by decide +kernel) ax_31 rfl)
      have tf_113 : (pI S_93 1104 x).toInt = (pI S_25 1104 x).toInt := congrArg Int32.toInt (hk_96.fr.I' (by decide +kernel) ax_31 rfl)
      have tf_114 : (pI S_93 1201 mo).toInt = (pI S_25 1201 mo).toInt := congrArg Int32.toInt (hk_96.fr.I' (by decide +kernel) am_32 rfl)
      have tf_115 : (pI S_93 1211 mo).toInt = (pI S_25 1211 mo).toInt := congrArg Int32.toInt (hk_96.fr.I' (by decide +kernel) am_32 rfl)
      have tf_116 : (pI S_93 1000 u_41).toInt = (pI S_25 1000 u_41).toInt := congrArg Int32.toInt (hk_96.fr.I' (by decide +kernel) th_55 rfl)
      have tf_117 : (pI S_93 1000 u_41).toInt = (pI S_25 1000 u_41).toInt := congrArg Int32.toInt (hk_96.fr.I' (by decide +kernel) th_55 rfl)
      have tf_118 : (pI S_93 1000 u_41).toInt = (pI S_25 1000 u_41).toInt := congrArg Int32.toInt (hk_96.fr.I' (by decide +kernel) th_55 rfl)
      have tf_119 : (pI S_93 1228 mo).toInt = (pI S_25 1228 mo).toInt := congrArg Int32.toInt (hk_96.fr.I' (by decide +kernel) am_32 rfl)
      have tf_120 : (pI S_93 1228 mo).toInt = (pI S_25 1228 mo).toInt := congrArg Int32.toInt (hk_96.fr.I' (by decide +kernel) am_32 rfl)
      have th_122 : mA S_93 mo 1210 = thinF := TH_fr hg_71 hk_96.fr am_32 (by decide +kernel) th_69
      have ct_121 : CT S_93 x mo := CT_eq hg_71 hk_96.fr ax_31 (by decide +kernel) (by decide +kernel) (S12_fr hg_71 hk_96.fr am_32 (by decide +kernel)) ct_68
      have th_111 : PN S_93 x := PN_fr hg_71 ax_31 hk_96.fr (by decide +kernel) (by decide +kernel) (by decide +kernel) th_58
      have tz_124 := TX_mix hG hg_71 hax ham hk_28.fr hk_96.fr ct_46 th_47 hMI hwt_23 (unhid hq_49).2.2.1 (unhid hq_49).2.2.2 hp.2.2.1 hp.2.2.2 tx_48
      have td_123 : TD S_93 x mo := ⟨⟨q_35, th_103, th_104, by rw [th_105, th_52, th_106, th_53, td_38]⟩, by omega, by omega, ⟨u_41, th_107, th_108, by omega⟩, th_111, ct_121, th_122, tz_124.1⟩
      have rq_125 : rr_24.toInt = rr_92.toInt := tz_124.2
      have hg_126 : GX S_93 := hk_96.1
      have rg_127 := And.intro (z_lo rr_92) (z_hi rr_92)
      refine lv_pop X.1 X.2.1 dL_law_1352 rfl ?_
      refine lv_goto (tgt := 1505) X.1 X.2.1 dL_law_1353 (by decide) ?_
      exact K _ _ _ _ cc nn hw hg_126 ax_99 am_100 mi_97 gr_98 td_123 la_94 oq_95 (lv_sub hl [0, 1, 2, 3, 4] rfl) (by omega) (by omega)
    · have z_b_128 := trivial
      have k_129 : v_15.toInt ≠ 0 := z_ne rfl ti_0 c_89
      refine lv_iconst (v := 1) X.1 X.2.1 dL_law_1344 (by decide) ?_
      refine lv_goto (tgt := 1349) X.1 X.2.1 dL_law_1345 (by decide) ?_
      exfalso; omega
  · have z_b_130 := trivial
    have k_131 : v_15.toInt ≠ 0 := z_ne rfl ti_0 c_17
    refine lv_iconst (v := 1) X.1 X.2.1 dL_law_1307 (by decide) ?_
    refine lv_goto (tgt := 1312) X.1 X.2.1 dL_law_1308 (by decide) ?_
    obtain ⟨nu_132, Ks_133, sk_134, hwt_135⟩ := hTD.2.2.2.2.2.2.2.2.2
    refine k_i (rm := { frames := 18, cells := 0, slots := 0, locals := 864 }) (av := [.ref x, .int (v_3), .int (v_7), .int (v_11), .int 1]) X hw (va_runV (As := [.int (v_3), .int (v_7), .int (v_11), .int 1]) (rest := []) (cfix X) (k_X11_mix8 l G cy κ S _ x (v_3) (v_3.toInt) (v_7) (v_7.toInt) (v_11) (v_11.toInt) (1) (1) (DC S x) Ks_133 sk_134 hG hax rfl rfl rfl ti_1 hwt_135.2.1 hwt_135.2.2.1.1 (wd_of hG ham hwt_135)) (cwV 4 X.2.2.2.1 gk_X11_mix rfl rfl rfl (by decide +kernel) ⟨Nat.le_of_ble_eq_true rfl, Nat.le_of_ble_eq_true rfl⟩) (pre_V X hw _ hax rfl (by decide) rfl) rfl rfl hl.1 rfl (lv_room (Nat.le_of_ble_eq_true rfl)) dL_law_1312 ⟨(by show cc + 0 ≤ 601024; omega), (by show nn + 0 ≤ 7293034; omega)⟩) cc nn (by show cc + 0 ≤ cc; omega) (by show nn + 0 ≤ nn; omega) (fun rr_136 S_137 H locs hp hw hfr hnw => ?_)
    have la_138 := LA_keep hLA hoq hfr
    have oq_139 := oq_keep hLA hoq hnw
    obtain ⟨hk_140, hp⟩ := hp
    have ax_143 : At S_137 x 11 := hk_140.fr.at hax
    have am_144 : At S_137 mo 12 := hk_140.fr.at ham
    have mi_141 : MI S_137 mo := MIe_free hG ham hk_140.fr (by decide +kernel) hMI
    have gr_142 : GR S_137 mo := GR_free hG ham hk_140.fr (by decide +kernel) hGR
    have ph_145 : Phc S_137 = Phc S := Ph_ok hG hk_140 (by decide +kernel) (by decide +kernel) (by decide +kernel)
    have ph_146 : Phs S_137 = Phs S := Ph_ok hG hk_140 (by decide +kernel) (by decide +kernel) (by decide +kernel)
    obtain ⟨⟨q_147, td_148, td_149, td_150⟩, td_151, td_152, ⟨u_153, td_154, td_155, td_156⟩, pn_157, ct_158, th_159, tx_160⟩ := hTD
    have hq_161 := mkhid hp
    have th_162 : pR S_137 1107 x = some q_147 := hk_140.fr.R' (by decide +kernel) hax td_148
    have th_163 : At S_137 q_147 8 := hk_140.fr.at td_149
    have th_166 : pR S_137 1105 x = some u_153 := hk_140.fr.R' (by decide +kernel) hax td_154
    have th_167 : At S_137 u_153 10 := hk_140.fr.at td_155
    have th_164 : pI S_137 801 q_147 = pI S 801 q_147 := hk_140.fr.I' (by decide +kernel) td_149 rfl
    have th_165 : pI S_137 1245 mo = pI S 1245 mo := hk_140.fr.I' (by decide +kernel) ham rfl
    have tf_171 : (pI S_137 1102 x).toInt = (pI S 1102 x).toInt := congrArg Int32.toInt (hk_140.fr.I' (by decide +kernel) hax rfl)
    have tf_172 : (pI S_137 1104 x).toInt = (pI S 1104 x).toInt := congrArg Int32.toInt (hk_140.fr.I' (by decide +kernel) hax rfl)
    have tf_173 : (pI S_137 1201 mo).toInt = (pI S 1201 mo).toInt := congrArg Int32.toInt (hk_140.fr.I' (by decide +kernel) ham rfl)
    have tf_174 : (pI S_137 1211 mo).toInt = (pI S 1211 mo).toInt := congrArg Int32.toInt (hk_140.fr.I' (by decide +kernel) ham rfl)
    have tf_175 : (pI S_137 1000 u_153).toInt = (pI S 1000 u_153).toInt := congrArg Int32.toInt (hk_140.fr.I' (by decide +kernel) td_155 rfl)
    have tf_176 : (pI S_137 1000 u_153).toInt = (pI S 1000 u_153).toInt := congrArg Int32.toInt (hk_140.fr.I' (by decide +kernel) td_155 rfl)
    have tf_177 : (pI S_137 1000 u_153).toInt = (pI S 1000 u_153).toInt := congrArg Int32.toInt (hk_140.fr.I' (by decide +kernel) td_155 rfl)
    have tf_178 : (pI S_137 1228 mo).toInt = (pI S 1228 mo).toInt := congrArg Int32.toInt (hk_140.fr.I' (by decide +kernel) ham rfl)
    have tf_179 : (pI S_137 1228 mo).toInt = (pI S 1228 mo).toInt := congrArg Int32.toInt (hk_140.fr.I' (by decide +kernel) ham rfl)
    have th_181 : mA S_137 mo 1210 = thinF := TH_fr hG hk_140.fr ham (by decide +kernel) th_159
    have ct_180 : CT S_137 x mo := CT_eq hG hk_140.fr hax (by decide +kernel) (by decide +kernel) (S12_fr hG hk_140.fr ham (by decide +kernel)) ct_158
    have th_170 : PN S_137 x := PN_fr hG hax hk_140.fr (by decide +kernel) (by decide +kernel) (by decide +kernel) pn_157
    have hg_183 : GX S_137 := hk_140.1
    have rg_184 := And.intro (z_lo rr_136) (z_hi rr_136)
    refine lv_pop X.1 X.2.1 dL_law_1315 rfl ?_
    refine lv_aload_n X.1 X.2.1 dL_law_1316 rfl (lv_at hl 2 rfl) ?_
    refine lv_aload_n X.1 X.2.1 dL_law_1317 rfl (lv_at hl 4 rfl) ?_
    refine lv_iload X.1 X.2.1 dL_law_1318 (lv_at hl 0 rfl) ?_
    refine lv_iconst (v := 1) X.1 X.2.1 dL_law_1320 (by decide) ?_
    refine lv_iadd X.1 X.2.1 dL_law_1321 ?_
    refine lv_topi (fun v_185 ev_185 => ?_)
    have z_186 : v_185.toInt = i_z + 1 := z_add ev_185 hz_i ti_1 (by omega) (by omega)
    refine va_sld X.1 X.2.1 hX hbl hbA hw.2.2 (z_ix rfl (by omega) (by omega)) dL_law_1322 ?_
    refine lv_topi (fun v_187 ev_187 => ?_)
    have es_188 : v_3 = v_187 := by rw [ev_3, ev_187, ev_1, ev_185]
    subst es_188
    refine lv_aload_n X.1 X.2.1 dL_law_1323 rfl (lv_at hl 4 rfl) ?_
    refine lv_iload X.1 X.2.1 dL_law_1324 (lv_at hl 0 rfl) ?_
    refine lv_iconst (v := 2) X.1 X.2.1 dL_law_1326 (by decide) ?_
    refine lv_iadd X.1 X.2.1 dL_law_1327 ?_
    refine lv_topi (fun v_189 ev_189 => ?_)
    have z_190 : v_189.toInt = i_z + 2 := z_add ev_189 hz_i ti_2 (by omega) (by omega)
    refine va_sld X.1 X.2.1 hX hbl hbA hw.2.2 (z_ix rfl (by omega) (by omega)) dL_law_1328 ?_
    refine lv_topi (fun v_191 ev_191 => ?_)
    have es_192 : v_7 = v_191 := by rw [ev_7, ev_191, ev_5, ev_189]
    subst es_192
    refine lv_aload_n X.1 X.2.1 dL_law_1329 rfl (lv_at hl 4 rfl) ?_
    refine lv_iload X.1 X.2.1 dL_law_1330 (lv_at hl 0 rfl) ?_
    refine lv_iconst (v := 3) X.1 X.2.1 dL_law_1332 (by decide) ?_
    refine lv_iadd X.1 X.2.1 dL_law_1333 ?_
    refine lv_topi (fun v_193 ev_193 => ?_)
    have z_194 : v_193.toInt = i_z + 3 := z_add ev_193 hz_i ti_3 (by omega) (by omega)
    refine va_sld X.1 X.2.1 hX hbl hbA hw.2.2 (z_ix rfl (by omega) (by omega)) dL_law_1334 ?_
    refine lv_topi (fun v_195 ev_195 => ?_)
    have es_196 : v_11 = v_195 := by rw [ev_11, ev_195, ev_9, ev_193]
    subst es_196
    refine lv_aload_n X.1 X.2.1 dL_law_1335 rfl (lv_at hl 4 rfl) ?_
    refine lv_iload X.1 X.2.1 dL_law_1336 (lv_at hl 0 rfl) ?_
    refine lv_iconst (v := 4) X.1 X.2.1 dL_law_1338 (by decide) ?_
    refine lv_iadd X.1 X.2.1 dL_law_1339 ?_
    refine lv_topi (fun v_197 ev_197 => ?_)
    have z_198 : v_197.toInt = i_z + 4 := z_add ev_197 hz_i ti_4 (by omega) (by omega)
    refine va_sld X.1 X.2.1 hX hbl hbA hw.2.2 (z_ix rfl (by omega) (by omega)) dL_law_1340 ?_
    refine lv_topi (fun v_199 ev_199 => ?_)
    have es_200 : v_15 = v_199 := by rw [ev_15, ev_199, ev_13, ev_197]
    subst es_200
    refine lv_if_eq (tgt := 1348) X.1 X.2.1 dL_law_1341 (by decide) (fun c_201 => ?_) (fun c_201 => ?_)
    · have z_b_202 := trivial
      have k_203 : v_15.toInt = 0 := z_eq rfl ti_0 c_201
      refine lv_iconst (v := 0) X.1 X.2.1 dL_law_1348 (by decide) ?_
      exfalso; omega
    · have z_b_204 := trivial
      have k_205 : v_15.toInt ≠ 0 := z_ne rfl ti_0 c_201
      refine lv_iconst (v := 1) X.1 X.2.1 dL_law_1344 (by decide) ?_
      refine lv_goto (tgt := 1349) X.1 X.2.1 dL_law_1345 (by decide) ?_
      refine k_i (rm := { frames := 8, cells := 0, slots := 0, locals := 384 }) (av := [.ref mo, .int (v_3), .int (v_7), .int (v_11), .int 1]) X hw (va_runV (As := [.int (v_3), .int (v_7), .int (v_11), .int 1]) (rest := []) (cfix X) (k_X12_mix8 l G cy κ S_137 _ mo (v_3) (v_3.toInt) (v_7) (v_7.toInt) (v_11) (v_11.toInt) (1) (1) (sk_134.map (skN nu_132)) hg_183 am_144 rfl rfl rfl ti_1 mi_141 (SkW_fr hG ham hk_140.fr (by decide +kernel) hwt_135.2.2.1.2.1) (ne_of hwt_135 hwt_135.2.2.1.2.2.2.1).2 (ofR_b hG hax ham hk_140.fr ct_158 th_159 hMI hwt_135 hwt_135.2.2.1.2.2.1 hwt_135.2.2.1.2.2.2.1)) (cwV 4 X.2.2.2.1 gk_X12_mix rfl rfl rfl (by decide +kernel) ⟨Nat.le_of_ble_eq_true rfl, Nat.le_of_ble_eq_true rfl⟩) (pre_V X hw _ am_144 rfl (by decide) rfl) rfl rfl hl.1 rfl (lv_room (Nat.le_of_ble_eq_true rfl)) dL_law_1349 ⟨(by show cc + 0 ≤ 601024; omega), (by show nn + 0 ≤ 7293034; omega)⟩) cc nn (by show cc + 0 ≤ cc; omega) (by show nn + 0 ≤ nn; omega) (fun rr_206 S_207 H locs hp hw hfr hnw => ?_)
      have la_208 := LA_keep la_138 oq_139 hfr
      have oq_209 := oq_keep la_138 oq_139 hnw
      obtain ⟨hk_210, hp⟩ := hp
      have ax_213 : At S_207 x 11 := hk_210.fr.at ax_143
      have am_214 : At S_207 mo 12 := hk_210.fr.at am_144
      have mi_211 : MI S_207 mo := MIe_free hg_183 am_144 hk_210.fr (by decide +kernel) mi_141
      have gr_212 : GR S_207 mo := GR_free hg_183 am_144 hk_210.fr (by decide +kernel) gr_142
      have ph_215 : Phc S_207 = Phc S_137 := Ph_ok hg_183 hk_210 (by decide +kernel) (by decide +kernel) (by decide +kernel)
      have ph_216 : Phs S_207 = Phs S_137 := Ph_ok hg_183 hk_210 (by decide +kernel) (by decide +kernel) (by decide +kernel)
      have th_217 : pR S_207 1107 x = some q_147 := hk_210.fr.R' (by decide +kernel) ax_143 th_162
      have th_218 : At S_207 q_147 8 := hk_210.fr.at th_163
      have th_221 : pR S_207 1105 x = some u_153 := hk_210.fr.R' (by decide +kernel) ax_143 th_166
      have th_222 : At S_207 u_153 10 := hk_210.fr.at th_167
      have th_219 : pI S_207 801 q_147 = pI S_137 801 q_147 := hk_210.fr.I' (by decide +kernel) th_163 rfl
      have th_220 : pI S_207 1245 mo = pI S_137 1245 mo := hk_210.fr.I' (by decide +kernel) am_144 rfl
      have tf_226 : (pI S_207 1102 x).toInt = (pI S_137 1102 x).toInt := congrArg Int32.toInt (hk_210.fr.I' (by decide +kernel) ax_143 rfl)
      have tf_227 : (pI S_207 1104 x).toInt = (pI S_137 1104 x).toInt := congrArg Int32.toInt (hk_210.fr.I' (by decide +kernel) ax_143 rfl)
      have tf_228 : (pI S_207 1201 mo).toInt = (pI S_137 1201 mo).toInt := congrArg Int32.toInt (hk_210.fr.I' (by decide +kernel) am_144 rfl)
      have tf_229 : (pI S_207 1211 mo).toInt = (pI S_137 1211 mo).toInt := congrArg Int32.toInt (hk_210.fr.I' (by decide +kernel) am_144 rfl)
      have tf_230 : (pI S_207 1000 u_153).toInt = (pI S_137 1000 u_153).toInt := congrArg Int32.toInt (hk_210.fr.I' (by decide +kernel) th_167 rfl)
      have tf_231 : (pI S_207 1000 u_153).toInt = (pI S_137 1000 u_153).toInt := congrArg Int32.toInt (hk_210.fr.I' (by decide +kernel) th_167 rfl)
      have tf_232 : (pI S_207 1000 u_153).toInt = (pI S_137 1000 u_153).toInt := congrArg Int32.toInt (hk_210.fr.I' (by decide +kernel) th_167 rfl)
      have tf_233 : (pI S_207 1228 mo).toInt = (pI S_137 1228 mo).toInt := congrArg Int32.toInt (hk_210.fr.I' (by decide +kernel) am_144 rfl)
      have tf_234 : (pI S_207 1228 mo).toInt = (pI S_137 1228 mo).toInt := congrArg Int32.toInt (hk_210.fr.I' (by decide +kernel) am_144 rfl)
      have th_236 : mA S_207 mo 1210 = thinF := TH_fr hg_183 hk_210.fr am_144 (by decide +kernel) th_181
      have ct_235 : CT S_207 x mo := CT_eq hg_183 hk_210.fr ax_143 (by decide +kernel) (by decide +kernel) (S12_fr hg_183 hk_210.fr am_144 (by decide +kernel)) ct_180
      have th_225 : PN S_207 x := PN_fr hg_183 ax_143 hk_210.fr (by decide +kernel) (by decide +kernel) (by decide +kernel) th_170
      have tz_238 := TX_mix hG hg_183 hax ham hk_140.fr hk_210.fr ct_158 th_159 hMI hwt_135 (unhid hq_161).2.2.1 (unhid hq_161).2.2.2 hp.2.2.1 hp.2.2.2 tx_160
      have td_237 : TD S_207 x mo := ⟨⟨q_147, th_217, th_218, by rw [th_219, th_164, th_220, th_165, td_150]⟩, by omega, by omega, ⟨u_153, th_221, th_222, by omega⟩, th_225, ct_235, th_236, tz_238.1⟩
      have rq_239 : rr_136.toInt = rr_206.toInt := tz_238.2
      have hg_240 : GX S_207 := hk_210.1
      have rg_241 := And.intro (z_lo rr_206) (z_hi rr_206)
      refine lv_pop X.1 X.2.1 dL_law_1352 rfl ?_
      refine lv_goto (tgt := 1505) X.1 X.2.1 dL_law_1353 (by decide) ?_
      exact K _ _ _ _ cc nn hw hg_240 ax_213 am_214 mi_211 gr_212 td_237 la_208 oq_209 (lv_sub hl [0, 1, 2, 3, 4] rfl) (by omega) (by omega)
set_option maxHeartbeats 4000000 in
set_option maxRecDepth 100000 in
theorem lc_26 {p : Program} {l : Launch} {e : Env} {s : State} {m : MethodId} {below : List Frame} {meth : Method} {c : Code} (hst : l.stackTraces = false) {b x mo oq L : Nat} {xs : Nat → Int32} {cL : ClassId} {G : va_G} {cy : Nat → ClassId} {κ : Nat → Nat} {S : PS} {H : Heap} {locs : List Loc} {ls : Array Slot} {cc nn : Nat} {Q : State → Prop} {i : Int32} {i_z : Int} (X : Cx p c cL_law 7 s #[Value.ref b] lw_tbl RL m G cy κ (fun q : Nat => s.heap.size ≤ q)) (hX : va_X b L xs s s.heap) (hbl : b < s.heap.size) (hbA : ¬ (fun q : Nat => s.heap.size ≤ q) b) (hdc : ∀ Y ∈ DcL, va_Nw (.declares (Bundle.initS Y)) s) (hkl : Kl cL s) (hAo : (fun q : Nat => s.heap.size ≤ q) oq) (hL : L ≤ 3072) (hz_i : i.toInt = i_z) (hi0 : 0 ≤ i_z) (hi1 : i_z + 6 ≤ (L : Int)) (hw : Wd G cy (fun q : Nat => s.heap.size ≤ q) s.heap S H locs) (hG : GX S) (hax : At S x 11) (ham : At S mo 12) (hMI : MI S mo) (hGR : GR S mo) (hTD : TD S x mo) (hLA : LA cL oq H) (hoq : oq ∉ pL S) (hl : lv_has ls 7 [(4, .int i), (3, .ref oq), (2, .ref mo), (1, .ref x), (0, .ref b)]) (hcc : cc + Phc S + 20000 ≤ 601024) (hnn : nn + Phs S + 100000 ≤ 7293034) (K : ∀ (S9 : PS) (H9 : Heap) (locs9 : List Loc) (ls9 : Array Slot) (c9 n9 : Nat), Wd G cy (fun q : Nat => s.heap.size ≤ q) s.heap S9 H9 locs9 → GX S9 → At S9 x 11 → At S9 mo 12 → MI S9 mo → GR S9 mo → TD S9 x mo → LA cL oq H9 → oq ∉ pL S9 → lv_has ls9 7 [(4, .int i), (3, .ref oq), (2, .ref mo), (1, .ref x), (0, .ref b)] → c9 + Phc S9 ≤ cc + Phc S + 102 → n9 + Phs S9 ≤ nn + Phs S + 1020 → W p l e room_1 s m #[Value.ref b] below meth c H9 locs9 c9 n9 Q (F0 m 1505 ls9 [])) : W p l e room_1 s m #[Value.ref b] below meth c H locs cc nn Q (F0 m 1356 ls []) := by
  refine lv_aload_n X.1 X.2.1 dL_law_1356 rfl (lv_at hl 3 rfl) ?_
  refine lv_aload_n X.1 X.2.1 dL_law_1357 rfl (lv_at hl 4 rfl) ?_
  refine lv_iload X.1 X.2.1 dL_law_1358 (lv_at hl 0 rfl) ?_
  refine lv_iconst (v := 1) X.1 X.2.1 dL_law_1360 (by decide) ?_
  refine lv_iadd X.1 X.2.1 dL_law_1361 ?_
  refine lv_topi (fun v_1 ev_1 => ?_)
  have z_2 : v_1.toInt = i_z + 1 := z_add ev_1 hz_i ti_1 (by omega) (by omega)
  refine va_sld X.1 X.2.1 hX hbl hbA hw.2.2 (z_ix rfl (by omega) (by omega)) dL_law_1362 ?_
  refine lv_topi (fun v_3 ev_3 => ?_)
  have rg_4 := And.intro (z_lo v_3) (z_hi v_3)
  obtain ⟨nu_5, Ks_6, sk_7, hwt_8⟩ := hTD.2.2.2.2.2.2.2.2.2
  refine k_i (rm := { frames := 2, cells := 0, slots := 0, locals := 96 }) (av := [.ref x, .int (v_3)]) X hw (va_runV (As := [.int (v_3)]) (rest := []) (cfix X) (k_X11_mixed8 l G cy κ S _ x (v_3) (v_3.toInt) (DC S x) Ks_6 sk_7 hG hax rfl hwt_8.2.1 hwt_8.2.2.1.1) (cwV 1 X.2.2.2.1 gk_X11_mixed rfl rfl rfl (by decide +kernel) ⟨Nat.le_of_ble_eq_true rfl, Nat.le_of_ble_eq_true rfl⟩) (pre_V X hw _ hax rfl (by decide) rfl) rfl rfl hl.1 rfl (lv_room (Nat.le_of_ble_eq_true rfl)) dL_law_1363 ⟨(by show cc + 0 ≤ 601024; omega), (by show nn + 0 ≤ 7293034; omega)⟩) cc nn (by show cc + 0 ≤ cc; omega) (by show nn + 0 ≤ nn; omega) (fun rr_9 S_10 H locs hp hw hfr hnw => ?_)
  have la_11 := LA_keep hLA hoq hfr
  have oq_12 := oq_keep hLA hoq hnw
  obtain ⟨e2, hp⟩ := hp
  subst e2
  have md_13 := mkhid hp
  have rg_14 := And.intro (z_lo rr_9) (z_hi rr_9)
  refine lv_aload_n X.1 X.2.1 dL_law_1366 rfl (lv_at hl 2 rfl) ?_
  refine lv_aload_n X.1 X.2.1 dL_law_1367 rfl (lv_at hl 4 rfl) ?_
  refine lv_iload X.1 X.2.1 dL_law_1368 (lv_at hl 0 rfl) ?_
  refine lv_iconst (v := 1) X.1 X.2.1 dL_law_1370 (by decide) ?_
  refine lv_iadd X.1 X.2.1 dL_law_1371 ?_
  refine lv_topi (fun v_15 ev_15 => ?_)
  have z_16 : v_15.toInt = i_z + 1 := z_add ev_15 hz_i ti_1 (by omega) (by omega)
  refine va_sld X.1 X.2.1 hX hbl hbA hw.2.2 (z_ix rfl (by omega) (by omega)) dL_law_1372 ?_
  refine lv_topi (fun v_17 ev_17 => ?_)
  have es_18 : v_3 = v_17 := by rw [ev_3, ev_17, ev_1, ev_15]
  subst es_18
  refine k_i (rm := { frames := 3, cells := 0, slots := 0, locals := 144 }) (av := [.ref mo, .int (v_3)]) X hw (va_runV (As := [.int (v_3)]) (rest := [.int (rr_9)]) (cfix X) (k_X12_mixed8 l G cy κ S _ mo (v_3) (v_3.toInt) hG ham rfl) (cwV 1 X.2.2.2.1 gk_X12_mixed rfl rfl rfl (by decide +kernel) ⟨Nat.le_of_ble_eq_true rfl, Nat.le_of_ble_eq_true rfl⟩) (pre_V X hw _ ham rfl (by decide) rfl) rfl rfl hl.1 rfl (lv_room (Nat.le_of_ble_eq_true rfl)) dL_law_1373 ⟨(by show cc + 0 ≤ 601024; omega), (by show nn + 0 ≤ 7293034; omega)⟩) cc nn (by show cc + 0 ≤ cc; omega) (by show nn + 0 ≤ nn; omega) (fun rr_19 S_20 H locs hp hw hfr hnw => ?_)
  have la_21 := LA_keep la_11 oq_12 hfr
  have oq_22 := oq_keep la_11 oq_12 hnw
  obtain ⟨hk_23, hp⟩ := hp
  have rq_24 : rr_9.toInt = rr_19.toInt := congrArg Int32.toInt (rq_mixed hwt_8 hwt_8.2.2.1.2.2.2.1 (unhid md_13) hp)
  have ax_27 : At S_20 x 11 := hk_23.fr.at hax
  have am_28 : At S_20 mo 12 := hk_23.fr.at ham
  have mi_25 : MI S_20 mo := MIe_free hG ham hk_23.fr (by decide +kernel) hMI
  have gr_26 : GR S_20 mo := GR_free hG ham hk_23.fr (by decide +kernel) hGR
  have ph_29 : Phc S_20 = Phc S := Ph_ok hG hk_23 (by decide +kernel) (by decide +kernel) (by decide +kernel)
  have ph_30 : Phs S_20 = Phs S := Ph_ok hG hk_23 (by decide +kernel) (by decide +kernel) (by decide +kernel)
  have td_31 : TD S_20 x mo := TD_fr hG hk_23.fr hax ham (by decide +kernel) (by decide +kernel) (by decide +kernel) (by decide +kernel) (by decide +kernel) (by decide +kernel) hTD
  have hg_32 : GX S_20 := hk_23.1
  have rg_33 := And.intro (z_lo rr_19) (z_hi rr_19)
  refine lv_icmp_eq (tgt := 1505) X.1 X.2.1 dL_law_1376 (by decide) (fun c_34 => ?_) (fun c_34 => ?_)
  · have z_b_35 := trivial
    have k_36 : rr_9.toInt = rr_19.toInt := z_eq rfl rfl c_34
    exact K _ _ _ _ cc nn hw hg_32 ax_27 am_28 mi_25 gr_26 td_31 la_21 oq_22 (lv_sub hl [0, 1, 2, 3, 4] rfl) (by omega) (by omega)
  · have z_b_37 := trivial
    have k_38 : rr_9.toInt ≠ rr_19.toInt := z_ne rfl rfl c_34
    exfalso; omega
set_option maxHeartbeats 4000000 in
set_option maxRecDepth 100000 in
theorem lc_27 {p : Program} {l : Launch} {e : Env} {s : State} {m : MethodId} {below : List Frame} {meth : Method} {c : Code} (hst : l.stackTraces = false) {b x mo oq L : Nat} {xs : Nat → Int32} {cL : ClassId} {G : va_G} {cy : Nat → ClassId} {κ : Nat → Nat} {S : PS} {H : Heap} {locs : List Loc} {ls : Array Slot} {cc nn : Nat} {Q : State → Prop} {i : Int32} {i_z : Int} (X : Cx p c cL_law 7 s #[Value.ref b] lw_tbl RL m G cy κ (fun q : Nat => s.heap.size ≤ q)) (hX : va_X b L xs s s.heap) (hbl : b < s.heap.size) (hbA : ¬ (fun q : Nat => s.heap.size ≤ q) b) (hdc : ∀ Y ∈ DcL, va_Nw (.declares (Bundle.initS Y)) s) (hkl : Kl cL s) (hAo : (fun q : Nat => s.heap.size ≤ q) oq) (hL : L ≤ 3072) (hz_i : i.toInt = i_z) (hi0 : 0 ≤ i_z) (hi1 : i_z + 6 ≤ (L : Int)) (hw : Wd G cy (fun q : Nat => s.heap.size ≤ q) s.heap S H locs) (hG : GX S) (hax : At S x 11) (ham : At S mo 12) (hMI : MI S mo) (hGR : GR S mo) (hTD : TD S x mo) (hLA : LA cL oq H) (hoq : oq ∉ pL S) (hl : lv_has ls 7 [(4, .int i), (3, .ref oq), (2, .ref mo), (1, .ref x), (0, .ref b)]) (hcc : cc + Phc S + 20000 ≤ 601024) (hnn : nn + Phs S + 100000 ≤ 7293034) (K : ∀ (S9 : PS) (H9 : Heap) (locs9 : List Loc) (ls9 : Array Slot) (c9 n9 : Nat), Wd G cy (fun q : Nat => s.heap.size ≤ q) s.heap S9 H9 locs9 → GX S9 → At S9 x 11 → At S9 mo 12 → MI S9 mo → GR S9 mo → TD S9 x mo → LA cL oq H9 → oq ∉ pL S9 → lv_has ls9 7 [(4, .int i), (3, .ref oq), (2, .ref mo), (1, .ref x), (0, .ref b)] → c9 + Phc S9 ≤ cc + Phc S + 102 → n9 + Phs S9 ≤ nn + Phs S + 1020 → W p l e room_1 s m #[Value.ref b] below meth c H9 locs9 c9 n9 Q (F0 m 1505 ls9 [])) : W p l e room_1 s m #[Value.ref b] below meth c H locs cc nn Q (F0 m 1381 ls []) := by
  refine lv_aload_n X.1 X.2.1 dL_law_1381 rfl (lv_at hl 3 rfl) ?_
  refine k_i (rm := { frames := 1, cells := 0, slots := 0, locals := 48 }) (av := [.ref x]) X hw (va_runV (As := []) (rest := []) (cfix X) (k_X11_day l G cy κ S _ x hG hax) (cwV 0 X.2.2.2.1 gk_X11_day rfl rfl rfl (by decide +kernel) ⟨Nat.le_of_ble_eq_true rfl, Nat.le_of_ble_eq_true rfl⟩) (pre_V X hw _ hax rfl (by decide) rfl) rfl rfl hl.1 rfl (lv_room (Nat.le_of_ble_eq_true rfl)) dL_law_1382 ⟨(by show cc + 0 ≤ 601024; omega), (by show nn + 0 ≤ 7293034; omega)⟩) cc nn (by show cc + 0 ≤ cc; omega) (by show nn + 0 ≤ nn; omega) (fun rr_1 S_2 H locs hp hw hfr hnw => ?_)
  have la_3 := LA_keep hLA hoq hfr
  have oq_4 := oq_keep hLA hoq hnw
  obtain ⟨hk_5, hp⟩ := hp
  have ax_8 : At S_2 x 11 := hk_5.fr.at hax
  have am_9 : At S_2 mo 12 := hk_5.fr.at ham
  have mi_6 : MI S_2 mo := MIe_free hG ham hk_5.fr (by decide +kernel) hMI
  have gr_7 : GR S_2 mo := GR_free hG ham hk_5.fr (by decide +kernel) hGR
  have ph_10 : Phc S_2 = Phc S := Ph_ok hG hk_5 (by decide +kernel) (by decide +kernel) (by decide +kernel)
  have ph_11 : Phs S_2 = Phs S := Ph_ok hG hk_5 (by decide +kernel) (by decide +kernel) (by decide +kernel)
  obtain ⟨⟨q_12, td_13, td_14, td_15⟩, td_16, td_17, ⟨u_18, td_19, td_20, td_21⟩, pn_22, ct_23, th_24, tx_25⟩ := hTD
  have hq_26 := mkhid hp
  have th_27 : pR S_2 1107 x = some q_12 := hk_5.fr.R' (by decide +kernel) hax td_13
  have th_28 : At S_2 q_12 8 := hk_5.fr.at td_14
  have th_31 : pR S_2 1105 x = some u_18 := hk_5.fr.R' (by decide +kernel) hax td_19
  have th_32 : At S_2 u_18 10 := hk_5.fr.at td_20
  have th_29 := (hp.2.2 _ td_13).2.1
  have th_30 : pI S_2 1245 mo = pI S 1245 mo := hk_5.fr.I' (by decide +kernel) ham rfl
  have tf_36 : (pI S_2 1102 x).toInt = (pI S 1102 x).toInt := congrArg Int32.toInt (hk_5.fr.I' (by decide +kernel) hax rfl)
  have tf_37 : (pI S_2 1104 x).toInt = (pI S 1104 x).toInt := congrArg Int32.toInt (hk_5.fr.I' (by decide +kernel) hax rfl)
  have tf_38 : (pI S_2 1201 mo).toInt = (pI S 1201 mo).toInt := congrArg Int32.toInt (hk_5.fr.I' (by decide +kernel) ham rfl)
  have tf_39 : (pI S_2 1211 mo).toInt = (pI S 1211 mo).toInt := congrArg Int32.toInt (hk_5.fr.I' (by decide +kernel) ham rfl)
  have tf_40 : (pI S_2 1000 u_18).toInt = (pI S 1000 u_18).toInt := congrArg Int32.toInt (hk_5.fr.I' (by decide +kernel) td_20 rfl)
  have tf_41 : (pI S_2 1000 u_18).toInt = (pI S 1000 u_18).toInt := congrArg Int32.toInt (hk_5.fr.I' (by decide +kernel) td_20 rfl)
  have tf_42 : (pI S_2 1000 u_18).toInt = (pI S 1000 u_18).toInt := congrArg Int32.toInt (hk_5.fr.I' (by decide +kernel) td_20 rfl)
  have tf_43 : (pI S_2 1228 mo).toInt = (pI S 1228 mo).toInt := congrArg Int32.toInt (hk_5.fr.I' (by decide +kernel) ham rfl)
  have tf_44 : (pI S_2 1228 mo).toInt = (pI S 1228 mo).toInt := congrArg Int32.toInt (hk_5.fr.I' (by decide +kernel) ham rfl)
  have th_46 : mA S_2 mo 1210 = thinF := TH_fr hG hk_5.fr ham (by decide +kernel) th_24
  have ct_45 : CT S_2 x mo := CT_eq hG hk_5.fr hax (by decide +kernel) (by decide +kernel) (S12_fr hG hk_5.fr ham (by decide +kernel)) ct_23
  have th_35 : PN S_2 x := PN_fr hG hax hk_5.fr (by decide +kernel) (by decide +kernel) (by decide +kernel) pn_22
  have te_47 := (hp.2.2 _ td_13).1
  have hg_48 : GX S_2 := hk_5.1
  have rg_49 := And.intro (z_lo rr_1) (z_hi rr_1)
  refine lv_pop X.1 X.2.1 dL_law_1385 rfl ?_
  refine lv_aload_n X.1 X.2.1 dL_law_1386 rfl (lv_at hl 2 rfl) ?_
  refine k_i (rm := { frames := 1, cells := 0, slots := 0, locals := 48 }) (av := [.ref mo]) X hw (va_runV (As := []) (rest := []) (cfix X) (k_X12_day l G cy κ S_2 _ mo hg_48 am_9) (cwV 0 X.2.2.2.1 gk_X12_day rfl rfl rfl (by decide +kernel) ⟨Nat.le_of_ble_eq_true rfl, Nat.le_of_ble_eq_true rfl⟩) (pre_V X hw _ am_9 rfl (by decide) rfl) rfl rfl hl.1 rfl (lv_room (Nat.le_of_ble_eq_true rfl)) dL_law_1387 ⟨(by show cc + 0 ≤ 601024; omega), (by show nn + 0 ≤ 7293034; omega)⟩) cc nn (by show cc + 0 ≤ cc; omega) (by show nn + 0 ≤ nn; omega) (fun rr_50 S_51 H locs hp hw hfr hnw => ?_)
  have la_52 := LA_keep la_3 oq_4 hfr
  have oq_53 := oq_keep la_3 oq_4 hnw
  obtain ⟨hk_54, hp⟩ := hp
  have ax_57 : At S_51 x 11 := hk_54.fr.at ax_8
  have am_58 : At S_51 mo 12 := hk_54.fr.at am_9
  have mi_55 : MI S_51 mo := MIe_free hg_48 am_9 hk_54.fr (by decide +kernel) mi_6
  have gr_56 : GR S_51 mo := GR_free hg_48 am_9 hk_54.fr (by decide +kernel) gr_7
  have ph_59 : Phc S_51 = Phc S_2 := Ph_ok hg_48 hk_54 (by decide +kernel) (by decide +kernel) (by decide +kernel)
  have ph_60 : Phs S_51 = Phs S_2 := Ph_ok hg_48 hk_54 (by decide +kernel) (by decide +kernel) (by decide +kernel)
  have th_61 : pR S_51 1107 x = some q_12 := hk_54.fr.R' (by decide +kernel) ax_8 th_27
  have th_62 : At S_51 q_12 8 := hk_54.fr.at th_28
  have th_65 : pR S_51 1105 x = some u_18 := hk_54.fr.R' (by decide +kernel) ax_8 th_31
  have th_66 : At S_51 u_18 10 := hk_54.fr.at th_32
  have th_63 : pI S_51 801 q_12 = pI S_2 801 q_12 := hk_54.fr.I' (by decide +kernel) th_28 rfl
  have th_64 := hp.2.2.2
  have tf_70 : (pI S_51 1102 x).toInt = (pI S_2 1102 x).toInt := congrArg Int32.toInt (hk_54.fr.I' (by decide +kernel) ax_8 rfl)
  have tf_71 : (pI S_51 1104 x).toInt = (pI S_2 1104 x).toInt := congrArg Int32.toInt (hk_54.fr.I' (by decide +kernel) ax_8 rfl)
  have tf_72 : (pI S_51 1201 mo).toInt = (pI S_2 1201 mo).toInt := congrArg Int32.toInt (hk_54.fr.I' (by decide +kernel) am_9 rfl)
  have tf_73 : (pI S_51 1211 mo).toInt = (pI S_2 1211 mo).toInt := congrArg Int32.toInt (hk_54.fr.I' (by decide +kernel) am_9 rfl)
  have tf_74 : (pI S_51 1000 u_18).toInt = (pI S_2 1000 u_18).toInt := congrArg Int32.toInt (hk_54.fr.I' (by decide +kernel) th_32 rfl)
  have tf_75 : (pI S_51 1000 u_18).toInt = (pI S_2 1000 u_18).toInt := congrArg Int32.toInt (hk_54.fr.I' (by decide +kernel) th_32 rfl)
  have tf_76 : (pI S_51 1000 u_18).toInt = (pI S_2 1000 u_18).toInt := congrArg Int32.toInt (hk_54.fr.I' (by decide +kernel) th_32 rfl)
  have tf_77 : (pI S_51 1228 mo).toInt = (pI S_2 1228 mo).toInt := congrArg Int32.toInt (hk_54.fr.I' (by decide +kernel) am_9 rfl)
  have tf_78 : (pI S_51 1228 mo).toInt = (pI S_2 1228 mo).toInt := congrArg Int32.toInt (hk_54.fr.I' (by decide +kernel) am_9 rfl)
  have th_80 : mA S_51 mo 1210 = thinF := TH_fr hg_48 hk_54.fr am_9 (by decide +kernel) th_46
  have ct_79 : CT S_51 x mo := CT_eq hg_48 hk_54.fr ax_8 (by decide +kernel) (by decide +kernel) (S12_fr hg_48 hk_54.fr am_9 (by decide +kernel)) ct_45
  have th_69 : PN S_51 x := PN_fr hg_48 ax_8 hk_54.fr (by decide +kernel) (by decide +kernel) (by decide +kernel) th_35
  have td_81 : TD S_51 x mo := ⟨⟨q_12, th_61, th_62, by rw [th_63, th_29, th_64, th_30, td_15]⟩, by omega, by omega, ⟨u_18, th_65, th_66, by omega⟩, th_69, ct_79, th_80, TX_fr hg_48 hk_54.fr ax_8 am_9 (by decide +kernel) (TX_fr hG hk_5.fr hax ham (by decide +kernel) tx_25)⟩
  have rq_83 : rr_1.toInt = rr_50.toInt := congrArg Int32.toInt (by rw [te_47, hp.2.2.1, th_30, td_15])
  have hg_84 : GX S_51 := hk_54.1
  have rg_85 := And.intro (z_lo rr_50) (z_hi rr_50)
  refine lv_pop X.1 X.2.1 dL_law_1390 rfl ?_
  refine lv_goto (tgt := 1505) X.1 X.2.1 dL_law_1391 (by decide) ?_
  exact K _ _ _ _ cc nn hw hg_84 ax_57 am_58 mi_55 gr_56 td_81 la_52 oq_53 (lv_sub hl [0, 1, 2, 3, 4] rfl) (by omega) (by omega)
set_option maxHeartbeats 4000000 in
set_option maxRecDepth 100000 in
theorem lc_28 {p : Program} {l : Launch} {e : Env} {s : State} {m : MethodId} {below : List Frame} {meth : Method} {c : Code} (hst : l.stackTraces = false) {b x mo oq L : Nat} {xs : Nat → Int32} {cL : ClassId} {G : va_G} {cy : Nat → ClassId} {κ : Nat → Nat} {S : PS} {H : Heap} {locs : List Loc} {ls : Array Slot} {cc nn : Nat} {Q : State → Prop} {i : Int32} {i_z : Int} (X : Cx p c cL_law 7 s #[Value.ref b] lw_tbl RL m G cy κ (fun q : Nat => s.heap.size ≤ q)) (hX : va_X b L xs s s.heap) (hbl : b < s.heap.size) (hbA : ¬ (fun q : Nat => s.heap.size ≤ q) b) (hdc : ∀ Y ∈ DcL, va_Nw (.declares (Bundle.initS Y)) s) (hkl : Kl cL s) (hAo : (fun q : Nat => s.heap.size ≤ q) oq) (hL : L ≤ 3072) (hz_i : i.toInt = i_z) (hi0 : 0 ≤ i_z) (hi1 : i_z + 6 ≤ (L : Int)) (hw : Wd G cy (fun q : Nat => s.heap.size ≤ q) s.heap S H locs) (hG : GX S) (hax : At S x 11) (ham : At S mo 12) (hMI : MI S mo) (hGR : GR S mo) (hTD : TD S x mo) (hLA : LA cL oq H) (hoq : oq ∉ pL S) (hl : lv_has ls 7 [(4, .int i), (3, .ref oq), (2, .ref mo), (1, .ref x), (0, .ref b)]) (hcc : cc + Phc S + 20000 ≤ 601024) (hnn : nn + Phs S + 100000 ≤ 7293034) (K : ∀ (S9 : PS) (H9 : Heap) (locs9 : List Loc) (ls9 : Array Slot) (c9 n9 : Nat), Wd G cy (fun q : Nat => s.heap.size ≤ q) s.heap S9 H9 locs9 → GX S9 → At S9 x 11 → At S9 mo 12 → MI S9 mo → GR S9 mo → TD S9 x mo → LA cL oq H9 → oq ∉ pL S9 → lv_has ls9 7 [(4, .int i), (3, .ref oq), (2, .ref mo), (1, .ref x), (0, .ref b)] → c9 + Phc S9 ≤ cc + Phc S + 102 → n9 + Phs S9 ≤ nn + Phs S + 1020 → W p l e room_1 s m #[Value.ref b] below meth c H9 locs9 c9 n9 Q (F0 m 1505 ls9 [])) : W p l e room_1 s m #[Value.ref b] below meth c H locs cc nn Q (F0 m 1394 ls []) := by
  refine lv_aload_n X.1 X.2.1 dL_law_1394 rfl (lv_at hl 3 rfl) ?_
  refine lv_aload_n X.1 X.2.1 dL_law_1395 rfl (lv_at hl 4 rfl) ?_
  refine lv_iload X.1 X.2.1 dL_law_1396 (lv_at hl 0 rfl) ?_
  refine lv_iconst (v := 1) X.1 X.2.1 dL_law_1398 (by decide) ?_
  refine lv_iadd X.1 X.2.1 dL_law_1399 ?_
  refine lv_topi (fun v_1 ev_1 => ?_)
  have z_2 : v_1.toInt = i_z + 1 := z_add ev_1 hz_i ti_1 (by omega) (by omega)
  refine va_sld X.1 X.2.1 hX hbl hbA hw.2.2 (z_ix rfl (by omega) (by omega)) dL_law_1400 ?_
  refine lv_topi (fun v_3 ev_3 => ?_)
  have rg_4 := And.intro (z_lo v_3) (z_hi v_3)
  refine lv_aload_n X.1 X.2.1 dL_law_1401 rfl (lv_at hl 4 rfl) ?_
  refine lv_iload X.1 X.2.1 dL_law_1402 (lv_at hl 0 rfl) ?_
  refine lv_iconst (v := 2) X.1 X.2.1 dL_law_1404 (by decide) ?_
  refine lv_iadd X.1 X.2.1 dL_law_1405 ?_
  refine lv_topi (fun v_5 ev_5 => ?_)
  have z_6 : v_5.toInt = i_z + 2 := z_add ev_5 hz_i ti_2 (by omega) (by omega)
  refine va_sld X.1 X.2.1 hX hbl hbA hw.2.2 (z_ix rfl (by omega) (by omega)) dL_law_1406 ?_
  refine lv_topi (fun v_7 ev_7 => ?_)
  have rg_8 := And.intro (z_lo v_7) (z_hi v_7)
  obtain ⟨nu_9, Ks_10, sk_11, hwt_12⟩ := hTD.2.2.2.2.2.2.2.2.2
  refine k_i (rm := { frames := 2, cells := 0, slots := 0, locals := 96 }) (av := [.ref x, .int (v_3), .int (v_7)]) X hw (va_runV (As := [.int (v_3), .int (v_7)]) (rest := []) (cfix X) (k_X11_fault7 l G cy κ S _ x (v_3) (v_3.toInt) (v_7) (v_7.toInt) Ks_10 hG hax rfl rfl hwt_12.2.1) (cwV 2 X.2.2.2.1 gk_X11_fault rfl rfl rfl (by decide +kernel) ⟨Nat.le_of_ble_eq_true rfl, Nat.le_of_ble_eq_true rfl⟩) (pre_V X hw _ hax rfl (by decide) rfl) rfl rfl hl.1 rfl (lv_room (Nat.le_of_ble_eq_true rfl)) dL_law_1407 ⟨(by show cc + 0 ≤ 601024; omega), (by show nn + 0 ≤ 7293034; omega)⟩) cc nn (by show cc + 0 ≤ cc; omega) (by show nn + 0 ≤ nn; omega) (fun rr_13 S_14 H locs hp hw hfr hnw => ?_)
  have la_15 := LA_keep hLA hoq hfr
  have oq_16 := oq_keep hLA hoq hnw
  obtain ⟨hk_17, hp⟩ := hp
  have ax_20 : At S_14 x 11 := hk_17.fr.at hax
  have am_21 : At S_14 mo 12 := hk_17.fr.at ham
  have mi_18 : MI S_14 mo := MIe_free hG ham hk_17.fr (by decide +kernel) hMI
  have gr_19 : GR S_14 mo := GR_free hG ham hk_17.fr (by decide +kernel) hGR
  have ph_22 : Phc S_14 = Phc S := Ph_ok hG hk_17 (by decide +kernel) (by decide +kernel) (by decide +kernel)
  have ph_23 : Phs S_14 = Phs S := Ph_ok hG hk_17 (by decide +kernel) (by decide +kernel) (by decide +kernel)
  have td_24 : TD S_14 x mo := TD_fr hG hk_17.fr hax ham (by decide +kernel) (by decide +kernel) (by decide +kernel) (by decide +kernel) (by decide +kernel) (by decide +kernel) hTD
  have hg_25 : GX S_14 := hk_17.1
  have rg_26 := And.intro (z_lo rr_13) (z_hi rr_13)
  refine lv_pop X.1 X.2.1 dL_law_1410 rfl ?_
  refine lv_aload_n X.1 X.2.1 dL_law_1411 rfl (lv_at hl 2 rfl) ?_
  refine lv_aload_n X.1 X.2.1 dL_law_1412 rfl (lv_at hl 4 rfl) ?_
  refine lv_iload X.1 X.2.1 dL_law_1413 (lv_at hl 0 rfl) ?_
  refine lv_iconst (v := 1) X.1 X.2.1 dL_law_1415 (by decide) ?_
  refine lv_iadd X.1 X.2.1 dL_law_1416 ?_
  refine lv_topi (fun v_27 ev_27 => ?_)
  have z_28 : v_27.toInt = i_z + 1 := z_add ev_27 hz_i ti_1 (by omega) (by omega)
  refine va_sld X.1 X.2.1 hX hbl hbA hw.2.2 (z_ix rfl (by omega) (by omega)) dL_law_1417 ?_
  refine lv_topi (fun v_29 ev_29 => ?_)
  have es_30 : v_3 = v_29 := by rw [ev_3, ev_29, ev_1, ev_27]
  subst es_30
  refine lv_aload_n X.1 X.2.1 dL_law_1418 rfl (lv_at hl 4 rfl) ?_
  refine lv_iload X.1 X.2.1 dL_law_1419 (lv_at hl 0 rfl) ?_
  refine lv_iconst (v := 2) X.1 X.2.1 dL_law_1421 (by decide) ?_
  refine lv_iadd X.1 X.2.1 dL_law_1422 ?_
  refine lv_topi (fun v_31 ev_31 => ?_)
  have z_32 : v_31.toInt = i_z + 2 := z_add ev_31 hz_i ti_2 (by omega) (by omega)
  refine va_sld X.1 X.2.1 hX hbl hbA hw.2.2 (z_ix rfl (by omega) (by omega)) dL_law_1423 ?_
  refine lv_topi (fun v_33 ev_33 => ?_)
  have es_34 : v_7 = v_33 := by rw [ev_7, ev_33, ev_5, ev_31]
  subst es_34
  refine k_i (rm := { frames := 3, cells := 0, slots := 0, locals := 144 }) (av := [.ref mo, .int (v_3), .int (v_7)]) X hw (va_runV (As := [.int (v_3), .int (v_7)]) (rest := []) (cfix X) (k_X12_fault7 l G cy κ S_14 _ mo (v_3) (v_3.toInt) (v_7) (v_7.toInt) hg_25 am_21 rfl rfl) (cwV 2 X.2.2.2.1 gk_X12_fault rfl rfl rfl (by decide +kernel) ⟨Nat.le_of_ble_eq_true rfl, Nat.le_of_ble_eq_true rfl⟩) (pre_V X hw _ am_21 rfl (by decide) rfl) rfl rfl hl.1 rfl (lv_room (Nat.le_of_ble_eq_true rfl)) dL_law_1424 ⟨(by show cc + 0 ≤ 601024; omega), (by show nn + 0 ≤ 7293034; omega)⟩) cc nn (by show cc + 0 ≤ cc; omega) (by show nn + 0 ≤ nn; omega) (fun rr_35 S_36 H locs hp hw hfr hnw => ?_)
  have la_37 := LA_keep la_15 oq_16 hfr
  have oq_38 := oq_keep la_15 oq_16 hnw
  obtain ⟨hk_39, hp⟩ := hp
  have ax_42 : At S_36 x 11 := hk_39.fr.at ax_20
  have am_43 : At S_36 mo 12 := hk_39.fr.at am_21
  have mi_40 : MI S_36 mo := MIe_free hg_25 am_21 hk_39.fr (by decide +kernel) mi_18
  have gr_41 : GR S_36 mo := GR_free hg_25 am_21 hk_39.fr (by decide +kernel) gr_19
  have ph_44 : Phc S_36 = Phc S_14 := Ph_ok hg_25 hk_39 (by decide +kernel) (by decide +kernel) (by decide +kernel)
  have ph_45 : Phs S_36 = Phs S_14 := Ph_ok hg_25 hk_39 (by decide +kernel) (by decide +kernel) (by decide +kernel)
  have td_46 : TD S_36 x mo := TD_fr hg_25 hk_39.fr ax_20 am_21 (by decide +kernel) (by decide +kernel) (by decide +kernel) (by decide +kernel) (by decide +kernel) (by decide +kernel) td_24
  have hg_47 : GX S_36 := hk_39.1
  have rg_48 := And.intro (z_lo rr_35) (z_hi rr_35)
  refine lv_pop X.1 X.2.1 dL_law_1427 rfl ?_
  refine lv_goto (tgt := 1505) X.1 X.2.1 dL_law_1428 (by decide) ?_
  exact K _ _ _ _ cc nn hw hg_47 ax_42 am_43 mi_40 gr_41 td_46 la_37 oq_38 (lv_sub hl [0, 1, 2, 3, 4] rfl) (by omega) (by omega)
set_option maxHeartbeats 4000000 in
set_option maxRecDepth 100000 in
theorem lc_29 {p : Program} {l : Launch} {e : Env} {s : State} {m : MethodId} {below : List Frame} {meth : Method} {c : Code} (hst : l.stackTraces = false) {b x mo oq L : Nat} {xs : Nat → Int32} {cL : ClassId} {G : va_G} {cy : Nat → ClassId} {κ : Nat → Nat} {S : PS} {H : Heap} {locs : List Loc} {ls : Array Slot} {cc nn : Nat} {Q : State → Prop} {i : Int32} {i_z : Int} (X : Cx p c cL_law 7 s #[Value.ref b] lw_tbl RL m G cy κ (fun q : Nat => s.heap.size ≤ q)) (hX : va_X b L xs s s.heap) (hbl : b < s.heap.size) (hbA : ¬ (fun q : Nat => s.heap.size ≤ q) b) (hdc : ∀ Y ∈ DcL, va_Nw (.declares (Bundle.initS Y)) s) (hkl : Kl cL s) (hAo : (fun q : Nat => s.heap.size ≤ q) oq) (hL : L ≤ 3072) (hz_i : i.toInt = i_z) (hi0 : 0 ≤ i_z) (hi1 : i_z + 6 ≤ (L : Int)) (hw : Wd G cy (fun q : Nat => s.heap.size ≤ q) s.heap S H locs) (hG : GX S) (hax : At S x 11) (ham : At S mo 12) (hMI : MI S mo) (hGR : GR S mo) (hTD : TD S x mo) (hLA : LA cL oq H) (hoq : oq ∉ pL S) (hl : lv_has ls 7 [(4, .int i), (3, .ref oq), (2, .ref mo), (1, .ref x), (0, .ref b)]) (hcc : cc + Phc S + 20000 ≤ 601024) (hnn : nn + Phs S + 100000 ≤ 7293034) (K : ∀ (S9 : PS) (H9 : Heap) (locs9 : List Loc) (ls9 : Array Slot) (c9 n9 : Nat), Wd G cy (fun q : Nat => s.heap.size ≤ q) s.heap S9 H9 locs9 → GX S9 → At S9 x 11 → At S9 mo 12 → MI S9 mo → GR S9 mo → TD S9 x mo → LA cL oq H9 → oq ∉ pL S9 → lv_has ls9 7 [(4, .int i), (3, .ref oq), (2, .ref mo), (1, .ref x), (0, .ref b)] → c9 + Phc S9 ≤ cc + Phc S + 102 → n9 + Phs S9 ≤ nn + Phs S + 1020 → W p l e room_1 s m #[Value.ref b] below meth c H9 locs9 c9 n9 Q (F0 m 1505 ls9 [])) : W p l e room_1 s m #[Value.ref b] below meth c H locs cc nn Q (F0 m 1431 ls []) := by
  refine lv_aload_n X.1 X.2.1 dL_law_1431 rfl (lv_at hl 3 rfl) ?_
  refine lv_aload_n X.1 X.2.1 dL_law_1432 rfl (lv_at hl 4 rfl) ?_
  refine lv_iload X.1 X.2.1 dL_law_1433 (lv_at hl 0 rfl) ?_
  refine lv_iconst (v := 1) X.1 X.2.1 dL_law_1435 (by decide) ?_
  refine lv_iadd X.1 X.2.1 dL_law_1436 ?_
  refine lv_topi (fun v_1 ev_1 => ?_)
  have z_2 : v_1.toInt = i_z + 1 := z_add ev_1 hz_i ti_1 (by omega) (by omega)
  refine va_sld X.1 X.2.1 hX hbl hbA hw.2.2 (z_ix rfl (by omega) (by omega)) dL_law_1437 ?_
  refine lv_topi (fun v_3 ev_3 => ?_)
  have rg_4 := And.intro (z_lo v_3) (z_hi v_3)
  refine lv_aload_n X.1 X.2.1 dL_law_1438 rfl (lv_at hl 4 rfl) ?_
  refine lv_iload X.1 X.2.1 dL_law_1439 (lv_at hl 0 rfl) ?_
  refine lv_iconst (v := 2) X.1 X.2.1 dL_law_1441 (by decide) ?_
  refine lv_iadd X.1 X.2.1 dL_law_1442 ?_
  refine lv_topi (fun v_5 ev_5 => ?_)
  have z_6 : v_5.toInt = i_z + 2 := z_add ev_5 hz_i ti_2 (by omega) (by omega)
  refine va_sld X.1 X.2.1 hX hbl hbA hw.2.2 (z_ix rfl (by omega) (by omega)) dL_law_1443 ?_
  refine lv_topi (fun v_7 ev_7 => ?_)
  have rg_8 := And.intro (z_lo v_7) (z_hi v_7)
  refine lv_aload_n X.1 X.2.1 dL_law_1444 rfl (lv_at hl 4 rfl) ?_
  refine lv_iload X.1 X.2.1 dL_law_1445 (lv_at hl 0 rfl) ?_
  refine lv_iconst (v := 3) X.1 X.2.1 dL_law_1447 (by decide) ?_
  refine lv_iadd X.1 X.2.1 dL_law_1448 ?_
  refine lv_topi (fun v_9 ev_9 => ?_)
  have z_10 : v_9.toInt = i_z + 3 := z_add ev_9 hz_i ti_3 (by omega) (by omega)
  refine va_sld X.1 X.2.1 hX hbl hbA hw.2.2 (z_ix rfl (by omega) (by omega)) dL_law_1449 ?_
  refine lv_topi (fun v_11 ev_11 => ?_)
  have rg_12 := And.intro (z_lo v_11) (z_hi v_11)
  refine k_i (rm := { frames := 4, cells := 0, slots := 0, locals := 192 }) (av := [.ref x, .int (v_3), .int (v_7), .int (v_11)]) X hw (va_runV (As := [.int (v_3), .int (v_7), .int (v_11)]) (rest := []) (cfix X) (k_X11_pay l G cy κ S _ x (v_3) (v_3.toInt) (v_7) (v_7.toInt) (v_11) (v_11.toInt) hG hax rfl rfl rfl) (cwV 3 X.2.2.2.1 gk_X11_pay rfl rfl rfl (by decide +kernel) ⟨Nat.le_of_ble_eq_true rfl, Nat.le_of_ble_eq_true rfl⟩) (pre_V X hw _ hax rfl (by decide) rfl) rfl rfl hl.1 rfl (lv_room (Nat.le_of_ble_eq_true rfl)) dL_law_1450 ⟨(by show cc + 0 ≤ 601024; omega), (by show nn + 0 ≤ 7293034; omega)⟩) cc nn (by show cc + 0 ≤ cc; omega) (by show nn + 0 ≤ nn; omega) (fun rr_13 S_14 H locs hp hw hfr hnw => ?_)
  have la_15 := LA_keep hLA hoq hfr
  have oq_16 := oq_keep hLA hoq hnw
  obtain ⟨e2, hp⟩ := hp
  subst e2
  have rg_17 := And.intro (z_lo rr_13) (z_hi rr_13)
  refine lv_pop X.1 X.2.1 dL_law_1453 rfl ?_
  refine lv_aload_n X.1 X.2.1 dL_law_1454 rfl (lv_at hl 2 rfl) ?_
  refine lv_aload_n X.1 X.2.1 dL_law_1455 rfl (lv_at hl 4 rfl) ?_
  refine lv_iload X.1 X.2.1 dL_law_1456 (lv_at hl 0 rfl) ?_
  refine lv_iconst (v := 1) X.1 X.2.1 dL_law_1458 (by decide) ?_
  refine lv_iadd X.1 X.2.1 dL_law_1459 ?_
  refine lv_topi (fun v_18 ev_18 => ?_)
  have z_19 : v_18.toInt = i_z + 1 := z_add ev_18 hz_i ti_1 (by omega) (by omega)
  refine va_sld X.1 X.2.1 hX hbl hbA hw.2.2 (z_ix rfl (by omega) (by omega)) dL_law_1460 ?_
  refine lv_topi (fun v_20 ev_20 => ?_)
  have es_21 : v_3 = v_20 := by rw [ev_3, ev_20, ev_1, ev_18]
  subst es_21
  refine lv_aload_n X.1 X.2.1 dL_law_1461 rfl (lv_at hl 4 rfl) ?_
  refine lv_iload X.1 X.2.1 dL_law_1462 (lv_at hl 0 rfl) ?_
  refine lv_iconst (v := 2) X.1 X.2.1 dL_law_1464 (by decide) ?_
  refine lv_iadd X.1 X.2.1 dL_law_1465 ?_
  refine lv_topi (fun v_22 ev_22 => ?_)
  have z_23 : v_22.toInt = i_z + 2 := z_add ev_22 hz_i ti_2 (by omega) (by omega)
  refine va_sld X.1 X.2.1 hX hbl hbA hw.2.2 (z_ix rfl (by omega) (by omega)) dL_law_1466 ?_
  refine lv_topi (fun v_24 ev_24 => ?_)
  have es_25 : v_7 = v_24 := by rw [ev_7, ev_24, ev_5, ev_22]
  subst es_25
  refine lv_aload_n X.1 X.2.1 dL_law_1467 rfl (lv_at hl 4 rfl) ?_
  refine lv_iload X.1 X.2.1 dL_law_1468 (lv_at hl 0 rfl) ?_
  refine lv_iconst (v := 3) X.1 X.2.1 dL_law_1470 (by decide) ?_
  refine lv_iadd X.1 X.2.1 dL_law_1471 ?_
  refine lv_topi (fun v_26 ev_26 => ?_)
  have z_27 : v_26.toInt = i_z + 3 := z_add ev_26 hz_i ti_3 (by omega) (by omega)
  refine va_sld X.1 X.2.1 hX hbl hbA hw.2.2 (z_ix rfl (by omega) (by omega)) dL_law_1472 ?_
  refine lv_topi (fun v_28 ev_28 => ?_)
  have es_29 : v_11 = v_28 := by rw [ev_11, ev_28, ev_9, ev_26]
  subst es_29
  refine k_i (rm := { frames := 8, cells := 0, slots := 0, locals := 384 }) (av := [.ref mo, .int (v_3), .int (v_7), .int (v_11)]) X hw (va_runV (As := [.int (v_3), .int (v_7), .int (v_11)]) (rest := []) (cfix X) (k_X12_pay l G cy κ S _ mo (v_3) (v_3.toInt) (v_7) (v_7.toInt) (v_11) (v_11.toInt) hG ham rfl rfl rfl hMI) (cwV 3 X.2.2.2.1 gk_X12_pay rfl rfl rfl (by decide +kernel) ⟨Nat.le_of_ble_eq_true rfl, Nat.le_of_ble_eq_true rfl⟩) (pre_V X hw _ ham rfl (by decide) rfl) rfl rfl hl.1 rfl (lv_room (Nat.le_of_ble_eq_true rfl)) dL_law_1473 ⟨(by show cc + 0 ≤ 601024; omega), (by show nn + 0 ≤ 7293034; omega)⟩) cc nn (by show cc + 0 ≤ cc; omega) (by show nn + 0 ≤ nn; omega) (fun rr_30 S_31 H locs hp hw hfr hnw => ?_)
  have la_32 := LA_keep la_15 oq_16 hfr
  have oq_33 := oq_keep la_15 oq_16 hnw
  obtain ⟨hk_34, hp⟩ := hp
  have ax_37 : At S_31 x 11 := hk_34.fr.at hax
  have am_38 : At S_31 mo 12 := hk_34.fr.at ham
  have mi_35 : MI S_31 mo := MIe_free hG ham hk_34.fr (by decide +kernel) hMI
  have gr_36 : GR S_31 mo := GR_free hG ham hk_34.fr (by decide +kernel) hGR
  have ph_39 : Phc S_31 = Phc S := Ph_ok hG hk_34 (by decide +kernel) (by decide +kernel) (by decide +kernel)
  have ph_40 : Phs S_31 = Phs S := Ph_ok hG hk_34 (by decide +kernel) (by decide +kernel) (by decide +kernel)
  have td_41 : TD S_31 x mo := TD_fr hG hk_34.fr hax ham (by decide +kernel) (by decide +kernel) (by decide +kernel) (by decide +kernel) (by decide +kernel) (by decide +kernel) hTD
  have hg_42 : GX S_31 := hk_34.1
  have rg_43 := And.intro (z_lo rr_30) (z_hi rr_30)
  refine lv_pop X.1 X.2.1 dL_law_1476 rfl ?_
  refine lv_goto (tgt := 1505) X.1 X.2.1 dL_law_1477 (by decide) ?_
  exact K _ _ _ _ cc nn hw hg_42 ax_37 am_38 mi_35 gr_36 td_41 la_32 oq_33 (lv_sub hl [0, 1, 2, 3, 4] rfl) (by omega) (by omega)
set_option maxHeartbeats 4000000 in
set_option maxRecDepth 100000 in
theorem lc_30 {p : Program} {l : Launch} {e : Env} {s : State} {m : MethodId} {below : List Frame} {meth : Method} {c : Code} (hst : l.stackTraces = false) {b x mo oq L : Nat} {xs : Nat → Int32} {cL : ClassId} {G : va_G} {cy : Nat → ClassId} {κ : Nat → Nat} {S : PS} {H : Heap} {locs : List Loc} {ls : Array Slot} {cc nn : Nat} {Q : State → Prop} {i : Int32} {i_z : Int} (X : Cx p c cL_law 7 s #[Value.ref b] lw_tbl RL m G cy κ (fun q : Nat => s.heap.size ≤ q)) (hX : va_X b L xs s s.heap) (hbl : b < s.heap.size) (hbA : ¬ (fun q : Nat => s.heap.size ≤ q) b) (hdc : ∀ Y ∈ DcL, va_Nw (.declares (Bundle.initS Y)) s) (hkl : Kl cL s) (hAo : (fun q : Nat => s.heap.size ≤ q) oq) (hL : L ≤ 3072) (hz_i : i.toInt = i_z) (hi0 : 0 ≤ i_z) (hi1 : i_z + 6 ≤ (L : Int)) (hw : Wd G cy (fun q : Nat => s.heap.size ≤ q) s.heap S H locs) (hG : GX S) (hax : At S x 11) (ham : At S mo 12) (hMI : MI S mo) (hGR : GR S mo) (hTD : TD S x mo) (hLA : LA cL oq H) (hoq : oq ∉ pL S) (hl : lv_has ls 7 [(4, .int i), (3, .ref oq), (2, .ref mo), (1, .ref x), (0, .ref b)]) (hcc : cc + Phc S + 20000 ≤ 601024) (hnn : nn + Phs S + 100000 ≤ 7293034) (K : ∀ (S9 : PS) (H9 : Heap) (locs9 : List Loc) (ls9 : Array Slot) (c9 n9 : Nat), Wd G cy (fun q : Nat => s.heap.size ≤ q) s.heap S9 H9 locs9 → GX S9 → At S9 x 11 → At S9 mo 12 → MI S9 mo → GR S9 mo → TD S9 x mo → LA cL oq H9 → oq ∉ pL S9 → lv_has ls9 7 [(4, .int i), (3, .ref oq), (2, .ref mo), (1, .ref x), (0, .ref b)] → c9 + Phc S9 ≤ cc + Phc S + 102 → n9 + Phs S9 ≤ nn + Phs S + 1020 → W p l e room_1 s m #[Value.ref b] below meth c H9 locs9 c9 n9 Q (F0 m 1505 ls9 [])) : W p l e room_1 s m #[Value.ref b] below meth c H locs cc nn Q (F0 m 1480 ls []) := by
  refine lv_aload_n X.1 X.2.1 dL_law_1480 rfl (lv_at hl 3 rfl) ?_
  refine lv_aload_n X.1 X.2.1 dL_law_1481 rfl (lv_at hl 4 rfl) ?_
  refine lv_iload X.1 X.2.1 dL_law_1482 (lv_at hl 0 rfl) ?_
  refine lv_iconst (v := 1) X.1 X.2.1 dL_law_1484 (by decide) ?_
  refine lv_iadd X.1 X.2.1 dL_law_1485 ?_
  refine lv_topi (fun v_1 ev_1 => ?_)
  have z_2 : v_1.toInt = i_z + 1 := z_add ev_1 hz_i ti_1 (by omega) (by omega)
  refine va_sld X.1 X.2.1 hX hbl hbA hw.2.2 (z_ix rfl (by omega) (by omega)) dL_law_1486 ?_
  refine lv_topi (fun v_3 ev_3 => ?_)
  have rg_4 := And.intro (z_lo v_3) (z_hi v_3)
  refine k_i (rm := { frames := 3, cells := 0, slots := 0, locals := 144 }) (av := [.ref x, .int (v_3)]) X hw (va_runV (As := [.int (v_3)]) (rest := []) (cfix X) (k_X11_count l G cy κ S _ x (v_3) (v_3.toInt) hG hax rfl) (cwV 1 X.2.2.2.1 gk_X11_count rfl rfl rfl (by decide +kernel) ⟨Nat.le_of_ble_eq_true rfl, Nat.le_of_ble_eq_true rfl⟩) (pre_V X hw _ hax rfl (by decide) rfl) rfl rfl hl.1 rfl (lv_room (Nat.le_of_ble_eq_true rfl)) dL_law_1487 ⟨(by show cc + 0 ≤ 601024; omega), (by show nn + 0 ≤ 7293034; omega)⟩) cc nn (by show cc + 0 ≤ cc; omega) (by show nn + 0 ≤ nn; omega) (fun rr_5 S_6 H locs hp hw hfr hnw => ?_)
  have la_7 := LA_keep hLA hoq hfr
  have oq_8 := oq_keep hLA hoq hnw
  obtain ⟨e2, hp⟩ := hp
  subst e2
  have rg_9 := And.intro (z_lo rr_5) (z_hi rr_5)
  refine lv_pop X.1 X.2.1 dL_law_1490 rfl ?_
  refine lv_aload_n X.1 X.2.1 dL_law_1491 rfl (lv_at hl 2 rfl) ?_
  refine lv_aload_n X.1 X.2.1 dL_law_1492 rfl (lv_at hl 4 rfl) ?_
  refine lv_iload X.1 X.2.1 dL_law_1493 (lv_at hl 0 rfl) ?_
  refine lv_iconst (v := 1) X.1 X.2.1 dL_law_1495 (by decide) ?_
  refine lv_iadd X.1 X.2.1 dL_law_1496 ?_
  refine lv_topi (fun v_10 ev_10 => ?_)
  have z_11 : v_10.toInt = i_z + 1 := z_add ev_10 hz_i ti_1 (by omega) (by omega)
  refine va_sld X.1 X.2.1 hX hbl hbA hw.2.2 (z_ix rfl (by omega) (by omega)) dL_law_1497 ?_
  refine lv_topi (fun v_12 ev_12 => ?_)
  have es_13 : v_3 = v_12 := by rw [ev_3, ev_12, ev_1, ev_10]
  subst es_13
  refine k_i (rm := { frames := 6, cells := 0, slots := 0, locals := 288 }) (av := [.ref mo, .int (v_3)]) X hw (va_runV (As := [.int (v_3)]) (rest := []) (cfix X) (k_X12_count l G cy κ S _ mo (v_3) (v_3.toInt) hG ham rfl hMI) (cwV 1 X.2.2.2.1 gk_X12_count rfl rfl rfl (by decide +kernel) ⟨Nat.le_of_ble_eq_true rfl, Nat.le_of_ble_eq_true rfl⟩) (pre_V X hw _ ham rfl (by decide) rfl) rfl rfl hl.1 rfl (lv_room (Nat.le_of_ble_eq_true rfl)) dL_law_1498 ⟨(by show cc + 0 ≤ 601024; omega), (by show nn + 0 ≤ 7293034; omega)⟩) cc nn (by show cc + 0 ≤ cc; omega) (by show nn + 0 ≤ nn; omega) (fun rr_14 S_15 H locs hp hw hfr hnw => ?_)
  have la_16 := LA_keep la_7 oq_8 hfr
  have oq_17 := oq_keep la_7 oq_8 hnw
  obtain ⟨hk_18, hp⟩ := hp
  have ax_21 : At S_15 x 11 := hk_18.fr.at hax
  have am_22 : At S_15 mo 12 := hk_18.fr.at ham
  have mi_19 : MI S_15 mo := MIe_free hG ham hk_18.fr (by decide +kernel) hMI
  have gr_20 : GR S_15 mo := GR_free hG ham hk_18.fr (by decide +kernel) hGR
  have ph_23 : Phc S_15 = Phc S := Ph_ok hG hk_18 (by decide +kernel) (by decide +kernel) (by decide +kernel)
  have ph_24 : Phs S_15 = Phs S := Ph_ok hG hk_18 (by decide +kernel) (by decide +kernel) (by decide +kernel)
  have td_25 : TD S_15 x mo := TD_fr hG hk_18.fr hax ham (by decide +kernel) (by decide +kernel) (by decide +kernel) (by decide +kernel) (by decide +kernel) (by decide +kernel) hTD
  have hg_26 : GX S_15 := hk_18.1
  have rg_27 := And.intro (z_lo rr_14) (z_hi rr_14)
  refine lv_pop X.1 X.2.1 dL_law_1501 rfl ?_
  refine lv_goto (tgt := 1505) X.1 X.2.1 dL_law_1502 (by decide) ?_
  exact K _ _ _ _ cc nn hw hg_26 ax_21 am_22 mi_19 gr_20 td_25 la_16 oq_17 (lv_sub hl [0, 1, 2, 3, 4] rfl) (by omega) (by omega)
set_option maxHeartbeats 4000000 in
set_option maxRecDepth 100000 in
theorem lc_d {p : Program} {l : Launch} {e : Env} {s : State} {m : MethodId} {below : List Frame} {meth : Method} {c : Code} (hst : l.stackTraces = false) {b x mo oq L : Nat} {xs : Nat → Int32} {cL : ClassId} {G : va_G} {cy : Nat → ClassId} {κ : Nat → Nat} {S : PS} {H : Heap} {locs : List Loc} {ls : Array Slot} {cc nn : Nat} {Q : State → Prop} {i : Int32} {i_z : Int} (X : Cx p c cL_law 7 s #[Value.ref b] lw_tbl RL m G cy κ (fun q : Nat => s.heap.size ≤ q)) (hX : va_X b L xs s s.heap) (hbl : b < s.heap.size) (hbA : ¬ (fun q : Nat => s.heap.size ≤ q) b) (hdc : ∀ Y ∈ DcL, va_Nw (.declares (Bundle.initS Y)) s) (hkl : Kl cL s) (hAo : (fun q : Nat => s.heap.size ≤ q) oq) (hL : L ≤ 3072) (hz_i : i.toInt = i_z) (hi0 : 0 ≤ i_z) (hi1 : i_z + 6 ≤ (L : Int)) (hw : Wd G cy (fun q : Nat => s.heap.size ≤ q) s.heap S H locs) (hG : GX S) (hax : At S x 11) (ham : At S mo 12) (hMI : MI S mo) (hGR : GR S mo) (hTD : TD S x mo) (hLA : LA cL oq H) (hoq : oq ∉ pL S) (hl : lv_has ls 7 [(4, .int i), (3, .ref oq), (2, .ref mo), (1, .ref x), (0, .ref b)]) (hcc : cc + Phc S + 20000 ≤ 601024) (hnn : nn + Phs S + 100000 ≤ 7293034) (K : ∀ (S9 : PS) (H9 : Heap) (locs9 : List Loc) (ls9 : Array Slot) (c9 n9 : Nat), Wd G cy (fun q : Nat => s.heap.size ≤ q) s.heap S9 H9 locs9 → GX S9 → At S9 x 11 → At S9 mo 12 → MI S9 mo → GR S9 mo → TD S9 x mo → LA cL oq H9 → oq ∉ pL S9 → lv_has ls9 7 [(4, .int i), (3, .ref oq), (2, .ref mo), (1, .ref x), (0, .ref b)] → c9 + Phc S9 ≤ cc + Phc S + 102 → n9 + Phs S9 ≤ nn + Phs S + 1020 → W p l e room_1 s m #[Value.ref b] below meth c H9 locs9 c9 n9 Q (F0 m 1505 ls9 [])) : W p l e room_1 s m #[Value.ref b] below meth c H locs cc nn Q (F0 m 1505 ls []) := by
  exact K _ _ _ _ cc nn hw hG hax ham hMI hGR hTD hLA hoq (lv_sub hl [0, 1, 2, 3, 4] rfl) (by omega) (by omega)
