set_option maxHeartbeats 4000000 in
set_option maxRecDepth 100000 in
theorem lc_24 {p : Program} {l : Launch} {e : Env} {s : State} {m : MethodId} {below : List Frame} {meth : Method} {c : Code} (hst : l.stackTraces = false) {b x mo oq L : Nat} {xs : Nat → Int32} {cL : ClassId} {G : va_G} {cy : Nat → ClassId} {κ : Nat → Nat} {S : PS} {H : Heap} {locs : List Loc} {ls : Array Slot} {cc nn : Nat} {Q : State → Prop} {i : Int32} {i_z : Int} (X : Cx p c cL_law 7 s #[Value.ref b] lw_tbl RL m G cy κ (fun q : Nat => s.heap.size ≤ q)) (hX : va_X b L xs s s.heap) (hbl : b < s.heap.size) (hbA : ¬ (fun q : Nat => s.heap.size ≤ q) b) (hdc : ∀ Y ∈ DcL, va_Nw (.declares (Bundle.initS Y)) s) (hkl : Kl cL s) (hAo : (fun q : Nat => s.heap.size ≤ q) oq) (hL : L ≤ 3072) (hz_i : i.toInt = i_z) (hi0 : 0 ≤ i_z) (hi1 : i_z + 6 ≤ (L : Int)) (hw : Wd G cy (fun q : Nat => s.heap.size ≤ q) s.heap S H locs) (hG : GX S) (hax : At S x 11) (ham : At S mo 12) (hMI : MI S mo) (hGR : GR S mo) (hTD : TD S x mo) (hLA : LA cL oq H) (hoq : oq ∉ pL S) (hl : lv_has ls 7 [(4, .int i), (3, .ref oq), (2, .ref mo), (1, .ref x), (0, .ref b)]) (hcc : cc + Phc S + 20000 ≤ 601024) (hnn : nn + Phs S + 100000 ≤ 7293034) (K : ∀ (S9 : PS) (H9 : Heap) (locs9 : List Loc) (ls9 : Array Slot) (c9 n9 : Nat), Wd G cy (fun q : Nat => s.heap.size ≤ q) s.heap S9 H9 locs9 → GX S9 → At S9 x 11 → At S9 mo 12 → MI S9 mo → GR S9 mo → TD S9 x mo → LA cL oq H9 → oq ∉ pL S9 → lv_has ls9 7 [(4, .int i), (3, .ref oq), (2, .ref mo), (1, .ref x), (0, .ref b)] → c9 + Phc S9 ≤ cc + Phc S + 102 → n9 + Phs S9 ≤ nn + Phs S + 1020 → W p l e room_1 s m #[Value.ref b] below meth c H9 locs9 c9 n9 Q (F0 m 1505 ls9 [])) : W p l e room_1 s m #[Value.ref b] below meth c H locs cc nn Q (F0 m 1242 ls []) := by
  refine lv_aload_n X.1 X.2.1 dL_law_1242 rfl (lv_at hl 3 rfl) ?_
  refine lv_aload_n X.1 X.2.1 dL_law_1243 rfl (lv_at hl 4 rfl) ?_
  refine lv_iload X.1 X.2.1 dL_law_1244 (lv_at hl 0 rfl) ?_
  refine lv_iconst (v := 1) X.1 X.2.1 dL_law_1246 (by decide) ?_
  refine lv_iadd X.1 X.2.1 dL_law_1247 ?_
  refine lv_topi (fun v_1 ev_1 => ?_)
  have z_2 : v_1.toInt = i_z + 1 := z_add ev_1 hz_i ti_1 (by omega) (by omega)
  refine va_sld X.1 X.2.1 hX hbl hbA hw.2.2 (z_ix rfl (by omega) (by omega)) dL_law_1248 ?_
  refine lv_topi (fun v_3 ev_3 => ?_)
  have rg_4 := And.intro (z_lo v_3) (z_hi v_3)
  refine lv_aload_n X.1 X.2.1 dL_law_1249 rfl (lv_at hl 4 rfl) ?_
  refine lv_iload X.1 X.2.1 dL_law_1250 (lv_at hl 0 rfl) ?_
  refine lv_iconst (v := 2) X.1 X.2.1 dL_law_1252 (by decide) ?_
  refine lv_iadd X.1 X.2.1 dL_law_1253 ?_
  refine lv_topi (fun v_5 ev_5 => ?_)
  have z_6 : v_5.toInt = i_z + 2 := z_add ev_5 hz_i ti_2 (by omega) (by omega)
  refine va_sld X.1 X.2.1 hX hbl hbA hw.2.2 (z_ix rfl (by omega) (by omega)) dL_law_1254 ?_
  refine lv_topi (fun v_7 ev_7 => ?_)
  have rg_8 := And.intro (z_lo v_7) (z_hi v_7)
  refine k_i (rm := { frames := 2, cells := 0, slots := 0, locals := 96 }) (av := [.ref x, .int (v_3), .int (v_7)]) X hw (va_runV (As := [.int (v_3), .int (v_7)]) (rest := []) (cfix X) (k_X11_price l G cy κ S _ x (v_3) (v_3.toInt) (v_7) (v_7.toInt) hG hax rfl rfl) (cwV 2 X.2.2.2.1 gk_X11_price rfl rfl rfl (by decide +kernel) ⟨Nat.le_of_ble_eq_true rfl, Nat.le_of_ble_eq_true rfl⟩) (pre_V X hw _ hax rfl (by decide) rfl) rfl rfl hl.1 rfl (lv_room (Nat.le_of_ble_eq_true rfl)) dL_law_1255 ⟨(by show cc + 0 ≤ 601024; omega), (by show nn + 0 ≤ 7293034; omega)⟩) cc nn (by show cc + 0 ≤ cc; omega) (by show nn + 0 ≤ nn; omega) (fun rr_9 S_10 H locs hp hw hfr hnw => ?_)
  have la_11 := LA_keep hLA hoq hfr
  have oq_12 := oq_keep hLA hoq hnw
  obtain ⟨hk_13, hp⟩ := hp
  have ax_16 : At S_10 x 11 := hk_13.fr.at hax
  have am_17 : At S_10 mo 12 := hk_13.fr.at ham
  have mi_14 : MI S_10 mo := MIe_free hG ham hk_13.fr (by decide +kernel) hMI
  have gr_15 : GR S_10 mo := GR_free hG ham hk_13.fr (by decide +kernel) hGR
  have ph_18 : Phc S_10 = Phc S := Ph_ok hG hk_13 (by decide +kernel) (by decide +kernel) (by decide +kernel)
  have ph_19 : Phs S_10 = Phs S := Ph_ok hG hk_13 (by decide +kernel) (by decide +kernel) (by decide +kernel)
  have td_20 : TD S_10 x mo := TD_fr hG hk_13.fr hax ham (by decide +kernel) (by decide +kernel) (by decide +kernel) (by decide +kernel) (by decide +kernel) (by decide +kernel) hTD
  have hg_21 : GX S_10 := hk_13.1
  have rg_22 := And.intro (z_lo rr_9) (z_hi rr_9)
  refine lv_pop X.1 X.2.1 dL_law_1258 rfl ?_
  refine lv_aload_n X.1 X.2.1 dL_law_1259 rfl (lv_at hl 2 rfl) ?_
  refine lv_aload_n X.1 X.2.1 dL_law_1260 rfl (lv_at hl 4 rfl) ?_
  refine lv_iload X.1 X.2.1 dL_law_1261 (lv_at hl 0 rfl) ?_
  refine lv_iconst (v := 1) X.1 X.2.1 dL_law_1263 (by decide) ?_
  refine lv_iadd X.1 X.2.1 dL_law_1264 ?_
  refine lv_topi (fun v_23 ev_23 => ?_)
  have z_24 : v_23.toInt = i_z + 1 := z_add ev_23 hz_i ti_1 (by omega) (by omega)
  refine va_sld X.1 X.2.1 hX hbl hbA hw.2.2 (z_ix rfl (by omega) (by omega)) dL_law_1265 ?_
  refine lv_topi (fun v_25 ev_25 => ?_)
  have es_26 : v_3 = v_25 := by rw [ev_3, ev_25, ev_1, ev_23]
  subst es_26
  refine lv_aload_n X.1 X.2.1 dL_law_1266 rfl (lv_at hl 4 rfl) ?_
  refine lv_iload X.1 X.2.1 dL_law_1267 (lv_at hl 0 rfl) ?_
  refine lv_iconst (v := 2) X.1 X.2.1 dL_law_1269 (by decide) ?_
  refine lv_iadd X.1 X.2.1 dL_law_1270 ?_
  refine lv_topi (fun v_27 ev_27 => ?_)
  have z_28 : v_27.toInt = i_z + 2 := z_add ev_27 hz_i ti_2 (by omega) (by omega)
  refine va_sld X.1 X.2.1 hX hbl hbA hw.2.2 (z_ix rfl (by omega) (by omega)) dL_law_1271 ?_
  refine lv_topi (fun v_29 ev_29 => ?_)
  have es_30 : v_7 = v_29 := by rw [ev_7, ev_29, ev_5, ev_27]
  subst es_30
  refine k_i (rm := { frames := 2, cells := 0, slots := 0, locals := 96 }) (av := [.ref mo, .int (v_3), .int (v_7)]) X hw (va_runV (As := [.int (v_3), .int (v_7)]) (rest := []) (cfix X) (k_X12_price l G cy κ S_10 _ mo (v_3) (v_3.toInt) (v_7) (v_7.toInt) hg_21 am_17 rfl rfl) (cwV 2 X.2.2.2.1 gk_X12_price rfl rfl rfl (by decide +kernel) ⟨Nat.le_of_ble_eq_true rfl, Nat.le_of_ble_eq_true rfl⟩) (pre_V X hw _ am_17 rfl (by decide) rfl) rfl rfl hl.1 rfl (lv_room (Nat.le_of_ble_eq_true rfl)) dL_law_1272 ⟨(by show cc + 0 ≤ 601024; omega), (by show nn + 0 ≤ 7293034; omega)⟩) cc nn (by show cc + 0 ≤ cc; omega) (by show nn + 0 ≤ nn; omega) (fun rr_31 S_32 H locs hp hw hfr hnw => ?_)
  have la_33 := LA_keep la_11 oq_12 hfr
  have oq_34 := oq_keep la_11 oq_12 hnw
  obtain ⟨hk_35, hp⟩ := hp
  have ax_38 : At S_32 x 11 := hk_35.fr.at ax_16
  have am_39 : At S_32 mo 12 := hk_35.fr.at am_17
  have mi_36 : MI S_32 mo := MIe_free hg_21 am_17 hk_35.fr (by decide +kernel) mi_14
  have gr_37 : GR S_32 mo := GR_free hg_21 am_17 hk_35.fr (by decide +kernel) gr_15
  have ph_40 : Phc S_32 = Phc S_10 := Ph_ok hg_21 hk_35 (by decide +kernel) (by decide +kernel) (by decide +kernel)
  have ph_41 : Phs S_32 = Phs S_10 := Ph_ok hg_21 hk_35 (by decide +kernel) (by decide +kernel) (by decide +kernel)
  have td_42 : TD S_32 x mo := TD_fr hg_21 hk_35.fr ax_16 am_17 (by decide +kernel) (by decide +kernel) (by decide +kernel) (by decide +kernel) (by decide +kernel) (by decide +kernel) td_20
  have hg_43 : GX S_32 := hk_35.1
  have rg_44 := And.intro (z_lo rr_31) (z_hi rr_31)
  refine lv_pop X.1 X.2.1 dL_law_1275 rfl ?_
  refine lv_goto (tgt := 1505) X.1 X.2.1 dL_law_1276 (by decide) ?_
  exact K _ _ _ _ cc nn hw hg_43 ax_38 am_39 mi_36 gr_37 td_42 la_33 oq_34 (lv_sub hl [0, 1, 2, 3, 4] rfl) (by omega) (by omega)
set_option maxHeartbeats 4000000 in
set_option maxRecDepth 100000 in
theorem lc_25 {p : Program} {l : Launch} {e : Env} {s : State} {m : MethodId} {below : List Frame} {meth : Method} {c : Code} (hst : l.stackTraces = false) {b x mo oq L : Nat} {xs : Nat → Int32} {cL : ClassId} {G : va_G} {cy : Nat → ClassId} {κ : Nat → Nat} {S : PS} {H : Heap} {locs : List Loc} {ls : Array Slot} {cc nn : Nat} {Q : State → Prop} {i : Int32} {i_z : Int} (X : Cx p c cL_law 7 s #[Value.ref b] lw_tbl RL m G cy κ (fun q : Nat => s.heap.size ≤ q)) (hX : va_X b L xs s s.heap) (hbl : b < s.heap.size) (hbA : ¬ (fun q : Nat => s.heap.size ≤ q) b) (hdc : ∀ Y ∈ DcL, va_Nw (.declares (Bundle.initS Y)) s) (hkl : Kl cL s) (hAo : (fun q : Nat => s.heap.size ≤ q) oq) (hL : L ≤ 3072) (hz_i : i.toInt = i_z) (hi0 : 0 ≤ i_z) (hi1 : i_z + 6 ≤ (L : Int)) (hw : Wd G cy (fun q : Nat => s.heap.size ≤ q) s.heap S H locs) (hG : GX S) (hax : At S x 11) (ham : At S mo 12) (hMI : MI S mo) (hGR : GR S mo) (hTD : TD S x mo) (hLA : LA cL oq H) (hoq : oq ∉ pL S) (hl : lv_has ls 7 [(4, .int i), (3, .ref oq), (2, .ref mo), (1, .ref x), (0, .ref b)]) (hcc : cc + Phc S + 20000 ≤ 601024) (hnn : nn + Phs S + 100000 ≤ 7293034) (K : ∀ (S9 : PS) (H9 : Heap) (locs9 : List Loc) (ls9 : Array Slot) (c9 n9 : Nat), Wd G cy (fun q : Nat => s.heap.size ≤ q) s.heap S9 H9 locs9 → GX S9 → At S9 x 11 → At S9 mo 12 → MI S9 mo → GR S9 mo → TD S9 x mo → LA cL oq H9 → oq ∉ pL S9 → lv_has ls9 7 [(4, .int i), (3, .ref oq), (2, .ref mo), (1, .ref x), (0, .ref b)] → c9 + Phc S9 ≤ cc + Phc S + 102 → n9 + Phs S9 ≤ nn + Phs S + 1020 → W p l e room_1 s m #[Value.ref b] below meth c H9 locs9 c9 n9 Q (F0 m 1505 ls9 [])) : W p l e room_1 s m #[Value.ref b] below meth c H locs cc nn Q (F0 m 1279 ls []) := by
  refine lv_aload_n X.1 X.2.1 dL_law_1279 rfl (lv_at hl 3 rfl) ?_
  refine lv_aload_n X.1 X.2.1 dL_law_1280 rfl (lv_at hl 4 rfl) ?_
  refine lv_iload X.1 X.2.1 dL_law_1281 (lv_at hl 0 rfl) ?_
  refine lv_iconst (v := 1) X.1 X.2.1 dL_law_1283 (by decide) ?_
  refine lv_iadd X.1 X.2.1 dL_law_1284 ?_
  refine lv_topi (fun v_1 ev_1 => ?_)
  have z_2 : v_1.toInt = i_z + 1 := z_add ev_1 hz_i ti_1 (by omega) (by omega)
  refine va_sld X.1 X.2.1 hX hbl hbA hw.2.2 (z_ix rfl (by omega) (by omega)) dL_law_1285 ?_
  refine lv_topi (fun v_3 ev_3 => ?_)
  have rg_4 := And.intro (z_lo v_3) (z_hi v_3)
  refine lv_aload_n X.1 X.2.1 dL_law_1286 rfl (lv_at hl 4 rfl) ?_
  refine lv_iload X.1 X.2.1 dL_law_1287 (lv_at hl 0 rfl) ?_
  refine lv_iconst (v := 2) X.1 X.2.1 dL_law_1289 (by decide) ?_
  refine lv_iadd X.1 X.2.1 dL_law_1290 ?_
  refine lv_topi (fun v_5 ev_5 => ?_)
  have z_6 : v_5.toInt = i_z + 2 := z_add ev_5 hz_i ti_2 (by omega) (by omega)
  refine va_sld X.1 X.2.1 hX hbl hbA hw.2.2 (z_ix rfl (by omega) (by omega)) dL_law_1291 ?_
  refine lv_topi (fun v_7 ev_7 => ?_)
  have rg_8 := And.intro (z_lo v_7) (z_hi v_7)
  refine lv_aload_n X.1 X.2.1 dL_law_1292 rfl (lv_at hl 4 rfl) ?_
  refine lv_iload X.1 X.2.1 dL_law_1293 (lv_at hl 0 rfl) ?_
  refine lv_iconst (v := 3) X.1 X.2.1 dL_law_1295 (by decide) ?_
  refine lv_iadd X.1 X.2.1 dL_law_1296 ?_
  refine lv_topi (fun v_9 ev_9 => ?_)
  have z_10 : v_9.toInt = i_z + 3 := z_add ev_9 hz_i ti_3 (by omega) (by omega)
  refine va_sld X.1 X.2.1 hX hbl hbA hw.2.2 (z_ix rfl (by omega) (by omega)) dL_law_1297 ?_
  refine lv_topi (fun v_11 ev_11 => ?_)
  have rg_12 := And.intro (z_lo v_11) (z_hi v_11)
  refine lv_aload_n X.1 X.2.1 dL_law_1298 rfl (lv_at hl 4 rfl) ?_
  refine lv_iload X.1 X.2.1 dL_law_1299 (lv_at hl 0 rfl) ?_
  refine lv_iconst (v := 4) X.1 X.2.1 dL_law_1301 (by decide) ?_
  refine lv_iadd X.1 X.2.1 dL_law_1302 ?_
  refine lv_topi (fun v_13 ev_13 => ?_)
  have z_14 : v_13.toInt = i_z + 4 := z_add ev_13 hz_i ti_4 (by omega) (by omega)
  refine va_sld X.1 X.2.1 hX hbl hbA hw.2.2 (z_ix rfl (by omega) (by omega)) dL_law_1303 ?_
  refine lv_topi (fun v_15 ev_15 => ?_)
  have rg_16 := And.intro (z_lo v_15) (z_hi v_15)
  refine lv_if_eq (tgt := 1311) X.1 X.2.1 dL_law_1304 (by decide) (fun c_17 => ?_) (fun c_17 => ?_)
  · have z_b_18 := trivial
    have k_19 : v_15.toInt = 0 := z_eq rfl ti_0 c_17
    refine lv_iconst (v := 0) X.1 X.2.1 dL_law_1311 (by decide) ?_
    refine k_i (rm := { frames := 18, cells := 0, slots := 0, locals := 864 }) (av := [.ref x, .int (v_3), .int (v_7), .int (v_11), .int 0]) X hw (va_runV (As := [.int (v_3), .int (v_7), .int (v_11), .int 0]) (rest := []) (cfix X) (k_X11_mix l G cy κ S _ x (v_3) (v_3.toInt) (v_7) (v_7.toInt) (v_11) (v_11.toInt) (0) (0) hG hax rfl rfl rfl ti_0) (cwV 4 X.2.2.2.1 gk_X11_mix rfl rfl rfl (by decide +kernel) ⟨Nat.le_of_ble_eq_true rfl, Nat.le_of_ble_eq_true rfl⟩) (pre_V X hw _ hax rfl (by decide) rfl) rfl rfl hl.1 rfl (lv_room (Nat.le_of_ble_eq_true rfl)) dL_law_1312 ⟨(by show cc + 0 ≤ 601024; omega), (by show nn + 0 ≤ 7293034; omega)⟩) cc nn (by show cc + 0 ≤ cc; omega) (by show nn + 0 ≤ nn; omega) (fun rr_20 S_21 H locs hp hw hfr hnw => ?_)
    have la_22 := LA_keep hLA hoq hfr
    have oq_23 := oq_keep hLA hoq hnw
    obtain ⟨hk_24, hp⟩ := hp
    have ax_27 : At S_21 x 11 := hk_24.fr.at hax
    have am_28 : At S_21 mo 12 := hk_24.fr.at ham
    have mi_25 : MI S_21 mo := MIe_free hG ham hk_24.fr (by decide +kernel) hMI
    have gr_26 : GR S_21 mo := GR_free hG ham hk_24.fr (by decide +kernel) hGR
    have ph_29 : Phc S_21 = Phc S := Ph_ok hG hk_24 (by decide +kernel) (by decide +kernel) (by decide +kernel)
    have ph_30 : Phs S_21 = Phs S := Ph_ok hG hk_24 (by decide +kernel) (by decide +kernel) (by decide +kernel)
    have td_31 : TD S_21 x mo := TD_fr hG hk_24.fr hax ham (by decide +kernel) (by decide +kernel) (by decide +kernel) (by decide +kernel) (by decide +kernel) (by decide +kernel) hTD
    have hg_32 : GX S_21 := hk_24.1
    have rg_33 := And.intro (z_lo rr_20) (z_hi rr_20)
    refine lv_pop X.1 X.2.1 dL_law_1315 rfl ?_
    refine lv_aload_n X.1 X.2.1 dL_law_1316 rfl (lv_at hl 2 rfl) ?_
    refine lv_aload_n X.1 X.2.1 dL_law_1317 rfl (lv_at hl 4 rfl) ?_
    refine lv_iload X.1 X.2.1 dL_law_1318 (lv_at hl 0 rfl) ?_
    refine lv_iconst (v := 1) X.1 X.2.1 dL_law_1320 (by decide) ?_
    refine lv_iadd X.1 X.2.1 dL_law_1321 ?_
    refine lv_topi (fun v_34 ev_34 => ?_)
    have z_35 : v_34.toInt = i_z + 1 := z_add ev_34 hz_i ti_1 (by omega) (by omega)
    refine va_sld X.1 X.2.1 hX hbl hbA hw.2.2 (z_ix rfl (by omega) (by omega)) dL_law_1322 ?_
    refine lv_topi (fun v_36 ev_36 => ?_)
    have es_37 : v_3 = v_36 := by rw [ev_3, ev_36, ev_1, ev_34]
    subst es_37
    refine lv_aload_n X.1 X.2.1 dL_law_1323 rfl (lv_at hl 4 rfl) ?_
    refine lv_iload X.1 X.2.1 dL_law_1324 (lv_at hl 0 rfl) ?_
    refine lv_iconst (v := 2) X.1 X.2.1 dL_law_1326 (by decide) ?_
    refine lv_iadd X.1 X.2.1 dL_law_1327 ?_
    refine lv_topi (fun v_38 ev_38 => ?_)
    have z_39 : v_38.toInt = i_z + 2 := z_add ev_38 hz_i ti_2 (by omega) (by omega)
    refine va_sld X.1 X.2.1 hX hbl hbA hw.2.2 (z_ix rfl (by omega) (by omega)) dL_law_1328 ?_
    refine lv_topi (fun v_40 ev_40 => ?_)
    have es_41 : v_7 = v_40 := by rw [ev_7, ev_40, ev_5, ev_38]
    subst es_41
    refine lv_aload_n X.1 X.2.1 dL_law_1329 rfl (lv_at hl 4 rfl) ?_
    refine lv_iload X.1 X.2.1 dL_law_1330 (lv_at hl 0 rfl) ?_
    refine lv_iconst (v := 3) X.1 X.2.1 dL_law_1332 (by decide) ?_
    refine lv_iadd X.1 X.2.1 dL_law_1333 ?_
    refine lv_topi (fun v_42 ev_42 => ?_)
    have z_43 : v_42.toInt = i_z + 3 := z_add ev_42 hz_i ti_3 (by omega) (by omega)
    refine va_sld X.1 X.2.1 hX hbl hbA hw.2.2 (z_ix rfl (by omega) (by omega)) dL_law_1334 ?_
    refine lv_topi (fun v_44 ev_44 => ?_)
    have es_45 : v_11 = v_44 := by rw [ev_11, ev_44, ev_9, ev_42]
    subst es_45
    refine lv_aload_n X.1 X.2.1 dL_law_1335 rfl (lv_at hl 4 rfl) ?_
    refine lv_iload X.1 X.2.1 dL_law_1336 (lv_at hl 0 rfl) ?_
    refine lv_iconst (v := 4) X.1 X.2.1 dL_law_1338 (by decide) ?_
    refine lv_iadd X.1 X.2.1 dL_law_1339 ?_
    refine lv_topi (fun v_46 ev_46 => ?_)
    have z_47 : v_46.toInt = i_z + 4 := z_add ev_46 hz_i ti_4 (by omega) (by omega)
    refine va_sld X.1 X.2.1 hX hbl hbA hw.2.2 (z_ix rfl (by omega) (by omega)) dL_law_1340 ?_
    refine lv_topi (fun v_48 ev_48 => ?_)
    have es_49 : v_15 = v_48 := by rw [ev_15, ev_48, ev_13, ev_46]
    subst es_49
    refine lv_if_eq (tgt := 1348) X.1 X.2.1 dL_law_1341 (by decide) (fun c_50 => ?_) (fun c_50 => ?_)
    · have z_b_51 := trivial
      have k_52 : v_15.toInt = 0 := z_eq rfl ti_0 c_50
      refine lv_iconst (v := 0) X.1 X.2.1 dL_law_1348 (by decide) ?_
      refine k_i (rm := { frames := 8, cells := 0, slots := 0, locals := 384 }) (av := [.ref mo, .int (v_3), .int (v_7), .int (v_11), .int 0]) X hw (va_runV (As := [.int (v_3), .int (v_7), .int (v_11), .int 0]) (rest := []) (cfix X) (k_X12_mix l G cy κ S_21 _ mo (v_3) (v_3.toInt) (v_7) (v_7.toInt) (v_11) (v_11.toInt) (0) (0) hg_32 am_28 rfl rfl rfl ti_0 mi_25) (cwV 4 X.2.2.2.1 gk_X12_mix rfl rfl rfl (by decide +kernel) ⟨Nat.le_of_ble_eq_true rfl, Nat.le_of_ble_eq_true rfl⟩) (pre_V X hw _ am_28 rfl (by decide) rfl) rfl rfl hl.1 rfl (lv_room (Nat.le_of_ble_eq_true rfl)) dL_law_1349 ⟨(by show cc + 0 ≤ 601024; omega), (by show nn + 0 ≤ 7293034; omega)⟩) cc nn (by show cc + 0 ≤ cc; omega) (by show nn + 0 ≤ nn; omega) (fun rr_53 S_54 H locs hp hw hfr hnw => ?_)
      have la_55 := LA_keep la_22 oq_23 hfr
      have oq_56 := oq_keep la_22 oq_23 hnw
      obtain ⟨hk_57, hp⟩ := hp
      have ax_60 : At S_54 x 11 := hk_57.fr.at ax_27
      have am_61 : At S_54 mo 12 := hk_57.fr.at am_28
      have mi_58 : MI S_54 mo := MIe_free hg_32 am_28 hk_57.fr (by decide +kernel) mi_25
      have gr_59 : GR S_54 mo := GR_free hg_32 am_28 hk_57.fr (by decide +kernel) gr_26
      have ph_62 : Phc S_54 = Phc S_21 := Ph_ok hg_32 hk_57 (by decide +kernel) (by decide +kernel) (by decide +kernel)
      have ph_63 : Phs S_54 = Phs S_21 := Ph_ok hg_32 hk_57 (by decide +kernel) (by decide +kernel) (by decide +kernel)
      have td_64 : TD S_54 x mo := TD_fr hg_32 hk_57.fr ax_27 am_28 (by decide +kernel) (by decide +kernel) (by decide +kernel) (by decide +kernel) (by decide +kernel) (by decide +kernel) td_31
      have hg_65 : GX S_54 := hk_57.1
      have rg_66 := And.intro (z_lo rr_53) (z_hi rr_53)
      refine lv_pop X.1 X.2.1 dL_law_1352 rfl ?_
      refine lv_goto (tgt := 1505) X.1 X.2.1 dL_law_1353 (by decide) ?_
      exact K _ _ _ _ cc nn hw hg_65 ax_60 am_61 mi_58 gr_59 td_64 la_55 oq_56 (lv_sub hl [0, 1, 2, 3, 4] rfl) (by omega) (by omega)
    · have z_b_67 := trivial
      have k_68 : v_15.toInt ≠ 0 := z_ne rfl ti_0 c_50
      refine lv_iconst (v := 1) X.1 X.2.1 dL_law_1344 (by decide) ?_
      refine lv_goto (tgt := 1349) X.1 X.2.1 dL_law_1345 (by decide) ?_
      refine k_i (rm := { frames := 8, cells := 0, slots := 0, locals := 384 }) (av := [.ref mo, .int (v_3), .int (v_7), .int (v_11), .int 1]) X hw (va_runV (As := [.int (v_3), .int (v_7), .int (v_11), .int 1]) (rest := []) (cfix X) (k_X12_mix l G cy κ S_21 _ mo (v_3) (v_3.toInt) (v_7) (v_7.toInt) (v_11) (v_11.toInt) (1) (1) hg_32 am_28 rfl rfl rfl ti_1 mi_25) (cwV 4 X.2.2.2.1 gk_X12_mix rfl rfl rfl (by decide +kernel) ⟨Nat.le_of_ble_eq_true rfl, Nat.le_of_ble_eq_true rfl⟩) (pre_V X hw _ am_28 rfl (by decide) rfl) rfl rfl hl.1 rfl (lv_room (Nat.le_of_ble_eq_true rfl)) dL_law_1349 ⟨(by show cc + 0 ≤ 601024; omega), (by show nn + 0 ≤ 7293034; omega)⟩) cc nn (by show cc + 0 ≤ cc; omega) (by show nn + 0 ≤ nn; omega) (fun rr_69 S_70 H locs hp hw hfr hnw => ?_)
      have la_71 := LA_keep la_22 oq_23 hfr
      have oq_72 := oq_keep la_22 oq_23 hnw
      obtain ⟨hk_73, hp⟩ := hp
      have ax_76 : At S_70 x 11 := hk_73.fr.at ax_27
      have am_77 : At S_70 mo 12 := hk_73.fr.at am_28
      have mi_74 : MI S_70 mo := MIe_free hg_32 am_28 hk_73.fr (by decide +kernel) mi_25
      have gr_75 : GR S_70 mo := GR_free hg_32 am_28 hk_73.fr (by decide +kernel) gr_26
      have ph_78 : Phc S_70 = Phc S_21 := Ph_ok hg_32 hk_73 (by decide +kernel) (by decide +kernel) (by decide +kernel)
      have ph_79 : Phs S_70 = Phs S_21 := Ph_ok hg_32 hk_73 (by decide +kernel) (by decide +kernel) (by decide +kernel)
      have td_80 : TD S_70 x mo := TD_fr hg_32 hk_73.fr ax_27 am_28 (by decide +kernel) (by decide +kernel) (by decide +kernel) (by decide +kernel) (by decide +kernel) (by decide +kernel) td_31
      have hg_81 : GX S_70 := hk_73.1
      have rg_82 := And.intro (z_lo rr_69) (z_hi rr_69)
      refine lv_pop X.1 X.2.1 dL_law_1352 rfl ?_
      refine lv_goto (tgt := 1505) X.1 X.2.1 dL_law_1353 (by decide) ?_
      exact K _ _ _ _ cc nn hw hg_81 ax_76 am_77 mi_74 gr_75 td_80 la_71 oq_72 (lv_sub hl [0, 1, 2, 3, 4] rfl) (by omega) (by omega)
  · have z_b_83 := trivial
    have k_84 : v_15.toInt ≠ 0 := z_ne rfl ti_0 c_17
    refine lv_iconst (v := 1) X.1 X.2.1 dL_law_1307 (by decide) ?_
    refine lv_goto (tgt := 1312) X.1 X.2.1 dL_law_1308 (by decide) ?_
    refine k_i (rm := { frames := 18, cells := 0, slots := 0, locals := 864 }) (av := [.ref x, .int (v_3), .int (v_7), .int (v_11), .int 1]) X hw (va_runV (As := [.int (v_3), .int (v_7), .int (v_11), .int 1]) (rest := []) (cfix X) (k_X11_mix l G cy κ S _ x (v_3) (v_3.toInt) (v_7) (v_7.toInt) (v_11) (v_11.toInt) (1) (1) hG hax rfl rfl rfl ti_1) (cwV 4 X.2.2.2.1 gk_X11_mix rfl rfl rfl (by decide +kernel) ⟨Nat.le_of_ble_eq_true rfl, Nat.le_of_ble_eq_true rfl⟩) (pre_V X hw _ hax rfl (by decide) rfl) rfl rfl hl.1 rfl (lv_room (Nat.le_of_ble_eq_true rfl)) dL_law_1312 ⟨(by show cc + 0 ≤ 601024; omega), (by show nn + 0 ≤ 7293034; omega)⟩) cc nn (by show cc + 0 ≤ cc; omega) (by show nn + 0 ≤ nn; omega) (fun rr_85 S_86 H locs hp hw hfr hnw => ?_)
    have la_87 := LA_keep hLA hoq hfr
    have oq_88 := oq_keep hLA hoq hnw
    obtain ⟨hk_89, hp⟩ := hp
    have ax_92 : At S_86 x 11 := hk_89.fr.at hax
    have am_93 : At S_86 mo 12 := hk_89.fr.at ham
    have mi_90 : MI S_86 mo := MIe_free hG ham hk_89.fr (by decide +kernel) hMI
    have gr_91 : GR S_86 mo := GR_free hG ham hk_89.fr (by decide +kernel) hGR
    have ph_94 : Phc S_86 = Phc S := Ph_ok hG hk_89 (by decide +kernel) (by decide +kernel) (by decide +kernel)
    have ph_95 : Phs S_86 = Phs S := Ph_ok hG hk_89 (by decide +kernel) (by decide +kernel) (by decide +kernel)
    have td_96 : TD S_86 x mo := TD_fr hG hk_89.fr hax ham (by decide +kernel) (by decide +kernel) (by decide +kernel) (by decide +kernel) (by decide +kernel) (by decide +kernel) hTD
    have hg_97 : GX S_86 := hk_89.1
    have rg_98 := And.intro (z_lo rr_85) (z_hi rr_85)
    refine lv_pop X.1 X.2.1 dL_law_1315 rfl ?_
    refine lv_aload_n X.1 X.2.1 dL_law_1316 rfl (lv_at hl 2 rfl) ?_
    refine lv_aload_n X.1 X.2.1 dL_law_1317 rfl (lv_at hl 4 rfl) ?_
    refine lv_iload X.1 X.2.1 dL_law_1318 (lv_at hl 0 rfl) ?_
    refine lv_iconst (v := 1) X.1 X.2.1 dL_law_1320 (by decide) ?_
    refine lv_iadd X.1 X.2.1 dL_law_1321 ?_
    refine lv_topi (fun v_99 ev_99 => ?_)
    have z_100 : v_99.toInt = i_z + 1 := z_add ev_99 hz_i ti_1 (by omega) (by omega)
    refine va_sld X.1 X.2.1 hX hbl hbA hw.2.2 (z_ix rfl (by omega) (by omega)) dL_law_1322 ?_
    refine lv_topi (fun v_101 ev_101 => ?_)
    have es_102 : v_3 = v_101 := by rw [ev_3, ev_101, ev_1, ev_99]
    subst es_102
    refine lv_aload_n X.1 X.2.1 dL_law_1323 rfl (lv_at hl 4 rfl) ?_
    refine lv_iload X.1 X.2.1 dL_law_1324 (lv_at hl 0 rfl) ?_
    refine lv_iconst (v := 2) X.1 X.2.1 dL_law_1326 (by decide) ?_
    refine lv_iadd X.1 X.2.1 dL_law_1327 ?_
    refine lv_topi (fun v_103 ev_103 => ?_)
    have z_104 : v_103.toInt = i_z + 2 := z_add ev_103 hz_i ti_2 (by omega) (by omega)
    refine va_sld X.1 X.2.1 hX hbl hbA hw.2.2 (z_ix rfl (by omega) (by omega)) dL_law_1328 ?_
    refine lv_topi (fun v_105 ev_105 => ?_)
    have es_106 : v_7 = v_105 := by rw [ev_7, ev_105, ev_5, ev_103]
    subst es_106
    refine lv_aload_n X.1 X.2.1 dL_law_1329 rfl (lv_at hl 4 rfl) ?_
    refine lv_iload X.1 X.2.1 dL_law_1330 (lv_at hl 0 rfl) ?_
    refine lv_iconst (v := 3) X.1 X.2.1 dL_law_1332 (by decide) ?_
    refine lv_iadd X.1 X.2.1 dL_law_1333 ?_
    refine lv_topi (fun v_107 ev_107 => ?_)
    have z_108 : v_107.toInt = i_z + 3 := z_add ev_107 hz_i ti_3 (by omega) (by omega)
    refine va_sld X.1 X.2.1 hX hbl hbA hw.2.2 (z_ix rfl (by omega) (by omega)) dL_law_1334 ?_
    refine lv_topi (fun v_109 ev_109 => ?_)
    have es_110 : v_11 = v_109 := by rw [ev_11, ev_109, ev_9, ev_107]
    subst es_110
    refine lv_aload_n X.1 X.2.1 dL_law_1335 rfl (lv_at hl 4 rfl) ?_
    refine lv_iload X.1 X.2.1 dL_law_1336 (lv_at hl 0 rfl) ?_
    refine lv_iconst (v := 4) X.1 X.2.1 dL_law_1338 (by decide) ?_
    refine lv_iadd X.1 X.2.1 dL_law_1339 ?_
    refine lv_topi (fun v_111 ev_111 => ?_)
    have z_112 : v_111.toInt = i_z + 4 := z_add ev_111 hz_i ti_4 (by omega) (by omega)
    refine va_sld X.1 X.2.1 hX hbl hbA hw.2.2 (z_ix rfl (by omega) (by omega)) dL_law_1340 ?_
    refine lv_topi (fun v_113 ev_113 => ?_)
    have es_114 : v_15 = v_113 := by rw [ev_15, ev_113, ev_13, ev_111]
    subst es_114
    refine lv_if_eq (tgt := 1348) X.1 X.2.1 dL_law_1341 (by decide) (fun c_115 => ?_) (fun c_115 => ?_)
    · have z_b_116 := trivial
      have k_117 : v_15.toInt = 0 := z_eq rfl ti_0 c_115
      refine lv_iconst (v := 0) X.1 X.2.1 dL_law_1348 (by decide) ?_
      refine k_i (rm := { frames := 8, cells := 0, slots := 0, locals := 384 }) (av := [.ref mo, .int (v_3), .int (v_7), .int (v_11), .int 0]) X hw (va_runV (As := [.int (v_3), .int (v_7), .int (v_11), .int 0]) (rest := []) (cfix X) (k_X12_mix l G cy κ S_86 _ mo (v_3) (v_3.toInt) (v_7) (v_7.toInt) (v_11) (v_11.toInt) (0) (0) hg_97 am_93 rfl rfl rfl ti_0 mi_90) (cwV 4 X.2.2.2.1 gk_X12_mix rfl rfl rfl (by decide +kernel) ⟨Nat.le_of_ble_eq_true rfl, Nat.le_of_ble_eq_true rfl⟩) (pre_V X hw _ am_93 rfl (by decide) rfl) rfl rfl hl.1 rfl (lv_room (Nat.le_of_ble_eq_true rfl)) dL_law_1349 ⟨(by show cc + 0 ≤ 601024; omega), (by show nn + 0 ≤ 7293034; omega)⟩) cc nn (by show cc + 0 ≤ cc; omega) (by show nn + 0 ≤ nn; omega) (fun rr_118 S_119 H locs hp hw hfr hnw => ?_)
      have la_120 := LA_keep la_87 oq_88 hfr
      have oq_121 := oq_keep la_87 oq_88 hnw
      obtain ⟨hk_122, hp⟩ := hp
      have ax_125 : At S_119 x 11 := hk_122.fr.at ax_92
      have am_126 : At S_119 mo 12 := hk_122.fr.at am_93
      have mi_123 : MI S_119 mo := MIe_free hg_97 am_93 hk_122.fr (by decide +kernel) mi_90
      have gr_124 : GR S_119 mo := GR_free hg_97 am_93 hk_122.fr (by decide +kernel) gr_91
      have ph_127 : Phc S_119 = Phc S_86 := Ph_ok hg_97 hk_122 (by decide +kernel) (by decide +kernel) (by decide +kernel)
      have ph_128 : Phs S_119 = Phs S_86 := Ph_ok hg_97 hk_122 (by decide +kernel) (by decide +kernel) (by decide +kernel)
      have td_129 : TD S_119 x mo := TD_fr hg_97 hk_122.fr ax_92 am_93 (by decide +kernel) (by decide +kernel) (by decide +kernel) (by decide +kernel) (by decide +kernel) (by decide +kernel) td_96
      have hg_130 : GX S_119 := hk_122.1
      have rg_131 := And.intro (z_lo rr_118) (z_hi rr_118)
      refine lv_pop X.1 X.2.1 dL_law_1352 rfl ?_
      refine lv_goto (tgt := 1505) X.1 X.2.1 dL_law_1353 (by decide) ?_
      exact K _ _ _ _ cc nn hw hg_130 ax_125 am_126 mi_123 gr_124 td_129 la_120 oq_121 (lv_sub hl [0, 1, 2, 3, 4] rfl) (by omega) (by omega)
    · have z_b_132 := trivial
      have k_133 : v_15.toInt ≠ 0 := z_ne rfl ti_0 c_115
      refine lv_iconst (v := 1) X.1 X.2.1 dL_law_1344 (by decide) ?_
      refine lv_goto (tgt := 1349) X.1 X.2.1 dL_law_1345 (by decide) ?_
      refine k_i (rm := { frames := 8, cells := 0, slots := 0, locals := 384 }) (av := [.ref mo, .int (v_3), .int (v_7), .int (v_11), .int 1]) X hw (va_runV (As := [.int (v_3), .int (v_7), .int (v_11), .int 1]) (rest := []) (cfix X) (k_X12_mix l G cy κ S_86 _ mo (v_3) (v_3.toInt) (v_7) (v_7.toInt) (v_11) (v_11.toInt) (1) (1) hg_97 am_93 rfl rfl rfl ti_1 mi_90) (cwV 4 X.2.2.2.1 gk_X12_mix rfl rfl rfl (by decide +kernel) ⟨Nat.le_of_ble_eq_true rfl, Nat.le_of_ble_eq_true rfl⟩) (pre_V X hw _ am_93 rfl (by decide) rfl) rfl rfl hl.1 rfl (lv_room (Nat.le_of_ble_eq_true rfl)) dL_law_1349 ⟨(by show cc + 0 ≤ 601024; omega), (by show nn + 0 ≤ 7293034; omega)⟩) cc nn (by show cc + 0 ≤ cc; omega) (by show nn + 0 ≤ nn; omega) (fun rr_134 S_135 H locs hp hw hfr hnw => ?_)
      have la_136 := LA_keep la_87 oq_88 hfr
      have oq_137 := oq_keep la_87 oq_88 hnw
      obtain ⟨hk_138, hp⟩ := hp
      have ax_141 : At S_135 x 11 := hk_138.fr.at ax_92
      have am_142 : At S_135 mo 12 := hk_138.fr.at am_93
      have mi_139 : MI S_135 mo := MIe_free hg_97 am_93 hk_138.fr (by decide +kernel) mi_90
      have gr_140 : GR S_135 mo := GR_free hg_97 am_93 hk_138.fr (by decide +kernel) gr_91
      have ph_143 : Phc S_135 = Phc S_86 := Ph_ok hg_97 hk_138 (by decide +kernel) (by decide +kernel) (by decide +kernel)
      have ph_144 : Phs S_135 = Phs S_86 := Ph_ok hg_97 hk_138 (by decide +kernel) (by decide +kernel) (by decide +kernel)
      have td_145 : TD S_135 x mo := TD_fr hg_97 hk_138.fr ax_92 am_93 (by decide +kernel) (by decide +kernel) (by decide +kernel) (by decide +kernel) (by decide +kernel) (by decide +kernel) td_96
      have hg_146 : GX S_135 := hk_138.1
      have rg_147 := And.intro (z_lo rr_134) (z_hi rr_134)
      refine lv_pop X.1 X.2.1 dL_law_1352 rfl ?_
      refine lv_goto (tgt := 1505) X.1 X.2.1 dL_law_1353 (by decide) ?_
      exact K _ _ _ _ cc nn hw hg_146 ax_141 am_142 mi_139 gr_140 td_145 la_136 oq_137 (lv_sub hl [0, 1, 2, 3, 4] rfl) (by omega) (by omega)
set_option maxHeartbeats 4000000 in
set_option maxRecDepth 100000 in
theorem lc_26 {p : Program} {l : Launch} {e : Env} {s : State} {m : MethodId} {below : List Frame} {meth : Method} {c : Code} (hst : l.stackTraces = false) {b x mo oq L : Nat} {xs : Nat → Int32} {cL : ClassId} {G : va_G} {cy : Nat → ClassId} {κ : Nat → Nat} {S : PS} {H : Heap} {locs : List Loc} {ls : Array Slot} {cc nn : Nat} {Q : State → Prop} {i : Int32} {i_z : Int} (X : Cx p c cL_law 7 s #[Value.ref b] lw_tbl RL m G cy κ (fun q : Nat => s.heap.size ≤ q)) (hX : va_X b L xs s s.heap) (hbl : b < s.heap.size) (hbA : ¬ (fun q : Nat => s.heap.size ≤ q) b) (hdc : ∀ Y ∈ DcL, va_Nw (.declares (Bundle.initS Y)) s) (hkl : Kl cL s) (hAo : (fun q : Nat => s.heap.size ≤ q) oq) (hL : L ≤ 3072) (hz_i : i.toInt = i_z) (hi0 : 0 ≤ i_z) (hi1 : i_z + 6 ≤ (L : Int)) (hw : Wd G cy (fun q : Nat => s.heap.size ≤ q) s.heap S H locs) (hG : GX S) (hax : At S x 11) (ham : At S mo 12) (hMI : MI S mo) (hGR : GR S mo) (hTD : TD S x mo) (hLA : LA cL oq H) (hoq : oq ∉ pL S) (hl : lv_has ls 7 [(4, .int i), (3, .ref oq), (2, .ref mo), (1, .ref x), (0, .ref b)]) (hcc : cc + Phc S + 20000 ≤ 601024) (hnn : nn + Phs S + 100000 ≤ 7293034) (K : ∀ (S9 : PS) (H9 : Heap) (locs9 : List Loc) (ls9 : Array Slot) (c9 n9 : Nat), Wd G cy (fun q : Nat => s.heap.size ≤ q) s.heap S9 H9 locs9 → GX S9 → At S9 x 11 → At S9 mo 12 → MI S9 mo → GR S9 mo → TD S9 x mo → LA cL oq H9 → oq ∉ pL S9 → lv_has ls9 7 [(4, .int i), (3, .ref oq), (2, .ref mo), (1, .ref x), (0, .ref b)] → c9 + Phc S9 ≤ cc + Phc S + 102 → n9 + Phs S9 ≤ nn + Phs S + 1020 → W p l e room_1 s m #[Value.ref b] below meth c H9 locs9 c9 n9 Q (F0 m 1505 ls9 [])) : W p l e room_1 s m #[Value.ref b] below meth c H locs cc nn Q (F0 m 1356 ls []) := by
  refine lv_aload_n X.1 X.2.1 dL_law_1356 rfl (lv_at hl 3 rfl) ?_
  refine lv_aload_n X.1 X.2.1 dL_law_1357 rfl (lv_at hl 4 rfl) ?_
  refine lv_iload X.1 X.2.1 dL_law_1358 (lv_at hl 0 rfl) ?_
  refine lv_iconst (v := 1) X.1 X.2.1 dL_law_1360 (by decide) ?_
  refine lv_iadd X.1 X.2.1 dL_law_1361 ?_
  refine lv_topi (fun v_1 ev_1 => ?_)
  have z_2 : v_1.toInt = i_z + 1 := z_add ev_1 hz_i ti_1 (by omega) (by omega)
  refine va_sld X.1 X.2.1 hX hbl hbA hw.2.2 (z_ix rfl (by omega) (by omega)) dL_law_1362 ?_
  refine lv_topi (fun v_3 ev_3 => ?_)
  have rg_4 := And.intro (z_lo v_3) (z_hi v_3)
  refine k_i (rm := { frames := 2, cells := 0, slots := 0, locals := 96 }) (av := [.ref x, .int (v_3)]) X hw (va_runV (As := [.int (v_3)]) (rest := []) (cfix X) (k_X11_mixed l G cy κ S _ x (v_3) (v_3.toInt) hG hax rfl) (cwV 1 X.2.2.2.1 gk_X11_mixed rfl rfl rfl (by decide +kernel) ⟨Nat.le_of_ble_eq_true rfl, Nat.le_of_ble_eq_true rfl⟩) (pre_V X hw _ hax rfl (by decide) rfl) rfl rfl hl.1 rfl (lv_room (Nat.le_of_ble_eq_true rfl)) dL_law_1363 ⟨(by show cc + 0 ≤ 601024; omega), (by show nn + 0 ≤ 7293034; omega)⟩) cc nn (by show cc + 0 ≤ cc; omega) (by show nn + 0 ≤ nn; omega) (fun rr_5 S_6 H locs hp hw hfr hnw => ?_)
  have la_7 := LA_keep hLA hoq hfr
  have oq_8 := oq_keep hLA hoq hnw
  obtain ⟨e2, hp⟩ := hp
  subst e2
  have rg_9 := And.intro (z_lo rr_5) (z_hi rr_5)
  refine lv_pop X.1 X.2.1 dL_law_1366 rfl ?_
  refine lv_aload_n X.1 X.2.1 dL_law_1367 rfl (lv_at hl 2 rfl) ?_
  refine lv_aload_n X.1 X.2.1 dL_law_1368 rfl (lv_at hl 4 rfl) ?_
  refine lv_iload X.1 X.2.1 dL_law_1369 (lv_at hl 0 rfl) ?_
  refine lv_iconst (v := 1) X.1 X.2.1 dL_law_1371 (by decide) ?_
  refine lv_iadd X.1 X.2.1 dL_law_1372 ?_
  refine lv_topi (fun v_10 ev_10 => ?_)
  have z_11 : v_10.toInt = i_z + 1 := z_add ev_10 hz_i ti_1 (by omega) (by omega)
  refine va_sld X.1 X.2.1 hX hbl hbA hw.2.2 (z_ix rfl (by omega) (by omega)) dL_law_1373 ?_
  refine lv_topi (fun v_12 ev_12 => ?_)
  have es_13 : v_3 = v_12 := by rw [ev_3, ev_12, ev_1, ev_10]
  subst es_13
  refine k_i (rm := { frames := 3, cells := 0, slots := 0, locals := 144 }) (av := [.ref mo, .int (v_3)]) X hw (va_runV (As := [.int (v_3)]) (rest := []) (cfix X) (k_X12_mixed l G cy κ S _ mo (v_3) (v_3.toInt) hG ham rfl) (cwV 1 X.2.2.2.1 gk_X12_mixed rfl rfl rfl (by decide +kernel) ⟨Nat.le_of_ble_eq_true rfl, Nat.le_of_ble_eq_true rfl⟩) (pre_V X hw _ ham rfl (by decide) rfl) rfl rfl hl.1 rfl (lv_room (Nat.le_of_ble_eq_true rfl)) dL_law_1374 ⟨(by show cc + 0 ≤ 601024; omega), (by show nn + 0 ≤ 7293034; omega)⟩) cc nn (by show cc + 0 ≤ cc; omega) (by show nn + 0 ≤ nn; omega) (fun rr_14 S_15 H locs hp hw hfr hnw => ?_)
  have la_16 := LA_keep la_7 oq_8 hfr
  have oq_17 := oq_keep la_7 oq_8 hnw
  obtain ⟨hk_18, hp⟩ := hp
  have ax_21 : At S_15 x 11 := hk_18.fr.at hax
  have am_22 : At S_15 mo 12 := hk_18.fr.at ham
  have mi_19 : MI S_15 mo := MIe_free hG ham hk_18.fr (by decide +kernel) hMI
  have gr_20 : GR S_15 mo := GR_free hG ham hk_18.fr (by decide +kernel) hGR
  have ph_23 : Phc S_15 = Phc S := Ph_ok hG hk_18 (by decide +kernel) (by decide +kernel) (by decide +kernel)
  have ph_24 : Phs S_15 = Phs S := Ph_ok hG hk_18 (by decide +kernel) (by decide +kernel) (by decide +kernel)
  have td_25 : TD S_15 x mo := TD_fr hG hk_18.fr hax ham (by decide +kernel) (by decide +kernel) (by decide +kernel) (by decide +kernel) (by decide +kernel) (by decide +kernel) hTD
  have hg_26 : GX S_15 := hk_18.1
  have rg_27 := And.intro (z_lo rr_14) (z_hi rr_14)
  refine lv_pop X.1 X.2.1 dL_law_1377 rfl ?_
  refine lv_goto (tgt := 1505) X.1 X.2.1 dL_law_1378 (by decide) ?_
  exact K _ _ _ _ cc nn hw hg_26 ax_21 am_22 mi_19 gr_20 td_25 la_16 oq_17 (lv_sub hl [0, 1, 2, 3, 4] rfl) (by omega) (by omega)
set_option maxHeartbeats 4000000 in
set_option maxRecDepth 100000 in
theorem lc_27 {p : Program} {l : Launch} {e : Env} {s : State} {m : MethodId} {below : List Frame} {meth : Method} {c : Code} (hst : l.stackTraces = false) {b x mo oq L : Nat} {xs : Nat → Int32} {cL : ClassId} {G : va_G} {cy : Nat → ClassId} {κ : Nat → Nat} {S : PS} {H : Heap} {locs : List Loc} {ls : Array Slot} {cc nn : Nat} {Q : State → Prop} {i : Int32} {i_z : Int} (X : Cx p c cL_law 7 s #[Value.ref b] lw_tbl RL m G cy κ (fun q : Nat => s.heap.size ≤ q)) (hX : va_X b L xs s s.heap) (hbl : b < s.heap.size) (hbA : ¬ (fun q : Nat => s.heap.size ≤ q) b) (hdc : ∀ Y ∈ DcL, va_Nw (.declares (Bundle.initS Y)) s) (hkl : Kl cL s) (hAo : (fun q : Nat => s.heap.size ≤ q) oq) (hL : L ≤ 3072) (hz_i : i.toInt = i_z) (hi0 : 0 ≤ i_z) (hi1 : i_z + 6 ≤ (L : Int)) (hw : Wd G cy (fun q : Nat => s.heap.size ≤ q) s.heap S H locs) (hG : GX S) (hax : At S x 11) (ham : At S mo 12) (hMI : MI S mo) (hGR : GR S mo) (hTD : TD S x mo) (hLA : LA cL oq H) (hoq : oq ∉ pL S) (hl : lv_has ls 7 [(4, .int i), (3, .ref oq), (2, .ref mo), (1, .ref x), (0, .ref b)]) (hcc : cc + Phc S + 20000 ≤ 601024) (hnn : nn + Phs S + 100000 ≤ 7293034) (K : ∀ (S9 : PS) (H9 : Heap) (locs9 : List Loc) (ls9 : Array Slot) (c9 n9 : Nat), Wd G cy (fun q : Nat => s.heap.size ≤ q) s.heap S9 H9 locs9 → GX S9 → At S9 x 11 → At S9 mo 12 → MI S9 mo → GR S9 mo → TD S9 x mo → LA cL oq H9 → oq ∉ pL S9 → lv_has ls9 7 [(4, .int i), (3, .ref oq), (2, .ref mo), (1, .ref x), (0, .ref b)] → c9 + Phc S9 ≤ cc + Phc S + 102 → n9 + Phs S9 ≤ nn + Phs S + 1020 → W p l e room_1 s m #[Value.ref b] below meth c H9 locs9 c9 n9 Q (F0 m 1505 ls9 [])) : W p l e room_1 s m #[Value.ref b] below meth c H locs cc nn Q (F0 m 1381 ls []) := by
  refine lv_aload_n X.1 X.2.1 dL_law_1381 rfl (lv_at hl 3 rfl) ?_
  refine k_i (rm := { frames := 1, cells := 0, slots := 0, locals := 48 }) (av := [.ref x]) X hw (va_runV (As := []) (rest := []) (cfix X) (k_X11_day l G cy κ S _ x hG hax) (cwV 0 X.2.2.2.1 gk_X11_day rfl rfl rfl (by decide +kernel) ⟨Nat.le_of_ble_eq_true rfl, Nat.le_of_ble_eq_true rfl⟩) (pre_V X hw _ hax rfl (by decide) rfl) rfl rfl hl.1 rfl (lv_room (Nat.le_of_ble_eq_true rfl)) dL_law_1382 ⟨(by show cc + 0 ≤ 601024; omega), (by show nn + 0 ≤ 7293034; omega)⟩) cc nn (by show cc + 0 ≤ cc; omega) (by show nn + 0 ≤ nn; omega) (fun rr_1 S_2 H locs hp hw hfr hnw => ?_)
  have la_3 := LA_keep hLA hoq hfr
  have oq_4 := oq_keep hLA hoq hnw
  obtain ⟨hk_5, hp⟩ := hp
  have ax_8 : At S_2 x 11 := hk_5.fr.at hax
  have am_9 : At S_2 mo 12 := hk_5.fr.at ham
  have mi_6 : MI S_2 mo := MIe_free hG ham hk_5.fr (by decide +kernel) hMI
  have gr_7 : GR S_2 mo := GR_free hG ham hk_5.fr (by decide +kernel) hGR
  have ph_10 : Phc S_2 = Phc S := Ph_ok hG hk_5 (by decide +kernel) (by decide +kernel) (by decide +kernel)
  have ph_11 : Phs S_2 = Phs S := Ph_ok hG hk_5 (by decide +kernel) (by decide +kernel) (by decide +kernel)
  obtain ⟨⟨q_12, td_13, td_14, td_15⟩, td_16, td_17, ⟨u_18, td_19, td_20, td_21⟩, pn_22, ct_23, th_24, tx_25⟩ := hTD
  have hq_26 := mkhid hp
  have th_27 : pR S_2 1107 x = some q_12 := hk_5.fr.R' (by decide +kernel) hax td_13
  have th_28 : At S_2 q_12 8 := hk_5.fr.at td_14
  have th_31 : pR S_2 1105 x = some u_18 := hk_5.fr.R' (by decide +kernel) hax td_19
  have th_32 : At S_2 u_18 10 := hk_5.fr.at td_20
  have th_29 := (hp.2.2 _ td_13).2.1
  have th_30 : pI S_2 1245 mo = pI S 1245 mo := hk_5.fr.I' (by decide +kernel) ham rfl
  have tf_36 : (pI S_2 1102 x).toInt = (pI S 1102 x).toInt := congrArg Int32.toInt (hk_5.fr.I' (by decide +kernel) hax rfl)
  have tf_37 : (pI S_2 1104 x).toInt = (pI S 1104 x).toInt := congrArg Int32.toInt (hk_5.fr.I' (by decide +kernel) hax rfl)
  have tf_38 : (pI S_2 1201 mo).toInt = (pI S 1201 mo).toInt := congrArg Int32.toInt (hk_5.fr.I' (by decide +kernel) ham rfl)
  have tf_39 : (pI S_2 1211 mo).toInt = (pI S 1211 mo).toInt := congrArg Int32.toInt (hk_5.fr.I' (by decide +kernel) ham rfl)
  have tf_40 : (pI S_2 1000 u_18).toInt = (pI S 1000 u_18).toInt := congrArg Int32.toInt (hk_5.fr.I' (by decide +kernel) td_20 rfl)
  have tf_41 : (pI S_2 1000 u_18).toInt = (pI S 1000 u_18).toInt := congrArg Int32.toInt (hk_5.fr.I' (by decide +kernel) td_20 rfl)
  have tf_42 : (pI S_2 1000 u_18).toInt = (pI S 1000 u_18).toInt := congrArg Int32.toInt (hk_5.fr.I' (by decide +kernel) td_20 rfl)
  have tf_43 : (pI S_2 1228 mo).toInt = (pI S 1228 mo).toInt := congrArg Int32.toInt (hk_5.fr.I' (by decide +kernel) ham rfl)
  have tf_44 : (pI S_2 1228 mo).toInt = (pI S 1228 mo).toInt := congrArg Int32.toInt (hk_5.fr.I' (by decide +kernel) ham rfl)
  have th_46 : mA S_2 mo 1210 = thinF := TH_fr hG hk_5.fr ham (by decide +kernel) th_24
  have ct_45 : CT S_2 x mo := CT_eq hG hk_5.fr hax (by decide +kernel) (by decide +kernel) (S12_fr hG hk_5.fr ham (by decide +kernel)) ct_23
  have th_35 : PN S_2 x := PN_fr hG hax hk_5.fr (by decide +kernel) (by decide +kernel) (by decide +kernel) pn_22
  have te_47 := (hp.2.2 _ td_13).1
  have hg_48 : GX S_2 := hk_5.1
  have rg_49 := And.intro (z_lo rr_1) (z_hi rr_1)
  refine lv_pop X.1 X.2.1 dL_law_1385 rfl ?_
  refine lv_aload_n X.1 X.2.1 dL_law_1386 rfl (lv_at hl 2 rfl) ?_
  refine k_i (rm := { frames := 1, cells := 0, slots := 0, locals := 48 }) (av := [.ref mo]) X hw (va_runV (As := []) (rest := []) (cfix X) (k_X12_day l G cy κ S_2 _ mo hg_48 am_9) (cwV 0 X.2.2.2.1 gk_X12_day rfl rfl rfl (by decide +kernel) ⟨Nat.le_of_ble_eq_true rfl, Nat.le_of_ble_eq_true rfl⟩) (pre_V X hw _ am_9 rfl (by decide) rfl) rfl rfl hl.1 rfl (lv_room (Nat.le_of_ble_eq_true rfl)) dL_law_1387 ⟨(by show cc + 0 ≤ 601024; omega), (by show nn + 0 ≤ 7293034; omega)⟩) cc nn (by show cc + 0 ≤ cc; omega) (by show nn + 0 ≤ nn; omega) (fun rr_50 S_51 H locs hp hw hfr hnw => ?_)
  have la_52 := LA_keep la_3 oq_4 hfr
  have oq_53 := oq_keep la_3 oq_4 hnw
  obtain ⟨hk_54, hp⟩ := hp
  have ax_57 : At S_51 x 11 := hk_54.fr.at ax_8
  have am_58 : At S_51 mo 12 := hk_54.fr.at am_9
  have mi_55 : MI S_51 mo := MIe_free hg_48 am_9 hk_54.fr (by decide +kernel) mi_6
  have gr_56 : GR S_51 mo := GR_free hg_48 am_9 hk_54.fr (by decide +kernel) gr_7
  have ph_59 : Phc S_51 = Phc S_2 := Ph_ok hg_48 hk_54 (by decide +kernel) (by decide +kernel) (by decide +kernel)
  have ph_60 : Phs S_51 = Phs S_2 := Ph_ok hg_48 hk_54 (by decide +kernel) (by decide +kernel) (by decide +kernel)
  have th_61 : pR S_51 1107 x = some q_12 := hk_54.fr.R' (by decide +kernel) ax_8 th_27
  have th_62 : At S_51 q_12 8 := hk_54.fr.at th_28
  have th_65 : pR S_51 1105 x = some u_18 := hk_54.fr.R' (by decide +kernel) ax_8 th_31
  have th_66 : At S_51 u_18 10 := hk_54.fr.at th_32
  have th_63 : pI S_51 801 q_12 = pI S_2 801 q_12 := hk_54.fr.I' (by decide +kernel) th_28 rfl
  have th_64 := hp.2.2.2
  have tf_70 : (pI S_51 1102 x).toInt = (pI S_2 1102 x).toInt := congrArg Int32.toInt (hk_54.fr.I' (by decide +kernel) ax_8 rfl)
  have tf_71 : (pI S_51 1104 x).toInt = (pI S_2 1104 x).toInt := congrArg Int32.toInt (hk_54.fr.I' (by decide +kernel) ax_8 rfl)
  have tf_72 : (pI S_51 1201 mo).toInt = (pI S_2 1201 mo).toInt := congrArg Int32.toInt (hk_54.fr.I' (by decide +kernel) am_9 rfl)
  have tf_73 : (pI S_51 1211 mo).toInt = (pI S_2 1211 mo).toInt := congrArg Int32.toInt (hk_54.fr.I' (by decide +kernel) am_9 rfl)
  have tf_74 : (pI S_51 1000 u_18).toInt = (pI S_2 1000 u_18).toInt := congrArg Int32.toInt (hk_54.fr.I' (by decide +kernel) th_32 rfl)
  have tf_75 : (pI S_51 1000 u_18).toInt = (pI S_2 1000 u_18).toInt := congrArg Int32.toInt (hk_54.fr.I' (by decide +kernel) th_32 rfl)
  have tf_76 : (pI S_51 1000 u_18).toInt = (pI S_2 1000 u_18).toInt := congrArg Int32.toInt (hk_54.fr.I' (by decide +kernel) th_32 rfl)
  have tf_77 : (pI S_51 1228 mo).toInt = (pI S_2 1228 mo).toInt := congrArg Int32.toInt (hk_54.fr.I' (by decide +kernel) am_9 rfl)
  have tf_78 : (pI S_51 1228 mo).toInt = (pI S_2 1228 mo).toInt := congrArg Int32.toInt (hk_54.fr.I' (by decide +kernel) am_9 rfl)
  have th_80 : mA S_51 mo 1210 = thinF := TH_fr hg_48 hk_54.fr am_9 (by decide +kernel) th_46
  have ct_79 : CT S_51 x mo := CT_eq hg_48 hk_54.fr ax_8 (by decide +kernel) (by decide +kernel) (S12_fr hg_48 hk_54.fr am_9 (by decide +kernel)) ct_45
  have th_69 : PN S_51 x := PN_fr hg_48 ax_8 hk_54.fr (by decide +kernel) (by decide +kernel) (by decide +kernel) th_35
  have td_81 : TD S_51 x mo := ⟨⟨q_12, th_61, th_62, by rw [th_63, th_29, th_64, th_30, td_15]⟩, by omega, by omega, ⟨u_18, th_65, th_66, by omega⟩, th_69, ct_79, th_80, TX_fr hg_48 hk_54.fr ax_8 am_9 (by decide +kernel) (TX_fr hG hk_5.fr hax ham (by decide +kernel) tx_25)⟩
  have rq_83 : rr_1.toInt = rr_50.toInt := congrArg Int32.toInt (by rw [te_47, hp.2.2.1, th_30, td_15])
  have hg_84 : GX S_51 := hk_54.1
  have rg_85 := And.intro (z_lo rr_50) (z_hi rr_50)
  refine lv_pop X.1 X.2.1 dL_law_1390 rfl ?_
  refine lv_goto (tgt := 1505) X.1 X.2.1 dL_law_1391 (by decide) ?_
  exact K _ _ _ _ cc nn hw hg_84 ax_57 am_58 mi_55 gr_56 td_81 la_52 oq_53 (lv_sub hl [0, 1, 2, 3, 4] rfl) (by omega) (by omega)
set_option maxHeartbeats 4000000 in
set_option maxRecDepth 100000 in
theorem lc_28 {p : Program} {l : Launch} {e : Env} {s : State} {m : MethodId} {below : List Frame} {meth : Method} {c : Code} (hst : l.stackTraces = false) {b x mo oq L : Nat} {xs : Nat → Int32} {cL : ClassId} {G : va_G} {cy : Nat → ClassId} {κ : Nat → Nat} {S : PS} {H : Heap} {locs : List Loc} {ls : Array Slot} {cc nn : Nat} {Q : State → Prop} {i : Int32} {i_z : Int} (X : Cx p c cL_law 7 s #[Value.ref b] lw_tbl RL m G cy κ (fun q : Nat => s.heap.size ≤ q)) (hX : va_X b L xs s s.heap) (hbl : b < s.heap.size) (hbA : ¬ (fun q : Nat => s.heap.size ≤ q) b) (hdc : ∀ Y ∈ DcL, va_Nw (.declares (Bundle.initS Y)) s) (hkl : Kl cL s) (hAo : (fun q : Nat => s.heap.size ≤ q) oq) (hL : L ≤ 3072) (hz_i : i.toInt = i_z) (hi0 : 0 ≤ i_z) (hi1 : i_z + 6 ≤ (L : Int)) (hw : Wd G cy (fun q : Nat => s.heap.size ≤ q) s.heap S H locs) (hG : GX S) (hax : At S x 11) (ham : At S mo 12) (hMI : MI S mo) (hGR : GR S mo) (hTD : TD S x mo) (hLA : LA cL oq H) (hoq : oq ∉ pL S) (hl : lv_has ls 7 [(4, .int i), (3, .ref oq), (2, .ref mo), (1, .ref x), (0, .ref b)]) (hcc : cc + Phc S + 20000 ≤ 601024) (hnn : nn + Phs S + 100000 ≤ 7293034) (K : ∀ (S9 : PS) (H9 : Heap) (locs9 : List Loc) (ls9 : Array Slot) (c9 n9 : Nat), Wd G cy (fun q : Nat => s.heap.size ≤ q) s.heap S9 H9 locs9 → GX S9 → At S9 x 11 → At S9 mo 12 → MI S9 mo → GR S9 mo → TD S9 x mo → LA cL oq H9 → oq ∉ pL S9 → lv_has ls9 7 [(4, .int i), (3, .ref oq), (2, .ref mo), (1, .ref x), (0, .ref b)] → c9 + Phc S9 ≤ cc + Phc S + 102 → n9 + Phs S9 ≤ nn + Phs S + 1020 → W p l e room_1 s m #[Value.ref b] below meth c H9 locs9 c9 n9 Q (F0 m 1505 ls9 [])) : W p l e room_1 s m #[Value.ref b] below meth c H locs cc nn Q (F0 m 1394 ls []) := by
  refine lv_aload_n X.1 X.2.1 dL_law_1394 rfl (lv_at hl 3 rfl) ?_
  refine lv_aload_n X.1 X.2.1 dL_law_1395 rfl (lv_at hl 4 rfl) ?_
  refine lv_iload X.1 X.2.1 dL_law_1396 (lv_at hl 0 rfl) ?_
  refine lv_iconst (v := 1) X.1 X.2.1 dL_law_1398 (by decide) ?_
  refine lv_iadd X.1 X.2.1 dL_law_1399 ?_
  refine lv_topi (fun v_1 ev_1 => ?_)
  have z_2 : v_1.toInt = i_z + 1 := z_add ev_1 hz_i ti_1 (by omega) (by omega)
  refine va_sld X.1 X.2.1 hX hbl hbA hw.2.2 (z_ix rfl (by omega) (by omega)) dL_law_1400 ?_
  refine lv_topi (fun v_3 ev_3 => ?_)
  have rg_4 := And.intro (z_lo v_3) (z_hi v_3)
  refine lv_aload_n X.1 X.2.1 dL_law_1401 rfl (lv_at hl 4 rfl) ?_
  refine lv_iload X.1 X.2.1 dL_law_1402 (lv_at hl 0 rfl) ?_
  refine lv_iconst (v := 2) X.1 X.2.1 dL_law_1404 (by decide) ?_
  refine lv_iadd X.1 X.2.1 dL_law_1405 ?_
  refine lv_topi (fun v_5 ev_5 => ?_)
  have z_6 : v_5.toInt = i_z + 2 := z_add ev_5 hz_i ti_2 (by omega) (by omega)
  refine va_sld X.1 X.2.1 hX hbl hbA hw.2.2 (z_ix rfl (by omega) (by omega)) dL_law_1406 ?_
  refine lv_topi (fun v_7 ev_7 => ?_)
  have rg_8 := And.intro (z_lo v_7) (z_hi v_7)
  obtain ⟨nu_9, Ks_10, sk_11, hwt_12⟩ := hTD.2.2.2.2.2.2.2.2.2
  refine k_i (rm := { frames := 2, cells := 0, slots := 0, locals := 96 }) (av := [.ref x, .int (v_3), .int (v_7)]) X hw (va_runV (As := [.int (v_3), .int (v_7)]) (rest := []) (cfix X) (k_X11_fault7 l G cy κ S _ x (v_3) (v_3.toInt) (v_7) (v_7.toInt) Ks_10 hG hax rfl rfl hwt_12.2.1) (cwV 2 X.2.2.2.1 gk_X11_fault rfl rfl rfl (by decide +kernel) ⟨Nat.le_of_ble_eq_true rfl, Nat.le_of_ble_eq_true rfl⟩) (pre_V X hw _ hax rfl (by decide) rfl) rfl rfl hl.1 rfl (lv_room (Nat.le_of_ble_eq_true rfl)) dL_law_1407 ⟨(by show cc + 0 ≤ 601024; omega), (by show nn + 0 ≤ 7293034; omega)⟩) cc nn (by show cc + 0 ≤ cc; omega) (by show nn + 0 ≤ nn; omega) (fun rr_13 S_14 H locs hp hw hfr hnw => ?_)
  have la_15 := LA_keep hLA hoq hfr
  have oq_16 := oq_keep hLA hoq hnw
  obtain ⟨hk_17, hp⟩ := hp
  have ax_20 : At S_14 x 11 := hk_17.fr.at hax
  have am_21 : At S_14 mo 12 := hk_17.fr.at ham
  have mi_18 : MI S_14 mo := MIe_free hG ham hk_17.fr (by decide +kernel) hMI
  have gr_19 : GR S_14 mo := GR_free hG ham hk_17.fr (by decide +kernel) hGR
  have ph_22 : Phc S_14 = Phc S := Ph_ok hG hk_17 (by decide +kernel) (by decide +kernel) (by decide +kernel)
  have ph_23 : Phs S_14 = Phs S := Ph_ok hG hk_17 (by decide +kernel) (by decide +kernel) (by decide +kernel)
  have td_24 : TD S_14 x mo := TD_fr hG hk_17.fr hax ham (by decide +kernel) (by decide +kernel) (by decide +kernel) (by decide +kernel) (by decide +kernel) (by decide +kernel) hTD
  have hg_25 : GX S_14 := hk_17.1
  have rg_26 := And.intro (z_lo rr_13) (z_hi rr_13)
  refine lv_pop X.1 X.2.1 dL_law_1410 rfl ?_
  refine lv_aload_n X.1 X.2.1 dL_law_1411 rfl (lv_at hl 2 rfl) ?_
  refine lv_aload_n X.1 X.2.1 dL_law_1412 rfl (lv_at hl 4 rfl) ?_
  refine lv_iload X.1 X.2.1 dL_law_1413 (lv_at hl 0 rfl) ?_
  refine lv_iconst (v := 1) X.1 X.2.1 dL_law_1415 (by decide) ?_
  refine lv_iadd X.1 X.2.1 dL_law_1416 ?_
  refine lv_topi (fun v_27 ev_27 => ?_)
  have z_28 : v_27.toInt = i_z + 1 := z_add ev_27 hz_i ti_1 (by omega) (by omega)
  refine va_sld X.1 X.2.1 hX hbl hbA hw.2.2 (z_ix rfl (by omega) (by omega)) dL_law_1417 ?_
  refine lv_topi (fun v_29 ev_29 => ?_)
  have es_30 : v_3 = v_29 := by rw [ev_3, ev_29, ev_1, ev_27]
  subst es_30
  refine lv_aload_n X.1 X.2.1 dL_law_1418 rfl (lv_at hl 4 rfl) ?_
  refine lv_iload X.1 X.2.1 dL_law_1419 (lv_at hl 0 rfl) ?_
  refine lv_iconst (v := 2) X.1 X.2.1 dL_law_1421 (by decide) ?_
  refine lv_iadd X.1 X.2.1 dL_law_1422 ?_
  refine lv_topi (fun v_31 ev_31 => ?_)
  have z_32 : v_31.toInt = i_z + 2 := z_add ev_31 hz_i ti_2 (by omega) (by omega)
  refine va_sld X.1 X.2.1 hX hbl hbA hw.2.2 (z_ix rfl (by omega) (by omega)) dL_law_1423 ?_
  refine lv_topi (fun v_33 ev_33 => ?_)
  have es_34 : v_7 = v_33 := by rw [ev_7, ev_33, ev_5, ev_31]
  subst es_34
  refine k_i (rm := { frames := 3, cells := 0, slots := 0, locals := 144 }) (av := [.ref mo, .int (v_3), .int (v_7)]) X hw (va_runV (As := [.int (v_3), .int (v_7)]) (rest := []) (cfix X) (k_X12_fault7 l G cy κ S_14 _ mo (v_3) (v_3.toInt) (v_7) (v_7.toInt) hg_25 am_21 rfl rfl) (cwV 2 X.2.2.2.1 gk_X12_fault rfl rfl rfl (by decide +kernel) ⟨Nat.le_of_ble_eq_true rfl, Nat.le_of_ble_eq_true rfl⟩) (pre_V X hw _ am_21 rfl (by decide) rfl) rfl rfl hl.1 rfl (lv_room (Nat.le_of_ble_eq_true rfl)) dL_law_1424 ⟨(by show cc + 0 ≤ 601024; omega), (by show nn + 0 ≤ 7293034; omega)⟩) cc nn (by show cc + 0 ≤ cc; omega) (by show nn + 0 ≤ nn; omega) (fun rr_35 S_36 H locs hp hw hfr hnw => ?_)
  have la_37 := LA_keep la_15 oq_16 hfr
  have oq_38 := oq_keep la_15 oq_16 hnw
  obtain ⟨hk_39, hp⟩ := hp
  have ax_42 : At S_36 x 11 := hk_39.fr.at ax_20
  have am_43 : At S_36 mo 12 := hk_39.fr.at am_21
  have mi_40 : MI S_36 mo := MIe_free hg_25 am_21 hk_39.fr (by decide +kernel) mi_18
  have gr_41 : GR S_36 mo := GR_free hg_25 am_21 hk_39.fr (by decide +kernel) gr_19
  have ph_44 : Phc S_36 = Phc S_14 := Ph_ok hg_25 hk_39 (by decide +kernel) (by decide +kernel) (by decide +kernel)
  have ph_45 : Phs S_36 = Phs S_14 := Ph_ok hg_25 hk_39 (by decide +kernel) (by decide +kernel) (by decide +kernel)
  have td_46 : TD S_36 x mo := TD_fr hg_25 hk_39.fr ax_20 am_21 (by decide +kernel) (by decide +kernel) (by decide +kernel) (by decide +kernel) (by decide +kernel) (by decide +kernel) td_24
  have hg_47 : GX S_36 := hk_39.1
  have rg_48 := And.intro (z_lo rr_35) (z_hi rr_35)
  refine lv_pop X.1 X.2.1 dL_law_1427 rfl ?_
  refine lv_goto (tgt := 1505) X.1 X.2.1 dL_law_1428 (by decide) ?_
  exact K _ _ _ _ cc nn hw hg_47 ax_42 am_43 mi_40 gr_41 td_46 la_37 oq_38 (lv_sub hl [0, 1, 2, 3, 4] rfl) (by omega) (by omega)
set_option maxHeartbeats 4000000 in
set_option maxRecDepth 100000 in
theorem lc_29 {p : Program} {l : Launch} {e : Env} {s : State} {m : MethodId} {below : List Frame} {meth : Method} {c : Code} (hst : l.stackTraces = false) {b x mo oq L : Nat} {xs : Nat → Int32} {cL : ClassId} {G : va_G} {cy : Nat → ClassId} {κ : Nat → Nat} {S : PS} {H : Heap} {locs : List Loc} {ls : Array Slot} {cc nn : Nat} {Q : State → Prop} {i : Int32} {i_z : Int} (X : Cx p c cL_law 7 s #[Value.ref b] lw_tbl RL m G cy κ (fun q : Nat => s.heap.size ≤ q)) (hX : va_X b L xs s s.heap) (hbl : b < s.heap.size) (hbA : ¬ (fun q : Nat => s.heap.size ≤ q) b) (hdc : ∀ Y ∈ DcL, va_Nw (.declares (Bundle.initS Y)) s) (hkl : Kl cL s) (hAo : (fun q : Nat => s.heap.size ≤ q) oq) (hL : L ≤ 3072) (hz_i : i.toInt = i_z) (hi0 : 0 ≤ i_z) (hi1 : i_z + 6 ≤ (L : Int)) (hw : Wd G cy (fun q : Nat => s.heap.size ≤ q) s.heap S H locs) (hG : GX S) (hax : At S x 11) (ham : At S mo 12) (hMI : MI S mo) (hGR : GR S mo) (hTD : TD S x mo) (hLA : LA cL oq H) (hoq : oq ∉ pL S) (hl : lv_has ls 7 [(4, .int i), (3, .ref oq), (2, .ref mo), (1, .ref x), (0, .ref b)]) (hcc : cc + Phc S + 20000 ≤ 601024) (hnn : nn + Phs S + 100000 ≤ 7293034) (K : ∀ (S9 : PS) (H9 : Heap) (locs9 : List Loc) (ls9 : Array Slot) (c9 n9 : Nat), Wd G cy (fun q : Nat => s.heap.size ≤ q) s.heap S9 H9 locs9 → GX S9 → At S9 x 11 → At S9 mo 12 → MI S9 mo → GR S9 mo → TD S9 x mo → LA cL oq H9 → oq ∉ pL S9 → lv_has ls9 7 [(4, .int i), (3, .ref oq), (2, .ref mo), (1, .ref x), (0, .ref b)] → c9 + Phc S9 ≤ cc + Phc S + 102 → n9 + Phs S9 ≤ nn + Phs S + 1020 → W p l e room_1 s m #[Value.ref b] below meth c H9 locs9 c9 n9 Q (F0 m 1505 ls9 [])) : W p l e room_1 s m #[Value.ref b] below meth c H locs cc nn Q (F0 m 1431 ls []) := by
  refine lv_aload_n X.1 X.2.1 dL_law_1431 rfl (lv_at hl 3 rfl) ?_
  refine lv_aload_n X.1 X.2.1 dL_law_1432 rfl (lv_at hl 4 rfl) ?_
  refine lv_iload X.1 X.2.1 dL_law_1433 (lv_at hl 0 rfl) ?_
  refine lv_iconst (v := 1) X.1 X.2.1 dL_law_1435 (by decide) ?_
  refine lv_iadd X.1 X.2.1 dL_law_1436 ?_
  refine lv_topi (fun v_1 ev_1 => ?_)
  have z_2 : v_1.toInt = i_z + 1 := z_add ev_1 hz_i ti_1 (by omega) (by omega)
  refine va_sld X.1 X.2.1 hX hbl hbA hw.2.2 (z_ix rfl (by omega) (by omega)) dL_law_1437 ?_
  refine lv_topi (fun v_3 ev_3 => ?_)
  have rg_4 := And.intro (z_lo v_3) (z_hi v_3)
  refine lv_aload_n X.1 X.2.1 dL_law_1438 rfl (lv_at hl 4 rfl) ?_
  refine lv_iload X.1 X.2.1 dL_law_1439 (lv_at hl 0 rfl) ?_
  refine lv_iconst (v := 2) X.1 X.2.1 dL_law_1441 (by decide) ?_
  refine lv_iadd X.1 X.2.1 dL_law_1442 ?_
  refine lv_topi (fun v_5 ev_5 => ?_)
  have z_6 : v_5.toInt = i_z + 2 := z_add ev_5 hz_i ti_2 (by omega) (by omega)
  refine va_sld X.1 X.2.1 hX hbl hbA hw.2.2 (z_ix rfl (by omega) (by omega)) dL_law_1443 ?_
  refine lv_topi (fun v_7 ev_7 => ?_)
  have rg_8 := And.intro (z_lo v_7) (z_hi v_7)
  refine lv_aload_n X.1 X.2.1 dL_law_1444 rfl (lv_at hl 4 rfl) ?_
  refine lv_iload X.1 X.2.1 dL_law_1445 (lv_at hl 0 rfl) ?_
  refine lv_iconst (v := 3) X.1 X.2.1 dL_law_1447 (by decide) ?_
  refine lv_iadd X.1 X.2.1 dL_law_1448 ?_
  refine lv_topi (fun v_9 ev_9 => ?_)
  have z_10 : v_9.toInt = i_z + 3 := z_add ev_9 hz_i ti_3 (by omega) (by omega)
  refine va_sld X.1 X.2.1 hX hbl hbA hw.2.2 (z_ix rfl (by omega) (by omega)) dL_law_1449 ?_
  refine lv_topi (fun v_11 ev_11 => ?_)
  have rg_12 := And.intro (z_lo v_11) (z_hi v_11)
  refine k_i (rm := { frames := 4, cells := 0, slots := 0, locals := 192 }) (av := [.ref x, .int (v_3), .int (v_7), .int (v_11)]) X hw (va_runV (As := [.int (v_3), .int (v_7), .int (v_11)]) (rest := []) (cfix X) (k_X11_pay l G cy κ S _ x (v_3) (v_3.toInt) (v_7) (v_7.toInt) (v_11) (v_11.toInt) hG hax rfl rfl rfl) (cwV 3 X.2.2.2.1 gk_X11_pay rfl rfl rfl (by decide +kernel) ⟨Nat.le_of_ble_eq_true rfl, Nat.le_of_ble_eq_true rfl⟩) (pre_V X hw _ hax rfl (by decide) rfl) rfl rfl hl.1 rfl (lv_room (Nat.le_of_ble_eq_true rfl)) dL_law_1450 ⟨(by show cc + 0 ≤ 601024; omega), (by show nn + 0 ≤ 7293034; omega)⟩) cc nn (by show cc + 0 ≤ cc; omega) (by show nn + 0 ≤ nn; omega) (fun rr_13 S_14 H locs hp hw hfr hnw => ?_)
  have la_15 := LA_keep hLA hoq hfr
  have oq_16 := oq_keep hLA hoq hnw
  obtain ⟨e2, hp⟩ := hp
  subst e2
  have rg_17 := And.intro (z_lo rr_13) (z_hi rr_13)
  refine lv_pop X.1 X.2.1 dL_law_1453 rfl ?_
  refine lv_aload_n X.1 X.2.1 dL_law_1454 rfl (lv_at hl 2 rfl) ?_
  refine lv_aload_n X.1 X.2.1 dL_law_1455 rfl (lv_at hl 4 rfl) ?_
  refine lv_iload X.1 X.2.1 dL_law_1456 (lv_at hl 0 rfl) ?_
  refine lv_iconst (v := 1) X.1 X.2.1 dL_law_1458 (by decide) ?_
  refine lv_iadd X.1 X.2.1 dL_law_1459 ?_
  refine lv_topi (fun v_18 ev_18 => ?_)
  have z_19 : v_18.toInt = i_z + 1 := z_add ev_18 hz_i ti_1 (by omega) (by omega)
  refine va_sld X.1 X.2.1 hX hbl hbA hw.2.2 (z_ix rfl (by omega) (by omega)) dL_law_1460 ?_
  refine lv_topi (fun v_20 ev_20 => ?_)
  have es_21 : v_3 = v_20 := by rw [ev_3, ev_20, ev_1, ev_18]
  subst es_21
  refine lv_aload_n X.1 X.2.1 dL_law_1461 rfl (lv_at hl 4 rfl) ?_
  refine lv_iload X.1 X.2.1 dL_law_1462 (lv_at hl 0 rfl) ?_
  refine lv_iconst (v := 2) X.1 X.2.1 dL_law_1464 (by decide) ?_
  refine lv_iadd X.1 X.2.1 dL_law_1465 ?_
  refine lv_topi (fun v_22 ev_22 => ?_)
  have z_23 : v_22.toInt = i_z + 2 := z_add ev_22 hz_i ti_2 (by omega) (by omega)
  refine va_sld X.1 X.2.1 hX hbl hbA hw.2.2 (z_ix rfl (by omega) (by omega)) dL_law_1466 ?_
  refine lv_topi (fun v_24 ev_24 => ?_)
  have es_25 : v_7 = v_24 := by rw [ev_7, ev_24, ev_5, ev_22]
  subst es_25
  refine lv_aload_n X.1 X.2.1 dL_law_1467 rfl (lv_at hl 4 rfl) ?_
  refine lv_iload X.1 X.2.1 dL_law_1468 (lv_at hl 0 rfl) ?_
  refine lv_iconst (v := 3) X.1 X.2.1 dL_law_1470 (by decide) ?_
  refine lv_iadd X.1 X.2.1 dL_law_1471 ?_
  refine lv_topi (fun v_26 ev_26 => ?_)
  have z_27 : v_26.toInt = i_z + 3 := z_add ev_26 hz_i ti_3 (by omega) (by omega)
  refine va_sld X.1 X.2.1 hX hbl hbA hw.2.2 (z_ix rfl (by omega) (by omega)) dL_law_1472 ?_
  refine lv_topi (fun v_28 ev_28 => ?_)
  have es_29 : v_11 = v_28 := by rw [ev_11, ev_28, ev_9, ev_26]
  subst es_29
  refine k_i (rm := { frames := 8, cells := 0, slots := 0, locals := 384 }) (av := [.ref mo, .int (v_3), .int (v_7), .int (v_11)]) X hw (va_runV (As := [.int (v_3), .int (v_7), .int (v_11)]) (rest := []) (cfix X) (k_X12_pay l G cy κ S _ mo (v_3) (v_3.toInt) (v_7) (v_7.toInt) (v_11) (v_11.toInt) hG ham rfl rfl rfl hMI) (cwV 3 X.2.2.2.1 gk_X12_pay rfl rfl rfl (by decide +kernel) ⟨Nat.le_of_ble_eq_true rfl, Nat.le_of_ble_eq_true rfl⟩) (pre_V X hw _ ham rfl (by decide) rfl) rfl rfl hl.1 rfl (lv_room (Nat.le_of_ble_eq_true rfl)) dL_law_1473 ⟨(by show cc + 0 ≤ 601024; omega), (by show nn + 0 ≤ 7293034; omega)⟩) cc nn (by show cc + 0 ≤ cc; omega) (by show nn + 0 ≤ nn; omega) (fun rr_30 S_31 H locs hp hw hfr hnw => ?_)
  have la_32 := LA_keep la_15 oq_16 hfr
  have oq_33 := oq_keep la_15 oq_16 hnw
  obtain ⟨hk_34, hp⟩ := hp
  have ax_37 : At S_31 x 11 := hk_34.fr.at hax
  have am_38 : At S_31 mo 12 := hk_34.fr.at ham
  have mi_35 : MI S_31 mo := MIe_free hG ham hk_34.fr (by decide +kernel) hMI
  have gr_36 : GR S_31 mo := GR_free hG ham hk_34.fr (by decide +kernel) hGR
  have ph_39 : Phc S_31 = Phc S := Ph_ok hG hk_34 (by decide +kernel) (by decide +kernel) (by decide +kernel)
  have ph_40 : Phs S_31 = Phs S := Ph_ok hG hk_34 (by decide +kernel) (by decide +kernel) (by decide +kernel)
  have td_41 : TD S_31 x mo := TD_fr hG hk_34.fr hax ham (by decide +kernel) (by decide +kernel) (by decide +kernel) (by decide +kernel) (by decide +kernel) (by decide +kernel) hTD
  have hg_42 : GX S_31 := hk_34.1
  have rg_43 := And.intro (z_lo rr_30) (z_hi rr_30)
  refine lv_pop X.1 X.2.1 dL_law_1476 rfl ?_
  refine lv_goto (tgt := 1505) X.1 X.2.1 dL_law_1477 (by decide) ?_
  exact K _ _ _ _ cc nn hw hg_42 ax_37 am_38 mi_35 gr_36 td_41 la_32 oq_33 (lv_sub hl [0, 1, 2, 3, 4] rfl) (by omega) (by omega)
set_option maxHeartbeats 4000000 in
set_option maxRecDepth 100000 in
theorem lc_30 {p : Program} {l : Launch} {e : Env} {s : State} {m : MethodId} {below : List Frame} {meth : Method} {c : Code} (hst : l.stackTraces = false) {b x mo oq L : Nat} {xs : Nat → Int32} {cL : ClassId} {G : va_G} {cy : Nat → ClassId} {κ : Nat → Nat} {S : PS} {H : Heap} {locs : List Loc} {ls : Array Slot} {cc nn : Nat} {Q : State → Prop} {i : Int32} {i_z : Int} (X : Cx p c cL_law 7 s #[Value.ref b] lw_tbl RL m G cy κ (fun q : Nat => s.heap.size ≤ q)) (hX : va_X b L xs s s.heap) (hbl : b < s.heap.size) (hbA : ¬ (fun q : Nat => s.heap.size ≤ q) b) (hdc : ∀ Y ∈ DcL, va_Nw (.declares (Bundle.initS Y)) s) (hkl : Kl cL s) (hAo : (fun q : Nat => s.heap.size ≤ q) oq) (hL : L ≤ 3072) (hz_i : i.toInt = i_z) (hi0 : 0 ≤ i_z) (hi1 : i_z + 6 ≤ (L : Int)) (hw : Wd G cy (fun q : Nat => s.heap.size ≤ q) s.heap S H locs) (hG : GX S) (hax : At S x 11) (ham : At S mo 12) (hMI : MI S mo) (hGR : GR S mo) (hTD : TD S x mo) (hLA : LA cL oq H) (hoq : oq ∉ pL S) (hl : lv_has ls 7 [(4, .int i), (3, .ref oq), (2, .ref mo), (1, .ref x), (0, .ref b)]) (hcc : cc + Phc S + 20000 ≤ 601024) (hnn : nn + Phs S + 100000 ≤ 7293034) (K : ∀ (S9 : PS) (H9 : Heap) (locs9 : List Loc) (ls9 : Array Slot) (c9 n9 : Nat), Wd G cy (fun q : Nat => s.heap.size ≤ q) s.heap S9 H9 locs9 → GX S9 → At S9 x 11 → At S9 mo 12 → MI S9 mo → GR S9 mo → TD S9 x mo → LA cL oq H9 → oq ∉ pL S9 → lv_has ls9 7 [(4, .int i), (3, .ref oq), (2, .ref mo), (1, .ref x), (0, .ref b)] → c9 + Phc S9 ≤ cc + Phc S + 102 → n9 + Phs S9 ≤ nn + Phs S + 1020 → W p l e room_1 s m #[Value.ref b] below meth c H9 locs9 c9 n9 Q (F0 m 1505 ls9 [])) : W p l e room_1 s m #[Value.ref b] below meth c H locs cc nn Q (F0 m 1480 ls []) := by
  refine lv_aload_n X.1 X.2.1 dL_law_1480 rfl (lv_at hl 3 rfl) ?_
  refine lv_aload_n X.1 X.2.1 dL_law_1481 rfl (lv_at hl 4 rfl) ?_
  refine lv_iload X.1 X.2.1 dL_law_1482 (lv_at hl 0 rfl) ?_
  refine lv_iconst (v := 1) X.1 X.2.1 dL_law_1484 (by decide) ?_
  refine lv_iadd X.1 X.2.1 dL_law_1485 ?_
  refine lv_topi (fun v_1 ev_1 => ?_)
  have z_2 : v_1.toInt = i_z + 1 := z_add ev_1 hz_i ti_1 (by omega) (by omega)
  refine va_sld X.1 X.2.1 hX hbl hbA hw.2.2 (z_ix rfl (by omega) (by omega)) dL_law_1486 ?_
  refine lv_topi (fun v_3 ev_3 => ?_)
  have rg_4 := And.intro (z_lo v_3) (z_hi v_3)
  refine k_i (rm := { frames := 3, cells := 0, slots := 0, locals := 144 }) (av := [.ref x, .int (v_3)]) X hw (va_runV (As := [.int (v_3)]) (rest := []) (cfix X) (k_X11_count l G cy κ S _ x (v_3) (v_3.toInt) hG hax rfl) (cwV 1 X.2.2.2.1 gk_X11_count rfl rfl rfl (by decide +kernel) ⟨Nat.le_of_ble_eq_true rfl, Nat.le_of_ble_eq_true rfl⟩) (pre_V X hw _ hax rfl (by decide) rfl) rfl rfl hl.1 rfl (lv_room (Nat.le_of_ble_eq_true rfl)) dL_law_1487 ⟨(by show cc + 0 ≤ 601024; omega), (by show nn + 0 ≤ 7293034; omega)⟩) cc nn (by show cc + 0 ≤ cc; omega) (by show nn + 0 ≤ nn; omega) (fun rr_5 S_6 H locs hp hw hfr hnw => ?_)
  have la_7 := LA_keep hLA hoq hfr
  have oq_8 := oq_keep hLA hoq hnw
  obtain ⟨e2, hp⟩ := hp
  subst e2
  have rg_9 := And.intro (z_lo rr_5) (z_hi rr_5)
  refine lv_pop X.1 X.2.1 dL_law_1490 rfl ?_
  refine lv_aload_n X.1 X.2.1 dL_law_1491 rfl (lv_at hl 2 rfl) ?_
  refine lv_aload_n X.1 X.2.1 dL_law_1492 rfl (lv_at hl 4 rfl) ?_
  refine lv_iload X.1 X.2.1 dL_law_1493 (lv_at hl 0 rfl) ?_
  refine lv_iconst (v := 1) X.1 X.2.1 dL_law_1495 (by decide) ?_
  refine lv_iadd X.1 X.2.1 dL_law_1496 ?_
  refine lv_topi (fun v_10 ev_10 => ?_)
  have z_11 : v_10.toInt = i_z + 1 := z_add ev_10 hz_i ti_1 (by omega) (by omega)
  refine va_sld X.1 X.2.1 hX hbl hbA hw.2.2 (z_ix rfl (by omega) (by omega)) dL_law_1497 ?_
  refine lv_topi (fun v_12 ev_12 => ?_)
  have es_13 : v_3 = v_12 := by rw [ev_3, ev_12, ev_1, ev_10]
  subst es_13
  refine k_i (rm := { frames := 6, cells := 0, slots := 0, locals := 288 }) (av := [.ref mo, .int (v_3)]) X hw (va_runV (As := [.int (v_3)]) (rest := []) (cfix X) (k_X12_count l G cy κ S _ mo (v_3) (v_3.toInt) hG ham rfl hMI) (cwV 1 X.2.2.2.1 gk_X12_count rfl rfl rfl (by decide +kernel) ⟨Nat.le_of_ble_eq_true rfl, Nat.le_of_ble_eq_true rfl⟩) (pre_V X hw _ ham rfl (by decide) rfl) rfl rfl hl.1 rfl (lv_room (Nat.le_of_ble_eq_true rfl)) dL_law_1498 ⟨(by show cc + 0 ≤ 601024; omega), (by show nn + 0 ≤ 7293034; omega)⟩) cc nn (by show cc + 0 ≤ cc; omega) (by show nn + 0 ≤ nn; omega) (fun rr_14 S_15 H locs hp hw hfr hnw => ?_)
  have la_16 := LA_keep la_7 oq_8 hfr
  have oq_17 := oq_keep la_7 oq_8 hnw
  obtain ⟨hk_18, hp⟩ := hp
  have ax_21 : At S_15 x 11 := hk_18.fr.at hax
  have am_22 : At S_15 mo 12 := hk_18.fr.at ham
  have mi_19 : MI S_15 mo := MIe_free hG ham hk_18.fr (by decide +kernel) hMI
  have gr_20 : GR S_15 mo := GR_free hG ham hk_18.fr (by decide +kernel) hGR
  have ph_23 : Phc S_15 = Phc S := Ph_ok hG hk_18 (by decide +kernel) (by decide +kernel) (by decide +kernel)
  have ph_24 : Phs S_15 = Phs S := Ph_ok hG hk_18 (by decide +kernel) (by decide +kernel) (by decide +kernel)
  have td_25 : TD S_15 x mo := TD_fr hG hk_18.fr hax ham (by decide +kernel) (by decide +kernel) (by decide +kernel) (by decide +kernel) (by decide +kernel) (by decide +kernel) hTD
  have hg_26 : GX S_15 := hk_18.1
  have rg_27 := And.intro (z_lo rr_14) (z_hi rr_14)
  refine lv_pop X.1 X.2.1 dL_law_1501 rfl ?_
  refine lv_goto (tgt := 1505) X.1 X.2.1 dL_law_1502 (by decide) ?_
  exact K _ _ _ _ cc nn hw hg_26 ax_21 am_22 mi_19 gr_20 td_25 la_16 oq_17 (lv_sub hl [0, 1, 2, 3, 4] rfl) (by omega) (by omega)
set_option maxHeartbeats 4000000 in
set_option maxRecDepth 100000 in
theorem lc_d {p : Program} {l : Launch} {e : Env} {s : State} {m : MethodId} {below : List Frame} {meth : Method} {c : Code} (hst : l.stackTraces = false) {b x mo oq L : Nat} {xs : Nat → Int32} {cL : ClassId} {G : va_G} {cy : Nat → ClassId} {κ : Nat → Nat} {S : PS} {H : Heap} {locs : List Loc} {ls : Array Slot} {cc nn : Nat} {Q : State → Prop} {i : Int32} {i_z : Int} (X : Cx p c cL_law 7 s #[Value.ref b] lw_tbl RL m G cy κ (fun q : Nat => s.heap.size ≤ q)) (hX : va_X b L xs s s.heap) (hbl : b < s.heap.size) (hbA : ¬ (fun q : Nat => s.heap.size ≤ q) b) (hdc : ∀ Y ∈ DcL, va_Nw (.declares (Bundle.initS Y)) s) (hkl : Kl cL s) (hAo : (fun q : Nat => s.heap.size ≤ q) oq) (hL : L ≤ 3072) (hz_i : i.toInt = i_z) (hi0 : 0 ≤ i_z) (hi1 : i_z + 6 ≤ (L : Int)) (hw : Wd G cy (fun q : Nat => s.heap.size ≤ q) s.heap S H locs) (hG : GX S) (hax : At S x 11) (ham : At S mo 12) (hMI : MI S mo) (hGR : GR S mo) (hTD : TD S x mo) (hLA : LA cL oq H) (hoq : oq ∉ pL S) (hl : lv_has ls 7 [(4, .int i), (3, .ref oq), (2, .ref mo), (1, .ref x), (0, .ref b)]) (hcc : cc + Phc S + 20000 ≤ 601024) (hnn : nn + Phs S + 100000 ≤ 7293034) (K : ∀ (S9 : PS) (H9 : Heap) (locs9 : List Loc) (ls9 : Array Slot) (c9 n9 : Nat), Wd G cy (fun q : Nat => s.heap.size ≤ q) s.heap S9 H9 locs9 → GX S9 → At S9 x 11 → At S9 mo 12 → MI S9 mo → GR S9 mo → TD S9 x mo → LA cL oq H9 → oq ∉ pL S9 → lv_has ls9 7 [(4, .int i), (3, .ref oq), (2, .ref mo), (1, .ref x), (0, .ref b)] → c9 + Phc S9 ≤ cc + Phc S + 102 → n9 + Phs S9 ≤ nn + Phs S + 1020 → W p l e room_1 s m #[Value.ref b] below meth c H9 locs9 c9 n9 Q (F0 m 1505 ls9 [])) : W p l e room_1 s m #[Value.ref b] below meth c H locs cc nn Q (F0 m 1505 ls []) := by
  exact K _ _ _ _ cc nn hw hG hax ham hMI hGR hTD hLA hoq (lv_sub hl [0, 1, 2, 3, 4] rfl) (by omega) (by omega)
