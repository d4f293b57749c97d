set_option maxHeartbeats 4000000 in
set_option maxRecDepth 100000 in
theorem lc_24 {p : Program} {l : Launch} {e : Env} {s : State} {m : MethodId} {below : List Frame} {meth : Method} {c : Code} (hst : l.stackTraces = false) {b x mo oq L : Nat} {xs : Nat → Int32} {cL : ClassId} {G : va_G} {cy : Nat → ClassId} {κ : Nat → Nat} {S : PS} {H : Heap} {locs : List Loc} {ls : Array Slot} {cc nn : Nat} {Q : State → Prop} {i : Int32} {i_z : Int} (X : Cx p c cL_law 7 s #[Value.ref b] lw_tbl RL m G cy κ (fun q : Nat => s.heap.size ≤ q)) (hX : va_X b L xs s s.heap) (hbl : b < s.heap.size) (hbA : ¬ (fun q : Nat => s.heap.size ≤ q) b) (hdc : ∀ Y ∈ DcL, va_Nw (.declares (Bundle.initS Y)) s) (hkl : Kl cL s) (hAo : (fun q : Nat => s.heap.size ≤ q) oq) (hL : L ≤ 3072) (hz_i : i.toInt = i_z) (hi0 : 0 ≤ i_z) (hi1 : i_z + 6 ≤ (L : Int)) (hw : Wd G cy (fun q : Nat => s.heap.size ≤ q) s.heap S H locs) (hG : GX S) (hax : At S x 11) (ham : At S mo 12) (hMI : MI S mo) (hGR : GR S mo) (hLA : LA cL oq H) (hoq : oq ∉ pL S) (hl : lv_has ls 7 [(4, .int i), (3, .ref oq), (2, .ref mo), (1, .ref x), (0, .ref b)]) (hcc : cc + Phc S + 20000 ≤ 601024) (hnn : nn + Phs S + 100000 ≤ 7293034) (K : ∀ (S9 : PS) (H9 : Heap) (locs9 : List Loc) (ls9 : Array Slot) (c9 n9 : Nat), Wd G cy (fun q : Nat => s.heap.size ≤ q) s.heap S9 H9 locs9 → GX S9 → At S9 x 11 → At S9 mo 12 → MI S9 mo → GR S9 mo → LA cL oq H9 → oq ∉ pL S9 → lv_has ls9 7 [(4, .int i), (3, .ref oq), (2, .ref mo), (1, .ref x), (0, .ref b)] → c9 + Phc S9 ≤ cc + Phc S + 102 → n9 + Phs S9 ≤ nn + Phs S + 1020 → W p l e room_1 s m #[Value.ref b] below meth c H9 locs9 c9 n9 Q (F0 m 1505 ls9 [])) : W p l e room_1 s m #[Value.ref b] below meth c H locs cc nn Q (F0 m 1242 ls []) := by
  refine lv_aload_n X.1 X.2.1 dL_law_1242 rfl (lv_at hl 3 rfl) ?_
  refine lv_aload_n X.1 X.2.1 dL_law_1243 rfl (lv_at hl 4 rfl) ?_
  refine lv_iload X.1 X.2.1 dL_law_1244 (lv_at hl 0 rfl) ?_
  refine lv_iconst (v := 1) X.1 X.2.1 dL_law_1246 (by decide) ?_
  refine lv_iadd X.1 X.2.1 dL_law_1247 ?_
  refine lv_topi (fun v_1 ev_1 => ?_)
  have z_2 : v_1.toInt = i_z + 1 := z_add ev_1 hz_i ti_1 (by omega) (by omega)
  refine va_sld X.1 X.2.1 hX hbl hbA hw.2.2 (z_ix rfl (by omega) (by omega)) dL_law_1248 ?_
  refine lv_topi (fun v_3 ev_3 => ?_)
  have rg_4 := And.intro (z_lo v_3) (z_hi v_3)
  refine lv_aload_n X.1 X.2.1 dL_law_1249 rfl (lv_at hl 4 rfl) ?_
  refine lv_iload X.1 X.2.1 dL_law_1250 (lv_at hl 0 rfl) ?_
  refine lv_iconst (v := 2) X.1 X.2.1 dL_law_1252 (by decide) ?_
  refine lv_iadd X.1 X.2.1 dL_law_1253 ?_
  refine lv_topi (fun v_5 ev_5 => ?_)
  have z_6 : v_5.toInt = i_z + 2 := z_add ev_5 hz_i ti_2 (by omega) (by omega)
  refine va_sld X.1 X.2.1 hX hbl hbA hw.2.2 (z_ix rfl (by omega) (by omega)) dL_law_1254 ?_
  refine lv_topi (fun v_7 ev_7 => ?_)
  have rg_8 := And.intro (z_lo v_7) (z_hi v_7)
  refine k_i (rm := { frames := 2, cells := 0, slots := 0, locals := 96 }) (av := [.ref x, .int (v_3), .int (v_7)]) X hw (va_runV (As := [.int (v_3), .int (v_7)]) (rest := []) (cfix X) (k_X11_price l G cy κ S _ x (v_3) (v_3.toInt) (v_7) (v_7.toInt) hG hax rfl rfl) (cwV 2 X.2.2.2.1 gk_X11_price rfl rfl rfl (by decide +kernel) ⟨Nat.le_of_ble_eq_true rfl, Nat.le_of_ble_eq_true rfl⟩) (pre_V X hw _ hax rfl (by decide) rfl) rfl rfl hl.1 rfl (lv_room (Nat.le_of_ble_eq_true rfl)) dL_law_1255 ⟨(by show cc + 0 ≤ 601024; omega), (by show nn + 0 ≤ 7293034; omega)⟩) cc nn (by show cc + 0 ≤ cc; omega) (by show nn + 0 ≤ nn; omega) (fun rr_9 S_10 H locs hp hw hfr hnw => ?_)
  have la_11 := LA_keep hLA hoq hfr
  have oq_12 := oq_keep hLA hoq hnw
  obtain ⟨hk_13, hp⟩ := hp
  have ax_16 : At S_10 x 11 := hk_13.fr.at hax
  have am_17 : At S_10 mo 12 := hk_13.fr.at ham
  have mi_14 : MI S_10 mo := MIe_free hG ham hk_13.fr (by decide +kernel) hMI
  have gr_15 : GR S_10 mo := GR_free hG ham hk_13.fr (by decide +kernel) hGR
  have ph_18 : Phc S_10 = Phc S := Ph_ok hG hk_13 (by decide +kernel) (by decide +kernel) (by decide +kernel)
  have ph_19 : Phs S_10 = Phs S := Ph_ok hG hk_13 (by decide +kernel) (by decide +kernel) (by decide +kernel)
  have hg_20 : GX S_10 := hk_13.1
  rcases hp with ⟨f_21, er_22⟩ | ⟨f_21, er_22⟩ <;> subst er_22
  · have z_b_23 := trivial
    refine lv_aload_n X.1 X.2.1 dL_law_1258 rfl (lv_at hl 2 rfl) ?_
    refine lv_aload_n X.1 X.2.1 dL_law_1259 rfl (lv_at hl 4 rfl) ?_
    refine lv_iload X.1 X.2.1 dL_law_1260 (lv_at hl 0 rfl) ?_
    refine lv_iconst (v := 1) X.1 X.2.1 dL_law_1262 (by decide) ?_
    refine lv_iadd X.1 X.2.1 dL_law_1263 ?_
    refine lv_topi (fun v_24 ev_24 => ?_)
    have z_25 : v_24.toInt = i_z + 1 := z_add ev_24 hz_i ti_1 (by omega) (by omega)
    refine va_sld X.1 X.2.1 hX hbl hbA hw.2.2 (z_ix rfl (by omega) (by omega)) dL_law_1264 ?_
    refine lv_topi (fun v_26 ev_26 => ?_)
    have es_27 : v_3 = v_26 := by rw [ev_3, ev_26, ev_1, ev_24]
    subst es_27
    refine lv_aload_n X.1 X.2.1 dL_law_1265 rfl (lv_at hl 4 rfl) ?_
    refine lv_iload X.1 X.2.1 dL_law_1266 (lv_at hl 0 rfl) ?_
    refine lv_iconst (v := 2) X.1 X.2.1 dL_law_1268 (by decide) ?_
    refine lv_iadd X.1 X.2.1 dL_law_1269 ?_
    refine lv_topi (fun v_28 ev_28 => ?_)
    have z_29 : v_28.toInt = i_z + 2 := z_add ev_28 hz_i ti_2 (by omega) (by omega)
    refine va_sld X.1 X.2.1 hX hbl hbA hw.2.2 (z_ix rfl (by omega) (by omega)) dL_law_1270 ?_
    refine lv_topi (fun v_30 ev_30 => ?_)
    have es_31 : v_7 = v_30 := by rw [ev_7, ev_30, ev_5, ev_28]
    subst es_31
    refine k_i (rm := { frames := 2, cells := 0, slots := 0, locals := 96 }) (av := [.ref mo, .int (v_3), .int (v_7)]) X hw (va_runV (As := [.int (v_3), .int (v_7)]) (rest := [.int 1]) (cfix X) (k_X12_price l G cy κ S_10 _ mo (v_3) (v_3.toInt) (v_7) (v_7.toInt) hg_20 am_17 rfl rfl) (cwV 2 X.2.2.2.1 gk_X12_price rfl rfl rfl (by decide +kernel) ⟨Nat.le_of_ble_eq_true rfl, Nat.le_of_ble_eq_true rfl⟩) (pre_V X hw _ am_17 rfl (by decide) rfl) rfl rfl hl.1 rfl (lv_room (Nat.le_of_ble_eq_true rfl)) dL_law_1271 ⟨(by show cc + 0 ≤ 601024; omega), (by show nn + 0 ≤ 7293034; omega)⟩) cc nn (by show cc + 0 ≤ cc; omega) (by show nn + 0 ≤ nn; omega) (fun rr_32 S_33 H locs hp hw hfr hnw => ?_)
    have la_34 := LA_keep la_11 oq_12 hfr
    have oq_35 := oq_keep la_11 oq_12 hnw
    obtain ⟨hk_36, hp⟩ := hp
    have ax_39 : At S_33 x 11 := hk_36.fr.at ax_16
    have am_40 : At S_33 mo 12 := hk_36.fr.at am_17
    have mi_37 : MI S_33 mo := MIe_free hg_20 am_17 hk_36.fr (by decide +kernel) mi_14
    have gr_38 : GR S_33 mo := GR_free hg_20 am_17 hk_36.fr (by decide +kernel) gr_15
    have ph_41 : Phc S_33 = Phc S_10 := Ph_ok hg_20 hk_36 (by decide +kernel) (by decide +kernel) (by decide +kernel)
    have ph_42 : Phs S_33 = Phs S_10 := Ph_ok hg_20 hk_36 (by decide +kernel) (by decide +kernel) (by decide +kernel)
    have hg_43 : GX S_33 := hk_36.1
    rcases hp with ⟨f_44, er_45⟩ | ⟨f_44, er_45⟩ <;> subst er_45
    · have z_b_46 := trivial
      refine lv_icmp_eq (tgt := 1505) X.1 X.2.1 dL_law_1274 (by decide) (fun c_47 => ?_) (fun c_47 => absurd c_47 (by decide))
      exact K _ _ _ _ cc nn hw hg_43 ax_39 am_40 mi_37 gr_38 la_34 oq_35 (lv_sub hl [0, 1, 2, 3, 4] rfl) (by omega) (by omega)
    · have z_b_48 := trivial
      refine lv_icmp_eq (tgt := 1505) X.1 X.2.1 dL_law_1274 (by decide) (fun c_49 => absurd c_49 (by decide)) (fun c_49 => ?_)
      exfalso; omega
  · have z_b_50 := trivial
    refine lv_aload_n X.1 X.2.1 dL_law_1258 rfl (lv_at hl 2 rfl) ?_
    refine lv_aload_n X.1 X.2.1 dL_law_1259 rfl (lv_at hl 4 rfl) ?_
    refine lv_iload X.1 X.2.1 dL_law_1260 (lv_at hl 0 rfl) ?_
    refine lv_iconst (v := 1) X.1 X.2.1 dL_law_1262 (by decide) ?_
    refine lv_iadd X.1 X.2.1 dL_law_1263 ?_
    refine lv_topi (fun v_51 ev_51 => ?_)
    have z_52 : v_51.toInt = i_z + 1 := z_add ev_51 hz_i ti_1 (by omega) (by omega)
    refine va_sld X.1 X.2.1 hX hbl hbA hw.2.2 (z_ix rfl (by omega) (by omega)) dL_law_1264 ?_
    refine lv_topi (fun v_53 ev_53 => ?_)
    have es_54 : v_3 = v_53 := by rw [ev_3, ev_53, ev_1, ev_51]
    subst es_54
    refine lv_aload_n X.1 X.2.1 dL_law_1265 rfl (lv_at hl 4 rfl) ?_
    refine lv_iload X.1 X.2.1 dL_law_1266 (lv_at hl 0 rfl) ?_
    refine lv_iconst (v := 2) X.1 X.2.1 dL_law_1268 (by decide) ?_
    refine lv_iadd X.1 X.2.1 dL_law_1269 ?_
    refine lv_topi (fun v_55 ev_55 => ?_)
    have z_56 : v_55.toInt = i_z + 2 := z_add ev_55 hz_i ti_2 (by omega) (by omega)
    refine va_sld X.1 X.2.1 hX hbl hbA hw.2.2 (z_ix rfl (by omega) (by omega)) dL_law_1270 ?_
    refine lv_topi (fun v_57 ev_57 => ?_)
    have es_58 : v_7 = v_57 := by rw [ev_7, ev_57, ev_5, ev_55]
    subst es_58
    refine k_i (rm := { frames := 2, cells := 0, slots := 0, locals := 96 }) (av := [.ref mo, .int (v_3), .int (v_7)]) X hw (va_runV (As := [.int (v_3), .int (v_7)]) (rest := [.int 0]) (cfix X) (k_X12_price l G cy κ S_10 _ mo (v_3) (v_3.toInt) (v_7) (v_7.toInt) hg_20 am_17 rfl rfl) (cwV 2 X.2.2.2.1 gk_X12_price rfl rfl rfl (by decide +kernel) ⟨Nat.le_of_ble_eq_true rfl, Nat.le_of_ble_eq_true rfl⟩) (pre_V X hw _ am_17 rfl (by decide) rfl) rfl rfl hl.1 rfl (lv_room (Nat.le_of_ble_eq_true rfl)) dL_law_1271 ⟨(by show cc + 0 ≤ 601024; omega), (by show nn + 0 ≤ 7293034; omega)⟩) cc nn (by show cc + 0 ≤ cc; omega) (by show nn + 0 ≤ nn; omega) (fun rr_59 S_60 H locs hp hw hfr hnw => ?_)
    have la_61 := LA_keep la_11 oq_12 hfr
    have oq_62 := oq_keep la_11 oq_12 hnw
    obtain ⟨hk_63, hp⟩ := hp
    have ax_66 : At S_60 x 11 := hk_63.fr.at ax_16
    have am_67 : At S_60 mo 12 := hk_63.fr.at am_17
    have mi_64 : MI S_60 mo := MIe_free hg_20 am_17 hk_63.fr (by decide +kernel) mi_14
    have gr_65 : GR S_60 mo := GR_free hg_20 am_17 hk_63.fr (by decide +kernel) gr_15
    have ph_68 : Phc S_60 = Phc S_10 := Ph_ok hg_20 hk_63 (by decide +kernel) (by decide +kernel) (by decide +kernel)
    have ph_69 : Phs S_60 = Phs S_10 := Ph_ok hg_20 hk_63 (by decide +kernel) (by decide +kernel) (by decide +kernel)
    have hg_70 : GX S_60 := hk_63.1
    rcases hp with ⟨f_71, er_72⟩ | ⟨f_71, er_72⟩ <;> subst er_72
    · have z_b_73 := trivial
      refine lv_icmp_eq (tgt := 1505) X.1 X.2.1 dL_law_1274 (by decide) (fun c_74 => absurd c_74 (by decide)) (fun c_74 => ?_)
      exfalso; omega
    · have z_b_75 := trivial
      refine lv_icmp_eq (tgt := 1505) X.1 X.2.1 dL_law_1274 (by decide) (fun c_76 => ?_) (fun c_76 => absurd c_76 (by decide))
      exact K _ _ _ _ cc nn hw hg_70 ax_66 am_67 mi_64 gr_65 la_61 oq_62 (lv_sub hl [0, 1, 2, 3, 4] rfl) (by omega) (by omega)
set_option maxHeartbeats 4000000 in
set_option maxRecDepth 100000 in
theorem lc_25 {p : Program} {l : Launch} {e : Env} {s : State} {m : MethodId} {below : List Frame} {meth : Method} {c : Code} (hst : l.stackTraces = false) {b x mo oq L : Nat} {xs : Nat → Int32} {cL : ClassId} {G : va_G} {cy : Nat → ClassId} {κ : Nat → Nat} {S : PS} {H : Heap} {locs : List Loc} {ls : Array Slot} {cc nn : Nat} {Q : State → Prop} {i : Int32} {i_z : Int} (X : Cx p c cL_law 7 s #[Value.ref b] lw_tbl RL m G cy κ (fun q : Nat => s.heap.size ≤ q)) (hX : va_X b L xs s s.heap) (hbl : b < s.heap.size) (hbA : ¬ (fun q : Nat => s.heap.size ≤ q) b) (hdc : ∀ Y ∈ DcL, va_Nw (.declares (Bundle.initS Y)) s) (hkl : Kl cL s) (hAo : (fun q : Nat => s.heap.size ≤ q) oq) (hL : L ≤ 3072) (hz_i : i.toInt = i_z) (hi0 : 0 ≤ i_z) (hi1 : i_z + 6 ≤ (L : Int)) (hw : Wd G cy (fun q : Nat => s.heap.size ≤ q) s.heap S H locs) (hG : GX S) (hax : At S x 11) (ham : At S mo 12) (hMI : MI S mo) (hGR : GR S mo) (hLA : LA cL oq H) (hoq : oq ∉ pL S) (hl : lv_has ls 7 [(4, .int i), (3, .ref oq), (2, .ref mo), (1, .ref x), (0, .ref b)]) (hcc : cc + Phc S + 20000 ≤ 601024) (hnn : nn + Phs S + 100000 ≤ 7293034) (K : ∀ (S9 : PS) (H9 : Heap) (locs9 : List Loc) (ls9 : Array Slot) (c9 n9 : Nat), Wd G cy (fun q : Nat => s.heap.size ≤ q) s.heap S9 H9 locs9 → GX S9 → At S9 x 11 → At S9 mo 12 → MI S9 mo → GR S9 mo → LA cL oq H9 → oq ∉ pL S9 → lv_has ls9 7 [(4, .int i), (3, .ref oq), (2, .ref mo), (1, .ref x), (0, .ref b)] → c9 + Phc S9 ≤ cc + Phc S + 102 → n9 + Phs S9 ≤ nn + Phs S + 1020 → W p l e room_1 s m #[Value.ref b] below meth c H9 locs9 c9 n9 Q (F0 m 1505 ls9 [])) : W p l e room_1 s m #[Value.ref b] below meth c H locs cc nn Q (F0 m 1279 ls []) := by
  refine lv_aload_n X.1 X.2.1 dL_law_1279 rfl (lv_at hl 3 rfl) ?_
  refine lv_aload_n X.1 X.2.1 dL_law_1280 rfl (lv_at hl 4 rfl) ?_
  refine lv_iload X.1 X.2.1 dL_law_1281 (lv_at hl 0 rfl) ?_
  refine lv_iconst (v := 1) X.1 X.2.1 dL_law_1283 (by decide) ?_
  refine lv_iadd X.1 X.2.1 dL_law_1284 ?_
  refine lv_topi (fun v_1 ev_1 => ?_)
  have z_2 : v_1.toInt = i_z + 1 := z_add ev_1 hz_i ti_1 (by omega) (by omega)
  refine va_sld X.1 X.2.1 hX hbl hbA hw.2.2 (z_ix rfl (by omega) (by omega)) dL_law_1285 ?_
  refine lv_topi (fun v_3 ev_3 => ?_)
  have rg_4 := And.intro (z_lo v_3) (z_hi v_3)
  refine lv_aload_n X.1 X.2.1 dL_law_1286 rfl (lv_at hl 4 rfl) ?_
  refine lv_iload X.1 X.2.1 dL_law_1287 (lv_at hl 0 rfl) ?_
  refine lv_iconst (v := 2) X.1 X.2.1 dL_law_1289 (by decide) ?_
  refine lv_iadd X.1 X.2.1 dL_law_1290 ?_
  refine lv_topi (fun v_5 ev_5 => ?_)
  have z_6 : v_5.toInt = i_z + 2 := z_add ev_5 hz_i ti_2 (by omega) (by omega)
  refine va_sld X.1 X.2.1 hX hbl hbA hw.2.2 (z_ix rfl (by omega) (by omega)) dL_law_1291 ?_
  refine lv_topi (fun v_7 ev_7 => ?_)
  have rg_8 := And.intro (z_lo v_7) (z_hi v_7)
  refine lv_aload_n X.1 X.2.1 dL_law_1292 rfl (lv_at hl 4 rfl) ?_
  refine lv_iload X.1 X.2.1 dL_law_1293 (lv_at hl 0 rfl) ?_
  refine lv_iconst (v := 3) X.1 X.2.1 dL_law_1295 (by decide) ?_
  refine lv_iadd X.1 X.2.1 dL_law_1296 ?_
  refine lv_topi (fun v_9 ev_9 => ?_)
  have z_10 : v_9.toInt = i_z + 3 := z_add ev_9 hz_i ti_3 (by omega) (by omega)
  refine va_sld X.1 X.2.1 hX hbl hbA hw.2.2 (z_ix rfl (by omega) (by omega)) dL_law_1297 ?_
  refine lv_topi (fun v_11 ev_11 => ?_)
  have rg_12 := And.intro (z_lo v_11) (z_hi v_11)
  refine lv_aload_n X.1 X.2.1 dL_law_1298 rfl (lv_at hl 4 rfl) ?_
  refine lv_iload X.1 X.2.1 dL_law_1299 (lv_at hl 0 rfl) ?_
  refine lv_iconst (v := 4) X.1 X.2.1 dL_law_1301 (by decide) ?_
  refine lv_iadd X.1 X.2.1 dL_law_1302 ?_
  refine lv_topi (fun v_13 ev_13 => ?_)
  have z_14 : v_13.toInt = i_z + 4 := z_add ev_13 hz_i ti_4 (by omega) (by omega)
  refine va_sld X.1 X.2.1 hX hbl hbA hw.2.2 (z_ix rfl (by omega) (by omega)) dL_law_1303 ?_
  refine lv_topi (fun v_15 ev_15 => ?_)
  have rg_16 := And.intro (z_lo v_15) (z_hi v_15)
  refine lv_if_eq (tgt := 1311) X.1 X.2.1 dL_law_1304 (by decide) (fun c_17 => ?_) (fun c_17 => ?_)
  · have z_b_18 := trivial
    have k_19 : v_15.toInt = 0 := z_eq rfl ti_0 c_17
    refine lv_iconst (v := 0) X.1 X.2.1 dL_law_1311 (by decide) ?_
    refine k_i (rm := { frames := 18, cells := 0, slots := 0, locals := 864 }) (av := [.ref x, .int (v_3), .int (v_7), .int (v_11), .int 0]) X hw (va_runV (As := [.int (v_3), .int (v_7), .int (v_11), .int 0]) (rest := []) (cfix X) (k_X11_mix l G cy κ S _ x (v_3) (v_3.toInt) (v_7) (v_7.toInt) (v_11) (v_11.toInt) (0) (0) hG hax rfl rfl rfl ti_0) (cwV 4 X.2.2.2.1 gk_X11_mix rfl rfl rfl (by decide +kernel) ⟨Nat.le_of_ble_eq_true rfl, Nat.le_of_ble_eq_true rfl⟩) (pre_V X hw _ hax rfl (by decide) rfl) rfl rfl hl.1 rfl (lv_room (Nat.le_of_ble_eq_true rfl)) dL_law_1312 ⟨(by show cc + 0 ≤ 601024; omega), (by show nn + 0 ≤ 7293034; omega)⟩) cc nn (by show cc + 0 ≤ cc; omega) (by show nn + 0 ≤ nn; omega) (fun rr_20 S_21 H locs hp hw hfr hnw => ?_)
    have la_22 := LA_keep hLA hoq hfr
    have oq_23 := oq_keep hLA hoq hnw
    obtain ⟨hk_24, hp⟩ := hp
    have ax_27 : At S_21 x 11 := hk_24.fr.at hax
    have am_28 : At S_21 mo 12 := hk_24.fr.at ham
    have mi_25 : MI S_21 mo := MIe_free hG ham hk_24.fr (by decide +kernel) hMI
    have gr_26 : GR S_21 mo := GR_free hG ham hk_24.fr (by decide +kernel) hGR
    have ph_29 : Phc S_21 = Phc S := Ph_ok hG hk_24 (by decide +kernel) (by decide +kernel) (by decide +kernel)
    have ph_30 : Phs S_21 = Phs S := Ph_ok hG hk_24 (by decide +kernel) (by decide +kernel) (by decide +kernel)
    have hg_31 : GX S_21 := hk_24.1
    have rg_32 := And.intro (z_lo rr_20) (z_hi rr_20)
    refine lv_pop X.1 X.2.1 dL_law_1315 rfl ?_
    refine lv_aload_n X.1 X.2.1 dL_law_1316 rfl (lv_at hl 2 rfl) ?_
    refine lv_aload_n X.1 X.2.1 dL_law_1317 rfl (lv_at hl 4 rfl) ?_
    refine lv_iload X.1 X.2.1 dL_law_1318 (lv_at hl 0 rfl) ?_
    refine lv_iconst (v := 1) X.1 X.2.1 dL_law_1320 (by decide) ?_
    refine lv_iadd X.1 X.2.1 dL_law_1321 ?_
    refine lv_topi (fun v_33 ev_33 => ?_)
    have z_34 : v_33.toInt = i_z + 1 := z_add ev_33 hz_i ti_1 (by omega) (by omega)
    refine va_sld X.1 X.2.1 hX hbl hbA hw.2.2 (z_ix rfl (by omega) (by omega)) dL_law_1322 ?_
    refine lv_topi (fun v_35 ev_35 => ?_)
    have es_36 : v_3 = v_35 := by rw [ev_3, ev_35, ev_1, ev_33]
    subst es_36
    refine lv_aload_n X.1 X.2.1 dL_law_1323 rfl (lv_at hl 4 rfl) ?_
    refine lv_iload X.1 X.2.1 dL_law_1324 (lv_at hl 0 rfl) ?_
    refine lv_iconst (v := 2) X.1 X.2.1 dL_law_1326 (by decide) ?_
    refine lv_iadd X.1 X.2.1 dL_law_1327 ?_
    refine lv_topi (fun v_37 ev_37 => ?_)
    have z_38 : v_37.toInt = i_z + 2 := z_add ev_37 hz_i ti_2 (by omega) (by omega)
    refine va_sld X.1 X.2.1 hX hbl hbA hw.2.2 (z_ix rfl (by omega) (by omega)) dL_law_1328 ?_
    refine lv_topi (fun v_39 ev_39 => ?_)
    have es_40 : v_7 = v_39 := by rw [ev_7, ev_39, ev_5, ev_37]
    subst es_40
    refine lv_aload_n X.1 X.2.1 dL_law_1329 rfl (lv_at hl 4 rfl) ?_
    refine lv_iload X.1 X.2.1 dL_law_1330 (lv_at hl 0 rfl) ?_
    refine lv_iconst (v := 3) X.1 X.2.1 dL_law_1332 (by decide) ?_
    refine lv_iadd X.1 X.2.1 dL_law_1333 ?_
    refine lv_topi (fun v_41 ev_41 => ?_)
    have z_42 : v_41.toInt = i_z + 3 := z_add ev_41 hz_i ti_3 (by omega) (by omega)
    refine va_sld X.1 X.2.1 hX hbl hbA hw.2.2 (z_ix rfl (by omega) (by omega)) dL_law_1334 ?_
    refine lv_topi (fun v_43 ev_43 => ?_)
    have es_44 : v_11 = v_43 := by rw [ev_11, ev_43, ev_9, ev_41]
    subst es_44
    refine lv_aload_n X.1 X.2.1 dL_law_1335 rfl (lv_at hl 4 rfl) ?_
    refine lv_iload X.1 X.2.1 dL_law_1336 (lv_at hl 0 rfl) ?_
    refine lv_iconst (v := 4) X.1 X.2.1 dL_law_1338 (by decide) ?_
    refine lv_iadd X.1 X.2.1 dL_law_1339 ?_
    refine lv_topi (fun v_45 ev_45 => ?_)
    have z_46 : v_45.toInt = i_z + 4 := z_add ev_45 hz_i ti_4 (by omega) (by omega)
    refine va_sld X.1 X.2.1 hX hbl hbA hw.2.2 (z_ix rfl (by omega) (by omega)) dL_law_1340 ?_
    refine lv_topi (fun v_47 ev_47 => ?_)
    have es_48 : v_15 = v_47 := by rw [ev_15, ev_47, ev_13, ev_45]
    subst es_48
    refine lv_if_eq (tgt := 1348) X.1 X.2.1 dL_law_1341 (by decide) (fun c_49 => ?_) (fun c_49 => ?_)
    · have z_b_50 := trivial
      have k_51 : v_15.toInt = 0 := z_eq rfl ti_0 c_49
      refine lv_iconst (v := 0) X.1 X.2.1 dL_law_1348 (by decide) ?_
      refine k_i (rm := { frames := 8, cells := 0, slots := 0, locals := 384 }) (av := [.ref mo, .int (v_3), .int (v_7), .int (v_11), .int 0]) X hw (va_runV (As := [.int (v_3), .int (v_7), .int (v_11), .int 0]) (rest := []) (cfix X) (k_X12_mix l G cy κ S_21 _ mo (v_3) (v_3.toInt) (v_7) (v_7.toInt) (v_11) (v_11.toInt) (0) (0) hg_31 am_28 rfl rfl rfl ti_0 mi_25) (cwV 4 X.2.2.2.1 gk_X12_mix rfl rfl rfl (by decide +kernel) ⟨Nat.le_of_ble_eq_true rfl, Nat.le_of_ble_eq_true rfl⟩) (pre_V X hw _ am_28 rfl (by decide) rfl) rfl rfl hl.1 rfl (lv_room (Nat.le_of_ble_eq_true rfl)) dL_law_1349 ⟨(by show cc + 0 ≤ 601024; omega), (by show nn + 0 ≤ 7293034; omega)⟩) cc nn (by show cc + 0 ≤ cc; omega) (by show nn + 0 ≤ nn; omega) (fun rr_52 S_53 H locs hp hw hfr hnw => ?_)
      have la_54 := LA_keep la_22 oq_23 hfr
      have oq_55 := oq_keep la_22 oq_23 hnw
      obtain ⟨hk_56, hp⟩ := hp
      have ax_59 : At S_53 x 11 := hk_56.fr.at ax_27
      have am_60 : At S_53 mo 12 := hk_56.fr.at am_28
      have mi_57 : MI S_53 mo := MIe_free hg_31 am_28 hk_56.fr (by decide +kernel) mi_25
      have gr_58 : GR S_53 mo := GR_free hg_31 am_28 hk_56.fr (by decide +kernel) gr_26
      have ph_61 : Phc S_53 = Phc S_21 := Ph_ok hg_31 hk_56 (by decide +kernel) (by decide +kernel) (by decide +kernel)
      have ph_62 : Phs S_53 = Phs S_21 := Ph_ok hg_31 hk_56 (by decide +kernel) (by decide +kernel) (by decide +kernel)
      have hg_63 : GX S_53 := hk_56.1
      have rg_64 := And.intro (z_lo rr_52) (z_hi rr_52)
      refine lv_pop X.1 X.2.1 dL_law_1352 rfl ?_
      refine lv_goto (tgt := 1505) X.1 X.2.1 dL_law_1353 (by decide) ?_
      exact K _ _ _ _ cc nn hw hg_63 ax_59 am_60 mi_57 gr_58 la_54 oq_55 (lv_sub hl [0, 1, 2, 3, 4] rfl) (by omega) (by omega)
    · have z_b_65 := trivial
      have k_66 : v_15.toInt ≠ 0 := z_ne rfl ti_0 c_49
      refine lv_iconst (v := 1) X.1 X.2.1 dL_law_1344 (by decide) ?_
      refine lv_goto (tgt := 1349) X.1 X.2.1 dL_law_1345 (by decide) ?_
      refine k_i (rm := { frames := 8, cells := 0, slots := 0, locals := 384 }) (av := [.ref mo, .int (v_3), .int (v_7), .int (v_11), .int 1]) X hw (va_runV (As := [.int (v_3), .int (v_7), .int (v_11), .int 1]) (rest := []) (cfix X) (k_X12_mix l G cy κ S_21 _ mo (v_3) (v_3.toInt) (v_7) (v_7.toInt) (v_11) (v_11.toInt) (1) (1) hg_31 am_28 rfl rfl rfl ti_1 mi_25) (cwV 4 X.2.2.2.1 gk_X12_mix rfl rfl rfl (by decide +kernel) ⟨Nat.le_of_ble_eq_true rfl, Nat.le_of_ble_eq_true rfl⟩) (pre_V X hw _ am_28 rfl (by decide) rfl) rfl rfl hl.1 rfl (lv_room (Nat.le_of_ble_eq_true rfl)) dL_law_1349 ⟨(by show cc + 0 ≤ 601024; omega), (by show nn + 0 ≤ 7293034; omega)⟩) cc nn (by show cc + 0 ≤ cc; omega) (by show nn + 0 ≤ nn; omega) (fun rr_67 S_68 H locs hp hw hfr hnw => ?_)
      have la_69 := LA_keep la_22 oq_23 hfr
      have oq_70 := oq_keep la_22 oq_23 hnw
      obtain ⟨hk_71, hp⟩ := hp
      have ax_74 : At S_68 x 11 := hk_71.fr.at ax_27
      have am_75 : At S_68 mo 12 := hk_71.fr.at am_28
      have mi_72 : MI S_68 mo := MIe_free hg_31 am_28 hk_71.fr (by decide +kernel) mi_25
      have gr_73 : GR S_68 mo := GR_free hg_31 am_28 hk_71.fr (by decide +kernel) gr_26
      have ph_76 : Phc S_68 = Phc S_21 := Ph_ok hg_31 hk_71 (by decide +kernel) (by decide +kernel) (by decide +kernel)
      have ph_77 : Phs S_68 = Phs S_21 := Ph_ok hg_31 hk_71 (by decide +kernel) (by decide +kernel) (by decide +kernel)
      have hg_78 : GX S_68 := hk_71.1
      have rg_79 := And.intro (z_lo rr_67) (z_hi rr_67)
      refine lv_pop X.1 X.2.1 dL_law_1352 rfl ?_
      refine lv_goto (tgt := 1505) X.1 X.2.1 dL_law_1353 (by decide) ?_
      exact K _ _ _ _ cc nn hw hg_78 ax_74 am_75 mi_72 gr_73 la_69 oq_70 (lv_sub hl [0, 1, 2, 3, 4] rfl) (by omega) (by omega)
  · have z_b_80 := trivial
    have k_81 : v_15.toInt ≠ 0 := z_ne rfl ti_0 c_17
    refine lv_iconst (v := 1) X.1 X.2.1 dL_law_1307 (by decide) ?_
    refine lv_goto (tgt := 1312) X.1 X.2.1 dL_law_1308 (by decide) ?_
    refine k_i (rm := { frames := 18, cells := 0, slots := 0, locals := 864 }) (av := [.ref x, .int (v_3), .int (v_7), .int (v_11), .int 1]) X hw (va_runV (As := [.int (v_3), .int (v_7), .int (v_11), .int 1]) (rest := []) (cfix X) (k_X11_mix l G cy κ S _ x (v_3) (v_3.toInt) (v_7) (v_7.toInt) (v_11) (v_11.toInt) (1) (1) hG hax rfl rfl rfl ti_1) (cwV 4 X.2.2.2.1 gk_X11_mix rfl rfl rfl (by decide +kernel) ⟨Nat.le_of_ble_eq_true rfl, Nat.le_of_ble_eq_true rfl⟩) (pre_V X hw _ hax rfl (by decide) rfl) rfl rfl hl.1 rfl (lv_room (Nat.le_of_ble_eq_true rfl)) dL_law_1312 ⟨(by show cc + 0 ≤ 601024; omega), (by show nn + 0 ≤ 7293034; omega)⟩) cc nn (by show cc + 0 ≤ cc; omega) (by show nn + 0 ≤ nn; omega) (fun rr_82 S_83 H locs hp hw hfr hnw => ?_)
    have la_84 := LA_keep hLA hoq hfr
    have oq_85 := oq_keep hLA hoq hnw
    obtain ⟨hk_86, hp⟩ := hp
    have ax_89 : At S_83 x 11 := hk_86.fr.at hax
    have am_90 : At S_83 mo 12 := hk_86.fr.at ham
    have mi_87 : MI S_83 mo := MIe_free hG ham hk_86.fr (by decide +kernel) hMI
    have gr_88 : GR S_83 mo := GR_free hG ham hk_86.fr (by decide +kernel) hGR
    have ph_91 : Phc S_83 = Phc S := Ph_ok hG hk_86 (by decide +kernel) (by decide +kernel) (by decide +kernel)
    have ph_92 : Phs S_83 = Phs S := Ph_ok hG hk_86 (by decide +kernel) (by decide +kernel) (by decide +kernel)
    have hg_93 : GX S_83 := hk_86.1
    have rg_94 := And.intro (z_lo rr_82) (z_hi rr_82)
    refine lv_pop X.1 X.2.1 dL_law_1315 rfl ?_
    refine lv_aload_n X.1 X.2.1 dL_law_1316 rfl (lv_at hl 2 rfl) ?_
    refine lv_aload_n X.1 X.2.1 dL_law_1317 rfl (lv_at hl 4 rfl) ?_
    refine lv_iload X.1 X.2.1 dL_law_1318 (lv_at hl 0 rfl) ?_
    refine lv_iconst (v := 1) X.1 X.2.1 dL_law_1320 (by decide) ?_
    refine lv_iadd X.1 X.2.1 dL_law_1321 ?_
    refine lv_topi (fun v_95 ev_95 => ?_)
    have z_96 : v_95.toInt = i_z + 1 := z_add ev_95 hz_i ti_1 (by omega) (by omega)
    refine va_sld X.1 X.2.1 hX hbl hbA hw.2.2 (z_ix rfl (by omega) (by omega)) dL_law_1322 ?_
    refine lv_topi (fun v_97 ev_97 => ?_)
    have es_98 : v_3 = v_97 := by rw [ev_3, ev_97, ev_1, ev_95]
    subst es_98
    refine lv_aload_n X.1 X.2.1 dL_law_1323 rfl (lv_at hl 4 rfl) ?_
    refine lv_iload X.1 X.2.1 dL_law_1324 (lv_at hl 0 rfl) ?_
    refine lv_iconst (v := 2) X.1 X.2.1 dL_law_1326 (by decide) ?_
    refine lv_iadd X.1 X.2.1 dL_law_1327 ?_
    refine lv_topi (fun v_99 ev_99 => ?_)
    have z_100 : v_99.toInt = i_z + 2 := z_add ev_99 hz_i ti_2 (by omega) (by omega)
    refine va_sld X.1 X.2.1 hX hbl hbA hw.2.2 (z_ix rfl (by omega) (by omega)) dL_law_1328 ?_
    refine lv_topi (fun v_101 ev_101 => ?_)
    have es_102 : v_7 = v_101 := by rw [ev_7, ev_101, ev_5, ev_99]
    subst es_102
    refine lv_aload_n X.1 X.2.1 dL_law_1329 rfl (lv_at hl 4 rfl) ?_
    refine lv_iload X.1 X.2.1 dL_law_1330 (lv_at hl 0 rfl) ?_
    refine lv_iconst (v := 3) X.1 X.2.1 dL_law_1332 (by decide) ?_
    refine lv_iadd X.1 X.2.1 dL_law_1333 ?_
    refine lv_topi (fun v_103 ev_103 => ?_)
    have z_104 : v_103.toInt = i_z + 3 := z_add ev_103 hz_i ti_3 (by omega) (by omega)
    refine va_sld X.1 X.2.1 hX hbl hbA hw.2.2 (z_ix rfl (by omega) (by omega)) dL_law_1334 ?_
    refine lv_topi (fun v_105 ev_105 => ?_)
    have es_106 : v_11 = v_105 := by rw [ev_11, ev_105, ev_9, ev_103]
    subst es_106
    refine lv_aload_n X.1 X.2.1 dL_law_1335 rfl (lv_at hl 4 rfl) ?_
    refine lv_iload X.1 X.2.1 dL_law_1336 (lv_at hl 0 rfl) ?_
    refine lv_iconst (v := 4) X.1 X.2.1 dL_law_1338 (by decide) ?_
    refine lv_iadd X.1 X.2.1 dL_law_1339 ?_
    refine lv_topi (fun v_107 ev_107 => ?_)
    have z_108 : v_107.toInt = i_z + 4 := z_add ev_107 hz_i ti_4 (by omega) (by omega)
    refine va_sld X.1 X.2.1 hX hbl hbA hw.2.2 (z_ix rfl (by omega) (by omega)) dL_law_1340 ?_
    refine lv_topi (fun v_109 ev_109 => ?_)
    have es_110 : v_15 = v_109 := by rw [ev_15, ev_109, ev_13, ev_107]
    subst es_110
    refine lv_if_eq (tgt := 1348) X.1 X.2.1 dL_law_1341 (by decide) (fun c_111 => ?_) (fun c_111 => ?_)
    · have z_b_112 := trivial
      have k_113 : v_15.toInt = 0 := z_eq rfl ti_0 c_111
      refine lv_iconst (v := 0) X.1 X.2.1 dL_law_1348 (by decide) ?_
      refine k_i (rm := { frames := 8, cells := 0, slots := 0, locals := 384 }) (av := [.ref mo, .int (v_3), .int (v_7), .int (v_11), .int 0]) X hw (va_runV (As := [.int (v_3), .int (v_7), .int (v_11), .int 0]) (rest := []) (cfix X) (k_X12_mix l G cy κ S_83 _ mo (v_3) (v_3.toInt) (v_7) (v_7.toInt) (v_11) (v_11.toInt) (0) (0) hg_93 am_90 rfl rfl rfl ti_0 mi_87) (cwV 4 X.2.2.2.1 gk_X12_mix rfl rfl rfl (by decide +kernel) ⟨Nat.le_of_ble_eq_true rfl, Nat.le_of_ble_eq_true rfl⟩) (pre_V X hw _ am_90 rfl (by decide) rfl) rfl rfl hl.1 rfl (lv_room (Nat.le_of_ble_eq_true rfl)) dL_law_1349 ⟨(by show cc + 0 ≤ 601024; omega), (by show nn + 0 ≤ 7293034; omega)⟩) cc nn (by show cc + 0 ≤ cc; omega) (by show nn + 0 ≤ nn; omega) (fun rr_114 S_115 H locs hp hw hfr hnw => ?_)
      have la_116 := LA_keep la_84 oq_85 hfr
      have oq_117 := oq_keep la_84 oq_85 hnw
      obtain ⟨hk_118, hp⟩ := hp
      have ax_121 : At S_115 x 11 := hk_118.fr.at ax_89
      have am_122 : At S_115 mo 12 := hk_118.fr.at am_90
      have mi_119 : MI S_115 mo := MIe_free hg_93 am_90 hk_118.fr (by decide +kernel) mi_87
      have gr_120 : GR S_115 mo := GR_free hg_93 am_90 hk_118.fr (by decide +kernel) gr_88
      have ph_123 : Phc S_115 = Phc S_83 := Ph_ok hg_93 hk_118 (by decide +kernel) (by decide +kernel) (by decide +kernel)
      have ph_124 : Phs S_115 = Phs S_83 := Ph_ok hg_93 hk_118 (by decide +kernel) (by decide +kernel) (by decide +kernel)
      have hg_125 : GX S_115 := hk_118.1
      have rg_126 := And.intro (z_lo rr_114) (z_hi rr_114)
      refine lv_pop X.1 X.2.1 dL_law_1352 rfl ?_
      refine lv_goto (tgt := 1505) X.1 X.2.1 dL_law_1353 (by decide) ?_
      exact K _ _ _ _ cc nn hw hg_125 ax_121 am_122 mi_119 gr_120 la_116 oq_117 (lv_sub hl [0, 1, 2, 3, 4] rfl) (by omega) (by omega)
    · have z_b_127 := trivial
      have k_128 : v_15.toInt ≠ 0 := z_ne rfl ti_0 c_111
      refine lv_iconst (v := 1) X.1 X.2.1 dL_law_1344 (by decide) ?_
      refine lv_goto (tgt := 1349) X.1 X.2.1 dL_law_1345 (by decide) ?_
      refine k_i (rm := { frames := 8, cells := 0, slots := 0, locals := 384 }) (av := [.ref mo, .int (v_3), .int (v_7), .int (v_11), .int 1]) X hw (va_runV (As := [.int (v_3), .int (v_7), .int (v_11), .int 1]) (rest := []) (cfix X) (k_X12_mix l G cy κ S_83 _ mo (v_3) (v_3.toInt) (v_7) (v_7.toInt) (v_11) (v_11.toInt) (1) (1) hg_93 am_90 rfl rfl rfl ti_1 mi_87) (cwV 4 X.2.2.2.1 gk_X12_mix rfl rfl rfl (by decide +kernel) ⟨Nat.le_of_ble_eq_true rfl, Nat.le_of_ble_eq_true rfl⟩) (pre_V X hw _ am_90 rfl (by decide) rfl) rfl rfl hl.1 rfl (lv_room (Nat.le_of_ble_eq_true rfl)) dL_law_1349 ⟨(by show cc + 0 ≤ 601024; omega), (by show nn + 0 ≤ 7293034; omega)⟩) cc nn (by show cc + 0 ≤ cc; omega) (by show nn + 0 ≤ nn; omega) (fun rr_129 S_130 H locs hp hw hfr hnw => ?_)
      have la_131 := LA_keep la_84 oq_85 hfr
      have oq_132 := oq_keep la_84 oq_85 hnw
      obtain ⟨hk_133, hp⟩ := hp
      have ax_136 : At S_130 x 11 := hk_133.fr.at ax_89
      have am_137 : At S_130 mo 12 := hk_133.fr.at am_90
      have mi_134 : MI S_130 mo := MIe_free hg_93 am_90 hk_133.fr (by decide +kernel) mi_87
      have gr_135 : GR S_130 mo := GR_free hg_93 am_90 hk_133.fr (by decide +kernel) gr_88
      have ph_138 : Phc S_130 = Phc S_83 := Ph_ok hg_93 hk_133 (by decide +kernel) (by decide +kernel) (by decide +kernel)
      have ph_139 : Phs S_130 = Phs S_83 := Ph_ok hg_93 hk_133 (by decide +kernel) (by decide +kernel) (by decide +kernel)
      have hg_140 : GX S_130 := hk_133.1
      have rg_141 := And.intro (z_lo rr_129) (z_hi rr_129)
      refine lv_pop X.1 X.2.1 dL_law_1352 rfl ?_
      refine lv_goto (tgt := 1505) X.1 X.2.1 dL_law_1353 (by decide) ?_
      exact K _ _ _ _ cc nn hw hg_140 ax_136 am_137 mi_134 gr_135 la_131 oq_132 (lv_sub hl [0, 1, 2, 3, 4] rfl) (by omega) (by omega)
set_option maxHeartbeats 4000000 in
set_option maxRecDepth 100000 in
theorem lc_26 {p : Program} {l : Launch} {e : Env} {s : State} {m : MethodId} {below : List Frame} {meth : Method} {c : Code} (hst : l.stackTraces = false) {b x mo oq L : Nat} {xs : Nat → Int32} {cL : ClassId} {G : va_G} {cy : Nat → ClassId} {κ : Nat → Nat} {S : PS} {H : Heap} {locs : List Loc} {ls : Array Slot} {cc nn : Nat} {Q : State → Prop} {i : Int32} {i_z : Int} (X : Cx p c cL_law 7 s #[Value.ref b] lw_tbl RL m G cy κ (fun q : Nat => s.heap.size ≤ q)) (hX : va_X b L xs s s.heap) (hbl : b < s.heap.size) (hbA : ¬ (fun q : Nat => s.heap.size ≤ q) b) (hdc : ∀ Y ∈ DcL, va_Nw (.declares (Bundle.initS Y)) s) (hkl : Kl cL s) (hAo : (fun q : Nat => s.heap.size ≤ q) oq) (hL : L ≤ 3072) (hz_i : i.toInt = i_z) (hi0 : 0 ≤ i_z) (hi1 : i_z + 6 ≤ (L : Int)) (hw : Wd G cy (fun q : Nat => s.heap.size ≤ q) s.heap S H locs) (hG : GX S) (hax : At S x 11) (ham : At S mo 12) (hMI : MI S mo) (hGR : GR S mo) (hLA : LA cL oq H) (hoq : oq ∉ pL S) (hl : lv_has ls 7 [(4, .int i), (3, .ref oq), (2, .ref mo), (1, .ref x), (0, .ref b)]) (hcc : cc + Phc S + 20000 ≤ 601024) (hnn : nn + Phs S + 100000 ≤ 7293034) (K : ∀ (S9 : PS) (H9 : Heap) (locs9 : List Loc) (ls9 : Array Slot) (c9 n9 : Nat), Wd G cy (fun q : Nat => s.heap.size ≤ q) s.heap S9 H9 locs9 → GX S9 → At S9 x 11 → At S9 mo 12 → MI S9 mo → GR S9 mo → LA cL oq H9 → oq ∉ pL S9 → lv_has ls9 7 [(4, .int i), (3, .ref oq), (2, .ref mo), (1, .ref x), (0, .ref b)] → c9 + Phc S9 ≤ cc + Phc S + 102 → n9 + Phs S9 ≤ nn + Phs S + 1020 → W p l e room_1 s m #[Value.ref b] below meth c H9 locs9 c9 n9 Q (F0 m 1505 ls9 [])) : W p l e room_1 s m #[Value.ref b] below meth c H locs cc nn Q (F0 m 1356 ls []) := by
  refine lv_aload_n X.1 X.2.1 dL_law_1356 rfl (lv_at hl 3 rfl) ?_
  refine lv_aload_n X.1 X.2.1 dL_law_1357 rfl (lv_at hl 4 rfl) ?_
  refine lv_iload X.1 X.2.1 dL_law_1358 (lv_at hl 0 rfl) ?_
  refine lv_iconst (v := 1) X.1 X.2.1 dL_law_1360 (by decide) ?_
  refine lv_iadd X.1 X.2.1 dL_law_1361 ?_
  refine lv_topi (fun v_1 ev_1 => ?_)
  have z_2 : v_1.toInt = i_z + 1 := z_add ev_1 hz_i ti_1 (by omega) (by omega)
  refine va_sld X.1 X.2.1 hX hbl hbA hw.2.2 (z_ix rfl (by omega) (by omega)) dL_law_1362 ?_
  refine lv_topi (fun v_3 ev_3 => ?_)
  have rg_4 := And.intro (z_lo v_3) (z_hi v_3)
  refine k_i (rm := { frames := 2, cells := 0, slots := 0, locals := 96 }) (av := [.ref x, .int (v_3)]) X hw (va_runV (As := [.int (v_3)]) (rest := []) (cfix X) (k_X11_mixed l G cy κ S _ x (v_3) (v_3.toInt) hG hax rfl) (cwV 1 X.2.2.2.1 gk_X11_mixed rfl rfl rfl (by decide +kernel) ⟨Nat.le_of_ble_eq_true rfl, Nat.le_of_ble_eq_true rfl⟩) (pre_V X hw _ hax rfl (by decide) rfl) rfl rfl hl.1 rfl (lv_room (Nat.le_of_ble_eq_true rfl)) dL_law_1363 ⟨(by show cc + 0 ≤ 601024; omega), (by show nn + 0 ≤ 7293034; omega)⟩) cc nn (by show cc + 0 ≤ cc; omega) (by show nn + 0 ≤ nn; omega) (fun rr_5 S_6 H locs hp hw hfr hnw => ?_)
  have la_7 := LA_keep hLA hoq hfr
  have oq_8 := oq_keep hLA hoq hnw
  obtain ⟨e2, hp⟩ := hp
  subst e2
  have rg_9 := And.intro (z_lo rr_5) (z_hi rr_5)
  refine lv_pop X.1 X.2.1 dL_law_1366 rfl ?_
  refine lv_aload_n X.1 X.2.1 dL_law_1367 rfl (lv_at hl 2 rfl) ?_
  refine lv_aload_n X.1 X.2.1 dL_law_1368 rfl (lv_at hl 4 rfl) ?_
  refine lv_iload X.1 X.2.1 dL_law_1369 (lv_at hl 0 rfl) ?_
  refine lv_iconst (v := 1) X.1 X.2.1 dL_law_1371 (by decide) ?_
  refine lv_iadd X.1 X.2.1 dL_law_1372 ?_
  refine lv_topi (fun v_10 ev_10 => ?_)
  have z_11 : v_10.toInt = i_z + 1 := z_add ev_10 hz_i ti_1 (by omega) (by omega)
  refine va_sld X.1 X.2.1 hX hbl hbA hw.2.2 (z_ix rfl (by omega) (by omega)) dL_law_1373 ?_
  refine lv_topi (fun v_12 ev_12 => ?_)
  have es_13 : v_3 = v_12 := by rw [ev_3, ev_12, ev_1, ev_10]
  subst es_13
  refine k_i (rm := { frames := 3, cells := 0, slots := 0, locals := 144 }) (av := [.ref mo, .int (v_3)]) X hw (va_runV (As := [.int (v_3)]) (rest := []) (cfix X) (k_X12_mixed l G cy κ S _ mo (v_3) (v_3.toInt) hG ham rfl) (cwV 1 X.2.2.2.1 gk_X12_mixed rfl rfl rfl (by decide +kernel) ⟨Nat.le_of_ble_eq_true rfl, Nat.le_of_ble_eq_true rfl⟩) (pre_V X hw _ ham rfl (by decide) rfl) rfl rfl hl.1 rfl (lv_room (Nat.le_of_ble_eq_true rfl)) dL_law_1374 ⟨(by show cc + 0 ≤ 601024; omega), (by show nn + 0 ≤ 7293034; omega)⟩) cc nn (by show cc + 0 ≤ cc; omega) (by show nn + 0 ≤ nn; omega) (fun rr_14 S_15 H locs hp hw hfr hnw => ?_)
  have la_16 := LA_keep la_7 oq_8 hfr
  have oq_17 := oq_keep la_7 oq_8 hnw
  obtain ⟨hk_18, hp⟩ := hp
  have ax_21 : At S_15 x 11 := hk_18.fr.at hax
  have am_22 : At S_15 mo 12 := hk_18.fr.at ham
  have mi_19 : MI S_15 mo := MIe_free hG ham hk_18.fr (by decide +kernel) hMI
  have gr_20 : GR S_15 mo := GR_free hG ham hk_18.fr (by decide +kernel) hGR
  have ph_23 : Phc S_15 = Phc S := Ph_ok hG hk_18 (by decide +kernel) (by decide +kernel) (by decide +kernel)
  have ph_24 : Phs S_15 = Phs S := Ph_ok hG hk_18 (by decide +kernel) (by decide +kernel) (by decide +kernel)
  have hg_25 : GX S_15 := hk_18.1
  have rg_26 := And.intro (z_lo rr_14) (z_hi rr_14)
  refine lv_pop X.1 X.2.1 dL_law_1377 rfl ?_
  refine lv_goto (tgt := 1505) X.1 X.2.1 dL_law_1378 (by decide) ?_
  exact K _ _ _ _ cc nn hw hg_25 ax_21 am_22 mi_19 gr_20 la_16 oq_17 (lv_sub hl [0, 1, 2, 3, 4] rfl) (by omega) (by omega)
set_option maxHeartbeats 4000000 in
set_option maxRecDepth 100000 in
theorem lc_27 {p : Program} {l : Launch} {e : Env} {s : State} {m : MethodId} {below : List Frame} {meth : Method} {c : Code} (hst : l.stackTraces = false) {b x mo oq L : Nat} {xs : Nat → Int32} {cL : ClassId} {G : va_G} {cy : Nat → ClassId} {κ : Nat → Nat} {S : PS} {H : Heap} {locs : List Loc} {ls : Array Slot} {cc nn : Nat} {Q : State → Prop} {i : Int32} {i_z : Int} (X : Cx p c cL_law 7 s #[Value.ref b] lw_tbl RL m G cy κ (fun q : Nat => s.heap.size ≤ q)) (hX : va_X b L xs s s.heap) (hbl : b < s.heap.size) (hbA : ¬ (fun q : Nat => s.heap.size ≤ q) b) (hdc : ∀ Y ∈ DcL, va_Nw (.declares (Bundle.initS Y)) s) (hkl : Kl cL s) (hAo : (fun q : Nat => s.heap.size ≤ q) oq) (hL : L ≤ 3072) (hz_i : i.toInt = i_z) (hi0 : 0 ≤ i_z) (hi1 : i_z + 6 ≤ (L : Int)) (hw : Wd G cy (fun q : Nat => s.heap.size ≤ q) s.heap S H locs) (hG : GX S) (hax : At S x 11) (ham : At S mo 12) (hMI : MI S mo) (hGR : GR S mo) (hLA : LA cL oq H) (hoq : oq ∉ pL S) (hl : lv_has ls 7 [(4, .int i), (3, .ref oq), (2, .ref mo), (1, .ref x), (0, .ref b)]) (hcc : cc + Phc S + 20000 ≤ 601024) (hnn : nn + Phs S + 100000 ≤ 7293034) (K : ∀ (S9 : PS) (H9 : Heap) (locs9 : List Loc) (ls9 : Array Slot) (c9 n9 : Nat), Wd G cy (fun q : Nat => s.heap.size ≤ q) s.heap S9 H9 locs9 → GX S9 → At S9 x 11 → At S9 mo 12 → MI S9 mo → GR S9 mo → LA cL oq H9 → oq ∉ pL S9 → lv_has ls9 7 [(4, .int i), (3, .ref oq), (2, .ref mo), (1, .ref x), (0, .ref b)] → c9 + Phc S9 ≤ cc + Phc S + 102 → n9 + Phs S9 ≤ nn + Phs S + 1020 → W p l e room_1 s m #[Value.ref b] below meth c H9 locs9 c9 n9 Q (F0 m 1505 ls9 [])) : W p l e room_1 s m #[Value.ref b] below meth c H locs cc nn Q (F0 m 1381 ls []) := by
  refine lv_aload_n X.1 X.2.1 dL_law_1381 rfl (lv_at hl 3 rfl) ?_
  refine k_i (rm := { frames := 1, cells := 0, slots := 0, locals := 48 }) (av := [.ref x]) X hw (va_runV (As := []) (rest := []) (cfix X) (k_X11_day l G cy κ S _ x hG hax) (cwV 0 X.2.2.2.1 gk_X11_day rfl rfl rfl (by decide +kernel) ⟨Nat.le_of_ble_eq_true rfl, Nat.le_of_ble_eq_true rfl⟩) (pre_V X hw _ hax rfl (by decide) rfl) rfl rfl hl.1 rfl (lv_room (Nat.le_of_ble_eq_true rfl)) dL_law_1382 ⟨(by show cc + 0 ≤ 601024; omega), (by show nn + 0 ≤ 7293034; omega)⟩) cc nn (by show cc + 0 ≤ cc; omega) (by show nn + 0 ≤ nn; omega) (fun rr_1 S_2 H locs hp hw hfr hnw => ?_)
  have la_3 := LA_keep hLA hoq hfr
  have oq_4 := oq_keep hLA hoq hnw
  obtain ⟨hk_5, hp⟩ := hp
  have ax_8 : At S_2 x 11 := hk_5.fr.at hax
  have am_9 : At S_2 mo 12 := hk_5.fr.at ham
  have mi_6 : MI S_2 mo := MIe_free hG ham hk_5.fr (by decide +kernel) hMI
  have gr_7 : GR S_2 mo := GR_free hG ham hk_5.fr (by decide +kernel) hGR
  have ph_10 : Phc S_2 = Phc S := Ph_ok hG hk_5 (by decide +kernel) (by decide +kernel) (by decide +kernel)
  have ph_11 : Phs S_2 = Phs S := Ph_ok hG hk_5 (by decide +kernel) (by decide +kernel) (by decide +kernel)
  have hg_12 : GX S_2 := hk_5.1
  have rg_13 := And.intro (z_lo rr_1) (z_hi rr_1)
  refine lv_pop X.1 X.2.1 dL_law_1385 rfl ?_
  refine lv_aload_n X.1 X.2.1 dL_law_1386 rfl (lv_at hl 2 rfl) ?_
  refine k_i (rm := { frames := 1, cells := 0, slots := 0, locals := 48 }) (av := [.ref mo]) X hw (va_runV (As := []) (rest := []) (cfix X) (k_X12_day l G cy κ S_2 _ mo hg_12 am_9) (cwV 0 X.2.2.2.1 gk_X12_day rfl rfl rfl (by decide +kernel) ⟨Nat.le_of_ble_eq_true rfl, Nat.le_of_ble_eq_true rfl⟩) (pre_V X hw _ am_9 rfl (by decide) rfl) rfl rfl hl.1 rfl (lv_room (Nat.le_of_ble_eq_true rfl)) dL_law_1387 ⟨(by show cc + 0 ≤ 601024; omega), (by show nn + 0 ≤ 7293034; omega)⟩) cc nn (by show cc + 0 ≤ cc; omega) (by show nn + 0 ≤ nn; omega) (fun rr_14 S_15 H locs hp hw hfr hnw => ?_)
  have la_16 := LA_keep la_3 oq_4 hfr
  have oq_17 := oq_keep la_3 oq_4 hnw
  obtain ⟨hk_18, hp⟩ := hp
  have ax_21 : At S_15 x 11 := hk_18.fr.at ax_8
  have am_22 : At S_15 mo 12 := hk_18.fr.at am_9
  have mi_19 : MI S_15 mo := MIe_free hg_12 am_9 hk_18.fr (by decide +kernel) mi_6
  have gr_20 : GR S_15 mo := GR_free hg_12 am_9 hk_18.fr (by decide +kernel) gr_7
  have ph_23 : Phc S_15 = Phc S_2 := Ph_ok hg_12 hk_18 (by decide +kernel) (by decide +kernel) (by decide +kernel)
  have ph_24 : Phs S_15 = Phs S_2 := Ph_ok hg_12 hk_18 (by decide +kernel) (by decide +kernel) (by decide +kernel)
  have hg_25 : GX S_15 := hk_18.1
  have rg_26 := And.intro (z_lo rr_14) (z_hi rr_14)
  refine lv_pop X.1 X.2.1 dL_law_1390 rfl ?_
  refine lv_goto (tgt := 1505) X.1 X.2.1 dL_law_1391 (by decide) ?_
  exact K _ _ _ _ cc nn hw hg_25 ax_21 am_22 mi_19 gr_20 la_16 oq_17 (lv_sub hl [0, 1, 2, 3, 4] rfl) (by omega) (by omega)
set_option maxHeartbeats 4000000 in
set_option maxRecDepth 100000 in
theorem lc_28 {p : Program} {l : Launch} {e : Env} {s : State} {m : MethodId} {below : List Frame} {meth : Method} {c : Code} (hst : l.stackTraces = false) {b x mo oq L : Nat} {xs : Nat → Int32} {cL : ClassId} {G : va_G} {cy : Nat → ClassId} {κ : Nat → Nat} {S : PS} {H : Heap} {locs : List Loc} {ls : Array Slot} {cc nn : Nat} {Q : State → Prop} {i : Int32} {i_z : Int} (X : Cx p c cL_law 7 s #[Value.ref b] lw_tbl RL m G cy κ (fun q : Nat => s.heap.size ≤ q)) (hX : va_X b L xs s s.heap) (hbl : b < s.heap.size) (hbA : ¬ (fun q : Nat => s.heap.size ≤ q) b) (hdc : ∀ Y ∈ DcL, va_Nw (.declares (Bundle.initS Y)) s) (hkl : Kl cL s) (hAo : (fun q : Nat => s.heap.size ≤ q) oq) (hL : L ≤ 3072) (hz_i : i.toInt = i_z) (hi0 : 0 ≤ i_z) (hi1 : i_z + 6 ≤ (L : Int)) (hw : Wd G cy (fun q : Nat => s.heap.size ≤ q) s.heap S H locs) (hG : GX S) (hax : At S x 11) (ham : At S mo 12) (hMI : MI S mo) (hGR : GR S mo) (hLA : LA cL oq H) (hoq : oq ∉ pL S) (hl : lv_has ls 7 [(4, .int i), (3, .ref oq), (2, .ref mo), (1, .ref x), (0, .ref b)]) (hcc : cc + Phc S + 20000 ≤ 601024) (hnn : nn + Phs S + 100000 ≤ 7293034) (K : ∀ (S9 : PS) (H9 : Heap) (locs9 : List Loc) (ls9 : Array Slot) (c9 n9 : Nat), Wd G cy (fun q : Nat => s.heap.size ≤ q) s.heap S9 H9 locs9 → GX S9 → At S9 x 11 → At S9 mo 12 → MI S9 mo → GR S9 mo → LA cL oq H9 → oq ∉ pL S9 → lv_has ls9 7 [(4, .int i), (3, .ref oq), (2, .ref mo), (1, .ref x), (0, .ref b)] → c9 + Phc S9 ≤ cc + Phc S + 102 → n9 + Phs S9 ≤ nn + Phs S + 1020 → W p l e room_1 s m #[Value.ref b] below meth c H9 locs9 c9 n9 Q (F0 m 1505 ls9 [])) : W p l e room_1 s m #[Value.ref b] below meth c H locs cc nn Q (F0 m 1394 ls []) := by
  refine lv_aload_n X.1 X.2.1 dL_law_1394 rfl (lv_at hl 3 rfl) ?_
  refine lv_aload_n X.1 X.2.1 dL_law_1395 rfl (lv_at hl 4 rfl) ?_
  refine lv_iload X.1 X.2.1 dL_law_1396 (lv_at hl 0 rfl) ?_
  refine lv_iconst (v := 1) X.1 X.2.1 dL_law_1398 (by decide) ?_
  refine lv_iadd X.1 X.2.1 dL_law_1399 ?_
  refine lv_topi (fun v_1 ev_1 => ?_)
  have z_2 : v_1.toInt = i_z + 1 := z_add ev_1 hz_i ti_1 (by omega) (by omega)
  refine va_sld X.1 X.2.1 hX hbl hbA hw.2.2 (z_ix rfl (by omega) (by omega)) dL_law_1400 ?_
  refine lv_topi (fun v_3 ev_3 => ?_)
  have rg_4 := And.intro (z_lo v_3) (z_hi v_3)
  refine lv_aload_n X.1 X.2.1 dL_law_1401 rfl (lv_at hl 4 rfl) ?_
  refine lv_iload X.1 X.2.1 dL_law_1402 (lv_at hl 0 rfl) ?_
  refine lv_iconst (v := 2) X.1 X.2.1 dL_law_1404 (by decide) ?_
  refine lv_iadd X.1 X.2.1 dL_law_1405 ?_
  refine lv_topi (fun v_5 ev_5 => ?_)
  have z_6 : v_5.toInt = i_z + 2 := z_add ev_5 hz_i ti_2 (by omega) (by omega)
  refine va_sld X.1 X.2.1 hX hbl hbA hw.2.2 (z_ix rfl (by omega) (by omega)) dL_law_1406 ?_
  refine lv_topi (fun v_7 ev_7 => ?_)
  have rg_8 := And.intro (z_lo v_7) (z_hi v_7)
  refine k_i (rm := { frames := 2, cells := 0, slots := 0, locals := 96 }) (av := [.ref x, .int (v_3), .int (v_7)]) X hw (va_runV (As := [.int (v_3), .int (v_7)]) (rest := []) (cfix X) (k_X11_fault l G cy κ S _ x (v_3) (v_3.toInt) (v_7) (v_7.toInt) hG hax rfl rfl) (cwV 2 X.2.2.2.1 gk_X11_fault rfl rfl rfl (by decide +kernel) ⟨Nat.le_of_ble_eq_true rfl, Nat.le_of_ble_eq_true rfl⟩) (pre_V X hw _ hax rfl (by decide) rfl) rfl rfl hl.1 rfl (lv_room (Nat.le_of_ble_eq_true rfl)) dL_law_1407 ⟨(by show cc + 0 ≤ 601024; omega), (by show nn + 0 ≤ 7293034; omega)⟩) cc nn (by show cc + 0 ≤ cc; omega) (by show nn + 0 ≤ nn; omega) (fun rr_9 S_10 H locs hp hw hfr hnw => ?_)
  have la_11 := LA_keep hLA hoq hfr
  have oq_12 := oq_keep hLA hoq hnw
  obtain ⟨hk_13, hp⟩ := hp
  have ax_16 : At S_10 x 11 := hk_13.fr.at hax
  have am_17 : At S_10 mo 12 := hk_13.fr.at ham
  have mi_14 : MI S_10 mo := MIe_free hG ham hk_13.fr (by decide +kernel) hMI
  have gr_15 : GR S_10 mo := GR_free hG ham hk_13.fr (by decide +kernel) hGR
  have ph_18 : Phc S_10 = Phc S := Ph_ok hG hk_13 (by decide +kernel) (by decide +kernel) (by decide +kernel)
  have ph_19 : Phs S_10 = Phs S := Ph_ok hG hk_13 (by decide +kernel) (by decide +kernel) (by decide +kernel)
  have hg_20 : GX S_10 := hk_13.1
  have rg_21 := And.intro (z_lo rr_9) (z_hi rr_9)
  refine lv_pop X.1 X.2.1 dL_law_1410 rfl ?_
  refine lv_aload_n X.1 X.2.1 dL_law_1411 rfl (lv_at hl 2 rfl) ?_
  refine lv_aload_n X.1 X.2.1 dL_law_1412 rfl (lv_at hl 4 rfl) ?_
  refine lv_iload X.1 X.2.1 dL_law_1413 (lv_at hl 0 rfl) ?_
  refine lv_iconst (v := 1) X.1 X.2.1 dL_law_1415 (by decide) ?_
  refine lv_iadd X.1 X.2.1 dL_law_1416 ?_
  refine lv_topi (fun v_22 ev_22 => ?_)
  have z_23 : v_22.toInt = i_z + 1 := z_add ev_22 hz_i ti_1 (by omega) (by omega)
  refine va_sld X.1 X.2.1 hX hbl hbA hw.2.2 (z_ix rfl (by omega) (by omega)) dL_law_1417 ?_
  refine lv_topi (fun v_24 ev_24 => ?_)
  have es_25 : v_3 = v_24 := by rw [ev_3, ev_24, ev_1, ev_22]
  subst es_25
  refine lv_aload_n X.1 X.2.1 dL_law_1418 rfl (lv_at hl 4 rfl) ?_
  refine lv_iload X.1 X.2.1 dL_law_1419 (lv_at hl 0 rfl) ?_
  refine lv_iconst (v := 2) X.1 X.2.1 dL_law_1421 (by decide) ?_
  refine lv_iadd X.1 X.2.1 dL_law_1422 ?_
  refine lv_topi (fun v_26 ev_26 => ?_)
  have z_27 : v_26.toInt = i_z + 2 := z_add ev_26 hz_i ti_2 (by omega) (by omega)
  refine va_sld X.1 X.2.1 hX hbl hbA hw.2.2 (z_ix rfl (by omega) (by omega)) dL_law_1423 ?_
  refine lv_topi (fun v_28 ev_28 => ?_)
  have es_29 : v_7 = v_28 := by rw [ev_7, ev_28, ev_5, ev_26]
  subst es_29
  refine k_i (rm := { frames := 3, cells := 0, slots := 0, locals := 144 }) (av := [.ref mo, .int (v_3), .int (v_7)]) X hw (va_runV (As := [.int (v_3), .int (v_7)]) (rest := []) (cfix X) (k_X12_fault l G cy κ S_10 _ mo (v_3) (v_3.toInt) (v_7) (v_7.toInt) hg_20 am_17 rfl rfl) (cwV 2 X.2.2.2.1 gk_X12_fault rfl rfl rfl (by decide +kernel) ⟨Nat.le_of_ble_eq_true rfl, Nat.le_of_ble_eq_true rfl⟩) (pre_V X hw _ am_17 rfl (by decide) rfl) rfl rfl hl.1 rfl (lv_room (Nat.le_of_ble_eq_true rfl)) dL_law_1424 ⟨(by show cc + 0 ≤ 601024; omega), (by show nn + 0 ≤ 7293034; omega)⟩) cc nn (by show cc + 0 ≤ cc; omega) (by show nn + 0 ≤ nn; omega) (fun rr_30 S_31 H locs hp hw hfr hnw => ?_)
  have la_32 := LA_keep la_11 oq_12 hfr
  have oq_33 := oq_keep la_11 oq_12 hnw
  obtain ⟨hk_34, hp⟩ := hp
  have ax_37 : At S_31 x 11 := hk_34.fr.at ax_16
  have am_38 : At S_31 mo 12 := hk_34.fr.at am_17
  have mi_35 : MI S_31 mo := MIe_free hg_20 am_17 hk_34.fr (by decide +kernel) mi_14
  have gr_36 : GR S_31 mo := GR_free hg_20 am_17 hk_34.fr (by decide +kernel) gr_15
  have ph_39 : Phc S_31 = Phc S_10 := Ph_ok hg_20 hk_34 (by decide +kernel) (by decide +kernel) (by decide +kernel)
  have ph_40 : Phs S_31 = Phs S_10 := Ph_ok hg_20 hk_34 (by decide +kernel) (by decide +kernel) (by decide +kernel)
  have hg_41 : GX S_31 := hk_34.1
  have rg_42 := And.intro (z_lo rr_30) (z_hi rr_30)
  refine lv_pop X.1 X.2.1 dL_law_1427 rfl ?_
  refine lv_goto (tgt := 1505) X.1 X.2.1 dL_law_1428 (by decide) ?_
  exact K _ _ _ _ cc nn hw hg_41 ax_37 am_38 mi_35 gr_36 la_32 oq_33 (lv_sub hl [0, 1, 2, 3, 4] rfl) (by omega) (by omega)
set_option maxHeartbeats 4000000 in
set_option maxRecDepth 100000 in
theorem lc_29 {p : Program} {l : Launch} {e : Env} {s : State} {m : MethodId} {below : List Frame} {meth : Method} {c : Code} (hst : l.stackTraces = false) {b x mo oq L : Nat} {xs : Nat → Int32} {cL : ClassId} {G : va_G} {cy : Nat → ClassId} {κ : Nat → Nat} {S : PS} {H : Heap} {locs : List Loc} {ls : Array Slot} {cc nn : Nat} {Q : State → Prop} {i : Int32} {i_z : Int} (X : Cx p c cL_law 7 s #[Value.ref b] lw_tbl RL m G cy κ (fun q : Nat => s.heap.size ≤ q)) (hX : va_X b L xs s s.heap) (hbl : b < s.heap.size) (hbA : ¬ (fun q : Nat => s.heap.size ≤ q) b) (hdc : ∀ Y ∈ DcL, va_Nw (.declares (Bundle.initS Y)) s) (hkl : Kl cL s) (hAo : (fun q : Nat => s.heap.size ≤ q) oq) (hL : L ≤ 3072) (hz_i : i.toInt = i_z) (hi0 : 0 ≤ i_z) (hi1 : i_z + 6 ≤ (L : Int)) (hw : Wd G cy (fun q : Nat => s.heap.size ≤ q) s.heap S H locs) (hG : GX S) (hax : At S x 11) (ham : At S mo 12) (hMI : MI S mo) (hGR : GR S mo) (hLA : LA cL oq H) (hoq : oq ∉ pL S) (hl : lv_has ls 7 [(4, .int i), (3, .ref oq), (2, .ref mo), (1, .ref x), (0, .ref b)]) (hcc : cc + Phc S + 20000 ≤ 601024) (hnn : nn + Phs S + 100000 ≤ 7293034) (K : ∀ (S9 : PS) (H9 : Heap) (locs9 : List Loc) (ls9 : Array Slot) (c9 n9 : Nat), Wd G cy (fun q : Nat => s.heap.size ≤ q) s.heap S9 H9 locs9 → GX S9 → At S9 x 11 → At S9 mo 12 → MI S9 mo → GR S9 mo → LA cL oq H9 → oq ∉ pL S9 → lv_has ls9 7 [(4, .int i), (3, .ref oq), (2, .ref mo), (1, .ref x), (0, .ref b)] → c9 + Phc S9 ≤ cc + Phc S + 102 → n9 + Phs S9 ≤ nn + Phs S + 1020 → W p l e room_1 s m #[Value.ref b] below meth c H9 locs9 c9 n9 Q (F0 m 1505 ls9 [])) : W p l e room_1 s m #[Value.ref b] below meth c H locs cc nn Q (F0 m 1431 ls []) := by
  refine lv_aload_n X.1 X.2.1 dL_law_1431 rfl (lv_at hl 3 rfl) ?_
  refine lv_aload_n X.1 X.2.1 dL_law_1432 rfl (lv_at hl 4 rfl) ?_
  refine lv_iload X.1 X.2.1 dL_law_1433 (lv_at hl 0 rfl) ?_
  refine lv_iconst (v := 1) X.1 X.2.1 dL_law_1435 (by decide) ?_
  refine lv_iadd X.1 X.2.1 dL_law_1436 ?_
  refine lv_topi (fun v_1 ev_1 => ?_)
  have z_2 : v_1.toInt = i_z + 1 := z_add ev_1 hz_i ti_1 (by omega) (by omega)
  refine va_sld X.1 X.2.1 hX hbl hbA hw.2.2 (z_ix rfl (by omega) (by omega)) dL_law_1437 ?_
  refine lv_topi (fun v_3 ev_3 => ?_)
  have rg_4 := And.intro (z_lo v_3) (z_hi v_3)
  refine lv_aload_n X.1 X.2.1 dL_law_1438 rfl (lv_at hl 4 rfl) ?_
  refine lv_iload X.1 X.2.1 dL_law_1439 (lv_at hl 0 rfl) ?_
  refine lv_iconst (v := 2) X.1 X.2.1 dL_law_1441 (by decide) ?_
  refine lv_iadd X.1 X.2.1 dL_law_1442 ?_
  refine lv_topi (fun v_5 ev_5 => ?_)
  have z_6 : v_5.toInt = i_z + 2 := z_add ev_5 hz_i ti_2 (by omega) (by omega)
  refine va_sld X.1 X.2.1 hX hbl hbA hw.2.2 (z_ix rfl (by omega) (by omega)) dL_law_1443 ?_
  refine lv_topi (fun v_7 ev_7 => ?_)
  have rg_8 := And.intro (z_lo v_7) (z_hi v_7)
  refine lv_aload_n X.1 X.2.1 dL_law_1444 rfl (lv_at hl 4 rfl) ?_
  refine lv_iload X.1 X.2.1 dL_law_1445 (lv_at hl 0 rfl) ?_
  refine lv_iconst (v := 3) X.1 X.2.1 dL_law_1447 (by decide) ?_
  refine lv_iadd X.1 X.2.1 dL_law_1448 ?_
  refine lv_topi (fun v_9 ev_9 => ?_)
  have z_10 : v_9.toInt = i_z + 3 := z_add ev_9 hz_i ti_3 (by omega) (by omega)
  refine va_sld X.1 X.2.1 hX hbl hbA hw.2.2 (z_ix rfl (by omega) (by omega)) dL_law_1449 ?_
  refine lv_topi (fun v_11 ev_11 => ?_)
  have rg_12 := And.intro (z_lo v_11) (z_hi v_11)
  refine k_i (rm := { frames := 4, cells := 0, slots := 0, locals := 192 }) (av := [.ref x, .int (v_3), .int (v_7), .int (v_11)]) X hw (va_runV (As := [.int (v_3), .int (v_7), .int (v_11)]) (rest := []) (cfix X) (k_X11_pay l G cy κ S _ x (v_3) (v_3.toInt) (v_7) (v_7.toInt) (v_11) (v_11.toInt) hG hax rfl rfl rfl) (cwV 3 X.2.2.2.1 gk_X11_pay rfl rfl rfl (by decide +kernel) ⟨Nat.le_of_ble_eq_true rfl, Nat.le_of_ble_eq_true rfl⟩) (pre_V X hw _ hax rfl (by decide) rfl) rfl rfl hl.1 rfl (lv_room (Nat.le_of_ble_eq_true rfl)) dL_law_1450 ⟨(by show cc + 0 ≤ 601024; omega), (by show nn + 0 ≤ 7293034; omega)⟩) cc nn (by show cc + 0 ≤ cc; omega) (by show nn + 0 ≤ nn; omega) (fun rr_13 S_14 H locs hp hw hfr hnw => ?_)
  have la_15 := LA_keep hLA hoq hfr
  have oq_16 := oq_keep hLA hoq hnw
  obtain ⟨e2, hp⟩ := hp
  subst e2
  have rg_17 := And.intro (z_lo rr_13) (z_hi rr_13)
  refine lv_pop X.1 X.2.1 dL_law_1453 rfl ?_
  refine lv_aload_n X.1 X.2.1 dL_law_1454 rfl (lv_at hl 2 rfl) ?_
  refine lv_aload_n X.1 X.2.1 dL_law_1455 rfl (lv_at hl 4 rfl) ?_
  refine lv_iload X.1 X.2.1 dL_law_1456 (lv_at hl 0 rfl) ?_
  refine lv_iconst (v := 1) X.1 X.2.1 dL_law_1458 (by decide) ?_
  refine lv_iadd X.1 X.2.1 dL_law_1459 ?_
  refine lv_topi (fun v_18 ev_18 => ?_)
  have z_19 : v_18.toInt = i_z + 1 := z_add ev_18 hz_i ti_1 (by omega) (by omega)
  refine va_sld X.1 X.2.1 hX hbl hbA hw.2.2 (z_ix rfl (by omega) (by omega)) dL_law_1460 ?_
  refine lv_topi (fun v_20 ev_20 => ?_)
  have es_21 : v_3 = v_20 := by rw [ev_3, ev_20, ev_1, ev_18]
  subst es_21
  refine lv_aload_n X.1 X.2.1 dL_law_1461 rfl (lv_at hl 4 rfl) ?_
  refine lv_iload X.1 X.2.1 dL_law_1462 (lv_at hl 0 rfl) ?_
  refine lv_iconst (v := 2) X.1 X.2.1 dL_law_1464 (by decide) ?_
  refine lv_iadd X.1 X.2.1 dL_law_1465 ?_
  refine lv_topi (fun v_22 ev_22 => ?_)
  have z_23 : v_22.toInt = i_z + 2 := z_add ev_22 hz_i ti_2 (by omega) (by omega)
  refine va_sld X.1 X.2.1 hX hbl hbA hw.2.2 (z_ix rfl (by omega) (by omega)) dL_law_1466 ?_
  refine lv_topi (fun v_24 ev_24 => ?_)
  have es_25 : v_7 = v_24 := by rw [ev_7, ev_24, ev_5, ev_22]
  subst es_25
  refine lv_aload_n X.1 X.2.1 dL_law_1467 rfl (lv_at hl 4 rfl) ?_
  refine lv_iload X.1 X.2.1 dL_law_1468 (lv_at hl 0 rfl) ?_
  refine lv_iconst (v := 3) X.1 X.2.1 dL_law_1470 (by decide) ?_
  refine lv_iadd X.1 X.2.1 dL_law_1471 ?_
  refine lv_topi (fun v_26 ev_26 => ?_)
  have z_27 : v_26.toInt = i_z + 3 := z_add ev_26 hz_i ti_3 (by omega) (by omega)
  refine va_sld X.1 X.2.1 hX hbl hbA hw.2.2 (z_ix rfl (by omega) (by omega)) dL_law_1472 ?_
  refine lv_topi (fun v_28 ev_28 => ?_)
  have es_29 : v_11 = v_28 := by rw [ev_11, ev_28, ev_9, ev_26]
  subst es_29
  refine k_i (rm := { frames := 8, cells := 0, slots := 0, locals := 384 }) (av := [.ref mo, .int (v_3), .int (v_7), .int (v_11)]) X hw (va_runV (As := [.int (v_3), .int (v_7), .int (v_11)]) (rest := []) (cfix X) (k_X12_pay l G cy κ S _ mo (v_3) (v_3.toInt) (v_7) (v_7.toInt) (v_11) (v_11.toInt) hG ham rfl rfl rfl hMI) (cwV 3 X.2.2.2.1 gk_X12_pay rfl rfl rfl (by decide +kernel) ⟨Nat.le_of_ble_eq_true rfl, Nat.le_of_ble_eq_true rfl⟩) (pre_V X hw _ ham rfl (by decide) rfl) rfl rfl hl.1 rfl (lv_room (Nat.le_of_ble_eq_true rfl)) dL_law_1473 ⟨(by show cc + 0 ≤ 601024; omega), (by show nn + 0 ≤ 7293034; omega)⟩) cc nn (by show cc + 0 ≤ cc; omega) (by show nn + 0 ≤ nn; omega) (fun rr_30 S_31 H locs hp hw hfr hnw => ?_)
  have la_32 := LA_keep la_15 oq_16 hfr
  have oq_33 := oq_keep la_15 oq_16 hnw
  obtain ⟨hk_34, hp⟩ := hp
  have ax_37 : At S_31 x 11 := hk_34.fr.at hax
  have am_38 : At S_31 mo 12 := hk_34.fr.at ham
  have mi_35 : MI S_31 mo := MIe_free hG ham hk_34.fr (by decide +kernel) hMI
  have gr_36 : GR S_31 mo := GR_free hG ham hk_34.fr (by decide +kernel) hGR
  have ph_39 : Phc S_31 = Phc S := Ph_ok hG hk_34 (by decide +kernel) (by decide +kernel) (by decide +kernel)
  have ph_40 : Phs S_31 = Phs S := Ph_ok hG hk_34 (by decide +kernel) (by decide +kernel) (by decide +kernel)
  have hg_41 : GX S_31 := hk_34.1
  have rg_42 := And.intro (z_lo rr_30) (z_hi rr_30)
  refine lv_pop X.1 X.2.1 dL_law_1476 rfl ?_
  refine lv_goto (tgt := 1505) X.1 X.2.1 dL_law_1477 (by decide) ?_
  exact K _ _ _ _ cc nn hw hg_41 ax_37 am_38 mi_35 gr_36 la_32 oq_33 (lv_sub hl [0, 1, 2, 3, 4] rfl) (by omega) (by omega)
set_option maxHeartbeats 4000000 in
set_option maxRecDepth 100000 in
theorem lc_30 {p : Program} {l : Launch} {e : Env} {s : State} {m : MethodId} {below : List Frame} {meth : Method} {c : Code} (hst : l.stackTraces = false) {b x mo oq L : Nat} {xs : Nat → Int32} {cL : ClassId} {G : va_G} {cy : Nat → ClassId} {κ : Nat → Nat} {S : PS} {H : Heap} {locs : List Loc} {ls : Array Slot} {cc nn : Nat} {Q : State → Prop} {i : Int32} {i_z : Int} (X : Cx p c cL_law 7 s #[Value.ref b] lw_tbl RL m G cy κ (fun q : Nat => s.heap.size ≤ q)) (hX : va_X b L xs s s.heap) (hbl : b < s.heap.size) (hbA : ¬ (fun q : Nat => s.heap.size ≤ q) b) (hdc : ∀ Y ∈ DcL, va_Nw (.declares (Bundle.initS Y)) s) (hkl : Kl cL s) (hAo : (fun q : Nat => s.heap.size ≤ q) oq) (hL : L ≤ 3072) (hz_i : i.toInt = i_z) (hi0 : 0 ≤ i_z) (hi1 : i_z + 6 ≤ (L : Int)) (hw : Wd G cy (fun q : Nat => s.heap.size ≤ q) s.heap S H locs) (hG : GX S) (hax : At S x 11) (ham : At S mo 12) (hMI : MI S mo) (hGR : GR S mo) (hLA : LA cL oq H) (hoq : oq ∉ pL S) (hl : lv_has ls 7 [(4, .int i), (3, .ref oq), (2, .ref mo), (1, .ref x), (0, .ref b)]) (hcc : cc + Phc S + 20000 ≤ 601024) (hnn : nn + Phs S + 100000 ≤ 7293034) (K : ∀ (S9 : PS) (H9 : Heap) (locs9 : List Loc) (ls9 : Array Slot) (c9 n9 : Nat), Wd G cy (fun q : Nat => s.heap.size ≤ q) s.heap S9 H9 locs9 → GX S9 → At S9 x 11 → At S9 mo 12 → MI S9 mo → GR S9 mo → LA cL oq H9 → oq ∉ pL S9 → lv_has ls9 7 [(4, .int i), (3, .ref oq), (2, .ref mo), (1, .ref x), (0, .ref b)] → c9 + Phc S9 ≤ cc + Phc S + 102 → n9 + Phs S9 ≤ nn + Phs S + 1020 → W p l e room_1 s m #[Value.ref b] below meth c H9 locs9 c9 n9 Q (F0 m 1505 ls9 [])) : W p l e room_1 s m #[Value.ref b] below meth c H locs cc nn Q (F0 m 1480 ls []) := by
  refine lv_aload_n X.1 X.2.1 dL_law_1480 rfl (lv_at hl 3 rfl) ?_
  refine lv_aload_n X.1 X.2.1 dL_law_1481 rfl (lv_at hl 4 rfl) ?_
  refine lv_iload X.1 X.2.1 dL_law_1482 (lv_at hl 0 rfl) ?_
  refine lv_iconst (v := 1) X.1 X.2.1 dL_law_1484 (by decide) ?_
  refine lv_iadd X.1 X.2.1 dL_law_1485 ?_
  refine lv_topi (fun v_1 ev_1 => ?_)
  have z_2 : v_1.toInt = i_z + 1 := z_add ev_1 hz_i ti_1 (by omega) (by omega)
  refine va_sld X.1 X.2.1 hX hbl hbA hw.2.2 (z_ix rfl (by omega) (by omega)) dL_law_1486 ?_
  refine lv_topi (fun v_3 ev_3 => ?_)
  have rg_4 := And.intro (z_lo v_3) (z_hi v_3)
  refine k_i (rm := { frames := 3, cells := 0, slots := 0, locals := 144 }) (av := [.ref x, .int (v_3)]) X hw (va_runV (As := [.int (v_3)]) (rest := []) (cfix X) (k_X11_count l G cy κ S _ x (v_3) (v_3.toInt) hG hax rfl) (cwV 1 X.2.2.2.1 gk_X11_count rfl rfl rfl (by decide +kernel) ⟨Nat.le_of_ble_eq_true rfl, Nat.le_of_ble_eq_true rfl⟩) (pre_V X hw _ hax rfl (by decide) rfl) rfl rfl hl.1 rfl (lv_room (Nat.le_of_ble_eq_true rfl)) dL_law_1487 ⟨(by show cc + 0 ≤ 601024; omega), (by show nn + 0 ≤ 7293034; omega)⟩) cc nn (by show cc + 0 ≤ cc; omega) (by show nn + 0 ≤ nn; omega) (fun rr_5 S_6 H locs hp hw hfr hnw => ?_)
  have la_7 := LA_keep hLA hoq hfr
  have oq_8 := oq_keep hLA hoq hnw
  obtain ⟨e2, hp⟩ := hp
  subst e2
  have rg_9 := And.intro (z_lo rr_5) (z_hi rr_5)
  refine lv_pop X.1 X.2.1 dL_law_1490 rfl ?_
  refine lv_aload_n X.1 X.2.1 dL_law_1491 rfl (lv_at hl 2 rfl) ?_
  refine lv_aload_n X.1 X.2.1 dL_law_1492 rfl (lv_at hl 4 rfl) ?_
  refine lv_iload X.1 X.2.1 dL_law_1493 (lv_at hl 0 rfl) ?_
  refine lv_iconst (v := 1) X.1 X.2.1 dL_law_1495 (by decide) ?_
  refine lv_iadd X.1 X.2.1 dL_law_1496 ?_
  refine lv_topi (fun v_10 ev_10 => ?_)
  have z_11 : v_10.toInt = i_z + 1 := z_add ev_10 hz_i ti_1 (by omega) (by omega)
  refine va_sld X.1 X.2.1 hX hbl hbA hw.2.2 (z_ix rfl (by omega) (by omega)) dL_law_1497 ?_
  refine lv_topi (fun v_12 ev_12 => ?_)
  have es_13 : v_3 = v_12 := by rw [ev_3, ev_12, ev_1, ev_10]
  subst es_13
  refine k_i (rm := { frames := 6, cells := 0, slots := 0, locals := 288 }) (av := [.ref mo, .int (v_3)]) X hw (va_runV (As := [.int (v_3)]) (rest := []) (cfix X) (k_X12_count l G cy κ S _ mo (v_3) (v_3.toInt) hG ham rfl hMI) (cwV 1 X.2.2.2.1 gk_X12_count rfl rfl rfl (by decide +kernel) ⟨Nat.le_of_ble_eq_true rfl, Nat.le_of_ble_eq_true rfl⟩) (pre_V X hw _ ham rfl (by decide) rfl) rfl rfl hl.1 rfl (lv_room (Nat.le_of_ble_eq_true rfl)) dL_law_1498 ⟨(by show cc + 0 ≤ 601024; omega), (by show nn + 0 ≤ 7293034; omega)⟩) cc nn (by show cc + 0 ≤ cc; omega) (by show nn + 0 ≤ nn; omega) (fun rr_14 S_15 H locs hp hw hfr hnw => ?_)
  have la_16 := LA_keep la_7 oq_8 hfr
  have oq_17 := oq_keep la_7 oq_8 hnw
  obtain ⟨hk_18, hp⟩ := hp
  have ax_21 : At S_15 x 11 := hk_18.fr.at hax
  have am_22 : At S_15 mo 12 := hk_18.fr.at ham
  have mi_19 : MI S_15 mo := MIe_free hG ham hk_18.fr (by decide +kernel) hMI
  have gr_20 : GR S_15 mo := GR_free hG ham hk_18.fr (by decide +kernel) hGR
  have ph_23 : Phc S_15 = Phc S := Ph_ok hG hk_18 (by decide +kernel) (by decide +kernel) (by decide +kernel)
  have ph_24 : Phs S_15 = Phs S := Ph_ok hG hk_18 (by decide +kernel) (by decide +kernel) (by decide +kernel)
  have hg_25 : GX S_15 := hk_18.1
  have rg_26 := And.intro (z_lo rr_14) (z_hi rr_14)
  refine lv_pop X.1 X.2.1 dL_law_1501 rfl ?_
  refine lv_goto (tgt := 1505) X.1 X.2.1 dL_law_1502 (by decide) ?_
  exact K _ _ _ _ cc nn hw hg_25 ax_21 am_22 mi_19 gr_20 la_16 oq_17 (lv_sub hl [0, 1, 2, 3, 4] rfl) (by omega) (by omega)
set_option maxHeartbeats 4000000 in
set_option maxRecDepth 100000 in
theorem lc_d {p : Program} {l : Launch} {e : Env} {s : State} {m : MethodId} {below : List Frame} {meth : Method} {c : Code} (hst : l.stackTraces = false) {b x mo oq L : Nat} {xs : Nat → Int32} {cL : ClassId} {G : va_G} {cy : Nat → ClassId} {κ : Nat → Nat} {S : PS} {H : Heap} {locs : List Loc} {ls : Array Slot} {cc nn : Nat} {Q : State → Prop} {i : Int32} {i_z : Int} (X : Cx p c cL_law 7 s #[Value.ref b] lw_tbl RL m G cy κ (fun q : Nat => s.heap.size ≤ q)) (hX : va_X b L xs s s.heap) (hbl : b < s.heap.size) (hbA : ¬ (fun q : Nat => s.heap.size ≤ q) b) (hdc : ∀ Y ∈ DcL, va_Nw (.declares (Bundle.initS Y)) s) (hkl : Kl cL s) (hAo : (fun q : Nat => s.heap.size ≤ q) oq) (hL : L ≤ 3072) (hz_i : i.toInt = i_z) (hi0 : 0 ≤ i_z) (hi1 : i_z + 6 ≤ (L : Int)) (hw : Wd G cy (fun q : Nat => s.heap.size ≤ q) s.heap S H locs) (hG : GX S) (hax : At S x 11) (ham : At S mo 12) (hMI : MI S mo) (hGR : GR S mo) (hLA : LA cL oq H) (hoq : oq ∉ pL S) (hl : lv_has ls 7 [(4, .int i), (3, .ref oq), (2, .ref mo), (1, .ref x), (0, .ref b)]) (hcc : cc + Phc S + 20000 ≤ 601024) (hnn : nn + Phs S + 100000 ≤ 7293034) (K : ∀ (S9 : PS) (H9 : Heap) (locs9 : List Loc) (ls9 : Array Slot) (c9 n9 : Nat), Wd G cy (fun q : Nat => s.heap.size ≤ q) s.heap S9 H9 locs9 → GX S9 → At S9 x 11 → At S9 mo 12 → MI S9 mo → GR S9 mo → LA cL oq H9 → oq ∉ pL S9 → lv_has ls9 7 [(4, .int i), (3, .ref oq), (2, .ref mo), (1, .ref x), (0, .ref b)] → c9 + Phc S9 ≤ cc + Phc S + 102 → n9 + Phs S9 ≤ nn + Phs S + 1020 → W p l e room_1 s m #[Value.ref b] below meth c H9 locs9 c9 n9 Q (F0 m 1505 ls9 [])) : W p l e room_1 s m #[Value.ref b] below meth c H locs cc nn Q (F0 m 1505 ls []) := by
  exact K _ _ _ _ cc nn hw hG hax ham hMI hGR hLA hoq (lv_sub hl [0, 1, 2, 3, 4] rfl) (by omega) (by omega)
