set_option maxHeartbeats 4000000 in
set_option maxRecDepth 100000 in
theorem lc_0 {p : Program} {l : Launch} {e : Env} {s : State} {m : MethodId} {below : List Frame} {meth : Method} {c : Code} (hst : l.stackTraces = false) {b x mo oq L : Nat} {xs : Nat → Int32} {cL : ClassId} {G : va_G} {cy : Nat → ClassId} {κ : Nat → Nat} {S : PS} {H : Heap} {locs : List Loc} {ls : Array Slot} {cc nn : Nat} {Q : State → Prop} {i : Int32} {i_z : Int} (X : Cx p c cL_law 7 s #[Value.ref b] lw_tbl RL m G cy κ (fun q : Nat => s.heap.size ≤ q)) (hX : va_X b L xs s s.heap) (hbl : b < s.heap.size) (hbA : ¬ (fun q : Nat => s.heap.size ≤ q) b) (hdc : ∀ Y ∈ DcL, va_Nw (.declares (Bundle.initS Y)) s) (hkl : Kl cL s) (hAo : (fun q : Nat => s.heap.size ≤ q) oq) (hL : L ≤ 3072) (hz_i : i.toInt = i_z) (hi0 : 0 ≤ i_z) (hi1 : i_z + 6 ≤ (L : Int)) (hw : Wd G cy (fun q : Nat => s.heap.size ≤ q) s.heap S H locs) (hG : GX S) (hax : At S x 11) (ham : At S mo 12) (hMI : MI S mo) (hGR : GR S mo) (hLA : LA cL oq H) (hoq : oq ∉ pL S) (hl : lv_has ls 7 [(4, .int i), (3, .ref oq), (2, .ref mo), (1, .ref x), (0, .ref b)]) (hcc : cc + Phc S + 20000 ≤ 601024) (hnn : nn + Phs S + 100000 ≤ 7293034) (K : ∀ (S9 : PS) (H9 : Heap) (locs9 : List Loc) (ls9 : Array Slot) (c9 n9 : Nat), Wd G cy (fun q : Nat => s.heap.size ≤ q) s.heap S9 H9 locs9 → GX S9 → At S9 x 11 → At S9 mo 12 → MI S9 mo → GR S9 mo → LA cL oq H9 → oq ∉ pL S9 → lv_has ls9 7 [(4, .int i), (3, .ref oq), (2, .ref mo), (1, .ref x), (0, .ref b)] → c9 + Phc S9 ≤ cc + Phc S + 102 → n9 + Phs S9 ≤ nn + Phs S + 1020 → W p l e room_1 s m #[Value.ref b] below meth c H9 locs9 c9 n9 Q (F0 m 1505 ls9 [])) : W p l e room_1 s m #[Value.ref b] below meth c H locs cc nn Q (F0 m 180 ls []) := by
  refine lv_aload_n X.1 X.2.1 dL_law_180 rfl (lv_at hl 3 rfl) ?_
  refine lv_aload_n X.1 X.2.1 dL_law_181 rfl (lv_at hl 4 rfl) ?_
  refine lv_iload X.1 X.2.1 dL_law_182 (lv_at hl 0 rfl) ?_
  refine lv_iconst (v := 1) X.1 X.2.1 dL_law_184 (by decide) ?_
  refine lv_iadd X.1 X.2.1 dL_law_185 ?_
  refine lv_topi (fun v_1 ev_1 => ?_)
  have z_2 : v_1.toInt = i_z + 1 := z_add ev_1 hz_i ti_1 (by omega) (by omega)
  refine va_sld X.1 X.2.1 hX hbl hbA hw.2.2 (z_ix rfl (by omega) (by omega)) dL_law_186 ?_
  refine lv_topi (fun v_3 ev_3 => ?_)
  have rg_4 := And.intro (z_lo v_3) (z_hi v_3)
  refine lv_aload_n X.1 X.2.1 dL_law_187 rfl (lv_at hl 4 rfl) ?_
  refine lv_iload X.1 X.2.1 dL_law_188 (lv_at hl 0 rfl) ?_
  refine lv_iconst (v := 2) X.1 X.2.1 dL_law_190 (by decide) ?_
  refine lv_iadd X.1 X.2.1 dL_law_191 ?_
  refine lv_topi (fun v_5 ev_5 => ?_)
  have z_6 : v_5.toInt = i_z + 2 := z_add ev_5 hz_i ti_2 (by omega) (by omega)
  refine va_sld X.1 X.2.1 hX hbl hbA hw.2.2 (z_ix rfl (by omega) (by omega)) dL_law_192 ?_
  refine lv_topi (fun v_7 ev_7 => ?_)
  have rg_8 := And.intro (z_lo v_7) (z_hi v_7)
  refine lv_aload_n X.1 X.2.1 dL_law_193 rfl (lv_at hl 4 rfl) ?_
  refine lv_iload X.1 X.2.1 dL_law_194 (lv_at hl 0 rfl) ?_
  refine lv_iconst (v := 3) X.1 X.2.1 dL_law_196 (by decide) ?_
  refine lv_iadd X.1 X.2.1 dL_law_197 ?_
  refine lv_topi (fun v_9 ev_9 => ?_)
  have z_10 : v_9.toInt = i_z + 3 := z_add ev_9 hz_i ti_3 (by omega) (by omega)
  refine va_sld X.1 X.2.1 hX hbl hbA hw.2.2 (z_ix rfl (by omega) (by omega)) dL_law_198 ?_
  refine lv_topi (fun v_11 ev_11 => ?_)
  have rg_12 := And.intro (z_lo v_11) (z_hi v_11)
  refine lv_aload_n X.1 X.2.1 dL_law_199 rfl (lv_at hl 4 rfl) ?_
  refine lv_iload X.1 X.2.1 dL_law_200 (lv_at hl 0 rfl) ?_
  refine lv_iconst (v := 4) X.1 X.2.1 dL_law_202 (by decide) ?_
  refine lv_iadd X.1 X.2.1 dL_law_203 ?_
  refine lv_topi (fun v_13 ev_13 => ?_)
  have z_14 : v_13.toInt = i_z + 4 := z_add ev_13 hz_i ti_4 (by omega) (by omega)
  refine va_sld X.1 X.2.1 hX hbl hbA hw.2.2 (z_ix rfl (by omega) (by omega)) dL_law_204 ?_
  refine lv_topi (fun v_15 ev_15 => ?_)
  have rg_16 := And.intro (z_lo v_15) (z_hi v_15)
  refine lv_aload_n X.1 X.2.1 dL_law_205 rfl (lv_at hl 4 rfl) ?_
  refine lv_iload X.1 X.2.1 dL_law_206 (lv_at hl 0 rfl) ?_
  refine lv_iconst (v := 5) X.1 X.2.1 dL_law_208 (by decide) ?_
  refine lv_iadd X.1 X.2.1 dL_law_209 ?_
  refine lv_topi (fun v_17 ev_17 => ?_)
  have z_18 : v_17.toInt = i_z + 5 := z_add ev_17 hz_i ti_5 (by omega) (by omega)
  refine va_sld X.1 X.2.1 hX hbl hbA hw.2.2 (z_ix rfl (by omega) (by omega)) dL_law_210 ?_
  refine lv_topi (fun v_19 ev_19 => ?_)
  have rg_20 := And.intro (z_lo v_19) (z_hi v_19)
  refine k_gi2 (kc := 60) (ks := 600) (rm := { frames := 4, cells := Phc S + 60, slots := Phs S + 600, locals := 192 }) (av := [.ref x, .int (v_3), .int (v_7), .int (v_11), .int (v_15), .int (v_19)]) X hw (va_runV (As := [.int (v_3), .int (v_7), .int (v_11), .int (v_15), .int (v_19)]) (rest := []) (cfix X) (k_X11_lot l G cy κ S _ _ x (v_3) (v_3.toInt) (v_7) (v_7.toInt) (v_11) (v_11.toInt) (v_15) (v_15.toInt) (v_19) (v_19.toInt) hG hax rfl rfl rfl rfl rfl) (cwV 5 X.2.2.2.1 gk_X11_lot rfl rfl rfl (by decide +kernel) ⟨Nat.le_of_ble_eq_true rfl, Nat.le_of_ble_eq_true rfl⟩) (pre_gV X hw _ hax rfl (by decide) rfl) rfl rfl hl.1 rfl (lv_room (Nat.le_of_ble_eq_true rfl)) dL_law_211 ⟨(by show cc + (Phc S + 60) ≤ 601024; omega), (by show nn + (Phs S + 600) ≤ 7293034; omega)⟩) (fun rr_21 S_22 H locs c_23 n_24 hc_23 hn_24 hp hw hfr hnw => ?_)
  have la_25 := LA_keep hLA hoq hfr
  have oq_26 := oq_keep hLA hoq hnw
  obtain ⟨hk_27, hp⟩ := hp
  have ax_30 : At S_22 x 11 := hk_27.fr.at hax
  have am_31 : At S_22 mo 12 := hk_27.fr.at ham
  have mi_28 : MI S_22 mo := MIe_free hG ham hk_27.fr (by decide +kernel) hMI
  have gr_29 : GR S_22 mo := GR_free hG ham hk_27.fr (by decide +kernel) hGR
  have hg_32 : GX S_22 := hk_27.1
  have rg_33 := And.intro (z_lo rr_21) (z_hi rr_21)
  refine lv_pop X.1 X.2.1 dL_law_214 rfl ?_
  refine lv_aload_n X.1 X.2.1 dL_law_215 rfl (lv_at hl 2 rfl) ?_
  refine lv_aload_n X.1 X.2.1 dL_law_216 rfl (lv_at hl 4 rfl) ?_
  refine lv_iload X.1 X.2.1 dL_law_217 (lv_at hl 0 rfl) ?_
  refine lv_iconst (v := 1) X.1 X.2.1 dL_law_219 (by decide) ?_
  refine lv_iadd X.1 X.2.1 dL_law_220 ?_
  refine lv_topi (fun v_34 ev_34 => ?_)
  have z_35 : v_34.toInt = i_z + 1 := z_add ev_34 hz_i ti_1 (by omega) (by omega)
  refine va_sld X.1 X.2.1 hX hbl hbA hw.2.2 (z_ix rfl (by omega) (by omega)) dL_law_221 ?_
  refine lv_topi (fun v_36 ev_36 => ?_)
  have es_37 : v_3 = v_36 := by rw [ev_3, ev_36, ev_1, ev_34]
  subst es_37
  refine lv_aload_n X.1 X.2.1 dL_law_222 rfl (lv_at hl 4 rfl) ?_
  refine lv_iload X.1 X.2.1 dL_law_223 (lv_at hl 0 rfl) ?_
  refine lv_iconst (v := 2) X.1 X.2.1 dL_law_225 (by decide) ?_
  refine lv_iadd X.1 X.2.1 dL_law_226 ?_
  refine lv_topi (fun v_38 ev_38 => ?_)
  have z_39 : v_38.toInt = i_z + 2 := z_add ev_38 hz_i ti_2 (by omega) (by omega)
  refine va_sld X.1 X.2.1 hX hbl hbA hw.2.2 (z_ix rfl (by omega) (by omega)) dL_law_227 ?_
  refine lv_topi (fun v_40 ev_40 => ?_)
  have es_41 : v_7 = v_40 := by rw [ev_7, ev_40, ev_5, ev_38]
  subst es_41
  refine lv_aload_n X.1 X.2.1 dL_law_228 rfl (lv_at hl 4 rfl) ?_
  refine lv_iload X.1 X.2.1 dL_law_229 (lv_at hl 0 rfl) ?_
  refine lv_iconst (v := 3) X.1 X.2.1 dL_law_231 (by decide) ?_
  refine lv_iadd X.1 X.2.1 dL_law_232 ?_
  refine lv_topi (fun v_42 ev_42 => ?_)
  have z_43 : v_42.toInt = i_z + 3 := z_add ev_42 hz_i ti_3 (by omega) (by omega)
  refine va_sld X.1 X.2.1 hX hbl hbA hw.2.2 (z_ix rfl (by omega) (by omega)) dL_law_233 ?_
  refine lv_topi (fun v_44 ev_44 => ?_)
  have es_45 : v_11 = v_44 := by rw [ev_11, ev_44, ev_9, ev_42]
  subst es_45
  refine lv_aload_n X.1 X.2.1 dL_law_234 rfl (lv_at hl 4 rfl) ?_
  refine lv_iload X.1 X.2.1 dL_law_235 (lv_at hl 0 rfl) ?_
  refine lv_iconst (v := 4) X.1 X.2.1 dL_law_237 (by decide) ?_
  refine lv_iadd X.1 X.2.1 dL_law_238 ?_
  refine lv_topi (fun v_46 ev_46 => ?_)
  have z_47 : v_46.toInt = i_z + 4 := z_add ev_46 hz_i ti_4 (by omega) (by omega)
  refine va_sld X.1 X.2.1 hX hbl hbA hw.2.2 (z_ix rfl (by omega) (by omega)) dL_law_239 ?_
  refine lv_topi (fun v_48 ev_48 => ?_)
  have es_49 : v_15 = v_48 := by rw [ev_15, ev_48, ev_13, ev_46]
  subst es_49
  refine lv_aload_n X.1 X.2.1 dL_law_240 rfl (lv_at hl 4 rfl) ?_
  refine lv_iload X.1 X.2.1 dL_law_241 (lv_at hl 0 rfl) ?_
  refine lv_iconst (v := 5) X.1 X.2.1 dL_law_243 (by decide) ?_
  refine lv_iadd X.1 X.2.1 dL_law_244 ?_
  refine lv_topi (fun v_50 ev_50 => ?_)
  have z_51 : v_50.toInt = i_z + 5 := z_add ev_50 hz_i ti_5 (by omega) (by omega)
  refine va_sld X.1 X.2.1 hX hbl hbA hw.2.2 (z_ix rfl (by omega) (by omega)) dL_law_245 ?_
  refine lv_topi (fun v_52 ev_52 => ?_)
  have es_53 : v_19 = v_52 := by rw [ev_19, ev_52, ev_17, ev_50]
  subst es_53
  refine k_i (rm := { frames := 2, cells := 0, slots := 0, locals := 96 }) (av := [.ref mo, .int (v_3), .int (v_7), .int (v_11), .int (v_15), .int (v_19)]) X hw (va_runV (As := [.int (v_3), .int (v_7), .int (v_11), .int (v_15), .int (v_19)]) (rest := []) (cfix X) (k_X12_lot l G cy κ S_22 _ mo (v_3) (v_3.toInt) (v_7) (v_7.toInt) (v_11) (v_11.toInt) (v_15) (v_15.toInt) (v_19) (v_19.toInt) hg_32 am_31 rfl rfl rfl rfl rfl mi_28) (cwV 5 X.2.2.2.1 gk_X12_lot rfl rfl rfl (by decide +kernel) ⟨Nat.le_of_ble_eq_true rfl, Nat.le_of_ble_eq_true rfl⟩) (pre_V X hw _ am_31 rfl (by decide) rfl) rfl rfl hl.1 rfl (lv_room (Nat.le_of_ble_eq_true rfl)) dL_law_246 ⟨(by show c_23 + 0 ≤ 601024; omega), (by show n_24 + 0 ≤ 7293034; omega)⟩) c_23 n_24 (by show c_23 + 0 ≤ c_23; omega) (by show n_24 + 0 ≤ n_24; omega) (fun rr_54 S_55 H locs hp hw hfr hnw => ?_)
  have la_56 := LA_keep la_25 oq_26 hfr
  have oq_57 := oq_keep la_25 oq_26 hnw
  obtain ⟨hk_58, hp⟩ := hp
  have ax_61 : At S_55 x 11 := hk_58.fr.at ax_30
  have am_62 : At S_55 mo 12 := hk_58.fr.at am_31
  have mi_59 : MI S_55 mo := hp
  have gr_60 : GR S_55 mo := GR_fr hg_32 am_31 hk_58.fr (by decide +kernel) (by decide +kernel) gr_29
  have ph_63 : Phc S_55 = Phc S_22 := Ph_ok hg_32 hk_58 (by decide +kernel) (by decide +kernel) (by decide +kernel)
  have ph_64 : Phs S_55 = Phs S_22 := Ph_ok hg_32 hk_58 (by decide +kernel) (by decide +kernel) (by decide +kernel)
  have hg_65 : GX S_55 := hk_58.1
  have rg_66 := And.intro (z_lo rr_54) (z_hi rr_54)
  refine lv_pop X.1 X.2.1 dL_law_249 rfl ?_
  refine lv_goto (tgt := 1505) X.1 X.2.1 dL_law_250 (by decide) ?_
  exact K _ _ _ _ c_23 n_24 hw hg_65 ax_61 am_62 mi_59 gr_60 la_56 oq_57 (lv_sub hl [0, 1, 2, 3, 4] rfl) (by omega) (by omega)
set_option maxHeartbeats 4000000 in
set_option maxRecDepth 100000 in
theorem lc_1 {p : Program} {l : Launch} {e : Env} {s : State} {m : MethodId} {below : List Frame} {meth : Method} {c : Code} (hst : l.stackTraces = false) {b x mo oq L : Nat} {xs : Nat → Int32} {cL : ClassId} {G : va_G} {cy : Nat → ClassId} {κ : Nat → Nat} {S : PS} {H : Heap} {locs : List Loc} {ls : Array Slot} {cc nn : Nat} {Q : State → Prop} {i : Int32} {i_z : Int} (X : Cx p c cL_law 7 s #[Value.ref b] lw_tbl RL m G cy κ (fun q : Nat => s.heap.size ≤ q)) (hX : va_X b L xs s s.heap) (hbl : b < s.heap.size) (hbA : ¬ (fun q : Nat => s.heap.size ≤ q) b) (hdc : ∀ Y ∈ DcL, va_Nw (.declares (Bundle.initS Y)) s) (hkl : Kl cL s) (hAo : (fun q : Nat => s.heap.size ≤ q) oq) (hL : L ≤ 3072) (hz_i : i.toInt = i_z) (hi0 : 0 ≤ i_z) (hi1 : i_z + 6 ≤ (L : Int)) (hw : Wd G cy (fun q : Nat => s.heap.size ≤ q) s.heap S H locs) (hG : GX S) (hax : At S x 11) (ham : At S mo 12) (hMI : MI S mo) (hGR : GR S mo) (hLA : LA cL oq H) (hoq : oq ∉ pL S) (hl : lv_has ls 7 [(4, .int i), (3, .ref oq), (2, .ref mo), (1, .ref x), (0, .ref b)]) (hcc : cc + Phc S + 20000 ≤ 601024) (hnn : nn + Phs S + 100000 ≤ 7293034) (K : ∀ (S9 : PS) (H9 : Heap) (locs9 : List Loc) (ls9 : Array Slot) (c9 n9 : Nat), Wd G cy (fun q : Nat => s.heap.size ≤ q) s.heap S9 H9 locs9 → GX S9 → At S9 x 11 → At S9 mo 12 → MI S9 mo → GR S9 mo → LA cL oq H9 → oq ∉ pL S9 → lv_has ls9 7 [(4, .int i), (3, .ref oq), (2, .ref mo), (1, .ref x), (0, .ref b)] → c9 + Phc S9 ≤ cc + Phc S + 102 → n9 + Phs S9 ≤ nn + Phs S + 1020 → W p l e room_1 s m #[Value.ref b] below meth c H9 locs9 c9 n9 Q (F0 m 1505 ls9 [])) : W p l e room_1 s m #[Value.ref b] below meth c H locs cc nn Q (F0 m 253 ls []) := by
  refine lv_aload_n X.1 X.2.1 dL_law_253 rfl (lv_at hl 3 rfl) ?_
  refine lv_aload_n X.1 X.2.1 dL_law_254 rfl (lv_at hl 4 rfl) ?_
  refine lv_iload X.1 X.2.1 dL_law_255 (lv_at hl 0 rfl) ?_
  refine lv_iconst (v := 1) X.1 X.2.1 dL_law_257 (by decide) ?_
  refine lv_iadd X.1 X.2.1 dL_law_258 ?_
  refine lv_topi (fun v_1 ev_1 => ?_)
  have z_2 : v_1.toInt = i_z + 1 := z_add ev_1 hz_i ti_1 (by omega) (by omega)
  refine va_sld X.1 X.2.1 hX hbl hbA hw.2.2 (z_ix rfl (by omega) (by omega)) dL_law_259 ?_
  refine lv_topi (fun v_3 ev_3 => ?_)
  have rg_4 := And.intro (z_lo v_3) (z_hi v_3)
  refine lv_aload_n X.1 X.2.1 dL_law_260 rfl (lv_at hl 4 rfl) ?_
  refine lv_iload X.1 X.2.1 dL_law_261 (lv_at hl 0 rfl) ?_
  refine lv_iconst (v := 2) X.1 X.2.1 dL_law_263 (by decide) ?_
  refine lv_iadd X.1 X.2.1 dL_law_264 ?_
  refine lv_topi (fun v_5 ev_5 => ?_)
  have z_6 : v_5.toInt = i_z + 2 := z_add ev_5 hz_i ti_2 (by omega) (by omega)
  refine va_sld X.1 X.2.1 hX hbl hbA hw.2.2 (z_ix rfl (by omega) (by omega)) dL_law_265 ?_
  refine lv_topi (fun v_7 ev_7 => ?_)
  have rg_8 := And.intro (z_lo v_7) (z_hi v_7)
  refine lv_aload_n X.1 X.2.1 dL_law_266 rfl (lv_at hl 4 rfl) ?_
  refine lv_iload X.1 X.2.1 dL_law_267 (lv_at hl 0 rfl) ?_
  refine lv_iconst (v := 3) X.1 X.2.1 dL_law_269 (by decide) ?_
  refine lv_iadd X.1 X.2.1 dL_law_270 ?_
  refine lv_topi (fun v_9 ev_9 => ?_)
  have z_10 : v_9.toInt = i_z + 3 := z_add ev_9 hz_i ti_3 (by omega) (by omega)
  refine va_sld X.1 X.2.1 hX hbl hbA hw.2.2 (z_ix rfl (by omega) (by omega)) dL_law_271 ?_
  refine lv_topi (fun v_11 ev_11 => ?_)
  have rg_12 := And.intro (z_lo v_11) (z_hi v_11)
  refine k_i (rm := { frames := 3, cells := 0, slots := 0, locals := 144 }) (av := [.ref x, .int (v_3), .int (v_7), .int (v_11)]) X hw (va_runV (As := [.int (v_3), .int (v_7), .int (v_11)]) (rest := []) (cfix X) (k_X11_cocoon l G cy κ S _ x (v_3) (v_3.toInt) (v_7) (v_7.toInt) (v_11) (v_11.toInt) hG hax rfl rfl rfl) (cwV 3 X.2.2.2.1 gk_X11_cocoon rfl rfl rfl (by decide +kernel) ⟨Nat.le_of_ble_eq_true rfl, Nat.le_of_ble_eq_true rfl⟩) (pre_V X hw _ hax rfl (by decide) rfl) rfl rfl hl.1 rfl (lv_room (Nat.le_of_ble_eq_true rfl)) dL_law_272 ⟨(by show cc + 0 ≤ 601024; omega), (by show nn + 0 ≤ 7293034; omega)⟩) cc nn (by show cc + 0 ≤ cc; omega) (by show nn + 0 ≤ nn; omega) (fun rr_13 S_14 H locs hp hw hfr hnw => ?_)
  have la_15 := LA_keep hLA hoq hfr
  have oq_16 := oq_keep hLA hoq hnw
  obtain ⟨e2, hp⟩ := hp
  subst e2
  have rg_17 := And.intro (z_lo rr_13) (z_hi rr_13)
  refine lv_pop X.1 X.2.1 dL_law_275 rfl ?_
  refine lv_aload_n X.1 X.2.1 dL_law_276 rfl (lv_at hl 2 rfl) ?_
  refine lv_aload_n X.1 X.2.1 dL_law_277 rfl (lv_at hl 4 rfl) ?_
  refine lv_iload X.1 X.2.1 dL_law_278 (lv_at hl 0 rfl) ?_
  refine lv_iconst (v := 1) X.1 X.2.1 dL_law_280 (by decide) ?_
  refine lv_iadd X.1 X.2.1 dL_law_281 ?_
  refine lv_topi (fun v_18 ev_18 => ?_)
  have z_19 : v_18.toInt = i_z + 1 := z_add ev_18 hz_i ti_1 (by omega) (by omega)
  refine va_sld X.1 X.2.1 hX hbl hbA hw.2.2 (z_ix rfl (by omega) (by omega)) dL_law_282 ?_
  refine lv_topi (fun v_20 ev_20 => ?_)
  have es_21 : v_3 = v_20 := by rw [ev_3, ev_20, ev_1, ev_18]
  subst es_21
  refine lv_aload_n X.1 X.2.1 dL_law_283 rfl (lv_at hl 4 rfl) ?_
  refine lv_iload X.1 X.2.1 dL_law_284 (lv_at hl 0 rfl) ?_
  refine lv_iconst (v := 2) X.1 X.2.1 dL_law_286 (by decide) ?_
  refine lv_iadd X.1 X.2.1 dL_law_287 ?_
  refine lv_topi (fun v_22 ev_22 => ?_)
  have z_23 : v_22.toInt = i_z + 2 := z_add ev_22 hz_i ti_2 (by omega) (by omega)
  refine va_sld X.1 X.2.1 hX hbl hbA hw.2.2 (z_ix rfl (by omega) (by omega)) dL_law_288 ?_
  refine lv_topi (fun v_24 ev_24 => ?_)
  have es_25 : v_7 = v_24 := by rw [ev_7, ev_24, ev_5, ev_22]
  subst es_25
  refine lv_aload_n X.1 X.2.1 dL_law_289 rfl (lv_at hl 4 rfl) ?_
  refine lv_iload X.1 X.2.1 dL_law_290 (lv_at hl 0 rfl) ?_
  refine lv_iconst (v := 3) X.1 X.2.1 dL_law_292 (by decide) ?_
  refine lv_iadd X.1 X.2.1 dL_law_293 ?_
  refine lv_topi (fun v_26 ev_26 => ?_)
  have z_27 : v_26.toInt = i_z + 3 := z_add ev_26 hz_i ti_3 (by omega) (by omega)
  refine va_sld X.1 X.2.1 hX hbl hbA hw.2.2 (z_ix rfl (by omega) (by omega)) dL_law_294 ?_
  refine lv_topi (fun v_28 ev_28 => ?_)
  have es_29 : v_11 = v_28 := by rw [ev_11, ev_28, ev_9, ev_26]
  subst es_29
  refine k_i (rm := { frames := 5, cells := 0, slots := 0, locals := 240 }) (av := [.ref mo, .int (v_3), .int (v_7), .int (v_11)]) X hw (va_runV (As := [.int (v_3), .int (v_7), .int (v_11)]) (rest := []) (cfix X) (k_X12_cocoon l G cy κ S _ mo (v_3) (v_3.toInt) (v_7) (v_7.toInt) (v_11) (v_11.toInt) hG ham rfl rfl rfl hMI) (cwV 3 X.2.2.2.1 gk_X12_cocoon rfl rfl rfl (by decide +kernel) ⟨Nat.le_of_ble_eq_true rfl, Nat.le_of_ble_eq_true rfl⟩) (pre_V X hw _ ham rfl (by decide) rfl) rfl rfl hl.1 rfl (lv_room (Nat.le_of_ble_eq_true rfl)) dL_law_295 ⟨(by show cc + 0 ≤ 601024; omega), (by show nn + 0 ≤ 7293034; omega)⟩) cc nn (by show cc + 0 ≤ cc; omega) (by show nn + 0 ≤ nn; omega) (fun rr_30 S_31 H locs hp hw hfr hnw => ?_)
  have la_32 := LA_keep la_15 oq_16 hfr
  have oq_33 := oq_keep la_15 oq_16 hnw
  obtain ⟨hk_34, hp⟩ := hp
  have ax_37 : At S_31 x 11 := hk_34.fr.at hax
  have am_38 : At S_31 mo 12 := hk_34.fr.at ham
  have mi_35 : MI S_31 mo := MIe_free hG ham hk_34.fr (by decide +kernel) hMI
  have gr_36 : GR S_31 mo := GR_free hG ham hk_34.fr (by decide +kernel) hGR
  have ph_39 : Phc S_31 = Phc S := Ph_ok hG hk_34 (by decide +kernel) (by decide +kernel) (by decide +kernel)
  have ph_40 : Phs S_31 = Phs S := Ph_ok hG hk_34 (by decide +kernel) (by decide +kernel) (by decide +kernel)
  have hg_41 : GX S_31 := hk_34.1
  have rg_42 := And.intro (z_lo rr_30) (z_hi rr_30)
  refine lv_pop X.1 X.2.1 dL_law_298 rfl ?_
  refine lv_goto (tgt := 1505) X.1 X.2.1 dL_law_299 (by decide) ?_
  exact K _ _ _ _ cc nn hw hg_41 ax_37 am_38 mi_35 gr_36 la_32 oq_33 (lv_sub hl [0, 1, 2, 3, 4] rfl) (by omega) (by omega)
set_option maxHeartbeats 4000000 in
set_option maxRecDepth 100000 in
theorem lc_2 {p : Program} {l : Launch} {e : Env} {s : State} {m : MethodId} {below : List Frame} {meth : Method} {c : Code} (hst : l.stackTraces = false) {b x mo oq L : Nat} {xs : Nat → Int32} {cL : ClassId} {G : va_G} {cy : Nat → ClassId} {κ : Nat → Nat} {S : PS} {H : Heap} {locs : List Loc} {ls : Array Slot} {cc nn : Nat} {Q : State → Prop} {i : Int32} {i_z : Int} (X : Cx p c cL_law 7 s #[Value.ref b] lw_tbl RL m G cy κ (fun q : Nat => s.heap.size ≤ q)) (hX : va_X b L xs s s.heap) (hbl : b < s.heap.size) (hbA : ¬ (fun q : Nat => s.heap.size ≤ q) b) (hdc : ∀ Y ∈ DcL, va_Nw (.declares (Bundle.initS Y)) s) (hkl : Kl cL s) (hAo : (fun q : Nat => s.heap.size ≤ q) oq) (hL : L ≤ 3072) (hz_i : i.toInt = i_z) (hi0 : 0 ≤ i_z) (hi1 : i_z + 6 ≤ (L : Int)) (hw : Wd G cy (fun q : Nat => s.heap.size ≤ q) s.heap S H locs) (hG : GX S) (hax : At S x 11) (ham : At S mo 12) (hMI : MI S mo) (hGR : GR S mo) (hLA : LA cL oq H) (hoq : oq ∉ pL S) (hl : lv_has ls 7 [(4, .int i), (3, .ref oq), (2, .ref mo), (1, .ref x), (0, .ref b)]) (hcc : cc + Phc S + 20000 ≤ 601024) (hnn : nn + Phs S + 100000 ≤ 7293034) (K : ∀ (S9 : PS) (H9 : Heap) (locs9 : List Loc) (ls9 : Array Slot) (c9 n9 : Nat), Wd G cy (fun q : Nat => s.heap.size ≤ q) s.heap S9 H9 locs9 → GX S9 → At S9 x 11 → At S9 mo 12 → MI S9 mo → GR S9 mo → LA cL oq H9 → oq ∉ pL S9 → lv_has ls9 7 [(4, .int i), (3, .ref oq), (2, .ref mo), (1, .ref x), (0, .ref b)] → c9 + Phc S9 ≤ cc + Phc S + 102 → n9 + Phs S9 ≤ nn + Phs S + 1020 → W p l e room_1 s m #[Value.ref b] below meth c H9 locs9 c9 n9 Q (F0 m 1505 ls9 [])) : W p l e room_1 s m #[Value.ref b] below meth c H locs cc nn Q (F0 m 302 ls []) := by
  refine lv_aload_n X.1 X.2.1 dL_law_302 rfl (lv_at hl 3 rfl) ?_
  refine lv_aload_n X.1 X.2.1 dL_law_303 rfl (lv_at hl 4 rfl) ?_
  refine lv_iload X.1 X.2.1 dL_law_304 (lv_at hl 0 rfl) ?_
  refine lv_iconst (v := 1) X.1 X.2.1 dL_law_306 (by decide) ?_
  refine lv_iadd X.1 X.2.1 dL_law_307 ?_
  refine lv_topi (fun v_1 ev_1 => ?_)
  have z_2 : v_1.toInt = i_z + 1 := z_add ev_1 hz_i ti_1 (by omega) (by omega)
  refine va_sld X.1 X.2.1 hX hbl hbA hw.2.2 (z_ix rfl (by omega) (by omega)) dL_law_308 ?_
  refine lv_topi (fun v_3 ev_3 => ?_)
  have rg_4 := And.intro (z_lo v_3) (z_hi v_3)
  refine lv_aload_n X.1 X.2.1 dL_law_309 rfl (lv_at hl 4 rfl) ?_
  refine lv_iload X.1 X.2.1 dL_law_310 (lv_at hl 0 rfl) ?_
  refine lv_iconst (v := 2) X.1 X.2.1 dL_law_312 (by decide) ?_
  refine lv_iadd X.1 X.2.1 dL_law_313 ?_
  refine lv_topi (fun v_5 ev_5 => ?_)
  have z_6 : v_5.toInt = i_z + 2 := z_add ev_5 hz_i ti_2 (by omega) (by omega)
  refine va_sld X.1 X.2.1 hX hbl hbA hw.2.2 (z_ix rfl (by omega) (by omega)) dL_law_314 ?_
  refine lv_topi (fun v_7 ev_7 => ?_)
  have rg_8 := And.intro (z_lo v_7) (z_hi v_7)
  refine lv_aload_n X.1 X.2.1 dL_law_315 rfl (lv_at hl 4 rfl) ?_
  refine lv_iload X.1 X.2.1 dL_law_316 (lv_at hl 0 rfl) ?_
  refine lv_iconst (v := 3) X.1 X.2.1 dL_law_318 (by decide) ?_
  refine lv_iadd X.1 X.2.1 dL_law_319 ?_
  refine lv_topi (fun v_9 ev_9 => ?_)
  have z_10 : v_9.toInt = i_z + 3 := z_add ev_9 hz_i ti_3 (by omega) (by omega)
  refine va_sld X.1 X.2.1 hX hbl hbA hw.2.2 (z_ix rfl (by omega) (by omega)) dL_law_320 ?_
  refine lv_topi (fun v_11 ev_11 => ?_)
  have rg_12 := And.intro (z_lo v_11) (z_hi v_11)
  refine lv_aload_n X.1 X.2.1 dL_law_321 rfl (lv_at hl 1 rfl) ?_
  refine k_out (rm := { frames := 13, cells := 1, slots := 6, locals := 624 }) (av := [.ref x, .int (v_3), .int (v_7), .int (v_11), .ref oq]) (post := fun (r : Int32) (S9 : PS) => S = S9) X hw hAo (vx_runSW (As := [.ref x, .int (v_3), .int (v_7), .int (v_11), .ref oq]) (rest := []) (cfix X) (k_L_fineness l hst G cy κ S _ x (v_3) (v_7) (v_11) oq cL hG hax hoq) (vx_cwSW 5 X.2.2.2.1 gk_L_fineness rfl rfl rfl (by decide +kernel) ⟨Nat.le_of_ble_eq_true rfl, Nat.le_of_ble_eq_true rfl⟩) (pre_SO X hw hdc hkl hLA hAo _) rfl rfl hl.1 rfl (lv_room (Nat.le_of_ble_eq_true rfl)) dL_law_322 ⟨(by show cc + 1 ≤ 601024; omega), (by show nn + 6 ≤ 7293034; omega)⟩) (fun _ _ h => h) (cc + 1) (nn + 6) (Nat.le_refl _) (Nat.le_refl _) (fun rr_13 H locs hw hLA => ?_)
  have rg_14 := And.intro (z_lo rr_13) (z_hi rr_13)
  refine lv_istore (lv' := [(5, .int (rr_13)), (4, .int (i)), (3, .ref oq), (2, .ref mo), (1, .ref x), (0, .ref b)]) X.1 X.2.1 dL_law_325 hl (by decide) rfl (fun ls hl => ?_)
  refine lv_aload_n X.1 X.2.1 dL_law_327 rfl (lv_at hl 3 rfl) ?_
  refine lv_aload_n X.1 X.2.1 dL_law_328 rfl (lv_at hl 5 rfl) ?_
  refine lv_iload X.1 X.2.1 dL_law_329 (lv_at hl 1 rfl) ?_
  refine lv_iconst (v := 1) X.1 X.2.1 dL_law_331 (by decide) ?_
  refine lv_iadd X.1 X.2.1 dL_law_332 ?_
  refine lv_topi (fun v_15 ev_15 => ?_)
  have z_16 : v_15.toInt = i_z + 1 := z_add ev_15 hz_i ti_1 (by omega) (by omega)
  refine va_sld X.1 X.2.1 hX hbl hbA hw.2.2 (z_ix rfl (by omega) (by omega)) dL_law_333 ?_
  refine lv_topi (fun v_17 ev_17 => ?_)
  have es_18 : v_3 = v_17 := by rw [ev_3, ev_17, ev_1, ev_15]
  subst es_18
  refine lv_aload_n X.1 X.2.1 dL_law_334 rfl (lv_at hl 5 rfl) ?_
  refine lv_iload X.1 X.2.1 dL_law_335 (lv_at hl 1 rfl) ?_
  refine lv_iconst (v := 2) X.1 X.2.1 dL_law_337 (by decide) ?_
  refine lv_iadd X.1 X.2.1 dL_law_338 ?_
  refine lv_topi (fun v_19 ev_19 => ?_)
  have z_20 : v_19.toInt = i_z + 2 := z_add ev_19 hz_i ti_2 (by omega) (by omega)
  refine va_sld X.1 X.2.1 hX hbl hbA hw.2.2 (z_ix rfl (by omega) (by omega)) dL_law_339 ?_
  refine lv_topi (fun v_21 ev_21 => ?_)
  have es_22 : v_7 = v_21 := by rw [ev_7, ev_21, ev_5, ev_19]
  subst es_22
  refine lv_aload_n X.1 X.2.1 dL_law_340 rfl (lv_at hl 5 rfl) ?_
  refine lv_iload X.1 X.2.1 dL_law_341 (lv_at hl 1 rfl) ?_
  refine lv_iconst (v := 3) X.1 X.2.1 dL_law_343 (by decide) ?_
  refine lv_iadd X.1 X.2.1 dL_law_344 ?_
  refine lv_topi (fun v_23 ev_23 => ?_)
  have z_24 : v_23.toInt = i_z + 3 := z_add ev_23 hz_i ti_3 (by omega) (by omega)
  refine va_sld X.1 X.2.1 hX hbl hbA hw.2.2 (z_ix rfl (by omega) (by omega)) dL_law_345 ?_
  refine lv_topi (fun v_25 ev_25 => ?_)
  have es_26 : v_11 = v_25 := by rw [ev_11, ev_25, ev_9, ev_23]
  subst es_26
  refine k_i (rm := { frames := 4, cells := 0, slots := 0, locals := 192 }) (av := [.ref mo, .int (v_3), .int (v_7), .int (v_11)]) X hw (va_runV (As := [.int (v_3), .int (v_7), .int (v_11)]) (rest := []) (cfix X) (k_X12_fineness l G cy κ S _ mo (v_3) (v_3.toInt) (v_7) (v_7.toInt) (v_11) (v_11.toInt) hG ham rfl rfl rfl hMI) (cwV 3 X.2.2.2.1 gk_X12_fineness rfl rfl rfl (by decide +kernel) ⟨Nat.le_of_ble_eq_true rfl, Nat.le_of_ble_eq_true rfl⟩) (pre_V X hw _ ham rfl (by decide) rfl) rfl rfl hl.1 rfl (lv_room (Nat.le_of_ble_eq_true rfl)) dL_law_346 ⟨(by show (cc + 1) + 0 ≤ 601024; omega), (by show (nn + 6) + 0 ≤ 7293034; omega)⟩) (cc + 1) (nn + 6) (by show (cc + 1) + 0 ≤ (cc + 1); omega) (by show (nn + 6) + 0 ≤ (nn + 6); omega) (fun rr_27 S_28 H locs hp hw hfr hnw => ?_)
  have la_29 := LA_keep hLA hoq hfr
  have oq_30 := oq_keep hLA hoq hnw
  obtain ⟨hk_31, hp⟩ := hp
  have ax_34 : At S_28 x 11 := hk_31.fr.at hax
  have am_35 : At S_28 mo 12 := hk_31.fr.at ham
  have mi_32 : MI S_28 mo := MIe_free hG ham hk_31.fr (by decide +kernel) hMI
  have gr_33 : GR S_28 mo := GR_free hG ham hk_31.fr (by decide +kernel) hGR
  have ph_36 : Phc S_28 = Phc S := Ph_ok hG hk_31 (by decide +kernel) (by decide +kernel) (by decide +kernel)
  have ph_37 : Phs S_28 = Phs S := Ph_ok hG hk_31 (by decide +kernel) (by decide +kernel) (by decide +kernel)
  have hg_38 : GX S_28 := hk_31.1
  have rg_39 := And.intro (z_lo rr_27) (z_hi rr_27)
  refine lv_istore (lv' := [(6, .int (rr_27)), (5, .int (rr_13)), (4, .int (i)), (3, .ref oq), (2, .ref mo), (1, .ref x), (0, .ref b)]) X.1 X.2.1 dL_law_349 hl (by decide) rfl (fun ls hl => ?_)
  refine lv_goto (tgt := 1505) X.1 X.2.1 dL_law_351 (by decide) ?_
  exact K _ _ _ _ (cc + 1) (nn + 6) hw hg_38 ax_34 am_35 mi_32 gr_33 la_29 oq_30 (lv_sub hl [2, 3, 4, 5, 6] rfl) (by omega) (by omega)
set_option maxHeartbeats 4000000 in
set_option maxRecDepth 100000 in
theorem lc_3 {p : Program} {l : Launch} {e : Env} {s : State} {m : MethodId} {below : List Frame} {meth : Method} {c : Code} (hst : l.stackTraces = false) {b x mo oq L : Nat} {xs : Nat → Int32} {cL : ClassId} {G : va_G} {cy : Nat → ClassId} {κ : Nat → Nat} {S : PS} {H : Heap} {locs : List Loc} {ls : Array Slot} {cc nn : Nat} {Q : State → Prop} {i : Int32} {i_z : Int} (X : Cx p c cL_law 7 s #[Value.ref b] lw_tbl RL m G cy κ (fun q : Nat => s.heap.size ≤ q)) (hX : va_X b L xs s s.heap) (hbl : b < s.heap.size) (hbA : ¬ (fun q : Nat => s.heap.size ≤ q) b) (hdc : ∀ Y ∈ DcL, va_Nw (.declares (Bundle.initS Y)) s) (hkl : Kl cL s) (hAo : (fun q : Nat => s.heap.size ≤ q) oq) (hL : L ≤ 3072) (hz_i : i.toInt = i_z) (hi0 : 0 ≤ i_z) (hi1 : i_z + 6 ≤ (L : Int)) (hw : Wd G cy (fun q : Nat => s.heap.size ≤ q) s.heap S H locs) (hG : GX S) (hax : At S x 11) (ham : At S mo 12) (hMI : MI S mo) (hGR : GR S mo) (hLA : LA cL oq H) (hoq : oq ∉ pL S) (hl : lv_has ls 7 [(4, .int i), (3, .ref oq), (2, .ref mo), (1, .ref x), (0, .ref b)]) (hcc : cc + Phc S + 20000 ≤ 601024) (hnn : nn + Phs S + 100000 ≤ 7293034) (K : ∀ (S9 : PS) (H9 : Heap) (locs9 : List Loc) (ls9 : Array Slot) (c9 n9 : Nat), Wd G cy (fun q : Nat => s.heap.size ≤ q) s.heap S9 H9 locs9 → GX S9 → At S9 x 11 → At S9 mo 12 → MI S9 mo → GR S9 mo → LA cL oq H9 → oq ∉ pL S9 → lv_has ls9 7 [(4, .int i), (3, .ref oq), (2, .ref mo), (1, .ref x), (0, .ref b)] → c9 + Phc S9 ≤ cc + Phc S + 102 → n9 + Phs S9 ≤ nn + Phs S + 1020 → W p l e room_1 s m #[Value.ref b] below meth c H9 locs9 c9 n9 Q (F0 m 1505 ls9 [])) : W p l e room_1 s m #[Value.ref b] below meth c H locs cc nn Q (F0 m 354 ls []) := by
  refine lv_aload_n X.1 X.2.1 dL_law_354 rfl (lv_at hl 3 rfl) ?_
  refine lv_aload_n X.1 X.2.1 dL_law_355 rfl (lv_at hl 4 rfl) ?_
  refine lv_iload X.1 X.2.1 dL_law_356 (lv_at hl 0 rfl) ?_
  refine lv_iconst (v := 1) X.1 X.2.1 dL_law_358 (by decide) ?_
  refine lv_iadd X.1 X.2.1 dL_law_359 ?_
  refine lv_topi (fun v_1 ev_1 => ?_)
  have z_2 : v_1.toInt = i_z + 1 := z_add ev_1 hz_i ti_1 (by omega) (by omega)
  refine va_sld X.1 X.2.1 hX hbl hbA hw.2.2 (z_ix rfl (by omega) (by omega)) dL_law_360 ?_
  refine lv_topi (fun v_3 ev_3 => ?_)
  have rg_4 := And.intro (z_lo v_3) (z_hi v_3)
  refine lv_aload_n X.1 X.2.1 dL_law_361 rfl (lv_at hl 4 rfl) ?_
  refine lv_iload X.1 X.2.1 dL_law_362 (lv_at hl 0 rfl) ?_
  refine lv_iconst (v := 2) X.1 X.2.1 dL_law_364 (by decide) ?_
  refine lv_iadd X.1 X.2.1 dL_law_365 ?_
  refine lv_topi (fun v_5 ev_5 => ?_)
  have z_6 : v_5.toInt = i_z + 2 := z_add ev_5 hz_i ti_2 (by omega) (by omega)
  refine va_sld X.1 X.2.1 hX hbl hbA hw.2.2 (z_ix rfl (by omega) (by omega)) dL_law_366 ?_
  refine lv_topi (fun v_7 ev_7 => ?_)
  have rg_8 := And.intro (z_lo v_7) (z_hi v_7)
  refine lv_aload_n X.1 X.2.1 dL_law_367 rfl (lv_at hl 4 rfl) ?_
  refine lv_iload X.1 X.2.1 dL_law_368 (lv_at hl 0 rfl) ?_
  refine lv_iconst (v := 3) X.1 X.2.1 dL_law_370 (by decide) ?_
  refine lv_iadd X.1 X.2.1 dL_law_371 ?_
  refine lv_topi (fun v_9 ev_9 => ?_)
  have z_10 : v_9.toInt = i_z + 3 := z_add ev_9 hz_i ti_3 (by omega) (by omega)
  refine va_sld X.1 X.2.1 hX hbl hbA hw.2.2 (z_ix rfl (by omega) (by omega)) dL_law_372 ?_
  refine lv_topi (fun v_11 ev_11 => ?_)
  have rg_12 := And.intro (z_lo v_11) (z_hi v_11)
  refine k_i (rm := { frames := 4, cells := 0, slots := 0, locals := 192 }) (av := [.ref x, .int (v_3), .int (v_7), .int (v_11)]) X hw (va_runV (As := [.int (v_3), .int (v_7), .int (v_11)]) (rest := []) (cfix X) (k_X11_test l G cy κ S _ x (v_3) (v_3.toInt) (v_7) (v_7.toInt) (v_11) (v_11.toInt) hG hax rfl rfl rfl) (cwV 3 X.2.2.2.1 gk_X11_test rfl rfl rfl (by decide +kernel) ⟨Nat.le_of_ble_eq_true rfl, Nat.le_of_ble_eq_true rfl⟩) (pre_V X hw _ hax rfl (by decide) rfl) rfl rfl hl.1 rfl (lv_room (Nat.le_of_ble_eq_true rfl)) dL_law_373 ⟨(by show cc + 0 ≤ 601024; omega), (by show nn + 0 ≤ 7293034; omega)⟩) cc nn (by show cc + 0 ≤ cc; omega) (by show nn + 0 ≤ nn; omega) (fun rr_13 S_14 H locs hp hw hfr hnw => ?_)
  have la_15 := LA_keep hLA hoq hfr
  have oq_16 := oq_keep hLA hoq hnw
  obtain ⟨hk_17, hp⟩ := hp
  have ax_20 : At S_14 x 11 := hk_17.fr.at hax
  have am_21 : At S_14 mo 12 := hk_17.fr.at ham
  have mi_18 : MI S_14 mo := MIe_free hG ham hk_17.fr (by decide +kernel) hMI
  have gr_19 : GR S_14 mo := GR_free hG ham hk_17.fr (by decide +kernel) hGR
  have ph_22 : Phc S_14 = Phc S := Ph_ok hG hk_17 (by decide +kernel) (by decide +kernel) (by decide +kernel)
  have ph_23 : Phs S_14 = Phs S := Ph_ok hG hk_17 (by decide +kernel) (by decide +kernel) (by decide +kernel)
  have hg_24 : GX S_14 := hk_17.1
  have rg_25 := And.intro (z_lo rr_13) (z_hi rr_13)
  refine lv_pop X.1 X.2.1 dL_law_376 rfl ?_
  refine lv_aload_n X.1 X.2.1 dL_law_377 rfl (lv_at hl 2 rfl) ?_
  refine lv_aload_n X.1 X.2.1 dL_law_378 rfl (lv_at hl 4 rfl) ?_
  refine lv_iload X.1 X.2.1 dL_law_379 (lv_at hl 0 rfl) ?_
  refine lv_iconst (v := 1) X.1 X.2.1 dL_law_381 (by decide) ?_
  refine lv_iadd X.1 X.2.1 dL_law_382 ?_
  refine lv_topi (fun v_26 ev_26 => ?_)
  have z_27 : v_26.toInt = i_z + 1 := z_add ev_26 hz_i ti_1 (by omega) (by omega)
  refine va_sld X.1 X.2.1 hX hbl hbA hw.2.2 (z_ix rfl (by omega) (by omega)) dL_law_383 ?_
  refine lv_topi (fun v_28 ev_28 => ?_)
  have es_29 : v_3 = v_28 := by rw [ev_3, ev_28, ev_1, ev_26]
  subst es_29
  refine lv_aload_n X.1 X.2.1 dL_law_384 rfl (lv_at hl 4 rfl) ?_
  refine lv_iload X.1 X.2.1 dL_law_385 (lv_at hl 0 rfl) ?_
  refine lv_iconst (v := 2) X.1 X.2.1 dL_law_387 (by decide) ?_
  refine lv_iadd X.1 X.2.1 dL_law_388 ?_
  refine lv_topi (fun v_30 ev_30 => ?_)
  have z_31 : v_30.toInt = i_z + 2 := z_add ev_30 hz_i ti_2 (by omega) (by omega)
  refine va_sld X.1 X.2.1 hX hbl hbA hw.2.2 (z_ix rfl (by omega) (by omega)) dL_law_389 ?_
  refine lv_topi (fun v_32 ev_32 => ?_)
  have es_33 : v_7 = v_32 := by rw [ev_7, ev_32, ev_5, ev_30]
  subst es_33
  refine lv_aload_n X.1 X.2.1 dL_law_390 rfl (lv_at hl 4 rfl) ?_
  refine lv_iload X.1 X.2.1 dL_law_391 (lv_at hl 0 rfl) ?_
  refine lv_iconst (v := 3) X.1 X.2.1 dL_law_393 (by decide) ?_
  refine lv_iadd X.1 X.2.1 dL_law_394 ?_
  refine lv_topi (fun v_34 ev_34 => ?_)
  have z_35 : v_34.toInt = i_z + 3 := z_add ev_34 hz_i ti_3 (by omega) (by omega)
  refine va_sld X.1 X.2.1 hX hbl hbA hw.2.2 (z_ix rfl (by omega) (by omega)) dL_law_395 ?_
  refine lv_topi (fun v_36 ev_36 => ?_)
  have es_37 : v_11 = v_36 := by rw [ev_11, ev_36, ev_9, ev_34]
  subst es_37
  refine k_gi2 (kc := 1) (ks := 60) (rm := { frames := 3, cells := Phc S_14 + 1, slots := Phs S_14 + 60, locals := 144 }) (av := [.ref mo, .int (v_3), .int (v_7), .int (v_11)]) X hw (va_runV (As := [.int (v_3), .int (v_7), .int (v_11)]) (rest := []) (cfix X) (k_X12_test l G cy κ S_14 _ _ mo (v_3) (v_3.toInt) (v_7) (v_7.toInt) (v_11) (v_11.toInt) hg_24 am_21 rfl rfl rfl) (cwV 3 X.2.2.2.1 gk_X12_test rfl rfl rfl (by decide +kernel) ⟨Nat.le_of_ble_eq_true rfl, Nat.le_of_ble_eq_true rfl⟩) (pre_gV X hw _ am_21 rfl (by decide) rfl) rfl rfl hl.1 rfl (lv_room (Nat.le_of_ble_eq_true rfl)) dL_law_396 ⟨(by show cc + (Phc S_14 + 1) ≤ 601024; omega), (by show nn + (Phs S_14 + 60) ≤ 7293034; omega)⟩) (fun rr_38 S_39 H locs c_40 n_41 hc_40 hn_41 hp hw hfr hnw => ?_)
  have la_42 := LA_keep la_15 oq_16 hfr
  have oq_43 := oq_keep la_15 oq_16 hnw
  obtain ⟨hk_44, hp⟩ := hp
  have ax_47 : At S_39 x 11 := hk_44.fr.at ax_20
  have am_48 : At S_39 mo 12 := hk_44.fr.at am_21
  have mi_45 : MI S_39 mo := MIe_free hg_24 am_21 hk_44.fr (by decide +kernel) mi_18
  have gr_46 : GR S_39 mo := GR_free hg_24 am_21 hk_44.fr (by decide +kernel) gr_19
  have hg_49 : GX S_39 := hk_44.1
  have rg_50 := And.intro (z_lo rr_38) (z_hi rr_38)
  refine lv_pop X.1 X.2.1 dL_law_399 rfl ?_
  refine lv_goto (tgt := 1505) X.1 X.2.1 dL_law_400 (by decide) ?_
  exact K _ _ _ _ c_40 n_41 hw hg_49 ax_47 am_48 mi_45 gr_46 la_42 oq_43 (lv_sub hl [0, 1, 2, 3, 4] rfl) (by omega) (by omega)
set_option maxHeartbeats 4000000 in
set_option maxRecDepth 100000 in
theorem lc_4 {p : Program} {l : Launch} {e : Env} {s : State} {m : MethodId} {below : List Frame} {meth : Method} {c : Code} (hst : l.stackTraces = false) {b x mo oq L : Nat} {xs : Nat → Int32} {cL : ClassId} {G : va_G} {cy : Nat → ClassId} {κ : Nat → Nat} {S : PS} {H : Heap} {locs : List Loc} {ls : Array Slot} {cc nn : Nat} {Q : State → Prop} {i : Int32} {i_z : Int} (X : Cx p c cL_law 7 s #[Value.ref b] lw_tbl RL m G cy κ (fun q : Nat => s.heap.size ≤ q)) (hX : va_X b L xs s s.heap) (hbl : b < s.heap.size) (hbA : ¬ (fun q : Nat => s.heap.size ≤ q) b) (hdc : ∀ Y ∈ DcL, va_Nw (.declares (Bundle.initS Y)) s) (hkl : Kl cL s) (hAo : (fun q : Nat => s.heap.size ≤ q) oq) (hL : L ≤ 3072) (hz_i : i.toInt = i_z) (hi0 : 0 ≤ i_z) (hi1 : i_z + 6 ≤ (L : Int)) (hw : Wd G cy (fun q : Nat => s.heap.size ≤ q) s.heap S H locs) (hG : GX S) (hax : At S x 11) (ham : At S mo 12) (hMI : MI S mo) (hGR : GR S mo) (hLA : LA cL oq H) (hoq : oq ∉ pL S) (hl : lv_has ls 7 [(4, .int i), (3, .ref oq), (2, .ref mo), (1, .ref x), (0, .ref b)]) (hcc : cc + Phc S + 20000 ≤ 601024) (hnn : nn + Phs S + 100000 ≤ 7293034) (K : ∀ (S9 : PS) (H9 : Heap) (locs9 : List Loc) (ls9 : Array Slot) (c9 n9 : Nat), Wd G cy (fun q : Nat => s.heap.size ≤ q) s.heap S9 H9 locs9 → GX S9 → At S9 x 11 → At S9 mo 12 → MI S9 mo → GR S9 mo → LA cL oq H9 → oq ∉ pL S9 → lv_has ls9 7 [(4, .int i), (3, .ref oq), (2, .ref mo), (1, .ref x), (0, .ref b)] → c9 + Phc S9 ≤ cc + Phc S + 102 → n9 + Phs S9 ≤ nn + Phs S + 1020 → W p l e room_1 s m #[Value.ref b] below meth c H9 locs9 c9 n9 Q (F0 m 1505 ls9 [])) : W p l e room_1 s m #[Value.ref b] below meth c H locs cc nn Q (F0 m 403 ls []) := by
  refine lv_aload_n X.1 X.2.1 dL_law_403 rfl (lv_at hl 3 rfl) ?_
  refine lv_aload_n X.1 X.2.1 dL_law_404 rfl (lv_at hl 4 rfl) ?_
  refine lv_iload X.1 X.2.1 dL_law_405 (lv_at hl 0 rfl) ?_
  refine lv_iconst (v := 1) X.1 X.2.1 dL_law_407 (by decide) ?_
  refine lv_iadd X.1 X.2.1 dL_law_408 ?_
  refine lv_topi (fun v_1 ev_1 => ?_)
  have z_2 : v_1.toInt = i_z + 1 := z_add ev_1 hz_i ti_1 (by omega) (by omega)
  refine va_sld X.1 X.2.1 hX hbl hbA hw.2.2 (z_ix rfl (by omega) (by omega)) dL_law_409 ?_
  refine lv_topi (fun v_3 ev_3 => ?_)
  have rg_4 := And.intro (z_lo v_3) (z_hi v_3)
  refine lv_aload_n X.1 X.2.1 dL_law_410 rfl (lv_at hl 4 rfl) ?_
  refine lv_iload X.1 X.2.1 dL_law_411 (lv_at hl 0 rfl) ?_
  refine lv_iconst (v := 2) X.1 X.2.1 dL_law_413 (by decide) ?_
  refine lv_iadd X.1 X.2.1 dL_law_414 ?_
  refine lv_topi (fun v_5 ev_5 => ?_)
  have z_6 : v_5.toInt = i_z + 2 := z_add ev_5 hz_i ti_2 (by omega) (by omega)
  refine va_sld X.1 X.2.1 hX hbl hbA hw.2.2 (z_ix rfl (by omega) (by omega)) dL_law_415 ?_
  refine lv_topi (fun v_7 ev_7 => ?_)
  have rg_8 := And.intro (z_lo v_7) (z_hi v_7)
  refine k_gi2 (kc := 0) (ks := 0) (rm := { frames := 4, cells := Phc S + 14400, slots := Phs S + 46000, locals := 192 }) (av := [.ref x, .int (v_3), .int (v_7)]) X hw (va_runV (As := [.int (v_3), .int (v_7)]) (rest := []) (cfix X) (k_X11_pot l G cy κ S _ _ x (v_3) (v_3.toInt) (v_7) (v_7.toInt) hG hax rfl rfl) (cwV 2 X.2.2.2.1 gk_X11_pot rfl rfl rfl (by decide +kernel) ⟨Nat.le_of_ble_eq_true rfl, Nat.le_of_ble_eq_true rfl⟩) (pre_gV X hw _ hax rfl (by decide) rfl) rfl rfl hl.1 rfl (lv_room (Nat.le_of_ble_eq_true rfl)) dL_law_416 ⟨(by show cc + (Phc S + 14400) ≤ 601024; omega), (by show nn + (Phs S + 46000) ≤ 7293034; omega)⟩) (fun rr_9 S_10 H locs c_11 n_12 hc_11 hn_12 hp hw hfr hnw => ?_)
  have la_13 := LA_keep hLA hoq hfr
  have oq_14 := oq_keep hLA hoq hnw
  obtain ⟨hk_15, hp⟩ := hp
  have ax_18 : At S_10 x 11 := hk_15.fr.at hax
  have am_19 : At S_10 mo 12 := hk_15.fr.at ham
  have mi_16 : MI S_10 mo := MIe_free hG ham hk_15.fr (by decide +kernel) hMI
  have gr_17 : GR S_10 mo := GR_free hG ham hk_15.fr (by decide +kernel) hGR
  have hg_20 : GX S_10 := hk_15.1
  have rg_21 := And.intro (z_lo rr_9) (z_hi rr_9)
  refine lv_pop X.1 X.2.1 dL_law_419 rfl ?_
  refine lv_aload_n X.1 X.2.1 dL_law_420 rfl (lv_at hl 2 rfl) ?_
  refine lv_aload_n X.1 X.2.1 dL_law_421 rfl (lv_at hl 4 rfl) ?_
  refine lv_iload X.1 X.2.1 dL_law_422 (lv_at hl 0 rfl) ?_
  refine lv_iconst (v := 1) X.1 X.2.1 dL_law_424 (by decide) ?_
  refine lv_iadd X.1 X.2.1 dL_law_425 ?_
  refine lv_topi (fun v_22 ev_22 => ?_)
  have z_23 : v_22.toInt = i_z + 1 := z_add ev_22 hz_i ti_1 (by omega) (by omega)
  refine va_sld X.1 X.2.1 hX hbl hbA hw.2.2 (z_ix rfl (by omega) (by omega)) dL_law_426 ?_
  refine lv_topi (fun v_24 ev_24 => ?_)
  have es_25 : v_3 = v_24 := by rw [ev_3, ev_24, ev_1, ev_22]
  subst es_25
  refine lv_aload_n X.1 X.2.1 dL_law_427 rfl (lv_at hl 4 rfl) ?_
  refine lv_iload X.1 X.2.1 dL_law_428 (lv_at hl 0 rfl) ?_
  refine lv_iconst (v := 2) X.1 X.2.1 dL_law_430 (by decide) ?_
  refine lv_iadd X.1 X.2.1 dL_law_431 ?_
  refine lv_topi (fun v_26 ev_26 => ?_)
  have z_27 : v_26.toInt = i_z + 2 := z_add ev_26 hz_i ti_2 (by omega) (by omega)
  refine va_sld X.1 X.2.1 hX hbl hbA hw.2.2 (z_ix rfl (by omega) (by omega)) dL_law_432 ?_
  refine lv_topi (fun v_28 ev_28 => ?_)
  have es_29 : v_7 = v_28 := by rw [ev_7, ev_28, ev_5, ev_26]
  subst es_29
  refine k_i (rm := { frames := 2, cells := 0, slots := 0, locals := 96 }) (av := [.ref mo, .int (v_3), .int (v_7)]) X hw (va_runV (As := [.int (v_3), .int (v_7)]) (rest := []) (cfix X) (k_X12_pot l G cy κ S_10 _ mo (v_3) (v_3.toInt) (v_7) (v_7.toInt) hg_20 am_19 rfl rfl) (cwV 2 X.2.2.2.1 gk_X12_pot rfl rfl rfl (by decide +kernel) ⟨Nat.le_of_ble_eq_true rfl, Nat.le_of_ble_eq_true rfl⟩) (pre_V X hw _ am_19 rfl (by decide) rfl) rfl rfl hl.1 rfl (lv_room (Nat.le_of_ble_eq_true rfl)) dL_law_433 ⟨(by show c_11 + 0 ≤ 601024; omega), (by show n_12 + 0 ≤ 7293034; omega)⟩) c_11 n_12 (by show c_11 + 0 ≤ c_11; omega) (by show n_12 + 0 ≤ n_12; omega) (fun rr_30 S_31 H locs hp hw hfr hnw => ?_)
  have la_32 := LA_keep la_13 oq_14 hfr
  have oq_33 := oq_keep la_13 oq_14 hnw
  obtain ⟨hk_34, hp⟩ := hp
  have ax_37 : At S_31 x 11 := hk_34.fr.at ax_18
  have am_38 : At S_31 mo 12 := hk_34.fr.at am_19
  have mi_35 : MI S_31 mo := MIe_free hg_20 am_19 hk_34.fr (by decide +kernel) mi_16
  have gr_36 : GR S_31 mo := GR_free hg_20 am_19 hk_34.fr (by decide +kernel) gr_17
  have ph_39 : Phc S_31 = Phc S_10 := Ph_ok hg_20 hk_34 (by decide +kernel) (by decide +kernel) (by decide +kernel)
  have ph_40 : Phs S_31 = Phs S_10 := Ph_ok hg_20 hk_34 (by decide +kernel) (by decide +kernel) (by decide +kernel)
  have hg_41 : GX S_31 := hk_34.1
  have rg_42 := And.intro (z_lo rr_30) (z_hi rr_30)
  refine lv_pop X.1 X.2.1 dL_law_436 rfl ?_
  refine lv_goto (tgt := 1505) X.1 X.2.1 dL_law_437 (by decide) ?_
  exact K _ _ _ _ c_11 n_12 hw hg_41 ax_37 am_38 mi_35 gr_36 la_32 oq_33 (lv_sub hl [0, 1, 2, 3, 4] rfl) (by omega) (by omega)
set_option maxHeartbeats 4000000 in
set_option maxRecDepth 100000 in
theorem lc_5 {p : Program} {l : Launch} {e : Env} {s : State} {m : MethodId} {below : List Frame} {meth : Method} {c : Code} (hst : l.stackTraces = false) {b x mo oq L : Nat} {xs : Nat → Int32} {cL : ClassId} {G : va_G} {cy : Nat → ClassId} {κ : Nat → Nat} {S : PS} {H : Heap} {locs : List Loc} {ls : Array Slot} {cc nn : Nat} {Q : State → Prop} {i : Int32} {i_z : Int} (X : Cx p c cL_law 7 s #[Value.ref b] lw_tbl RL m G cy κ (fun q : Nat => s.heap.size ≤ q)) (hX : va_X b L xs s s.heap) (hbl : b < s.heap.size) (hbA : ¬ (fun q : Nat => s.heap.size ≤ q) b) (hdc : ∀ Y ∈ DcL, va_Nw (.declares (Bundle.initS Y)) s) (hkl : Kl cL s) (hAo : (fun q : Nat => s.heap.size ≤ q) oq) (hL : L ≤ 3072) (hz_i : i.toInt = i_z) (hi0 : 0 ≤ i_z) (hi1 : i_z + 6 ≤ (L : Int)) (hw : Wd G cy (fun q : Nat => s.heap.size ≤ q) s.heap S H locs) (hG : GX S) (hax : At S x 11) (ham : At S mo 12) (hMI : MI S mo) (hGR : GR S mo) (hLA : LA cL oq H) (hoq : oq ∉ pL S) (hl : lv_has ls 7 [(4, .int i), (3, .ref oq), (2, .ref mo), (1, .ref x), (0, .ref b)]) (hcc : cc + Phc S + 20000 ≤ 601024) (hnn : nn + Phs S + 100000 ≤ 7293034) (K : ∀ (S9 : PS) (H9 : Heap) (locs9 : List Loc) (ls9 : Array Slot) (c9 n9 : Nat), Wd G cy (fun q : Nat => s.heap.size ≤ q) s.heap S9 H9 locs9 → GX S9 → At S9 x 11 → At S9 mo 12 → MI S9 mo → GR S9 mo → LA cL oq H9 → oq ∉ pL S9 → lv_has ls9 7 [(4, .int i), (3, .ref oq), (2, .ref mo), (1, .ref x), (0, .ref b)] → c9 + Phc S9 ≤ cc + Phc S + 102 → n9 + Phs S9 ≤ nn + Phs S + 1020 → W p l e room_1 s m #[Value.ref b] below meth c H9 locs9 c9 n9 Q (F0 m 1505 ls9 [])) : W p l e room_1 s m #[Value.ref b] below meth c H locs cc nn Q (F0 m 440 ls []) := by
  refine lv_aload_n X.1 X.2.1 dL_law_440 rfl (lv_at hl 3 rfl) ?_
  refine lv_aload_n X.1 X.2.1 dL_law_441 rfl (lv_at hl 4 rfl) ?_
  refine lv_iload X.1 X.2.1 dL_law_442 (lv_at hl 0 rfl) ?_
  refine lv_iconst (v := 1) X.1 X.2.1 dL_law_444 (by decide) ?_
  refine lv_iadd X.1 X.2.1 dL_law_445 ?_
  refine lv_topi (fun v_1 ev_1 => ?_)
  have z_2 : v_1.toInt = i_z + 1 := z_add ev_1 hz_i ti_1 (by omega) (by omega)
  refine va_sld X.1 X.2.1 hX hbl hbA hw.2.2 (z_ix rfl (by omega) (by omega)) dL_law_446 ?_
  refine lv_topi (fun v_3 ev_3 => ?_)
  have rg_4 := And.intro (z_lo v_3) (z_hi v_3)
  refine lv_aload_n X.1 X.2.1 dL_law_447 rfl (lv_at hl 4 rfl) ?_
  refine lv_iload X.1 X.2.1 dL_law_448 (lv_at hl 0 rfl) ?_
  refine lv_iconst (v := 2) X.1 X.2.1 dL_law_450 (by decide) ?_
  refine lv_iadd X.1 X.2.1 dL_law_451 ?_
  refine lv_topi (fun v_5 ev_5 => ?_)
  have z_6 : v_5.toInt = i_z + 2 := z_add ev_5 hz_i ti_2 (by omega) (by omega)
  refine va_sld X.1 X.2.1 hX hbl hbA hw.2.2 (z_ix rfl (by omega) (by omega)) dL_law_452 ?_
  refine lv_topi (fun v_7 ev_7 => ?_)
  have rg_8 := And.intro (z_lo v_7) (z_hi v_7)
  refine k_i (rm := { frames := 3, cells := 0, slots := 0, locals := 144 }) (av := [.ref x, .int (v_3), .int (v_7)]) X hw (va_runV (As := [.int (v_3), .int (v_7)]) (rest := []) (cfix X) (k_X11_target l G cy κ S _ x (v_3) (v_3.toInt) (v_7) (v_7.toInt) hG hax rfl rfl) (cwV 2 X.2.2.2.1 gk_X11_target rfl rfl rfl (by decide +kernel) ⟨Nat.le_of_ble_eq_true rfl, Nat.le_of_ble_eq_true rfl⟩) (pre_V X hw _ hax rfl (by decide) rfl) rfl rfl hl.1 rfl (lv_room (Nat.le_of_ble_eq_true rfl)) dL_law_453 ⟨(by show cc + 0 ≤ 601024; omega), (by show nn + 0 ≤ 7293034; omega)⟩) cc nn (by show cc + 0 ≤ cc; omega) (by show nn + 0 ≤ nn; omega) (fun rr_9 S_10 H locs hp hw hfr hnw => ?_)
  have la_11 := LA_keep hLA hoq hfr
  have oq_12 := oq_keep hLA hoq hnw
  obtain ⟨hk_13, hp⟩ := hp
  have ax_16 : At S_10 x 11 := hk_13.fr.at hax
  have am_17 : At S_10 mo 12 := hk_13.fr.at ham
  have mi_14 : MI S_10 mo := MIe_free hG ham hk_13.fr (by decide +kernel) hMI
  have gr_15 : GR S_10 mo := GR_free hG ham hk_13.fr (by decide +kernel) hGR
  have ph_18 : Phc S_10 = Phc S := Ph_ok hG hk_13 (by decide +kernel) (by decide +kernel) (by decide +kernel)
  have ph_19 : Phs S_10 = Phs S := Ph_ok hG hk_13 (by decide +kernel) (by decide +kernel) (by decide +kernel)
  have hg_20 : GX S_10 := hk_13.1
  have rg_21 := And.intro (z_lo rr_9) (z_hi rr_9)
  refine lv_pop X.1 X.2.1 dL_law_456 rfl ?_
  refine lv_aload_n X.1 X.2.1 dL_law_457 rfl (lv_at hl 2 rfl) ?_
  refine lv_aload_n X.1 X.2.1 dL_law_458 rfl (lv_at hl 4 rfl) ?_
  refine lv_iload X.1 X.2.1 dL_law_459 (lv_at hl 0 rfl) ?_
  refine lv_iconst (v := 1) X.1 X.2.1 dL_law_461 (by decide) ?_
  refine lv_iadd X.1 X.2.1 dL_law_462 ?_
  refine lv_topi (fun v_22 ev_22 => ?_)
  have z_23 : v_22.toInt = i_z + 1 := z_add ev_22 hz_i ti_1 (by omega) (by omega)
  refine va_sld X.1 X.2.1 hX hbl hbA hw.2.2 (z_ix rfl (by omega) (by omega)) dL_law_463 ?_
  refine lv_topi (fun v_24 ev_24 => ?_)
  have es_25 : v_3 = v_24 := by rw [ev_3, ev_24, ev_1, ev_22]
  subst es_25
  refine lv_aload_n X.1 X.2.1 dL_law_464 rfl (lv_at hl 4 rfl) ?_
  refine lv_iload X.1 X.2.1 dL_law_465 (lv_at hl 0 rfl) ?_
  refine lv_iconst (v := 2) X.1 X.2.1 dL_law_467 (by decide) ?_
  refine lv_iadd X.1 X.2.1 dL_law_468 ?_
  refine lv_topi (fun v_26 ev_26 => ?_)
  have z_27 : v_26.toInt = i_z + 2 := z_add ev_26 hz_i ti_2 (by omega) (by omega)
  refine va_sld X.1 X.2.1 hX hbl hbA hw.2.2 (z_ix rfl (by omega) (by omega)) dL_law_469 ?_
  refine lv_topi (fun v_28 ev_28 => ?_)
  have es_29 : v_7 = v_28 := by rw [ev_7, ev_28, ev_5, ev_26]
  subst es_29
  refine k_i (rm := { frames := 3, cells := 0, slots := 0, locals := 144 }) (av := [.ref mo, .int (v_3), .int (v_7)]) X hw (va_runV (As := [.int (v_3), .int (v_7)]) (rest := []) (cfix X) (k_X12_target l G cy κ S_10 _ mo (v_3) (v_3.toInt) (v_7) (v_7.toInt) hg_20 am_17 rfl rfl) (cwV 2 X.2.2.2.1 gk_X12_target rfl rfl rfl (by decide +kernel) ⟨Nat.le_of_ble_eq_true rfl, Nat.le_of_ble_eq_true rfl⟩) (pre_V X hw _ am_17 rfl (by decide) rfl) rfl rfl hl.1 rfl (lv_room (Nat.le_of_ble_eq_true rfl)) dL_law_470 ⟨(by show cc + 0 ≤ 601024; omega), (by show nn + 0 ≤ 7293034; omega)⟩) cc nn (by show cc + 0 ≤ cc; omega) (by show nn + 0 ≤ nn; omega) (fun rr_30 S_31 H locs hp hw hfr hnw => ?_)
  have la_32 := LA_keep la_11 oq_12 hfr
  have oq_33 := oq_keep la_11 oq_12 hnw
  obtain ⟨hk_34, hp⟩ := hp
  have ax_37 : At S_31 x 11 := hk_34.fr.at ax_16
  have am_38 : At S_31 mo 12 := hk_34.fr.at am_17
  have mi_35 : MI S_31 mo := MIe_free hg_20 am_17 hk_34.fr (by decide +kernel) mi_14
  have gr_36 : GR S_31 mo := GR_free hg_20 am_17 hk_34.fr (by decide +kernel) gr_15
  have ph_39 : Phc S_31 = Phc S_10 := Ph_ok hg_20 hk_34 (by decide +kernel) (by decide +kernel) (by decide +kernel)
  have ph_40 : Phs S_31 = Phs S_10 := Ph_ok hg_20 hk_34 (by decide +kernel) (by decide +kernel) (by decide +kernel)
  have hg_41 : GX S_31 := hk_34.1
  have rg_42 := And.intro (z_lo rr_30) (z_hi rr_30)
  refine lv_pop X.1 X.2.1 dL_law_473 rfl ?_
  refine lv_goto (tgt := 1505) X.1 X.2.1 dL_law_474 (by decide) ?_
  exact K _ _ _ _ cc nn hw hg_41 ax_37 am_38 mi_35 gr_36 la_32 oq_33 (lv_sub hl [0, 1, 2, 3, 4] rfl) (by omega) (by omega)
set_option maxHeartbeats 4000000 in
set_option maxRecDepth 100000 in
theorem lc_6 {p : Program} {l : Launch} {e : Env} {s : State} {m : MethodId} {below : List Frame} {meth : Method} {c : Code} (hst : l.stackTraces = false) {b x mo oq L : Nat} {xs : Nat → Int32} {cL : ClassId} {G : va_G} {cy : Nat → ClassId} {κ : Nat → Nat} {S : PS} {H : Heap} {locs : List Loc} {ls : Array Slot} {cc nn : Nat} {Q : State → Prop} {i : Int32} {i_z : Int} (X : Cx p c cL_law 7 s #[Value.ref b] lw_tbl RL m G cy κ (fun q : Nat => s.heap.size ≤ q)) (hX : va_X b L xs s s.heap) (hbl : b < s.heap.size) (hbA : ¬ (fun q : Nat => s.heap.size ≤ q) b) (hdc : ∀ Y ∈ DcL, va_Nw (.declares (Bundle.initS Y)) s) (hkl : Kl cL s) (hAo : (fun q : Nat => s.heap.size ≤ q) oq) (hL : L ≤ 3072) (hz_i : i.toInt = i_z) (hi0 : 0 ≤ i_z) (hi1 : i_z + 6 ≤ (L : Int)) (hw : Wd G cy (fun q : Nat => s.heap.size ≤ q) s.heap S H locs) (hG : GX S) (hax : At S x 11) (ham : At S mo 12) (hMI : MI S mo) (hGR : GR S mo) (hLA : LA cL oq H) (hoq : oq ∉ pL S) (hl : lv_has ls 7 [(4, .int i), (3, .ref oq), (2, .ref mo), (1, .ref x), (0, .ref b)]) (hcc : cc + Phc S + 20000 ≤ 601024) (hnn : nn + Phs S + 100000 ≤ 7293034) (K : ∀ (S9 : PS) (H9 : Heap) (locs9 : List Loc) (ls9 : Array Slot) (c9 n9 : Nat), Wd G cy (fun q : Nat => s.heap.size ≤ q) s.heap S9 H9 locs9 → GX S9 → At S9 x 11 → At S9 mo 12 → MI S9 mo → GR S9 mo → LA cL oq H9 → oq ∉ pL S9 → lv_has ls9 7 [(4, .int i), (3, .ref oq), (2, .ref mo), (1, .ref x), (0, .ref b)] → c9 + Phc S9 ≤ cc + Phc S + 102 → n9 + Phs S9 ≤ nn + Phs S + 1020 → W p l e room_1 s m #[Value.ref b] below meth c H9 locs9 c9 n9 Q (F0 m 1505 ls9 [])) : W p l e room_1 s m #[Value.ref b] below meth c H locs cc nn Q (F0 m 477 ls []) := by
  refine lv_aload_n X.1 X.2.1 dL_law_477 rfl (lv_at hl 3 rfl) ?_
  refine lv_aload_n X.1 X.2.1 dL_law_478 rfl (lv_at hl 4 rfl) ?_
  refine lv_iload X.1 X.2.1 dL_law_479 (lv_at hl 0 rfl) ?_
  refine lv_iconst (v := 1) X.1 X.2.1 dL_law_481 (by decide) ?_
  refine lv_iadd X.1 X.2.1 dL_law_482 ?_
  refine lv_topi (fun v_1 ev_1 => ?_)
  have z_2 : v_1.toInt = i_z + 1 := z_add ev_1 hz_i ti_1 (by omega) (by omega)
  refine va_sld X.1 X.2.1 hX hbl hbA hw.2.2 (z_ix rfl (by omega) (by omega)) dL_law_483 ?_
  refine lv_topi (fun v_3 ev_3 => ?_)
  have rg_4 := And.intro (z_lo v_3) (z_hi v_3)
  refine lv_aload_n X.1 X.2.1 dL_law_484 rfl (lv_at hl 4 rfl) ?_
  refine lv_iload X.1 X.2.1 dL_law_485 (lv_at hl 0 rfl) ?_
  refine lv_iconst (v := 2) X.1 X.2.1 dL_law_487 (by decide) ?_
  refine lv_iadd X.1 X.2.1 dL_law_488 ?_
  refine lv_topi (fun v_5 ev_5 => ?_)
  have z_6 : v_5.toInt = i_z + 2 := z_add ev_5 hz_i ti_2 (by omega) (by omega)
  refine va_sld X.1 X.2.1 hX hbl hbA hw.2.2 (z_ix rfl (by omega) (by omega)) dL_law_489 ?_
  refine lv_topi (fun v_7 ev_7 => ?_)
  have rg_8 := And.intro (z_lo v_7) (z_hi v_7)
  refine lv_aload_n X.1 X.2.1 dL_law_490 rfl (lv_at hl 4 rfl) ?_
  refine lv_iload X.1 X.2.1 dL_law_491 (lv_at hl 0 rfl) ?_
  refine lv_iconst (v := 3) X.1 X.2.1 dL_law_493 (by decide) ?_
  refine lv_iadd X.1 X.2.1 dL_law_494 ?_
  refine lv_topi (fun v_9 ev_9 => ?_)
  have z_10 : v_9.toInt = i_z + 3 := z_add ev_9 hz_i ti_3 (by omega) (by omega)
  refine va_sld X.1 X.2.1 hX hbl hbA hw.2.2 (z_ix rfl (by omega) (by omega)) dL_law_495 ?_
  refine lv_topi (fun v_11 ev_11 => ?_)
  have rg_12 := And.intro (z_lo v_11) (z_hi v_11)
  refine lv_aload_n X.1 X.2.1 dL_law_496 rfl (lv_at hl 4 rfl) ?_
  refine lv_iload X.1 X.2.1 dL_law_497 (lv_at hl 0 rfl) ?_
  refine lv_iconst (v := 4) X.1 X.2.1 dL_law_499 (by decide) ?_
  refine lv_iadd X.1 X.2.1 dL_law_500 ?_
  refine lv_topi (fun v_13 ev_13 => ?_)
  have z_14 : v_13.toInt = i_z + 4 := z_add ev_13 hz_i ti_4 (by omega) (by omega)
  refine va_sld X.1 X.2.1 hX hbl hbA hw.2.2 (z_ix rfl (by omega) (by omega)) dL_law_501 ?_
  refine lv_topi (fun v_15 ev_15 => ?_)
  have rg_16 := And.intro (z_lo v_15) (z_hi v_15)
  refine k_i (rm := { frames := 4, cells := 0, slots := 0, locals := 192 }) (av := [.ref x, .int (v_3), .int (v_7), .int (v_11), .int (v_15)]) X hw (va_runV (As := [.int (v_3), .int (v_7), .int (v_11), .int (v_15)]) (rest := []) (cfix X) (k_X11_fill l G cy κ S _ x (v_3) (v_3.toInt) (v_7) (v_7.toInt) (v_11) (v_11.toInt) (v_15) (v_15.toInt) hG hax rfl rfl rfl rfl) (cwV 4 X.2.2.2.1 gk_X11_fill rfl rfl rfl (by decide +kernel) ⟨Nat.le_of_ble_eq_true rfl, Nat.le_of_ble_eq_true rfl⟩) (pre_V X hw _ hax rfl (by decide) rfl) rfl rfl hl.1 rfl (lv_room (Nat.le_of_ble_eq_true rfl)) dL_law_502 ⟨(by show cc + 0 ≤ 601024; omega), (by show nn + 0 ≤ 7293034; omega)⟩) cc nn (by show cc + 0 ≤ cc; omega) (by show nn + 0 ≤ nn; omega) (fun rr_17 S_18 H locs hp hw hfr hnw => ?_)
  have la_19 := LA_keep hLA hoq hfr
  have oq_20 := oq_keep hLA hoq hnw
  obtain ⟨hk_21, hp⟩ := hp
  have ax_24 : At S_18 x 11 := hk_21.fr.at hax
  have am_25 : At S_18 mo 12 := hk_21.fr.at ham
  have mi_22 : MI S_18 mo := MIe_free hG ham hk_21.fr (by decide +kernel) hMI
  have gr_23 : GR S_18 mo := GR_free hG ham hk_21.fr (by decide +kernel) hGR
  have ph_26 : Phc S_18 = Phc S := Ph_ok hG hk_21 (by decide +kernel) (by decide +kernel) (by decide +kernel)
  have ph_27 : Phs S_18 = Phs S := Ph_ok hG hk_21 (by decide +kernel) (by decide +kernel) (by decide +kernel)
  have hg_28 : GX S_18 := hk_21.1
  have rg_29 := And.intro (z_lo rr_17) (z_hi rr_17)
  refine lv_pop X.1 X.2.1 dL_law_505 rfl ?_
  refine lv_aload_n X.1 X.2.1 dL_law_506 rfl (lv_at hl 2 rfl) ?_
  refine lv_aload_n X.1 X.2.1 dL_law_507 rfl (lv_at hl 4 rfl) ?_
  refine lv_iload X.1 X.2.1 dL_law_508 (lv_at hl 0 rfl) ?_
  refine lv_iconst (v := 1) X.1 X.2.1 dL_law_510 (by decide) ?_
  refine lv_iadd X.1 X.2.1 dL_law_511 ?_
  refine lv_topi (fun v_30 ev_30 => ?_)
  have z_31 : v_30.toInt = i_z + 1 := z_add ev_30 hz_i ti_1 (by omega) (by omega)
  refine va_sld X.1 X.2.1 hX hbl hbA hw.2.2 (z_ix rfl (by omega) (by omega)) dL_law_512 ?_
  refine lv_topi (fun v_32 ev_32 => ?_)
  have es_33 : v_3 = v_32 := by rw [ev_3, ev_32, ev_1, ev_30]
  subst es_33
  refine lv_aload_n X.1 X.2.1 dL_law_513 rfl (lv_at hl 4 rfl) ?_
  refine lv_iload X.1 X.2.1 dL_law_514 (lv_at hl 0 rfl) ?_
  refine lv_iconst (v := 2) X.1 X.2.1 dL_law_516 (by decide) ?_
  refine lv_iadd X.1 X.2.1 dL_law_517 ?_
  refine lv_topi (fun v_34 ev_34 => ?_)
  have z_35 : v_34.toInt = i_z + 2 := z_add ev_34 hz_i ti_2 (by omega) (by omega)
  refine va_sld X.1 X.2.1 hX hbl hbA hw.2.2 (z_ix rfl (by omega) (by omega)) dL_law_518 ?_
  refine lv_topi (fun v_36 ev_36 => ?_)
  have es_37 : v_7 = v_36 := by rw [ev_7, ev_36, ev_5, ev_34]
  subst es_37
  refine lv_aload_n X.1 X.2.1 dL_law_519 rfl (lv_at hl 4 rfl) ?_
  refine lv_iload X.1 X.2.1 dL_law_520 (lv_at hl 0 rfl) ?_
  refine lv_iconst (v := 3) X.1 X.2.1 dL_law_522 (by decide) ?_
  refine lv_iadd X.1 X.2.1 dL_law_523 ?_
  refine lv_topi (fun v_38 ev_38 => ?_)
  have z_39 : v_38.toInt = i_z + 3 := z_add ev_38 hz_i ti_3 (by omega) (by omega)
  refine va_sld X.1 X.2.1 hX hbl hbA hw.2.2 (z_ix rfl (by omega) (by omega)) dL_law_524 ?_
  refine lv_topi (fun v_40 ev_40 => ?_)
  have es_41 : v_11 = v_40 := by rw [ev_11, ev_40, ev_9, ev_38]
  subst es_41
  refine lv_aload_n X.1 X.2.1 dL_law_525 rfl (lv_at hl 4 rfl) ?_
  refine lv_iload X.1 X.2.1 dL_law_526 (lv_at hl 0 rfl) ?_
  refine lv_iconst (v := 4) X.1 X.2.1 dL_law_528 (by decide) ?_
  refine lv_iadd X.1 X.2.1 dL_law_529 ?_
  refine lv_topi (fun v_42 ev_42 => ?_)
  have z_43 : v_42.toInt = i_z + 4 := z_add ev_42 hz_i ti_4 (by omega) (by omega)
  refine va_sld X.1 X.2.1 hX hbl hbA hw.2.2 (z_ix rfl (by omega) (by omega)) dL_law_530 ?_
  refine lv_topi (fun v_44 ev_44 => ?_)
  have es_45 : v_15 = v_44 := by rw [ev_15, ev_44, ev_13, ev_42]
  subst es_45
  refine k_i (rm := { frames := 3, cells := 0, slots := 0, locals := 144 }) (av := [.ref mo, .int (v_3), .int (v_7), .int (v_11), .int (v_15)]) X hw (va_runV (As := [.int (v_3), .int (v_7), .int (v_11), .int (v_15)]) (rest := []) (cfix X) (k_X12_fill l G cy κ S_18 _ mo (v_3) (v_3.toInt) (v_7) (v_7.toInt) (v_11) (v_11.toInt) (v_15) (v_15.toInt) hg_28 am_25 rfl rfl rfl rfl mi_22) (cwV 4 X.2.2.2.1 gk_X12_fill rfl rfl rfl (by decide +kernel) ⟨Nat.le_of_ble_eq_true rfl, Nat.le_of_ble_eq_true rfl⟩) (pre_V X hw _ am_25 rfl (by decide) rfl) rfl rfl hl.1 rfl (lv_room (Nat.le_of_ble_eq_true rfl)) dL_law_531 ⟨(by show cc + 0 ≤ 601024; omega), (by show nn + 0 ≤ 7293034; omega)⟩) cc nn (by show cc + 0 ≤ cc; omega) (by show nn + 0 ≤ nn; omega) (fun rr_46 S_47 H locs hp hw hfr hnw => ?_)
  have la_48 := LA_keep la_19 oq_20 hfr
  have oq_49 := oq_keep la_19 oq_20 hnw
  obtain ⟨hk_50, hp⟩ := hp
  have ax_53 : At S_47 x 11 := hk_50.fr.at ax_24
  have am_54 : At S_47 mo 12 := hk_50.fr.at am_25
  have mi_51 : MI S_47 mo := (by rcases hp with ⟨h, -⟩ | ⟨h, -⟩ <;> exact h)
  have gr_52 : GR S_47 mo := GR_fr hg_28 am_25 hk_50.fr (by decide +kernel) (by decide +kernel) gr_23
  have ph_55 : Phc S_47 = Phc S_18 := Ph_ok hg_28 hk_50 (by decide +kernel) (by decide +kernel) (by decide +kernel)
  have ph_56 : Phs S_47 = Phs S_18 := Ph_ok hg_28 hk_50 (by decide +kernel) (by decide +kernel) (by decide +kernel)
  have hg_57 : GX S_47 := hk_50.1
  have rg_58 := And.intro (z_lo rr_46) (z_hi rr_46)
  refine lv_pop X.1 X.2.1 dL_law_534 rfl ?_
  refine lv_goto (tgt := 1505) X.1 X.2.1 dL_law_535 (by decide) ?_
  exact K _ _ _ _ cc nn hw hg_57 ax_53 am_54 mi_51 gr_52 la_48 oq_49 (lv_sub hl [0, 1, 2, 3, 4] rfl) (by omega) (by omega)
set_option maxHeartbeats 4000000 in
set_option maxRecDepth 100000 in
theorem lc_7 {p : Program} {l : Launch} {e : Env} {s : State} {m : MethodId} {below : List Frame} {meth : Method} {c : Code} (hst : l.stackTraces = false) {b x mo oq L : Nat} {xs : Nat → Int32} {cL : ClassId} {G : va_G} {cy : Nat → ClassId} {κ : Nat → Nat} {S : PS} {H : Heap} {locs : List Loc} {ls : Array Slot} {cc nn : Nat} {Q : State → Prop} {i : Int32} {i_z : Int} (X : Cx p c cL_law 7 s #[Value.ref b] lw_tbl RL m G cy κ (fun q : Nat => s.heap.size ≤ q)) (hX : va_X b L xs s s.heap) (hbl : b < s.heap.size) (hbA : ¬ (fun q : Nat => s.heap.size ≤ q) b) (hdc : ∀ Y ∈ DcL, va_Nw (.declares (Bundle.initS Y)) s) (hkl : Kl cL s) (hAo : (fun q : Nat => s.heap.size ≤ q) oq) (hL : L ≤ 3072) (hz_i : i.toInt = i_z) (hi0 : 0 ≤ i_z) (hi1 : i_z + 6 ≤ (L : Int)) (hw : Wd G cy (fun q : Nat => s.heap.size ≤ q) s.heap S H locs) (hG : GX S) (hax : At S x 11) (ham : At S mo 12) (hMI : MI S mo) (hGR : GR S mo) (hLA : LA cL oq H) (hoq : oq ∉ pL S) (hl : lv_has ls 7 [(4, .int i), (3, .ref oq), (2, .ref mo), (1, .ref x), (0, .ref b)]) (hcc : cc + Phc S + 20000 ≤ 601024) (hnn : nn + Phs S + 100000 ≤ 7293034) (K : ∀ (S9 : PS) (H9 : Heap) (locs9 : List Loc) (ls9 : Array Slot) (c9 n9 : Nat), Wd G cy (fun q : Nat => s.heap.size ≤ q) s.heap S9 H9 locs9 → GX S9 → At S9 x 11 → At S9 mo 12 → MI S9 mo → GR S9 mo → LA cL oq H9 → oq ∉ pL S9 → lv_has ls9 7 [(4, .int i), (3, .ref oq), (2, .ref mo), (1, .ref x), (0, .ref b)] → c9 + Phc S9 ≤ cc + Phc S + 102 → n9 + Phs S9 ≤ nn + Phs S + 1020 → W p l e room_1 s m #[Value.ref b] below meth c H9 locs9 c9 n9 Q (F0 m 1505 ls9 [])) : W p l e room_1 s m #[Value.ref b] below meth c H locs cc nn Q (F0 m 538 ls []) := by
  refine lv_aload_n X.1 X.2.1 dL_law_538 rfl (lv_at hl 3 rfl) ?_
  refine lv_aload_n X.1 X.2.1 dL_law_539 rfl (lv_at hl 4 rfl) ?_
  refine lv_iload X.1 X.2.1 dL_law_540 (lv_at hl 0 rfl) ?_
  refine lv_iconst (v := 1) X.1 X.2.1 dL_law_542 (by decide) ?_
  refine lv_iadd X.1 X.2.1 dL_law_543 ?_
  refine lv_topi (fun v_1 ev_1 => ?_)
  have z_2 : v_1.toInt = i_z + 1 := z_add ev_1 hz_i ti_1 (by omega) (by omega)
  refine va_sld X.1 X.2.1 hX hbl hbA hw.2.2 (z_ix rfl (by omega) (by omega)) dL_law_544 ?_
  refine lv_topi (fun v_3 ev_3 => ?_)
  have rg_4 := And.intro (z_lo v_3) (z_hi v_3)
  refine lv_aload_n X.1 X.2.1 dL_law_545 rfl (lv_at hl 4 rfl) ?_
  refine lv_iload X.1 X.2.1 dL_law_546 (lv_at hl 0 rfl) ?_
  refine lv_iconst (v := 2) X.1 X.2.1 dL_law_548 (by decide) ?_
  refine lv_iadd X.1 X.2.1 dL_law_549 ?_
  refine lv_topi (fun v_5 ev_5 => ?_)
  have z_6 : v_5.toInt = i_z + 2 := z_add ev_5 hz_i ti_2 (by omega) (by omega)
  refine va_sld X.1 X.2.1 hX hbl hbA hw.2.2 (z_ix rfl (by omega) (by omega)) dL_law_550 ?_
  refine lv_topi (fun v_7 ev_7 => ?_)
  have rg_8 := And.intro (z_lo v_7) (z_hi v_7)
  refine lv_aload_n X.1 X.2.1 dL_law_551 rfl (lv_at hl 4 rfl) ?_
  refine lv_iload X.1 X.2.1 dL_law_552 (lv_at hl 0 rfl) ?_
  refine lv_iconst (v := 3) X.1 X.2.1 dL_law_554 (by decide) ?_
  refine lv_iadd X.1 X.2.1 dL_law_555 ?_
  refine lv_topi (fun v_9 ev_9 => ?_)
  have z_10 : v_9.toInt = i_z + 3 := z_add ev_9 hz_i ti_3 (by omega) (by omega)
  refine va_sld X.1 X.2.1 hX hbl hbA hw.2.2 (z_ix rfl (by omega) (by omega)) dL_law_556 ?_
  refine lv_topi (fun v_11 ev_11 => ?_)
  have rg_12 := And.intro (z_lo v_11) (z_hi v_11)
  refine lv_aload_n X.1 X.2.1 dL_law_557 rfl (lv_at hl 4 rfl) ?_
  refine lv_iload X.1 X.2.1 dL_law_558 (lv_at hl 0 rfl) ?_
  refine lv_iconst (v := 4) X.1 X.2.1 dL_law_560 (by decide) ?_
  refine lv_iadd X.1 X.2.1 dL_law_561 ?_
  refine lv_topi (fun v_13 ev_13 => ?_)
  have z_14 : v_13.toInt = i_z + 4 := z_add ev_13 hz_i ti_4 (by omega) (by omega)
  refine va_sld X.1 X.2.1 hX hbl hbA hw.2.2 (z_ix rfl (by omega) (by omega)) dL_law_562 ?_
  refine lv_topi (fun v_15 ev_15 => ?_)
  have rg_16 := And.intro (z_lo v_15) (z_hi v_15)
  refine lv_aload_n X.1 X.2.1 dL_law_563 rfl (lv_at hl 4 rfl) ?_
  refine lv_iload X.1 X.2.1 dL_law_564 (lv_at hl 0 rfl) ?_
  refine lv_iconst (v := 5) X.1 X.2.1 dL_law_566 (by decide) ?_
  refine lv_iadd X.1 X.2.1 dL_law_567 ?_
  refine lv_topi (fun v_17 ev_17 => ?_)
  have z_18 : v_17.toInt = i_z + 5 := z_add ev_17 hz_i ti_5 (by omega) (by omega)
  refine va_sld X.1 X.2.1 hX hbl hbA hw.2.2 (z_ix rfl (by omega) (by omega)) dL_law_568 ?_
  refine lv_topi (fun v_19 ev_19 => ?_)
  have rg_20 := And.intro (z_lo v_19) (z_hi v_19)
  refine k_i (rm := { frames := 2, cells := 0, slots := 0, locals := 96 }) (av := [.ref x, .int (v_3), .int (v_7), .int (v_11), .int (v_15), .int (v_19)]) X hw (va_runV (As := [.int (v_3), .int (v_7), .int (v_11), .int (v_15), .int (v_19)]) (rest := []) (cfix X) (k_X11_feed l G cy κ S _ x (v_3) (v_3.toInt) (v_7) (v_7.toInt) (v_11) (v_11.toInt) (v_15) (v_15.toInt) (v_19) (v_19.toInt) hG hax rfl rfl rfl rfl rfl) (cwV 5 X.2.2.2.1 gk_X11_feed rfl rfl rfl (by decide +kernel) ⟨Nat.le_of_ble_eq_true rfl, Nat.le_of_ble_eq_true rfl⟩) (pre_V X hw _ hax rfl (by decide) rfl) rfl rfl hl.1 rfl (lv_room (Nat.le_of_ble_eq_true rfl)) dL_law_569 ⟨(by show cc + 0 ≤ 601024; omega), (by show nn + 0 ≤ 7293034; omega)⟩) cc nn (by show cc + 0 ≤ cc; omega) (by show nn + 0 ≤ nn; omega) (fun rr_21 S_22 H locs hp hw hfr hnw => ?_)
  have la_23 := LA_keep hLA hoq hfr
  have oq_24 := oq_keep hLA hoq hnw
  obtain ⟨hk_25, hp⟩ := hp
  have ax_28 : At S_22 x 11 := hk_25.fr.at hax
  have am_29 : At S_22 mo 12 := hk_25.fr.at ham
  have mi_26 : MI S_22 mo := MIe_free hG ham hk_25.fr (by decide +kernel) hMI
  have gr_27 : GR S_22 mo := GR_free hG ham hk_25.fr (by decide +kernel) hGR
  have ph_30 : Phc S_22 = Phc S := Ph_ok hG hk_25 (by decide +kernel) (by decide +kernel) (by decide +kernel)
  have ph_31 : Phs S_22 = Phs S := Ph_ok hG hk_25 (by decide +kernel) (by decide +kernel) (by decide +kernel)
  have hg_32 : GX S_22 := hk_25.1
  have rg_33 := And.intro (z_lo rr_21) (z_hi rr_21)
  refine lv_pop X.1 X.2.1 dL_law_572 rfl ?_
  refine lv_aload_n X.1 X.2.1 dL_law_573 rfl (lv_at hl 2 rfl) ?_
  refine lv_aload_n X.1 X.2.1 dL_law_574 rfl (lv_at hl 4 rfl) ?_
  refine lv_iload X.1 X.2.1 dL_law_575 (lv_at hl 0 rfl) ?_
  refine lv_iconst (v := 1) X.1 X.2.1 dL_law_577 (by decide) ?_
  refine lv_iadd X.1 X.2.1 dL_law_578 ?_
  refine lv_topi (fun v_34 ev_34 => ?_)
  have z_35 : v_34.toInt = i_z + 1 := z_add ev_34 hz_i ti_1 (by omega) (by omega)
  refine va_sld X.1 X.2.1 hX hbl hbA hw.2.2 (z_ix rfl (by omega) (by omega)) dL_law_579 ?_
  refine lv_topi (fun v_36 ev_36 => ?_)
  have es_37 : v_3 = v_36 := by rw [ev_3, ev_36, ev_1, ev_34]
  subst es_37
  refine lv_aload_n X.1 X.2.1 dL_law_580 rfl (lv_at hl 4 rfl) ?_
  refine lv_iload X.1 X.2.1 dL_law_581 (lv_at hl 0 rfl) ?_
  refine lv_iconst (v := 2) X.1 X.2.1 dL_law_583 (by decide) ?_
  refine lv_iadd X.1 X.2.1 dL_law_584 ?_
  refine lv_topi (fun v_38 ev_38 => ?_)
  have z_39 : v_38.toInt = i_z + 2 := z_add ev_38 hz_i ti_2 (by omega) (by omega)
  refine va_sld X.1 X.2.1 hX hbl hbA hw.2.2 (z_ix rfl (by omega) (by omega)) dL_law_585 ?_
  refine lv_topi (fun v_40 ev_40 => ?_)
  have es_41 : v_7 = v_40 := by rw [ev_7, ev_40, ev_5, ev_38]
  subst es_41
  refine lv_aload_n X.1 X.2.1 dL_law_586 rfl (lv_at hl 4 rfl) ?_
  refine lv_iload X.1 X.2.1 dL_law_587 (lv_at hl 0 rfl) ?_
  refine lv_iconst (v := 3) X.1 X.2.1 dL_law_589 (by decide) ?_
  refine lv_iadd X.1 X.2.1 dL_law_590 ?_
  refine lv_topi (fun v_42 ev_42 => ?_)
  have z_43 : v_42.toInt = i_z + 3 := z_add ev_42 hz_i ti_3 (by omega) (by omega)
  refine va_sld X.1 X.2.1 hX hbl hbA hw.2.2 (z_ix rfl (by omega) (by omega)) dL_law_591 ?_
  refine lv_topi (fun v_44 ev_44 => ?_)
  have es_45 : v_11 = v_44 := by rw [ev_11, ev_44, ev_9, ev_42]
  subst es_45
  refine lv_aload_n X.1 X.2.1 dL_law_592 rfl (lv_at hl 4 rfl) ?_
  refine lv_iload X.1 X.2.1 dL_law_593 (lv_at hl 0 rfl) ?_
  refine lv_iconst (v := 4) X.1 X.2.1 dL_law_595 (by decide) ?_
  refine lv_iadd X.1 X.2.1 dL_law_596 ?_
  refine lv_topi (fun v_46 ev_46 => ?_)
  have z_47 : v_46.toInt = i_z + 4 := z_add ev_46 hz_i ti_4 (by omega) (by omega)
  refine va_sld X.1 X.2.1 hX hbl hbA hw.2.2 (z_ix rfl (by omega) (by omega)) dL_law_597 ?_
  refine lv_topi (fun v_48 ev_48 => ?_)
  have es_49 : v_15 = v_48 := by rw [ev_15, ev_48, ev_13, ev_46]
  subst es_49
  refine lv_aload_n X.1 X.2.1 dL_law_598 rfl (lv_at hl 4 rfl) ?_
  refine lv_iload X.1 X.2.1 dL_law_599 (lv_at hl 0 rfl) ?_
  refine lv_iconst (v := 5) X.1 X.2.1 dL_law_601 (by decide) ?_
  refine lv_iadd X.1 X.2.1 dL_law_602 ?_
  refine lv_topi (fun v_50 ev_50 => ?_)
  have z_51 : v_50.toInt = i_z + 5 := z_add ev_50 hz_i ti_5 (by omega) (by omega)
  refine va_sld X.1 X.2.1 hX hbl hbA hw.2.2 (z_ix rfl (by omega) (by omega)) dL_law_603 ?_
  refine lv_topi (fun v_52 ev_52 => ?_)
  have es_53 : v_19 = v_52 := by rw [ev_19, ev_52, ev_17, ev_50]
  subst es_53
  refine k_i (rm := { frames := 1, cells := 0, slots := 0, locals := 48 }) (av := [.ref mo, .int (v_3), .int (v_7), .int (v_11), .int (v_15), .int (v_19)]) X hw (va_runV (As := [.int (v_3), .int (v_7), .int (v_11), .int (v_15), .int (v_19)]) (rest := []) (cfix X) (k_X12_feed l G cy κ S_22 _ mo (v_3) (v_3.toInt) (v_7) (v_7.toInt) (v_11) (v_11.toInt) (v_15) (v_15.toInt) (v_19) (v_19.toInt) hg_32 am_29 rfl rfl rfl rfl rfl) (cwV 5 X.2.2.2.1 gk_X12_feed rfl rfl rfl (by decide +kernel) ⟨Nat.le_of_ble_eq_true rfl, Nat.le_of_ble_eq_true rfl⟩) (pre_V X hw _ am_29 rfl (by decide) rfl) rfl rfl hl.1 rfl (lv_room (Nat.le_of_ble_eq_true rfl)) dL_law_604 ⟨(by show cc + 0 ≤ 601024; omega), (by show nn + 0 ≤ 7293034; omega)⟩) cc nn (by show cc + 0 ≤ cc; omega) (by show nn + 0 ≤ nn; omega) (fun rr_54 S_55 H locs hp hw hfr hnw => ?_)
  have la_56 := LA_keep la_23 oq_24 hfr
  have oq_57 := oq_keep la_23 oq_24 hnw
  obtain ⟨hk_58, hp⟩ := hp
  have ax_61 : At S_55 x 11 := hk_58.fr.at ax_28
  have am_62 : At S_55 mo 12 := hk_58.fr.at am_29
  have mi_59 : MI S_55 mo := MIe_free hg_32 am_29 hk_58.fr (by decide +kernel) mi_26
  have gr_60 : GR S_55 mo := GR_free hg_32 am_29 hk_58.fr (by decide +kernel) gr_27
  have ph_63 : Phc S_55 = Phc S_22 := Ph_ok hg_32 hk_58 (by decide +kernel) (by decide +kernel) (by decide +kernel)
  have ph_64 : Phs S_55 = Phs S_22 := Ph_ok hg_32 hk_58 (by decide +kernel) (by decide +kernel) (by decide +kernel)
  have hg_65 : GX S_55 := hk_58.1
  have rg_66 := And.intro (z_lo rr_54) (z_hi rr_54)
  refine lv_pop X.1 X.2.1 dL_law_607 rfl ?_
  refine lv_goto (tgt := 1505) X.1 X.2.1 dL_law_608 (by decide) ?_
  exact K _ _ _ _ cc nn hw hg_65 ax_61 am_62 mi_59 gr_60 la_56 oq_57 (lv_sub hl [0, 1, 2, 3, 4] rfl) (by omega) (by omega)
