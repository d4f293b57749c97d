set_option maxHeartbeats 4000000 in
set_option maxRecDepth 100000 in
theorem lc_0 {p : Program} {l : Launch} {e : Env} {s : State} {m : MethodId} {below : List Frame} {meth : Method} {c : Code} (hst : l.stackTraces = false) {b x mo oq L : Nat} {xs : Nat → Int32} {cL : ClassId} {G : va_G} {cy : Nat → ClassId} {κ : Nat → Nat} {S : PS} {H : Heap} {locs : List Loc} {ls : Array Slot} {cc nn : Nat} {Q : State → Prop} {i : Int32} {i_z : Int} (X : Cx p c cL_law 7 s #[Value.ref b] lw_tbl RL m G cy κ (fun q : Nat => s.heap.size ≤ q)) (hX : va_X b L xs s s.heap) (hbl : b < s.heap.size) (hbA : ¬ (fun q : Nat => s.heap.size ≤ q) b) (hdc : ∀ Y ∈ DcL, va_Nw (.declares (Bundle.initS Y)) s) (hkl : Kl cL s) (hAo : (fun q : Nat => s.heap.size ≤ q) oq) (hL : L ≤ 3072) (hz_i : i.toInt = i_z) (hi0 : 0 ≤ i_z) (hi1 : i_z + 6 ≤ (L : Int)) (hw : Wd G cy (fun q : Nat => s.heap.size ≤ q) s.heap S H locs) (hG : GX S) (hax : At S x 11) (ham : At S mo 12) (hMI : MI S mo) (hGR : GR S mo) (hTD : TD S x mo) (hLA : LA cL oq H) (hoq : oq ∉ pL S) (hl : lv_has ls 7 [(4, .int i), (3, .ref oq), (2, .ref mo), (1, .ref x), (0, .ref b)]) (hcc : cc + Phc S + 20000 ≤ 601024) (hnn : nn + Phs S + 100000 ≤ 7293034) (K : ∀ (S9 : PS) (H9 : Heap) (locs9 : List Loc) (ls9 : Array Slot) (c9 n9 : Nat), Wd G cy (fun q : Nat => s.heap.size ≤ q) s.heap S9 H9 locs9 → GX S9 → At S9 x 11 → At S9 mo 12 → MI S9 mo → GR S9 mo → TD S9 x mo → LA cL oq H9 → oq ∉ pL S9 → lv_has ls9 7 [(4, .int i), (3, .ref oq), (2, .ref mo), (1, .ref x), (0, .ref b)] → c9 + Phc S9 ≤ cc + Phc S + 102 → n9 + Phs S9 ≤ nn + Phs S + 1020 → W p l e room_1 s m #[Value.ref b] below meth c H9 locs9 c9 n9 Q (F0 m 1505 ls9 [])) : W p l e room_1 s m #[Value.ref b] below meth c H locs cc nn Q (F0 m 180 ls []) := by
  refine lv_aload_n X.1 X.2.1 dL_law_180 rfl (lv_at hl 3 rfl) ?_
  refine lv_aload_n X.1 X.2.1 dL_law_181 rfl (lv_at hl 4 rfl) ?_
  refine lv_iload X.1 X.2.1 dL_law_182 (lv_at hl 0 rfl) ?_
  refine lv_iconst (v := 1) X.1 X.2.1 dL_law_184 (by decide) ?_
  refine lv_iadd X.1 X.2.1 dL_law_185 ?_
  refine lv_topi (fun v_1 ev_1 => ?_)
  have z_2 : v_1.toInt = i_z + 1 := z_add ev_1 hz_i ti_1 (by omega) (by omega)
  refine va_sld X.1 X.2.1 hX hbl hbA hw.2.2 (z_ix rfl (by omega) (by omega)) dL_law_186 ?_
  refine lv_topi (fun v_3 ev_3 => ?_)
  have rg_4 := And.intro (z_lo v_3) (z_hi v_3)
  refine lv_aload_n X.1 X.2.1 dL_law_187 rfl (lv_at hl 4 rfl) ?_
  refine lv_iload X.1 X.2.1 dL_law_188 (lv_at hl 0 rfl) ?_
  refine lv_iconst (v := 2) X.1 X.2.1 dL_law_190 (by decide) ?_
  refine lv_iadd X.1 X.2.1 dL_law_191 ?_
  refine lv_topi (fun v_5 ev_5 => ?_)
  have z_6 : v_5.toInt = i_z + 2 := z_add ev_5 hz_i ti_2 (by omega) (by omega)
  refine va_sld X.1 X.2.1 hX hbl hbA hw.2.2 (z_ix rfl (by omega) (by omega)) dL_law_192 ?_
  refine lv_topi (fun v_7 ev_7 => ?_)
  have rg_8 := And.intro (z_lo v_7) (z_hi v_7)
  refine lv_aload_n X.1 X.2.1 dL_law_193 rfl (lv_at hl 4 rfl) ?_
  refine lv_iload X.1 X.2.1 dL_law_194 (lv_at hl 0 rfl) ?_
  refine lv_iconst (v := 3) X.1 X.2.1 dL_law_196 (by decide) ?_
  refine lv_iadd X.1 X.2.1 dL_law_197 ?_
  refine lv_topi (fun v_9 ev_9 => ?_)
  have z_10 : v_9.toInt = i_z + 3 := z_add ev_9 hz_i ti_3 (by omega) (by omega)
  refine va_sld X.1 X.2.1 hX hbl hbA hw.2.2 (z_ix rfl (by omega) (by omega)) dL_law_198 ?_
  refine lv_topi (fun v_11 ev_11 => ?_)
  have rg_12 := And.intro (z_lo v_11) (z_hi v_11)
  refine lv_aload_n X.1 X.2.1 dL_law_199 rfl (lv_at hl 4 rfl) ?_
  refine lv_iload X.1 X.2.1 dL_law_200 (lv_at hl 0 rfl) ?_
  refine lv_iconst (v := 4) X.1 X.2.1 dL_law_202 (by decide) ?_
  refine lv_iadd X.1 X.2.1 dL_law_203 ?_
  refine lv_topi (fun v_13 ev_13 => ?_)
  have z_14 : v_13.toInt = i_z + 4 := z_add ev_13 hz_i ti_4 (by omega) (by omega)
  refine va_sld X.1 X.2.1 hX hbl hbA hw.2.2 (z_ix rfl (by omega) (by omega)) dL_law_204 ?_
  refine lv_topi (fun v_15 ev_15 => ?_)
  have rg_16 := And.intro (z_lo v_15) (z_hi v_15)
  refine lv_aload_n X.1 X.2.1 dL_law_205 rfl (lv_at hl 4 rfl) ?_
  refine lv_iload X.1 X.2.1 dL_law_206 (lv_at hl 0 rfl) ?_
  refine lv_iconst (v := 5) X.1 X.2.1 dL_law_208 (by decide) ?_
  refine lv_iadd X.1 X.2.1 dL_law_209 ?_
  refine lv_topi (fun v_17 ev_17 => ?_)
  have z_18 : v_17.toInt = i_z + 5 := z_add ev_17 hz_i ti_5 (by omega) (by omega)
  refine va_sld X.1 X.2.1 hX hbl hbA hw.2.2 (z_ix rfl (by omega) (by omega)) dL_law_210 ?_
  refine lv_topi (fun v_19 ev_19 => ?_)
  have rg_20 := And.intro (z_lo v_19) (z_hi v_19)
  refine k_gi2 (kc := 60) (ks := 600) (rm := { frames := 4, cells := Phc S + 60, slots := Phs S + 600, locals := 192 }) (av := [.ref x, .int (v_3), .int (v_7), .int (v_11), .int (v_15), .int (v_19)]) X hw (va_runV (As := [.int (v_3), .int (v_7), .int (v_11), .int (v_15), .int (v_19)]) (rest := []) (cfix X) (k_X11_lot2 l G cy κ S _ _ x (v_3) (v_3.toInt) (v_7) (v_7.toInt) (v_11) (v_11.toInt) (v_15) (v_15.toInt) (v_19) (v_19.toInt) hG hax rfl rfl rfl rfl rfl) (cwV 5 X.2.2.2.1 gk_X11_lot rfl rfl rfl (by decide +kernel) ⟨Nat.le_of_ble_eq_true rfl, Nat.le_of_ble_eq_true rfl⟩) (pre_gV X hw _ hax rfl (by decide) rfl) rfl rfl hl.1 rfl (lv_room (Nat.le_of_ble_eq_true rfl)) dL_law_211 ⟨(by show cc + (Phc S + 60) ≤ 601024; omega), (by show nn + (Phs S + 600) ≤ 7293034; omega)⟩) (fun rr_21 S_22 H locs c_23 n_24 hc_23 hn_24 hp hw hfr hnw => ?_)
  have la_25 := LA_keep hLA hoq hfr
  have oq_26 := oq_keep hLA hoq hnw
  obtain ⟨hk_27, hp⟩ := hp
  have ax_30 : At S_22 x 11 := hk_27.fr.at hax
  have am_31 : At S_22 mo 12 := hk_27.fr.at ham
  have mi_28 : MI S_22 mo := MIe_free hG ham hk_27.fr (by decide +kernel) hMI
  have gr_29 : GR S_22 mo := GR_free hG ham hk_27.fr (by decide +kernel) hGR
  obtain ⟨⟨q_32, td_33, td_34, td_35⟩, td_36, td_37, ⟨u_38, td_39, td_40, td_41⟩, pn_42, ct_43, th_44, tx_45⟩ := hTD
  have hq_46 := mkhid hp
  have th_47 : pR S_22 1107 x = some q_32 := hk_27.fr.R' (by decide +kernel) hax td_33
  have th_48 : At S_22 q_32 8 := hk_27.fr.at td_34
  have th_51 : pR S_22 1105 x = some u_38 := hk_27.fr.R' (by decide +kernel) hax td_39
  have th_52 : At S_22 u_38 10 := hk_27.fr.at td_40
  have th_49 : pI S_22 801 q_32 = pI S 801 q_32 := hk_27.fr.I' (by decide +kernel) td_34 rfl
  have th_50 : pI S_22 1245 mo = pI S 1245 mo := hk_27.fr.I' (by decide +kernel) ham rfl
  have tf_56 := mkhid (hp.2.2.1)
  have tf_57 : (pI S_22 1104 x).toInt = (pI S 1104 x).toInt := congrArg Int32.toInt (hk_27.fr.I' (by decide +kernel) hax rfl)
  have tf_58 : (pI S_22 1201 mo).toInt = (pI S 1201 mo).toInt := congrArg Int32.toInt (hk_27.fr.I' (by decide +kernel) ham rfl)
  have tf_59 : (pI S_22 1211 mo).toInt = (pI S 1211 mo).toInt := congrArg Int32.toInt (hk_27.fr.I' (by decide +kernel) ham rfl)
  have tf_60 : (pI S_22 1000 u_38).toInt = (pI S 1000 u_38).toInt := congrArg Int32.toInt (hk_27.fr.I' (by decide +kernel) td_40 rfl)
  have tf_61 : (pI S_22 1000 u_38).toInt = (pI S 1000 u_38).toInt := congrArg Int32.toInt (hk_27.fr.I' (by decide +kernel) td_40 rfl)
  have tf_62 : (pI S_22 1000 u_38).toInt = (pI S 1000 u_38).toInt := congrArg Int32.toInt (hk_27.fr.I' (by decide +kernel) td_40 rfl)
  have tf_63 : (pI S_22 1228 mo).toInt = (pI S 1228 mo).toInt := congrArg Int32.toInt (hk_27.fr.I' (by decide +kernel) ham rfl)
  have tf_64 : (pI S_22 1228 mo).toInt = (pI S 1228 mo).toInt := congrArg Int32.toInt (hk_27.fr.I' (by decide +kernel) ham rfl)
  have th_66 : mA S_22 mo 1210 = thinF := TH_fr hG hk_27.fr ham (by decide +kernel) th_44
  have lo_67 := mkhid hp.2.2.2.1
  have lo_68 := mkhid hp.2.2.2.2
  clear hp
  have th_55 : PN S_22 x := PN_fr hG hax hk_27.fr (by decide +kernel) (by decide +kernel) (by decide +kernel) pn_42
  have hg_70 : GX S_22 := hk_27.1
  have rg_71 := And.intro (z_lo rr_21) (z_hi rr_21)
  refine lv_pop X.1 X.2.1 dL_law_214 rfl ?_
  refine lv_aload_n X.1 X.2.1 dL_law_215 rfl (lv_at hl 2 rfl) ?_
  refine lv_aload_n X.1 X.2.1 dL_law_216 rfl (lv_at hl 4 rfl) ?_
  refine lv_iload X.1 X.2.1 dL_law_217 (lv_at hl 0 rfl) ?_
  refine lv_iconst (v := 1) X.1 X.2.1 dL_law_219 (by decide) ?_
  refine lv_iadd X.1 X.2.1 dL_law_220 ?_
  refine lv_topi (fun v_72 ev_72 => ?_)
  have z_73 : v_72.toInt = i_z + 1 := z_add ev_72 hz_i ti_1 (by omega) (by omega)
  refine va_sld X.1 X.2.1 hX hbl hbA hw.2.2 (z_ix rfl (by omega) (by omega)) dL_law_221 ?_
  refine lv_topi (fun v_74 ev_74 => ?_)
  have es_75 : v_3 = v_74 := by rw [ev_3, ev_74, ev_1, ev_72]
  subst es_75
  refine lv_aload_n X.1 X.2.1 dL_law_222 rfl (lv_at hl 4 rfl) ?_
  refine lv_iload X.1 X.2.1 dL_law_223 (lv_at hl 0 rfl) ?_
  refine lv_iconst (v := 2) X.1 X.2.1 dL_law_225 (by decide) ?_
  refine lv_iadd X.1 X.2.1 dL_law_226 ?_
  refine lv_topi (fun v_76 ev_76 => ?_)
  have z_77 : v_76.toInt = i_z + 2 := z_add ev_76 hz_i ti_2 (by omega) (by omega)
  refine va_sld X.1 X.2.1 hX hbl hbA hw.2.2 (z_ix rfl (by omega) (by omega)) dL_law_227 ?_
  refine lv_topi (fun v_78 ev_78 => ?_)
  have es_79 : v_7 = v_78 := by rw [ev_7, ev_78, ev_5, ev_76]
  subst es_79
  refine lv_aload_n X.1 X.2.1 dL_law_228 rfl (lv_at hl 4 rfl) ?_
  refine lv_iload X.1 X.2.1 dL_law_229 (lv_at hl 0 rfl) ?_
  refine lv_iconst (v := 3) X.1 X.2.1 dL_law_231 (by decide) ?_
  refine lv_iadd X.1 X.2.1 dL_law_232 ?_
  refine lv_topi (fun v_80 ev_80 => ?_)
  have z_81 : v_80.toInt = i_z + 3 := z_add ev_80 hz_i ti_3 (by omega) (by omega)
  refine va_sld X.1 X.2.1 hX hbl hbA hw.2.2 (z_ix rfl (by omega) (by omega)) dL_law_233 ?_
  refine lv_topi (fun v_82 ev_82 => ?_)
  have es_83 : v_11 = v_82 := by rw [ev_11, ev_82, ev_9, ev_80]
  subst es_83
  refine lv_aload_n X.1 X.2.1 dL_law_234 rfl (lv_at hl 4 rfl) ?_
  refine lv_iload X.1 X.2.1 dL_law_235 (lv_at hl 0 rfl) ?_
  refine lv_iconst (v := 4) X.1 X.2.1 dL_law_237 (by decide) ?_
  refine lv_iadd X.1 X.2.1 dL_law_238 ?_
  refine lv_topi (fun v_84 ev_84 => ?_)
  have z_85 : v_84.toInt = i_z + 4 := z_add ev_84 hz_i ti_4 (by omega) (by omega)
  refine va_sld X.1 X.2.1 hX hbl hbA hw.2.2 (z_ix rfl (by omega) (by omega)) dL_law_239 ?_
  refine lv_topi (fun v_86 ev_86 => ?_)
  have es_87 : v_15 = v_86 := by rw [ev_15, ev_86, ev_13, ev_84]
  subst es_87
  refine lv_aload_n X.1 X.2.1 dL_law_240 rfl (lv_at hl 4 rfl) ?_
  refine lv_iload X.1 X.2.1 dL_law_241 (lv_at hl 0 rfl) ?_
  refine lv_iconst (v := 5) X.1 X.2.1 dL_law_243 (by decide) ?_
  refine lv_iadd X.1 X.2.1 dL_law_244 ?_
  refine lv_topi (fun v_88 ev_88 => ?_)
  have z_89 : v_88.toInt = i_z + 5 := z_add ev_88 hz_i ti_5 (by omega) (by omega)
  refine va_sld X.1 X.2.1 hX hbl hbA hw.2.2 (z_ix rfl (by omega) (by omega)) dL_law_245 ?_
  refine lv_topi (fun v_90 ev_90 => ?_)
  have es_91 : v_19 = v_90 := by rw [ev_19, ev_90, ev_17, ev_88]
  subst es_91
  refine k_i (rm := { frames := 2, cells := 0, slots := 0, locals := 96 }) (av := [.ref mo, .int (v_3), .int (v_7), .int (v_11), .int (v_15), .int (v_19)]) X hw (va_runV (As := [.int (v_3), .int (v_7), .int (v_11), .int (v_15), .int (v_19)]) (rest := []) (cfix X) (k_X12_lot2 l G cy κ S_22 _ mo (v_3) (v_3.toInt) (v_7) (v_7.toInt) (v_11) (v_11.toInt) (v_15) (v_15.toInt) (v_19) (v_19.toInt) hg_70 am_31 rfl rfl rfl rfl rfl mi_28) (cwV 5 X.2.2.2.1 gk_X12_lot rfl rfl rfl (by decide +kernel) ⟨Nat.le_of_ble_eq_true rfl, Nat.le_of_ble_eq_true rfl⟩) (pre_V X hw _ am_31 rfl (by decide) rfl) rfl rfl hl.1 rfl (lv_room (Nat.le_of_ble_eq_true rfl)) dL_law_246 ⟨(by show c_23 + 0 ≤ 601024; omega), (by show n_24 + 0 ≤ 7293034; omega)⟩) c_23 n_24 (by show c_23 + 0 ≤ c_23; omega) (by show n_24 + 0 ≤ n_24; omega) (fun rr_92 S_93 H locs hp hw hfr hnw => ?_)
  have la_94 := LA_keep la_25 oq_26 hfr
  have oq_95 := oq_keep la_25 oq_26 hnw
  obtain ⟨hk_96, hp⟩ := hp
  have ax_99 : At S_93 x 11 := hk_96.fr.at ax_30
  have am_100 : At S_93 mo 12 := hk_96.fr.at am_31
  have mi_97 : MI S_93 mo := hp.1
  have gr_98 : GR S_93 mo := GR_fr hg_70 am_31 hk_96.fr (by decide +kernel) (by decide +kernel) gr_29
  have ph_101 : Phc S_93 = Phc S_22 := Ph_ok hg_70 hk_96 (by decide +kernel) (by decide +kernel) (by decide +kernel)
  have ph_102 : Phs S_93 = Phs S_22 := Ph_ok hg_70 hk_96 (by decide +kernel) (by decide +kernel) (by decide +kernel)
  have th_103 : pR S_93 1107 x = some q_32 := hk_96.fr.R' (by decide +kernel) ax_30 th_47
  have th_104 : At S_93 q_32 8 := hk_96.fr.at th_48
  have th_107 : pR S_93 1105 x = some u_38 := hk_96.fr.R' (by decide +kernel) ax_30 th_51
  have th_108 : At S_93 u_38 10 := hk_96.fr.at th_52
  have th_105 : pI S_93 801 q_32 = pI S_22 801 q_32 := hk_96.fr.I' (by decide +kernel) th_48 rfl
  have th_106 : pI S_93 1245 mo = pI S_22 1245 mo := hk_96.fr.I' (by decide +kernel) am_31 rfl
  have tf_112 : (pI S_93 1102 x).toInt = (pI S_22 1102 x).toInt := congrArg Int32.toInt (hk_96.fr.I' (by decide +kernel) ax_30 rfl)
  have tf_113 : (pI S_93 1104 x).toInt = (pI S_22 1104 x).toInt := congrArg Int32.toInt (hk_96.fr.I' (by decide +kernel) ax_30 rfl)
  have tf_114 := mkhid (hp.2.1)
  have tf_115 : (pI S_93 1211 mo).toInt = (pI S_22 1211 mo).toInt := congrArg Int32.toInt (hk_96.fr.I' (by decide +kernel) am_31 rfl)
  have tf_116 : (pI S_93 1000 u_38).toInt = (pI S_22 1000 u_38).toInt := congrArg Int32.toInt (hk_96.fr.I' (by decide +kernel) th_52 rfl)
  have tf_117 : (pI S_93 1000 u_38).toInt = (pI S_22 1000 u_38).toInt := congrArg Int32.toInt (hk_96.fr.I' (by decide +kernel) th_52 rfl)
  have tf_118 : (pI S_93 1000 u_38).toInt = (pI S_22 1000 u_38).toInt := congrArg Int32.toInt (hk_96.fr.I' (by decide +kernel) th_52 rfl)
  have tf_119 : (pI S_93 1228 mo).toInt = (pI S_22 1228 mo).toInt := congrArg Int32.toInt (hk_96.fr.I' (by decide +kernel) am_31 rfl)
  have tf_120 : (pI S_93 1228 mo).toInt = (pI S_22 1228 mo).toInt := congrArg Int32.toInt (hk_96.fr.I' (by decide +kernel) am_31 rfl)
  have th_122 : mA S_93 mo 1210 = thinF := TH_fr hg_70 hk_96.fr am_31 (by decide +kernel) th_66
  have lo_123 := mkhid hp.2.2.1
  have lo_124 := mkhid hp.2.2.2
  clear hp
  have he_127 : (pI S_22 1201 mo).toInt = (pI S 1102 x).toInt := by omega
  have hi_128 : ((pI S 1102 x).toInt < 10 ∧ 1 ≤ v_3.toInt ∧ v_3.toInt ≤ 60 ∧ 20 ≤ v_11.toInt ∧ v_11.toInt ≤ 60 ∧ 40 ≤ v_15.toInt ∧ v_15.toInt ≤ 200 ∧ 0 ≤ v_19.toInt ∧ v_19.toInt ≤ 200) ↔ ((pI S_22 1201 mo).toInt < 10 ∧ 1 ≤ v_3.toInt ∧ v_3.toInt ≤ 60 ∧ 20 ≤ v_11.toInt ∧ v_11.toInt ≤ 60 ∧ 40 ≤ v_15.toInt ∧ v_15.toInt ≤ 200 ∧ 0 ≤ v_19.toInt ∧ v_19.toInt ≤ 200) := by rw [he_127]
  have ct_121 : CT S_93 x mo := by
    by_cases hc_125 : ((pI S 1102 x).toInt < 10 ∧ 1 ≤ v_3.toInt ∧ v_3.toInt ≤ 60 ∧ 20 ≤ v_11.toInt ∧ v_11.toInt ≤ 60 ∧ 40 ≤ v_15.toInt ∧ v_15.toInt ≤ 200 ∧ 0 ≤ v_19.toInt ∧ v_19.toInt ≤ 200)
    · exact CT_lot hG hg_70 hax ham hk_27.fr hk_96.fr td_36 (tieP hc_125 (unhid tf_56)) rfl ((unhid lo_67) hc_125) ((unhid lo_123) (hi_128.mp hc_125)) ct_43
    · have ee_126 := (unhid lo_68) hc_125
      exact CT_eq hg_70 hk_96.fr ax_30 (by decide +kernel) (by decide +kernel) ((unhid lo_124) (fun h => hc_125 (hi_128.mpr h))) (by rw [ee_126]; exact ct_43)
  have th_111 : PN S_93 x := PN_fr hg_70 ax_30 hk_96.fr (by decide +kernel) (by decide +kernel) (by decide +kernel) th_55
  have tt_130 := tie2 hi_128 (unhid tf_56) (unhid tf_114) he_127.symm
  have tt_131 := tt_130.1
  have rq_132 : rr_21.toInt = rr_92.toInt := tt_130.2
  clear tt_130
  have tz_134 : TX S_93 x mo := by
    by_cases hc_135 : ((pI S 1102 x).toInt < 10 ∧ 1 ≤ v_3.toInt ∧ v_3.toInt ≤ 60 ∧ 20 ≤ v_11.toInt ∧ v_11.toInt ≤ 60 ∧ 40 ≤ v_15.toInt ∧ v_15.toInt ≤ 200 ∧ 0 ≤ v_19.toInt ∧ v_19.toInt ≤ 200)
    · exact TX_lot hG hg_70 hax ham hk_27.fr hk_96.fr hMI td_36 (tieP hc_135 (unhid tf_56)) rfl (by omega) (by omega) ((unhid hq_46).2.2.2.1 hc_135) tx_45
    · have ee_136 := (unhid hq_46).2.2.2.2 hc_135
      exact TX_fr hg_70 hk_96.fr ax_30 am_31 (by decide +kernel) (by rw [ee_136]; exact tx_45)
  have td_129 : TD S_93 x mo := ⟨⟨q_32, th_103, th_104, by rw [th_105, th_49, th_106, th_50, td_35]⟩, by omega, by omega, ⟨u_38, th_107, th_108, by omega⟩, th_111, ct_121, th_122, tz_134⟩
  have hg_137 : GX S_93 := hk_96.1
  have rg_138 := And.intro (z_lo rr_92) (z_hi rr_92)
  refine lv_pop X.1 X.2.1 dL_law_249 rfl ?_
  refine lv_goto (tgt := 1505) X.1 X.2.1 dL_law_250 (by decide) ?_
  exact K _ _ _ _ c_23 n_24 hw hg_137 ax_99 am_100 mi_97 gr_98 td_129 la_94 oq_95 (lv_sub hl [0, 1, 2, 3, 4] rfl) (by omega) (by omega)
set_option maxHeartbeats 4000000 in
set_option maxRecDepth 100000 in
theorem lc_1 {p : Program} {l : Launch} {e : Env} {s : State} {m : MethodId} {below : List Frame} {meth : Method} {c : Code} (hst : l.stackTraces = false) {b x mo oq L : Nat} {xs : Nat → Int32} {cL : ClassId} {G : va_G} {cy : Nat → ClassId} {κ : Nat → Nat} {S : PS} {H : Heap} {locs : List Loc} {ls : Array Slot} {cc nn : Nat} {Q : State → Prop} {i : Int32} {i_z : Int} (X : Cx p c cL_law 7 s #[Value.ref b] lw_tbl RL m G cy κ (fun q : Nat => s.heap.size ≤ q)) (hX : va_X b L xs s s.heap) (hbl : b < s.heap.size) (hbA : ¬ (fun q : Nat => s.heap.size ≤ q) b) (hdc : ∀ Y ∈ DcL, va_Nw (.declares (Bundle.initS Y)) s) (hkl : Kl cL s) (hAo : (fun q : Nat => s.heap.size ≤ q) oq) (hL : L ≤ 3072) (hz_i : i.toInt = i_z) (hi0 : 0 ≤ i_z) (hi1 : i_z + 6 ≤ (L : Int)) (hw : Wd G cy (fun q : Nat => s.heap.size ≤ q) s.heap S H locs) (hG : GX S) (hax : At S x 11) (ham : At S mo 12) (hMI : MI S mo) (hGR : GR S mo) (hTD : TD S x mo) (hLA : LA cL oq H) (hoq : oq ∉ pL S) (hl : lv_has ls 7 [(4, .int i), (3, .ref oq), (2, .ref mo), (1, .ref x), (0, .ref b)]) (hcc : cc + Phc S + 20000 ≤ 601024) (hnn : nn + Phs S + 100000 ≤ 7293034) (K : ∀ (S9 : PS) (H9 : Heap) (locs9 : List Loc) (ls9 : Array Slot) (c9 n9 : Nat), Wd G cy (fun q : Nat => s.heap.size ≤ q) s.heap S9 H9 locs9 → GX S9 → At S9 x 11 → At S9 mo 12 → MI S9 mo → GR S9 mo → TD S9 x mo → LA cL oq H9 → oq ∉ pL S9 → lv_has ls9 7 [(4, .int i), (3, .ref oq), (2, .ref mo), (1, .ref x), (0, .ref b)] → c9 + Phc S9 ≤ cc + Phc S + 102 → n9 + Phs S9 ≤ nn + Phs S + 1020 → W p l e room_1 s m #[Value.ref b] below meth c H9 locs9 c9 n9 Q (F0 m 1505 ls9 [])) : W p l e room_1 s m #[Value.ref b] below meth c H locs cc nn Q (F0 m 253 ls []) := by
  refine lv_aload_n X.1 X.2.1 dL_law_253 rfl (lv_at hl 3 rfl) ?_
  refine lv_aload_n X.1 X.2.1 dL_law_254 rfl (lv_at hl 4 rfl) ?_
  refine lv_iload X.1 X.2.1 dL_law_255 (lv_at hl 0 rfl) ?_
  refine lv_iconst (v := 1) X.1 X.2.1 dL_law_257 (by decide) ?_
  refine lv_iadd X.1 X.2.1 dL_law_258 ?_
  refine lv_topi (fun v_1 ev_1 => ?_)
  have z_2 : v_1.toInt = i_z + 1 := z_add ev_1 hz_i ti_1 (by omega) (by omega)
  refine va_sld X.1 X.2.1 hX hbl hbA hw.2.2 (z_ix rfl (by omega) (by omega)) dL_law_259 ?_
  refine lv_topi (fun v_3 ev_3 => ?_)
  have rg_4 := And.intro (z_lo v_3) (z_hi v_3)
  refine lv_aload_n X.1 X.2.1 dL_law_260 rfl (lv_at hl 4 rfl) ?_
  refine lv_iload X.1 X.2.1 dL_law_261 (lv_at hl 0 rfl) ?_
  refine lv_iconst (v := 2) X.1 X.2.1 dL_law_263 (by decide) ?_
  refine lv_iadd X.1 X.2.1 dL_law_264 ?_
  refine lv_topi (fun v_5 ev_5 => ?_)
  have z_6 : v_5.toInt = i_z + 2 := z_add ev_5 hz_i ti_2 (by omega) (by omega)
  refine va_sld X.1 X.2.1 hX hbl hbA hw.2.2 (z_ix rfl (by omega) (by omega)) dL_law_265 ?_
  refine lv_topi (fun v_7 ev_7 => ?_)
  have rg_8 := And.intro (z_lo v_7) (z_hi v_7)
  refine lv_aload_n X.1 X.2.1 dL_law_266 rfl (lv_at hl 4 rfl) ?_
  refine lv_iload X.1 X.2.1 dL_law_267 (lv_at hl 0 rfl) ?_
  refine lv_iconst (v := 3) X.1 X.2.1 dL_law_269 (by decide) ?_
  refine lv_iadd X.1 X.2.1 dL_law_270 ?_
  refine lv_topi (fun v_9 ev_9 => ?_)
  have z_10 : v_9.toInt = i_z + 3 := z_add ev_9 hz_i ti_3 (by omega) (by omega)
  refine va_sld X.1 X.2.1 hX hbl hbA hw.2.2 (z_ix rfl (by omega) (by omega)) dL_law_271 ?_
  refine lv_topi (fun v_11 ev_11 => ?_)
  have rg_12 := And.intro (z_lo v_11) (z_hi v_11)
  refine k_i (rm := { frames := 3, cells := 0, slots := 0, locals := 144 }) (av := [.ref x, .int (v_3), .int (v_7), .int (v_11)]) X hw (va_runV (As := [.int (v_3), .int (v_7), .int (v_11)]) (rest := []) (cfix X) (k_X11_cocoon l G cy κ S _ x (v_3) (v_3.toInt) (v_7) (v_7.toInt) (v_11) (v_11.toInt) hG hax rfl rfl rfl) (cwV 3 X.2.2.2.1 gk_X11_cocoon rfl rfl rfl (by decide +kernel) ⟨Nat.le_of_ble_eq_true rfl, Nat.le_of_ble_eq_true rfl⟩) (pre_V X hw _ hax rfl (by decide) rfl) rfl rfl hl.1 rfl (lv_room (Nat.le_of_ble_eq_true rfl)) dL_law_272 ⟨(by show cc + 0 ≤ 601024; omega), (by show nn + 0 ≤ 7293034; omega)⟩) cc nn (by show cc + 0 ≤ cc; omega) (by show nn + 0 ≤ nn; omega) (fun rr_13 S_14 H locs hp hw hfr hnw => ?_)
  have la_15 := LA_keep hLA hoq hfr
  have oq_16 := oq_keep hLA hoq hnw
  obtain ⟨e2, hp⟩ := hp
  subst e2
  have rg_17 := And.intro (z_lo rr_13) (z_hi rr_13)
  refine lv_pop X.1 X.2.1 dL_law_275 rfl ?_
  refine lv_aload_n X.1 X.2.1 dL_law_276 rfl (lv_at hl 2 rfl) ?_
  refine lv_aload_n X.1 X.2.1 dL_law_277 rfl (lv_at hl 4 rfl) ?_
  refine lv_iload X.1 X.2.1 dL_law_278 (lv_at hl 0 rfl) ?_
  refine lv_iconst (v := 1) X.1 X.2.1 dL_law_280 (by decide) ?_
  refine lv_iadd X.1 X.2.1 dL_law_281 ?_
  refine lv_topi (fun v_18 ev_18 => ?_)
  have z_19 : v_18.toInt = i_z + 1 := z_add ev_18 hz_i ti_1 (by omega) (by omega)
  refine va_sld X.1 X.2.1 hX hbl hbA hw.2.2 (z_ix rfl (by omega) (by omega)) dL_law_282 ?_
  refine lv_topi (fun v_20 ev_20 => ?_)
  have es_21 : v_3 = v_20 := by rw [ev_3, ev_20, ev_1, ev_18]
  subst es_21
  refine lv_aload_n X.1 X.2.1 dL_law_283 rfl (lv_at hl 4 rfl) ?_
  refine lv_iload X.1 X.2.1 dL_law_284 (lv_at hl 0 rfl) ?_
  refine lv_iconst (v := 2) X.1 X.2.1 dL_law_286 (by decide) ?_
  refine lv_iadd X.1 X.2.1 dL_law_287 ?_
  refine lv_topi (fun v_22 ev_22 => ?_)
  have z_23 : v_22.toInt = i_z + 2 := z_add ev_22 hz_i ti_2 (by omega) (by omega)
  refine va_sld X.1 X.2.1 hX hbl hbA hw.2.2 (z_ix rfl (by omega) (by omega)) dL_law_288 ?_
  refine lv_topi (fun v_24 ev_24 => ?_)
  have es_25 : v_7 = v_24 := by rw [ev_7, ev_24, ev_5, ev_22]
  subst es_25
  refine lv_aload_n X.1 X.2.1 dL_law_289 rfl (lv_at hl 4 rfl) ?_
  refine lv_iload X.1 X.2.1 dL_law_290 (lv_at hl 0 rfl) ?_
  refine lv_iconst (v := 3) X.1 X.2.1 dL_law_292 (by decide) ?_
  refine lv_iadd X.1 X.2.1 dL_law_293 ?_
  refine lv_topi (fun v_26 ev_26 => ?_)
  have z_27 : v_26.toInt = i_z + 3 := z_add ev_26 hz_i ti_3 (by omega) (by omega)
  refine va_sld X.1 X.2.1 hX hbl hbA hw.2.2 (z_ix rfl (by omega) (by omega)) dL_law_294 ?_
  refine lv_topi (fun v_28 ev_28 => ?_)
  have es_29 : v_11 = v_28 := by rw [ev_11, ev_28, ev_9, ev_26]
  subst es_29
  refine k_i (rm := { frames := 5, cells := 0, slots := 0, locals := 240 }) (av := [.ref mo, .int (v_3), .int (v_7), .int (v_11)]) X hw (va_runV (As := [.int (v_3), .int (v_7), .int (v_11)]) (rest := []) (cfix X) (k_X12_cocoon l G cy κ S _ mo (v_3) (v_3.toInt) (v_7) (v_7.toInt) (v_11) (v_11.toInt) hG ham rfl rfl rfl hMI) (cwV 3 X.2.2.2.1 gk_X12_cocoon rfl rfl rfl (by decide +kernel) ⟨Nat.le_of_ble_eq_true rfl, Nat.le_of_ble_eq_true rfl⟩) (pre_V X hw _ ham rfl (by decide) rfl) rfl rfl hl.1 rfl (lv_room (Nat.le_of_ble_eq_true rfl)) dL_law_295 ⟨(by show cc + 0 ≤ 601024; omega), (by show nn + 0 ≤ 7293034; omega)⟩) cc nn (by show cc + 0 ≤ cc; omega) (by show nn + 0 ≤ nn; omega) (fun rr_30 S_31 H locs hp hw hfr hnw => ?_)
  have la_32 := LA_keep la_15 oq_16 hfr
  have oq_33 := oq_keep la_15 oq_16 hnw
  obtain ⟨hk_34, hp⟩ := hp
  have ax_37 : At S_31 x 11 := hk_34.fr.at hax
  have am_38 : At S_31 mo 12 := hk_34.fr.at ham
  have mi_35 : MI S_31 mo := MIe_free hG ham hk_34.fr (by decide +kernel) hMI
  have gr_36 : GR S_31 mo := GR_free hG ham hk_34.fr (by decide +kernel) hGR
  have ph_39 : Phc S_31 = Phc S := Ph_ok hG hk_34 (by decide +kernel) (by decide +kernel) (by decide +kernel)
  have ph_40 : Phs S_31 = Phs S := Ph_ok hG hk_34 (by decide +kernel) (by decide +kernel) (by decide +kernel)
  have td_41 : TD S_31 x mo := TD_fr hG hk_34.fr hax ham (by decide +kernel) (by decide +kernel) (by decide +kernel) (by decide +kernel) (by decide +kernel) (by decide +kernel) hTD
  have hg_42 : GX S_31 := hk_34.1
  have rg_43 := And.intro (z_lo rr_30) (z_hi rr_30)
  refine lv_pop X.1 X.2.1 dL_law_298 rfl ?_
  refine lv_goto (tgt := 1505) X.1 X.2.1 dL_law_299 (by decide) ?_
  exact K _ _ _ _ cc nn hw hg_42 ax_37 am_38 mi_35 gr_36 td_41 la_32 oq_33 (lv_sub hl [0, 1, 2, 3, 4] rfl) (by omega) (by omega)
set_option maxHeartbeats 4000000 in
set_option maxRecDepth 100000 in
theorem lc_2 {p : Program} {l : Launch} {e : Env} {s : State} {m : MethodId} {below : List Frame} {meth : Method} {c : Code} (hst : l.stackTraces = false) {b x mo oq L : Nat} {xs : Nat → Int32} {cL : ClassId} {G : va_G} {cy : Nat → ClassId} {κ : Nat → Nat} {S : PS} {H : Heap} {locs : List Loc} {ls : Array Slot} {cc nn : Nat} {Q : State → Prop} {i : Int32} {i_z : Int} (X : Cx p c cL_law 7 s #[Value.ref b] lw_tbl RL m G cy κ (fun q : Nat => s.heap.size ≤ q)) (hX : va_X b L xs s s.heap) (hbl : b < s.heap.size) (hbA : ¬ (fun q : Nat => s.heap.size ≤ q) b) (hdc : ∀ Y ∈ DcL, va_Nw (.declares (Bundle.initS Y)) s) (hkl : Kl cL s) (hAo : (fun q : Nat => s.heap.size ≤ q) oq) (hL : L ≤ 3072) (hz_i : i.toInt = i_z) (hi0 : 0 ≤ i_z) (hi1 : i_z + 6 ≤ (L : Int)) (hw : Wd G cy (fun q : Nat => s.heap.size ≤ q) s.heap S H locs) (hG : GX S) (hax : At S x 11) (ham : At S mo 12) (hMI : MI S mo) (hGR : GR S mo) (hTD : TD S x mo) (hLA : LA cL oq H) (hoq : oq ∉ pL S) (hl : lv_has ls 7 [(4, .int i), (3, .ref oq), (2, .ref mo), (1, .ref x), (0, .ref b)]) (hcc : cc + Phc S + 20000 ≤ 601024) (hnn : nn + Phs S + 100000 ≤ 7293034) (K : ∀ (S9 : PS) (H9 : Heap) (locs9 : List Loc) (ls9 : Array Slot) (c9 n9 : Nat), Wd G cy (fun q : Nat => s.heap.size ≤ q) s.heap S9 H9 locs9 → GX S9 → At S9 x 11 → At S9 mo 12 → MI S9 mo → GR S9 mo → TD S9 x mo → LA cL oq H9 → oq ∉ pL S9 → lv_has ls9 7 [(4, .int i), (3, .ref oq), (2, .ref mo), (1, .ref x), (0, .ref b)] → c9 + Phc S9 ≤ cc + Phc S + 102 → n9 + Phs S9 ≤ nn + Phs S + 1020 → W p l e room_1 s m #[Value.ref b] below meth c H9 locs9 c9 n9 Q (F0 m 1505 ls9 [])) : W p l e room_1 s m #[Value.ref b] below meth c H locs cc nn Q (F0 m 302 ls []) := by
  refine lv_aload_n X.1 X.2.1 dL_law_302 rfl (lv_at hl 3 rfl) ?_
  refine lv_aload_n X.1 X.2.1 dL_law_303 rfl (lv_at hl 4 rfl) ?_
  refine lv_iload X.1 X.2.1 dL_law_304 (lv_at hl 0 rfl) ?_
  refine lv_iconst (v := 1) X.1 X.2.1 dL_law_306 (by decide) ?_
  refine lv_iadd X.1 X.2.1 dL_law_307 ?_
  refine lv_topi (fun v_1 ev_1 => ?_)
  have z_2 : v_1.toInt = i_z + 1 := z_add ev_1 hz_i ti_1 (by omega) (by omega)
  refine va_sld X.1 X.2.1 hX hbl hbA hw.2.2 (z_ix rfl (by omega) (by omega)) dL_law_308 ?_
  refine lv_topi (fun v_3 ev_3 => ?_)
  have rg_4 := And.intro (z_lo v_3) (z_hi v_3)
  refine lv_aload_n X.1 X.2.1 dL_law_309 rfl (lv_at hl 4 rfl) ?_
  refine lv_iload X.1 X.2.1 dL_law_310 (lv_at hl 0 rfl) ?_
  refine lv_iconst (v := 2) X.1 X.2.1 dL_law_312 (by decide) ?_
  refine lv_iadd X.1 X.2.1 dL_law_313 ?_
  refine lv_topi (fun v_5 ev_5 => ?_)
  have z_6 : v_5.toInt = i_z + 2 := z_add ev_5 hz_i ti_2 (by omega) (by omega)
  refine va_sld X.1 X.2.1 hX hbl hbA hw.2.2 (z_ix rfl (by omega) (by omega)) dL_law_314 ?_
  refine lv_topi (fun v_7 ev_7 => ?_)
  have rg_8 := And.intro (z_lo v_7) (z_hi v_7)
  refine lv_aload_n X.1 X.2.1 dL_law_315 rfl (lv_at hl 4 rfl) ?_
  refine lv_iload X.1 X.2.1 dL_law_316 (lv_at hl 0 rfl) ?_
  refine lv_iconst (v := 3) X.1 X.2.1 dL_law_318 (by decide) ?_
  refine lv_iadd X.1 X.2.1 dL_law_319 ?_
  refine lv_topi (fun v_9 ev_9 => ?_)
  have z_10 : v_9.toInt = i_z + 3 := z_add ev_9 hz_i ti_3 (by omega) (by omega)
  refine va_sld X.1 X.2.1 hX hbl hbA hw.2.2 (z_ix rfl (by omega) (by omega)) dL_law_320 ?_
  refine lv_topi (fun v_11 ev_11 => ?_)
  have rg_12 := And.intro (z_lo v_11) (z_hi v_11)
  refine lv_aload_n X.1 X.2.1 dL_law_321 rfl (lv_at hl 1 rfl) ?_
  refine k_out (rm := { frames := 13, cells := 1, slots := 6, locals := 624 }) (av := [.ref x, .int (v_3), .int (v_7), .int (v_11), .ref oq]) (post := fun (r : Int32) (S9 : PS) => S = S9) X hw hAo (vx_runSW (As := [.ref x, .int (v_3), .int (v_7), .int (v_11), .ref oq]) (rest := []) (cfix X) (k_L_fineness l hst G cy κ S _ x (v_3) (v_7) (v_11) oq cL hG hax hoq) (vx_cwSW 5 X.2.2.2.1 gk_L_fineness rfl rfl rfl (by decide +kernel) ⟨Nat.le_of_ble_eq_true rfl, Nat.le_of_ble_eq_true rfl⟩) (pre_SO X hw hdc hkl hLA hAo _) rfl rfl hl.1 rfl (lv_room (Nat.le_of_ble_eq_true rfl)) dL_law_322 ⟨(by show cc + 1 ≤ 601024; omega), (by show nn + 6 ≤ 7293034; omega)⟩) (fun _ _ h => h) (cc + 1) (nn + 6) (Nat.le_refl _) (Nat.le_refl _) (fun rr_13 H locs hw hLA => ?_)
  have rg_14 := And.intro (z_lo rr_13) (z_hi rr_13)
  refine lv_istore (lv' := [(5, .int (rr_13)), (4, .int (i)), (3, .ref oq), (2, .ref mo), (1, .ref x), (0, .ref b)]) X.1 X.2.1 dL_law_325 hl (by decide) rfl (fun ls hl => ?_)
  refine lv_aload_n X.1 X.2.1 dL_law_327 rfl (lv_at hl 3 rfl) ?_
  refine lv_aload_n X.1 X.2.1 dL_law_328 rfl (lv_at hl 5 rfl) ?_
  refine lv_iload X.1 X.2.1 dL_law_329 (lv_at hl 1 rfl) ?_
  refine lv_iconst (v := 1) X.1 X.2.1 dL_law_331 (by decide) ?_
  refine lv_iadd X.1 X.2.1 dL_law_332 ?_
  refine lv_topi (fun v_15 ev_15 => ?_)
  have z_16 : v_15.toInt = i_z + 1 := z_add ev_15 hz_i ti_1 (by omega) (by omega)
  refine va_sld X.1 X.2.1 hX hbl hbA hw.2.2 (z_ix rfl (by omega) (by omega)) dL_law_333 ?_
  refine lv_topi (fun v_17 ev_17 => ?_)
  have es_18 : v_3 = v_17 := by rw [ev_3, ev_17, ev_1, ev_15]
  subst es_18
  refine lv_aload_n X.1 X.2.1 dL_law_334 rfl (lv_at hl 5 rfl) ?_
  refine lv_iload X.1 X.2.1 dL_law_335 (lv_at hl 1 rfl) ?_
  refine lv_iconst (v := 2) X.1 X.2.1 dL_law_337 (by decide) ?_
  refine lv_iadd X.1 X.2.1 dL_law_338 ?_
  refine lv_topi (fun v_19 ev_19 => ?_)
  have z_20 : v_19.toInt = i_z + 2 := z_add ev_19 hz_i ti_2 (by omega) (by omega)
  refine va_sld X.1 X.2.1 hX hbl hbA hw.2.2 (z_ix rfl (by omega) (by omega)) dL_law_339 ?_
  refine lv_topi (fun v_21 ev_21 => ?_)
  have es_22 : v_7 = v_21 := by rw [ev_7, ev_21, ev_5, ev_19]
  subst es_22
  refine lv_aload_n X.1 X.2.1 dL_law_340 rfl (lv_at hl 5 rfl) ?_
  refine lv_iload X.1 X.2.1 dL_law_341 (lv_at hl 1 rfl) ?_
  refine lv_iconst (v := 3) X.1 X.2.1 dL_law_343 (by decide) ?_
  refine lv_iadd X.1 X.2.1 dL_law_344 ?_
  refine lv_topi (fun v_23 ev_23 => ?_)
  have z_24 : v_23.toInt = i_z + 3 := z_add ev_23 hz_i ti_3 (by omega) (by omega)
  refine va_sld X.1 X.2.1 hX hbl hbA hw.2.2 (z_ix rfl (by omega) (by omega)) dL_law_345 ?_
  refine lv_topi (fun v_25 ev_25 => ?_)
  have es_26 : v_11 = v_25 := by rw [ev_11, ev_25, ev_9, ev_23]
  subst es_26
  refine k_i (rm := { frames := 4, cells := 0, slots := 0, locals := 192 }) (av := [.ref mo, .int (v_3), .int (v_7), .int (v_11)]) X hw (va_runV (As := [.int (v_3), .int (v_7), .int (v_11)]) (rest := []) (cfix X) (k_X12_fineness2 l G cy κ S _ mo (v_3) (v_3.toInt) (v_7) (v_7.toInt) (v_11) (v_11.toInt) hG ham rfl rfl rfl hMI) (cwV 3 X.2.2.2.1 gk_X12_fineness rfl rfl rfl (by decide +kernel) ⟨Nat.le_of_ble_eq_true rfl, Nat.le_of_ble_eq_true rfl⟩) (pre_V X hw _ ham rfl (by decide) rfl) rfl rfl hl.1 rfl (lv_room (Nat.le_of_ble_eq_true rfl)) dL_law_346 ⟨(by show (cc + 1) + 0 ≤ 601024; omega), (by show (nn + 6) + 0 ≤ 7293034; omega)⟩) (cc + 1) (nn + 6) (by show (cc + 1) + 0 ≤ (cc + 1); omega) (by show (nn + 6) + 0 ≤ (nn + 6); omega) (fun rr_27 S_28 H locs hp hw hfr hnw => ?_)
  have la_29 := LA_keep hLA hoq hfr
  have oq_30 := oq_keep hLA hoq hnw
  obtain ⟨hk_31, hp⟩ := hp
  have ax_34 : At S_28 x 11 := hk_31.fr.at hax
  have am_35 : At S_28 mo 12 := hk_31.fr.at ham
  have mi_32 : MI S_28 mo := MIe_free hG ham hk_31.fr (by decide +kernel) hMI
  have gr_33 : GR S_28 mo := GR_free hG ham hk_31.fr (by decide +kernel) hGR
  have ph_36 : Phc S_28 = Phc S := Ph_ok hG hk_31 (by decide +kernel) (by decide +kernel) (by decide +kernel)
  have ph_37 : Phs S_28 = Phs S := Ph_ok hG hk_31 (by decide +kernel) (by decide +kernel) (by decide +kernel)
  have td_38 : TD S_28 x mo := TD_fr hG hk_31.fr hax ham (by decide +kernel) (by decide +kernel) (by decide +kernel) (by decide +kernel) (by decide +kernel) (by decide +kernel) hTD
  have hg_39 : GX S_28 := hk_31.1
  have rg_40 := And.intro (z_lo rr_27) (z_hi rr_27)
  refine lv_istore (lv' := [(6, .int (rr_27)), (5, .int (rr_13)), (4, .int (i)), (3, .ref oq), (2, .ref mo), (1, .ref x), (0, .ref b)]) X.1 X.2.1 dL_law_349 hl (by decide) rfl (fun ls hl => ?_)
  refine lv_goto (tgt := 1505) X.1 X.2.1 dL_law_351 (by decide) ?_
  exact K _ _ _ _ (cc + 1) (nn + 6) hw hg_39 ax_34 am_35 mi_32 gr_33 td_38 la_29 oq_30 (lv_sub hl [2, 3, 4, 5, 6] rfl) (by omega) (by omega)
set_option maxHeartbeats 4000000 in
set_option maxRecDepth 100000 in
theorem lc_3 {p : Program} {l : Launch} {e : Env} {s : State} {m : MethodId} {below : List Frame} {meth : Method} {c : Code} (hst : l.stackTraces = false) {b x mo oq L : Nat} {xs : Nat → Int32} {cL : ClassId} {G : va_G} {cy : Nat → ClassId} {κ : Nat → Nat} {S : PS} {H : Heap} {locs : List Loc} {ls : Array Slot} {cc nn : Nat} {Q : State → Prop} {i : Int32} {i_z : Int} (X : Cx p c cL_law 7 s #[Value.ref b] lw_tbl RL m G cy κ (fun q : Nat => s.heap.size ≤ q)) (hX : va_X b L xs s s.heap) (hbl : b < s.heap.size) (hbA : ¬ (fun q : Nat => s.heap.size ≤ q) b) (hdc : ∀ Y ∈ DcL, va_Nw (.declares (Bundle.initS Y)) s) (hkl : Kl cL s) (hAo : (fun q : Nat => s.heap.size ≤ q) oq) (hL : L ≤ 3072) (hz_i : i.toInt = i_z) (hi0 : 0 ≤ i_z) (hi1 : i_z + 6 ≤ (L : Int)) (hw : Wd G cy (fun q : Nat => s.heap.size ≤ q) s.heap S H locs) (hG : GX S) (hax : At S x 11) (ham : At S mo 12) (hMI : MI S mo) (hGR : GR S mo) (hTD : TD S x mo) (hLA : LA cL oq H) (hoq : oq ∉ pL S) (hl : lv_has ls 7 [(4, .int i), (3, .ref oq), (2, .ref mo), (1, .ref x), (0, .ref b)]) (hcc : cc + Phc S + 20000 ≤ 601024) (hnn : nn + Phs S + 100000 ≤ 7293034) (K : ∀ (S9 : PS) (H9 : Heap) (locs9 : List Loc) (ls9 : Array Slot) (c9 n9 : Nat), Wd G cy (fun q : Nat => s.heap.size ≤ q) s.heap S9 H9 locs9 → GX S9 → At S9 x 11 → At S9 mo 12 → MI S9 mo → GR S9 mo → TD S9 x mo → LA cL oq H9 → oq ∉ pL S9 → lv_has ls9 7 [(4, .int i), (3, .ref oq), (2, .ref mo), (1, .ref x), (0, .ref b)] → c9 + Phc S9 ≤ cc + Phc S + 102 → n9 + Phs S9 ≤ nn + Phs S + 1020 → W p l e room_1 s m #[Value.ref b] below meth c H9 locs9 c9 n9 Q (F0 m 1505 ls9 [])) : W p l e room_1 s m #[Value.ref b] below meth c H locs cc nn Q (F0 m 354 ls []) := by
  refine lv_aload_n X.1 X.2.1 dL_law_354 rfl (lv_at hl 3 rfl) ?_
  refine lv_aload_n X.1 X.2.1 dL_law_355 rfl (lv_at hl 4 rfl) ?_
  refine lv_iload X.1 X.2.1 dL_law_356 (lv_at hl 0 rfl) ?_
  refine lv_iconst (v := 1) X.1 X.2.1 dL_law_358 (by decide) ?_
  refine lv_iadd X.1 X.2.1 dL_law_359 ?_
  refine lv_topi (fun v_1 ev_1 => ?_)
  have z_2 : v_1.toInt = i_z + 1 := z_add ev_1 hz_i ti_1 (by omega) (by omega)
  refine va_sld X.1 X.2.1 hX hbl hbA hw.2.2 (z_ix rfl (by omega) (by omega)) dL_law_360 ?_
  refine lv_topi (fun v_3 ev_3 => ?_)
  have rg_4 := And.intro (z_lo v_3) (z_hi v_3)
  refine lv_aload_n X.1 X.2.1 dL_law_361 rfl (lv_at hl 4 rfl) ?_
  refine lv_iload X.1 X.2.1 dL_law_362 (lv_at hl 0 rfl) ?_
  refine lv_iconst (v := 2) X.1 X.2.1 dL_law_364 (by decide) ?_
  refine lv_iadd X.1 X.2.1 dL_law_365 ?_
  refine lv_topi (fun v_5 ev_5 => ?_)
  have z_6 : v_5.toInt = i_z + 2 := z_add ev_5 hz_i ti_2 (by omega) (by omega)
  refine va_sld X.1 X.2.1 hX hbl hbA hw.2.2 (z_ix rfl (by omega) (by omega)) dL_law_366 ?_
  refine lv_topi (fun v_7 ev_7 => ?_)
  have rg_8 := And.intro (z_lo v_7) (z_hi v_7)
  refine lv_aload_n X.1 X.2.1 dL_law_367 rfl (lv_at hl 4 rfl) ?_
  refine lv_iload X.1 X.2.1 dL_law_368 (lv_at hl 0 rfl) ?_
  refine lv_iconst (v := 3) X.1 X.2.1 dL_law_370 (by decide) ?_
  refine lv_iadd X.1 X.2.1 dL_law_371 ?_
  refine lv_topi (fun v_9 ev_9 => ?_)
  have z_10 : v_9.toInt = i_z + 3 := z_add ev_9 hz_i ti_3 (by omega) (by omega)
  refine va_sld X.1 X.2.1 hX hbl hbA hw.2.2 (z_ix rfl (by omega) (by omega)) dL_law_372 ?_
  refine lv_topi (fun v_11 ev_11 => ?_)
  have rg_12 := And.intro (z_lo v_11) (z_hi v_11)
  refine k_i (rm := { frames := 4, cells := 0, slots := 0, locals := 192 }) (av := [.ref x, .int (v_3), .int (v_7), .int (v_11)]) X hw (va_runV (As := [.int (v_3), .int (v_7), .int (v_11)]) (rest := []) (cfix X) (k_X11_test3 l G cy κ S _ x (v_3) (v_3.toInt) (v_7) (v_7.toInt) (v_11) (v_11.toInt) hG hax rfl rfl rfl) (cwV 3 X.2.2.2.1 gk_X11_test rfl rfl rfl (by decide +kernel) ⟨Nat.le_of_ble_eq_true rfl, Nat.le_of_ble_eq_true rfl⟩) (pre_V X hw _ hax rfl (by decide) rfl) rfl rfl hl.1 rfl (lv_room (Nat.le_of_ble_eq_true rfl)) dL_law_373 ⟨(by show cc + 0 ≤ 601024; omega), (by show nn + 0 ≤ 7293034; omega)⟩) cc nn (by show cc + 0 ≤ cc; omega) (by show nn + 0 ≤ nn; omega) (fun rr_13 S_14 H locs hp hw hfr hnw => ?_)
  have la_15 := LA_keep hLA hoq hfr
  have oq_16 := oq_keep hLA hoq hnw
  obtain ⟨hk_17, hp⟩ := hp
  have ax_20 : At S_14 x 11 := hk_17.fr.at hax
  have am_21 : At S_14 mo 12 := hk_17.fr.at ham
  have mi_18 : MI S_14 mo := MIe_free hG ham hk_17.fr (by decide +kernel) hMI
  have gr_19 : GR S_14 mo := GR_free hG ham hk_17.fr (by decide +kernel) hGR
  have ph_22 : Phc S_14 = Phc S := Ph_ok hG hk_17 (by decide +kernel) (by decide +kernel) (by decide +kernel)
  have ph_23 : Phs S_14 = Phs S := Ph_ok hG hk_17 (by decide +kernel) (by decide +kernel) (by decide +kernel)
  have td_24 : TD S_14 x mo := TD_fr hG hk_17.fr hax ham (by decide +kernel) (by decide +kernel) (by decide +kernel) (by decide +kernel) (by decide +kernel) (by decide +kernel) hTD
  have hg_25 : GX S_14 := hk_17.1
  have rg_26 := And.intro (z_lo rr_13) (z_hi rr_13)
  refine lv_pop X.1 X.2.1 dL_law_376 rfl ?_
  refine lv_aload_n X.1 X.2.1 dL_law_377 rfl (lv_at hl 2 rfl) ?_
  refine lv_aload_n X.1 X.2.1 dL_law_378 rfl (lv_at hl 4 rfl) ?_
  refine lv_iload X.1 X.2.1 dL_law_379 (lv_at hl 0 rfl) ?_
  refine lv_iconst (v := 1) X.1 X.2.1 dL_law_381 (by decide) ?_
  refine lv_iadd X.1 X.2.1 dL_law_382 ?_
  refine lv_topi (fun v_27 ev_27 => ?_)
  have z_28 : v_27.toInt = i_z + 1 := z_add ev_27 hz_i ti_1 (by omega) (by omega)
  refine va_sld X.1 X.2.1 hX hbl hbA hw.2.2 (z_ix rfl (by omega) (by omega)) dL_law_383 ?_
  refine lv_topi (fun v_29 ev_29 => ?_)
  have es_30 : v_3 = v_29 := by rw [ev_3, ev_29, ev_1, ev_27]
  subst es_30
  refine lv_aload_n X.1 X.2.1 dL_law_384 rfl (lv_at hl 4 rfl) ?_
  refine lv_iload X.1 X.2.1 dL_law_385 (lv_at hl 0 rfl) ?_
  refine lv_iconst (v := 2) X.1 X.2.1 dL_law_387 (by decide) ?_
  refine lv_iadd X.1 X.2.1 dL_law_388 ?_
  refine lv_topi (fun v_31 ev_31 => ?_)
  have z_32 : v_31.toInt = i_z + 2 := z_add ev_31 hz_i ti_2 (by omega) (by omega)
  refine va_sld X.1 X.2.1 hX hbl hbA hw.2.2 (z_ix rfl (by omega) (by omega)) dL_law_389 ?_
  refine lv_topi (fun v_33 ev_33 => ?_)
  have es_34 : v_7 = v_33 := by rw [ev_7, ev_33, ev_5, ev_31]
  subst es_34
  refine lv_aload_n X.1 X.2.1 dL_law_390 rfl (lv_at hl 4 rfl) ?_
  refine lv_iload X.1 X.2.1 dL_law_391 (lv_at hl 0 rfl) ?_
  refine lv_iconst (v := 3) X.1 X.2.1 dL_law_393 (by decide) ?_
  refine lv_iadd X.1 X.2.1 dL_law_394 ?_
  refine lv_topi (fun v_35 ev_35 => ?_)
  have z_36 : v_35.toInt = i_z + 3 := z_add ev_35 hz_i ti_3 (by omega) (by omega)
  refine va_sld X.1 X.2.1 hX hbl hbA hw.2.2 (z_ix rfl (by omega) (by omega)) dL_law_395 ?_
  refine lv_topi (fun v_37 ev_37 => ?_)
  have es_38 : v_11 = v_37 := by rw [ev_11, ev_37, ev_9, ev_35]
  subst es_38
  refine k_gi2 (kc := 1) (ks := 60) (rm := { frames := 3, cells := Phc S_14 + 1, slots := Phs S_14 + 60, locals := 144 }) (av := [.ref mo, .int (v_3), .int (v_7), .int (v_11)]) X hw (va_runV (As := [.int (v_3), .int (v_7), .int (v_11)]) (rest := []) (cfix X) (k_X12_test3 l G cy κ S_14 _ _ mo (v_3) (v_3.toInt) (v_7) (v_7.toInt) (v_11) (v_11.toInt) hg_25 am_21 rfl rfl rfl) (cwV 3 X.2.2.2.1 gk_X12_test rfl rfl rfl (by decide +kernel) ⟨Nat.le_of_ble_eq_true rfl, Nat.le_of_ble_eq_true rfl⟩) (pre_gV X hw _ am_21 rfl (by decide) rfl) rfl rfl hl.1 rfl (lv_room (Nat.le_of_ble_eq_true rfl)) dL_law_396 ⟨(by show cc + (Phc S_14 + 1) ≤ 601024; omega), (by show nn + (Phs S_14 + 60) ≤ 7293034; omega)⟩) (fun rr_39 S_40 H locs c_41 n_42 hc_41 hn_42 hp hw hfr hnw => ?_)
  have la_43 := LA_keep la_15 oq_16 hfr
  have oq_44 := oq_keep la_15 oq_16 hnw
  obtain ⟨hk_45, hp⟩ := hp
  have ax_48 : At S_40 x 11 := hk_45.fr.at ax_20
  have am_49 : At S_40 mo 12 := hk_45.fr.at am_21
  have mi_46 : MI S_40 mo := MIe_free hg_25 am_21 hk_45.fr (by decide +kernel) mi_18
  have gr_47 : GR S_40 mo := GR_free hg_25 am_21 hk_45.fr (by decide +kernel) gr_19
  have td_50 : TD S_40 x mo := TD_fr hg_25 hk_45.fr ax_20 am_21 (by decide +kernel) (by decide +kernel) (by decide +kernel) (by decide +kernel) (by decide +kernel) (by decide +kernel) td_24
  have hg_51 : GX S_40 := hk_45.1
  have rg_52 := And.intro (z_lo rr_39) (z_hi rr_39)
  refine lv_pop X.1 X.2.1 dL_law_399 rfl ?_
  refine lv_goto (tgt := 1505) X.1 X.2.1 dL_law_400 (by decide) ?_
  exact K _ _ _ _ c_41 n_42 hw hg_51 ax_48 am_49 mi_46 gr_47 td_50 la_43 oq_44 (lv_sub hl [0, 1, 2, 3, 4] rfl) (by omega) (by omega)
set_option maxHeartbeats 4000000 in
set_option maxRecDepth 100000 in
theorem lc_4 {p : Program} {l : Launch} {e : Env} {s : State} {m : MethodId} {below : List Frame} {meth : Method} {c : Code} (hst : l.stackTraces = false) {b x mo oq L : Nat} {xs : Nat → Int32} {cL : ClassId} {G : va_G} {cy : Nat → ClassId} {κ : Nat → Nat} {S : PS} {H : Heap} {locs : List Loc} {ls : Array Slot} {cc nn : Nat} {Q : State → Prop} {i : Int32} {i_z : Int} (X : Cx p c cL_law 7 s #[Value.ref b] lw_tbl RL m G cy κ (fun q : Nat => s.heap.size ≤ q)) (hX : va_X b L xs s s.heap) (hbl : b < s.heap.size) (hbA : ¬ (fun q : Nat => s.heap.size ≤ q) b) (hdc : ∀ Y ∈ DcL, va_Nw (.declares (Bundle.initS Y)) s) (hkl : Kl cL s) (hAo : (fun q : Nat => s.heap.size ≤ q) oq) (hL : L ≤ 3072) (hz_i : i.toInt = i_z) (hi0 : 0 ≤ i_z) (hi1 : i_z + 6 ≤ (L : Int)) (hw : Wd G cy (fun q : Nat => s.heap.size ≤ q) s.heap S H locs) (hG : GX S) (hax : At S x 11) (ham : At S mo 12) (hMI : MI S mo) (hGR : GR S mo) (hTD : TD S x mo) (hLA : LA cL oq H) (hoq : oq ∉ pL S) (hl : lv_has ls 7 [(4, .int i), (3, .ref oq), (2, .ref mo), (1, .ref x), (0, .ref b)]) (hcc : cc + Phc S + 20000 ≤ 601024) (hnn : nn + Phs S + 100000 ≤ 7293034) (K : ∀ (S9 : PS) (H9 : Heap) (locs9 : List Loc) (ls9 : Array Slot) (c9 n9 : Nat), Wd G cy (fun q : Nat => s.heap.size ≤ q) s.heap S9 H9 locs9 → GX S9 → At S9 x 11 → At S9 mo 12 → MI S9 mo → GR S9 mo → TD S9 x mo → LA cL oq H9 → oq ∉ pL S9 → lv_has ls9 7 [(4, .int i), (3, .ref oq), (2, .ref mo), (1, .ref x), (0, .ref b)] → c9 + Phc S9 ≤ cc + Phc S + 102 → n9 + Phs S9 ≤ nn + Phs S + 1020 → W p l e room_1 s m #[Value.ref b] below meth c H9 locs9 c9 n9 Q (F0 m 1505 ls9 [])) : W p l e room_1 s m #[Value.ref b] below meth c H locs cc nn Q (F0 m 403 ls []) := by
  refine lv_aload_n X.1 X.2.1 dL_law_403 rfl (lv_at hl 3 rfl) ?_
  refine lv_aload_n X.1 X.2.1 dL_law_404 rfl (lv_at hl 4 rfl) ?_
  refine lv_iload X.1 X.2.1 dL_law_405 (lv_at hl 0 rfl) ?_
  refine lv_iconst (v := 1) X.1 X.2.1 dL_law_407 (by decide) ?_
  refine lv_iadd X.1 X.2.1 dL_law_408 ?_
  refine lv_topi (fun v_1 ev_1 => ?_)
  have z_2 : v_1.toInt = i_z + 1 := z_add ev_1 hz_i ti_1 (by omega) (by omega)
  refine va_sld X.1 X.2.1 hX hbl hbA hw.2.2 (z_ix rfl (by omega) (by omega)) dL_law_409 ?_
  refine lv_topi (fun v_3 ev_3 => ?_)
  have rg_4 := And.intro (z_lo v_3) (z_hi v_3)
  refine lv_aload_n X.1 X.2.1 dL_law_410 rfl (lv_at hl 4 rfl) ?_
  refine lv_iload X.1 X.2.1 dL_law_411 (lv_at hl 0 rfl) ?_
  refine lv_iconst (v := 2) X.1 X.2.1 dL_law_413 (by decide) ?_
  refine lv_iadd X.1 X.2.1 dL_law_414 ?_
  refine lv_topi (fun v_5 ev_5 => ?_)
  have z_6 : v_5.toInt = i_z + 2 := z_add ev_5 hz_i ti_2 (by omega) (by omega)
  refine va_sld X.1 X.2.1 hX hbl hbA hw.2.2 (z_ix rfl (by omega) (by omega)) dL_law_415 ?_
  refine lv_topi (fun v_7 ev_7 => ?_)
  have rg_8 := And.intro (z_lo v_7) (z_hi v_7)
  refine k_gi2 (kc := 0) (ks := 0) (rm := { frames := 4, cells := Phc S + 14400, slots := Phs S + 46000, locals := 192 }) (av := [.ref x, .int (v_3), .int (v_7)]) X hw (va_runV (As := [.int (v_3), .int (v_7)]) (rest := []) (cfix X) (k_X11_pot6 l G cy κ S _ _ x (v_3) (v_3.toInt) (v_7) (v_7.toInt) hG hax rfl rfl) (cwV 2 X.2.2.2.1 gk_X11_pot rfl rfl rfl (by decide +kernel) ⟨Nat.le_of_ble_eq_true rfl, Nat.le_of_ble_eq_true rfl⟩) (pre_gV X hw _ hax rfl (by decide) rfl) rfl rfl hl.1 rfl (lv_room (Nat.le_of_ble_eq_true rfl)) dL_law_416 ⟨(by show cc + (Phc S + 14400) ≤ 601024; omega), (by show nn + (Phs S + 46000) ≤ 7293034; omega)⟩) (fun rr_9 S_10 H locs c_11 n_12 hc_11 hn_12 hp hw hfr hnw => ?_)
  have la_13 := LA_keep hLA hoq hfr
  have oq_14 := oq_keep hLA hoq hnw
  obtain ⟨hk_15, hp⟩ := hp
  have ax_18 : At S_10 x 11 := hk_15.fr.at hax
  have am_19 : At S_10 mo 12 := hk_15.fr.at ham
  have mi_16 : MI S_10 mo := MIe_free hG ham hk_15.fr (by decide +kernel) hMI
  have gr_17 : GR S_10 mo := GR_free hG ham hk_15.fr (by decide +kernel) hGR
  obtain ⟨⟨q_20, td_21, td_22, td_23⟩, td_24, td_25, ⟨u_26, td_27, td_28, td_29⟩, pn_30, ct_31, th_32, tx_33⟩ := hTD
  have hq_34 := mkhid hp
  have th_35 : pR S_10 1107 x = some q_20 := hk_15.fr.R' (by decide +kernel) hax td_21
  have th_36 : At S_10 q_20 8 := hk_15.fr.at td_22
  have th_39 : pR S_10 1105 x = some u_26 := hk_15.fr.R' (by decide +kernel) hax td_27
  have th_40 : At S_10 u_26 10 := hk_15.fr.at td_28
  have th_37 : pI S_10 801 q_20 = pI S 801 q_20 := hk_15.fr.I' (by decide +kernel) td_22 rfl
  have th_38 : pI S_10 1245 mo = pI S 1245 mo := hk_15.fr.I' (by decide +kernel) ham rfl
  have tf_44 : (pI S_10 1102 x).toInt = (pI S 1102 x).toInt := congrArg Int32.toInt (hk_15.fr.I' (by decide +kernel) hax rfl)
  have tf_45 := mkhid (hp.2.2.1)
  have tf_46 : (pI S_10 1201 mo).toInt = (pI S 1201 mo).toInt := congrArg Int32.toInt (hk_15.fr.I' (by decide +kernel) ham rfl)
  have tf_47 : (pI S_10 1211 mo).toInt = (pI S 1211 mo).toInt := congrArg Int32.toInt (hk_15.fr.I' (by decide +kernel) ham rfl)
  have tf_48 : (pI S_10 1000 u_26).toInt = (pI S 1000 u_26).toInt := congrArg Int32.toInt (hk_15.fr.I' (by decide +kernel) td_28 rfl)
  have tf_49 : (pI S_10 1000 u_26).toInt = (pI S 1000 u_26).toInt := congrArg Int32.toInt (hk_15.fr.I' (by decide +kernel) td_28 rfl)
  have tf_50 : (pI S_10 1000 u_26).toInt = (pI S 1000 u_26).toInt := congrArg Int32.toInt (hk_15.fr.I' (by decide +kernel) td_28 rfl)
  have tf_51 : (pI S_10 1228 mo).toInt = (pI S 1228 mo).toInt := congrArg Int32.toInt (hk_15.fr.I' (by decide +kernel) ham rfl)
  have tf_52 : (pI S_10 1228 mo).toInt = (pI S 1228 mo).toInt := congrArg Int32.toInt (hk_15.fr.I' (by decide +kernel) ham rfl)
  have th_54 : mA S_10 mo 1210 = thinF := TH_fr hG hk_15.fr ham (by decide +kernel) th_32
  have ct_53 : CT S_10 x mo := CT_eq hG hk_15.fr hax (by decide +kernel) (by decide +kernel) (S12_fr hG hk_15.fr ham (by decide +kernel)) ct_31
  have th_43 : PN S_10 x := hp.2.2.2.1 pn_30
  clear hp
  have hg_56 : GX S_10 := hk_15.1
  have rg_57 := And.intro (z_lo rr_9) (z_hi rr_9)
  refine lv_pop X.1 X.2.1 dL_law_419 rfl ?_
  refine lv_aload_n X.1 X.2.1 dL_law_420 rfl (lv_at hl 2 rfl) ?_
  refine lv_aload_n X.1 X.2.1 dL_law_421 rfl (lv_at hl 4 rfl) ?_
  refine lv_iload X.1 X.2.1 dL_law_422 (lv_at hl 0 rfl) ?_
  refine lv_iconst (v := 1) X.1 X.2.1 dL_law_424 (by decide) ?_
  refine lv_iadd X.1 X.2.1 dL_law_425 ?_
  refine lv_topi (fun v_58 ev_58 => ?_)
  have z_59 : v_58.toInt = i_z + 1 := z_add ev_58 hz_i ti_1 (by omega) (by omega)
  refine va_sld X.1 X.2.1 hX hbl hbA hw.2.2 (z_ix rfl (by omega) (by omega)) dL_law_426 ?_
  refine lv_topi (fun v_60 ev_60 => ?_)
  have es_61 : v_3 = v_60 := by rw [ev_3, ev_60, ev_1, ev_58]
  subst es_61
  refine lv_aload_n X.1 X.2.1 dL_law_427 rfl (lv_at hl 4 rfl) ?_
  refine lv_iload X.1 X.2.1 dL_law_428 (lv_at hl 0 rfl) ?_
  refine lv_iconst (v := 2) X.1 X.2.1 dL_law_430 (by decide) ?_
  refine lv_iadd X.1 X.2.1 dL_law_431 ?_
  refine lv_topi (fun v_62 ev_62 => ?_)
  have z_63 : v_62.toInt = i_z + 2 := z_add ev_62 hz_i ti_2 (by omega) (by omega)
  refine va_sld X.1 X.2.1 hX hbl hbA hw.2.2 (z_ix rfl (by omega) (by omega)) dL_law_432 ?_
  refine lv_topi (fun v_64 ev_64 => ?_)
  have es_65 : v_7 = v_64 := by rw [ev_7, ev_64, ev_5, ev_62]
  subst es_65
  refine k_i (rm := { frames := 2, cells := 0, slots := 0, locals := 96 }) (av := [.ref mo, .int (v_3), .int (v_7)]) X hw (va_runV (As := [.int (v_3), .int (v_7)]) (rest := []) (cfix X) (k_X12_pot6 l G cy κ S_10 _ mo (v_3) (v_3.toInt) (v_7) (v_7.toInt) hg_56 am_19 rfl rfl) (cwV 2 X.2.2.2.1 gk_X12_pot rfl rfl rfl (by decide +kernel) ⟨Nat.le_of_ble_eq_true rfl, Nat.le_of_ble_eq_true rfl⟩) (pre_V X hw _ am_19 rfl (by decide) rfl) rfl rfl hl.1 rfl (lv_room (Nat.le_of_ble_eq_true rfl)) dL_law_433 ⟨(by show c_11 + 0 ≤ 601024; omega), (by show n_12 + 0 ≤ 7293034; omega)⟩) c_11 n_12 (by show c_11 + 0 ≤ c_11; omega) (by show n_12 + 0 ≤ n_12; omega) (fun rr_66 S_67 H locs hp hw hfr hnw => ?_)
  have la_68 := LA_keep la_13 oq_14 hfr
  have oq_69 := oq_keep la_13 oq_14 hnw
  obtain ⟨hk_70, hp⟩ := hp
  have ax_73 : At S_67 x 11 := hk_70.fr.at ax_18
  have am_74 : At S_67 mo 12 := hk_70.fr.at am_19
  have mi_71 : MI S_67 mo := MIe_free hg_56 am_19 hk_70.fr (by decide +kernel) mi_16
  have gr_72 : GR S_67 mo := GR_free hg_56 am_19 hk_70.fr (by decide +kernel) gr_17
  have ph_75 : Phc S_67 = Phc S_10 := Ph_ok hg_56 hk_70 (by decide +kernel) (by decide +kernel) (by decide +kernel)
  have ph_76 : Phs S_67 = Phs S_10 := Ph_ok hg_56 hk_70 (by decide +kernel) (by decide +kernel) (by decide +kernel)
  have th_77 : pR S_67 1107 x = some q_20 := hk_70.fr.R' (by decide +kernel) ax_18 th_35
  have th_78 : At S_67 q_20 8 := hk_70.fr.at th_36
  have th_81 : pR S_67 1105 x = some u_26 := hk_70.fr.R' (by decide +kernel) ax_18 th_39
  have th_82 : At S_67 u_26 10 := hk_70.fr.at th_40
  have th_79 : pI S_67 801 q_20 = pI S_10 801 q_20 := hk_70.fr.I' (by decide +kernel) th_36 rfl
  have th_80 : pI S_67 1245 mo = pI S_10 1245 mo := hk_70.fr.I' (by decide +kernel) am_19 rfl
  have tf_86 : (pI S_67 1102 x).toInt = (pI S_10 1102 x).toInt := congrArg Int32.toInt (hk_70.fr.I' (by decide +kernel) ax_18 rfl)
  have tf_87 : (pI S_67 1104 x).toInt = (pI S_10 1104 x).toInt := congrArg Int32.toInt (hk_70.fr.I' (by decide +kernel) ax_18 rfl)
  have tf_88 : (pI S_67 1201 mo).toInt = (pI S_10 1201 mo).toInt := congrArg Int32.toInt (hk_70.fr.I' (by decide +kernel) am_19 rfl)
  have tf_89 := mkhid (hp.2.2.1)
  have tf_90 : (pI S_67 1000 u_26).toInt = (pI S_10 1000 u_26).toInt := congrArg Int32.toInt (hk_70.fr.I' (by decide +kernel) th_40 rfl)
  have tf_91 : (pI S_67 1000 u_26).toInt = (pI S_10 1000 u_26).toInt := congrArg Int32.toInt (hk_70.fr.I' (by decide +kernel) th_40 rfl)
  have tf_92 : (pI S_67 1000 u_26).toInt = (pI S_10 1000 u_26).toInt := congrArg Int32.toInt (hk_70.fr.I' (by decide +kernel) th_40 rfl)
  have tf_93 : (pI S_67 1228 mo).toInt = (pI S_10 1228 mo).toInt := congrArg Int32.toInt (hk_70.fr.I' (by decide +kernel) am_19 rfl)
  have tf_94 : (pI S_67 1228 mo).toInt = (pI S_10 1228 mo).toInt := congrArg Int32.toInt (hk_70.fr.I' (by decide +kernel) am_19 rfl)
  have th_96 : mA S_67 mo 1210 = thinF := TH_fr hg_56 hk_70.fr am_19 (by decide +kernel) th_54
  have ct_95 : CT S_67 x mo := CT_eq hg_56 hk_70.fr ax_18 (by decide +kernel) (by decide +kernel) (S12_fr hg_56 hk_70.fr am_19 (by decide +kernel)) ct_53
  have hq_97 := mkhid hp
  clear hp
  have th_85 : PN S_67 x := PN_fr hg_56 ax_18 hk_70.fr (by decide +kernel) (by decide +kernel) (by decide +kernel) th_43
  have he_99 : (pI S_10 1211 mo).toInt = (pI S 1104 x).toInt := by omega
  have hi_100 : ((pI S 1104 x).toInt < 4 ∧ 10 ≤ v_3.toInt ∧ v_3.toInt ≤ 2000 ∧ 1 ≤ v_7.toInt ∧ v_7.toInt ≤ 50) ↔ ((pI S_10 1211 mo).toInt < 4 ∧ 10 ≤ v_3.toInt ∧ v_3.toInt ≤ 2000 ∧ 1 ≤ v_7.toInt ∧ v_7.toInt ≤ 50) := by rw [he_99]
  have tt_101 := tie2 hi_100 (unhid tf_45) (unhid tf_89) he_99.symm
  have tt_102 := tt_101.1
  have rq_103 : rr_9.toInt = rr_66.toInt := tt_101.2
  clear tt_101
  have tz_104 : TX S_67 x mo := by
    by_cases hc_105 : ((pI S 1104 x).toInt < 4 ∧ 10 ≤ v_3.toInt ∧ v_3.toInt ≤ 2000 ∧ 1 ≤ v_7.toInt ∧ v_7.toInt ≤ 50)
    · obtain ⟨pz_106, pz_107, pz_108, pz_109, pz_110, pz_111⟩ := (unhid hq_34).2.2.2.2.1 hc_105
      obtain ⟨pz_112, pz_113, pz_114, pz_115⟩ := (unhid hq_34).2.2.2.2.2.2 hc_105
      obtain ⟨pe_1, pe_2⟩ := (unhid hq_97).2.2.2.1 (by omega)
      exact TX_pot hG hg_56 hax ham hk_15.fr hk_70.fr td_25 (by omega) (by have h := trivial; omega) (tieP hc_105 (unhid tf_45)) pz_113 pz_114 pz_115 pz_107 pz_108 pz_109 pz_110 pz_111 pe_1 pe_2 tx_33
    · have ee_116 := (unhid hq_34).2.2.2.2.2.1 hc_105
      exact TX_fr (M := [1200]) hg_56 (by rw [(unhid hq_97).2.2.2.2 (by omega)]; exact Fr_sI (by decide)) ax_18 am_19 (by decide +kernel) (by rw [ee_116]; exact tx_33)
  have td_98 : TD S_67 x mo := ⟨⟨q_20, th_77, th_78, by rw [th_79, th_37, th_80, th_38, td_23]⟩, by omega, by omega, ⟨u_26, th_81, th_82, by omega⟩, th_85, ct_95, th_96, tz_104⟩
  have hg_117 : GX S_67 := hk_70.1
  have rg_118 := And.intro (z_lo rr_66) (z_hi rr_66)
  refine lv_pop X.1 X.2.1 dL_law_436 rfl ?_
  refine lv_goto (tgt := 1505) X.1 X.2.1 dL_law_437 (by decide) ?_
  exact K _ _ _ _ c_11 n_12 hw hg_117 ax_73 am_74 mi_71 gr_72 td_98 la_68 oq_69 (lv_sub hl [0, 1, 2, 3, 4] rfl) (by omega) (by omega)
set_option maxHeartbeats 4000000 in
set_option maxRecDepth 100000 in
theorem lc_5 {p : Program} {l : Launch} {e : Env} {s : State} {m : MethodId} {below : List Frame} {meth : Method} {c : Code} (hst : l.stackTraces = false) {b x mo oq L : Nat} {xs : Nat → Int32} {cL : ClassId} {G : va_G} {cy : Nat → ClassId} {κ : Nat → Nat} {S : PS} {H : Heap} {locs : List Loc} {ls : Array Slot} {cc nn : Nat} {Q : State → Prop} {i : Int32} {i_z : Int} (X : Cx p c cL_law 7 s #[Value.ref b] lw_tbl RL m G cy κ (fun q : Nat => s.heap.size ≤ q)) (hX : va_X b L xs s s.heap) (hbl : b < s.heap.size) (hbA : ¬ (fun q : Nat => s.heap.size ≤ q) b) (hdc : ∀ Y ∈ DcL, va_Nw (.declares (Bundle.initS Y)) s) (hkl : Kl cL s) (hAo : (fun q : Nat => s.heap.size ≤ q) oq) (hL : L ≤ 3072) (hz_i : i.toInt = i_z) (hi0 : 0 ≤ i_z) (hi1 : i_z + 6 ≤ (L : Int)) (hw : Wd G cy (fun q : Nat => s.heap.size ≤ q) s.heap S H locs) (hG : GX S) (hax : At S x 11) (ham : At S mo 12) (hMI : MI S mo) (hGR : GR S mo) (hTD : TD S x mo) (hLA : LA cL oq H) (hoq : oq ∉ pL S) (hl : lv_has ls 7 [(4, .int i), (3, .ref oq), (2, .ref mo), (1, .ref x), (0, .ref b)]) (hcc : cc + Phc S + 20000 ≤ 601024) (hnn : nn + Phs S + 100000 ≤ 7293034) (K : ∀ (S9 : PS) (H9 : Heap) (locs9 : List Loc) (ls9 : Array Slot) (c9 n9 : Nat), Wd G cy (fun q : Nat => s.heap.size ≤ q) s.heap S9 H9 locs9 → GX S9 → At S9 x 11 → At S9 mo 12 → MI S9 mo → GR S9 mo → TD S9 x mo → LA cL oq H9 → oq ∉ pL S9 → lv_has ls9 7 [(4, .int i), (3, .ref oq), (2, .ref mo), (1, .ref x), (0, .ref b)] → c9 + Phc S9 ≤ cc + Phc S + 102 → n9 + Phs S9 ≤ nn + Phs S + 1020 → W p l e room_1 s m #[Value.ref b] below meth c H9 locs9 c9 n9 Q (F0 m 1505 ls9 [])) : W p l e room_1 s m #[Value.ref b] below meth c H locs cc nn Q (F0 m 440 ls []) := by
  refine lv_aload_n X.1 X.2.1 dL_law_440 rfl (lv_at hl 3 rfl) ?_
  refine lv_aload_n X.1 X.2.1 dL_law_441 rfl (lv_at hl 4 rfl) ?_
  refine lv_iload X.1 X.2.1 dL_law_442 (lv_at hl 0 rfl) ?_
  refine lv_iconst (v := 1) X.1 X.2.1 dL_law_444 (by decide) ?_
  refine lv_iadd X.1 X.2.1 dL_law_445 ?_
  refine lv_topi (fun v_1 ev_1 => ?_)
  have z_2 : v_1.toInt = i_z + 1 := z_add ev_1 hz_i ti_1 (by omega) (by omega)
  refine va_sld X.1 X.2.1 hX hbl hbA hw.2.2 (z_ix rfl (by omega) (by omega)) dL_law_446 ?_
  refine lv_topi (fun v_3 ev_3 => ?_)
  have rg_4 := And.intro (z_lo v_3) (z_hi v_3)
  refine lv_aload_n X.1 X.2.1 dL_law_447 rfl (lv_at hl 4 rfl) ?_
  refine lv_iload X.1 X.2.1 dL_law_448 (lv_at hl 0 rfl) ?_
  refine lv_iconst (v := 2) X.1 X.2.1 dL_law_450 (by decide) ?_
  refine lv_iadd X.1 X.2.1 dL_law_451 ?_
  refine lv_topi (fun v_5 ev_5 => ?_)
  have z_6 : v_5.toInt = i_z + 2 := z_add ev_5 hz_i ti_2 (by omega) (by omega)
  refine va_sld X.1 X.2.1 hX hbl hbA hw.2.2 (z_ix rfl (by omega) (by omega)) dL_law_452 ?_
  refine lv_topi (fun v_7 ev_7 => ?_)
  have rg_8 := And.intro (z_lo v_7) (z_hi v_7)
  refine k_i (rm := { frames := 3, cells := 0, slots := 0, locals := 144 }) (av := [.ref x, .int (v_3), .int (v_7)]) X hw (va_runV (As := [.int (v_3), .int (v_7)]) (rest := []) (cfix X) (k_X11_target6 l G cy κ S _ x (v_3) (v_3.toInt) (v_7) (v_7.toInt) hG hax rfl rfl) (cwV 2 X.2.2.2.1 gk_X11_target rfl rfl rfl (by decide +kernel) ⟨Nat.le_of_ble_eq_true rfl, Nat.le_of_ble_eq_true rfl⟩) (pre_V X hw _ hax rfl (by decide) rfl) rfl rfl hl.1 rfl (lv_room (Nat.le_of_ble_eq_true rfl)) dL_law_453 ⟨(by show cc + 0 ≤ 601024; omega), (by show nn + 0 ≤ 7293034; omega)⟩) cc nn (by show cc + 0 ≤ cc; omega) (by show nn + 0 ≤ nn; omega) (fun rr_9 S_10 H locs hp hw hfr hnw => ?_)
  have la_11 := LA_keep hLA hoq hfr
  have oq_12 := oq_keep hLA hoq hnw
  obtain ⟨hk_13, hp⟩ := hp
  have ax_16 : At S_10 x 11 := hk_13.fr.at hax
  have am_17 : At S_10 mo 12 := hk_13.fr.at ham
  have mi_14 : MI S_10 mo := MIe_free hG ham hk_13.fr (by decide +kernel) hMI
  have gr_15 : GR S_10 mo := GR_free hG ham hk_13.fr (by decide +kernel) hGR
  have ph_18 : Phc S_10 = Phc S := Ph_ok hG hk_13 (by decide +kernel) (by decide +kernel) (by decide +kernel)
  have ph_19 : Phs S_10 = Phs S := Ph_ok hG hk_13 (by decide +kernel) (by decide +kernel) (by decide +kernel)
  obtain ⟨⟨q_20, td_21, td_22, td_23⟩, td_24, td_25, ⟨u_26, td_27, td_28, td_29⟩, pn_30, ct_31, th_32, tx_33⟩ := hTD
  have hq_34 := mkhid hp
  have th_35 : pR S_10 1107 x = some q_20 := hk_13.fr.R' (by decide +kernel) hax td_21
  have th_36 : At S_10 q_20 8 := hk_13.fr.at td_22
  have th_39 : pR S_10 1105 x = some u_26 := hk_13.fr.R' (by decide +kernel) hax td_27
  have th_40 : At S_10 u_26 10 := hk_13.fr.at td_28
  have th_37 : pI S_10 801 q_20 = pI S 801 q_20 := hk_13.fr.I' (by decide +kernel) td_22 rfl
  have th_38 : pI S_10 1245 mo = pI S 1245 mo := hk_13.fr.I' (by decide +kernel) ham rfl
  have tf_44 : (pI S_10 1102 x).toInt = (pI S 1102 x).toInt := congrArg Int32.toInt (hk_13.fr.I' (by decide +kernel) hax rfl)
  have tf_45 : (pI S_10 1104 x).toInt = (pI S 1104 x).toInt := congrArg Int32.toInt (hk_13.fr.I' (by decide +kernel) hax rfl)
  have tf_46 : (pI S_10 1201 mo).toInt = (pI S 1201 mo).toInt := congrArg Int32.toInt (hk_13.fr.I' (by decide +kernel) ham rfl)
  have tf_47 : (pI S_10 1211 mo).toInt = (pI S 1211 mo).toInt := congrArg Int32.toInt (hk_13.fr.I' (by decide +kernel) ham rfl)
  have tf_48 : (pI S_10 1000 u_26).toInt = (pI S 1000 u_26).toInt := congrArg Int32.toInt (hk_13.fr.I' (by decide +kernel) td_28 rfl)
  have tf_49 : (pI S_10 1000 u_26).toInt = (pI S 1000 u_26).toInt := congrArg Int32.toInt (hk_13.fr.I' (by decide +kernel) td_28 rfl)
  have tf_50 : (pI S_10 1000 u_26).toInt = (pI S 1000 u_26).toInt := congrArg Int32.toInt (hk_13.fr.I' (by decide +kernel) td_28 rfl)
  have tf_51 : (pI S_10 1228 mo).toInt = (pI S 1228 mo).toInt := congrArg Int32.toInt (hk_13.fr.I' (by decide +kernel) ham rfl)
  have tf_52 : (pI S_10 1228 mo).toInt = (pI S 1228 mo).toInt := congrArg Int32.toInt (hk_13.fr.I' (by decide +kernel) ham rfl)
  have th_54 : mA S_10 mo 1210 = thinF := TH_fr hG hk_13.fr ham (by decide +kernel) th_32
  have ct_53 : CT S_10 x mo := CT_eq hG hk_13.fr hax (by decide +kernel) (by decide +kernel) (S12_fr hG hk_13.fr ham (by decide +kernel)) ct_31
  have th_43 : PN S_10 x := PN_fr hG hax hk_13.fr (by decide +kernel) (by decide +kernel) (by decide +kernel) pn_30
  have hg_56 : GX S_10 := hk_13.1
  have rg_57 := And.intro (z_lo rr_9) (z_hi rr_9)
  refine lv_pop X.1 X.2.1 dL_law_456 rfl ?_
  refine lv_aload_n X.1 X.2.1 dL_law_457 rfl (lv_at hl 2 rfl) ?_
  refine lv_aload_n X.1 X.2.1 dL_law_458 rfl (lv_at hl 4 rfl) ?_
  refine lv_iload X.1 X.2.1 dL_law_459 (lv_at hl 0 rfl) ?_
  refine lv_iconst (v := 1) X.1 X.2.1 dL_law_461 (by decide) ?_
  refine lv_iadd X.1 X.2.1 dL_law_462 ?_
  refine lv_topi (fun v_58 ev_58 => ?_)
  have z_59 : v_58.toInt = i_z + 1 := z_add ev_58 hz_i ti_1 (by omega) (by omega)
  refine va_sld X.1 X.2.1 hX hbl hbA hw.2.2 (z_ix rfl (by omega) (by omega)) dL_law_463 ?_
  refine lv_topi (fun v_60 ev_60 => ?_)
  have es_61 : v_3 = v_60 := by rw [ev_3, ev_60, ev_1, ev_58]
  subst es_61
  refine lv_aload_n X.1 X.2.1 dL_law_464 rfl (lv_at hl 4 rfl) ?_
  refine lv_iload X.1 X.2.1 dL_law_465 (lv_at hl 0 rfl) ?_
  refine lv_iconst (v := 2) X.1 X.2.1 dL_law_467 (by decide) ?_
  refine lv_iadd X.1 X.2.1 dL_law_468 ?_
  refine lv_topi (fun v_62 ev_62 => ?_)
  have z_63 : v_62.toInt = i_z + 2 := z_add ev_62 hz_i ti_2 (by omega) (by omega)
  refine va_sld X.1 X.2.1 hX hbl hbA hw.2.2 (z_ix rfl (by omega) (by omega)) dL_law_469 ?_
  refine lv_topi (fun v_64 ev_64 => ?_)
  have es_65 : v_7 = v_64 := by rw [ev_7, ev_64, ev_5, ev_62]
  subst es_65
  refine k_i (rm := { frames := 3, cells := 0, slots := 0, locals := 144 }) (av := [.ref mo, .int (v_3), .int (v_7)]) X hw (va_runV (As := [.int (v_3), .int (v_7)]) (rest := []) (cfix X) (k_X12_target6 l G cy κ S_10 _ mo (v_3) (v_3.toInt) (v_7) (v_7.toInt) hg_56 am_17 rfl rfl) (cwV 2 X.2.2.2.1 gk_X12_target rfl rfl rfl (by decide +kernel) ⟨Nat.le_of_ble_eq_true rfl, Nat.le_of_ble_eq_true rfl⟩) (pre_V X hw _ am_17 rfl (by decide) rfl) rfl rfl hl.1 rfl (lv_room (Nat.le_of_ble_eq_true rfl)) dL_law_470 ⟨(by show cc + 0 ≤ 601024; omega), (by show nn + 0 ≤ 7293034; omega)⟩) cc nn (by show cc + 0 ≤ cc; omega) (by show nn + 0 ≤ nn; omega) (fun rr_66 S_67 H locs hp hw hfr hnw => ?_)
  have la_68 := LA_keep la_11 oq_12 hfr
  have oq_69 := oq_keep la_11 oq_12 hnw
  obtain ⟨hk_70, hp⟩ := hp
  have ax_73 : At S_67 x 11 := hk_70.fr.at ax_16
  have am_74 : At S_67 mo 12 := hk_70.fr.at am_17
  have mi_71 : MI S_67 mo := MIe_free hg_56 am_17 hk_70.fr (by decide +kernel) mi_14
  have gr_72 : GR S_67 mo := GR_free hg_56 am_17 hk_70.fr (by decide +kernel) gr_15
  have ph_75 : Phc S_67 = Phc S_10 := Ph_ok hg_56 hk_70 (by decide +kernel) (by decide +kernel) (by decide +kernel)
  have ph_76 : Phs S_67 = Phs S_10 := Ph_ok hg_56 hk_70 (by decide +kernel) (by decide +kernel) (by decide +kernel)
  have th_77 : pR S_67 1107 x = some q_20 := hk_70.fr.R' (by decide +kernel) ax_16 th_35
  have th_78 : At S_67 q_20 8 := hk_70.fr.at th_36
  have th_81 : pR S_67 1105 x = some u_26 := hk_70.fr.R' (by decide +kernel) ax_16 th_39
  have th_82 : At S_67 u_26 10 := hk_70.fr.at th_40
  have th_79 : pI S_67 801 q_20 = pI S_10 801 q_20 := hk_70.fr.I' (by decide +kernel) th_36 rfl
  have th_80 : pI S_67 1245 mo = pI S_10 1245 mo := hk_70.fr.I' (by decide +kernel) am_17 rfl
  have tf_86 : (pI S_67 1102 x).toInt = (pI S_10 1102 x).toInt := congrArg Int32.toInt (hk_70.fr.I' (by decide +kernel) ax_16 rfl)
  have tf_87 : (pI S_67 1104 x).toInt = (pI S_10 1104 x).toInt := congrArg Int32.toInt (hk_70.fr.I' (by decide +kernel) ax_16 rfl)
  have tf_88 : (pI S_67 1201 mo).toInt = (pI S_10 1201 mo).toInt := congrArg Int32.toInt (hk_70.fr.I' (by decide +kernel) am_17 rfl)
  have tf_89 : (pI S_67 1211 mo).toInt = (pI S_10 1211 mo).toInt := congrArg Int32.toInt (hk_70.fr.I' (by decide +kernel) am_17 rfl)
  have tf_90 : (pI S_67 1000 u_26).toInt = (pI S_10 1000 u_26).toInt := congrArg Int32.toInt (hk_70.fr.I' (by decide +kernel) th_40 rfl)
  have tf_91 : (pI S_67 1000 u_26).toInt = (pI S_10 1000 u_26).toInt := congrArg Int32.toInt (hk_70.fr.I' (by decide +kernel) th_40 rfl)
  have tf_92 : (pI S_67 1000 u_26).toInt = (pI S_10 1000 u_26).toInt := congrArg Int32.toInt (hk_70.fr.I' (by decide +kernel) th_40 rfl)
  have tf_93 : (pI S_67 1228 mo).toInt = (pI S_10 1228 mo).toInt := congrArg Int32.toInt (hk_70.fr.I' (by decide +kernel) am_17 rfl)
  have tf_94 : (pI S_67 1228 mo).toInt = (pI S_10 1228 mo).toInt := congrArg Int32.toInt (hk_70.fr.I' (by decide +kernel) am_17 rfl)
  have th_96 : mA S_67 mo 1210 = thinF := TH_fr hg_56 hk_70.fr am_17 (by decide +kernel) th_54
  have ct_95 : CT S_67 x mo := CT_eq hg_56 hk_70.fr ax_16 (by decide +kernel) (by decide +kernel) (S12_fr hg_56 hk_70.fr am_17 (by decide +kernel)) ct_53
  have th_85 : PN S_67 x := PN_fr hg_56 ax_16 hk_70.fr (by decide +kernel) (by decide +kernel) (by decide +kernel) th_43
  have tz_98 := TX_target hG hg_56 hax ham hk_13.fr hk_70.fr pn_30 td_25 rfl (unhid hq_34) hp tx_33
  have td_97 : TD S_67 x mo := ⟨⟨q_20, th_77, th_78, by rw [th_79, th_37, th_80, th_38, td_23]⟩, by omega, by omega, ⟨u_26, th_81, th_82, by omega⟩, th_85, ct_95, th_96, tz_98⟩
  have hg_99 : GX S_67 := hk_70.1
  have rg_100 := And.intro (z_lo rr_66) (z_hi rr_66)
  refine lv_pop X.1 X.2.1 dL_law_473 rfl ?_
  refine lv_goto (tgt := 1505) X.1 X.2.1 dL_law_474 (by decide) ?_
  exact K _ _ _ _ cc nn hw hg_99 ax_73 am_74 mi_71 gr_72 td_97 la_68 oq_69 (lv_sub hl [0, 1, 2, 3, 4] rfl) (by omega) (by omega)
set_option maxHeartbeats 4000000 in
set_option maxRecDepth 100000 in
theorem lc_6 {p : Program} {l : Launch} {e : Env} {s : State} {m : MethodId} {below : List Frame} {meth : Method} {c : Code} (hst : l.stackTraces = false) {b x mo oq L : Nat} {xs : Nat → Int32} {cL : ClassId} {G : va_G} {cy : Nat → ClassId} {κ : Nat → Nat} {S : PS} {H : Heap} {locs : List Loc} {ls : Array Slot} {cc nn : Nat} {Q : State → Prop} {i : Int32} {i_z : Int} (X : Cx p c cL_law 7 s #[Value.ref b] lw_tbl RL m G cy κ (fun q : Nat => s.heap.size ≤ q)) (hX : va_X b L xs s s.heap) (hbl : b < s.heap.size) (hbA : ¬ (fun q : Nat => s.heap.size ≤ q) b) (hdc : ∀ Y ∈ DcL, va_Nw (.declares (Bundle.initS Y)) s) (hkl : Kl cL s) (hAo : (fun q : Nat => s.heap.size ≤ q) oq) (hL : L ≤ 3072) (hz_i : i.toInt = i_z) (hi0 : 0 ≤ i_z) (hi1 : i_z + 6 ≤ (L : Int)) (hw : Wd G cy (fun q : Nat => s.heap.size ≤ q) s.heap S H locs) (hG : GX S) (hax : At S x 11) (ham : At S mo 12) (hMI : MI S mo) (hGR : GR S mo) (hTD : TD S x mo) (hLA : LA cL oq H) (hoq : oq ∉ pL S) (hl : lv_has ls 7 [(4, .int i), (3, .ref oq), (2, .ref mo), (1, .ref x), (0, .ref b)]) (hcc : cc + Phc S + 20000 ≤ 601024) (hnn : nn + Phs S + 100000 ≤ 7293034) (K : ∀ (S9 : PS) (H9 : Heap) (locs9 : List Loc) (ls9 : Array Slot) (c9 n9 : Nat), Wd G cy (fun q : Nat => s.heap.size ≤ q) s.heap S9 H9 locs9 → GX S9 → At S9 x 11 → At S9 mo 12 → MI S9 mo → GR S9 mo → TD S9 x mo → LA cL oq H9 → oq ∉ pL S9 → lv_has ls9 7 [(4, .int i), (3, .ref oq), (2, .ref mo), (1, .ref x), (0, .ref b)] → c9 + Phc S9 ≤ cc + Phc S + 102 → n9 + Phs S9 ≤ nn + Phs S + 1020 → W p l e room_1 s m #[Value.ref b] below meth c H9 locs9 c9 n9 Q (F0 m 1505 ls9 [])) : W p l e room_1 s m #[Value.ref b] below meth c H locs cc nn Q (F0 m 477 ls []) := by
  refine lv_aload_n X.1 X.2.1 dL_law_477 rfl (lv_at hl 3 rfl) ?_
  refine lv_aload_n X.1 X.2.1 dL_law_478 rfl (lv_at hl 4 rfl) ?_
  refine lv_iload X.1 X.2.1 dL_law_479 (lv_at hl 0 rfl) ?_
  refine lv_iconst (v := 1) X.1 X.2.1 dL_law_481 (by decide) ?_
  refine lv_iadd X.1 X.2.1 dL_law_482 ?_
  refine lv_topi (fun v_1 ev_1 => ?_)
  have z_2 : v_1.toInt = i_z + 1 := z_add ev_1 hz_i ti_1 (by omega) (by omega)
  refine va_sld X.1 X.2.1 hX hbl hbA hw.2.2 (z_ix rfl (by omega) (by omega)) dL_law_483 ?_
  refine lv_topi (fun v_3 ev_3 => ?_)
  have rg_4 := And.intro (z_lo v_3) (z_hi v_3)
  refine lv_aload_n X.1 X.2.1 dL_law_484 rfl (lv_at hl 4 rfl) ?_
  refine lv_iload X.1 X.2.1 dL_law_485 (lv_at hl 0 rfl) ?_
  refine lv_iconst (v := 2) X.1 X.2.1 dL_law_487 (by decide) ?_
  refine lv_iadd X.1 X.2.1 dL_law_488 ?_
  refine lv_topi (fun v_5 ev_5 => ?_)
  have z_6 : v_5.toInt = i_z + 2 := z_add ev_5 hz_i ti_2 (by omega) (by omega)
  refine va_sld X.1 X.2.1 hX hbl hbA hw.2.2 (z_ix rfl (by omega) (by omega)) dL_law_489 ?_
  refine lv_topi (fun v_7 ev_7 => ?_)
  have rg_8 := And.intro (z_lo v_7) (z_hi v_7)
  refine lv_aload_n X.1 X.2.1 dL_law_490 rfl (lv_at hl 4 rfl) ?_
  refine lv_iload X.1 X.2.1 dL_law_491 (lv_at hl 0 rfl) ?_
  refine lv_iconst (v := 3) X.1 X.2.1 dL_law_493 (by decide) ?_
  refine lv_iadd X.1 X.2.1 dL_law_494 ?_
  refine lv_topi (fun v_9 ev_9 => ?_)
  have z_10 : v_9.toInt = i_z + 3 := z_add ev_9 hz_i ti_3 (by omega) (by omega)
  refine va_sld X.1 X.2.1 hX hbl hbA hw.2.2 (z_ix rfl (by omega) (by omega)) dL_law_495 ?_
  refine lv_topi (fun v_11 ev_11 => ?_)
  have rg_12 := And.intro (z_lo v_11) (z_hi v_11)
  refine lv_aload_n X.1 X.2.1 dL_law_496 rfl (lv_at hl 4 rfl) ?_
  refine lv_iload X.1 X.2.1 dL_law_497 (lv_at hl 0 rfl) ?_
  refine lv_iconst (v := 4) X.1 X.2.1 dL_law_499 (by decide) ?_
  refine lv_iadd X.1 X.2.1 dL_law_500 ?_
  refine lv_topi (fun v_13 ev_13 => ?_)
  have z_14 : v_13.toInt = i_z + 4 := z_add ev_13 hz_i ti_4 (by omega) (by omega)
  refine va_sld X.1 X.2.1 hX hbl hbA hw.2.2 (z_ix rfl (by omega) (by omega)) dL_law_501 ?_
  refine lv_topi (fun v_15 ev_15 => ?_)
  have rg_16 := And.intro (z_lo v_15) (z_hi v_15)
  obtain ⟨nu_17, Ks_18, sk_19, Pt__20, R0_21, R1_22, R2_23, Gs_24, At__25, Ru__26, hwt_27, hpt_28⟩ := TP_wit hTD.2.2.2.2.2.2.2.2.2 (v_3.toInt)
  refine k_i (rm := { frames := 4, cells := 0, slots := 0, locals := 192 }) (av := [.ref x, .int (v_3), .int (v_7), .int (v_11), .int (v_15)]) X hw (va_runV (As := [.int (v_3), .int (v_7), .int (v_11), .int (v_15)]) (rest := []) (cfix X) (k_X11_fill6 l G cy κ S _ x (v_3) (v_3.toInt) (v_7) (v_7.toInt) (v_11) (v_11.toInt) (v_15) (v_15.toInt) (DC S x) R0_21 R1_22 R2_23 Gs_24 Ks_18 (cA S At__25 sk_19) (EC S Ks_18 Pt__20) Ru__26 hG hax rfl rfl rfl rfl (dc_at hG hax) (wit_A hwt_27 hpt_28) hwt_27.2.1 dc_in) (cwV 4 X.2.2.2.1 gk_X11_fill rfl rfl rfl (by decide +kernel) ⟨Nat.le_of_ble_eq_true rfl, Nat.le_of_ble_eq_true rfl⟩) (pre_V X hw _ hax rfl (by decide) rfl) rfl rfl hl.1 rfl (lv_room (Nat.le_of_ble_eq_true rfl)) dL_law_502 ⟨(by show cc + 0 ≤ 601024; omega), (by show nn + 0 ≤ 7293034; omega)⟩) cc nn (by show cc + 0 ≤ cc; omega) (by show nn + 0 ≤ nn; omega) (fun rr_29 S_30 H locs hp hw hfr hnw => ?_)
  have la_31 := LA_keep hLA hoq hfr
  have oq_32 := oq_keep hLA hoq hnw
  obtain ⟨hk_33, hp⟩ := hp
  have ax_36 : At S_30 x 11 := hk_33.fr.at hax
  have am_37 : At S_30 mo 12 := hk_33.fr.at ham
  have mi_34 : MI S_30 mo := MIe_free hG ham hk_33.fr (by decide +kernel) hMI
  have gr_35 : GR S_30 mo := GR_free hG ham hk_33.fr (by decide +kernel) hGR
  have ph_38 : Phc S_30 = Phc S := Ph_ok hG hk_33 (by decide +kernel) (by decide +kernel) (by decide +kernel)
  have ph_39 : Phs S_30 = Phs S := Ph_ok hG hk_33 (by decide +kernel) (by decide +kernel) (by decide +kernel)
  obtain ⟨⟨q_40, td_41, td_42, td_43⟩, td_44, td_45, ⟨u_46, td_47, td_48, td_49⟩, pn_50, ct_51, th_52, tx_53⟩ := hTD
  have hq_54 := mkhid hp
  have th_55 : pR S_30 1107 x = some q_40 := hk_33.fr.R' (by decide +kernel) hax td_41
  have th_56 : At S_30 q_40 8 := hk_33.fr.at td_42
  have th_59 : pR S_30 1105 x = some u_46 := hk_33.fr.R' (by decide +kernel) hax td_47
  have th_60 : At S_30 u_46 10 := hk_33.fr.at td_48
  have th_57 : pI S_30 801 q_40 = pI S 801 q_40 := hk_33.fr.I' (by decide +kernel) td_42 rfl
  have th_58 : pI S_30 1245 mo = pI S 1245 mo := hk_33.fr.I' (by decide +kernel) ham rfl
  have tf_64 : (pI S_30 1102 x).toInt = (pI S 1102 x).toInt := congrArg Int32.toInt (hk_33.fr.I' (by decide +kernel) hax rfl)
  have tf_65 : (pI S_30 1104 x).toInt = (pI S 1104 x).toInt := congrArg Int32.toInt (hk_33.fr.I' (by decide +kernel) hax rfl)
  have tf_66 : (pI S_30 1201 mo).toInt = (pI S 1201 mo).toInt := congrArg Int32.toInt (hk_33.fr.I' (by decide +kernel) ham rfl)
  have tf_67 : (pI S_30 1211 mo).toInt = (pI S 1211 mo).toInt := congrArg Int32.toInt (hk_33.fr.I' (by decide +kernel) ham rfl)
  have tf_68 : (pI S_30 1000 u_46).toInt = (pI S 1000 u_46).toInt := congrArg Int32.toInt (hk_33.fr.I' (by decide +kernel) td_48 rfl)
  have tf_69 : (pI S_30 1000 u_46).toInt = (pI S 1000 u_46).toInt := congrArg Int32.toInt (hk_33.fr.I' (by decide +kernel) td_48 rfl)
  have tf_70 : (pI S_30 1000 u_46).toInt = (pI S 1000 u_46).toInt := congrArg Int32.toInt (hk_33.fr.I' (by decide +kernel) td_48 rfl)
  have tf_71 : (pI S_30 1228 mo).toInt = (pI S 1228 mo).toInt := congrArg Int32.toInt (hk_33.fr.I' (by decide +kernel) ham rfl)
  have tf_72 : (pI S_30 1228 mo).toInt = (pI S 1228 mo).toInt := congrArg Int32.toInt (hk_33.fr.I' (by decide +kernel) ham rfl)
  have th_74 : mA S_30 mo 1210 = thinF := TH_fr hG hk_33.fr ham (by decide +kernel) th_52
  have ct_73 : CT S_30 x mo := CT_eq hG hk_33.fr hax (by decide +kernel) (by decide +kernel) (S12_fr hG hk_33.fr ham (by decide +kernel)) ct_51
  have th_63 : PN S_30 x := PN_fr hG hax hk_33.fr (by decide +kernel) (by decide +kernel) (by decide +kernel) pn_50
  have hg_76 : GX S_30 := hk_33.1
  have rg_77 := And.intro (z_lo rr_29) (z_hi rr_29)
  refine lv_pop X.1 X.2.1 dL_law_505 rfl ?_
  refine lv_aload_n X.1 X.2.1 dL_law_506 rfl (lv_at hl 2 rfl) ?_
  refine lv_aload_n X.1 X.2.1 dL_law_507 rfl (lv_at hl 4 rfl) ?_
  refine lv_iload X.1 X.2.1 dL_law_508 (lv_at hl 0 rfl) ?_
  refine lv_iconst (v := 1) X.1 X.2.1 dL_law_510 (by decide) ?_
  refine lv_iadd X.1 X.2.1 dL_law_511 ?_
  refine lv_topi (fun v_78 ev_78 => ?_)
  have z_79 : v_78.toInt = i_z + 1 := z_add ev_78 hz_i ti_1 (by omega) (by omega)
  refine va_sld X.1 X.2.1 hX hbl hbA hw.2.2 (z_ix rfl (by omega) (by omega)) dL_law_512 ?_
  refine lv_topi (fun v_80 ev_80 => ?_)
  have es_81 : v_3 = v_80 := by rw [ev_3, ev_80, ev_1, ev_78]
  subst es_81
  refine lv_aload_n X.1 X.2.1 dL_law_513 rfl (lv_at hl 4 rfl) ?_
  refine lv_iload X.1 X.2.1 dL_law_514 (lv_at hl 0 rfl) ?_
  refine lv_iconst (v := 2) X.1 X.2.1 dL_law_516 (by decide) ?_
  refine lv_iadd X.1 X.2.1 dL_law_517 ?_
  refine lv_topi (fun v_82 ev_82 => ?_)
  have z_83 : v_82.toInt = i_z + 2 := z_add ev_82 hz_i ti_2 (by omega) (by omega)
  refine va_sld X.1 X.2.1 hX hbl hbA hw.2.2 (z_ix rfl (by omega) (by omega)) dL_law_518 ?_
  refine lv_topi (fun v_84 ev_84 => ?_)
  have es_85 : v_7 = v_84 := by rw [ev_7, ev_84, ev_5, ev_82]
  subst es_85
  refine lv_aload_n X.1 X.2.1 dL_law_519 rfl (lv_at hl 4 rfl) ?_
  refine lv_iload X.1 X.2.1 dL_law_520 (lv_at hl 0 rfl) ?_
  refine lv_iconst (v := 3) X.1 X.2.1 dL_law_522 (by decide) ?_
  refine lv_iadd X.1 X.2.1 dL_law_523 ?_
  refine lv_topi (fun v_86 ev_86 => ?_)
  have z_87 : v_86.toInt = i_z + 3 := z_add ev_86 hz_i ti_3 (by omega) (by omega)
  refine va_sld X.1 X.2.1 hX hbl hbA hw.2.2 (z_ix rfl (by omega) (by omega)) dL_law_524 ?_
  refine lv_topi (fun v_88 ev_88 => ?_)
  have es_89 : v_11 = v_88 := by rw [ev_11, ev_88, ev_9, ev_86]
  subst es_89
  refine lv_aload_n X.1 X.2.1 dL_law_525 rfl (lv_at hl 4 rfl) ?_
  refine lv_iload X.1 X.2.1 dL_law_526 (lv_at hl 0 rfl) ?_
  refine lv_iconst (v := 4) X.1 X.2.1 dL_law_528 (by decide) ?_
  refine lv_iadd X.1 X.2.1 dL_law_529 ?_
  refine lv_topi (fun v_90 ev_90 => ?_)
  have z_91 : v_90.toInt = i_z + 4 := z_add ev_90 hz_i ti_4 (by omega) (by omega)
  refine va_sld X.1 X.2.1 hX hbl hbA hw.2.2 (z_ix rfl (by omega) (by omega)) dL_law_530 ?_
  refine lv_topi (fun v_92 ev_92 => ?_)
  have es_93 : v_15 = v_92 := by rw [ev_15, ev_92, ev_13, ev_90]
  subst es_93
  refine k_i (rm := { frames := 3, cells := 0, slots := 0, locals := 144 }) (av := [.ref mo, .int (v_3), .int (v_7), .int (v_11), .int (v_15)]) X hw (va_runV (As := [.int (v_3), .int (v_7), .int (v_11), .int (v_15)]) (rest := []) (cfix X) (k_X12_fill6 l G cy κ S_30 _ mo (v_3) (v_3.toInt) (v_7) (v_7.toInt) (v_11) (v_11.toInt) (v_15) (v_15.toInt) (cB S mo nu_17 At__25 sk_19) hg_76 am_37 rfl rfl rfl rfl mi_34 (wit_W hG ham hk_33.fr (by decide +kernel) (by decide +kernel) td_45 hwt_27 hpt_28)) (cwV 4 X.2.2.2.1 gk_X12_fill rfl rfl rfl (by decide +kernel) ⟨Nat.le_of_ble_eq_true rfl, Nat.le_of_ble_eq_true rfl⟩) (pre_V X hw _ am_37 rfl (by decide) rfl) rfl rfl hl.1 rfl (lv_room (Nat.le_of_ble_eq_true rfl)) dL_law_531 ⟨(by show cc + 0 ≤ 601024; omega), (by show nn + 0 ≤ 7293034; omega)⟩) cc nn (by show cc + 0 ≤ cc; omega) (by show nn + 0 ≤ nn; omega) (fun rr_94 S_95 H locs hp hw hfr hnw => ?_)
  have la_96 := LA_keep la_31 oq_32 hfr
  have oq_97 := oq_keep la_31 oq_32 hnw
  obtain ⟨hk_98, hp⟩ := hp
  have ax_101 : At S_95 x 11 := hk_98.fr.at ax_36
  have am_102 : At S_95 mo 12 := hk_98.fr.at am_37
  have mi_99 : MI S_95 mo := (by rcases hp with ⟨h, -⟩ | ⟨h, -⟩ <;> exact h.1)
  have gr_100 : GR S_95 mo := GR_fr hg_76 am_37 hk_98.fr (by decide +kernel) (by decide +kernel) gr_35
  have ph_103 : Phc S_95 = Phc S_30 := Ph_ok hg_76 hk_98 (by decide +kernel) (by decide +kernel) (by decide +kernel)
  have ph_104 : Phs S_95 = Phs S_30 := Ph_ok hg_76 hk_98 (by decide +kernel) (by decide +kernel) (by decide +kernel)
  have th_105 : pR S_95 1107 x = some q_40 := hk_98.fr.R' (by decide +kernel) ax_36 th_55
  have th_106 : At S_95 q_40 8 := hk_98.fr.at th_56
  have th_109 : pR S_95 1105 x = some u_46 := hk_98.fr.R' (by decide +kernel) ax_36 th_59
  have th_110 : At S_95 u_46 10 := hk_98.fr.at th_60
  have th_107 : pI S_95 801 q_40 = pI S_30 801 q_40 := hk_98.fr.I' (by decide +kernel) th_56 rfl
  have th_108 : pI S_95 1245 mo = pI S_30 1245 mo := hk_98.fr.I' (by decide +kernel) am_37 rfl
  have tf_114 : (pI S_95 1102 x).toInt = (pI S_30 1102 x).toInt := congrArg Int32.toInt (hk_98.fr.I' (by decide +kernel) ax_36 rfl)
  have tf_115 : (pI S_95 1104 x).toInt = (pI S_30 1104 x).toInt := congrArg Int32.toInt (hk_98.fr.I' (by decide +kernel) ax_36 rfl)
  have tf_116 : (pI S_95 1201 mo).toInt = (pI S_30 1201 mo).toInt := congrArg Int32.toInt (hk_98.fr.I' (by decide +kernel) am_37 rfl)
  have tf_117 : (pI S_95 1211 mo).toInt = (pI S_30 1211 mo).toInt := congrArg Int32.toInt (hk_98.fr.I' (by decide +kernel) am_37 rfl)
  have tf_118 : (pI S_95 1000 u_46).toInt = (pI S_30 1000 u_46).toInt := congrArg Int32.toInt (hk_98.fr.I' (by decide +kernel) th_60 rfl)
  have tf_119 : (pI S_95 1000 u_46).toInt = (pI S_30 1000 u_46).toInt := congrArg Int32.toInt (hk_98.fr.I' (by decide +kernel) th_60 rfl)
  have tf_120 : (pI S_95 1000 u_46).toInt = (pI S_30 1000 u_46).toInt := congrArg Int32.toInt (hk_98.fr.I' (by decide +kernel) th_60 rfl)
  have tf_121 : (pI S_95 1228 mo).toInt = (pI S_30 1228 mo).toInt := congrArg Int32.toInt (hk_98.fr.I' (by decide +kernel) am_37 rfl)
  have tf_122 : (pI S_95 1228 mo).toInt = (pI S_30 1228 mo).toInt := congrArg Int32.toInt (hk_98.fr.I' (by decide +kernel) am_37 rfl)
  have th_124 : mA S_95 mo 1210 = thinF := TH_fr hg_76 hk_98.fr am_37 (by decide +kernel) th_74
  have ct_123 : CT S_95 x mo := CT_eq hg_76 hk_98.fr ax_36 (by decide +kernel) (by decide +kernel) (S12_fr hg_76 hk_98.fr am_37 (by decide +kernel)) ct_73
  have th_113 : PN S_95 x := PN_fr hg_76 ax_36 hk_98.fr (by decide +kernel) (by decide +kernel) (by decide +kernel) th_63
  have tz_126 := TX_fill hG hg_76 hax ham hk_33.fr hk_98.fr ct_51 pn_50 td_44 td_45 hwt_27 hpt_28 (unhid hq_54) hp tx_53
  have td_125 : TD S_95 x mo := ⟨⟨q_40, th_105, th_106, by rw [th_107, th_57, th_108, th_58, td_43]⟩, by omega, by omega, ⟨u_46, th_109, th_110, by omega⟩, th_113, ct_123, th_124, tz_126.1⟩
  have rq_127 : rr_29.toInt = rr_94.toInt := congrArg Int32.toInt tz_126.2
  have hg_128 : GX S_95 := hk_98.1
  have rg_129 := And.intro (z_lo rr_94) (z_hi rr_94)
  refine lv_pop X.1 X.2.1 dL_law_534 rfl ?_
  refine lv_goto (tgt := 1505) X.1 X.2.1 dL_law_535 (by decide) ?_
  exact K _ _ _ _ cc nn hw hg_128 ax_101 am_102 mi_99 gr_100 td_125 la_96 oq_97 (lv_sub hl [0, 1, 2, 3, 4] rfl) (by omega) (by omega)
set_option maxHeartbeats 4000000 in
set_option maxRecDepth 100000 in
theorem lc_7 {p : Program} {l : Launch} {e : Env} {s : State} {m : MethodId} {below : List Frame} {meth : Method} {c : Code} (hst : l.stackTraces = false) {b x mo oq L : Nat} {xs : Nat → Int32} {cL : ClassId} {G : va_G} {cy : Nat → ClassId} {κ : Nat → Nat} {S : PS} {H : Heap} {locs : List Loc} {ls : Array Slot} {cc nn : Nat} {Q : State → Prop} {i : Int32} {i_z : Int} (X : Cx p c cL_law 7 s #[Value.ref b] lw_tbl RL m G cy κ (fun q : Nat => s.heap.size ≤ q)) (hX : va_X b L xs s s.heap) (hbl : b < s.heap.size) (hbA : ¬ (fun q : Nat => s.heap.size ≤ q) b) (hdc : ∀ Y ∈ DcL, va_Nw (.declares (Bundle.initS Y)) s) (hkl : Kl cL s) (hAo : (fun q : Nat => s.heap.size ≤ q) oq) (hL : L ≤ 3072) (hz_i : i.toInt = i_z) (hi0 : 0 ≤ i_z) (hi1 : i_z + 6 ≤ (L : Int)) (hw : Wd G cy (fun q : Nat => s.heap.size ≤ q) s.heap S H locs) (hG : GX S) (hax : At S x 11) (ham : At S mo 12) (hMI : MI S mo) (hGR : GR S mo) (hTD : TD S x mo) (hLA : LA cL oq H) (hoq : oq ∉ pL S) (hl : lv_has ls 7 [(4, .int i), (3, .ref oq), (2, .ref mo), (1, .ref x), (0, .ref b)]) (hcc : cc + Phc S + 20000 ≤ 601024) (hnn : nn + Phs S + 100000 ≤ 7293034) (K : ∀ (S9 : PS) (H9 : Heap) (locs9 : List Loc) (ls9 : Array Slot) (c9 n9 : Nat), Wd G cy (fun q : Nat => s.heap.size ≤ q) s.heap S9 H9 locs9 → GX S9 → At S9 x 11 → At S9 mo 12 → MI S9 mo → GR S9 mo → TD S9 x mo → LA cL oq H9 → oq ∉ pL S9 → lv_has ls9 7 [(4, .int i), (3, .ref oq), (2, .ref mo), (1, .ref x), (0, .ref b)] → c9 + Phc S9 ≤ cc + Phc S + 102 → n9 + Phs S9 ≤ nn + Phs S + 1020 → W p l e room_1 s m #[Value.ref b] below meth c H9 locs9 c9 n9 Q (F0 m 1505 ls9 [])) : W p l e room_1 s m #[Value.ref b] below meth c H locs cc nn Q (F0 m 538 ls []) := by
  refine lv_aload_n X.1 X.2.1 dL_law_538 rfl (lv_at hl 3 rfl) ?_
  refine lv_aload_n X.1 X.2.1 dL_law_539 rfl (lv_at hl 4 rfl) ?_
  refine lv_iload X.1 X.2.1 dL_law_540 (lv_at hl 0 rfl) ?_
  refine lv_iconst (v := 1) X.1 X.2.1 dL_law_542 (by decide) ?_
  refine lv_iadd X.1 X.2.1 dL_law_543 ?_
  refine lv_topi (fun v_1 ev_1 => ?_)
  have z_2 : v_1.toInt = i_z + 1 := z_add ev_1 hz_i ti_1 (by omega) (by omega)
  refine va_sld X.1 X.2.1 hX hbl hbA hw.2.2 (z_ix rfl (by omega) (by omega)) dL_law_544 ?_
  refine lv_topi (fun v_3 ev_3 => ?_)
  have rg_4 := And.intro (z_lo v_3) (z_hi v_3)
  refine lv_aload_n X.1 X.2.1 dL_law_545 rfl (lv_at hl 4 rfl) ?_
  refine lv_iload X.1 X.2.1 dL_law_546 (lv_at hl 0 rfl) ?_
  refine lv_iconst (v := 2) X.1 X.2.1 dL_law_548 (by decide) ?_
  refine lv_iadd X.1 X.2.1 dL_law_549 ?_
  refine lv_topi (fun v_5 ev_5 => ?_)
  have z_6 : v_5.toInt = i_z + 2 := z_add ev_5 hz_i ti_2 (by omega) (by omega)
  refine va_sld X.1 X.2.1 hX hbl hbA hw.2.2 (z_ix rfl (by omega) (by omega)) dL_law_550 ?_
  refine lv_topi (fun v_7 ev_7 => ?_)
  have rg_8 := And.intro (z_lo v_7) (z_hi v_7)
  refine lv_aload_n X.1 X.2.1 dL_law_551 rfl (lv_at hl 4 rfl) ?_
  refine lv_iload X.1 X.2.1 dL_law_552 (lv_at hl 0 rfl) ?_
  refine lv_iconst (v := 3) X.1 X.2.1 dL_law_554 (by decide) ?_
  refine lv_iadd X.1 X.2.1 dL_law_555 ?_
  refine lv_topi (fun v_9 ev_9 => ?_)
  have z_10 : v_9.toInt = i_z + 3 := z_add ev_9 hz_i ti_3 (by omega) (by omega)
  refine va_sld X.1 X.2.1 hX hbl hbA hw.2.2 (z_ix rfl (by omega) (by omega)) dL_law_556 ?_
  refine lv_topi (fun v_11 ev_11 => ?_)
  have rg_12 := And.intro (z_lo v_11) (z_hi v_11)
  refine lv_aload_n X.1 X.2.1 dL_law_557 rfl (lv_at hl 4 rfl) ?_
  refine lv_iload X.1 X.2.1 dL_law_558 (lv_at hl 0 rfl) ?_
  refine lv_iconst (v := 4) X.1 X.2.1 dL_law_560 (by decide) ?_
  refine lv_iadd X.1 X.2.1 dL_law_561 ?_
  refine lv_topi (fun v_13 ev_13 => ?_)
  have z_14 : v_13.toInt = i_z + 4 := z_add ev_13 hz_i ti_4 (by omega) (by omega)
  refine va_sld X.1 X.2.1 hX hbl hbA hw.2.2 (z_ix rfl (by omega) (by omega)) dL_law_562 ?_
  refine lv_topi (fun v_15 ev_15 => ?_)
  have rg_16 := And.intro (z_lo v_15) (z_hi v_15)
  refine lv_aload_n X.1 X.2.1 dL_law_563 rfl (lv_at hl 4 rfl) ?_
  refine lv_iload X.1 X.2.1 dL_law_564 (lv_at hl 0 rfl) ?_
  refine lv_iconst (v := 5) X.1 X.2.1 dL_law_566 (by decide) ?_
  refine lv_iadd X.1 X.2.1 dL_law_567 ?_
  refine lv_topi (fun v_17 ev_17 => ?_)
  have z_18 : v_17.toInt = i_z + 5 := z_add ev_17 hz_i ti_5 (by omega) (by omega)
  refine va_sld X.1 X.2.1 hX hbl hbA hw.2.2 (z_ix rfl (by omega) (by omega)) dL_law_568 ?_
  refine lv_topi (fun v_19 ev_19 => ?_)
  have rg_20 := And.intro (z_lo v_19) (z_hi v_19)
  refine k_i (rm := { frames := 2, cells := 0, slots := 0, locals := 96 }) (av := [.ref x, .int (v_3), .int (v_7), .int (v_11), .int (v_15), .int (v_19)]) X hw (va_runV (As := [.int (v_3), .int (v_7), .int (v_11), .int (v_15), .int (v_19)]) (rest := []) (cfix X) (k_X11_feed2 l G cy κ S _ x (v_3) (v_3.toInt) (v_7) (v_7.toInt) (v_11) (v_11.toInt) (v_15) (v_15.toInt) (v_19) (v_19.toInt) hG hax rfl rfl rfl rfl rfl) (cwV 5 X.2.2.2.1 gk_X11_feed rfl rfl rfl (by decide +kernel) ⟨Nat.le_of_ble_eq_true rfl, Nat.le_of_ble_eq_true rfl⟩) (pre_V X hw _ hax rfl (by decide) rfl) rfl rfl hl.1 rfl (lv_room (Nat.le_of_ble_eq_true rfl)) dL_law_569 ⟨(by show cc + 0 ≤ 601024; omega), (by show nn + 0 ≤ 7293034; omega)⟩) cc nn (by show cc + 0 ≤ cc; omega) (by show nn + 0 ≤ nn; omega) (fun rr_21 S_22 H locs hp hw hfr hnw => ?_)
  have la_23 := LA_keep hLA hoq hfr
  have oq_24 := oq_keep hLA hoq hnw
  obtain ⟨hk_25, hp⟩ := hp
  have ax_28 : At S_22 x 11 := hk_25.fr.at hax
  have am_29 : At S_22 mo 12 := hk_25.fr.at ham
  have mi_26 : MI S_22 mo := MIe_free hG ham hk_25.fr (by decide +kernel) hMI
  have gr_27 : GR S_22 mo := GR_free hG ham hk_25.fr (by decide +kernel) hGR
  have ph_30 : Phc S_22 = Phc S := Ph_ok hG hk_25 (by decide +kernel) (by decide +kernel) (by decide +kernel)
  have ph_31 : Phs S_22 = Phs S := Ph_ok hG hk_25 (by decide +kernel) (by decide +kernel) (by decide +kernel)
  obtain ⟨⟨q_32, td_33, td_34, td_35⟩, td_36, td_37, ⟨u_38, td_39, td_40, td_41⟩, pn_42, ct_43, th_44, tx_45⟩ := hTD
  have hq_46 := mkhid hp
  have th_47 : pR S_22 1107 x = some q_32 := hk_25.fr.R' (by decide +kernel) hax td_33
  have th_48 : At S_22 q_32 8 := hk_25.fr.at td_34
  have th_51 : pR S_22 1105 x = some u_38 := hk_25.fr.R' (by decide +kernel) hax td_39
  have th_52 : At S_22 u_38 10 := hk_25.fr.at td_40
  have th_49 : pI S_22 801 q_32 = pI S 801 q_32 := hk_25.fr.I' (by decide +kernel) td_34 rfl
  have th_50 : pI S_22 1245 mo = pI S 1245 mo := hk_25.fr.I' (by decide +kernel) ham rfl
  have tf_56 : (pI S_22 1102 x).toInt = (pI S 1102 x).toInt := congrArg Int32.toInt (hk_25.fr.I' (by decide +kernel) hax rfl)
  have tf_57 : (pI S_22 1104 x).toInt = (pI S 1104 x).toInt := congrArg Int32.toInt (hk_25.fr.I' (by decide +kernel) hax rfl)
  have tf_58 : (pI S_22 1201 mo).toInt = (pI S 1201 mo).toInt := congrArg Int32.toInt (hk_25.fr.I' (by decide +kernel) ham rfl)
  have tf_59 : (pI S_22 1211 mo).toInt = (pI S 1211 mo).toInt := congrArg Int32.toInt (hk_25.fr.I' (by decide +kernel) ham rfl)
  have tf_61 := hp.2.2.1 _ td_39
  have tf_63 : (pI S_22 1228 mo).toInt = (pI S 1228 mo).toInt := congrArg Int32.toInt (hk_25.fr.I' (by decide +kernel) ham rfl)
  have tf_64 : (pI S_22 1228 mo).toInt = (pI S 1228 mo).toInt := congrArg Int32.toInt (hk_25.fr.I' (by decide +kernel) ham rfl)
  have th_66 : mA S_22 mo 1210 = thinF := TH_fr hG hk_25.fr ham (by decide +kernel) th_44
  have ct_65 : CT S_22 x mo := CT_eq hG hk_25.fr hax (by decide +kernel) (by decide +kernel) (S12_fr hG hk_25.fr ham (by decide +kernel)) ct_43
  have th_55 : PN S_22 x := PN_fr hG hax hk_25.fr (by decide +kernel) (by decide +kernel) (by decide +kernel) pn_42
  have hg_68 : GX S_22 := hk_25.1
  have rg_69 := And.intro (z_lo rr_21) (z_hi rr_21)
  refine lv_pop X.1 X.2.1 dL_law_572 rfl ?_
  refine lv_aload_n X.1 X.2.1 dL_law_573 rfl (lv_at hl 2 rfl) ?_
  refine lv_aload_n X.1 X.2.1 dL_law_574 rfl (lv_at hl 4 rfl) ?_
  refine lv_iload X.1 X.2.1 dL_law_575 (lv_at hl 0 rfl) ?_
  refine lv_iconst (v := 1) X.1 X.2.1 dL_law_577 (by decide) ?_
  refine lv_iadd X.1 X.2.1 dL_law_578 ?_
  refine lv_topi (fun v_70 ev_70 => ?_)
  have z_71 : v_70.toInt = i_z + 1 := z_add ev_70 hz_i ti_1 (by omega) (by omega)
  refine va_sld X.1 X.2.1 hX hbl hbA hw.2.2 (z_ix rfl (by omega) (by omega)) dL_law_579 ?_
  refine lv_topi (fun v_72 ev_72 => ?_)
  have es_73 : v_3 = v_72 := by rw [ev_3, ev_72, ev_1, ev_70]
  subst es_73
  refine lv_aload_n X.1 X.2.1 dL_law_580 rfl (lv_at hl 4 rfl) ?_
  refine lv_iload X.1 X.2.1 dL_law_581 (lv_at hl 0 rfl) ?_
  refine lv_iconst (v := 2) X.1 X.2.1 dL_law_583 (by decide) ?_
  refine lv_iadd X.1 X.2.1 dL_law_584 ?_
  refine lv_topi (fun v_74 ev_74 => ?_)
  have z_75 : v_74.toInt = i_z + 2 := z_add ev_74 hz_i ti_2 (by omega) (by omega)
  refine va_sld X.1 X.2.1 hX hbl hbA hw.2.2 (z_ix rfl (by omega) (by omega)) dL_law_585 ?_
  refine lv_topi (fun v_76 ev_76 => ?_)
  have es_77 : v_7 = v_76 := by rw [ev_7, ev_76, ev_5, ev_74]
  subst es_77
  refine lv_aload_n X.1 X.2.1 dL_law_586 rfl (lv_at hl 4 rfl) ?_
  refine lv_iload X.1 X.2.1 dL_law_587 (lv_at hl 0 rfl) ?_
  refine lv_iconst (v := 3) X.1 X.2.1 dL_law_589 (by decide) ?_
  refine lv_iadd X.1 X.2.1 dL_law_590 ?_
  refine lv_topi (fun v_78 ev_78 => ?_)
  have z_79 : v_78.toInt = i_z + 3 := z_add ev_78 hz_i ti_3 (by omega) (by omega)
  refine va_sld X.1 X.2.1 hX hbl hbA hw.2.2 (z_ix rfl (by omega) (by omega)) dL_law_591 ?_
  refine lv_topi (fun v_80 ev_80 => ?_)
  have es_81 : v_11 = v_80 := by rw [ev_11, ev_80, ev_9, ev_78]
  subst es_81
  refine lv_aload_n X.1 X.2.1 dL_law_592 rfl (lv_at hl 4 rfl) ?_
  refine lv_iload X.1 X.2.1 dL_law_593 (lv_at hl 0 rfl) ?_
  refine lv_iconst (v := 4) X.1 X.2.1 dL_law_595 (by decide) ?_
  refine lv_iadd X.1 X.2.1 dL_law_596 ?_
  refine lv_topi (fun v_82 ev_82 => ?_)
  have z_83 : v_82.toInt = i_z + 4 := z_add ev_82 hz_i ti_4 (by omega) (by omega)
  refine va_sld X.1 X.2.1 hX hbl hbA hw.2.2 (z_ix rfl (by omega) (by omega)) dL_law_597 ?_
  refine lv_topi (fun v_84 ev_84 => ?_)
  have es_85 : v_15 = v_84 := by rw [ev_15, ev_84, ev_13, ev_82]
  subst es_85
  refine lv_aload_n X.1 X.2.1 dL_law_598 rfl (lv_at hl 4 rfl) ?_
  refine lv_iload X.1 X.2.1 dL_law_599 (lv_at hl 0 rfl) ?_
  refine lv_iconst (v := 5) X.1 X.2.1 dL_law_601 (by decide) ?_
  refine lv_iadd X.1 X.2.1 dL_law_602 ?_
  refine lv_topi (fun v_86 ev_86 => ?_)
  have z_87 : v_86.toInt = i_z + 5 := z_add ev_86 hz_i ti_5 (by omega) (by omega)
  refine va_sld X.1 X.2.1 hX hbl hbA hw.2.2 (z_ix rfl (by omega) (by omega)) dL_law_603 ?_
  refine lv_topi (fun v_88 ev_88 => ?_)
  have es_89 : v_19 = v_88 := by rw [ev_19, ev_88, ev_17, ev_86]
  subst es_89
  refine k_i (rm := { frames := 1, cells := 0, slots := 0, locals := 48 }) (av := [.ref mo, .int (v_3), .int (v_7), .int (v_11), .int (v_15), .int (v_19)]) X hw (va_runV (As := [.int (v_3), .int (v_7), .int (v_11), .int (v_15), .int (v_19)]) (rest := []) (cfix X) (k_X12_feed2 l G cy κ S_22 _ mo (v_3) (v_3.toInt) (v_7) (v_7.toInt) (v_11) (v_11.toInt) (v_15) (v_15.toInt) (v_19) (v_19.toInt) hg_68 am_29 rfl rfl rfl rfl rfl) (cwV 5 X.2.2.2.1 gk_X12_feed rfl rfl rfl (by decide +kernel) ⟨Nat.le_of_ble_eq_true rfl, Nat.le_of_ble_eq_true rfl⟩) (pre_V X hw _ am_29 rfl (by decide) rfl) rfl rfl hl.1 rfl (lv_room (Nat.le_of_ble_eq_true rfl)) dL_law_604 ⟨(by show cc + 0 ≤ 601024; omega), (by show nn + 0 ≤ 7293034; omega)⟩) cc nn (by show cc + 0 ≤ cc; omega) (by show nn + 0 ≤ nn; omega) (fun rr_90 S_91 H locs hp hw hfr hnw => ?_)
  have la_92 := LA_keep la_23 oq_24 hfr
  have oq_93 := oq_keep la_23 oq_24 hnw
  obtain ⟨hk_94, hp⟩ := hp
  have ax_97 : At S_91 x 11 := hk_94.fr.at ax_28
  have am_98 : At S_91 mo 12 := hk_94.fr.at am_29
  have mi_95 : MI S_91 mo := MIe_free hg_68 am_29 hk_94.fr (by decide +kernel) mi_26
  have gr_96 : GR S_91 mo := GR_free hg_68 am_29 hk_94.fr (by decide +kernel) gr_27
  have ph_99 : Phc S_91 = Phc S_22 := Ph_ok hg_68 hk_94 (by decide +kernel) (by decide +kernel) (by decide +kernel)
  have ph_100 : Phs S_91 = Phs S_22 := Ph_ok hg_68 hk_94 (by decide +kernel) (by decide +kernel) (by decide +kernel)
  have th_101 : pR S_91 1107 x = some q_32 := hk_94.fr.R' (by decide +kernel) ax_28 th_47
  have th_102 : At S_91 q_32 8 := hk_94.fr.at th_48
  have th_105 : pR S_91 1105 x = some u_38 := hk_94.fr.R' (by decide +kernel) ax_28 th_51
  have th_106 : At S_91 u_38 10 := hk_94.fr.at th_52
  have th_103 : pI S_91 801 q_32 = pI S_22 801 q_32 := hk_94.fr.I' (by decide +kernel) th_48 rfl
  have th_104 : pI S_91 1245 mo = pI S_22 1245 mo := hk_94.fr.I' (by decide +kernel) am_29 rfl
  have tf_110 : (pI S_91 1102 x).toInt = (pI S_22 1102 x).toInt := congrArg Int32.toInt (hk_94.fr.I' (by decide +kernel) ax_28 rfl)
  have tf_111 : (pI S_91 1104 x).toInt = (pI S_22 1104 x).toInt := congrArg Int32.toInt (hk_94.fr.I' (by decide +kernel) ax_28 rfl)
  have tf_112 : (pI S_91 1201 mo).toInt = (pI S_22 1201 mo).toInt := congrArg Int32.toInt (hk_94.fr.I' (by decide +kernel) am_29 rfl)
  have tf_113 : (pI S_91 1211 mo).toInt = (pI S_22 1211 mo).toInt := congrArg Int32.toInt (hk_94.fr.I' (by decide +kernel) am_29 rfl)
  have tf_114 : (pI S_91 1000 u_38).toInt = (pI S_22 1000 u_38).toInt := congrArg Int32.toInt (hk_94.fr.I' (by decide +kernel) th_52 rfl)
  have tf_115 : (pI S_91 1000 u_38).toInt = (pI S_22 1000 u_38).toInt := congrArg Int32.toInt (hk_94.fr.I' (by decide +kernel) th_52 rfl)
  have tf_116 : (pI S_91 1000 u_38).toInt = (pI S_22 1000 u_38).toInt := congrArg Int32.toInt (hk_94.fr.I' (by decide +kernel) th_52 rfl)
  have tf_118 := hp.2.2.1
  have th_120 : mA S_91 mo 1210 = thinF := TH_fr hg_68 hk_94.fr am_29 (by decide +kernel) th_66
  have ct_119 : CT S_91 x mo := CT_eq hg_68 hk_94.fr ax_28 (by decide +kernel) (by decide +kernel) (S12_fr hg_68 hk_94.fr am_29 (by decide +kernel)) ct_65
  have th_109 : PN S_91 x := PN_fr hg_68 ax_28 hk_94.fr (by decide +kernel) (by decide +kernel) (by decide +kernel) th_55
  have td_121 : TD S_91 x mo := ⟨⟨q_32, th_101, th_102, by rw [th_103, th_49, th_104, th_50, td_35]⟩, by omega, by omega, ⟨u_38, th_105, th_106, by omega⟩, th_109, ct_119, th_120, TX_feed hG hg_68 hax ham hk_25.fr hk_94.fr td_39 td_41 ((unhid hq_46).2.2.2 _ td_39).1 ((unhid hq_46).2.2.2 _ td_39).2 hp.2.2.2.1 hp.2.2.2.2 (fun h => by omega) (fun h => by omega) tx_45⟩
  have rq_123 : rr_21.toInt = rr_90.toInt := by omega
  have hg_124 : GX S_91 := hk_94.1
  have rg_125 := And.intro (z_lo rr_90) (z_hi rr_90)
  refine lv_pop X.1 X.2.1 dL_law_607 rfl ?_
  refine lv_goto (tgt := 1505) X.1 X.2.1 dL_law_608 (by decide) ?_
  exact K _ _ _ _ cc nn hw hg_124 ax_97 am_98 mi_95 gr_96 td_121 la_92 oq_93 (lv_sub hl [0, 1, 2, 3, 4] rfl) (by omega) (by omega)
