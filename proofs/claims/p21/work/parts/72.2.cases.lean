set_option maxHeartbeats 4000000 in
set_option maxRecDepth 100000 in
theorem lc_16 {p : Program} {l : Launch} {e : Env} {s : State} {m : MethodId} {below : List Frame} {meth : Method} {c : Code} (hst : l.stackTraces = false) {b x mo oq L : Nat} {xs : Nat → Int32} {cL : ClassId} {G : va_G} {cy : Nat → ClassId} {κ : Nat → Nat} {S : PS} {H : Heap} {locs : List Loc} {ls : Array Slot} {cc nn : Nat} {Q : State → Prop} {i : Int32} {i_z : Int} (X : Cx p c cL_law 7 s #[Value.ref b] lw_tbl RL m G cy κ (fun q : Nat => s.heap.size ≤ q)) (hX : va_X b L xs s s.heap) (hbl : b < s.heap.size) (hbA : ¬ (fun q : Nat => s.heap.size ≤ q) b) (hdc : ∀ Y ∈ DcL, va_Nw (.declares (Bundle.initS Y)) s) (hkl : Kl cL s) (hAo : (fun q : Nat => s.heap.size ≤ q) oq) (hL : L ≤ 3072) (hz_i : i.toInt = i_z) (hi0 : 0 ≤ i_z) (hi1 : i_z + 6 ≤ (L : Int)) (hw : Wd G cy (fun q : Nat => s.heap.size ≤ q) s.heap S H locs) (hG : GX S) (hax : At S x 11) (ham : At S mo 12) (hMI : MI S mo) (hGR : GR S mo) (hTD : TD S x mo) (hLA : LA cL oq H) (hoq : oq ∉ pL S) (hl : lv_has ls 7 [(4, .int i), (3, .ref oq), (2, .ref mo), (1, .ref x), (0, .ref b)]) (hcc : cc + Phc S + 20000 ≤ 601024) (hnn : nn + Phs S + 100000 ≤ 7293034) (K : ∀ (S9 : PS) (H9 : Heap) (locs9 : List Loc) (ls9 : Array Slot) (c9 n9 : Nat), Wd G cy (fun q : Nat => s.heap.size ≤ q) s.heap S9 H9 locs9 → GX S9 → At S9 x 11 → At S9 mo 12 → MI S9 mo → GR S9 mo → TD S9 x mo → LA cL oq H9 → oq ∉ pL S9 → lv_has ls9 7 [(4, .int i), (3, .ref oq), (2, .ref mo), (1, .ref x), (0, .ref b)] → c9 + Phc S9 ≤ cc + Phc S + 102 → n9 + Phs S9 ≤ nn + Phs S + 1020 → W p l e room_1 s m #[Value.ref b] below meth c H9 locs9 c9 n9 Q (F0 m 1505 ls9 [])) : W p l e room_1 s m #[Value.ref b] below meth c H locs cc nn Q (F0 m 862 ls []) := by
  refine lv_aload_n X.1 X.2.1 dL_law_862 rfl (lv_at hl 3 rfl) ?_
  refine lv_aload_n X.1 X.2.1 dL_law_863 rfl (lv_at hl 4 rfl) ?_
  refine lv_iload X.1 X.2.1 dL_law_864 (lv_at hl 0 rfl) ?_
  refine lv_iconst (v := 1) X.1 X.2.1 dL_law_866 (by decide) ?_
  refine lv_iadd X.1 X.2.1 dL_law_867 ?_
  refine lv_topi (fun v_1 ev_1 => ?_)
  have z_2 : v_1.toInt = i_z + 1 := z_add ev_1 hz_i ti_1 (by omega) (by omega)
  refine va_sld X.1 X.2.1 hX hbl hbA hw.2.2 (z_ix rfl (by omega) (by omega)) dL_law_868 ?_
  refine lv_topi (fun v_3 ev_3 => ?_)
  have rg_4 := And.intro (z_lo v_3) (z_hi v_3)
  refine lv_aload_n X.1 X.2.1 dL_law_869 rfl (lv_at hl 4 rfl) ?_
  refine lv_iload X.1 X.2.1 dL_law_870 (lv_at hl 0 rfl) ?_
  refine lv_iconst (v := 2) X.1 X.2.1 dL_law_872 (by decide) ?_
  refine lv_iadd X.1 X.2.1 dL_law_873 ?_
  refine lv_topi (fun v_5 ev_5 => ?_)
  have z_6 : v_5.toInt = i_z + 2 := z_add ev_5 hz_i ti_2 (by omega) (by omega)
  refine va_sld X.1 X.2.1 hX hbl hbA hw.2.2 (z_ix rfl (by omega) (by omega)) dL_law_874 ?_
  refine lv_topi (fun v_7 ev_7 => ?_)
  have rg_8 := And.intro (z_lo v_7) (z_hi v_7)
  refine lv_aload_n X.1 X.2.1 dL_law_875 rfl (lv_at hl 4 rfl) ?_
  refine lv_iload X.1 X.2.1 dL_law_876 (lv_at hl 0 rfl) ?_
  refine lv_iconst (v := 3) X.1 X.2.1 dL_law_878 (by decide) ?_
  refine lv_iadd X.1 X.2.1 dL_law_879 ?_
  refine lv_topi (fun v_9 ev_9 => ?_)
  have z_10 : v_9.toInt = i_z + 3 := z_add ev_9 hz_i ti_3 (by omega) (by omega)
  refine va_sld X.1 X.2.1 hX hbl hbA hw.2.2 (z_ix rfl (by omega) (by omega)) dL_law_880 ?_
  refine lv_topi (fun v_11 ev_11 => ?_)
  have rg_12 := And.intro (z_lo v_11) (z_hi v_11)
  obtain ⟨nu_13, Ks_14, sk_15, hwt_16⟩ := hTD.2.2.2.2.2.2.2.2.2
  refine k_i (rm := { frames := 2, cells := 0, slots := 0, locals := 96 }) (av := [.ref x, .int (v_3), .int (v_7), .int (v_11)]) X hw (va_runV (As := [.int (v_3), .int (v_7), .int (v_11)]) (rest := []) (cfix X) (k_X11_metre7 l G cy κ S _ x (v_3) (v_3.toInt) (v_7) (v_7.toInt) (v_11) (v_11.toInt) (DC S x) Ks_14 sk_15 hG hax rfl rfl rfl hwt_16.2.1 hwt_16.2.2.1.1) (cwV 3 X.2.2.2.1 gk_X11_metre rfl rfl rfl (by decide +kernel) ⟨Nat.le_of_ble_eq_true rfl, Nat.le_of_ble_eq_true rfl⟩) (pre_V X hw _ hax rfl (by decide) rfl) rfl rfl hl.1 rfl (lv_room (Nat.le_of_ble_eq_true rfl)) dL_law_881 ⟨(by show cc + 0 ≤ 601024; omega), (by show nn + 0 ≤ 7293034; omega)⟩) cc nn (by show cc + 0 ≤ cc; omega) (by show nn + 0 ≤ nn; omega) (fun rr_17 S_18 H locs hp hw hfr hnw => ?_)
  have la_19 := LA_keep hLA hoq hfr
  have oq_20 := oq_keep hLA hoq hnw
  obtain ⟨e2, hp⟩ := hp
  subst e2
  have rg_21 := And.intro (z_lo rr_17) (z_hi rr_17)
  refine lv_pop X.1 X.2.1 dL_law_884 rfl ?_
  refine lv_aload_n X.1 X.2.1 dL_law_885 rfl (lv_at hl 2 rfl) ?_
  refine lv_aload_n X.1 X.2.1 dL_law_886 rfl (lv_at hl 4 rfl) ?_
  refine lv_iload X.1 X.2.1 dL_law_887 (lv_at hl 0 rfl) ?_
  refine lv_iconst (v := 1) X.1 X.2.1 dL_law_889 (by decide) ?_
  refine lv_iadd X.1 X.2.1 dL_law_890 ?_
  refine lv_topi (fun v_22 ev_22 => ?_)
  have z_23 : v_22.toInt = i_z + 1 := z_add ev_22 hz_i ti_1 (by omega) (by omega)
  refine va_sld X.1 X.2.1 hX hbl hbA hw.2.2 (z_ix rfl (by omega) (by omega)) dL_law_891 ?_
  refine lv_topi (fun v_24 ev_24 => ?_)
  have es_25 : v_3 = v_24 := by rw [ev_3, ev_24, ev_1, ev_22]
  subst es_25
  refine lv_aload_n X.1 X.2.1 dL_law_892 rfl (lv_at hl 4 rfl) ?_
  refine lv_iload X.1 X.2.1 dL_law_893 (lv_at hl 0 rfl) ?_
  refine lv_iconst (v := 2) X.1 X.2.1 dL_law_895 (by decide) ?_
  refine lv_iadd X.1 X.2.1 dL_law_896 ?_
  refine lv_topi (fun v_26 ev_26 => ?_)
  have z_27 : v_26.toInt = i_z + 2 := z_add ev_26 hz_i ti_2 (by omega) (by omega)
  refine va_sld X.1 X.2.1 hX hbl hbA hw.2.2 (z_ix rfl (by omega) (by omega)) dL_law_897 ?_
  refine lv_topi (fun v_28 ev_28 => ?_)
  have es_29 : v_7 = v_28 := by rw [ev_7, ev_28, ev_5, ev_26]
  subst es_29
  refine lv_aload_n X.1 X.2.1 dL_law_898 rfl (lv_at hl 4 rfl) ?_
  refine lv_iload X.1 X.2.1 dL_law_899 (lv_at hl 0 rfl) ?_
  refine lv_iconst (v := 3) X.1 X.2.1 dL_law_901 (by decide) ?_
  refine lv_iadd X.1 X.2.1 dL_law_902 ?_
  refine lv_topi (fun v_30 ev_30 => ?_)
  have z_31 : v_30.toInt = i_z + 3 := z_add ev_30 hz_i ti_3 (by omega) (by omega)
  refine va_sld X.1 X.2.1 hX hbl hbA hw.2.2 (z_ix rfl (by omega) (by omega)) dL_law_903 ?_
  refine lv_topi (fun v_32 ev_32 => ?_)
  have es_33 : v_11 = v_32 := by rw [ev_11, ev_32, ev_9, ev_30]
  subst es_33
  refine k_i (rm := { frames := 5, cells := 0, slots := 0, locals := 240 }) (av := [.ref mo, .int (v_3), .int (v_7), .int (v_11)]) X hw (va_runV (As := [.int (v_3), .int (v_7), .int (v_11)]) (rest := []) (cfix X) (k_X12_metre7 l G cy κ S _ mo (v_3) (v_3.toInt) (v_7) (v_7.toInt) (v_11) (v_11.toInt) (sk_15.map (skN nu_13)) hG ham rfl rfl rfl hMI hwt_16.2.2.1.2.1) (cwV 3 X.2.2.2.1 gk_X12_metre rfl rfl rfl (by decide +kernel) ⟨Nat.le_of_ble_eq_true rfl, Nat.le_of_ble_eq_true rfl⟩) (pre_V X hw _ ham rfl (by decide) rfl) rfl rfl hl.1 rfl (lv_room (Nat.le_of_ble_eq_true rfl)) dL_law_904 ⟨(by show cc + 0 ≤ 601024; omega), (by show nn + 0 ≤ 7293034; omega)⟩) cc nn (by show cc + 0 ≤ cc; omega) (by show nn + 0 ≤ nn; omega) (fun rr_34 S_35 H locs hp hw hfr hnw => ?_)
  have la_36 := LA_keep la_19 oq_20 hfr
  have oq_37 := oq_keep la_19 oq_20 hnw
  obtain ⟨hk_38, hp⟩ := hp
  have ax_41 : At S_35 x 11 := hk_38.fr.at hax
  have am_42 : At S_35 mo 12 := hk_38.fr.at ham
  have mi_39 : MI S_35 mo := MIe_free hG ham hk_38.fr (by decide +kernel) hMI
  have gr_40 : GR S_35 mo := GR_free hG ham hk_38.fr (by decide +kernel) hGR
  have ph_43 : Phc S_35 = Phc S := Ph_ok hG hk_38 (by decide +kernel) (by decide +kernel) (by decide +kernel)
  have ph_44 : Phs S_35 = Phs S := Ph_ok hG hk_38 (by decide +kernel) (by decide +kernel) (by decide +kernel)
  have td_45 : TD S_35 x mo := TD_fr hG hk_38.fr hax ham (by decide +kernel) (by decide +kernel) (by decide +kernel) (by decide +kernel) (by decide +kernel) (by decide +kernel) hTD
  have hg_46 : GX S_35 := hk_38.1
  have rg_47 := And.intro (z_lo rr_34) (z_hi rr_34)
  refine lv_pop X.1 X.2.1 dL_law_907 rfl ?_
  refine lv_goto (tgt := 1505) X.1 X.2.1 dL_law_908 (by decide) ?_
  exact K _ _ _ _ cc nn hw hg_46 ax_41 am_42 mi_39 gr_40 td_45 la_36 oq_37 (lv_sub hl [0, 1, 2, 3, 4] rfl) (by omega) (by omega)
set_option maxHeartbeats 4000000 in
set_option maxRecDepth 100000 in
theorem lc_17 {p : Program} {l : Launch} {e : Env} {s : State} {m : MethodId} {below : List Frame} {meth : Method} {c : Code} (hst : l.stackTraces = false) {b x mo oq L : Nat} {xs : Nat → Int32} {cL : ClassId} {G : va_G} {cy : Nat → ClassId} {κ : Nat → Nat} {S : PS} {H : Heap} {locs : List Loc} {ls : Array Slot} {cc nn : Nat} {Q : State → Prop} {i : Int32} {i_z : Int} (X : Cx p c cL_law 7 s #[Value.ref b] lw_tbl RL m G cy κ (fun q : Nat => s.heap.size ≤ q)) (hX : va_X b L xs s s.heap) (hbl : b < s.heap.size) (hbA : ¬ (fun q : Nat => s.heap.size ≤ q) b) (hdc : ∀ Y ∈ DcL, va_Nw (.declares (Bundle.initS Y)) s) (hkl : Kl cL s) (hAo : (fun q : Nat => s.heap.size ≤ q) oq) (hL : L ≤ 3072) (hz_i : i.toInt = i_z) (hi0 : 0 ≤ i_z) (hi1 : i_z + 6 ≤ (L : Int)) (hw : Wd G cy (fun q : Nat => s.heap.size ≤ q) s.heap S H locs) (hG : GX S) (hax : At S x 11) (ham : At S mo 12) (hMI : MI S mo) (hGR : GR S mo) (hTD : TD S x mo) (hLA : LA cL oq H) (hoq : oq ∉ pL S) (hl : lv_has ls 7 [(4, .int i), (3, .ref oq), (2, .ref mo), (1, .ref x), (0, .ref b)]) (hcc : cc + Phc S + 20000 ≤ 601024) (hnn : nn + Phs S + 100000 ≤ 7293034) (K : ∀ (S9 : PS) (H9 : Heap) (locs9 : List Loc) (ls9 : Array Slot) (c9 n9 : Nat), Wd G cy (fun q : Nat => s.heap.size ≤ q) s.heap S9 H9 locs9 → GX S9 → At S9 x 11 → At S9 mo 12 → MI S9 mo → GR S9 mo → TD S9 x mo → LA cL oq H9 → oq ∉ pL S9 → lv_has ls9 7 [(4, .int i), (3, .ref oq), (2, .ref mo), (1, .ref x), (0, .ref b)] → c9 + Phc S9 ≤ cc + Phc S + 102 → n9 + Phs S9 ≤ nn + Phs S + 1020 → W p l e room_1 s m #[Value.ref b] below meth c H9 locs9 c9 n9 Q (F0 m 1505 ls9 [])) : W p l e room_1 s m #[Value.ref b] below meth c H locs cc nn Q (F0 m 911 ls []) := by
  refine lv_aload_n X.1 X.2.1 dL_law_911 rfl (lv_at hl 3 rfl) ?_
  refine lv_aload_n X.1 X.2.1 dL_law_912 rfl (lv_at hl 4 rfl) ?_
  refine lv_iload X.1 X.2.1 dL_law_913 (lv_at hl 0 rfl) ?_
  refine lv_iconst (v := 1) X.1 X.2.1 dL_law_915 (by decide) ?_
  refine lv_iadd X.1 X.2.1 dL_law_916 ?_
  refine lv_topi (fun v_1 ev_1 => ?_)
  have z_2 : v_1.toInt = i_z + 1 := z_add ev_1 hz_i ti_1 (by omega) (by omega)
  refine va_sld X.1 X.2.1 hX hbl hbA hw.2.2 (z_ix rfl (by omega) (by omega)) dL_law_917 ?_
  refine lv_topi (fun v_3 ev_3 => ?_)
  have rg_4 := And.intro (z_lo v_3) (z_hi v_3)
  refine lv_aload_n X.1 X.2.1 dL_law_918 rfl (lv_at hl 4 rfl) ?_
  refine lv_iload X.1 X.2.1 dL_law_919 (lv_at hl 0 rfl) ?_
  refine lv_iconst (v := 2) X.1 X.2.1 dL_law_921 (by decide) ?_
  refine lv_iadd X.1 X.2.1 dL_law_922 ?_
  refine lv_topi (fun v_5 ev_5 => ?_)
  have z_6 : v_5.toInt = i_z + 2 := z_add ev_5 hz_i ti_2 (by omega) (by omega)
  refine va_sld X.1 X.2.1 hX hbl hbA hw.2.2 (z_ix rfl (by omega) (by omega)) dL_law_923 ?_
  refine lv_topi (fun v_7 ev_7 => ?_)
  have rg_8 := And.intro (z_lo v_7) (z_hi v_7)
  refine lv_aload_n X.1 X.2.1 dL_law_924 rfl (lv_at hl 4 rfl) ?_
  refine lv_iload X.1 X.2.1 dL_law_925 (lv_at hl 0 rfl) ?_
  refine lv_iconst (v := 3) X.1 X.2.1 dL_law_927 (by decide) ?_
  refine lv_iadd X.1 X.2.1 dL_law_928 ?_
  refine lv_topi (fun v_9 ev_9 => ?_)
  have z_10 : v_9.toInt = i_z + 3 := z_add ev_9 hz_i ti_3 (by omega) (by omega)
  refine va_sld X.1 X.2.1 hX hbl hbA hw.2.2 (z_ix rfl (by omega) (by omega)) dL_law_929 ?_
  refine lv_topi (fun v_11 ev_11 => ?_)
  have rg_12 := And.intro (z_lo v_11) (z_hi v_11)
  refine k_i (rm := { frames := 2, cells := 0, slots := 0, locals := 96 }) (av := [.ref x, .int (v_3), .int (v_7), .int (v_11)]) X hw (va_runV (As := [.int (v_3), .int (v_7), .int (v_11)]) (rest := []) (cfix X) (k_X11_piece l G cy κ S _ x (v_3) (v_3.toInt) (v_7) (v_7.toInt) (v_11) (v_11.toInt) hG hax rfl rfl rfl) (cwV 3 X.2.2.2.1 gk_X11_piece rfl rfl rfl (by decide +kernel) ⟨Nat.le_of_ble_eq_true rfl, Nat.le_of_ble_eq_true rfl⟩) (pre_V X hw _ hax rfl (by decide) rfl) rfl rfl hl.1 rfl (lv_room (Nat.le_of_ble_eq_true rfl)) dL_law_930 ⟨(by show cc + 0 ≤ 601024; omega), (by show nn + 0 ≤ 7293034; omega)⟩) cc nn (by show cc + 0 ≤ cc; omega) (by show nn + 0 ≤ nn; omega) (fun rr_13 S_14 H locs hp hw hfr hnw => ?_)
  have la_15 := LA_keep hLA hoq hfr
  have oq_16 := oq_keep hLA hoq hnw
  obtain ⟨e2, hp⟩ := hp
  subst e2
  have rg_17 := And.intro (z_lo rr_13) (z_hi rr_13)
  refine lv_pop X.1 X.2.1 dL_law_933 rfl ?_
  refine lv_aload_n X.1 X.2.1 dL_law_934 rfl (lv_at hl 2 rfl) ?_
  refine lv_aload_n X.1 X.2.1 dL_law_935 rfl (lv_at hl 4 rfl) ?_
  refine lv_iload X.1 X.2.1 dL_law_936 (lv_at hl 0 rfl) ?_
  refine lv_iconst (v := 1) X.1 X.2.1 dL_law_938 (by decide) ?_
  refine lv_iadd X.1 X.2.1 dL_law_939 ?_
  refine lv_topi (fun v_18 ev_18 => ?_)
  have z_19 : v_18.toInt = i_z + 1 := z_add ev_18 hz_i ti_1 (by omega) (by omega)
  refine va_sld X.1 X.2.1 hX hbl hbA hw.2.2 (z_ix rfl (by omega) (by omega)) dL_law_940 ?_
  refine lv_topi (fun v_20 ev_20 => ?_)
  have es_21 : v_3 = v_20 := by rw [ev_3, ev_20, ev_1, ev_18]
  subst es_21
  refine lv_aload_n X.1 X.2.1 dL_law_941 rfl (lv_at hl 4 rfl) ?_
  refine lv_iload X.1 X.2.1 dL_law_942 (lv_at hl 0 rfl) ?_
  refine lv_iconst (v := 2) X.1 X.2.1 dL_law_944 (by decide) ?_
  refine lv_iadd X.1 X.2.1 dL_law_945 ?_
  refine lv_topi (fun v_22 ev_22 => ?_)
  have z_23 : v_22.toInt = i_z + 2 := z_add ev_22 hz_i ti_2 (by omega) (by omega)
  refine va_sld X.1 X.2.1 hX hbl hbA hw.2.2 (z_ix rfl (by omega) (by omega)) dL_law_946 ?_
  refine lv_topi (fun v_24 ev_24 => ?_)
  have es_25 : v_7 = v_24 := by rw [ev_7, ev_24, ev_5, ev_22]
  subst es_25
  refine lv_aload_n X.1 X.2.1 dL_law_947 rfl (lv_at hl 4 rfl) ?_
  refine lv_iload X.1 X.2.1 dL_law_948 (lv_at hl 0 rfl) ?_
  refine lv_iconst (v := 3) X.1 X.2.1 dL_law_950 (by decide) ?_
  refine lv_iadd X.1 X.2.1 dL_law_951 ?_
  refine lv_topi (fun v_26 ev_26 => ?_)
  have z_27 : v_26.toInt = i_z + 3 := z_add ev_26 hz_i ti_3 (by omega) (by omega)
  refine va_sld X.1 X.2.1 hX hbl hbA hw.2.2 (z_ix rfl (by omega) (by omega)) dL_law_952 ?_
  refine lv_topi (fun v_28 ev_28 => ?_)
  have es_29 : v_11 = v_28 := by rw [ev_11, ev_28, ev_9, ev_26]
  subst es_29
  refine k_i (rm := { frames := 3, cells := 0, slots := 0, locals := 144 }) (av := [.ref mo, .int (v_3), .int (v_7), .int (v_11)]) X hw (va_runV (As := [.int (v_3), .int (v_7), .int (v_11)]) (rest := []) (cfix X) (k_X12_piece l G cy κ S _ mo (v_3) (v_3.toInt) (v_7) (v_7.toInt) (v_11) (v_11.toInt) hG ham rfl rfl rfl hMI) (cwV 3 X.2.2.2.1 gk_X12_piece rfl rfl rfl (by decide +kernel) ⟨Nat.le_of_ble_eq_true rfl, Nat.le_of_ble_eq_true rfl⟩) (pre_V X hw _ ham rfl (by decide) rfl) rfl rfl hl.1 rfl (lv_room (Nat.le_of_ble_eq_true rfl)) dL_law_953 ⟨(by show cc + 0 ≤ 601024; omega), (by show nn + 0 ≤ 7293034; omega)⟩) cc nn (by show cc + 0 ≤ cc; omega) (by show nn + 0 ≤ nn; omega) (fun rr_30 S_31 H locs hp hw hfr hnw => ?_)
  have la_32 := LA_keep la_15 oq_16 hfr
  have oq_33 := oq_keep la_15 oq_16 hnw
  obtain ⟨hk_34, hp⟩ := hp
  have ax_37 : At S_31 x 11 := hk_34.fr.at hax
  have am_38 : At S_31 mo 12 := hk_34.fr.at ham
  have mi_35 : MI S_31 mo := MIe_free hG ham hk_34.fr (by decide +kernel) hMI
  have gr_36 : GR S_31 mo := GR_free hG ham hk_34.fr (by decide +kernel) hGR
  have ph_39 : Phc S_31 = Phc S := Ph_ok hG hk_34 (by decide +kernel) (by decide +kernel) (by decide +kernel)
  have ph_40 : Phs S_31 = Phs S := Ph_ok hG hk_34 (by decide +kernel) (by decide +kernel) (by decide +kernel)
  have td_41 : TD S_31 x mo := TD_fr hG hk_34.fr hax ham (by decide +kernel) (by decide +kernel) (by decide +kernel) (by decide +kernel) (by decide +kernel) (by decide +kernel) hTD
  have hg_42 : GX S_31 := hk_34.1
  have rg_43 := And.intro (z_lo rr_30) (z_hi rr_30)
  refine lv_pop X.1 X.2.1 dL_law_956 rfl ?_
  refine lv_goto (tgt := 1505) X.1 X.2.1 dL_law_957 (by decide) ?_
  exact K _ _ _ _ cc nn hw hg_42 ax_37 am_38 mi_35 gr_36 td_41 la_32 oq_33 (lv_sub hl [0, 1, 2, 3, 4] rfl) (by omega) (by omega)
set_option maxHeartbeats 4000000 in
set_option maxRecDepth 100000 in
theorem lc_18 {p : Program} {l : Launch} {e : Env} {s : State} {m : MethodId} {below : List Frame} {meth : Method} {c : Code} (hst : l.stackTraces = false) {b x mo oq L : Nat} {xs : Nat → Int32} {cL : ClassId} {G : va_G} {cy : Nat → ClassId} {κ : Nat → Nat} {S : PS} {H : Heap} {locs : List Loc} {ls : Array Slot} {cc nn : Nat} {Q : State → Prop} {i : Int32} {i_z : Int} (X : Cx p c cL_law 7 s #[Value.ref b] lw_tbl RL m G cy κ (fun q : Nat => s.heap.size ≤ q)) (hX : va_X b L xs s s.heap) (hbl : b < s.heap.size) (hbA : ¬ (fun q : Nat => s.heap.size ≤ q) b) (hdc : ∀ Y ∈ DcL, va_Nw (.declares (Bundle.initS Y)) s) (hkl : Kl cL s) (hAo : (fun q : Nat => s.heap.size ≤ q) oq) (hL : L ≤ 3072) (hz_i : i.toInt = i_z) (hi0 : 0 ≤ i_z) (hi1 : i_z + 6 ≤ (L : Int)) (hw : Wd G cy (fun q : Nat => s.heap.size ≤ q) s.heap S H locs) (hG : GX S) (hax : At S x 11) (ham : At S mo 12) (hMI : MI S mo) (hGR : GR S mo) (hTD : TD S x mo) (hLA : LA cL oq H) (hoq : oq ∉ pL S) (hl : lv_has ls 7 [(4, .int i), (3, .ref oq), (2, .ref mo), (1, .ref x), (0, .ref b)]) (hcc : cc + Phc S + 20000 ≤ 601024) (hnn : nn + Phs S + 100000 ≤ 7293034) (K : ∀ (S9 : PS) (H9 : Heap) (locs9 : List Loc) (ls9 : Array Slot) (c9 n9 : Nat), Wd G cy (fun q : Nat => s.heap.size ≤ q) s.heap S9 H9 locs9 → GX S9 → At S9 x 11 → At S9 mo 12 → MI S9 mo → GR S9 mo → TD S9 x mo → LA cL oq H9 → oq ∉ pL S9 → lv_has ls9 7 [(4, .int i), (3, .ref oq), (2, .ref mo), (1, .ref x), (0, .ref b)] → c9 + Phc S9 ≤ cc + Phc S + 102 → n9 + Phs S9 ≤ nn + Phs S + 1020 → W p l e room_1 s m #[Value.ref b] below meth c H9 locs9 c9 n9 Q (F0 m 1505 ls9 [])) : W p l e room_1 s m #[Value.ref b] below meth c H locs cc nn Q (F0 m 960 ls []) := by
  refine lv_aload_n X.1 X.2.1 dL_law_960 rfl (lv_at hl 3 rfl) ?_
  refine lv_aload_n X.1 X.2.1 dL_law_961 rfl (lv_at hl 4 rfl) ?_
  refine lv_iload X.1 X.2.1 dL_law_962 (lv_at hl 0 rfl) ?_
  refine lv_iconst (v := 1) X.1 X.2.1 dL_law_964 (by decide) ?_
  refine lv_iadd X.1 X.2.1 dL_law_965 ?_
  refine lv_topi (fun v_1 ev_1 => ?_)
  have z_2 : v_1.toInt = i_z + 1 := z_add ev_1 hz_i ti_1 (by omega) (by omega)
  refine va_sld X.1 X.2.1 hX hbl hbA hw.2.2 (z_ix rfl (by omega) (by omega)) dL_law_966 ?_
  refine lv_topi (fun v_3 ev_3 => ?_)
  have rg_4 := And.intro (z_lo v_3) (z_hi v_3)
  refine lv_aload_n X.1 X.2.1 dL_law_967 rfl (lv_at hl 4 rfl) ?_
  refine lv_iload X.1 X.2.1 dL_law_968 (lv_at hl 0 rfl) ?_
  refine lv_iconst (v := 2) X.1 X.2.1 dL_law_970 (by decide) ?_
  refine lv_iadd X.1 X.2.1 dL_law_971 ?_
  refine lv_topi (fun v_5 ev_5 => ?_)
  have z_6 : v_5.toInt = i_z + 2 := z_add ev_5 hz_i ti_2 (by omega) (by omega)
  refine va_sld X.1 X.2.1 hX hbl hbA hw.2.2 (z_ix rfl (by omega) (by omega)) dL_law_972 ?_
  refine lv_topi (fun v_7 ev_7 => ?_)
  have rg_8 := And.intro (z_lo v_7) (z_hi v_7)
  refine lv_aload_n X.1 X.2.1 dL_law_973 rfl (lv_at hl 4 rfl) ?_
  refine lv_iload X.1 X.2.1 dL_law_974 (lv_at hl 0 rfl) ?_
  refine lv_iconst (v := 3) X.1 X.2.1 dL_law_976 (by decide) ?_
  refine lv_iadd X.1 X.2.1 dL_law_977 ?_
  refine lv_topi (fun v_9 ev_9 => ?_)
  have z_10 : v_9.toInt = i_z + 3 := z_add ev_9 hz_i ti_3 (by omega) (by omega)
  refine va_sld X.1 X.2.1 hX hbl hbA hw.2.2 (z_ix rfl (by omega) (by omega)) dL_law_978 ?_
  refine lv_topi (fun v_11 ev_11 => ?_)
  have rg_12 := And.intro (z_lo v_11) (z_hi v_11)
  obtain ⟨nu_13, Ks_14, sk_15, hwt_16⟩ := hTD.2.2.2.2.2.2.2.2.2
  obtain ⟨Dw_17, hDw_18, -⟩ := gQ_11_1108 hG hax
  refine k_i (rm := { frames := 4, cells := 0, slots := 0, locals := 192 }) (av := [.ref x, .int (v_3), .int (v_7), .int (v_11)]) X hw (va_runV (As := [.int (v_3), .int (v_7), .int (v_11)]) (rest := []) (cfix X) (k_X11_grade7 l G cy κ S _ x (v_3) (v_3.toInt) (v_7) (v_7.toInt) (v_11) (v_11.toInt) (DC S x) Ks_14 sk_15 Dw_17 hG hax rfl rfl rfl hwt_16.2.1 hwt_16.2.2.1.1 hDw_18) (cwV 3 X.2.2.2.1 gk_X11_grade rfl rfl rfl (by decide +kernel) ⟨Nat.le_of_ble_eq_true rfl, Nat.le_of_ble_eq_true rfl⟩) (pre_V X hw _ hax rfl (by decide) rfl) rfl rfl hl.1 rfl (lv_room (Nat.le_of_ble_eq_true rfl)) dL_law_979 ⟨(by show cc + 0 ≤ 601024; omega), (by show nn + 0 ≤ 7293034; omega)⟩) cc nn (by show cc + 0 ≤ cc; omega) (by show nn + 0 ≤ nn; omega) (fun rr_19 S_20 H locs hp hw hfr hnw => ?_)
  have la_21 := LA_keep hLA hoq hfr
  have oq_22 := oq_keep hLA hoq hnw
  obtain ⟨hk_23, hp⟩ := hp
  have ax_26 : At S_20 x 11 := hk_23.fr.at hax
  have am_27 : At S_20 mo 12 := hk_23.fr.at ham
  have mi_24 : MI S_20 mo := MIe_free hG ham hk_23.fr (by decide +kernel) hMI
  have gr_25 : GR S_20 mo := GR_free hG ham hk_23.fr (by decide +kernel) hGR
  have ph_28 : Phc S_20 = Phc S := Ph_ok hG hk_23 (by decide +kernel) (by decide +kernel) (by decide +kernel)
  have ph_29 : Phs S_20 = Phs S := Ph_ok hG hk_23 (by decide +kernel) (by decide +kernel) (by decide +kernel)
  obtain ⟨⟨q_30, td_31, td_32, td_33⟩, td_34, td_35, ⟨u_36, td_37, td_38, td_39⟩, pn_40, ct_41, th_42, tx_43⟩ := hTD
  have hq_44 := mkhid hp
  have th_45 : pR S_20 1107 x = some q_30 := hk_23.fr.R' (by decide +kernel) hax td_31
  have th_46 : At S_20 q_30 8 := hk_23.fr.at td_32
  have th_49 : pR S_20 1105 x = some u_36 := hk_23.fr.R' (by decide +kernel) hax td_37
  have th_50 : At S_20 u_36 10 := hk_23.fr.at td_38
  have th_47 : pI S_20 801 q_30 = pI S 801 q_30 := hk_23.fr.I' (by decide +kernel) td_32 rfl
  have th_48 : pI S_20 1245 mo = pI S 1245 mo := hk_23.fr.I' (by decide +kernel) ham rfl
  have tf_54 : (pI S_20 1102 x).toInt = (pI S 1102 x).toInt := congrArg Int32.toInt (hk_23.fr.I' (by decide +kernel) hax rfl)
  have tf_55 : (pI S_20 1104 x).toInt = (pI S 1104 x).toInt := congrArg Int32.toInt (hk_23.fr.I' (by decide +kernel) hax rfl)
  have tf_56 : (pI S_20 1201 mo).toInt = (pI S 1201 mo).toInt := congrArg Int32.toInt (hk_23.fr.I' (by decide +kernel) ham rfl)
  have tf_57 : (pI S_20 1211 mo).toInt = (pI S 1211 mo).toInt := congrArg Int32.toInt (hk_23.fr.I' (by decide +kernel) ham rfl)
  have tf_58 : (pI S_20 1000 u_36).toInt = (pI S 1000 u_36).toInt := congrArg Int32.toInt (hk_23.fr.I' (by decide +kernel) td_38 rfl)
  have tf_59 : (pI S_20 1000 u_36).toInt = (pI S 1000 u_36).toInt := congrArg Int32.toInt (hk_23.fr.I' (by decide +kernel) td_38 rfl)
  have tf_60 : (pI S_20 1000 u_36).toInt = (pI S 1000 u_36).toInt := congrArg Int32.toInt (hk_23.fr.I' (by decide +kernel) td_38 rfl)
  have tf_61 : (pI S_20 1228 mo).toInt = (pI S 1228 mo).toInt := congrArg Int32.toInt (hk_23.fr.I' (by decide +kernel) ham rfl)
  have tf_62 : (pI S_20 1228 mo).toInt = (pI S 1228 mo).toInt := congrArg Int32.toInt (hk_23.fr.I' (by decide +kernel) ham rfl)
  have th_64 : mA S_20 mo 1210 = thinF := TH_fr hG hk_23.fr ham (by decide +kernel) th_42
  have ct_63 : CT S_20 x mo := CT_eq hG hk_23.fr hax (by decide +kernel) (by decide +kernel) (S12_fr hG hk_23.fr ham (by decide +kernel)) ct_41
  have th_53 : PN S_20 x := PN_fr hG hax hk_23.fr (by decide +kernel) (by decide +kernel) (by decide +kernel) pn_40
  have hg_66 : GX S_20 := hk_23.1
  have rg_67 := And.intro (z_lo rr_19) (z_hi rr_19)
  refine lv_pop X.1 X.2.1 dL_law_982 rfl ?_
  refine lv_aload_n X.1 X.2.1 dL_law_983 rfl (lv_at hl 2 rfl) ?_
  refine lv_aload_n X.1 X.2.1 dL_law_984 rfl (lv_at hl 4 rfl) ?_
  refine lv_iload X.1 X.2.1 dL_law_985 (lv_at hl 0 rfl) ?_
  refine lv_iconst (v := 1) X.1 X.2.1 dL_law_987 (by decide) ?_
  refine lv_iadd X.1 X.2.1 dL_law_988 ?_
  refine lv_topi (fun v_68 ev_68 => ?_)
  have z_69 : v_68.toInt = i_z + 1 := z_add ev_68 hz_i ti_1 (by omega) (by omega)
  refine va_sld X.1 X.2.1 hX hbl hbA hw.2.2 (z_ix rfl (by omega) (by omega)) dL_law_989 ?_
  refine lv_topi (fun v_70 ev_70 => ?_)
  have es_71 : v_3 = v_70 := by rw [ev_3, ev_70, ev_1, ev_68]
  subst es_71
  refine lv_aload_n X.1 X.2.1 dL_law_990 rfl (lv_at hl 4 rfl) ?_
  refine lv_iload X.1 X.2.1 dL_law_991 (lv_at hl 0 rfl) ?_
  refine lv_iconst (v := 2) X.1 X.2.1 dL_law_993 (by decide) ?_
  refine lv_iadd X.1 X.2.1 dL_law_994 ?_
  refine lv_topi (fun v_72 ev_72 => ?_)
  have z_73 : v_72.toInt = i_z + 2 := z_add ev_72 hz_i ti_2 (by omega) (by omega)
  refine va_sld X.1 X.2.1 hX hbl hbA hw.2.2 (z_ix rfl (by omega) (by omega)) dL_law_995 ?_
  refine lv_topi (fun v_74 ev_74 => ?_)
  have es_75 : v_7 = v_74 := by rw [ev_7, ev_74, ev_5, ev_72]
  subst es_75
  refine lv_aload_n X.1 X.2.1 dL_law_996 rfl (lv_at hl 4 rfl) ?_
  refine lv_iload X.1 X.2.1 dL_law_997 (lv_at hl 0 rfl) ?_
  refine lv_iconst (v := 3) X.1 X.2.1 dL_law_999 (by decide) ?_
  refine lv_iadd X.1 X.2.1 dL_law_1000 ?_
  refine lv_topi (fun v_76 ev_76 => ?_)
  have z_77 : v_76.toInt = i_z + 3 := z_add ev_76 hz_i ti_3 (by omega) (by omega)
  refine va_sld X.1 X.2.1 hX hbl hbA hw.2.2 (z_ix rfl (by omega) (by omega)) dL_law_1001 ?_
  refine lv_topi (fun v_78 ev_78 => ?_)
  have es_79 : v_11 = v_78 := by rw [ev_11, ev_78, ev_9, ev_76]
  subst es_79
  refine k_i (rm := { frames := 5, cells := 0, slots := 0, locals := 240 }) (av := [.ref mo, .int (v_3), .int (v_7), .int (v_11)]) X hw (va_runV (As := [.int (v_3), .int (v_7), .int (v_11)]) (rest := []) (cfix X) (k_X12_grade7 l G cy κ S_20 _ mo (v_3) (v_3.toInt) (v_7) (v_7.toInt) (v_11) (v_11.toInt) (sk_15.map (skN nu_13)) hg_66 am_27 rfl rfl rfl mi_24 (SkW_fr hG ham hk_23.fr (by decide +kernel) hwt_16.2.2.1.2.1)) (cwV 3 X.2.2.2.1 gk_X12_grade rfl rfl rfl (by decide +kernel) ⟨Nat.le_of_ble_eq_true rfl, Nat.le_of_ble_eq_true rfl⟩) (pre_V X hw _ am_27 rfl (by decide) rfl) rfl rfl hl.1 rfl (lv_room (Nat.le_of_ble_eq_true rfl)) dL_law_1002 ⟨(by show cc + 0 ≤ 601024; omega), (by show nn + 0 ≤ 7293034; omega)⟩) cc nn (by show cc + 0 ≤ cc; omega) (by show nn + 0 ≤ nn; omega) (fun rr_80 S_81 H locs hp hw hfr hnw => ?_)
  have la_82 := LA_keep la_21 oq_22 hfr
  have oq_83 := oq_keep la_21 oq_22 hnw
  obtain ⟨hk_84, hp⟩ := hp
  have ax_87 : At S_81 x 11 := hk_84.fr.at ax_26
  have am_88 : At S_81 mo 12 := hk_84.fr.at am_27
  have mi_85 : MI S_81 mo := MIe_free hg_66 am_27 hk_84.fr (by decide +kernel) mi_24
  have gr_86 : GR S_81 mo := GR_free hg_66 am_27 hk_84.fr (by decide +kernel) gr_25
  have ph_89 : Phc S_81 = Phc S_20 := Ph_ok hg_66 hk_84 (by decide +kernel) (by decide +kernel) (by decide +kernel)
  have ph_90 : Phs S_81 = Phs S_20 := Ph_ok hg_66 hk_84 (by decide +kernel) (by decide +kernel) (by decide +kernel)
  have th_91 : pR S_81 1107 x = some q_30 := hk_84.fr.R' (by decide +kernel) ax_26 th_45
  have th_92 : At S_81 q_30 8 := hk_84.fr.at th_46
  have th_95 : pR S_81 1105 x = some u_36 := hk_84.fr.R' (by decide +kernel) ax_26 th_49
  have th_96 : At S_81 u_36 10 := hk_84.fr.at th_50
  have th_93 : pI S_81 801 q_30 = pI S_20 801 q_30 := hk_84.fr.I' (by decide +kernel) th_46 rfl
  have th_94 : pI S_81 1245 mo = pI S_20 1245 mo := hk_84.fr.I' (by decide +kernel) am_27 rfl
  have tf_100 : (pI S_81 1102 x).toInt = (pI S_20 1102 x).toInt := congrArg Int32.toInt (hk_84.fr.I' (by decide +kernel) ax_26 rfl)
  have tf_101 : (pI S_81 1104 x).toInt = (pI S_20 1104 x).toInt := congrArg Int32.toInt (hk_84.fr.I' (by decide +kernel) ax_26 rfl)
  have tf_102 : (pI S_81 1201 mo).toInt = (pI S_20 1201 mo).toInt := congrArg Int32.toInt (hk_84.fr.I' (by decide +kernel) am_27 rfl)
  have tf_103 : (pI S_81 1211 mo).toInt = (pI S_20 1211 mo).toInt := congrArg Int32.toInt (hk_84.fr.I' (by decide +kernel) am_27 rfl)
  have tf_104 : (pI S_81 1000 u_36).toInt = (pI S_20 1000 u_36).toInt := congrArg Int32.toInt (hk_84.fr.I' (by decide +kernel) th_50 rfl)
  have tf_105 : (pI S_81 1000 u_36).toInt = (pI S_20 1000 u_36).toInt := congrArg Int32.toInt (hk_84.fr.I' (by decide +kernel) th_50 rfl)
  have tf_106 : (pI S_81 1000 u_36).toInt = (pI S_20 1000 u_36).toInt := congrArg Int32.toInt (hk_84.fr.I' (by decide +kernel) th_50 rfl)
  have tf_107 : (pI S_81 1228 mo).toInt = (pI S_20 1228 mo).toInt := congrArg Int32.toInt (hk_84.fr.I' (by decide +kernel) am_27 rfl)
  have tf_108 : (pI S_81 1228 mo).toInt = (pI S_20 1228 mo).toInt := congrArg Int32.toInt (hk_84.fr.I' (by decide +kernel) am_27 rfl)
  have th_110 : mA S_81 mo 1210 = thinF := TH_fr hg_66 hk_84.fr am_27 (by decide +kernel) th_64
  have ct_109 : CT S_81 x mo := CT_eq hg_66 hk_84.fr ax_26 (by decide +kernel) (by decide +kernel) (S12_fr hg_66 hk_84.fr am_27 (by decide +kernel)) ct_63
  have th_99 : PN S_81 x := PN_fr hg_66 ax_26 hk_84.fr (by decide +kernel) (by decide +kernel) (by decide +kernel) th_53
  have tz_112 := TX_grade hG hg_66 hax ham hk_23.fr hk_84.fr ct_41 th_42 hMI hDw_18 hwt_16 (unhid hq_44).2.2.1 (unhid hq_44).2.2.2 hp.2.2.1 hp.2.2.2 tx_43
  have td_111 : TD S_81 x mo := ⟨⟨q_30, th_91, th_92, by rw [th_93, th_47, th_94, th_48, td_33]⟩, by omega, by omega, ⟨u_36, th_95, th_96, by omega⟩, th_99, ct_109, th_110, tz_112.1⟩
  have rq_113 : rr_19.toInt = rr_80.toInt := tz_112.2
  have hg_114 : GX S_81 := hk_84.1
  have rg_115 := And.intro (z_lo rr_80) (z_hi rr_80)
  refine lv_pop X.1 X.2.1 dL_law_1005 rfl ?_
  refine lv_goto (tgt := 1505) X.1 X.2.1 dL_law_1006 (by decide) ?_
  exact K _ _ _ _ cc nn hw hg_114 ax_87 am_88 mi_85 gr_86 td_111 la_82 oq_83 (lv_sub hl [0, 1, 2, 3, 4] rfl) (by omega) (by omega)
set_option maxHeartbeats 4000000 in
set_option maxRecDepth 100000 in
theorem lc_19 {p : Program} {l : Launch} {e : Env} {s : State} {m : MethodId} {below : List Frame} {meth : Method} {c : Code} (hst : l.stackTraces = false) {b x mo oq L : Nat} {xs : Nat → Int32} {cL : ClassId} {G : va_G} {cy : Nat → ClassId} {κ : Nat → Nat} {S : PS} {H : Heap} {locs : List Loc} {ls : Array Slot} {cc nn : Nat} {Q : State → Prop} {i : Int32} {i_z : Int} (X : Cx p c cL_law 7 s #[Value.ref b] lw_tbl RL m G cy κ (fun q : Nat => s.heap.size ≤ q)) (hX : va_X b L xs s s.heap) (hbl : b < s.heap.size) (hbA : ¬ (fun q : Nat => s.heap.size ≤ q) b) (hdc : ∀ Y ∈ DcL, va_Nw (.declares (Bundle.initS Y)) s) (hkl : Kl cL s) (hAo : (fun q : Nat => s.heap.size ≤ q) oq) (hL : L ≤ 3072) (hz_i : i.toInt = i_z) (hi0 : 0 ≤ i_z) (hi1 : i_z + 6 ≤ (L : Int)) (hw : Wd G cy (fun q : Nat => s.heap.size ≤ q) s.heap S H locs) (hG : GX S) (hax : At S x 11) (ham : At S mo 12) (hMI : MI S mo) (hGR : GR S mo) (hTD : TD S x mo) (hLA : LA cL oq H) (hoq : oq ∉ pL S) (hl : lv_has ls 7 [(4, .int i), (3, .ref oq), (2, .ref mo), (1, .ref x), (0, .ref b)]) (hcc : cc + Phc S + 20000 ≤ 601024) (hnn : nn + Phs S + 100000 ≤ 7293034) (K : ∀ (S9 : PS) (H9 : Heap) (locs9 : List Loc) (ls9 : Array Slot) (c9 n9 : Nat), Wd G cy (fun q : Nat => s.heap.size ≤ q) s.heap S9 H9 locs9 → GX S9 → At S9 x 11 → At S9 mo 12 → MI S9 mo → GR S9 mo → TD S9 x mo → LA cL oq H9 → oq ∉ pL S9 → lv_has ls9 7 [(4, .int i), (3, .ref oq), (2, .ref mo), (1, .ref x), (0, .ref b)] → c9 + Phc S9 ≤ cc + Phc S + 102 → n9 + Phs S9 ≤ nn + Phs S + 1020 → W p l e room_1 s m #[Value.ref b] below meth c H9 locs9 c9 n9 Q (F0 m 1505 ls9 [])) : W p l e room_1 s m #[Value.ref b] below meth c H locs cc nn Q (F0 m 1009 ls []) := by
  refine lv_aload_n X.1 X.2.1 dL_law_1009 rfl (lv_at hl 3 rfl) ?_
  refine lv_aload_n X.1 X.2.1 dL_law_1010 rfl (lv_at hl 4 rfl) ?_
  refine lv_iload X.1 X.2.1 dL_law_1011 (lv_at hl 0 rfl) ?_
  refine lv_iconst (v := 1) X.1 X.2.1 dL_law_1013 (by decide) ?_
  refine lv_iadd X.1 X.2.1 dL_law_1014 ?_
  refine lv_topi (fun v_1 ev_1 => ?_)
  have z_2 : v_1.toInt = i_z + 1 := z_add ev_1 hz_i ti_1 (by omega) (by omega)
  refine va_sld X.1 X.2.1 hX hbl hbA hw.2.2 (z_ix rfl (by omega) (by omega)) dL_law_1015 ?_
  refine lv_topi (fun v_3 ev_3 => ?_)
  have rg_4 := And.intro (z_lo v_3) (z_hi v_3)
  obtain ⟨nu_5, Ks_6, sk_7, hwt_8⟩ := hTD.2.2.2.2.2.2.2.2.2
  obtain ⟨Dw_9, hDw_10, -⟩ := gQ_11_1108 hG hax
  refine k_i (rm := { frames := 1, cells := 0, slots := 0, locals := 48 }) (av := [.ref x, .int (v_3)]) X hw (va_runV (As := [.int (v_3)]) (rest := []) (cfix X) (k_X11_drawn7 l G cy κ S _ x (v_3) (v_3.toInt) Dw_9 hG hax rfl hDw_10) (cwV 1 X.2.2.2.1 gk_X11_drawn rfl rfl rfl (by decide +kernel) ⟨Nat.le_of_ble_eq_true rfl, Nat.le_of_ble_eq_true rfl⟩) (pre_V X hw _ hax rfl (by decide) rfl) rfl rfl hl.1 rfl (lv_room (Nat.le_of_ble_eq_true rfl)) dL_law_1016 ⟨(by show cc + 0 ≤ 601024; omega), (by show nn + 0 ≤ 7293034; omega)⟩) cc nn (by show cc + 0 ≤ cc; omega) (by show nn + 0 ≤ nn; omega) (fun rr_11 S_12 H locs hp hw hfr hnw => ?_)
  have la_13 := LA_keep hLA hoq hfr
  have oq_14 := oq_keep hLA hoq hnw
  obtain ⟨e2, hp⟩ := hp
  subst e2
  have dn_15 := mkhid hp
  have rg_16 := And.intro (z_lo rr_11) (z_hi rr_11)
  refine lv_aload_n X.1 X.2.1 dL_law_1019 rfl (lv_at hl 2 rfl) ?_
  refine lv_aload_n X.1 X.2.1 dL_law_1020 rfl (lv_at hl 4 rfl) ?_
  refine lv_iload X.1 X.2.1 dL_law_1021 (lv_at hl 0 rfl) ?_
  refine lv_iconst (v := 1) X.1 X.2.1 dL_law_1023 (by decide) ?_
  refine lv_iadd X.1 X.2.1 dL_law_1024 ?_
  refine lv_topi (fun v_17 ev_17 => ?_)
  have z_18 : v_17.toInt = i_z + 1 := z_add ev_17 hz_i ti_1 (by omega) (by omega)
  refine va_sld X.1 X.2.1 hX hbl hbA hw.2.2 (z_ix rfl (by omega) (by omega)) dL_law_1025 ?_
  refine lv_topi (fun v_19 ev_19 => ?_)
  have es_20 : v_3 = v_19 := by rw [ev_3, ev_19, ev_1, ev_17]
  subst es_20
  refine k_i (rm := { frames := 2, cells := 0, slots := 0, locals := 96 }) (av := [.ref mo, .int (v_3)]) X hw (va_runV (As := [.int (v_3)]) (rest := [.int (rr_11)]) (cfix X) (k_X12_drawn7 l G cy κ S _ mo (v_3) (v_3.toInt) hG ham rfl) (cwV 1 X.2.2.2.1 gk_X12_drawn rfl rfl rfl (by decide +kernel) ⟨Nat.le_of_ble_eq_true rfl, Nat.le_of_ble_eq_true rfl⟩) (pre_V X hw _ ham rfl (by decide) rfl) rfl rfl hl.1 rfl (lv_room (Nat.le_of_ble_eq_true rfl)) dL_law_1026 ⟨(by show cc + 0 ≤ 601024; omega), (by show nn + 0 ≤ 7293034; omega)⟩) cc nn (by show cc + 0 ≤ cc; omega) (by show nn + 0 ≤ nn; omega) (fun rr_21 S_22 H locs hp hw hfr hnw => ?_)
  have la_23 := LA_keep la_13 oq_14 hfr
  have oq_24 := oq_keep la_13 oq_14 hnw
  obtain ⟨hk_25, hp⟩ := hp
  have rq_26 : rr_11.toInt = rr_21.toInt := rq_drawn hwt_8.2.2.1.2.2.1 hDw_10 (unhid dn_15).2.2 hp.2.2
  have ax_29 : At S_22 x 11 := hk_25.fr.at hax
  have am_30 : At S_22 mo 12 := hk_25.fr.at ham
  have mi_27 : MI S_22 mo := MIe_free hG ham hk_25.fr (by decide +kernel) hMI
  have gr_28 : GR S_22 mo := GR_free hG ham hk_25.fr (by decide +kernel) hGR
  have ph_31 : Phc S_22 = Phc S := Ph_ok hG hk_25 (by decide +kernel) (by decide +kernel) (by decide +kernel)
  have ph_32 : Phs S_22 = Phs S := Ph_ok hG hk_25 (by decide +kernel) (by decide +kernel) (by decide +kernel)
  have td_33 : TD S_22 x mo := TD_fr hG hk_25.fr hax ham (by decide +kernel) (by decide +kernel) (by decide +kernel) (by decide +kernel) (by decide +kernel) (by decide +kernel) hTD
  have hg_34 : GX S_22 := hk_25.1
  have rg_35 := And.intro (z_lo rr_21) (z_hi rr_21)
  refine lv_icmp_eq (tgt := 1505) X.1 X.2.1 dL_law_1029 (by decide) (fun c_36 => ?_) (fun c_36 => ?_)
  · have z_b_37 := trivial
    have k_38 : rr_11.toInt = rr_21.toInt := z_eq rfl rfl c_36
    exact K _ _ _ _ cc nn hw hg_34 ax_29 am_30 mi_27 gr_28 td_33 la_23 oq_24 (lv_sub hl [0, 1, 2, 3, 4] rfl) (by omega) (by omega)
  · have z_b_39 := trivial
    have k_40 : rr_11.toInt ≠ rr_21.toInt := z_ne rfl rfl c_36
    exfalso; omega
set_option maxHeartbeats 4000000 in
set_option maxRecDepth 100000 in
theorem lc_20 {p : Program} {l : Launch} {e : Env} {s : State} {m : MethodId} {below : List Frame} {meth : Method} {c : Code} (hst : l.stackTraces = false) {b x mo oq L : Nat} {xs : Nat → Int32} {cL : ClassId} {G : va_G} {cy : Nat → ClassId} {κ : Nat → Nat} {S : PS} {H : Heap} {locs : List Loc} {ls : Array Slot} {cc nn : Nat} {Q : State → Prop} {i : Int32} {i_z : Int} (X : Cx p c cL_law 7 s #[Value.ref b] lw_tbl RL m G cy κ (fun q : Nat => s.heap.size ≤ q)) (hX : va_X b L xs s s.heap) (hbl : b < s.heap.size) (hbA : ¬ (fun q : Nat => s.heap.size ≤ q) b) (hdc : ∀ Y ∈ DcL, va_Nw (.declares (Bundle.initS Y)) s) (hkl : Kl cL s) (hAo : (fun q : Nat => s.heap.size ≤ q) oq) (hL : L ≤ 3072) (hz_i : i.toInt = i_z) (hi0 : 0 ≤ i_z) (hi1 : i_z + 6 ≤ (L : Int)) (hw : Wd G cy (fun q : Nat => s.heap.size ≤ q) s.heap S H locs) (hG : GX S) (hax : At S x 11) (ham : At S mo 12) (hMI : MI S mo) (hGR : GR S mo) (hTD : TD S x mo) (hLA : LA cL oq H) (hoq : oq ∉ pL S) (hl : lv_has ls 7 [(4, .int i), (3, .ref oq), (2, .ref mo), (1, .ref x), (0, .ref b)]) (hcc : cc + Phc S + 20000 ≤ 601024) (hnn : nn + Phs S + 100000 ≤ 7293034) (K : ∀ (S9 : PS) (H9 : Heap) (locs9 : List Loc) (ls9 : Array Slot) (c9 n9 : Nat), Wd G cy (fun q : Nat => s.heap.size ≤ q) s.heap S9 H9 locs9 → GX S9 → At S9 x 11 → At S9 mo 12 → MI S9 mo → GR S9 mo → TD S9 x mo → LA cL oq H9 → oq ∉ pL S9 → lv_has ls9 7 [(4, .int i), (3, .ref oq), (2, .ref mo), (1, .ref x), (0, .ref b)] → c9 + Phc S9 ≤ cc + Phc S + 102 → n9 + Phs S9 ≤ nn + Phs S + 1020 → W p l e room_1 s m #[Value.ref b] below meth c H9 locs9 c9 n9 Q (F0 m 1505 ls9 [])) : W p l e room_1 s m #[Value.ref b] below meth c H locs cc nn Q (F0 m 1034 ls []) := by
  refine lv_aload_n X.1 X.2.1 dL_law_1034 rfl (lv_at hl 3 rfl) ?_
  refine lv_aload_n X.1 X.2.1 dL_law_1035 rfl (lv_at hl 4 rfl) ?_
  refine lv_iload X.1 X.2.1 dL_law_1036 (lv_at hl 0 rfl) ?_
  refine lv_iconst (v := 1) X.1 X.2.1 dL_law_1038 (by decide) ?_
  refine lv_iadd X.1 X.2.1 dL_law_1039 ?_
  refine lv_topi (fun v_1 ev_1 => ?_)
  have z_2 : v_1.toInt = i_z + 1 := z_add ev_1 hz_i ti_1 (by omega) (by omega)
  refine va_sld X.1 X.2.1 hX hbl hbA hw.2.2 (z_ix rfl (by omega) (by omega)) dL_law_1040 ?_
  refine lv_topi (fun v_3 ev_3 => ?_)
  have rg_4 := And.intro (z_lo v_3) (z_hi v_3)
  refine lv_aload_n X.1 X.2.1 dL_law_1041 rfl (lv_at hl 4 rfl) ?_
  refine lv_iload X.1 X.2.1 dL_law_1042 (lv_at hl 0 rfl) ?_
  refine lv_iconst (v := 2) X.1 X.2.1 dL_law_1044 (by decide) ?_
  refine lv_iadd X.1 X.2.1 dL_law_1045 ?_
  refine lv_topi (fun v_5 ev_5 => ?_)
  have z_6 : v_5.toInt = i_z + 2 := z_add ev_5 hz_i ti_2 (by omega) (by omega)
  refine va_sld X.1 X.2.1 hX hbl hbA hw.2.2 (z_ix rfl (by omega) (by omega)) dL_law_1046 ?_
  refine lv_topi (fun v_7 ev_7 => ?_)
  have rg_8 := And.intro (z_lo v_7) (z_hi v_7)
  refine lv_aload_n X.1 X.2.1 dL_law_1047 rfl (lv_at hl 4 rfl) ?_
  refine lv_iload X.1 X.2.1 dL_law_1048 (lv_at hl 0 rfl) ?_
  refine lv_iconst (v := 3) X.1 X.2.1 dL_law_1050 (by decide) ?_
  refine lv_iadd X.1 X.2.1 dL_law_1051 ?_
  refine lv_topi (fun v_9 ev_9 => ?_)
  have z_10 : v_9.toInt = i_z + 3 := z_add ev_9 hz_i ti_3 (by omega) (by omega)
  refine va_sld X.1 X.2.1 hX hbl hbA hw.2.2 (z_ix rfl (by omega) (by omega)) dL_law_1052 ?_
  refine lv_topi (fun v_11 ev_11 => ?_)
  have rg_12 := And.intro (z_lo v_11) (z_hi v_11)
  refine lv_aload_n X.1 X.2.1 dL_law_1053 rfl (lv_at hl 4 rfl) ?_
  refine lv_iload X.1 X.2.1 dL_law_1054 (lv_at hl 0 rfl) ?_
  refine lv_iconst (v := 4) X.1 X.2.1 dL_law_1056 (by decide) ?_
  refine lv_iadd X.1 X.2.1 dL_law_1057 ?_
  refine lv_topi (fun v_13 ev_13 => ?_)
  have z_14 : v_13.toInt = i_z + 4 := z_add ev_13 hz_i ti_4 (by omega) (by omega)
  refine va_sld X.1 X.2.1 hX hbl hbA hw.2.2 (z_ix rfl (by omega) (by omega)) dL_law_1058 ?_
  refine lv_topi (fun v_15 ev_15 => ?_)
  have rg_16 := And.intro (z_lo v_15) (z_hi v_15)
  refine k_i (rm := { frames := 3, cells := 0, slots := 0, locals := 144 }) (av := [.ref x, .int (v_3), .int (v_7), .int (v_11), .int (v_15)]) X hw (va_runV (As := [.int (v_3), .int (v_7), .int (v_11), .int (v_15)]) (rest := []) (cfix X) (k_X11_shelve3 l G cy κ S _ x (v_3) (v_3.toInt) (v_7) (v_7.toInt) (v_11) (v_11.toInt) (v_15) (v_15.toInt) hG hax rfl rfl rfl rfl) (cwV 4 X.2.2.2.1 gk_X11_shelve rfl rfl rfl (by decide +kernel) ⟨Nat.le_of_ble_eq_true rfl, Nat.le_of_ble_eq_true rfl⟩) (pre_V X hw _ hax rfl (by decide) rfl) rfl rfl hl.1 rfl (lv_room (Nat.le_of_ble_eq_true rfl)) dL_law_1059 ⟨(by show cc + 0 ≤ 601024; omega), (by show nn + 0 ≤ 7293034; omega)⟩) cc nn (by show cc + 0 ≤ cc; omega) (by show nn + 0 ≤ nn; omega) (fun rr_17 S_18 H locs hp hw hfr hnw => ?_)
  have la_19 := LA_keep hLA hoq hfr
  have oq_20 := oq_keep hLA hoq hnw
  obtain ⟨hk_21, hp⟩ := hp
  have ax_24 : At S_18 x 11 := hk_21.fr.at hax
  have am_25 : At S_18 mo 12 := hk_21.fr.at ham
  have mi_22 : MI S_18 mo := MIe_free hG ham hk_21.fr (by decide +kernel) hMI
  have gr_23 : GR S_18 mo := GR_free hG ham hk_21.fr (by decide +kernel) hGR
  have ph_26 : Phc S_18 = Phc S := Ph_ok hG hk_21 (by decide +kernel) (by decide +kernel) (by decide +kernel)
  have ph_27 : Phs S_18 = Phs S := Ph_ok hG hk_21 (by decide +kernel) (by decide +kernel) (by decide +kernel)
  obtain ⟨⟨q_28, td_29, td_30, td_31⟩, td_32, td_33, ⟨u_34, td_35, td_36, td_37⟩, pn_38, ct_39, th_40, tx_41⟩ := hTD
  have hq_42 := mkhid hp
  have th_43 : pR S_18 1107 x = some q_28 := hk_21.fr.R' (by decide +kernel) hax td_29
  have th_44 : At S_18 q_28 8 := hk_21.fr.at td_30
  have th_47 : pR S_18 1105 x = some u_34 := hk_21.fr.R' (by decide +kernel) hax td_35
  have th_48 : At S_18 u_34 10 := hk_21.fr.at td_36
  have th_45 : pI S_18 801 q_28 = pI S 801 q_28 := hk_21.fr.I' (by decide +kernel) td_30 rfl
  have th_46 : pI S_18 1245 mo = pI S 1245 mo := hk_21.fr.I' (by decide +kernel) ham rfl
  have tf_52 : (pI S_18 1102 x).toInt = (pI S 1102 x).toInt := congrArg Int32.toInt (hk_21.fr.I' (by decide +kernel) hax rfl)
  have tf_53 : (pI S_18 1104 x).toInt = (pI S 1104 x).toInt := congrArg Int32.toInt (hk_21.fr.I' (by decide +kernel) hax rfl)
  have tf_54 : (pI S_18 1201 mo).toInt = (pI S 1201 mo).toInt := congrArg Int32.toInt (hk_21.fr.I' (by decide +kernel) ham rfl)
  have tf_55 : (pI S_18 1211 mo).toInt = (pI S 1211 mo).toInt := congrArg Int32.toInt (hk_21.fr.I' (by decide +kernel) ham rfl)
  have tf_56 : (pI S_18 1000 u_34).toInt = (pI S 1000 u_34).toInt := congrArg Int32.toInt (hk_21.fr.I' (by decide +kernel) td_36 rfl)
  have tf_57 : (pI S_18 1000 u_34).toInt = (pI S 1000 u_34).toInt := congrArg Int32.toInt (hk_21.fr.I' (by decide +kernel) td_36 rfl)
  have tf_58 : (pI S_18 1000 u_34).toInt = (pI S 1000 u_34).toInt := congrArg Int32.toInt (hk_21.fr.I' (by decide +kernel) td_36 rfl)
  have tf_59 : (pI S_18 1228 mo).toInt = (pI S 1228 mo).toInt := congrArg Int32.toInt (hk_21.fr.I' (by decide +kernel) ham rfl)
  have tf_60 : (pI S_18 1228 mo).toInt = (pI S 1228 mo).toInt := congrArg Int32.toInt (hk_21.fr.I' (by decide +kernel) ham rfl)
  have th_62 : mA S_18 mo 1210 = thinF := TH_fr hG hk_21.fr ham (by decide +kernel) th_40
  have ct_61 : CT S_18 x mo := CT_eq hG hk_21.fr hax (by decide +kernel) (by decide +kernel) (S12_fr hG hk_21.fr ham (by decide +kernel)) ct_39
  have th_51 : PN S_18 x := PN_fr hG hax hk_21.fr (by decide +kernel) (by decide +kernel) (by decide +kernel) pn_38
  have hg_64 : GX S_18 := hk_21.1
  have rg_65 := And.intro (z_lo rr_17) (z_hi rr_17)
  refine lv_pop X.1 X.2.1 dL_law_1062 rfl ?_
  refine lv_aload_n X.1 X.2.1 dL_law_1063 rfl (lv_at hl 2 rfl) ?_
  refine lv_aload_n X.1 X.2.1 dL_law_1064 rfl (lv_at hl 4 rfl) ?_
  refine lv_iload X.1 X.2.1 dL_law_1065 (lv_at hl 0 rfl) ?_
  refine lv_iconst (v := 1) X.1 X.2.1 dL_law_1067 (by decide) ?_
  refine lv_iadd X.1 X.2.1 dL_law_1068 ?_
  refine lv_topi (fun v_66 ev_66 => ?_)
  have z_67 : v_66.toInt = i_z + 1 := z_add ev_66 hz_i ti_1 (by omega) (by omega)
  refine va_sld X.1 X.2.1 hX hbl hbA hw.2.2 (z_ix rfl (by omega) (by omega)) dL_law_1069 ?_
  refine lv_topi (fun v_68 ev_68 => ?_)
  have es_69 : v_3 = v_68 := by rw [ev_3, ev_68, ev_1, ev_66]
  subst es_69
  refine lv_aload_n X.1 X.2.1 dL_law_1070 rfl (lv_at hl 4 rfl) ?_
  refine lv_iload X.1 X.2.1 dL_law_1071 (lv_at hl 0 rfl) ?_
  refine lv_iconst (v := 2) X.1 X.2.1 dL_law_1073 (by decide) ?_
  refine lv_iadd X.1 X.2.1 dL_law_1074 ?_
  refine lv_topi (fun v_70 ev_70 => ?_)
  have z_71 : v_70.toInt = i_z + 2 := z_add ev_70 hz_i ti_2 (by omega) (by omega)
  refine va_sld X.1 X.2.1 hX hbl hbA hw.2.2 (z_ix rfl (by omega) (by omega)) dL_law_1075 ?_
  refine lv_topi (fun v_72 ev_72 => ?_)
  have es_73 : v_7 = v_72 := by rw [ev_7, ev_72, ev_5, ev_70]
  subst es_73
  refine lv_aload_n X.1 X.2.1 dL_law_1076 rfl (lv_at hl 4 rfl) ?_
  refine lv_iload X.1 X.2.1 dL_law_1077 (lv_at hl 0 rfl) ?_
  refine lv_iconst (v := 3) X.1 X.2.1 dL_law_1079 (by decide) ?_
  refine lv_iadd X.1 X.2.1 dL_law_1080 ?_
  refine lv_topi (fun v_74 ev_74 => ?_)
  have z_75 : v_74.toInt = i_z + 3 := z_add ev_74 hz_i ti_3 (by omega) (by omega)
  refine va_sld X.1 X.2.1 hX hbl hbA hw.2.2 (z_ix rfl (by omega) (by omega)) dL_law_1081 ?_
  refine lv_topi (fun v_76 ev_76 => ?_)
  have es_77 : v_11 = v_76 := by rw [ev_11, ev_76, ev_9, ev_74]
  subst es_77
  refine lv_aload_n X.1 X.2.1 dL_law_1082 rfl (lv_at hl 4 rfl) ?_
  refine lv_iload X.1 X.2.1 dL_law_1083 (lv_at hl 0 rfl) ?_
  refine lv_iconst (v := 4) X.1 X.2.1 dL_law_1085 (by decide) ?_
  refine lv_iadd X.1 X.2.1 dL_law_1086 ?_
  refine lv_topi (fun v_78 ev_78 => ?_)
  have z_79 : v_78.toInt = i_z + 4 := z_add ev_78 hz_i ti_4 (by omega) (by omega)
  refine va_sld X.1 X.2.1 hX hbl hbA hw.2.2 (z_ix rfl (by omega) (by omega)) dL_law_1087 ?_
  refine lv_topi (fun v_80 ev_80 => ?_)
  have es_81 : v_15 = v_80 := by rw [ev_15, ev_80, ev_13, ev_78]
  subst es_81
  refine k_i (rm := { frames := 3, cells := 0, slots := 0, locals := 144 }) (av := [.ref mo, .int (v_3), .int (v_7), .int (v_11), .int (v_15)]) X hw (va_runV (As := [.int (v_3), .int (v_7), .int (v_11), .int (v_15)]) (rest := []) (cfix X) (k_X12_shelve3 l G cy κ S_18 _ mo (v_3) (v_3.toInt) (v_7) (v_7.toInt) (v_11) (v_11.toInt) (v_15) (v_15.toInt) hg_64 am_25 rfl rfl rfl rfl mi_22) (cwV 4 X.2.2.2.1 gk_X12_shelve rfl rfl rfl (by decide +kernel) ⟨Nat.le_of_ble_eq_true rfl, Nat.le_of_ble_eq_true rfl⟩) (pre_V X hw _ am_25 rfl (by decide) rfl) rfl rfl hl.1 rfl (lv_room (Nat.le_of_ble_eq_true rfl)) dL_law_1088 ⟨(by show cc + 0 ≤ 601024; omega), (by show nn + 0 ≤ 7293034; omega)⟩) cc nn (by show cc + 0 ≤ cc; omega) (by show nn + 0 ≤ nn; omega) (fun rr_82 S_83 H locs hp hw hfr hnw => ?_)
  have la_84 := LA_keep la_19 oq_20 hfr
  have oq_85 := oq_keep la_19 oq_20 hnw
  obtain ⟨hk_86, hp⟩ := hp
  have ax_89 : At S_83 x 11 := hk_86.fr.at ax_24
  have am_90 : At S_83 mo 12 := hk_86.fr.at am_25
  have mi_87 : MI S_83 mo := (by rcases hp with ⟨h, -⟩ | ⟨h, -⟩ <;> exact h.1)
  have gr_88 : GR S_83 mo := GR_fr hg_64 am_25 hk_86.fr (by decide +kernel) (by decide +kernel) gr_23
  have ph_91 : Phc S_83 = Phc S_18 := Ph_ok hg_64 hk_86 (by decide +kernel) (by decide +kernel) (by decide +kernel)
  have ph_92 : Phs S_83 = Phs S_18 := Ph_ok hg_64 hk_86 (by decide +kernel) (by decide +kernel) (by decide +kernel)
  have th_93 : pR S_83 1107 x = some q_28 := hk_86.fr.R' (by decide +kernel) ax_24 th_43
  have th_94 : At S_83 q_28 8 := hk_86.fr.at th_44
  have th_97 : pR S_83 1105 x = some u_34 := hk_86.fr.R' (by decide +kernel) ax_24 th_47
  have th_98 : At S_83 u_34 10 := hk_86.fr.at th_48
  have th_95 : pI S_83 801 q_28 = pI S_18 801 q_28 := hk_86.fr.I' (by decide +kernel) th_44 rfl
  have th_96 : pI S_83 1245 mo = pI S_18 1245 mo := hk_86.fr.I' (by decide +kernel) am_25 rfl
  have tf_102 : (pI S_83 1102 x).toInt = (pI S_18 1102 x).toInt := congrArg Int32.toInt (hk_86.fr.I' (by decide +kernel) ax_24 rfl)
  have tf_103 : (pI S_83 1104 x).toInt = (pI S_18 1104 x).toInt := congrArg Int32.toInt (hk_86.fr.I' (by decide +kernel) ax_24 rfl)
  have tf_104 : (pI S_83 1201 mo).toInt = (pI S_18 1201 mo).toInt := congrArg Int32.toInt (hk_86.fr.I' (by decide +kernel) am_25 rfl)
  have tf_105 : (pI S_83 1211 mo).toInt = (pI S_18 1211 mo).toInt := congrArg Int32.toInt (hk_86.fr.I' (by decide +kernel) am_25 rfl)
  have tf_106 : (pI S_83 1000 u_34).toInt = (pI S_18 1000 u_34).toInt := congrArg Int32.toInt (hk_86.fr.I' (by decide +kernel) th_48 rfl)
  have tf_107 : (pI S_83 1000 u_34).toInt = (pI S_18 1000 u_34).toInt := congrArg Int32.toInt (hk_86.fr.I' (by decide +kernel) th_48 rfl)
  have tf_108 : (pI S_83 1000 u_34).toInt = (pI S_18 1000 u_34).toInt := congrArg Int32.toInt (hk_86.fr.I' (by decide +kernel) th_48 rfl)
  have tf_109 : (pI S_83 1228 mo).toInt = (pI S_18 1228 mo).toInt := congrArg Int32.toInt (hk_86.fr.I' (by decide +kernel) am_25 rfl)
  have tf_110 : (pI S_83 1228 mo).toInt = (pI S_18 1228 mo).toInt := congrArg Int32.toInt (hk_86.fr.I' (by decide +kernel) am_25 rfl)
  have th_112 : mA S_83 mo 1210 = thinF := TH_fr hg_64 hk_86.fr am_25 (by decide +kernel) th_62
  have ct_111 : CT S_83 x mo := CT_eq hg_64 hk_86.fr ax_24 (by decide +kernel) (by decide +kernel) (S12_fr hg_64 hk_86.fr am_25 (by decide +kernel)) ct_61
  have th_101 : PN S_83 x := PN_fr hg_64 ax_24 hk_86.fr (by decide +kernel) (by decide +kernel) (by decide +kernel) th_51
  have tz_115 := TX_shelve hG hg_64 hax ham hk_21.fr hk_86.fr ct_39 td_32 rfl (unhid hq_42) hp tx_41
  have td_113 : TD S_83 x mo := ⟨⟨q_28, th_93, th_94, by rw [th_95, th_45, th_96, th_46, td_31]⟩, by omega, by omega, ⟨u_34, th_97, th_98, by omega⟩, th_101, ct_111, th_112, tz_115.1⟩
  have rq_116 : rr_17.toInt = rr_82.toInt := congrArg Int32.toInt tz_115.2
  have hg_117 : GX S_83 := hk_86.1
  have rg_118 := And.intro (z_lo rr_82) (z_hi rr_82)
  refine lv_pop X.1 X.2.1 dL_law_1091 rfl ?_
  refine lv_goto (tgt := 1505) X.1 X.2.1 dL_law_1092 (by decide) ?_
  exact K _ _ _ _ cc nn hw hg_117 ax_89 am_90 mi_87 gr_88 td_113 la_84 oq_85 (lv_sub hl [0, 1, 2, 3, 4] rfl) (by omega) (by omega)
set_option maxHeartbeats 4000000 in
set_option maxRecDepth 100000 in
theorem lc_21 {p : Program} {l : Launch} {e : Env} {s : State} {m : MethodId} {below : List Frame} {meth : Method} {c : Code} (hst : l.stackTraces = false) {b x mo oq L : Nat} {xs : Nat → Int32} {cL : ClassId} {G : va_G} {cy : Nat → ClassId} {κ : Nat → Nat} {S : PS} {H : Heap} {locs : List Loc} {ls : Array Slot} {cc nn : Nat} {Q : State → Prop} {i : Int32} {i_z : Int} (X : Cx p c cL_law 7 s #[Value.ref b] lw_tbl RL m G cy κ (fun q : Nat => s.heap.size ≤ q)) (hX : va_X b L xs s s.heap) (hbl : b < s.heap.size) (hbA : ¬ (fun q : Nat => s.heap.size ≤ q) b) (hdc : ∀ Y ∈ DcL, va_Nw (.declares (Bundle.initS Y)) s) (hkl : Kl cL s) (hAo : (fun q : Nat => s.heap.size ≤ q) oq) (hL : L ≤ 3072) (hz_i : i.toInt = i_z) (hi0 : 0 ≤ i_z) (hi1 : i_z + 6 ≤ (L : Int)) (hw : Wd G cy (fun q : Nat => s.heap.size ≤ q) s.heap S H locs) (hG : GX S) (hax : At S x 11) (ham : At S mo 12) (hMI : MI S mo) (hGR : GR S mo) (hTD : TD S x mo) (hLA : LA cL oq H) (hoq : oq ∉ pL S) (hl : lv_has ls 7 [(4, .int i), (3, .ref oq), (2, .ref mo), (1, .ref x), (0, .ref b)]) (hcc : cc + Phc S + 20000 ≤ 601024) (hnn : nn + Phs S + 100000 ≤ 7293034) (K : ∀ (S9 : PS) (H9 : Heap) (locs9 : List Loc) (ls9 : Array Slot) (c9 n9 : Nat), Wd G cy (fun q : Nat => s.heap.size ≤ q) s.heap S9 H9 locs9 → GX S9 → At S9 x 11 → At S9 mo 12 → MI S9 mo → GR S9 mo → TD S9 x mo → LA cL oq H9 → oq ∉ pL S9 → lv_has ls9 7 [(4, .int i), (3, .ref oq), (2, .ref mo), (1, .ref x), (0, .ref b)] → c9 + Phc S9 ≤ cc + Phc S + 102 → n9 + Phs S9 ≤ nn + Phs S + 1020 → W p l e room_1 s m #[Value.ref b] below meth c H9 locs9 c9 n9 Q (F0 m 1505 ls9 [])) : W p l e room_1 s m #[Value.ref b] below meth c H locs cc nn Q (F0 m 1095 ls []) := by
  refine lv_aload_n X.1 X.2.1 dL_law_1095 rfl (lv_at hl 3 rfl) ?_
  refine lv_aload_n X.1 X.2.1 dL_law_1096 rfl (lv_at hl 4 rfl) ?_
  refine lv_iload X.1 X.2.1 dL_law_1097 (lv_at hl 0 rfl) ?_
  refine lv_iconst (v := 1) X.1 X.2.1 dL_law_1099 (by decide) ?_
  refine lv_iadd X.1 X.2.1 dL_law_1100 ?_
  refine lv_topi (fun v_1 ev_1 => ?_)
  have z_2 : v_1.toInt = i_z + 1 := z_add ev_1 hz_i ti_1 (by omega) (by omega)
  refine va_sld X.1 X.2.1 hX hbl hbA hw.2.2 (z_ix rfl (by omega) (by omega)) dL_law_1101 ?_
  refine lv_topi (fun v_3 ev_3 => ?_)
  have rg_4 := And.intro (z_lo v_3) (z_hi v_3)
  refine lv_aload_n X.1 X.2.1 dL_law_1102 rfl (lv_at hl 4 rfl) ?_
  refine lv_iload X.1 X.2.1 dL_law_1103 (lv_at hl 0 rfl) ?_
  refine lv_iconst (v := 2) X.1 X.2.1 dL_law_1105 (by decide) ?_
  refine lv_iadd X.1 X.2.1 dL_law_1106 ?_
  refine lv_topi (fun v_5 ev_5 => ?_)
  have z_6 : v_5.toInt = i_z + 2 := z_add ev_5 hz_i ti_2 (by omega) (by omega)
  refine va_sld X.1 X.2.1 hX hbl hbA hw.2.2 (z_ix rfl (by omega) (by omega)) dL_law_1107 ?_
  refine lv_topi (fun v_7 ev_7 => ?_)
  have rg_8 := And.intro (z_lo v_7) (z_hi v_7)
  refine k_i (rm := { frames := 4, cells := 0, slots := 0, locals := 192 }) (av := [.ref x, .int (v_3), .int (v_7)]) X hw (va_runV (As := [.int (v_3), .int (v_7)]) (rest := []) (cfix X) (k_X11_take3 l G cy κ S _ x (v_3) (v_3.toInt) (v_7) (v_7.toInt) hG hax rfl rfl) (cwV 2 X.2.2.2.1 gk_X11_take rfl rfl rfl (by decide +kernel) ⟨Nat.le_of_ble_eq_true rfl, Nat.le_of_ble_eq_true rfl⟩) (pre_V X hw _ hax rfl (by decide) rfl) rfl rfl hl.1 rfl (lv_room (Nat.le_of_ble_eq_true rfl)) dL_law_1108 ⟨(by show cc + 0 ≤ 601024; omega), (by show nn + 0 ≤ 7293034; omega)⟩) cc nn (by show cc + 0 ≤ cc; omega) (by show nn + 0 ≤ nn; omega) (fun rr_9 S_10 H locs hp hw hfr hnw => ?_)
  have la_11 := LA_keep hLA hoq hfr
  have oq_12 := oq_keep hLA hoq hnw
  obtain ⟨hk_13, hp⟩ := hp
  have ax_16 : At S_10 x 11 := hk_13.fr.at hax
  have am_17 : At S_10 mo 12 := hk_13.fr.at ham
  have mi_14 : MI S_10 mo := MIe_free hG ham hk_13.fr (by decide +kernel) hMI
  have gr_15 : GR S_10 mo := GR_free hG ham hk_13.fr (by decide +kernel) hGR
  have ph_18 : Phc S_10 = Phc S := Ph_ok hG hk_13 (by decide +kernel) (by decide +kernel) (by decide +kernel)
  have ph_19 : Phs S_10 = Phs S := Ph_ok hG hk_13 (by decide +kernel) (by decide +kernel) (by decide +kernel)
  obtain ⟨⟨q_20, td_21, td_22, td_23⟩, td_24, td_25, ⟨u_26, td_27, td_28, td_29⟩, pn_30, ct_31, th_32, tx_33⟩ := hTD
  have hq_34 := mkhid hp
  have th_35 : pR S_10 1107 x = some q_20 := hk_13.fr.R' (by decide +kernel) hax td_21
  have th_36 : At S_10 q_20 8 := hk_13.fr.at td_22
  have th_39 : pR S_10 1105 x = some u_26 := hk_13.fr.R' (by decide +kernel) hax td_27
  have th_40 : At S_10 u_26 10 := hk_13.fr.at td_28
  have th_37 : pI S_10 801 q_20 = pI S 801 q_20 := hk_13.fr.I' (by decide +kernel) td_22 rfl
  have th_38 : pI S_10 1245 mo = pI S 1245 mo := hk_13.fr.I' (by decide +kernel) ham rfl
  have tf_44 : (pI S_10 1102 x).toInt = (pI S 1102 x).toInt := congrArg Int32.toInt (hk_13.fr.I' (by decide +kernel) hax rfl)
  have tf_45 : (pI S_10 1104 x).toInt = (pI S 1104 x).toInt := congrArg Int32.toInt (hk_13.fr.I' (by decide +kernel) hax rfl)
  have tf_46 : (pI S_10 1201 mo).toInt = (pI S 1201 mo).toInt := congrArg Int32.toInt (hk_13.fr.I' (by decide +kernel) ham rfl)
  have tf_47 : (pI S_10 1211 mo).toInt = (pI S 1211 mo).toInt := congrArg Int32.toInt (hk_13.fr.I' (by decide +kernel) ham rfl)
  have tf_48 : (pI S_10 1000 u_26).toInt = (pI S 1000 u_26).toInt := congrArg Int32.toInt (hk_13.fr.I' (by decide +kernel) td_28 rfl)
  have tf_49 : (pI S_10 1000 u_26).toInt = (pI S 1000 u_26).toInt := congrArg Int32.toInt (hk_13.fr.I' (by decide +kernel) td_28 rfl)
  have tf_50 : (pI S_10 1000 u_26).toInt = (pI S 1000 u_26).toInt := congrArg Int32.toInt (hk_13.fr.I' (by decide +kernel) td_28 rfl)
  have tf_51 : (pI S_10 1228 mo).toInt = (pI S 1228 mo).toInt := congrArg Int32.toInt (hk_13.fr.I' (by decide +kernel) ham rfl)
  have tf_52 : (pI S_10 1228 mo).toInt = (pI S 1228 mo).toInt := congrArg Int32.toInt (hk_13.fr.I' (by decide +kernel) ham rfl)
  have th_54 : mA S_10 mo 1210 = thinF := TH_fr hG hk_13.fr ham (by decide +kernel) th_32
  have ct_53 : CT S_10 x mo := CT_eq hG hk_13.fr hax (by decide +kernel) (by decide +kernel) (S12_fr hG hk_13.fr ham (by decide +kernel)) ct_31
  have th_43 : PN S_10 x := PN_fr hG hax hk_13.fr (by decide +kernel) (by decide +kernel) (by decide +kernel) pn_30
  have hg_56 : GX S_10 := hk_13.1
  have rg_57 := And.intro (z_lo rr_9) (z_hi rr_9)
  refine lv_pop X.1 X.2.1 dL_law_1111 rfl ?_
  refine lv_aload_n X.1 X.2.1 dL_law_1112 rfl (lv_at hl 2 rfl) ?_
  refine lv_aload_n X.1 X.2.1 dL_law_1113 rfl (lv_at hl 4 rfl) ?_
  refine lv_iload X.1 X.2.1 dL_law_1114 (lv_at hl 0 rfl) ?_
  refine lv_iconst (v := 1) X.1 X.2.1 dL_law_1116 (by decide) ?_
  refine lv_iadd X.1 X.2.1 dL_law_1117 ?_
  refine lv_topi (fun v_58 ev_58 => ?_)
  have z_59 : v_58.toInt = i_z + 1 := z_add ev_58 hz_i ti_1 (by omega) (by omega)
  refine va_sld X.1 X.2.1 hX hbl hbA hw.2.2 (z_ix rfl (by omega) (by omega)) dL_law_1118 ?_
  refine lv_topi (fun v_60 ev_60 => ?_)
  have es_61 : v_3 = v_60 := by rw [ev_3, ev_60, ev_1, ev_58]
  subst es_61
  refine lv_aload_n X.1 X.2.1 dL_law_1119 rfl (lv_at hl 4 rfl) ?_
  refine lv_iload X.1 X.2.1 dL_law_1120 (lv_at hl 0 rfl) ?_
  refine lv_iconst (v := 2) X.1 X.2.1 dL_law_1122 (by decide) ?_
  refine lv_iadd X.1 X.2.1 dL_law_1123 ?_
  refine lv_topi (fun v_62 ev_62 => ?_)
  have z_63 : v_62.toInt = i_z + 2 := z_add ev_62 hz_i ti_2 (by omega) (by omega)
  refine va_sld X.1 X.2.1 hX hbl hbA hw.2.2 (z_ix rfl (by omega) (by omega)) dL_law_1124 ?_
  refine lv_topi (fun v_64 ev_64 => ?_)
  have es_65 : v_7 = v_64 := by rw [ev_7, ev_64, ev_5, ev_62]
  subst es_65
  refine k_i (rm := { frames := 2, cells := 0, slots := 0, locals := 96 }) (av := [.ref mo, .int (v_3), .int (v_7)]) X hw (va_runV (As := [.int (v_3), .int (v_7)]) (rest := []) (cfix X) (k_X12_take3 l G cy κ S_10 _ mo (v_3) (v_3.toInt) (v_7) (v_7.toInt) hg_56 am_17 rfl rfl mi_14) (cwV 2 X.2.2.2.1 gk_X12_take rfl rfl rfl (by decide +kernel) ⟨Nat.le_of_ble_eq_true rfl, Nat.le_of_ble_eq_true rfl⟩) (pre_V X hw _ am_17 rfl (by decide) rfl) rfl rfl hl.1 rfl (lv_room (Nat.le_of_ble_eq_true rfl)) dL_law_1125 ⟨(by show cc + 0 ≤ 601024; omega), (by show nn + 0 ≤ 7293034; omega)⟩) cc nn (by show cc + 0 ≤ cc; omega) (by show nn + 0 ≤ nn; omega) (fun rr_66 S_67 H locs hp hw hfr hnw => ?_)
  have la_68 := LA_keep la_11 oq_12 hfr
  have oq_69 := oq_keep la_11 oq_12 hnw
  obtain ⟨hk_70, hp⟩ := hp
  have ax_73 : At S_67 x 11 := hk_70.fr.at ax_16
  have am_74 : At S_67 mo 12 := hk_70.fr.at am_17
  have mi_71 : MI S_67 mo := hp.1
  have gr_72 : GR S_67 mo := GR_fr hg_56 am_17 hk_70.fr (by decide +kernel) (by decide +kernel) gr_15
  have ph_75 : Phc S_67 = Phc S_10 := Ph_ok hg_56 hk_70 (by decide +kernel) (by decide +kernel) (by decide +kernel)
  have ph_76 : Phs S_67 = Phs S_10 := Ph_ok hg_56 hk_70 (by decide +kernel) (by decide +kernel) (by decide +kernel)
  have th_77 : pR S_67 1107 x = some q_20 := hk_70.fr.R' (by decide +kernel) ax_16 th_35
  have th_78 : At S_67 q_20 8 := hk_70.fr.at th_36
  have th_81 : pR S_67 1105 x = some u_26 := hk_70.fr.R' (by decide +kernel) ax_16 th_39
  have th_82 : At S_67 u_26 10 := hk_70.fr.at th_40
  have th_79 : pI S_67 801 q_20 = pI S_10 801 q_20 := hk_70.fr.I' (by decide +kernel) th_36 rfl
  have th_80 : pI S_67 1245 mo = pI S_10 1245 mo := hk_70.fr.I' (by decide +kernel) am_17 rfl
  have tf_86 : (pI S_67 1102 x).toInt = (pI S_10 1102 x).toInt := congrArg Int32.toInt (hk_70.fr.I' (by decide +kernel) ax_16 rfl)
  have tf_87 : (pI S_67 1104 x).toInt = (pI S_10 1104 x).toInt := congrArg Int32.toInt (hk_70.fr.I' (by decide +kernel) ax_16 rfl)
  have tf_88 : (pI S_67 1201 mo).toInt = (pI S_10 1201 mo).toInt := congrArg Int32.toInt (hk_70.fr.I' (by decide +kernel) am_17 rfl)
  have tf_89 : (pI S_67 1211 mo).toInt = (pI S_10 1211 mo).toInt := congrArg Int32.toInt (hk_70.fr.I' (by decide +kernel) am_17 rfl)
  have tf_90 : (pI S_67 1000 u_26).toInt = (pI S_10 1000 u_26).toInt := congrArg Int32.toInt (hk_70.fr.I' (by decide +kernel) th_40 rfl)
  have tf_91 : (pI S_67 1000 u_26).toInt = (pI S_10 1000 u_26).toInt := congrArg Int32.toInt (hk_70.fr.I' (by decide +kernel) th_40 rfl)
  have tf_92 : (pI S_67 1000 u_26).toInt = (pI S_10 1000 u_26).toInt := congrArg Int32.toInt (hk_70.fr.I' (by decide +kernel) th_40 rfl)
  have tf_93 : (pI S_67 1228 mo).toInt = (pI S_10 1228 mo).toInt := congrArg Int32.toInt (hk_70.fr.I' (by decide +kernel) am_17 rfl)
  have tf_94 : (pI S_67 1228 mo).toInt = (pI S_10 1228 mo).toInt := congrArg Int32.toInt (hk_70.fr.I' (by decide +kernel) am_17 rfl)
  have th_96 : mA S_67 mo 1210 = thinF := TH_fr hg_56 hk_70.fr am_17 (by decide +kernel) th_54
  have ct_95 : CT S_67 x mo := CT_eq hg_56 hk_70.fr ax_16 (by decide +kernel) (by decide +kernel) (S12_fr hg_56 hk_70.fr am_17 (by decide +kernel)) ct_53
  have th_85 : PN S_67 x := PN_fr hg_56 ax_16 hk_70.fr (by decide +kernel) (by decide +kernel) (by decide +kernel) th_43
  have td_97 : TD S_67 x mo := ⟨⟨q_20, th_77, th_78, by rw [th_79, th_37, th_80, th_38, td_23]⟩, by omega, by omega, ⟨u_26, th_81, th_82, by omega⟩, th_85, ct_95, th_96, TX_take hG hg_56 hax ham hk_13.fr hk_70.fr ct_31 td_24 hMI (unhid hq_34).2.2.1 (unhid hq_34).2.2.2 hp.2.1 hp.2.2 tx_33⟩
  have hg_99 : GX S_67 := hk_70.1
  have rg_100 := And.intro (z_lo rr_66) (z_hi rr_66)
  refine lv_pop X.1 X.2.1 dL_law_1128 rfl ?_
  refine lv_goto (tgt := 1505) X.1 X.2.1 dL_law_1129 (by decide) ?_
  exact K _ _ _ _ cc nn hw hg_99 ax_73 am_74 mi_71 gr_72 td_97 la_68 oq_69 (lv_sub hl [0, 1, 2, 3, 4] rfl) (by omega) (by omega)
set_option maxHeartbeats 4000000 in
set_option maxRecDepth 100000 in
theorem lc_22 {p : Program} {l : Launch} {e : Env} {s : State} {m : MethodId} {below : List Frame} {meth : Method} {c : Code} (hst : l.stackTraces = false) {b x mo oq L : Nat} {xs : Nat → Int32} {cL : ClassId} {G : va_G} {cy : Nat → ClassId} {κ : Nat → Nat} {S : PS} {H : Heap} {locs : List Loc} {ls : Array Slot} {cc nn : Nat} {Q : State → Prop} {i : Int32} {i_z : Int} (X : Cx p c cL_law 7 s #[Value.ref b] lw_tbl RL m G cy κ (fun q : Nat => s.heap.size ≤ q)) (hX : va_X b L xs s s.heap) (hbl : b < s.heap.size) (hbA : ¬ (fun q : Nat => s.heap.size ≤ q) b) (hdc : ∀ Y ∈ DcL, va_Nw (.declares (Bundle.initS Y)) s) (hkl : Kl cL s) (hAo : (fun q : Nat => s.heap.size ≤ q) oq) (hL : L ≤ 3072) (hz_i : i.toInt = i_z) (hi0 : 0 ≤ i_z) (hi1 : i_z + 6 ≤ (L : Int)) (hw : Wd G cy (fun q : Nat => s.heap.size ≤ q) s.heap S H locs) (hG : GX S) (hax : At S x 11) (ham : At S mo 12) (hMI : MI S mo) (hGR : GR S mo) (hTD : TD S x mo) (hLA : LA cL oq H) (hoq : oq ∉ pL S) (hl : lv_has ls 7 [(4, .int i), (3, .ref oq), (2, .ref mo), (1, .ref x), (0, .ref b)]) (hcc : cc + Phc S + 20000 ≤ 601024) (hnn : nn + Phs S + 100000 ≤ 7293034) (K : ∀ (S9 : PS) (H9 : Heap) (locs9 : List Loc) (ls9 : Array Slot) (c9 n9 : Nat), Wd G cy (fun q : Nat => s.heap.size ≤ q) s.heap S9 H9 locs9 → GX S9 → At S9 x 11 → At S9 mo 12 → MI S9 mo → GR S9 mo → TD S9 x mo → LA cL oq H9 → oq ∉ pL S9 → lv_has ls9 7 [(4, .int i), (3, .ref oq), (2, .ref mo), (1, .ref x), (0, .ref b)] → c9 + Phc S9 ≤ cc + Phc S + 102 → n9 + Phs S9 ≤ nn + Phs S + 1020 → W p l e room_1 s m #[Value.ref b] below meth c H9 locs9 c9 n9 Q (F0 m 1505 ls9 [])) : W p l e room_1 s m #[Value.ref b] below meth c H locs cc nn Q (F0 m 1132 ls []) := by
  refine lv_aload_n X.1 X.2.1 dL_law_1132 rfl (lv_at hl 3 rfl) ?_
  refine lv_aload_n X.1 X.2.1 dL_law_1133 rfl (lv_at hl 4 rfl) ?_
  refine lv_iload X.1 X.2.1 dL_law_1134 (lv_at hl 0 rfl) ?_
  refine lv_iconst (v := 1) X.1 X.2.1 dL_law_1136 (by decide) ?_
  refine lv_iadd X.1 X.2.1 dL_law_1137 ?_
  refine lv_topi (fun v_1 ev_1 => ?_)
  have z_2 : v_1.toInt = i_z + 1 := z_add ev_1 hz_i ti_1 (by omega) (by omega)
  refine va_sld X.1 X.2.1 hX hbl hbA hw.2.2 (z_ix rfl (by omega) (by omega)) dL_law_1138 ?_
  refine lv_topi (fun v_3 ev_3 => ?_)
  have rg_4 := And.intro (z_lo v_3) (z_hi v_3)
  refine lv_aload_n X.1 X.2.1 dL_law_1139 rfl (lv_at hl 4 rfl) ?_
  refine lv_iload X.1 X.2.1 dL_law_1140 (lv_at hl 0 rfl) ?_
  refine lv_iconst (v := 2) X.1 X.2.1 dL_law_1142 (by decide) ?_
  refine lv_iadd X.1 X.2.1 dL_law_1143 ?_
  refine lv_topi (fun v_5 ev_5 => ?_)
  have z_6 : v_5.toInt = i_z + 2 := z_add ev_5 hz_i ti_2 (by omega) (by omega)
  refine va_sld X.1 X.2.1 hX hbl hbA hw.2.2 (z_ix rfl (by omega) (by omega)) dL_law_1144 ?_
  refine lv_topi (fun v_7 ev_7 => ?_)
  have rg_8 := And.intro (z_lo v_7) (z_hi v_7)
  refine lv_aload_n X.1 X.2.1 dL_law_1145 rfl (lv_at hl 4 rfl) ?_
  refine lv_iload X.1 X.2.1 dL_law_1146 (lv_at hl 0 rfl) ?_
  refine lv_iconst (v := 3) X.1 X.2.1 dL_law_1148 (by decide) ?_
  refine lv_iadd X.1 X.2.1 dL_law_1149 ?_
  refine lv_topi (fun v_9 ev_9 => ?_)
  have z_10 : v_9.toInt = i_z + 3 := z_add ev_9 hz_i ti_3 (by omega) (by omega)
  refine va_sld X.1 X.2.1 hX hbl hbA hw.2.2 (z_ix rfl (by omega) (by omega)) dL_law_1150 ?_
  refine lv_topi (fun v_11 ev_11 => ?_)
  have rg_12 := And.intro (z_lo v_11) (z_hi v_11)
  refine lv_aload_n X.1 X.2.1 dL_law_1151 rfl (lv_at hl 4 rfl) ?_
  refine lv_iload X.1 X.2.1 dL_law_1152 (lv_at hl 0 rfl) ?_
  refine lv_iconst (v := 4) X.1 X.2.1 dL_law_1154 (by decide) ?_
  refine lv_iadd X.1 X.2.1 dL_law_1155 ?_
  refine lv_topi (fun v_13 ev_13 => ?_)
  have z_14 : v_13.toInt = i_z + 4 := z_add ev_13 hz_i ti_4 (by omega) (by omega)
  refine va_sld X.1 X.2.1 hX hbl hbA hw.2.2 (z_ix rfl (by omega) (by omega)) dL_law_1156 ?_
  refine lv_topi (fun v_15 ev_15 => ?_)
  have rg_16 := And.intro (z_lo v_15) (z_hi v_15)
  refine lv_aload_n X.1 X.2.1 dL_law_1157 rfl (lv_at hl 4 rfl) ?_
  refine lv_iload X.1 X.2.1 dL_law_1158 (lv_at hl 0 rfl) ?_
  refine lv_iconst (v := 5) X.1 X.2.1 dL_law_1160 (by decide) ?_
  refine lv_iadd X.1 X.2.1 dL_law_1161 ?_
  refine lv_topi (fun v_17 ev_17 => ?_)
  have z_18 : v_17.toInt = i_z + 5 := z_add ev_17 hz_i ti_5 (by omega) (by omega)
  refine va_sld X.1 X.2.1 hX hbl hbA hw.2.2 (z_ix rfl (by omega) (by omega)) dL_law_1162 ?_
  refine lv_topi (fun v_19 ev_19 => ?_)
  have rg_20 := And.intro (z_lo v_19) (z_hi v_19)
  refine k_i (rm := { frames := 2, cells := 0, slots := 0, locals := 96 }) (av := [.ref x, .int (v_3), .int (v_7), .int (v_11), .int (v_15), .int (v_19)]) X hw (va_runV (As := [.int (v_3), .int (v_7), .int (v_11), .int (v_15), .int (v_19)]) (rest := []) (cfix X) (k_X11_copy l G cy κ S _ x (v_3) (v_3.toInt) (v_7) (v_7.toInt) (v_11) (v_11.toInt) (v_15) (v_15.toInt) (v_19) (v_19.toInt) hG hax rfl rfl rfl rfl rfl) (cwV 5 X.2.2.2.1 gk_X11_copy rfl rfl rfl (by decide +kernel) ⟨Nat.le_of_ble_eq_true rfl, Nat.le_of_ble_eq_true rfl⟩) (pre_V X hw _ hax rfl (by decide) rfl) rfl rfl hl.1 rfl (lv_room (Nat.le_of_ble_eq_true rfl)) dL_law_1163 ⟨(by show cc + 0 ≤ 601024; omega), (by show nn + 0 ≤ 7293034; omega)⟩) cc nn (by show cc + 0 ≤ cc; omega) (by show nn + 0 ≤ nn; omega) (fun rr_21 S_22 H locs hp hw hfr hnw => ?_)
  have la_23 := LA_keep hLA hoq hfr
  have oq_24 := oq_keep hLA hoq hnw
  obtain ⟨hk_25, hp⟩ := hp
  have ax_28 : At S_22 x 11 := hk_25.fr.at hax
  have am_29 : At S_22 mo 12 := hk_25.fr.at ham
  have mi_26 : MI S_22 mo := MIe_free hG ham hk_25.fr (by decide +kernel) hMI
  have gr_27 : GR S_22 mo := GR_free hG ham hk_25.fr (by decide +kernel) hGR
  have ph_30 : Phc S_22 = Phc S := Ph_ok hG hk_25 (by decide +kernel) (by decide +kernel) (by decide +kernel)
  have ph_31 : Phs S_22 = Phs S := Ph_ok hG hk_25 (by decide +kernel) (by decide +kernel) (by decide +kernel)
  have td_32 : TD S_22 x mo := TD_fr hG hk_25.fr hax ham (by decide +kernel) (by decide +kernel) (by decide +kernel) (by decide +kernel) (by decide +kernel) (by decide +kernel) hTD
  have hg_33 : GX S_22 := hk_25.1
  have rg_34 := And.intro (z_lo rr_21) (z_hi rr_21)
  refine lv_pop X.1 X.2.1 dL_law_1166 rfl ?_
  refine lv_aload_n X.1 X.2.1 dL_law_1167 rfl (lv_at hl 2 rfl) ?_
  refine lv_aload_n X.1 X.2.1 dL_law_1168 rfl (lv_at hl 4 rfl) ?_
  refine lv_iload X.1 X.2.1 dL_law_1169 (lv_at hl 0 rfl) ?_
  refine lv_iconst (v := 1) X.1 X.2.1 dL_law_1171 (by decide) ?_
  refine lv_iadd X.1 X.2.1 dL_law_1172 ?_
  refine lv_topi (fun v_35 ev_35 => ?_)
  have z_36 : v_35.toInt = i_z + 1 := z_add ev_35 hz_i ti_1 (by omega) (by omega)
  refine va_sld X.1 X.2.1 hX hbl hbA hw.2.2 (z_ix rfl (by omega) (by omega)) dL_law_1173 ?_
  refine lv_topi (fun v_37 ev_37 => ?_)
  have es_38 : v_3 = v_37 := by rw [ev_3, ev_37, ev_1, ev_35]
  subst es_38
  refine lv_aload_n X.1 X.2.1 dL_law_1174 rfl (lv_at hl 4 rfl) ?_
  refine lv_iload X.1 X.2.1 dL_law_1175 (lv_at hl 0 rfl) ?_
  refine lv_iconst (v := 2) X.1 X.2.1 dL_law_1177 (by decide) ?_
  refine lv_iadd X.1 X.2.1 dL_law_1178 ?_
  refine lv_topi (fun v_39 ev_39 => ?_)
  have z_40 : v_39.toInt = i_z + 2 := z_add ev_39 hz_i ti_2 (by omega) (by omega)
  refine va_sld X.1 X.2.1 hX hbl hbA hw.2.2 (z_ix rfl (by omega) (by omega)) dL_law_1179 ?_
  refine lv_topi (fun v_41 ev_41 => ?_)
  have es_42 : v_7 = v_41 := by rw [ev_7, ev_41, ev_5, ev_39]
  subst es_42
  refine lv_aload_n X.1 X.2.1 dL_law_1180 rfl (lv_at hl 4 rfl) ?_
  refine lv_iload X.1 X.2.1 dL_law_1181 (lv_at hl 0 rfl) ?_
  refine lv_iconst (v := 3) X.1 X.2.1 dL_law_1183 (by decide) ?_
  refine lv_iadd X.1 X.2.1 dL_law_1184 ?_
  refine lv_topi (fun v_43 ev_43 => ?_)
  have z_44 : v_43.toInt = i_z + 3 := z_add ev_43 hz_i ti_3 (by omega) (by omega)
  refine va_sld X.1 X.2.1 hX hbl hbA hw.2.2 (z_ix rfl (by omega) (by omega)) dL_law_1185 ?_
  refine lv_topi (fun v_45 ev_45 => ?_)
  have es_46 : v_11 = v_45 := by rw [ev_11, ev_45, ev_9, ev_43]
  subst es_46
  refine lv_aload_n X.1 X.2.1 dL_law_1186 rfl (lv_at hl 4 rfl) ?_
  refine lv_iload X.1 X.2.1 dL_law_1187 (lv_at hl 0 rfl) ?_
  refine lv_iconst (v := 4) X.1 X.2.1 dL_law_1189 (by decide) ?_
  refine lv_iadd X.1 X.2.1 dL_law_1190 ?_
  refine lv_topi (fun v_47 ev_47 => ?_)
  have z_48 : v_47.toInt = i_z + 4 := z_add ev_47 hz_i ti_4 (by omega) (by omega)
  refine va_sld X.1 X.2.1 hX hbl hbA hw.2.2 (z_ix rfl (by omega) (by omega)) dL_law_1191 ?_
  refine lv_topi (fun v_49 ev_49 => ?_)
  have es_50 : v_15 = v_49 := by rw [ev_15, ev_49, ev_13, ev_47]
  subst es_50
  refine lv_aload_n X.1 X.2.1 dL_law_1192 rfl (lv_at hl 4 rfl) ?_
  refine lv_iload X.1 X.2.1 dL_law_1193 (lv_at hl 0 rfl) ?_
  refine lv_iconst (v := 5) X.1 X.2.1 dL_law_1195 (by decide) ?_
  refine lv_iadd X.1 X.2.1 dL_law_1196 ?_
  refine lv_topi (fun v_51 ev_51 => ?_)
  have z_52 : v_51.toInt = i_z + 5 := z_add ev_51 hz_i ti_5 (by omega) (by omega)
  refine va_sld X.1 X.2.1 hX hbl hbA hw.2.2 (z_ix rfl (by omega) (by omega)) dL_law_1197 ?_
  refine lv_topi (fun v_53 ev_53 => ?_)
  have es_54 : v_19 = v_53 := by rw [ev_19, ev_53, ev_17, ev_51]
  subst es_54
  refine k_gi2 (kc := 1) (ks := 8) (rm := { frames := 3, cells := Phc S_22 + 1, slots := Phs S_22 + 8, locals := 144 }) (av := [.ref mo, .int (v_3), .int (v_7), .int (v_11), .int (v_15), .int (v_19)]) X hw (va_runV (As := [.int (v_3), .int (v_7), .int (v_11), .int (v_15), .int (v_19)]) (rest := []) (cfix X) (k_X12_copy l G cy κ S_22 _ _ mo (v_3) (v_3.toInt) (v_7) (v_7.toInt) (v_11) (v_11.toInt) (v_15) (v_15.toInt) (v_19) (v_19.toInt) hg_33 am_29 rfl rfl rfl rfl rfl) (cwV 5 X.2.2.2.1 gk_X12_copy rfl rfl rfl (by decide +kernel) ⟨Nat.le_of_ble_eq_true rfl, Nat.le_of_ble_eq_true rfl⟩) (pre_gV X hw _ am_29 rfl (by decide) rfl) rfl rfl hl.1 rfl (lv_room (Nat.le_of_ble_eq_true rfl)) dL_law_1198 ⟨(by show cc + (Phc S_22 + 1) ≤ 601024; omega), (by show nn + (Phs S_22 + 8) ≤ 7293034; omega)⟩) (fun rr_55 S_56 H locs c_57 n_58 hc_57 hn_58 hp hw hfr hnw => ?_)
  have la_59 := LA_keep la_23 oq_24 hfr
  have oq_60 := oq_keep la_23 oq_24 hnw
  obtain ⟨hk_61, hp⟩ := hp
  have ax_64 : At S_56 x 11 := hk_61.fr.at ax_28
  have am_65 : At S_56 mo 12 := hk_61.fr.at am_29
  have mi_62 : MI S_56 mo := MIe_free hg_33 am_29 hk_61.fr (by decide +kernel) mi_26
  have gr_63 : GR S_56 mo := GR_free hg_33 am_29 hk_61.fr (by decide +kernel) gr_27
  have td_66 : TD S_56 x mo := TD_fr hg_33 hk_61.fr ax_28 am_29 (by decide +kernel) (by decide +kernel) (by decide +kernel) (by decide +kernel) (by decide +kernel) (by decide +kernel) td_32
  have hg_67 : GX S_56 := hk_61.1
  have rg_68 := And.intro (z_lo rr_55) (z_hi rr_55)
  refine lv_pop X.1 X.2.1 dL_law_1201 rfl ?_
  refine lv_goto (tgt := 1505) X.1 X.2.1 dL_law_1202 (by decide) ?_
  exact K _ _ _ _ c_57 n_58 hw hg_67 ax_64 am_65 mi_62 gr_63 td_66 la_59 oq_60 (lv_sub hl [0, 1, 2, 3, 4] rfl) (by omega) (by omega)
set_option maxHeartbeats 4000000 in
set_option maxRecDepth 100000 in
theorem lc_23 {p : Program} {l : Launch} {e : Env} {s : State} {m : MethodId} {below : List Frame} {meth : Method} {c : Code} (hst : l.stackTraces = false) {b x mo oq L : Nat} {xs : Nat → Int32} {cL : ClassId} {G : va_G} {cy : Nat → ClassId} {κ : Nat → Nat} {S : PS} {H : Heap} {locs : List Loc} {ls : Array Slot} {cc nn : Nat} {Q : State → Prop} {i : Int32} {i_z : Int} (X : Cx p c cL_law 7 s #[Value.ref b] lw_tbl RL m G cy κ (fun q : Nat => s.heap.size ≤ q)) (hX : va_X b L xs s s.heap) (hbl : b < s.heap.size) (hbA : ¬ (fun q : Nat => s.heap.size ≤ q) b) (hdc : ∀ Y ∈ DcL, va_Nw (.declares (Bundle.initS Y)) s) (hkl : Kl cL s) (hAo : (fun q : Nat => s.heap.size ≤ q) oq) (hL : L ≤ 3072) (hz_i : i.toInt = i_z) (hi0 : 0 ≤ i_z) (hi1 : i_z + 6 ≤ (L : Int)) (hw : Wd G cy (fun q : Nat => s.heap.size ≤ q) s.heap S H locs) (hG : GX S) (hax : At S x 11) (ham : At S mo 12) (hMI : MI S mo) (hGR : GR S mo) (hTD : TD S x mo) (hLA : LA cL oq H) (hoq : oq ∉ pL S) (hl : lv_has ls 7 [(4, .int i), (3, .ref oq), (2, .ref mo), (1, .ref x), (0, .ref b)]) (hcc : cc + Phc S + 20000 ≤ 601024) (hnn : nn + Phs S + 100000 ≤ 7293034) (K : ∀ (S9 : PS) (H9 : Heap) (locs9 : List Loc) (ls9 : Array Slot) (c9 n9 : Nat), Wd G cy (fun q : Nat => s.heap.size ≤ q) s.heap S9 H9 locs9 → GX S9 → At S9 x 11 → At S9 mo 12 → MI S9 mo → GR S9 mo → TD S9 x mo → LA cL oq H9 → oq ∉ pL S9 → lv_has ls9 7 [(4, .int i), (3, .ref oq), (2, .ref mo), (1, .ref x), (0, .ref b)] → c9 + Phc S9 ≤ cc + Phc S + 102 → n9 + Phs S9 ≤ nn + Phs S + 1020 → W p l e room_1 s m #[Value.ref b] below meth c H9 locs9 c9 n9 Q (F0 m 1505 ls9 [])) : W p l e room_1 s m #[Value.ref b] below meth c H locs cc nn Q (F0 m 1205 ls []) := by
  refine lv_aload_n X.1 X.2.1 dL_law_1205 rfl (lv_at hl 3 rfl) ?_
  refine lv_aload_n X.1 X.2.1 dL_law_1206 rfl (lv_at hl 4 rfl) ?_
  refine lv_iload X.1 X.2.1 dL_law_1207 (lv_at hl 0 rfl) ?_
  refine lv_iconst (v := 1) X.1 X.2.1 dL_law_1209 (by decide) ?_
  refine lv_iadd X.1 X.2.1 dL_law_1210 ?_
  refine lv_topi (fun v_1 ev_1 => ?_)
  have z_2 : v_1.toInt = i_z + 1 := z_add ev_1 hz_i ti_1 (by omega) (by omega)
  refine va_sld X.1 X.2.1 hX hbl hbA hw.2.2 (z_ix rfl (by omega) (by omega)) dL_law_1211 ?_
  refine lv_topi (fun v_3 ev_3 => ?_)
  have rg_4 := And.intro (z_lo v_3) (z_hi v_3)
  refine lv_aload_n X.1 X.2.1 dL_law_1212 rfl (lv_at hl 4 rfl) ?_
  refine lv_iload X.1 X.2.1 dL_law_1213 (lv_at hl 0 rfl) ?_
  refine lv_iconst (v := 2) X.1 X.2.1 dL_law_1215 (by decide) ?_
  refine lv_iadd X.1 X.2.1 dL_law_1216 ?_
  refine lv_topi (fun v_5 ev_5 => ?_)
  have z_6 : v_5.toInt = i_z + 2 := z_add ev_5 hz_i ti_2 (by omega) (by omega)
  refine va_sld X.1 X.2.1 hX hbl hbA hw.2.2 (z_ix rfl (by omega) (by omega)) dL_law_1217 ?_
  refine lv_topi (fun v_7 ev_7 => ?_)
  have rg_8 := And.intro (z_lo v_7) (z_hi v_7)
  refine k_i (rm := { frames := 2, cells := 0, slots := 0, locals := 96 }) (av := [.ref x, .int (v_3), .int (v_7)]) X hw (va_runV (As := [.int (v_3), .int (v_7)]) (rest := []) (cfix X) (k_X11_number l G cy κ S _ x (v_3) (v_3.toInt) (v_7) (v_7.toInt) hG hax rfl rfl) (cwV 2 X.2.2.2.1 gk_X11_number rfl rfl rfl (by decide +kernel) ⟨Nat.le_of_ble_eq_true rfl, Nat.le_of_ble_eq_true rfl⟩) (pre_V X hw _ hax rfl (by decide) rfl) rfl rfl hl.1 rfl (lv_room (Nat.le_of_ble_eq_true rfl)) dL_law_1218 ⟨(by show cc + 0 ≤ 601024; omega), (by show nn + 0 ≤ 7293034; omega)⟩) cc nn (by show cc + 0 ≤ cc; omega) (by show nn + 0 ≤ nn; omega) (fun rr_9 S_10 H locs hp hw hfr hnw => ?_)
  have la_11 := LA_keep hLA hoq hfr
  have oq_12 := oq_keep hLA hoq hnw
  obtain ⟨e2, hp⟩ := hp
  subst e2
  have rg_13 := And.intro (z_lo rr_9) (z_hi rr_9)
  refine lv_pop X.1 X.2.1 dL_law_1221 rfl ?_
  refine lv_aload_n X.1 X.2.1 dL_law_1222 rfl (lv_at hl 2 rfl) ?_
  refine lv_aload_n X.1 X.2.1 dL_law_1223 rfl (lv_at hl 4 rfl) ?_
  refine lv_iload X.1 X.2.1 dL_law_1224 (lv_at hl 0 rfl) ?_
  refine lv_iconst (v := 1) X.1 X.2.1 dL_law_1226 (by decide) ?_
  refine lv_iadd X.1 X.2.1 dL_law_1227 ?_
  refine lv_topi (fun v_14 ev_14 => ?_)
  have z_15 : v_14.toInt = i_z + 1 := z_add ev_14 hz_i ti_1 (by omega) (by omega)
  refine va_sld X.1 X.2.1 hX hbl hbA hw.2.2 (z_ix rfl (by omega) (by omega)) dL_law_1228 ?_
  refine lv_topi (fun v_16 ev_16 => ?_)
  have es_17 : v_3 = v_16 := by rw [ev_3, ev_16, ev_1, ev_14]
  subst es_17
  refine lv_aload_n X.1 X.2.1 dL_law_1229 rfl (lv_at hl 4 rfl) ?_
  refine lv_iload X.1 X.2.1 dL_law_1230 (lv_at hl 0 rfl) ?_
  refine lv_iconst (v := 2) X.1 X.2.1 dL_law_1232 (by decide) ?_
  refine lv_iadd X.1 X.2.1 dL_law_1233 ?_
  refine lv_topi (fun v_18 ev_18 => ?_)
  have z_19 : v_18.toInt = i_z + 2 := z_add ev_18 hz_i ti_2 (by omega) (by omega)
  refine va_sld X.1 X.2.1 hX hbl hbA hw.2.2 (z_ix rfl (by omega) (by omega)) dL_law_1234 ?_
  refine lv_topi (fun v_20 ev_20 => ?_)
  have es_21 : v_7 = v_20 := by rw [ev_7, ev_20, ev_5, ev_18]
  subst es_21
  refine k_i (rm := { frames := 3, cells := 0, slots := 0, locals := 144 }) (av := [.ref mo, .int (v_3), .int (v_7)]) X hw (va_runV (As := [.int (v_3), .int (v_7)]) (rest := []) (cfix X) (k_X12_number_ l G cy κ S _ mo (v_3) (v_3.toInt) (v_7) (v_7.toInt) hG ham rfl rfl) (cwV 2 X.2.2.2.1 gk_X12_number_ rfl rfl rfl (by decide +kernel) ⟨Nat.le_of_ble_eq_true rfl, Nat.le_of_ble_eq_true rfl⟩) (pre_V X hw _ ham rfl (by decide) rfl) rfl rfl hl.1 rfl (lv_room (Nat.le_of_ble_eq_true rfl)) dL_law_1235 ⟨(by show cc + 0 ≤ 601024; omega), (by show nn + 0 ≤ 7293034; omega)⟩) cc nn (by show cc + 0 ≤ cc; omega) (by show nn + 0 ≤ nn; omega) (fun rr_22 S_23 H locs hp hw hfr hnw => ?_)
  have la_24 := LA_keep la_11 oq_12 hfr
  have oq_25 := oq_keep la_11 oq_12 hnw
  obtain ⟨hk_26, hp⟩ := hp
  have ax_29 : At S_23 x 11 := hk_26.fr.at hax
  have am_30 : At S_23 mo 12 := hk_26.fr.at ham
  have mi_27 : MI S_23 mo := MIe_free hG ham hk_26.fr (by decide +kernel) hMI
  have gr_28 : GR S_23 mo := GR_free hG ham hk_26.fr (by decide +kernel) hGR
  have ph_31 : Phc S_23 = Phc S := Ph_ok hG hk_26 (by decide +kernel) (by decide +kernel) (by decide +kernel)
  have ph_32 : Phs S_23 = Phs S := Ph_ok hG hk_26 (by decide +kernel) (by decide +kernel) (by decide +kernel)
  have td_33 : TD S_23 x mo := TD_fr hG hk_26.fr hax ham (by decide +kernel) (by decide +kernel) (by decide +kernel) (by decide +kernel) (by decide +kernel) (by decide +kernel) hTD
  have hg_34 : GX S_23 := hk_26.1
  have rg_35 := And.intro (z_lo rr_22) (z_hi rr_22)
  refine lv_pop X.1 X.2.1 dL_law_1238 rfl ?_
  refine lv_goto (tgt := 1505) X.1 X.2.1 dL_law_1239 (by decide) ?_
  exact K _ _ _ _ cc nn hw hg_34 ax_29 am_30 mi_27 gr_28 td_33 la_24 oq_25 (lv_sub hl [0, 1, 2, 3, 4] rfl) (by omega) (by omega)
