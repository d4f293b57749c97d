set_option maxHeartbeats 8000000 in
set_option maxRecDepth 100000 in
theorem whole_start {p : Program} {e : Env} {s : State} {m : MethodId} {below : List Frame} {meth : Method} {c : Code} (l : Launch) (hst : l.stackTraces = false) {b L : Nat} {xs : Nat → Int32} (hL : L ≤ 3072) (C0 : lw_At p s m meth c b L xs) : W p l e room_1 s m #[Value.ref b] below meth c s.heap [] 0 0 (lw_Z below #[Value.ref b] s) (entryFrame m ([Value.ref b] : List Value).toArray 7) := by
  obtain ⟨hx, hb, hr, hml, hown, hts0, hX, hbl, hlocks, hgv⟩ := C0
  obtain ⟨G, cy, hK⟩ := law_known hts0
  obtain ⟨κ, hCs⟩ := law_Cst hts0 hgv
  have hbA : ¬ (fun q : Nat => s.heap.size ≤ q) b := Nat.not_le.mpr hbl
  have X : Cx p c cL_law 7 s #[Value.ref b] lw_tbl RL m G cy κ (fun q : Nat => s.heap.size ≤ q) := ⟨hx, hb, hml, hts0, hown, hK, fun _ h => h, law_NG hts0, hCs⟩
  have hdc : ∀ Y ∈ DcL, va_Nw (.declares (Bundle.initS Y)) s := fun Y hY => va_Nw.of rfl (hts0 _ ((by decide +kernel : ∀ Y ∈ DcL, Cond.declares (Bundle.initS Y) ∈ lw_tbl) Y hY))
  generalize hQQ : lw_Z below #[Value.ref b] s = QQ
  have LP : ∀ (x mo oq : Nat) (cL : ClassId), Kl cL s → (fun q : Nat => s.heap.size ≤ q) oq → ∀ (n : Nat) (S : PS) (H : Heap) (locs : List Loc) (ls : Array Slot) (i : Int32) (i_z : Int) (cc nn : Nat), ((L : Int) + 6 - i_z).toNat = n → i.toInt = i_z → 0 ≤ i_z → i_z ≤ 3078 → Wd G cy (fun q : Nat => s.heap.size ≤ q) s.heap S H locs → GX S → At S x 11 → At S mo 12 → MI S mo → GR S mo → TD S x mo → LA cL oq H → oq ∉ pL S → lv_has ls 7 [(4, .int i), (3, .ref oq), (2, .ref mo), (1, .ref x), (0, .ref b)] → cc + Phc S ≤ 100000 + 17 * i_z.toNat → nn + Phs S ≤ 1200000 + 170 * i_z.toNat → W p l e room_1 s m #[Value.ref b] below meth c H locs cc nn QQ (F0 m 23 ls []) := by
    intro x mo oq cL hkl hAo n
    induction n using Nat.strongRecOn with
    | ind n ih =>
    intro S H locs ls i i_z cc nn hn hz_i hi0 hi9 hw hG hax ham hMI hGR hTD hLA hoq hl hcc hnn
    refine lv_iload X.1 X.2.1 dL_law_23 (lv_at hl 0 rfl) ?_
    refine lv_aload_n X.1 X.2.1 dL_law_25 rfl (lv_at hl 4 rfl) ?_
    refine va_slen X.1 X.2.1 hX hbl hbA hw.2.2 dL_law_26 ?_
    refine lv_topi (fun v0 ev0 => ?_)
    have z0 : v0.toInt = (L : Int) := z_len ev0 (by omega)
    refine lv_bipush (v := 6) X.1 X.2.1 dL_law_27 (by decide) ?_
    refine lv_isub X.1 X.2.1 dL_law_29 ?_
    refine lv_topi (fun v1 ev1 => ?_)
    have z1 : v1.toInt = (L : Int) - 6 := z_sub ev1 z0 ti_6 (by omega) (by omega)
    refine lv_icmp_gt (tgt := 1511) X.1 X.2.1 dL_law_30 (by decide) (fun c30 => ?_) (fun c30 => ?_)
    · refine lv_iconst (v := 1) X.1 X.2.1 dL_law_1511 (by decide) ?_
      refine va_forget (fun q hq => hw.2.2.2.2 q hq) ?_
      refine W.widen (k := 601024) (n := 7293034) (by omega) (by omega) ?_
      rw [← hQQ]
      exact lw_ret X.1 X.2.1 hr hlocks dL_law_1512
    have k30 := z_nlt z1 hz_i c30
    have hi1 : i_z + 6 ≤ (L : Int) := by omega
    have KL : ∀ (S9 : PS) (H9 : Heap) (locs9 : List Loc) (ls9 : Array Slot) (c9 n9 : Nat), Wd G cy (fun q : Nat => s.heap.size ≤ q) s.heap S9 H9 locs9 → GX S9 → At S9 x 11 → At S9 mo 12 → MI S9 mo → GR S9 mo → TD S9 x mo → LA cL oq H9 → oq ∉ pL S9 → lv_has ls9 7 [(4, .int i), (3, .ref oq), (2, .ref mo), (1, .ref x), (0, .ref b)] → c9 + Phc S9 ≤ cc + Phc S + 102 → n9 + Phs S9 ≤ nn + Phs S + 1020 → W p l e room_1 s m #[Value.ref b] below meth c H9 locs9 c9 n9 QQ (F0 m 1505 ls9 []) := by
      intro S9 H9 locs9 ls9 c9 n9 hw9 hg9 hax9 ham9 hmi9 hgr9 htd9 hla9 hoq9 hl9 hc9 hn9
      obtain ⟨y, ey⟩ : ∃ y : Int32, y = i + 6 := ⟨_, rfl⟩
      have zy : y.toInt = i_z + 6 := z_add ey hz_i ti_6 (by omega) (by omega)
      refine lv_iinc (v := y) (lv' := [(4, .int y), (3, .ref oq), (2, .ref mo), (1, .ref x), (0, .ref b)]) X.1 X.2.1 dL_law_1505 hl9 (k := 0) rfl (by rw [ey]; rfl) (by decide) rfl (fun ls hl => ?_)
      refine lv_goto (tgt := 23) X.1 X.2.1 dL_law_1508 (by decide) ?_
      exact ih _ (by omega) S9 H9 locs9 ls y (i_z + 6) c9 n9 rfl zy (by omega) (by omega) hw9 hg9 hax9 ham9 hmi9 hgr9 htd9 hla9 hoq9 hl (by omega) (by omega)
    refine lv_aload_n X.1 X.2.1 dL_law_33 rfl (lv_at hl 4 rfl) ?_
    refine lv_iload X.1 X.2.1 dL_law_34 (lv_at hl 0 rfl) ?_
    refine va_sld X.1 X.2.1 hX hbl hbA hw.2.2 (z_ix hz_i (by omega) (by omega)) dL_law_36 ?_
    refine lv_bipush (v := 31) X.1 X.2.1 dL_law_37 (by decide) ?_
    refine lv_iand X.1 X.2.1 dL_law_39 ?_
    refine lv_topi (fun v2 ev2 => ?_)
    by_cases w40 : (v2).toInt < 0 ∨ 30 < (v2).toInt
    · refine lv_tableOut (tgt := 1505) X.1 X.2.1 dL_law_40 w40 (by decide) ?_
      exact lc_d hst X hX hbl hbA hdc hkl hAo hL hz_i hi0 hi1 hw hG hax ham hMI hGR hTD hLA hoq hl (by omega) (by omega) KL
    have w41 : (v2).toInt = 0 ∨ (v2).toInt = 1 ∨ (v2).toInt = 2 ∨ (v2).toInt = 3 ∨ (v2).toInt = 4 ∨ (v2).toInt = 5 ∨ (v2).toInt = 6 ∨ (v2).toInt = 7 ∨ (v2).toInt = 8 ∨ (v2).toInt = 9 ∨ (v2).toInt = 10 ∨ (v2).toInt = 11 ∨ (v2).toInt = 12 ∨ (v2).toInt = 13 ∨ (v2).toInt = 14 ∨ (v2).toInt = 15 ∨ (v2).toInt = 16 ∨ (v2).toInt = 17 ∨ (v2).toInt = 18 ∨ (v2).toInt = 19 ∨ (v2).toInt = 20 ∨ (v2).toInt = 21 ∨ (v2).toInt = 22 ∨ (v2).toInt = 23 ∨ (v2).toInt = 24 ∨ (v2).toInt = 25 ∨ (v2).toInt = 26 ∨ (v2).toInt = 27 ∨ (v2).toInt = 28 ∨ (v2).toInt = 29 ∨ (v2).toInt = 30 := by omega
    rcases w41 with w42 | w42 | w42 | w42 | w42 | w42 | w42 | w42 | w42 | w42 | w42 | w42 | w42 | w42 | w42 | w42 | w42 | w42 | w42 | w42 | w42 | w42 | w42 | w42 | w42 | w42 | w42 | w42 | w42 | w42 | w42
    · refine lv_tableIn (tgt := 180) X.1 X.2.1 dL_law_40 (by omega) (by omega) (by rw [w42]; rfl) (by decide) ?_
      exact lc_0 hst X hX hbl hbA hdc hkl hAo hL hz_i hi0 hi1 hw hG hax ham hMI hGR hTD hLA hoq hl (by omega) (by omega) KL
    · refine lv_tableIn (tgt := 253) X.1 X.2.1 dL_law_40 (by omega) (by omega) (by rw [w42]; rfl) (by decide) ?_
      exact lc_1 hst X hX hbl hbA hdc hkl hAo hL hz_i hi0 hi1 hw hG hax ham hMI hGR hTD hLA hoq hl (by omega) (by omega) KL
    · refine lv_tableIn (tgt := 302) X.1 X.2.1 dL_law_40 (by omega) (by omega) (by rw [w42]; rfl) (by decide) ?_
      exact lc_2 hst X hX hbl hbA hdc hkl hAo hL hz_i hi0 hi1 hw hG hax ham hMI hGR hTD hLA hoq hl (by omega) (by omega) KL
    · refine lv_tableIn (tgt := 354) X.1 X.2.1 dL_law_40 (by omega) (by omega) (by rw [w42]; rfl) (by decide) ?_
      exact lc_3 hst X hX hbl hbA hdc hkl hAo hL hz_i hi0 hi1 hw hG hax ham hMI hGR hTD hLA hoq hl (by omega) (by omega) KL
    · refine lv_tableIn (tgt := 403) X.1 X.2.1 dL_law_40 (by omega) (by omega) (by rw [w42]; rfl) (by decide) ?_
      exact lc_4 hst X hX hbl hbA hdc hkl hAo hL hz_i hi0 hi1 hw hG hax ham hMI hGR hTD hLA hoq hl (by omega) (by omega) KL
    · refine lv_tableIn (tgt := 440) X.1 X.2.1 dL_law_40 (by omega) (by omega) (by rw [w42]; rfl) (by decide) ?_
      exact lc_5 hst X hX hbl hbA hdc hkl hAo hL hz_i hi0 hi1 hw hG hax ham hMI hGR hTD hLA hoq hl (by omega) (by omega) KL
    · refine lv_tableIn (tgt := 477) X.1 X.2.1 dL_law_40 (by omega) (by omega) (by rw [w42]; rfl) (by decide) ?_
      exact lc_6 hst X hX hbl hbA hdc hkl hAo hL hz_i hi0 hi1 hw hG hax ham hMI hGR hTD hLA hoq hl (by omega) (by omega) KL
    · refine lv_tableIn (tgt := 538) X.1 X.2.1 dL_law_40 (by omega) (by omega) (by rw [w42]; rfl) (by decide) ?_
      exact lc_7 hst X hX hbl hbA hdc hkl hAo hL hz_i hi0 hi1 hw hG hax ham hMI hGR hTD hLA hoq hl (by omega) (by omega) KL
    · refine lv_tableIn (tgt := 611) X.1 X.2.1 dL_law_40 (by omega) (by omega) (by rw [w42]; rfl) (by decide) ?_
      exact lc_8 hst X hX hbl hbA hdc hkl hAo hL hz_i hi0 hi1 hw hG hax ham hMI hGR hTD hLA hoq hl (by omega) (by omega) KL
    · refine lv_tableIn (tgt := 636) X.1 X.2.1 dL_law_40 (by omega) (by omega) (by rw [w42]; rfl) (by decide) ?_
      exact lc_9 hst X hX hbl hbA hdc hkl hAo hL hz_i hi0 hi1 hw hG hax ham hMI hGR hTD hLA hoq hl (by omega) (by omega) KL
    · refine lv_tableIn (tgt := 661) X.1 X.2.1 dL_law_40 (by omega) (by omega) (by rw [w42]; rfl) (by decide) ?_
      exact lc_10 hst X hX hbl hbA hdc hkl hAo hL hz_i hi0 hi1 hw hG hax ham hMI hGR hTD hLA hoq hl (by omega) (by omega) KL
    · refine lv_tableIn (tgt := 674) X.1 X.2.1 dL_law_40 (by omega) (by omega) (by rw [w42]; rfl) (by decide) ?_
      exact lc_11 hst X hX hbl hbA hdc hkl hAo hL hz_i hi0 hi1 hw hG hax ham hMI hGR hTD hLA hoq hl (by omega) (by omega) KL
    · refine lv_tableIn (tgt := 711) X.1 X.2.1 dL_law_40 (by omega) (by omega) (by rw [w42]; rfl) (by decide) ?_
      exact lc_12 hst X hX hbl hbA hdc hkl hAo hL hz_i hi0 hi1 hw hG hax ham hMI hGR hTD hLA hoq hl (by omega) (by omega) KL
    · refine lv_tableIn (tgt := 748) X.1 X.2.1 dL_law_40 (by omega) (by omega) (by rw [w42]; rfl) (by decide) ?_
      exact lc_13 hst X hX hbl hbA hdc hkl hAo hL hz_i hi0 hi1 hw hG hax ham hMI hGR hTD hLA hoq hl (by omega) (by omega) KL
    · refine lv_tableIn (tgt := 800) X.1 X.2.1 dL_law_40 (by omega) (by omega) (by rw [w42]; rfl) (by decide) ?_
      exact lc_14 hst X hX hbl hbA hdc hkl hAo hL hz_i hi0 hi1 hw hG hax ham hMI hGR hTD hLA hoq hl (by omega) (by omega) KL
    · refine lv_tableIn (tgt := 825) X.1 X.2.1 dL_law_40 (by omega) (by omega) (by rw [w42]; rfl) (by decide) ?_
      exact lc_15 hst X hX hbl hbA hdc hkl hAo hL hz_i hi0 hi1 hw hG hax ham hMI hGR hTD hLA hoq hl (by omega) (by omega) KL
    · refine lv_tableIn (tgt := 862) X.1 X.2.1 dL_law_40 (by omega) (by omega) (by rw [w42]; rfl) (by decide) ?_
      exact lc_16 hst X hX hbl hbA hdc hkl hAo hL hz_i hi0 hi1 hw hG hax ham hMI hGR hTD hLA hoq hl (by omega) (by omega) KL
    · refine lv_tableIn (tgt := 911) X.1 X.2.1 dL_law_40 (by omega) (by omega) (by rw [w42]; rfl) (by decide) ?_
      exact lc_17 hst X hX hbl hbA hdc hkl hAo hL hz_i hi0 hi1 hw hG hax ham hMI hGR hTD hLA hoq hl (by omega) (by omega) KL
    · refine lv_tableIn (tgt := 960) X.1 X.2.1 dL_law_40 (by omega) (by omega) (by rw [w42]; rfl) (by decide) ?_
      exact lc_18 hst X hX hbl hbA hdc hkl hAo hL hz_i hi0 hi1 hw hG hax ham hMI hGR hTD hLA hoq hl (by omega) (by omega) KL
    · refine lv_tableIn (tgt := 1009) X.1 X.2.1 dL_law_40 (by omega) (by omega) (by rw [w42]; rfl) (by decide) ?_
      exact lc_19 hst X hX hbl hbA hdc hkl hAo hL hz_i hi0 hi1 hw hG hax ham hMI hGR hTD hLA hoq hl (by omega) (by omega) KL
    · refine lv_tableIn (tgt := 1034) X.1 X.2.1 dL_law_40 (by omega) (by omega) (by rw [w42]; rfl) (by decide) ?_
      exact lc_20 hst X hX hbl hbA hdc hkl hAo hL hz_i hi0 hi1 hw hG hax ham hMI hGR hTD hLA hoq hl (by omega) (by omega) KL
    · refine lv_tableIn (tgt := 1095) X.1 X.2.1 dL_law_40 (by omega) (by omega) (by rw [w42]; rfl) (by decide) ?_
      exact lc_21 hst X hX hbl hbA hdc hkl hAo hL hz_i hi0 hi1 hw hG hax ham hMI hGR hTD hLA hoq hl (by omega) (by omega) KL
    · refine lv_tableIn (tgt := 1132) X.1 X.2.1 dL_law_40 (by omega) (by omega) (by rw [w42]; rfl) (by decide) ?_
      exact lc_22 hst X hX hbl hbA hdc hkl hAo hL hz_i hi0 hi1 hw hG hax ham hMI hGR hTD hLA hoq hl (by omega) (by omega) KL
    · refine lv_tableIn (tgt := 1205) X.1 X.2.1 dL_law_40 (by omega) (by omega) (by rw [w42]; rfl) (by decide) ?_
      exact lc_23 hst X hX hbl hbA hdc hkl hAo hL hz_i hi0 hi1 hw hG hax ham hMI hGR hTD hLA hoq hl (by omega) (by omega) KL
    · refine lv_tableIn (tgt := 1242) X.1 X.2.1 dL_law_40 (by omega) (by omega) (by rw [w42]; rfl) (by decide) ?_
      exact lc_24 hst X hX hbl hbA hdc hkl hAo hL hz_i hi0 hi1 hw hG hax ham hMI hGR hTD hLA hoq hl (by omega) (by omega) KL
    · refine lv_tableIn (tgt := 1279) X.1 X.2.1 dL_law_40 (by omega) (by omega) (by rw [w42]; rfl) (by decide) ?_
      exact lc_25 hst X hX hbl hbA hdc hkl hAo hL hz_i hi0 hi1 hw hG hax ham hMI hGR hTD hLA hoq hl (by omega) (by omega) KL
    · refine lv_tableIn (tgt := 1356) X.1 X.2.1 dL_law_40 (by omega) (by omega) (by rw [w42]; rfl) (by decide) ?_
      exact lc_26 hst X hX hbl hbA hdc hkl hAo hL hz_i hi0 hi1 hw hG hax ham hMI hGR hTD hLA hoq hl (by omega) (by omega) KL
    · refine lv_tableIn (tgt := 1381) X.1 X.2.1 dL_law_40 (by omega) (by omega) (by rw [w42]; rfl) (by decide) ?_
      exact lc_27 hst X hX hbl hbA hdc hkl hAo hL hz_i hi0 hi1 hw hG hax ham hMI hGR hTD hLA hoq hl (by omega) (by omega) KL
    · refine lv_tableIn (tgt := 1394) X.1 X.2.1 dL_law_40 (by omega) (by omega) (by rw [w42]; rfl) (by decide) ?_
      exact lc_28 hst X hX hbl hbA hdc hkl hAo hL hz_i hi0 hi1 hw hG hax ham hMI hGR hTD hLA hoq hl (by omega) (by omega) KL
    · refine lv_tableIn (tgt := 1431) X.1 X.2.1 dL_law_40 (by omega) (by omega) (by rw [w42]; rfl) (by decide) ?_
      exact lc_29 hst X hX hbl hbA hdc hkl hAo hL hz_i hi0 hi1 hw hG hax ham hMI hGR hTD hLA hoq hl (by omega) (by omega) KL
    · refine lv_tableIn (tgt := 1480) X.1 X.2.1 dL_law_40 (by omega) (by omega) (by rw [w42]; rfl) (by decide) ?_
      exact lc_30 hst X hX hbl hbA hdc hkl hAo hL hz_i hi0 hi1 hw hG hax ham hMI hGR hTD hLA hoq hl (by omega) (by omega) KL
  have hl := lv_entry ([.ref b]) (n := 7) (Nat.le_of_ble_eq_true rfl)
  rw [lg_entry_eq]
  generalize (lg_sl ([.ref b]) ++ List.replicate (7 - (lg_sl ([.ref b])).length) Slot.unset).toArray = ls at hl ⊢
  have hl : lv_has ls 7 [(0, .ref b)] := hl
  have hw0 : Wd G cy (fun q : Nat => s.heap.size ≤ q) s.heap PS0 s.heap [] := Wd_0
  refine r_new X hw0 191 11 12 1 rfl tyX11 (by decide) rfl glx_11 tyX11_ok (X.2.2.2.1 (.classLink RL 8 RX11) (by decide +kernel)) (X.2.2.2.1 (.instantiable RX11 12) (by decide +kernel)) (X.2.2.2.1 (.initialized RX11) (by decide +kernel)) (zo_11 _) zd_11 (Nat.le_of_ble_eq_true rfl) (Nat.le_of_ble_eq_true rfl) (Nat.le_of_ble_eq_true rfl) (Nat.le_of_ble_eq_true rfl) dL_law_0 (fun x H hxn hw => ?_)
  obtain ⟨S1, e1⟩ : ∃ T, T = sO PS0 x 191 := ⟨_, rfl⟩
  rw [← e1] at hw
  have ha1 : At S1 x 191 := by rw [e1]; exact At_nO _ _ _
  have hg1 : GX S1 := by rw [e1]; exact GX_O GX_0 hxn (by decide +kernel)
  have hzI1 : ∀ g, pI S1 g x = 0 := fun g => by rw [e1]; exact pI_sO_new
  have hzR1 : ∀ g, pR S1 g x = none := fun g => by rw [e1]; exact if_pos rfl
  have p1c : Phc S1 = 0 := (show Phc S1 = Phc PS0 from Ph_sO GX_0 hxn e1 (by decide)).trans rfl
  have p1s : Phs S1 = 0 := (show Phs S1 = Phs PS0 from Ph_sO GX_0 hxn e1 (by decide)).trans rfl
  refine lv_dup X.1 X.2.1 dL_law_3 rfl ?_
  refine k_v (rm := { frames := 4, cells := 58, slots := 1728, locals := 192 }) (av := [.ref x]) X hw (va_runI (As := []) (rest := [.ref x]) (cfix X) (k_X11_init6 l G cy κ S1 _ x hg1 ha1 hzI1 hzR1) (cwI 0 X.2.2.2.1 gk_X11_init rfl rfl rfl (X.2.2.2.1 (.initialized RX11) (by decide +kernel)) (X.2.2.2.1 (.methodLink RL 20 yX11_init) (by decide +kernel)) (X.2.2.2.1 (.instanceMethod yX11_init) (by decide +kernel)) rfl (by decide +kernel) ⟨Nat.le_of_ble_eq_true rfl, Nat.le_of_ble_eq_true rfl⟩) (pre_S X hw _) rfl rfl hl.1 rfl (lv_room (Nat.le_of_ble_eq_true rfl)) dL_law_4 ⟨(by show 1 + 58 ≤ 601024; omega), (by show 12 + 1728 ≤ 7293034; omega)⟩) 59 1740 (by show 1 + 58 ≤ 59; omega) (by show 12 + 1728 ≤ 1740; omega) (fun S2 H locs hp hw hfr hnw => ?_)
  obtain ⟨hKq2, hg2, hax2, p2c, p2s, qt, t21, t22, t23, t24, t25, ut, t26, t27, t28, shq, t29, t30, t31, rhq, t32, t33⟩ := hp
  refine lv_astore_n (lv' := [(1, .ref x), (0, .ref b)]) X.1 X.2.1 dL_law_7 rfl hl (by decide) rfl (fun ls hl => ?_)
  refine r_new X hw 192 12 1806 60 rfl tyX12 (by decide) rfl glx_12 tyX12_ok (X.2.2.2.1 (.classLink RL 21 RX12) (by decide +kernel)) (X.2.2.2.1 (.instantiable RX12 66) (by decide +kernel)) (X.2.2.2.1 (.initialized RX12) (by decide +kernel)) (zo_12 _) zd_12 (by show 59 + 1 ≤ 60; omega) (by show 1740 + 66 ≤ 1806; omega) (by show 60 ≤ 601024; omega) (by show 1806 ≤ 7293034; omega) dL_law_8 (fun mo H hmo hw => ?_)
  obtain ⟨S3, e3⟩ : ∃ T, T = sO S2 mo 192 := ⟨_, rfl⟩
  rw [← e3] at hw
  have ha3 : At S3 mo 192 := by rw [e3]; exact At_nO _ _ _
  have hg3 : GX S3 := by rw [e3]; exact GX_O hg2 hmo (by decide +kernel)
  have hzI3 : ∀ g, pI S3 g mo = 0 := fun g => by rw [e3]; exact pI_sO_new
  have hzR3 : ∀ g, pR S3 g mo = none := fun g => by rw [e3]; exact if_pos rfl
  have hax3 : At S3 x 11 := by rw [e3]; exact At_sO hax2 hmo
  have p3c : Phc S3 = Phc S2 := Ph_sO hg2 hmo e3 (by decide)
  have p3s : Phs S3 = Phs S2 := Ph_sO hg2 hmo e3 (by decide)
  refine lv_dup X.1 X.2.1 dL_law_11 rfl ?_
  refine k_v (rm := { frames := 2, cells := 48, slots := 182647, locals := 96 }) (av := [.ref mo]) X hw (va_runI (As := []) (rest := [.ref mo]) (cfix X) (k_X12_init6 l G cy κ S3 _ mo hg3 ha3 hzI3 hzR3) (cwI 0 X.2.2.2.1 gk_X12_init rfl rfl rfl (X.2.2.2.1 (.initialized RX12) (by decide +kernel)) (X.2.2.2.1 (.methodLink RL 23 yX12_init) (by decide +kernel)) (X.2.2.2.1 (.instanceMethod yX12_init) (by decide +kernel)) rfl (by decide +kernel) ⟨Nat.le_of_ble_eq_true rfl, Nat.le_of_ble_eq_true rfl⟩) (pre_S X hw _) rfl rfl hl.1 rfl (lv_room (Nat.le_of_ble_eq_true rfl)) dL_law_12 ⟨(by show 60 + 48 ≤ 601024; omega), (by show 1806 + 182647 ≤ 7293034; omega)⟩) 108 184453 (by show 60 + 48 ≤ 108; omega) (by show 1806 + 182647 ≤ 184453; omega) (fun S4 H locs hp hw hfr hnw => ?_)
  obtain ⟨hKq4, hg4, ham4, p4c, p4s, hmi4, hgr4, t45, t46, t47, t48, t49, t50, t51, t52⟩ := hp
  have hax4 : At S4 x 11 := Kq.at hKq4 ha3 hax3 (by decide)
  have hq3 : At S3 qt 8 := by rw [e3]; exact At_sO t22 hmo
  have hu3 : At S3 ut 10 := by rw [e3]; exact At_sO t27 hmo
  have k4 := ((hKq4 x hax3.1).2 (At_ne hax3 ha3 (by decide))).2
  have k41 : pI S4 1102 x = 0 := (k4.1 1102).trans (by rw [e3]; exact (pI_sO_ne (ne_of_new hmo hax2.1)).trans t24)
  have k42 : pI S4 1104 x = 0 := (k4.1 1104).trans (by rw [e3]; exact (pI_sO_ne (ne_of_new hmo hax2.1)).trans t25)
  have k43 : pI S4 1000 ut = 0 := (((hKq4 ut hu3.1).2 (At_ne hu3 ha3 (by decide))).2.1 1000).trans (by rw [e3]; exact (pI_sO_ne (ne_of_new hmo t27.1)).trans t28)
  have hrA : At S2 rhq 6 := sp_at hg2 hax2 t32
  have hr3 : At S3 rhq 6 := by rw [e3]; exact At_sO hrA hmo
  have k44 : pI S4 800 qt = 0 := (((hKq4 qt hq3.1).2 (At_ne hq3 ha3 (by decide))).2.1 800).trans (by rw [e3]; exact (pI_sO_ne (ne_of_new hmo t22.1)).trans t31.1)
  obtain ⟨dwq, dw1, dw2, dw3, dw4, dw5⟩ := t31.2
  have dwA : At S3 dwq 1 := by rw [e3]; exact At_sO dw2 hmo
  have kd101 : pI S4 101 dwq = 0 := (((hKq4 dwq dwA.1).2 (At_ne dwA ha3 (by decide))).2.1 101).trans (by rw [e3]; exact (pI_sO_ne (ne_of_new hmo dw2.1)).trans dw3)
  have kd102 : pI S4 102 dwq = 0 := (((hKq4 dwq dwA.1).2 (At_ne dwA ha3 (by decide))).2.1 102).trans (by rw [e3]; exact (pI_sO_ne (ne_of_new hmo dw2.1)).trans dw4)
  have kd103 : pI S4 103 dwq = 0 := (((hKq4 dwq dwA.1).2 (At_ne dwA ha3 (by decide))).2.1 103).trans (by rw [e3]; exact (pI_sO_ne (ne_of_new hmo dw2.1)).trans dw5)
  have k4dw : EXdw S4 x qt mo := ⟨dwq, (k4.2.1 1108).trans (by rw [e3]; exact (pR_sO_ne (ne_of_new hmo hax2.1)).trans dw1), by rw [kd101, t52.2.1], by rw [kd102, t52.2.2.1], by rw [kd103, t52.2.2.2], fun j hj => by rw [kd101, ti_0] at hj; omega⟩
  have k4e : ExT S4 x qt mo := ⟨k4dw, trivial⟩
  have k45 : pR S4 1106 x = some rhq := (k4.2.1 1106).trans (by rw [e3]; exact (pR_sO_ne (ne_of_new hmo hax2.1)).trans t32)
  have k46 : RuD S4 rhq := RuD_to (fun g _ => (((hKq4 rhq hr3.1).2 (At_ne hr3 ha3 (by decide))).2.2.1 g).trans (by rw [e3]; exact pR_sO_ne (ne_of_new hmo hrA.1))) t33
  have htd4 : TD S4 x mo := ⟨⟨qt, (k4.2.1 1107).trans (by rw [e3]; exact (pR_sO_ne (ne_of_new hmo hax2.1)).trans t21), Kq.at hKq4 ha3 hq3 (by decide), ((((hKq4 qt hq3.1).2 (At_ne hq3 ha3 (by decide))).2.1 801).trans (by rw [e3]; exact (pI_sO_ne (ne_of_new hmo t22.1)).trans t23)).trans t45.symm⟩, by rw [k41, t46], by rw [k42, t47], ⟨ut, (k4.2.1 1105).trans (by rw [e3]; exact (pR_sO_ne (ne_of_new hmo hax2.1)).trans t26), Kq.at hKq4 ha3 hu3 (by decide), by rw [k43, t48]⟩, PN_0 k42, CT_0 k41, t49, TX_0 k41 k42 ((k4.2.1 1109).trans (by rw [e3]; exact (pR_sO_ne (ne_of_new hmo hax2.1)).trans t29)) (ShI_mo hg2 hax2 t29 hmo e3 ha3 hKq4 t30) t50 ((k4.2.1 1105).trans (by rw [e3]; exact (pR_sO_ne (ne_of_new hmo hax2.1)).trans t26)) (Kq.at hKq4 ha3 hu3 (by decide)) k43 ((k4.2.1 1107).trans (by rw [e3]; exact (pR_sO_ne (ne_of_new hmo hax2.1)).trans t21)) k44 t52.1 t51 k45 k46 k4e⟩
  refine lv_astore_n (lv' := [(2, .ref mo), (1, .ref x), (0, .ref b)]) X.1 X.2.1 dL_law_15 rfl hl (by decide) rfl (fun ls hl => ?_)
  refine lv_iconst (v := 1) X.1 X.2.1 dL_law_16 (by decide) ?_
  refine r_newJ X hw 184454 109 (X.2.2.2.1 (.arrayClass .long) (by decide +kernel)) (by show 108 + 1 ≤ 109; omega) (by show 184453 + 1 ≤ 184454; omega) (by show 109 ≤ 601024; omega) (by show 184454 ≤ 7293034; omega) dL_law_17 (fun oq H cL hoq hAo hkl hLA hw => ?_)
  refine lv_astore_n (lv' := [(3, .ref oq), (2, .ref mo), (1, .ref x), (0, .ref b)]) X.1 X.2.1 dL_law_19 rfl hl (by decide) rfl (fun ls hl => ?_)
  refine lv_iconst (v := 0) X.1 X.2.1 dL_law_20 (by decide) ?_
  refine lv_istore (lv' := [(4, .int 0), (3, .ref oq), (2, .ref mo), (1, .ref x), (0, .ref b)]) X.1 X.2.1 dL_law_21 hl (by decide) rfl (fun ls hl => ?_)
  exact LP x mo oq cL hkl hAo _ S4 _ _ ls 0 0 109 184454 rfl ti_0 (by omega) (by omega) hw hg4 hax4 ham4 hmi4 hgr4 htd4 hLA hoq hl (by omega) (by omega)
