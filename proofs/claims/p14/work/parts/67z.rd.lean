/-! ===== what is told about a pot ===== -/
def abF (E : En) (A : Pt) (R : List Ru) (k : Int) : Int := if k = 0 then ((qb A).length : Int) else if k = 1 then ((qe A).length : Int) else if k = 2 then ((ql A).length : Int) else if k = 3 then ((qg A).length : Int) else if k = 4 then (qst A).toInt else if k = 5 then (qse A).toInt else if k = 6 then (suL (finF E A) (qe A)).toInt else if k = 7 then (qdr A).toInt else if k = 8 then (qtk A).toInt else if k = 9 then (R.length : Int) else if k = 10 then (eaim E).toInt else -1
section
variable {E : En} {A : Pt} {R : List Ru} {k : Int}
theorem abF_0 (h : k = 0) : abF E A R k = ((qb A).length : Int) := if_pos h
theorem abF_1 (h : k = 1) : abF E A R k = ((qe A).length : Int) := by subst h; rfl
theorem abF_2 (h : k = 2) : abF E A R k = ((ql A).length : Int) := by subst h; rfl
theorem abF_3 (h : k = 3) : abF E A R k = ((qg A).length : Int) := by subst h; rfl
theorem abF_4 (h : k = 4) : abF E A R k = (qst A).toInt := by subst h; rfl
theorem abF_5 (h : k = 5) : abF E A R k = (qse A).toInt := by subst h; rfl
theorem abF_6 (h : k = 6) : abF E A R k = (suL (finF E A) (qe A)).toInt := by subst h; rfl
theorem abF_7 (h : k = 7) : abF E A R k = (qdr A).toInt := by subst h; rfl
theorem abF_8 (h : k = 8) : abF E A R k = (qtk A).toInt := by subst h; rfl
theorem abF_9 (h : k = 9) : abF E A R k = (R.length : Int) := by subst h; rfl
theorem abF_10 (h : k = 10) : abF E A R k = (eaim E).toInt := by subst h; rfl
theorem abF_d (h : k < 0 ∨ 10 < k) : abF E A R k = -1 := by
  unfold abF
  rw [if_neg (by omega), if_neg (by omega), if_neg (by omega), if_neg (by omega), if_neg (by omega), if_neg (by omega), if_neg (by omega), if_neg (by omega), if_neg (by omega), if_neg (by omega), if_neg (by omega)]
end
theorem ren_ab {ν : Nat → Nat} {D : Nat → Prop} {A B : Pt} {E F : En} {R : List Ru} {k : Int} (hE : ReE ν D E F) (h : Ren ν D A B) : abF F B R k = abF E A R k := by
  have hf : ∀ c, c ∈ qe A → finF F B (ν c) = finF E A c := fun c hm => ren_fin hE h (h.2.2.2.2.2.2.2.2.2.2.2 c (Or.inr (Or.inl hm)))
  obtain ⟨h0, h1, h2, h3, h4, h5, -, -, -, h9, h10, -⟩ := h
  unfold abF
  rw [h0, h1, h2, h3, h4, h5, h9, h10, List.length_map, List.length_map, List.length_map, List.length_map, ren_su hf, hE.2.2.2.1]

set_option maxHeartbeats 4000000 in
set_option maxRecDepth 100000 in
theorem k_X11_about6 (l : Launch) (G : va_G) (cy : Nat → ClassId) (κ : Nat → Nat) (S : PS) (sz : Nat) (x : Nat) (a1 : Int32) (a1_z : Int) (a2 : Int32) (a2_z : Int) (D : Nat → Prop) (R0 : Nat) (R1 : Nat) (R2 : Nat) (Gs : Nat) (Ks : Nat) (A : Pt) (Ev : En) (Rl : List Ru) (hG : GX S) (ha_x : At S x 11) (hz_a1 : a1.toInt = a1_z) (hz_a2 : a2.toInt = a2_z) (hp_0 : (∀ c, D c → At S c 0)) (hp_1 : (∀ P, 0 ≤ a1_z → a1_z < (pI S 1104 x).toInt → mB S x 1103 a1_z.toNat = some P → PotA S D P R0 R1 R2 Gs Ks A Ev Rl)) (hp_2 : pR S 1107 x = some Ks) : Ci l yX11_about wsX11_about ({ frames := 4, cells := 0, slots := 0, locals := 192 }) G cy κ S sz [.ref x, .int (a1), .int (a2)] (fun (r : Int32) (S9 : PS) => S = S9 ∧ (-2147483648 ≤ r.toInt ∧ r.toInt ≤ 2147483647 ∧ (PN S x → (0 ≤ a1_z ∧ a1_z < (pI S 1104 x).toInt) → ∀ P, mB S x 1103 a1_z.toNat = some P → r.toInt = abF Ev A Rl a2_z) ∧ (PN S x → ¬ (0 ≤ a1_z ∧ a1_z < (pI S 1104 x).toInt) → r.toInt = -1))) := by
  refine ent_m (cc := cX11_about) (maxL := 4) (ret := (some .int)) (by decide) rfl (Nat.le_of_ble_eq_true rfl) ?_
  intro p e s m below meth c ls X hr hlocks hin hw hl hsz
  subst hsz
  have X : Cx p c cX11_about 4 s [.ref x, .int (a1), .int (a2)].toArray wsX11_about RX11 m G cy κ (AS S s.heap.size) := X
  have hl : lv_has ls 4 [(0, .ref x), (1, .int (a1)), (2, .int (a2))] := hl
  have rg_a1 : (-2147483648) ≤ a1_z ∧ a1_z ≤ 2147483647 := by rw [← hz_a1]; exact ⟨z_lo _, z_hi _⟩
  have rg_a2 : (-2147483648) ≤ a2_z ∧ a2_z ≤ 2147483647 := by rw [← hz_a2]; exact ⟨z_lo _, z_hi _⟩
  obtain ⟨v_1, ev_1⟩ : ∃ v, pI S 1104 x = v := ⟨_, rfl⟩
  have rg_2 := gI_11_1104 hG ha_x; rw [ev_1] at rg_2
  have pz_3 : (pI S 1104 x).toInt = v_1.toInt := by rw [ev_1]
  have pz_4 : (pI S 1104 x).toInt = v_1.toInt := (congrArg Int32.toInt ev_1).trans rfl
  have haKs : At S Ks 8 := by obtain ⟨c, k1, k2⟩ := gQ_11_1107 hG ha_x; have h3 := hp_2; rw [k1] at h3; cases h3; exact k2
  refine lv_aload_n X.1 X.2.1 dX11_about_0 rfl (lv_at hl 0 rfl) ?_
  refine lv_iload_n X.1 X.2.1 dX11_about_1 rfl (lv_at hl 1 rfl) ?_
  refine k_q (rm := { frames := 1, cells := 0, slots := 0, locals := 48 }) (av := [.ref x, .int (a1)]) X hw (va_runV (As := [.int (a1)]) (rest := []) (cfix X) (k_X11_potAt3 l G cy κ S _ x (a1) (a1_z) hG ha_x hz_a1) (cwV 1 X.2.2.2.1 gX11_about_X11_potAt rfl rfl rfl (by decide +kernel) ⟨Nat.le_of_ble_eq_true rfl, Nat.le_of_ble_eq_true rfl⟩) (pre_V X hw _ ha_x rfl (by decide) rfl) rfl rfl hl.1 rfl (lv_room (Nat.le_of_ble_eq_true rfl)) dX11_about_2 ⟨Nat.le_of_ble_eq_true rfl, Nat.le_of_ble_eq_true rfl⟩) 0 0 (Nat.le_of_ble_eq_true rfl) (Nat.le_of_ble_eq_true rfl) (fun rr_5 S_6 H locs hp hw hfr hnw => ?_)
  obtain ⟨e2, hp⟩ := hp
  subst e2
  obtain ⟨hq_7, hnf_8⟩ := hp
  rcases rr_5 with _ | q_9
  · refine W.eq (g2 := F0 m 5 ls (.null :: [])) rfl ?_
    have nf_10 := hnf_8 rfl
    refine lv_astore_nN (lv' := [(3, .null), (0, .ref x), (1, .int (a1)), (2, .int (a2))]) X.1 X.2.1 dX11_about_5 rfl hl (by decide) rfl (fun ls hl => ?_)
    refine lv_aload_nN X.1 X.2.1 dX11_about_6 rfl (lv_at hl 0 rfl) ?_
    refine lv_ifnonnullN X.1 X.2.1 dX11_about_7 ?_
    refine lv_iconst (v := (-1)) X.1 X.2.1 dX11_about_10 (by decide) ?_
    exact ret_i X hw hr hlocks (Nat.le_of_ble_eq_true rfl) (Nat.le_of_ble_eq_true rfl) ⟨rfl, ⟨z_lo _, z_hi _, fun hPN h P hP => (by exfalso; exact nf_10 hPN ⟨h.1, h.2⟩), fun _ _ => by decide⟩⟩ dX11_about_11
  · refine W.eq (g2 := F0 m 5 ls (.ref q_9 :: [])) rfl ?_
    obtain ⟨ha_11, f_12, f_13, f_14⟩ := hq_7 _ rfl
    have pa_15 := hp_1 _ f_12 f_13 f_14
    obtain ⟨pa_16, pa_17, pa_18, pa_19⟩ := pa_15
    have haR0 := row_at hG ha_11 (Or.inl pa_16.1)
    have haR1 := row_at hG ha_11 (Or.inr (Or.inl pa_16.2.1))
    have haR2 := row_at hG ha_11 (Or.inr (Or.inr pa_16.2.2.1))
    have haGs : At S Gs 29 := by obtain ⟨c, k1, k2⟩ := gQ_4_403 hG ha_11; have h3 := pa_16.2.2.2.1; rw [k1] at h3; cases h3; exact k2
    have rh_24 := pa_19
    obtain ⟨rh_21, rh_22, rh_23⟩ := rh_24
    have harh_21 := ru_at hG ha_11 rh_22
    refine lv_astore_n (lv' := [(3, .ref q_9), (0, .ref x), (1, .int (a1)), (2, .int (a2))]) X.1 X.2.1 dX11_about_5 rfl hl (by decide) rfl (fun ls hl => ?_)
    refine lv_aload_n X.1 X.2.1 dX11_about_6 rfl (lv_at hl 0 rfl) ?_
    refine lv_ifnonnull (tgt := 12) X.1 X.2.1 dX11_about_7 (by decide) ?_
    refine lv_iload_n X.1 X.2.1 dX11_about_12 rfl (lv_at hl 3 rfl) ?_
    by_cases w_25 : (a2).toInt < 0 ∨ 10 < (a2).toInt
    · refine lv_tableOut (tgt := 145) X.1 X.2.1 dX11_about_13 w_25 (by decide) ?_
      refine lv_iconst (v := (-1)) X.1 X.2.1 dX11_about_145 (by decide) ?_
      exact ret_i X hw hr hlocks (Nat.le_of_ble_eq_true rfl) (Nat.le_of_ble_eq_true rfl) ⟨rfl, ⟨z_lo _, z_hi _, fun _ _ P hP => (by rw [f_14] at hP; cases hP; rw [abF_d (by omega)]; decide), fun _ h => absurd ⟨by omega, by omega⟩ h⟩⟩ dX11_about_146
    have w_25b : (a2).toInt = 0 ∨ (a2).toInt = 1 ∨ (a2).toInt = 2 ∨ (a2).toInt = 3 ∨ (a2).toInt = 4 ∨ (a2).toInt = 5 ∨ (a2).toInt = 6 ∨ (a2).toInt = 7 ∨ (a2).toInt = 8 ∨ (a2).toInt = 9 ∨ (a2).toInt = 10 := by omega
    rcases w_25b with w_25c | w_25c | w_25c | w_25c | w_25c | w_25c | w_25c | w_25c | w_25c | w_25c | w_25c
    · refine lv_tableIn (tgt := 72) X.1 X.2.1 dX11_about_13 (by omega) (by omega) (by rw [w_25c]; rfl) (by decide) ?_
      refine lv_aload_n X.1 X.2.1 dX11_about_72 rfl (lv_at hl 0 rfl) ?_
      refine r_getR (g := 400) X hw ha_11 rfl 0 pa_16.1 (by decide) rfl inn_X11_about_4 (by decide) (X.2.2.2.1 (.fieldLink RX11 173 "SilkMill$Pot" "basket" "LSilkMill$Row;") (by decide +kernel)) rfl (gv_400 _ _) dX11_about_73 ?_
      obtain ⟨v_26, ev_26⟩ : ∃ v, pI S 500 R0 = v := ⟨_, rfl⟩
      obtain ⟨q_28, n_29, h_30, h_31, h_32, h_33, h_34⟩ := gRowQ hG haR0
      have rg_27 := gRow_500 hG haR0 h_30 h_32; rw [ev_26] at rg_27
      have pz_35 : (pI S 500 R0).toInt = v_26.toInt := by rw [ev_26]
      refine r_getI (g := 500) (x := v_26) X hw haR0 rfl 0 ev_26 (by decide) rfl inn_X11_about_5 (by decide) (X.2.2.2.1 (.fieldLink RX11 177 "SilkMill$Row" "size" "I") (by decide +kernel)) rfl (gv_500 _ _) dX11_about_76 ?_
      exact ret_i X hw hr hlocks (Nat.le_of_ble_eq_true rfl) (Nat.le_of_ble_eq_true rfl) ⟨rfl, ⟨z_lo _, z_hi _, fun _ _ P hP => (by rw [f_14] at hP; cases hP; rw [abF_0 (by omega), ← ev_26]; exact RowIs_sz pa_17.1), fun _ h => absurd ⟨by omega, by omega⟩ h⟩⟩ dX11_about_79
    · refine lv_tableIn (tgt := 80) X.1 X.2.1 dX11_about_13 (by omega) (by omega) (by rw [w_25c]; rfl) (by decide) ?_
      refine lv_aload_n X.1 X.2.1 dX11_about_80 rfl (lv_at hl 0 rfl) ?_
      refine r_getR (g := 401) X hw ha_11 rfl 1 pa_16.2.1 (by decide) rfl inn_X11_about_4 (by decide) (X.2.2.2.1 (.fieldLink RX11 180 "SilkMill$Pot" "ends" "LSilkMill$Row;") (by decide +kernel)) rfl (gv_401 _ _) dX11_about_81 ?_
      obtain ⟨v_36, ev_36⟩ : ∃ v, pI S 500 R1 = v := ⟨_, rfl⟩
      obtain ⟨q_38, n_39, h_40, h_41, h_42, h_43, h_44⟩ := gRowQ hG haR1
      have rg_37 := gRow_500 hG haR1 h_40 h_42; rw [ev_36] at rg_37
      have pz_45 : (pI S 500 R1).toInt = v_36.toInt := by rw [ev_36]
      refine r_getI (g := 500) (x := v_36) X hw haR1 rfl 0 ev_36 (by decide) rfl inn_X11_about_5 (by decide) (X.2.2.2.1 (.fieldLink RX11 177 "SilkMill$Row" "size" "I") (by decide +kernel)) rfl (gv_500 _ _) dX11_about_84 ?_
      exact ret_i X hw hr hlocks (Nat.le_of_ble_eq_true rfl) (Nat.le_of_ble_eq_true rfl) ⟨rfl, ⟨z_lo _, z_hi _, fun _ _ P hP => (by rw [f_14] at hP; cases hP; rw [abF_1 (by omega), ← ev_36]; exact RowIs_sz pa_17.2.1), fun _ h => absurd ⟨by omega, by omega⟩ h⟩⟩ dX11_about_87
    · refine lv_tableIn (tgt := 88) X.1 X.2.1 dX11_about_13 (by omega) (by omega) (by rw [w_25c]; rfl) (by decide) ?_
      refine lv_aload_n X.1 X.2.1 dX11_about_88 rfl (lv_at hl 0 rfl) ?_
      refine r_getR (g := 402) X hw ha_11 rfl 2 pa_16.2.2.1 (by decide) rfl inn_X11_about_4 (by decide) (X.2.2.2.1 (.fieldLink RX11 183 "SilkMill$Pot" "lost" "LSilkMill$Row;") (by decide +kernel)) rfl (gv_402 _ _) dX11_about_89 ?_
      obtain ⟨v_46, ev_46⟩ : ∃ v, pI S 500 R2 = v := ⟨_, rfl⟩
      obtain ⟨q_48, n_49, h_50, h_51, h_52, h_53, h_54⟩ := gRowQ hG haR2
      have rg_47 := gRow_500 hG haR2 h_50 h_52; rw [ev_46] at rg_47
      have pz_55 : (pI S 500 R2).toInt = v_46.toInt := by rw [ev_46]
      refine r_getI (g := 500) (x := v_46) X hw haR2 rfl 0 ev_46 (by decide) rfl inn_X11_about_5 (by decide) (X.2.2.2.1 (.fieldLink RX11 177 "SilkMill$Row" "size" "I") (by decide +kernel)) rfl (gv_500 _ _) dX11_about_92 ?_
      exact ret_i X hw hr hlocks (Nat.le_of_ble_eq_true rfl) (Nat.le_of_ble_eq_true rfl) ⟨rfl, ⟨z_lo _, z_hi _, fun _ _ P hP => (by rw [f_14] at hP; cases hP; rw [abF_2 (by omega), ← ev_46]; exact RowIs_sz pa_17.2.2.1), fun _ h => absurd ⟨by omega, by omega⟩ h⟩⟩ dX11_about_95
    · refine lv_tableIn (tgt := 96) X.1 X.2.1 dX11_about_13 (by omega) (by omega) (by rw [w_25c]; rfl) (by decide) ?_
      refine lv_aload_n X.1 X.2.1 dX11_about_96 rfl (lv_at hl 0 rfl) ?_
      refine r_getR (g := 403) X hw ha_11 rfl 3 pa_16.2.2.2.1 (by decide) rfl inn_X11_about_4 (by decide) (X.2.2.2.1 (.fieldLink RX11 186 "SilkMill$Pot" "strand" "LSilkMill$Strand;") (by decide +kernel)) rfl (gv_403 _ _) dX11_about_97 ?_
      obtain ⟨v_56, ev_56⟩ : ∃ v, pI S 902 Gs = v := ⟨_, rfl⟩
      have rg_57 := gI_29_902 hG haGs; rw [ev_56] at rg_57
      have pz_58 : (pI S 902 Gs).toInt = v_56.toInt := by rw [ev_56]
      refine r_getI (g := 902) (x := v_56) X hw haGs rfl 2 ev_56 (by decide) rfl inn_X11_about_9 (by decide) (X.2.2.2.1 (.fieldLink RX11 190 "SilkMill$Strand" "metres" "I") (by decide +kernel)) rfl (gv_902 _ _) dX11_about_100 ?_
      exact ret_i X hw hr hlocks (Nat.le_of_ble_eq_true rfl) (Nat.le_of_ble_eq_true rfl) ⟨rfl, ⟨z_lo _, z_hi _, fun _ _ P hP => (by rw [f_14] at hP; cases hP; rw [abF_3 (by omega), ← ev_56]; exact pa_17.2.2.2.2.2.1), fun _ h => absurd ⟨by omega, by omega⟩ h⟩⟩ dX11_about_103
    · refine lv_tableIn (tgt := 104) X.1 X.2.1 dX11_about_13 (by omega) (by omega) (by rw [w_25c]; rfl) (by decide) ?_
      refine lv_aload_n X.1 X.2.1 dX11_about_104 rfl (lv_at hl 0 rfl) ?_
      obtain ⟨v_59, ev_59⟩ : ∃ v, pI S 405 q_9 = v := ⟨_, rfl⟩
      have rg_61 := And.intro (z_lo v_59) (z_hi v_59)
      have pz_62 : (pI S 405 q_9).toInt = v_59.toInt := by rw [ev_59]
      refine r_getI (g := 405) (x := v_59) X hw ha_11 rfl 5 ev_59 (by decide) rfl inn_X11_about_4 (by decide) (X.2.2.2.1 (.fieldLink RX11 195 "SilkMill$Pot" "stop" "I") (by decide +kernel)) rfl (gv_405 _ _) dX11_about_105 ?_
      exact ret_i X hw hr hlocks (Nat.le_of_ble_eq_true rfl) (Nat.le_of_ble_eq_true rfl) ⟨rfl, ⟨z_lo _, z_hi _, fun _ _ P hP => (by rw [f_14] at hP; cases hP; rw [abF_4 (by omega), ← ev_59, pa_17.2.2.2.1]), fun _ h => absurd ⟨by omega, by omega⟩ h⟩⟩ dX11_about_108
    · refine lv_tableIn (tgt := 109) X.1 X.2.1 dX11_about_13 (by omega) (by omega) (by rw [w_25c]; rfl) (by decide) ?_
      refine lv_aload_n X.1 X.2.1 dX11_about_109 rfl (lv_at hl 0 rfl) ?_
      obtain ⟨v_63, ev_63⟩ : ∃ v, pI S 406 q_9 = v := ⟨_, rfl⟩
      have rg_65 := And.intro (z_lo v_63) (z_hi v_63)
      have pz_66 : (pI S 406 q_9).toInt = v_63.toInt := by rw [ev_63]
      refine r_getI (g := 406) (x := v_63) X hw ha_11 rfl 6 ev_63 (by decide) rfl inn_X11_about_4 (by decide) (X.2.2.2.1 (.fieldLink RX11 198 "SilkMill$Pot" "search" "I") (by decide +kernel)) rfl (gv_406 _ _) dX11_about_110 ?_
      exact ret_i X hw hr hlocks (Nat.le_of_ble_eq_true rfl) (Nat.le_of_ble_eq_true rfl) ⟨rfl, ⟨z_lo _, z_hi _, fun _ _ P hP => (by rw [f_14] at hP; cases hP; rw [abF_5 (by omega), ← ev_63, pa_17.2.2.2.2.1]), fun _ h => absurd ⟨by omega, by omega⟩ h⟩⟩ dX11_about_113
    · refine lv_tableIn (tgt := 114) X.1 X.2.1 dX11_about_13 (by omega) (by omega) (by rw [w_25c]; rfl) (by decide) ?_
      refine lv_aload_n X.1 X.2.1 dX11_about_114 rfl (lv_at hl 0 rfl) ?_
      refine r_getR (g := 401) X hw ha_11 rfl 1 pa_16.2.1 (by decide) rfl inn_X11_about_4 (by decide) (X.2.2.2.1 (.fieldLink RX11 180 "SilkMill$Pot" "ends" "LSilkMill$Row;") (by decide +kernel)) rfl (gv_401 _ _) dX11_about_115 ?_
      refine k_i (rm := { frames := 3, cells := 0, slots := 0, locals := 144 }) (av := [.ref R1]) X hw (va_runV (As := []) (rest := []) (cfix X) (k_X5_sumOfFineness5 l G cy κ S _ R1 (qe A) 12 hG haR1 pa_17.2.1) (cwV 0 X.2.2.2.1 gX11_about_X5_sumOfFineness rfl rfl rfl (by decide +kernel) ⟨Nat.le_of_ble_eq_true rfl, Nat.le_of_ble_eq_true rfl⟩) (pre_V X hw _ haR1 rfl (by decide) rfl) rfl rfl hl.1 rfl (lv_room (Nat.le_of_ble_eq_true rfl)) dX11_about_118 ⟨Nat.le_of_ble_eq_true rfl, Nat.le_of_ble_eq_true rfl⟩) 0 0 (Nat.le_of_ble_eq_true rfl) (Nat.le_of_ble_eq_true rfl) (fun rr_67 S_68 H locs hp hw hfr hnw => ?_)
      obtain ⟨e2, hp⟩ := hp
      subst e2
      obtain ⟨su_69, su_70, su_71⟩ := hp
      exact ret_i X hw hr hlocks (Nat.le_of_ble_eq_true rfl) (Nat.le_of_ble_eq_true rfl) ⟨rfl, ⟨z_lo _, z_hi _, fun _ _ P hP => (by rw [f_14] at hP; cases hP; rw [abF_6 (by omega), su_71]; exact congrArg Int32.toInt (suL_eq (fun c hm => (fin_fv pa_18 pa_17.2.2.2.2.2.2.2.2.2.1 (pa_17.2.2.2.2.2.2.2.2.2.2 _ (Or.inr (Or.inl hm)))).symm))), fun _ h => absurd ⟨by omega, by omega⟩ h⟩⟩ dX11_about_121
    · refine lv_tableIn (tgt := 122) X.1 X.2.1 dX11_about_13 (by omega) (by omega) (by rw [w_25c]; rfl) (by decide) ?_
      refine lv_aload_n X.1 X.2.1 dX11_about_122 rfl (lv_at hl 0 rfl) ?_
      obtain ⟨v_72, ev_72⟩ : ∃ v, pI S 407 q_9 = v := ⟨_, rfl⟩
      have rg_74 := And.intro (z_lo v_72) (z_hi v_72)
      have pz_75 : (pI S 407 q_9).toInt = v_72.toInt := by rw [ev_72]
      refine r_getI (g := 407) (x := v_72) X hw ha_11 rfl 7 ev_72 (by decide) rfl inn_X11_about_4 (by decide) (X.2.2.2.1 (.fieldLink RX11 205 "SilkMill$Pot" "metresEver" "I") (by decide +kernel)) rfl (gv_407 _ _) dX11_about_123 ?_
      exact ret_i X hw hr hlocks (Nat.le_of_ble_eq_true rfl) (Nat.le_of_ble_eq_true rfl) ⟨rfl, ⟨z_lo _, z_hi _, fun _ _ P hP => (by rw [f_14] at hP; cases hP; rw [abF_7 (by omega), ← ev_72, pa_17.2.2.2.2.2.2.1]), fun _ h => absurd ⟨by omega, by omega⟩ h⟩⟩ dX11_about_126
    · refine lv_tableIn (tgt := 127) X.1 X.2.1 dX11_about_13 (by omega) (by omega) (by rw [w_25c]; rfl) (by decide) ?_
      refine lv_aload_n X.1 X.2.1 dX11_about_127 rfl (lv_at hl 0 rfl) ?_
      obtain ⟨v_76, ev_76⟩ : ∃ v, pI S 408 q_9 = v := ⟨_, rfl⟩
      have rg_78 := And.intro (z_lo v_76) (z_hi v_76)
      have pz_79 : (pI S 408 q_9).toInt = v_76.toInt := by rw [ev_76]
      refine r_getI (g := 408) (x := v_76) X hw ha_11 rfl 8 ev_76 (by decide) rfl inn_X11_about_4 (by decide) (X.2.2.2.1 (.fieldLink RX11 208 "SilkMill$Pot" "ticksEver" "I") (by decide +kernel)) rfl (gv_408 _ _) dX11_about_128 ?_
      exact ret_i X hw hr hlocks (Nat.le_of_ble_eq_true rfl) (Nat.le_of_ble_eq_true rfl) ⟨rfl, ⟨z_lo _, z_hi _, fun _ _ P hP => (by rw [f_14] at hP; cases hP; rw [abF_8 (by omega), ← ev_76, pa_17.2.2.2.2.2.2.2.1]), fun _ h => absurd ⟨by omega, by omega⟩ h⟩⟩ dX11_about_131
    · refine lv_tableIn (tgt := 132) X.1 X.2.1 dX11_about_13 (by omega) (by omega) (by rw [w_25c]; rfl) (by decide) ?_
      refine lv_aload_n X.1 X.2.1 dX11_about_132 rfl (lv_at hl 0 rfl) ?_
      refine r_getR (g := 409) X hw ha_11 rfl 9 rh_22 (by decide) rfl inn_X11_about_4 (by decide) (X.2.2.2.1 (.fieldLink RX11 162 "SilkMill$Pot" "rules" "LSilkMill$Rules;") (by decide +kernel)) rfl (gv_409 _ _) dX11_about_133 ?_
      obtain ⟨v_80, ev_80⟩ : ∃ v, pI S 600 rh_21 = v := ⟨_, rfl⟩
      have rg_81 := gI_6_600 hG harh_21; rw [ev_80] at rg_81
      have pz_82 : (pI S 600 rh_21).toInt = v_80.toInt := by rw [ev_80]
      refine r_getI (g := 600) (x := v_80) X hw harh_21 rfl 0 ev_80 (by decide) rfl inn_X11_about_6 (by decide) (X.2.2.2.1 (.fieldLink RX11 165 "SilkMill$Rules" "size" "I") (by decide +kernel)) rfl (gv_600 _ _) dX11_about_136 ?_
      exact ret_i X hw hr hlocks (Nat.le_of_ble_eq_true rfl) (Nat.le_of_ble_eq_true rfl) ⟨rfl, ⟨z_lo _, z_hi _, fun _ _ P hP => (by rw [f_14] at hP; cases hP; rw [abF_9 (by omega), ← ev_80]; exact rh_23.1), fun _ h => absurd ⟨by omega, by omega⟩ h⟩⟩ dX11_about_139
    · refine lv_tableIn (tgt := 140) X.1 X.2.1 dX11_about_13 (by omega) (by omega) (by rw [w_25c]; rfl) (by decide) ?_
      refine lv_aload_n X.1 X.2.1 dX11_about_140 rfl (lv_at hl 0 rfl) ?_
      obtain ⟨v_83, ev_83⟩ : ∃ v, pI S 404 q_9 = v := ⟨_, rfl⟩
      have rg_85 := And.intro (z_lo v_83) (z_hi v_83)
      have pz_86 : (pI S 404 q_9).toInt = v_83.toInt := by rw [ev_83]
      refine r_getI (g := 404) (x := v_83) X hw ha_11 rfl 4 ev_83 (by decide) rfl inn_X11_about_4 (by decide) (X.2.2.2.1 (.fieldLink RX11 138 "SilkMill$Pot" "aim" "I") (by decide +kernel)) rfl (gv_404 _ _) dX11_about_141 ?_
      exact ret_i X hw hr hlocks (Nat.le_of_ble_eq_true rfl) (Nat.le_of_ble_eq_true rfl) ⟨rfl, ⟨z_lo _, z_hi _, fun _ _ P hP => (by rw [f_14] at hP; cases hP; rw [abF_10 (by omega), ← ev_83, pa_18.2.2.2.1]), fun _ h => absurd ⟨by omega, by omega⟩ h⟩⟩ dX11_about_144
