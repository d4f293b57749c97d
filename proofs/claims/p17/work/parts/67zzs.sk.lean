/-! ===== what is told of a skein ===== -/
def SkE (L : List Sk) (k : Int) : Prop := ∃ s, 0 ≤ k ∧ L[k.toNat]? = some s
def slG (S : PS) (g : List Mt) : Int32 := slN (mtD S g) g.length
theorem slN_eq {f h : Nat → Int32} : ∀ n : Nat, (∀ k, k < n → f k = h k) → slN f n = slN h n
  | 0, _ => rfl
  | n + 1, e => by
    have ih := slN_eq n (fun k hk => e k (by omega))
    show (if 0 < n ∧ 4 < (abI (f n - f (n - 1))).toInt then slN f n + 1 else slN f n) = (if 0 < n ∧ 4 < (abI (h n - h (n - 1))).toInt then slN h n + 1 else slN h n)
    rw [ih, e n (by omega), e (n - 1) (by omega)]
theorem mtE_to {S T : PS} {x : Nat} (h : fnZ T x = fnZ S x) : mtE T x = mtE S x := by
  have e : mtZ T x = mtZ S x := funext (fun t => mtZ_eq h)
  funext g k
  unfold mtE
  rw [e]
def soV (v : Int32) : Int := if v.toInt = 0 then 0 else 1
theorem soV_y {v : Int32} (h : v.toInt ≠ 0) : soV v = 1 := if_neg h
theorem soV_n {v : Int32} (h : v.toInt = 0) : soV v = 0 := if_pos h
noncomputable def skC (S : PS) (K : Nat) (s : Sk) (w : Int) : Int := if w = 0 then s.1.1.toInt else if w = 1 then s.2.1.toInt else if w = 2 then (s.2.2.2.length : Int) else if w = 3 then (siS S s.2.2.2).toInt else if w = 4 then (loG S s.2.2.2).toInt else if w = 5 then (hiG S s.2.2.2).toInt else if w = 6 then (slG S s.2.2.2).toInt else if w = 7 then ((pcs s.2.2.2).length : Int) else if w = 8 then s.1.2.1.toInt else if w = 9 then soV s.1.2.2.1 else if w = 10 then (pcI (siS S s.2.2.2) (mA S K 807 (gI s.1.2.1))).toInt else if w = 11 then s.2.2.1.toInt else -1
theorem skC_0 {S : PS} {K : Nat} {s : Sk} {w : Int} (h : w = 0) : skC S K s w = s.1.1.toInt := by subst h; rfl
theorem skC_1 {S : PS} {K : Nat} {s : Sk} {w : Int} (h : w = 1) : skC S K s w = s.2.1.toInt := by subst h; rfl
theorem skC_2 {S : PS} {K : Nat} {s : Sk} {w : Int} (h : w = 2) : skC S K s w = (s.2.2.2.length : Int) := by subst h; rfl
theorem skC_3 {S : PS} {K : Nat} {s : Sk} {w : Int} (h : w = 3) : skC S K s w = (siS S s.2.2.2).toInt := by subst h; rfl
theorem skC_4 {S : PS} {K : Nat} {s : Sk} {w : Int} (h : w = 4) : skC S K s w = (loG S s.2.2.2).toInt := by subst h; rfl
theorem skC_5 {S : PS} {K : Nat} {s : Sk} {w : Int} (h : w = 5) : skC S K s w = (hiG S s.2.2.2).toInt := by subst h; rfl
theorem skC_6 {S : PS} {K : Nat} {s : Sk} {w : Int} (h : w = 6) : skC S K s w = (slG S s.2.2.2).toInt := by subst h; rfl
theorem skC_7 {S : PS} {K : Nat} {s : Sk} {w : Int} (h : w = 7) : skC S K s w = ((pcs s.2.2.2).length : Int) := by subst h; rfl
theorem skC_8 {S : PS} {K : Nat} {s : Sk} {w : Int} (h : w = 8) : skC S K s w = s.1.2.1.toInt := by subst h; rfl
theorem skC_9 {S : PS} {K : Nat} {s : Sk} {w : Int} (h : w = 9) : skC S K s w = soV s.1.2.2.1 := by subst h; rfl
theorem skC_10 {S : PS} {K : Nat} {s : Sk} {w : Int} (h : w = 10) : skC S K s w = (pcI (siS S s.2.2.2) (mA S K 807 (gI s.1.2.1))).toInt := by subst h; rfl
theorem skC_11 {S : PS} {K : Nat} {s : Sk} {w : Int} (h : w = 11) : skC S K s w = s.2.2.1.toInt := by subst h; rfl
theorem skC_d {S : PS} {K : Nat} {s : Sk} {w : Int} (h : ¬ (0 ≤ w ∧ w ≤ 11)) : skC S K s w = -1 := by
  unfold skC
  rw [if_neg (by omega), if_neg (by omega), if_neg (by omega), if_neg (by omega), if_neg (by omega), if_neg (by omega), if_neg (by omega), if_neg (by omega), if_neg (by omega), if_neg (by omega), if_neg (by omega), if_neg (by omega)]

set_option maxHeartbeats 4000000 in
set_option maxRecDepth 100000 in
theorem k_X11_skein8 (l : Launch) (G : va_G) (cy : Nat → ClassId) (κ : Nat → Nat) (S : PS) (sz : Nat) (x : Nat) (a1 : Int32) (a1_z : Int) (a2 : Int32) (a2_z : Int) (D : Nat → Prop) (K : Nat) (Ls : List Sk) (hG : GX S) (ha_x : At S x 11) (hz_a1 : a1.toInt = a1_z) (hz_a2 : a2.toInt = a2_z) (hp_0 : pR S 1107 x = some K) (hp_1 : SkV S D K Ls) (hp_2 : SkP S K Ls) : Ci l yX11_skein wsX11_skein ({ frames := 3, cells := 0, slots := 0, locals := 144 }) G cy κ S sz [.ref x, .int (a1), .int (a2)] (fun (r : Int32) (S9 : PS) => S = S9 ∧ (-2147483648 ≤ r.toInt ∧ r.toInt ≤ 2147483647 ∧ (∀ s, 0 ≤ a1_z → Ls[a1_z.toNat]? = some s → r.toInt = skC S K s a2_z) ∧ (¬ SkE Ls a1_z → r.toInt = -1))) := by
  refine ent_m (cc := cX11_skein) (maxL := 4) (ret := (some .int)) (by decide) rfl (Nat.le_of_ble_eq_true rfl) ?_
  intro p e s m below meth c ls X hr hlocks hin hw hl hsz
  subst hsz
  have X : Cx p c cX11_skein 4 s [.ref x, .int (a1), .int (a2)].toArray wsX11_skein RX11 m G cy κ (AS S s.heap.size) := X
  have hl : lv_has ls 4 [(0, .ref x), (1, .int (a1)), (2, .int (a2))] := hl
  have rg_a1 : (-2147483648) ≤ a1_z ∧ a1_z ≤ 2147483647 := by rw [← hz_a1]; exact ⟨z_lo _, z_hi _⟩
  have rg_a2 : (-2147483648) ≤ a2_z ∧ a2_z ≤ 2147483647 := by rw [← hz_a2]; exact ⟨z_lo _, z_hi _⟩
  have haK := st_at hG ha_x hp_0
  obtain ⟨v_1, ev_1⟩ : ∃ v, pI S 800 K = v := ⟨_, rfl⟩
  have rg_2 := gI_8_800 hG haK; rw [ev_1] at rg_2
  have pz_3 : (pI S 800 K).toInt = v_1.toInt := by rw [ev_1]
  have pz_4 : (pI S 800 K).toInt = v_1.toInt := (congrArg Int32.toInt ev_1).trans rfl
  have hkl := hp_1.1
  refine lv_aload_n X.1 X.2.1 dX11_skein_0 rfl (lv_at hl 0 rfl) ?_
  refine r_getR (g := 1107) X hw ha_x rfl 7 hp_0 (by decide) rfl inn_X11_skein_11 (by decide) (X.2.2.2.1 (.fieldLink RX11 42 "SilkMill" "store" "LSilkMill$Store;") (by decide +kernel)) rfl (gv_1107 _ _) dX11_skein_1 ?_
  refine lv_iload_n X.1 X.2.1 dX11_skein_4 rfl (lv_at hl 1 rfl) ?_
  refine k_q (rm := { frames := 1, cells := 0, slots := 0, locals := 48 }) (av := [.ref K, .int (a1)]) X hw (va_runV (As := [.int (a1)]) (rest := []) (cfix X) (k_X8_skeinAt7 l G cy κ S _ K (a1) (a1_z) hG haK hz_a1) (cwV 1 X.2.2.2.1 gX11_skein_X8_skeinAt rfl rfl rfl (by decide +kernel) ⟨Nat.le_of_ble_eq_true rfl, Nat.le_of_ble_eq_true rfl⟩) (pre_V X hw _ haK rfl (by decide) rfl) rfl rfl hl.1 rfl (lv_room (Nat.le_of_ble_eq_true rfl)) dX11_skein_5 ⟨Nat.le_of_ble_eq_true rfl, Nat.le_of_ble_eq_true rfl⟩) 0 0 (Nat.le_of_ble_eq_true rfl) (Nat.le_of_ble_eq_true rfl) (fun rr_5 S_6 H locs hp hw hfr hnw => ?_)
  obtain ⟨e2, hp⟩ := hp
  subst e2
  obtain ⟨hq_7, hnf_8⟩ := hp
  rcases rr_5 with _ | q_9
  · refine W.eq (g2 := F0 m 8 ls (.null :: [])) rfl ?_
    have nf_10 := hnf_8 rfl
    refine lv_astore_nN (lv' := [(3, .null), (0, .ref x), (1, .int (a1)), (2, .int (a2))]) X.1 X.2.1 dX11_skein_8 rfl hl (by decide) rfl (fun ls hl => ?_)
    refine lv_aload_nN X.1 X.2.1 dX11_skein_9 rfl (lv_at hl 0 rfl) ?_
    refine lv_ifnonnullN X.1 X.2.1 dX11_skein_10 ?_
    refine lv_iconst (v := (-1)) X.1 X.2.1 dX11_skein_13 (by decide) ?_
    exact ret_i X hw hr hlocks (Nat.le_of_ble_eq_true rfl) (Nat.le_of_ble_eq_true rfl) ⟨rfl, ⟨z_lo _, z_hi _, fun s h0 h1 => (by exfalso; have := (List.getElem?_eq_some_iff.mp h1).1; exact nf_10 (SN_of hp_1) ⟨h0, by omega⟩), fun _ => by decide⟩⟩ dX11_skein_14
  · refine W.eq (g2 := F0 m 8 ls (.ref q_9 :: [])) rfl ?_
    obtain ⟨ha_11, f_12, f_13, f_14⟩ := hq_7 _ rfl
    obtain ⟨s_15, hs_16⟩ : ∃ s, Ls[a1_z.toNat]? = some s := ⟨_, List.getElem?_eq_getElem (by omega)⟩
    obtain ⟨q_17, j_18, g_19, fo_20, j_21, j_22, ⟨⟨d_23, d_24, d_25, d_26⟩, d_27, d_28⟩, ⟨k_29, k_30, k_31, fo_32, eo_33, k_34, k_35, k_36⟩, j_37, j_38, j_39, dd_40⟩ := hp_1.2 _ _ hs_16
    have eq_41 : q_17 = q_9 := Option.some.inj (j_18.symm.trans f_14)
    rw [eq_41] at j_21 d_23 d_24 d_25 d_26 d_27 d_28 j_37 j_38 j_39
    have ef_42 : fo_32 = fo_20 := Option.some.inj (k_34.symm.trans j_22)
    rw [ef_42] at k_36
    have lo_43 : pI S 704 q_9 = loG S s_15.2.2.2 := j_37.trans (loN_eq _ (mtD_of (fun k m hk => (k_36 k m hk).1)))
    have hi_44 : pI S 705 q_9 = hiG S s_15.2.2.2 := j_38.trans (hiN_eq _ (mtD_of (fun k m hk => (k_36 k m hk).1)))
    have sl_45 : pI S 706 q_9 = slG S s_15.2.2.2 := j_39.trans (slN_eq _ (mtD_of (fun k m hk => (k_36 k m hk).1)))
    have ha_46 := sk_str hG ha_11 j_21
    obtain ⟨o_47, b_48, p_49, p_50, p_51, p_52⟩ := hp_2 _ _ hs_16
    have eo_53 : o_47 = q_9 := Option.some.inj (p_49.symm.trans f_14)
    rw [eo_53] at p_50
    have eb_54 : b_48 = g_19 := Option.some.inj (p_50.symm.trans j_21)
    have pl_55 := p_51.1
    rw [eb_54] at pl_55
    refine lv_astore_n (lv' := [(3, .ref q_9), (0, .ref x), (1, .int (a1)), (2, .int (a2))]) X.1 X.2.1 dX11_skein_8 rfl hl (by decide) rfl (fun ls hl => ?_)
    refine lv_aload_n X.1 X.2.1 dX11_skein_9 rfl (lv_at hl 0 rfl) ?_
    refine lv_ifnonnull (tgt := 15) X.1 X.2.1 dX11_skein_10 (by decide) ?_
    refine lv_iload_n X.1 X.2.1 dX11_skein_15 rfl (lv_at hl 3 rfl) ?_
    by_cases w_56 : (a2).toInt < 0 ∨ 11 < (a2).toInt
    · refine lv_tableOut (tgt := 161) X.1 X.2.1 dX11_skein_16 w_56 (by decide) ?_
      refine lv_iconst (v := (-1)) X.1 X.2.1 dX11_skein_161 (by decide) ?_
      exact ret_i X hw hr hlocks (Nat.le_of_ble_eq_true rfl) (Nat.le_of_ble_eq_true rfl) ⟨rfl, ⟨z_lo _, z_hi _, fun s h0 h1 => (by rw [hs_16] at h1; cases h1; rw [skC_d (by omega)]; decide), fun h => absurd ⟨s_15, by omega, hs_16⟩ h⟩⟩ dX11_skein_162
    have w_56b : (a2).toInt = 0 ∨ (a2).toInt = 1 ∨ (a2).toInt = 2 ∨ (a2).toInt = 3 ∨ (a2).toInt = 4 ∨ (a2).toInt = 5 ∨ (a2).toInt = 6 ∨ (a2).toInt = 7 ∨ (a2).toInt = 8 ∨ (a2).toInt = 9 ∨ (a2).toInt = 10 ∨ (a2).toInt = 11 := by omega
    rcases w_56b with w_56c | w_56c | w_56c | w_56c | w_56c | w_56c | w_56c | w_56c | w_56c | w_56c | w_56c | w_56c
    · refine lv_tableIn (tgt := 80) X.1 X.2.1 dX11_skein_16 (by omega) (by omega) (by rw [w_56c]; rfl) (by decide) ?_
      refine lv_aload_n X.1 X.2.1 dX11_skein_80 rfl (lv_at hl 0 rfl) ?_
      obtain ⟨v_57, ev_57⟩ : ∃ v, pI S 700 q_9 = v := ⟨_, rfl⟩
      have rg_59 := And.intro (z_lo v_57) (z_hi v_57)
      have pz_60 : (pI S 700 q_9).toInt = v_57.toInt := by rw [ev_57]
      refine r_getI (g := 700) (x := v_57) X hw ha_11 rfl 0 ev_57 (by decide) rfl inn_X11_skein_7 (by decide) (X.2.2.2.1 (.fieldLink RX11 235 "SilkMill$Skein" "potNumber" "I") (by decide +kernel)) rfl (gv_700 _ _) dX11_skein_81 ?_
      exact ret_i X hw hr hlocks (Nat.le_of_ble_eq_true rfl) (Nat.le_of_ble_eq_true rfl) ⟨rfl, ⟨z_lo _, z_hi _, fun s h0 h1 => (by rw [hs_16] at h1; cases h1; rw [skC_0 (by omega), ← d_23, ev_57]), fun h => absurd ⟨s_15, by omega, hs_16⟩ h⟩⟩ dX11_skein_84
    · refine lv_tableIn (tgt := 85) X.1 X.2.1 dX11_skein_16 (by omega) (by omega) (by rw [w_56c]; rfl) (by decide) ?_
      refine lv_aload_n X.1 X.2.1 dX11_skein_85 rfl (lv_at hl 0 rfl) ?_
      obtain ⟨v_61, ev_61⟩ : ∃ v, pI S 702 q_9 = v := ⟨_, rfl⟩
      have rg_63 := And.intro (z_lo v_61) (z_hi v_61)
      have pz_64 : (pI S 702 q_9).toInt = v_61.toInt := by rw [ev_61]
      refine r_getI (g := 702) (x := v_61) X hw ha_11 rfl 2 ev_61 (by decide) rfl inn_X11_skein_7 (by decide) (X.2.2.2.1 (.fieldLink RX11 238 "SilkMill$Skein" "dayCut" "I") (by decide +kernel)) rfl (gv_702 _ _) dX11_skein_86 ?_
      exact ret_i X hw hr hlocks (Nat.le_of_ble_eq_true rfl) (Nat.le_of_ble_eq_true rfl) ⟨rfl, ⟨z_lo _, z_hi _, fun s h0 h1 => (by rw [hs_16] at h1; cases h1; rw [skC_1 (by omega), ← d_27, ev_61]), fun h => absurd ⟨s_15, by omega, hs_16⟩ h⟩⟩ dX11_skein_89
    · refine lv_tableIn (tgt := 90) X.1 X.2.1 dX11_skein_16 (by omega) (by omega) (by rw [w_56c]; rfl) (by decide) ?_
      refine lv_aload_n X.1 X.2.1 dX11_skein_90 rfl (lv_at hl 0 rfl) ?_
      refine r_getR (g := 703) X hw ha_11 rfl 3 j_21 (by decide) rfl inn_X11_skein_7 (by decide) (X.2.2.2.1 (.fieldLink RX11 241 "SilkMill$Skein" "strand" "LSilkMill$Strand;") (by decide +kernel)) rfl (gv_703 _ _) dX11_skein_91 ?_
      obtain ⟨v_65, ev_65⟩ : ∃ v, pI S 902 g_19 = v := ⟨_, rfl⟩
      have rg_66 := gI_9_902 hG ha_46; rw [ev_65] at rg_66
      have pz_67 : (pI S 902 g_19).toInt = v_65.toInt := by rw [ev_65]
      refine r_getI (g := 902) (x := v_65) X hw ha_46 rfl 2 ev_65 (by decide) rfl inn_X11_skein_9 (by decide) (X.2.2.2.1 (.fieldLink RX11 190 "SilkMill$Strand" "metres" "I") (by decide +kernel)) rfl (gv_902 _ _) dX11_skein_94 ?_
      exact ret_i X hw hr hlocks (Nat.le_of_ble_eq_true rfl) (Nat.le_of_ble_eq_true rfl) ⟨rfl, ⟨z_lo _, z_hi _, fun s h0 h1 => (by rw [hs_16] at h1; cases h1; rw [skC_2 (by omega), ← k_29, ev_65]), fun h => absurd ⟨s_15, by omega, hs_16⟩ h⟩⟩ dX11_skein_97
    · refine lv_tableIn (tgt := 98) X.1 X.2.1 dX11_skein_16 (by omega) (by omega) (by rw [w_56c]; rfl) (by decide) ?_
      refine lv_aload_n X.1 X.2.1 dX11_skein_98 rfl (lv_at hl 0 rfl) ?_
      refine r_getR (g := 703) X hw ha_11 rfl 3 j_21 (by decide) rfl inn_X11_skein_7 (by decide) (X.2.2.2.1 (.fieldLink RX11 241 "SilkMill$Skein" "strand" "LSilkMill$Strand;") (by decide +kernel)) rfl (gv_703 _ _) dX11_skein_99 ?_
      obtain ⟨v_68, ev_68⟩ : ∃ v, pI S 903 g_19 = v := ⟨_, rfl⟩
      have rg_70 := And.intro (z_lo v_68) (z_hi v_68)
      have pz_71 : (pI S 903 g_19).toInt = v_68.toInt := by rw [ev_68]
      refine r_getI (g := 903) (x := v_68) X hw ha_46 rfl 3 ev_68 (by decide) rfl inn_X11_skein_9 (by decide) (X.2.2.2.1 (.fieldLink RX11 242 "SilkMill$Strand" "silk" "I") (by decide +kernel)) rfl (gv_903 _ _) dX11_skein_102 ?_
      exact ret_i X hw hr hlocks (Nat.le_of_ble_eq_true rfl) (Nat.le_of_ble_eq_true rfl) ⟨rfl, ⟨z_lo _, z_hi _, fun s h0 h1 => (by rw [hs_16] at h1; cases h1; rw [skC_3 (by omega), ← k_30, ev_68]), fun h => absurd ⟨s_15, by omega, hs_16⟩ h⟩⟩ dX11_skein_105
    · refine lv_tableIn (tgt := 106) X.1 X.2.1 dX11_skein_16 (by omega) (by omega) (by rw [w_56c]; rfl) (by decide) ?_
      refine lv_aload_n X.1 X.2.1 dX11_skein_106 rfl (lv_at hl 0 rfl) ?_
      obtain ⟨v_72, ev_72⟩ : ∃ v, pI S 704 q_9 = v := ⟨_, rfl⟩
      have rg_74 := And.intro (z_lo v_72) (z_hi v_72)
      have pz_75 : (pI S 704 q_9).toInt = v_72.toInt := by rw [ev_72]
      refine r_getI (g := 704) (x := v_72) X hw ha_11 rfl 4 ev_72 (by decide) rfl inn_X11_skein_7 (by decide) (X.2.2.2.1 (.fieldLink RX11 245 "SilkMill$Skein" "least" "I") (by decide +kernel)) rfl (gv_704 _ _) dX11_skein_107 ?_
      exact ret_i X hw hr hlocks (Nat.le_of_ble_eq_true rfl) (Nat.le_of_ble_eq_true rfl) ⟨rfl, ⟨z_lo _, z_hi _, fun s h0 h1 => (by rw [hs_16] at h1; cases h1; rw [skC_4 (by omega), ← lo_43, ev_72]), fun h => absurd ⟨s_15, by omega, hs_16⟩ h⟩⟩ dX11_skein_110
    · refine lv_tableIn (tgt := 111) X.1 X.2.1 dX11_skein_16 (by omega) (by omega) (by rw [w_56c]; rfl) (by decide) ?_
      refine lv_aload_n X.1 X.2.1 dX11_skein_111 rfl (lv_at hl 0 rfl) ?_
      obtain ⟨v_76, ev_76⟩ : ∃ v, pI S 705 q_9 = v := ⟨_, rfl⟩
      have rg_78 := And.intro (z_lo v_76) (z_hi v_76)
      have pz_79 : (pI S 705 q_9).toInt = v_76.toInt := by rw [ev_76]
      refine r_getI (g := 705) (x := v_76) X hw ha_11 rfl 5 ev_76 (by decide) rfl inn_X11_skein_7 (by decide) (X.2.2.2.1 (.fieldLink RX11 248 "SilkMill$Skein" "greatest" "I") (by decide +kernel)) rfl (gv_705 _ _) dX11_skein_112 ?_
      exact ret_i X hw hr hlocks (Nat.le_of_ble_eq_true rfl) (Nat.le_of_ble_eq_true rfl) ⟨rfl, ⟨z_lo _, z_hi _, fun s h0 h1 => (by rw [hs_16] at h1; cases h1; rw [skC_5 (by omega), ← hi_44, ev_76]), fun h => absurd ⟨s_15, by omega, hs_16⟩ h⟩⟩ dX11_skein_115
    · refine lv_tableIn (tgt := 116) X.1 X.2.1 dX11_skein_16 (by omega) (by omega) (by rw [w_56c]; rfl) (by decide) ?_
      refine lv_aload_n X.1 X.2.1 dX11_skein_116 rfl (lv_at hl 0 rfl) ?_
      obtain ⟨v_80, ev_80⟩ : ∃ v, pI S 706 q_9 = v := ⟨_, rfl⟩
      have rg_82 := And.intro (z_lo v_80) (z_hi v_80)
      have pz_83 : (pI S 706 q_9).toInt = v_80.toInt := by rw [ev_80]
      refine r_getI (g := 706) (x := v_80) X hw ha_11 rfl 6 ev_80 (by decide) rfl inn_X11_skein_7 (by decide) (X.2.2.2.1 (.fieldLink RX11 251 "SilkMill$Skein" "slips" "I") (by decide +kernel)) rfl (gv_706 _ _) dX11_skein_117 ?_
      exact ret_i X hw hr hlocks (Nat.le_of_ble_eq_true rfl) (Nat.le_of_ble_eq_true rfl) ⟨rfl, ⟨z_lo _, z_hi _, fun s h0 h1 => (by rw [hs_16] at h1; cases h1; rw [skC_6 (by omega), ← sl_45, ev_80]), fun h => absurd ⟨s_15, by omega, hs_16⟩ h⟩⟩ dX11_skein_120
    · refine lv_tableIn (tgt := 121) X.1 X.2.1 dX11_skein_16 (by omega) (by omega) (by rw [w_56c]; rfl) (by decide) ?_
      refine lv_aload_n X.1 X.2.1 dX11_skein_121 rfl (lv_at hl 0 rfl) ?_
      refine r_getR (g := 703) X hw ha_11 rfl 3 j_21 (by decide) rfl inn_X11_skein_7 (by decide) (X.2.2.2.1 (.fieldLink RX11 241 "SilkMill$Skein" "strand" "LSilkMill$Strand;") (by decide +kernel)) rfl (gv_703 _ _) dX11_skein_122 ?_
      obtain ⟨v_84, ev_84⟩ : ∃ v, pI S 904 g_19 = v := ⟨_, rfl⟩
      have rg_85 := gI_9_904 hG ha_46; rw [ev_84] at rg_85
      have pz_86 : (pI S 904 g_19).toInt = v_84.toInt := by rw [ev_84]
      refine r_getI (g := 904) (x := v_84) X hw ha_46 rfl 4 ev_84 (by decide) rfl inn_X11_skein_9 (by decide) (X.2.2.2.1 (.fieldLink RX11 254 "SilkMill$Strand" "pieces" "I") (by decide +kernel)) rfl (gv_904 _ _) dX11_skein_125 ?_
      exact ret_i X hw hr hlocks (Nat.le_of_ble_eq_true rfl) (Nat.le_of_ble_eq_true rfl) ⟨rfl, ⟨z_lo _, z_hi _, fun s h0 h1 => (by rw [hs_16] at h1; cases h1; rw [skC_7 (by omega), ← pl_55, ev_84]), fun h => absurd ⟨s_15, by omega, hs_16⟩ h⟩⟩ dX11_skein_128
    · refine lv_tableIn (tgt := 129) X.1 X.2.1 dX11_skein_16 (by omega) (by omega) (by rw [w_56c]; rfl) (by decide) ?_
      refine lv_aload_n X.1 X.2.1 dX11_skein_129 rfl (lv_at hl 0 rfl) ?_
      obtain ⟨v_87, ev_87⟩ : ∃ v, pI S 707 q_9 = v := ⟨_, rfl⟩
      have rg_89 := And.intro (z_lo v_87) (z_hi v_87)
      have pz_90 : (pI S 707 q_9).toInt = v_87.toInt := by rw [ev_87]
      refine r_getI (g := 707) (x := v_87) X hw ha_11 rfl 7 ev_87 (by decide) rfl inn_X11_skein_7 (by decide) (X.2.2.2.1 (.fieldLink RX11 257 "SilkMill$Skein" "latestGrade" "I") (by decide +kernel)) rfl (gv_707 _ _) dX11_skein_130 ?_
      exact ret_i X hw hr hlocks (Nat.le_of_ble_eq_true rfl) (Nat.le_of_ble_eq_true rfl) ⟨rfl, ⟨z_lo _, z_hi _, fun s h0 h1 => (by rw [hs_16] at h1; cases h1; rw [skC_8 (by omega), ← d_24, ev_87]), fun h => absurd ⟨s_15, by omega, hs_16⟩ h⟩⟩ dX11_skein_133
    · refine lv_tableIn (tgt := 134) X.1 X.2.1 dX11_skein_16 (by omega) (by omega) (by rw [w_56c]; rfl) (by decide) ?_
      refine lv_aload_n X.1 X.2.1 dX11_skein_134 rfl (lv_at hl 0 rfl) ?_
      obtain ⟨v_91, ev_91⟩ : ∃ v, pI S 708 q_9 = v := ⟨_, rfl⟩
      have rg_92 := gI_7_708 hG ha_11; rw [ev_91] at rg_92
      have pz_93 : (pI S 708 q_9).toInt = v_91.toInt := by rw [ev_91]
      refine r_getI (g := 708) (x := v_91) X hw ha_11 rfl 8 ev_91 (by decide) rfl inn_X11_skein_7 (by decide) (X.2.2.2.1 (.fieldLink RX11 260 "SilkMill$Skein" "sold" "Z") (by decide +kernel)) rfl (gv_708 _ _) dX11_skein_135 ?_
      refine lv_if_eq (tgt := 145) X.1 X.2.1 dX11_skein_138 (by decide) (fun c_94 => ?_) (fun c_94 => ?_)
      · have z_b_95 := trivial
        have k_96 : v_91.toInt = 0 := z_eq rfl ti_0 c_94
        refine lv_iconst (v := 0) X.1 X.2.1 dX11_skein_145 (by decide) ?_
        exact ret_i X hw hr hlocks (Nat.le_of_ble_eq_true rfl) (Nat.le_of_ble_eq_true rfl) ⟨rfl, ⟨z_lo _, z_hi _, fun s h0 h1 => (by rw [hs_16] at h1; cases h1; rw [skC_9 (by omega), soV_n (by rw [← d_25, ev_91]; omega)]; decide), fun h => absurd ⟨s_15, by omega, hs_16⟩ h⟩⟩ dX11_skein_146
      · have z_b_97 := trivial
        have k_98 : v_91.toInt ≠ 0 := z_ne rfl ti_0 c_94
        refine lv_iconst (v := 1) X.1 X.2.1 dX11_skein_141 (by decide) ?_
        refine lv_goto (tgt := 146) X.1 X.2.1 dX11_skein_142 (by decide) ?_
        exact ret_i X hw hr hlocks (Nat.le_of_ble_eq_true rfl) (Nat.le_of_ble_eq_true rfl) ⟨rfl, ⟨z_lo _, z_hi _, fun s h0 h1 => (by rw [hs_16] at h1; cases h1; rw [skC_9 (by omega), soV_y (by rw [← d_25, ev_91]; omega)]; decide), fun h => absurd ⟨s_15, by omega, hs_16⟩ h⟩⟩ dX11_skein_146
    · refine lv_tableIn (tgt := 147) X.1 X.2.1 dX11_skein_16 (by omega) (by omega) (by rw [w_56c]; rfl) (by decide) ?_
      refine lv_aload_n X.1 X.2.1 dX11_skein_147 rfl (lv_at hl 1 rfl) ?_
      refine r_getR (g := 1107) X hw ha_x rfl 7 hp_0 (by decide) rfl inn_X11_skein_11 (by decide) (X.2.2.2.1 (.fieldLink RX11 42 "SilkMill" "store" "LSilkMill$Store;") (by decide +kernel)) rfl (gv_1107 _ _) dX11_skein_148 ?_
      refine lv_aload_n X.1 X.2.1 dX11_skein_151 rfl (lv_at hl 0 rfl) ?_
      refine k_i (rm := { frames := 2, cells := 0, slots := 0, locals := 96 }) (av := [.ref K, .ref q_9]) X hw (va_runV (As := [.ref q_9]) (rest := []) (cfix X) (k_X8_priceOf8 l G cy κ S _ K q_9 g_19 hG haK ha_11 j_21) (cwV 1 X.2.2.2.1 gX11_skein_X8_priceOf rfl rfl rfl (by decide +kernel) ⟨Nat.le_of_ble_eq_true rfl, Nat.le_of_ble_eq_true rfl⟩) (pre_V X hw _ haK rfl (by decide) rfl) rfl rfl hl.1 rfl (lv_room (Nat.le_of_ble_eq_true rfl)) dX11_skein_152 ⟨Nat.le_of_ble_eq_true rfl, Nat.le_of_ble_eq_true rfl⟩) 0 0 (Nat.le_of_ble_eq_true rfl) (Nat.le_of_ble_eq_true rfl) (fun rr_99 S_100 H locs hp hw hfr hnw => ?_)
      obtain ⟨e2, hp⟩ := hp
      subst e2
      obtain ⟨po_101, po_102, po_103⟩ := hp
      exact ret_i X hw hr hlocks (Nat.le_of_ble_eq_true rfl) (Nat.le_of_ble_eq_true rfl) ⟨rfl, ⟨z_lo _, z_hi _, fun s h0 h1 => (by rw [hs_16] at h1; cases h1; rw [skC_10 (by omega), po_103, k_30, d_24]), fun h => absurd ⟨s_15, by omega, hs_16⟩ h⟩⟩ dX11_skein_155
    · refine lv_tableIn (tgt := 156) X.1 X.2.1 dX11_skein_16 (by omega) (by omega) (by rw [w_56c]; rfl) (by decide) ?_
      refine lv_aload_n X.1 X.2.1 dX11_skein_156 rfl (lv_at hl 0 rfl) ?_
      obtain ⟨v_104, ev_104⟩ : ∃ v, pI S 701 q_9 = v := ⟨_, rfl⟩
      have rg_106 := And.intro (z_lo v_104) (z_hi v_104)
      have pz_107 : (pI S 701 q_9).toInt = v_104.toInt := by rw [ev_104]
      refine r_getI (g := 701) (x := v_104) X hw ha_11 rfl 1 ev_104 (by decide) rfl inn_X11_skein_7 (by decide) (X.2.2.2.1 (.fieldLink RX11 268 "SilkMill$Skein" "aim" "I") (by decide +kernel)) rfl (gv_701 _ _) dX11_skein_157 ?_
      exact ret_i X hw hr hlocks (Nat.le_of_ble_eq_true rfl) (Nat.le_of_ble_eq_true rfl) ⟨rfl, ⟨z_lo _, z_hi _, fun s h0 h1 => (by rw [hs_16] at h1; cases h1; rw [skC_11 (by omega), ← d_28, ev_104]), fun h => absurd ⟨s_15, by omega, hs_16⟩ h⟩⟩ dX11_skein_160
