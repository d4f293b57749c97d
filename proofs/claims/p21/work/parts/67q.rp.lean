/-! ===== a pot that is made ===== -/
def RuN (S T : PS) (ρ : Nat) : Prop := RuD T ρ ∧ ∀ g, g ∈ ruG → ∀ a, pR T g ρ = some a → a ∉ pL S
def NeS (S T : PS) (G : Nat) : Prop := pI T 902 G = 0 ∧ pI T 903 G = 0 ∧ ∀ g, g ∈ ([900, 901] : List Nat) → ∀ a, pR T g G = some a → a ∉ pL S
def PotN (S T : PS) (x : Nat) (n a f : Int32) : Prop := ∃ R0 R1 R2 G ρ c0 c1 c2, (pR T 400 x = some R0 ∧ pR T 401 x = some R1 ∧ pR T 402 x = some R2 ∧ pR T 403 x = some G ∧ pR T 409 x = some ρ) ∧ (pR T 501 R0 = some c0 ∧ pR T 501 R1 = some c1 ∧ pR T 501 R2 = some c2) ∧ (pN T c0 = 600 ∧ pN T c1 = 12 ∧ pN T c2 = 600) ∧ (pI T 500 R0 = 0 ∧ pI T 500 R1 = 0 ∧ pI T 500 R2 = 0) ∧ (R0 ∉ pL S ∧ R1 ∉ pL S ∧ R2 ∉ pL S ∧ G ∉ pL S ∧ ρ ∉ pL S ∧ c0 ∉ pL S ∧ c1 ∉ pL S ∧ c2 ∉ pL S) ∧ (R0 ≠ R1 ∧ R0 ≠ R2 ∧ R1 ≠ R2 ∧ c0 ≠ c1 ∧ c0 ≠ c2 ∧ c1 ≠ c2) ∧ (pI T 404 x = a ∧ pI T 405 x = 0 ∧ pI T 406 x = 0 ∧ pI T 407 x = 0 ∧ pI T 408 x = 0 ∧ pI T 410 x = n ∧ pI T 411 x = f) ∧ NeS S T G ∧ pI T 600 ρ = 0 ∧ RuN S T ρ
theorem PotN_to {S S' T U : PS} {x : Nat} {n a f : Int32} (hL : ∀ b, b ∈ pL S' → b ∈ pL S) (hR : ∀ g b, pR U g b = pR T g b) (hI : ∀ g b, g ∈ ([500, 404, 405, 406, 407, 408, 410, 411, 902, 600, 903] : List Nat) → pI U g b = pI T g b) (hN : ∀ b, pN U b = pN T b) (h : PotN S T x n a f) : PotN S' U x n a f := by
  obtain ⟨R0, R1, R2, G, ρ, c0, c1, c2, ⟨a0, a1, a2, a3, a4⟩, ⟨b0, b1, b2⟩, ⟨d0, d1, d2⟩, ⟨e0, e1, e2⟩, ⟨f0, f1, f2, f3, f4, f5, f6, f7⟩, hn, ⟨g0, g1, g2, g3, g4, g5, g6⟩, i0, i1, j0, j1⟩ := h
  refine ⟨R0, R1, R2, G, ρ, c0, c1, c2, ⟨(hR _ _).trans a0, (hR _ _).trans a1, (hR _ _).trans a2, (hR _ _).trans a3, (hR _ _).trans a4⟩, ⟨(hR _ _).trans b0, (hR _ _).trans b1, (hR _ _).trans b2⟩, ⟨(hN _).trans d0, (hN _).trans d1, (hN _).trans d2⟩, ⟨(hI _ _ (by decide)).trans e0, (hI _ _ (by decide)).trans e1, (hI _ _ (by decide)).trans e2⟩, ⟨fun z => f0 (hL _ z), fun z => f1 (hL _ z), fun z => f2 (hL _ z), fun z => f3 (hL _ z), fun z => f4 (hL _ z), fun z => f5 (hL _ z), fun z => f6 (hL _ z), fun z => f7 (hL _ z)⟩, hn, ⟨(hI _ _ (by decide)).trans g0, (hI _ _ (by decide)).trans g1, (hI _ _ (by decide)).trans g2, (hI _ _ (by decide)).trans g3, (hI _ _ (by decide)).trans g4, (hI _ _ (by decide)).trans g5, (hI _ _ (by decide)).trans g6⟩, ⟨(hI _ _ (by decide)).trans i0.1, (hI _ _ (by decide)).trans i0.2.1, fun g hg q hq z => i0.2.2 g hg q (by rw [← hR]; exact hq) (hL _ z)⟩, (hI _ _ (by decide)).trans i1, RuD_to (fun g _ => hR g ρ) j0, fun g hg q hq z => j1 g hg q (by rw [← hR]; exact hq) (hL _ z)⟩
/-- the state of a pot that is made -/
def em0 (pl sd : Nat → Int32) (sk : List Sk) (ws : List (List Mt)) : Pt := pmk [] [] [] 0 0 [] pl sd sk ws 0 0

set_option maxHeartbeats 4000000 in
set_option maxRecDepth 100000 in
theorem k_X5_init6 (l : Launch) (G : va_G) (cy : Nat → ClassId) (κ : Nat → Nat) (S : PS) (sz : Nat) (x : Nat) (a1 : Int32) (a1_z : Int) (hG : GX S) (ha_x : At S x 185) (hz_a1 : a1.toInt = a1_z) (hzI : ∀ g, pI S g x = 0) (hzR : ∀ g, pR S g x = none) (hp_0 : 1 ≤ a1_z) (hp_1 : a1_z ≤ 600) : Cv l yX5_init wsX5_init ({ frames := 2, cells := 1, slots := 600, locals := 96 }) G cy κ S sz [.ref x, .int (a1)] (fun (S9 : PS) => Kq S S9 x ∧ GX S9 ∧ At S9 x 5 ∧ Phc S9 = Phc S + 0 ∧ Phs S9 = Phs S + 0 ∧ ∃ q, pR S9 501 x = some q ∧ At S9 q 16 ∧ pB S9 q = (fun _ => none) ∧ pN S9 q = a1_z.toNat ∧ q ∉ pL S ∧ pI S9 500 x = 0) := by
  refine ent_m (cc := cX5_init) (maxL := 2) (ret := none) (by decide) rfl (Nat.le_of_ble_eq_true rfl) ?_
  intro p e s m below meth c ls X hr hlocks hin hw hl hsz
  subst hsz
  have X : Cx p c cX5_init 2 s [.ref x, .int (a1)].toArray wsX5_init RX5 m G cy κ (AS S s.heap.size) := X
  have hl : lv_has ls 2 [(0, .ref x), (1, .int (a1))] := hl
  have rg_a1 : (-2147483648) ≤ a1_z ∧ a1_z ≤ 2147483647 := by rw [← hz_a1]; exact ⟨z_lo _, z_hi _⟩
  have hpc0 : Phc S = Phc S + 0 := rfl
  have hps0 : Phs S = Phs S + 0 := rfl
  have hK : Kq S S x := Kq.rf S _
  refine lv_aload_n X.1 X.2.1 dX5_init_0 rfl (lv_at hl 0 rfl) ?_
  refine W.objInit X.1 X.2.1 X.2.2.2.2.1 (X.2.2.2.1 (.methodLink RX5 3 objectInit) (by decide +kernel)) (X.2.2.2.1 (.instanceMethod objectInit) (by decide +kernel)) (X.2.2.2.1 (.code objectInit ⟨#[0xb1]⟩ 1 none) (by decide +kernel)) rfl (hl.1.trans X.2.2.1.symm) rfl dX5_init_1 (Nat.le_of_ble_eq_true rfl) (Nat.le_of_ble_eq_true rfl) ?_
  refine W.eq (g2 := F0 m 4 ls ([])) rfl ?_
  refine lv_aload_n X.1 X.2.1 dX5_init_4 rfl (lv_at hl 0 rfl) ?_
  refine lv_iconst (v := 1) X.1 X.2.1 dX5_init_5 (by decide) ?_
  refine lv_iload_n X.1 X.2.1 dX5_init_6 rfl (lv_at hl 1 rfl) ?_
  refine va_mmax X.1 X.2.1 (X.2.2.1.trans hl.1.symm) X.2.2.2.2.1 (X.2.2.2.1 (.methodLink RX5 9 Lib.Math.max.name) (by decide +kernel)) (X.2.2.2.1 (.static Lib.Math.max.name) (by decide +kernel)) (X.2.2.2.1 (.initialized "java/lang/Math") (by decide +kernel)) (X.2.2.2.1 (.code Lib.Math.max.name Lib.Math.max.code 2 (some .int)) (by decide +kernel)) (Nat.le_of_ble_eq_true rfl) (Nat.le_of_ble_eq_true rfl) (by show 0 ≤ 1; omega) (by show 0 ≤ 600; omega) dX5_init_7 ?_
  refine lv_topi (fun v_1 ev_1 => ?_)
  have z_2 : v_1.toInt = a1_z := by have := z_max ev_1 ti_1 hz_a1; omega
  refine r_newQ (N := (v_1.toInt.toNat)) (C := RX0) X hw 16 16 (0 + (v_1.toInt.toNat)) 1 rfl (by decide) rfl (X.2.2.2.1 (.classLink RX5 15 RX0) (by decide +kernel)) X.2.2.2.2.2.2.2.1.1.1 (z_nn rfl (by omega)) (z_tn (by omega) (by omega)) (by omega) (by show 0 + 1 ≤ 1; omega) (by show 0 + (v_1.toInt.toNat) ≤ (0 + (v_1.toInt.toNat)); omega) (by show 1 ≤ 1; omega) (by show (0 + (v_1.toInt.toNat)) ≤ 600; omega) dX5_init_10 (fun q_3 H hq_3 hw => ?_)
  obtain ⟨S_4, eS_4⟩ : ∃ T, T = sN S q_3 16 (v_1.toInt.toNat) := ⟨_, rfl⟩
  rw [← eS_4] at hw
  have ph_5 : Phc S_4 = Phc S + 0 := (show Phc S_4 = Phc S from Ph_sN' hG.ci hq_3 eS_4 (by decide)).trans hpc0
  have ph_6 : Phs S_4 = Phs S + 0 := (show Phs S_4 = Phs S from Ph_sN' hG.ci hq_3 eS_4 (by decide)).trans hps0
  clear hpc0
  clear hps0
  have hK_7 : Kq S S_4 x := hK.sN hq_3 eS_4
  have hg_8 : GX S_4 := by rw [eS_4]; exact GX_N hG hq_3 (by decide +kernel)
  have hn0_q_3 := hK.new hq_3
  have ha_9 : At S_4 q_3 16 := by rw [eS_4]; exact At_nN _ _ _ _
  have hn_10 : pN S_4 q_3 = (v_1.toInt.toNat) := by rw [eS_4]; exact pN_sN_new
  have t_11 : At S_4 x 185 := by rw [eS_4]; exact At_sN ha_x hq_3
  refine r_putR X hw t_11 rfl 1 501 (some q_3) rfl tyX5 (by decide) rfl inn_X5_init_5 tyX5_ok nmX5 (by decide) (X.2.2.2.1 (.fieldLink RX5 17 "SilkMill$Row" "cells" "[LSilkMill$Cocoon;") (by decide +kernel)) rfl (Or.inr ⟨rfl, hin, rfl⟩) (fun _ => rfl) rfl (fun _ => rfl) rfl (Nat.le_of_ble_eq_true rfl) (st_501 _ _) dX5_init_13 (fun H locs hw => ?_)
  obtain ⟨S_12, eS_12⟩ : ∃ T, T = sR S_4 501 x (some q_3) := ⟨_, rfl⟩
  rw [← eS_12] at hw
  have ph_13 : Phc S_12 = Phc S + 0 := (show Phc S_12 = Phc S_4 from Ph_rawR t_11 (by decide) eS_12).trans ph_5
  have ph_14 : Phs S_12 = Phs S + 0 := (show Phs S_12 = Phs S_4 from Ph_rawR t_11 (by decide) eS_12).trans ph_6
  clear ph_5
  clear ph_6
  have hK_15 : Kq S S_12 x := hK_7.sR eS_12
  have hg_16 : GX S_12 := by rw [eS_12]; exact GX_rawR hg_8 t_11 (by decide +kernel)
  have h_17 : pR S_12 501 x = some q_3 := tR_sRs eS_12
  have t_18 : At S_12 x 185 := tAt_sR eS_12 t_11
  have nd_19 := nodup_of hw
  have t_20 : At S_12 q_3 16 := tAt_sR eS_12 ha_9
  have t_21 : pN S_12 q_3 = (v_1.toInt.toNat) := tN_sR eS_12 hn_10
  clear hn_10
  have t_22 : pI S_4 500 x = 0 := by rw [eS_4, pI_sN]; exact (hzI 500)
  have t_23 : pI S_12 500 x = 0 := tI_sR eS_12 t_22
  have t_24 : pI S_4 502 x = 0 := by rw [eS_4, pI_sN]; exact (hzI 502)
  have t_25 : pI S_12 502 x = 0 := tI_sR eS_12 t_24
  obtain ⟨S_26, eS_26⟩ : ∃ T, T = sK S_12 x 5 := ⟨_, rfl⟩
  have hw := Wd_sK (k := 5) hw t_18 rfl; rw [← eS_26] at hw
  have hg9 : GX S_26 := by rw [eS_26]; exact GX_sK hg_16 t_18 (by decide +kernel) (mk_5 ⟨q_3, (v_1.toInt.toNat), (by rw [pR_sK]; exact h_17), At_sK t_18 t_20 (by decide), by rw [pN_sK]; exact t_21, by omega, by omega, by rw [pI_sK, t_23]; rw [ti_0]; omega, by rw [pI_sK, t_23]; rw [ti_0]; omega, by rw [pI_sK, t_25]; rw [ti_0]; omega, by rw [pI_sK, t_25]; rw [ti_0]; omega⟩)
  have ha9 : At S_26 x 5 := by rw [eS_26]; exact At_nK t_18
  have hk9 : Kq S S_26 x := hK_15.sK eS_26
  have hPhc9 : Phc S_26 = Phc S + 0 := by rw [show Phc S_26 = Ph fC 8 14400 S_26 from rfl, Ph_sK nd_19 t_18 (by decide) eS_26, ph_0 ha9 (by decide)]; show Phc S_12 + _ = _; omega
  have hPhs9 : Phs S_26 = Phs S + 0 := by rw [show Phs S_26 = Ph fS 15100 46000 S_26 from rfl, Ph_sK nd_19 t_18 (by decide) eS_26, ph_0 ha9 (by decide)]; show Phs S_12 + _ = _; omega
  have bb_27 : pB S_12 q_3 = pB S_4 q_3 := by rw [eS_12]; rfl
  exact ret_v X hw hr hlocks (by show 1 ≤ 1; omega) (by show (0 + (v_1.toInt.toNat)) ≤ 600; omega) ⟨hk9, hg9, ha9, hPhc9, hPhs9, ⟨q_3, by rw [eS_26, pR_sK]; exact h_17, by rw [eS_26]; exact At_sK t_18 t_20 (by decide), by rw [eS_26]; exact (show pB (sK S_12 x 5) q_3 = pB S_12 q_3 from rfl).trans (bb_27.trans (show pB S_4 q_3 = fun _ => none by rw [eS_4]; exact if_pos rfl)), by rw [eS_26, pN_sK]; exact (t_21).trans (by omega), hn0_q_3, (by rw [eS_26, pI_sK]; exact t_23)⟩⟩ dX5_init_16
set_option maxHeartbeats 4000000 in
set_option maxRecDepth 100000 in
theorem k_X9_init6 (l : Launch) (G : va_G) (cy : Nat → ClassId) (κ : Nat → Nat) (S : PS) (sz : Nat) (x : Nat) (hG : GX S) (ha_x : At S x 189) (hzI : ∀ g, pI S g x = 0) (hzR : ∀ g, pR S g x = none) : Cv l yX9_init wsX9_init ({ frames := 2, cells := 6, slots := 728, locals := 96 }) G cy κ S sz [.ref x] (fun (S9 : PS) => Kq S S9 x ∧ GX S9 ∧ At S9 x 29 ∧ Phc S9 = Phc S + 14272 ∧ Phs S9 = Phs S + 42944 ∧ pI S9 902 x = 0 ∧ pI S9 903 x = 0 ∧ ∃ f e, pR S9 900 x = some f ∧ pR S9 901 x = some e ∧ f ∉ pL S ∧ e ∉ pL S) := by
  refine ent_m (cc := cX9_init) (maxL := 1) (ret := none) (by decide) rfl (Nat.le_of_ble_eq_true rfl) ?_
  intro p e s m below meth c ls X hr hlocks hin hw hl hsz
  subst hsz
  have X : Cx p c cX9_init 1 s [.ref x].toArray wsX9_init RX9 m G cy κ (AS S s.heap.size) := X
  have hl : lv_has ls 1 [(0, .ref x)] := hl
  have hpc0 : Phc S = Phc S + 0 := rfl
  have hps0 : Phs S = Phs S + 0 := rfl
  have hK : Kq S S x := Kq.rf S _
  refine lv_aload_n X.1 X.2.1 dX9_init_0 rfl (lv_at hl 0 rfl) ?_
  refine W.objInit X.1 X.2.1 X.2.2.2.2.1 (X.2.2.2.1 (.methodLink RX9 3 objectInit) (by decide +kernel)) (X.2.2.2.1 (.instanceMethod objectInit) (by decide +kernel)) (X.2.2.2.1 (.code objectInit ⟨#[0xb1]⟩ 1 none) (by decide +kernel)) rfl (hl.1.trans X.2.2.1.symm) rfl dX9_init_1 (Nat.le_of_ble_eq_true rfl) (Nat.le_of_ble_eq_true rfl) ?_
  refine W.eq (g2 := F0 m 4 ls ([])) rfl ?_
  refine lv_aload_n X.1 X.2.1 dX9_init_4 rfl (lv_at hl 0 rfl) ?_
  refine lv_sipush (v := 300) X.1 X.2.1 dX9_init_5 (by decide) ?_
  refine r_newI (N := 300) X hw 1614 300 1 rfl (X.2.2.2.1 (.arrayClass .int) (by decide +kernel)) (z_nn ti_300 (by omega)) (by decide) (by decide) (by show 0 + 1 ≤ 1; omega) (by show 0 + 300 ≤ 300; omega) (by show 1 ≤ 6; omega) (by show 300 ≤ 728; omega) dX9_init_8 (fun q_1 H hq_1 hw => ?_)
  obtain ⟨S_2, eS_2⟩ : ∃ T, T = sN S q_1 1614 300 := ⟨_, rfl⟩
  rw [← eS_2] at hw
  have ph_3 : Phc S_2 = Phc S + 0 := (show Phc S_2 = Phc S from Ph_sN' hG.ci hq_1 eS_2 (by decide)).trans hpc0
  have ph_4 : Phs S_2 = Phs S + 0 := (show Phs S_2 = Phs S from Ph_sN' hG.ci hq_1 eS_2 (by decide)).trans hps0
  clear hpc0
  clear hps0
  have hK_5 : Kq S S_2 x := hK.sN hq_1 eS_2
  have hg_6 : GX S_2 := by rw [eS_2]; exact GX_N hG hq_1 (by decide +kernel)
  have hn0_q_1 := hK.new hq_1
  have ha_7 : At S_2 q_1 1614 := by rw [eS_2]; exact At_nN _ _ _ _
  have hn_8 : pN S_2 q_1 = 300 := by rw [eS_2]; exact pN_sN_new
  have t_9 : At S_2 x 189 := by rw [eS_2]; exact At_sN ha_x hq_1
  refine r_putR X hw t_9 rfl 0 900 (some q_1) rfl tyX9 (by decide) rfl inn_X9_init_9 tyX9_ok nmX9 (by decide) (X.2.2.2.1 (.fieldLink RX9 9 "SilkMill$Strand" "fineness" "[I") (by decide +kernel)) rfl (Or.inr ⟨rfl, hin, rfl⟩) (fun _ => rfl) rfl (fun _ => rfl) rfl (Nat.le_of_ble_eq_true rfl) (st_900 _ _) dX9_init_10 (fun H locs hw => ?_)
  obtain ⟨S_10, eS_10⟩ : ∃ T, T = sR S_2 900 x (some q_1) := ⟨_, rfl⟩
  rw [← eS_10] at hw
  have ph_11 : Phc S_10 = Phc S + 0 := (show Phc S_10 = Phc S_2 from Ph_rawR t_9 (by decide) eS_10).trans ph_3
  have ph_12 : Phs S_10 = Phs S + 0 := (show Phs S_10 = Phs S_2 from Ph_rawR t_9 (by decide) eS_10).trans ph_4
  clear ph_3
  clear ph_4
  have hK_13 : Kq S S_10 x := hK_5.sR eS_10
  have hg_14 : GX S_10 := by rw [eS_10]; exact GX_rawR hg_6 t_9 (by decide +kernel)
  have h_15 : pR S_10 900 x = some q_1 := tR_sRs eS_10
  refine lv_aload_n X.1 X.2.1 dX9_init_13 rfl (lv_at hl 0 rfl) ?_
  refine lv_sipush (v := 300) X.1 X.2.1 dX9_init_14 (by decide) ?_
  refine r_newI (N := 300) X hw 1634 600 2 rfl (X.2.2.2.1 (.arrayClass .int) (by decide +kernel)) (z_nn ti_300 (by omega)) (by decide) (by decide) (by show 1 + 1 ≤ 2; omega) (by show 300 + 300 ≤ 600; omega) (by show 2 ≤ 6; omega) (by show 600 ≤ 728; omega) dX9_init_17 (fun q_16 H hq_16 hw => ?_)
  obtain ⟨S_17, eS_17⟩ : ∃ T, T = sN S_10 q_16 1634 300 := ⟨_, rfl⟩
  rw [← eS_17] at hw
  have ph_18 : Phc S_17 = Phc S + 0 := (show Phc S_17 = Phc S_10 from Ph_sN' hg_14.ci hq_16 eS_17 (by decide)).trans ph_11
  have ph_19 : Phs S_17 = Phs S + 0 := (show Phs S_17 = Phs S_10 from Ph_sN' hg_14.ci hq_16 eS_17 (by decide)).trans ph_12
  clear ph_11
  clear ph_12
  have hK_20 : Kq S S_17 x := hK_13.sN hq_16 eS_17
  have hg_21 : GX S_17 := by rw [eS_17]; exact GX_N hg_14 hq_16 (by decide +kernel)
  have hn0_q_16 := hK_13.new hq_16
  have ha_22 : At S_17 q_16 1634 := by rw [eS_17]; exact At_nN _ _ _ _
  have hn_23 : pN S_17 q_16 = 300 := by rw [eS_17]; exact pN_sN_new
  have t_24 : At S_10 x 189 := tAt_sR eS_10 t_9
  have t_25 : At S_17 x 189 := by rw [eS_17]; exact At_sN t_24 hq_16
  refine r_putR X hw t_25 rfl 1 901 (some q_16) rfl tyX9 (by decide) rfl inn_X9_init_9 tyX9_ok nmX9 (by decide) (X.2.2.2.1 (.fieldLink RX9 15 "SilkMill$Strand" "endCounts" "[I") (by decide +kernel)) rfl (Or.inr ⟨rfl, hin, rfl⟩) (fun _ => rfl) rfl (fun _ => rfl) rfl (Nat.le_of_ble_eq_true rfl) (st_901 _ _) dX9_init_19 (fun H locs hw => ?_)
  obtain ⟨S_26, eS_26⟩ : ∃ T, T = sR S_17 901 x (some q_16) := ⟨_, rfl⟩
  rw [← eS_26] at hw
  have ph_27 : Phc S_26 = Phc S + 0 := (show Phc S_26 = Phc S_17 from Ph_rawR t_25 (by decide) eS_26).trans ph_18
  have ph_28 : Phs S_26 = Phs S + 0 := (show Phs S_26 = Phs S_17 from Ph_rawR t_25 (by decide) eS_26).trans ph_19
  clear ph_18
  clear ph_19
  have hK_29 : Kq S S_26 x := hK_20.sR eS_26
  have hg_30 : GX S_26 := by rw [eS_26]; exact GX_rawR hg_21 t_25 (by decide +kernel)
  have h_31 : pR S_26 901 x = some q_16 := tR_sRs eS_26
  refine lv_aload_n X.1 X.2.1 dX9_init_22 rfl (lv_at hl 0 rfl) ?_
  refine lv_bipush (v := 32) X.1 X.2.1 dX9_init_23 (by decide) ?_
  refine r_newI (N := 32) X hw 14 632 3 rfl (X.2.2.2.1 (.arrayClass .int) (by decide +kernel)) (z_nn ti_32 (by omega)) (by decide) (by decide) (by show 2 + 1 ≤ 3; omega) (by show 600 + 32 ≤ 632; omega) (by show 3 ≤ 6; omega) (by show 632 ≤ 728; omega) dX9_init_25 (fun q_32 H hq_32 hw => ?_)
  obtain ⟨S_33, eS_33⟩ : ∃ T, T = sN S_26 q_32 14 32 := ⟨_, rfl⟩
  rw [← eS_33] at hw
  have ph_34 : Phc S_33 = Phc S + 0 := (show Phc S_33 = Phc S_26 from Ph_sN' hg_30.ci hq_32 eS_33 (by decide)).trans ph_27
  have ph_35 : Phs S_33 = Phs S + 0 := (show Phs S_33 = Phs S_26 from Ph_sN' hg_30.ci hq_32 eS_33 (by decide)).trans ph_28
  clear ph_27
  clear ph_28
  have hK_36 : Kq S S_33 x := hK_29.sN hq_32 eS_33
  have hg_37 : GX S_33 := by rw [eS_33]; exact GX_N hg_30 hq_32 (by decide +kernel)
  have hn0_q_32 := hK_29.new hq_32
  have ha_38 : At S_33 q_32 14 := by rw [eS_33]; exact At_nN _ _ _ _
  have hn_39 : pN S_33 q_32 = 32 := by rw [eS_33]; exact pN_sN_new
  have t_40 : At S_26 x 189 := tAt_sR eS_26 t_25
  have t_41 : At S_33 x 189 := by rw [eS_33]; exact At_sN t_40 hq_32
  refine r_putR X hw t_41 rfl 5 905 (some q_32) rfl tyX9 (by decide) rfl inn_X9_init_9 tyX9_ok nmX9 (by decide) (X.2.2.2.1 (.fieldLink RX9 18 "SilkMill$Strand" "codes" "[I") (by decide +kernel)) rfl (Or.inl rfl) (fun _ => rfl) rfl (fun _ => rfl) rfl (Nat.le_of_ble_eq_true rfl) (st_905 _ _) dX9_init_27 (fun H locs hw => ?_)
  obtain ⟨S_42, eS_42⟩ : ∃ T, T = sR S_33 905 x (some q_32) := ⟨_, rfl⟩
  rw [← eS_42] at hw
  have ph_43 : Phc S_42 = Phc S + 0 := (show Phc S_42 = Phc S_33 from Ph_rawR t_41 (by decide) eS_42).trans ph_34
  have ph_44 : Phs S_42 = Phs S + 0 := (show Phs S_42 = Phs S_33 from Ph_rawR t_41 (by decide) eS_42).trans ph_35
  clear ph_34
  clear ph_35
  have hK_45 : Kq S S_42 x := hK_36.sR eS_42
  have hg_46 : GX S_42 := by rw [eS_42]; exact GX_rawR hg_37 t_41 (by decide +kernel)
  have h_47 : pR S_42 905 x = some q_32 := tR_sRs eS_42
  refine lv_aload_n X.1 X.2.1 dX9_init_30 rfl (lv_at hl 0 rfl) ?_
  refine lv_bipush (v := 32) X.1 X.2.1 dX9_init_31 (by decide) ?_
  refine r_newI (N := 32) X hw 14 664 4 rfl (X.2.2.2.1 (.arrayClass .int) (by decide +kernel)) (z_nn ti_32 (by omega)) (by decide) (by decide) (by show 3 + 1 ≤ 4; omega) (by show 632 + 32 ≤ 664; omega) (by show 4 ≤ 6; omega) (by show 664 ≤ 728; omega) dX9_init_33 (fun q_48 H hq_48 hw => ?_)
  obtain ⟨S_49, eS_49⟩ : ∃ T, T = sN S_42 q_48 14 32 := ⟨_, rfl⟩
  rw [← eS_49] at hw
  have ph_50 : Phc S_49 = Phc S + 0 := (show Phc S_49 = Phc S_42 from Ph_sN' hg_46.ci hq_48 eS_49 (by decide)).trans ph_43
  have ph_51 : Phs S_49 = Phs S + 0 := (show Phs S_49 = Phs S_42 from Ph_sN' hg_46.ci hq_48 eS_49 (by decide)).trans ph_44
  clear ph_43
  clear ph_44
  have hK_52 : Kq S S_49 x := hK_45.sN hq_48 eS_49
  have hg_53 : GX S_49 := by rw [eS_49]; exact GX_N hg_46 hq_48 (by decide +kernel)
  have hn0_q_48 := hK_45.new hq_48
  have ha_54 : At S_49 q_48 14 := by rw [eS_49]; exact At_nN _ _ _ _
  have hn_55 : pN S_49 q_48 = 32 := by rw [eS_49]; exact pN_sN_new
  have t_56 : At S_42 x 189 := tAt_sR eS_42 t_41
  have t_57 : At S_49 x 189 := by rw [eS_49]; exact At_sN t_56 hq_48
  refine r_putR X hw t_57 rfl 6 906 (some q_48) rfl tyX9 (by decide) rfl inn_X9_init_9 tyX9_ok nmX9 (by decide) (X.2.2.2.1 (.fieldLink RX9 21 "SilkMill$Strand" "firsts" "[I") (by decide +kernel)) rfl (Or.inl rfl) (fun _ => rfl) rfl (fun _ => rfl) rfl (Nat.le_of_ble_eq_true rfl) (st_906 _ _) dX9_init_35 (fun H locs hw => ?_)
  obtain ⟨S_58, eS_58⟩ : ∃ T, T = sR S_49 906 x (some q_48) := ⟨_, rfl⟩
  rw [← eS_58] at hw
  have ph_59 : Phc S_58 = Phc S + 0 := (show Phc S_58 = Phc S_49 from Ph_rawR t_57 (by decide) eS_58).trans ph_50
  have ph_60 : Phs S_58 = Phs S + 0 := (show Phs S_58 = Phs S_49 from Ph_rawR t_57 (by decide) eS_58).trans ph_51
  clear ph_50
  clear ph_51
  have hK_61 : Kq S S_58 x := hK_52.sR eS_58
  have hg_62 : GX S_58 := by rw [eS_58]; exact GX_rawR hg_53 t_57 (by decide +kernel)
  have h_63 : pR S_58 906 x = some q_48 := tR_sRs eS_58
  refine lv_aload_n X.1 X.2.1 dX9_init_38 rfl (lv_at hl 0 rfl) ?_
  refine lv_bipush (v := 32) X.1 X.2.1 dX9_init_39 (by decide) ?_
  refine r_newI (N := 32) X hw 14 696 5 rfl (X.2.2.2.1 (.arrayClass .int) (by decide +kernel)) (z_nn ti_32 (by omega)) (by decide) (by decide) (by show 4 + 1 ≤ 5; omega) (by show 664 + 32 ≤ 696; omega) (by show 5 ≤ 6; omega) (by show 696 ≤ 728; omega) dX9_init_41 (fun q_64 H hq_64 hw => ?_)
  obtain ⟨S_65, eS_65⟩ : ∃ T, T = sN S_58 q_64 14 32 := ⟨_, rfl⟩
  rw [← eS_65] at hw
  have ph_66 : Phc S_65 = Phc S + 0 := (show Phc S_65 = Phc S_58 from Ph_sN' hg_62.ci hq_64 eS_65 (by decide)).trans ph_59
  have ph_67 : Phs S_65 = Phs S + 0 := (show Phs S_65 = Phs S_58 from Ph_sN' hg_62.ci hq_64 eS_65 (by decide)).trans ph_60
  clear ph_59
  clear ph_60
  have hK_68 : Kq S S_65 x := hK_61.sN hq_64 eS_65
  have hg_69 : GX S_65 := by rw [eS_65]; exact GX_N hg_62 hq_64 (by decide +kernel)
  have hn0_q_64 := hK_61.new hq_64
  have ha_70 : At S_65 q_64 14 := by rw [eS_65]; exact At_nN _ _ _ _
  have hn_71 : pN S_65 q_64 = 32 := by rw [eS_65]; exact pN_sN_new
  have t_72 : At S_58 x 189 := tAt_sR eS_58 t_57
  have t_73 : At S_65 x 189 := by rw [eS_65]; exact At_sN t_72 hq_64
  refine r_putR X hw t_73 rfl 7 907 (some q_64) rfl tyX9 (by decide) rfl inn_X9_init_9 tyX9_ok nmX9 (by decide) (X.2.2.2.1 (.fieldLink RX9 24 "SilkMill$Strand" "lengths" "[I") (by decide +kernel)) rfl (Or.inl rfl) (fun _ => rfl) rfl (fun _ => rfl) rfl (Nat.le_of_ble_eq_true rfl) (st_907 _ _) dX9_init_43 (fun H locs hw => ?_)
  obtain ⟨S_74, eS_74⟩ : ∃ T, T = sR S_65 907 x (some q_64) := ⟨_, rfl⟩
  rw [← eS_74] at hw
  have ph_75 : Phc S_74 = Phc S + 0 := (show Phc S_74 = Phc S_65 from Ph_rawR t_73 (by decide) eS_74).trans ph_66
  have ph_76 : Phs S_74 = Phs S + 0 := (show Phs S_74 = Phs S_65 from Ph_rawR t_73 (by decide) eS_74).trans ph_67
  clear ph_66
  clear ph_67
  have hK_77 : Kq S S_74 x := hK_68.sR eS_74
  have hg_78 : GX S_74 := by rw [eS_74]; exact GX_rawR hg_69 t_73 (by decide +kernel)
  have h_79 : pR S_74 907 x = some q_64 := tR_sRs eS_74
  refine lv_aload_n X.1 X.2.1 dX9_init_46 rfl (lv_at hl 0 rfl) ?_
  refine lv_bipush (v := 32) X.1 X.2.1 dX9_init_47 (by decide) ?_
  refine r_newI (N := 32) X hw 14 728 6 rfl (X.2.2.2.1 (.arrayClass .int) (by decide +kernel)) (z_nn ti_32 (by omega)) (by decide) (by decide) (by show 5 + 1 ≤ 6; omega) (by show 696 + 32 ≤ 728; omega) (by show 6 ≤ 6; omega) (by show 728 ≤ 728; omega) dX9_init_49 (fun q_80 H hq_80 hw => ?_)
  obtain ⟨S_81, eS_81⟩ : ∃ T, T = sN S_74 q_80 14 32 := ⟨_, rfl⟩
  rw [← eS_81] at hw
  have ph_82 : Phc S_81 = Phc S + 0 := (show Phc S_81 = Phc S_74 from Ph_sN' hg_78.ci hq_80 eS_81 (by decide)).trans ph_75
  have ph_83 : Phs S_81 = Phs S + 0 := (show Phs S_81 = Phs S_74 from Ph_sN' hg_78.ci hq_80 eS_81 (by decide)).trans ph_76
  clear ph_75
  clear ph_76
  have hK_84 : Kq S S_81 x := hK_77.sN hq_80 eS_81
  have hg_85 : GX S_81 := by rw [eS_81]; exact GX_N hg_78 hq_80 (by decide +kernel)
  have hn0_q_80 := hK_77.new hq_80
  have ha_86 : At S_81 q_80 14 := by rw [eS_81]; exact At_nN _ _ _ _
  have hn_87 : pN S_81 q_80 = 32 := by rw [eS_81]; exact pN_sN_new
  have t_88 : At S_74 x 189 := tAt_sR eS_74 t_73
  have t_89 : At S_81 x 189 := by rw [eS_81]; exact At_sN t_88 hq_80
  refine r_putR X hw t_89 rfl 8 908 (some q_80) rfl tyX9 (by decide) rfl inn_X9_init_9 tyX9_ok nmX9 (by decide) (X.2.2.2.1 (.fieldLink RX9 27 "SilkMill$Strand" "places" "[I") (by decide +kernel)) rfl (Or.inl rfl) (fun _ => rfl) rfl (fun _ => rfl) rfl (Nat.le_of_ble_eq_true rfl) (st_908 _ _) dX9_init_51 (fun H locs hw => ?_)
  obtain ⟨S_90, eS_90⟩ : ∃ T, T = sR S_81 908 x (some q_80) := ⟨_, rfl⟩
  rw [← eS_90] at hw
  have ph_91 : Phc S_90 = Phc S + 0 := (show Phc S_90 = Phc S_81 from Ph_rawR t_89 (by decide) eS_90).trans ph_82
  have ph_92 : Phs S_90 = Phs S + 0 := (show Phs S_90 = Phs S_81 from Ph_rawR t_89 (by decide) eS_90).trans ph_83
  clear ph_82
  clear ph_83
  have hK_93 : Kq S S_90 x := hK_84.sR eS_90
  have hg_94 : GX S_90 := by rw [eS_90]; exact GX_rawR hg_85 t_89 (by decide +kernel)
  have h_95 : pR S_90 908 x = some q_80 := tR_sRs eS_90
  have t_96 : At S_90 x 189 := tAt_sR eS_90 t_89
  have nd_97 := nodup_of hw
  have t_98 : pI S_2 902 x = 0 := by rw [eS_2, pI_sN]; exact (hzI 902)
  have t_99 : pI S_10 902 x = 0 := tI_sR eS_10 t_98
  have t_100 : pI S_17 902 x = 0 := by rw [eS_17, pI_sN]; exact t_99
  have t_101 : pI S_26 902 x = 0 := tI_sR eS_26 t_100
  have t_102 : pI S_33 902 x = 0 := by rw [eS_33, pI_sN]; exact t_101
  have t_103 : pI S_42 902 x = 0 := tI_sR eS_42 t_102
  have t_104 : pI S_49 902 x = 0 := by rw [eS_49, pI_sN]; exact t_103
  have t_105 : pI S_58 902 x = 0 := tI_sR eS_58 t_104
  have t_106 : pI S_65 902 x = 0 := by rw [eS_65, pI_sN]; exact t_105
  have t_107 : pI S_74 902 x = 0 := tI_sR eS_74 t_106
  have t_108 : pI S_81 902 x = 0 := by rw [eS_81, pI_sN]; exact t_107
  have t_109 : pI S_90 902 x = 0 := tI_sR eS_90 t_108
  have t_110 : pR S_17 900 x = some q_1 := by rw [eS_17, pR_sN]; exact h_15
  have t_111 : pR S_26 900 x = some q_1 := tR_sR eS_26 rfl t_110
  have t_112 : pR S_33 900 x = some q_1 := by rw [eS_33, pR_sN]; exact t_111
  have t_113 : pR S_42 900 x = some q_1 := tR_sR eS_42 rfl t_112
  have t_114 : pR S_49 900 x = some q_1 := by rw [eS_49, pR_sN]; exact t_113
  have t_115 : pR S_58 900 x = some q_1 := tR_sR eS_58 rfl t_114
  have t_116 : pR S_65 900 x = some q_1 := by rw [eS_65, pR_sN]; exact t_115
  have t_117 : pR S_74 900 x = some q_1 := tR_sR eS_74 rfl t_116
  have t_118 : pR S_81 900 x = some q_1 := by rw [eS_81, pR_sN]; exact t_117
  have t_119 : pR S_90 900 x = some q_1 := tR_sR eS_90 rfl t_118
  have t_120 : At S_10 q_1 1614 := tAt_sR eS_10 ha_7
  have t_121 : At S_17 q_1 1614 := by rw [eS_17]; exact At_sN t_120 hq_16
  have t_122 : At S_26 q_1 1614 := tAt_sR eS_26 t_121
  have t_123 : At S_33 q_1 1614 := by rw [eS_33]; exact At_sN t_122 hq_32
  have t_124 : At S_42 q_1 1614 := tAt_sR eS_42 t_123
  have t_125 : At S_49 q_1 1614 := by rw [eS_49]; exact At_sN t_124 hq_48
  have t_126 : At S_58 q_1 1614 := tAt_sR eS_58 t_125
  have t_127 : At S_65 q_1 1614 := by rw [eS_65]; exact At_sN t_126 hq_64
  have t_128 : At S_74 q_1 1614 := tAt_sR eS_74 t_127
  have t_129 : At S_81 q_1 1614 := by rw [eS_81]; exact At_sN t_128 hq_80
  have t_130 : At S_90 q_1 1614 := tAt_sR eS_90 t_129
  have t_131 : pN S_10 q_1 = 300 := tN_sR eS_10 hn_8
  clear hn_8
  have t_133 : At S_10 q_1 1614 := tAt_sR eS_10 ha_7
  have t_132 : pN S_17 q_1 = 300 := by rw [eS_17]; exact (pN_sN_ne (ne_of_new hq_16 t_133.1)).trans t_131
  clear t_131
  have t_134 : pN S_26 q_1 = 300 := tN_sR eS_26 t_132
  clear t_132
  have t_136 : At S_17 q_1 1614 := by rw [eS_17]; exact At_sN t_133 hq_16
  have t_137 : At S_26 q_1 1614 := tAt_sR eS_26 t_136
  have t_135 : pN S_33 q_1 = 300 := by rw [eS_33]; exact (pN_sN_ne (ne_of_new hq_32 t_137.1)).trans t_134
  clear t_134
  have t_138 : pN S_42 q_1 = 300 := tN_sR eS_42 t_135
  clear t_135
  have t_140 : At S_33 q_1 1614 := by rw [eS_33]; exact At_sN t_137 hq_32
  have t_141 : At S_42 q_1 1614 := tAt_sR eS_42 t_140
  have t_139 : pN S_49 q_1 = 300 := by rw [eS_49]; exact (pN_sN_ne (ne_of_new hq_48 t_141.1)).trans t_138
  clear t_138
  have t_142 : pN S_58 q_1 = 300 := tN_sR eS_58 t_139
  clear t_139
  have t_144 : At S_49 q_1 1614 := by rw [eS_49]; exact At_sN t_141 hq_48
  have t_145 : At S_58 q_1 1614 := tAt_sR eS_58 t_144
  have t_143 : pN S_65 q_1 = 300 := by rw [eS_65]; exact (pN_sN_ne (ne_of_new hq_64 t_145.1)).trans t_142
  clear t_142
  have t_146 : pN S_74 q_1 = 300 := tN_sR eS_74 t_143
  clear t_143
  have t_148 : At S_65 q_1 1614 := by rw [eS_65]; exact At_sN t_145 hq_64
  have t_149 : At S_74 q_1 1614 := tAt_sR eS_74 t_148
  have t_147 : pN S_81 q_1 = 300 := by rw [eS_81]; exact (pN_sN_ne (ne_of_new hq_80 t_149.1)).trans t_146
  clear t_146
  have t_150 : pN S_90 q_1 = 300 := tN_sR eS_90 t_147
  clear t_147
  have t_151 : pR S_33 901 x = some q_16 := by rw [eS_33, pR_sN]; exact h_31
  have t_152 : pR S_42 901 x = some q_16 := tR_sR eS_42 rfl t_151
  have t_153 : pR S_49 901 x = some q_16 := by rw [eS_49, pR_sN]; exact t_152
  have t_154 : pR S_58 901 x = some q_16 := tR_sR eS_58 rfl t_153
  have t_155 : pR S_65 901 x = some q_16 := by rw [eS_65, pR_sN]; exact t_154
  have t_156 : pR S_74 901 x = some q_16 := tR_sR eS_74 rfl t_155
  have t_157 : pR S_81 901 x = some q_16 := by rw [eS_81, pR_sN]; exact t_156
  have t_158 : pR S_90 901 x = some q_16 := tR_sR eS_90 rfl t_157
  have t_159 : At S_26 q_16 1634 := tAt_sR eS_26 ha_22
  have t_160 : At S_33 q_16 1634 := by rw [eS_33]; exact At_sN t_159 hq_32
  have t_161 : At S_42 q_16 1634 := tAt_sR eS_42 t_160
  have t_162 : At S_49 q_16 1634 := by rw [eS_49]; exact At_sN t_161 hq_48
  have t_163 : At S_58 q_16 1634 := tAt_sR eS_58 t_162
  have t_164 : At S_65 q_16 1634 := by rw [eS_65]; exact At_sN t_163 hq_64
  have t_165 : At S_74 q_16 1634 := tAt_sR eS_74 t_164
  have t_166 : At S_81 q_16 1634 := by rw [eS_81]; exact At_sN t_165 hq_80
  have t_167 : At S_90 q_16 1634 := tAt_sR eS_90 t_166
  have t_168 : pN S_26 q_16 = 300 := tN_sR eS_26 hn_23
  clear hn_23
  have t_170 : At S_26 q_16 1634 := tAt_sR eS_26 ha_22
  have t_169 : pN S_33 q_16 = 300 := by rw [eS_33]; exact (pN_sN_ne (ne_of_new hq_32 t_170.1)).trans t_168
  clear t_168
  have t_171 : pN S_42 q_16 = 300 := tN_sR eS_42 t_169
  clear t_169
  have t_173 : At S_33 q_16 1634 := by rw [eS_33]; exact At_sN t_170 hq_32
  have t_174 : At S_42 q_16 1634 := tAt_sR eS_42 t_173
  have t_172 : pN S_49 q_16 = 300 := by rw [eS_49]; exact (pN_sN_ne (ne_of_new hq_48 t_174.1)).trans t_171
  clear t_171
  have t_175 : pN S_58 q_16 = 300 := tN_sR eS_58 t_172
  clear t_172
  have t_177 : At S_49 q_16 1634 := by rw [eS_49]; exact At_sN t_174 hq_48
  have t_178 : At S_58 q_16 1634 := tAt_sR eS_58 t_177
  have t_176 : pN S_65 q_16 = 300 := by rw [eS_65]; exact (pN_sN_ne (ne_of_new hq_64 t_178.1)).trans t_175
  clear t_175
  have t_179 : pN S_74 q_16 = 300 := tN_sR eS_74 t_176
  clear t_176
  have t_181 : At S_65 q_16 1634 := by rw [eS_65]; exact At_sN t_178 hq_64
  have t_182 : At S_74 q_16 1634 := tAt_sR eS_74 t_181
  have t_180 : pN S_81 q_16 = 300 := by rw [eS_81]; exact (pN_sN_ne (ne_of_new hq_80 t_182.1)).trans t_179
  clear t_179
  have t_183 : pN S_90 q_16 = 300 := tN_sR eS_90 t_180
  clear t_180
  have t_184 : pR S_49 905 x = some q_32 := by rw [eS_49, pR_sN]; exact h_47
  have t_185 : pR S_58 905 x = some q_32 := tR_sR eS_58 rfl t_184
  have t_186 : pR S_65 905 x = some q_32 := by rw [eS_65, pR_sN]; exact t_185
  have t_187 : pR S_74 905 x = some q_32 := tR_sR eS_74 rfl t_186
  have t_188 : pR S_81 905 x = some q_32 := by rw [eS_81, pR_sN]; exact t_187
  have t_189 : pR S_90 905 x = some q_32 := tR_sR eS_90 rfl t_188
  have t_190 : At S_42 q_32 14 := tAt_sR eS_42 ha_38
  have t_191 : At S_49 q_32 14 := by rw [eS_49]; exact At_sN t_190 hq_48
  have t_192 : At S_58 q_32 14 := tAt_sR eS_58 t_191
  have t_193 : At S_65 q_32 14 := by rw [eS_65]; exact At_sN t_192 hq_64
  have t_194 : At S_74 q_32 14 := tAt_sR eS_74 t_193
  have t_195 : At S_81 q_32 14 := by rw [eS_81]; exact At_sN t_194 hq_80
  have t_196 : At S_90 q_32 14 := tAt_sR eS_90 t_195
  have t_197 : pR S_65 906 x = some q_48 := by rw [eS_65, pR_sN]; exact h_63
  have t_198 : pR S_74 906 x = some q_48 := tR_sR eS_74 rfl t_197
  have t_199 : pR S_81 906 x = some q_48 := by rw [eS_81, pR_sN]; exact t_198
  have t_200 : pR S_90 906 x = some q_48 := tR_sR eS_90 rfl t_199
  have t_201 : At S_58 q_48 14 := tAt_sR eS_58 ha_54
  have t_202 : At S_65 q_48 14 := by rw [eS_65]; exact At_sN t_201 hq_64
  have t_203 : At S_74 q_48 14 := tAt_sR eS_74 t_202
  have t_204 : At S_81 q_48 14 := by rw [eS_81]; exact At_sN t_203 hq_80
  have t_205 : At S_90 q_48 14 := tAt_sR eS_90 t_204
  have t_206 : pR S_81 907 x = some q_64 := by rw [eS_81, pR_sN]; exact h_79
  have t_207 : pR S_90 907 x = some q_64 := tR_sR eS_90 rfl t_206
  have t_208 : At S_74 q_64 14 := tAt_sR eS_74 ha_70
  have t_209 : At S_81 q_64 14 := by rw [eS_81]; exact At_sN t_208 hq_80
  have t_210 : At S_90 q_64 14 := tAt_sR eS_90 t_209
  have t_211 : At S_90 q_80 14 := tAt_sR eS_90 ha_86
  have t_212 : pN S_42 q_32 = 32 := tN_sR eS_42 hn_39
  clear hn_39
  have t_214 : At S_42 q_32 14 := tAt_sR eS_42 ha_38
  have t_213 : pN S_49 q_32 = 32 := by rw [eS_49]; exact (pN_sN_ne (ne_of_new hq_48 t_214.1)).trans t_212
  clear t_212
  have t_215 : pN S_58 q_32 = 32 := tN_sR eS_58 t_213
  clear t_213
  have t_217 : At S_49 q_32 14 := by rw [eS_49]; exact At_sN t_214 hq_48
  have t_218 : At S_58 q_32 14 := tAt_sR eS_58 t_217
  have t_216 : pN S_65 q_32 = 32 := by rw [eS_65]; exact (pN_sN_ne (ne_of_new hq_64 t_218.1)).trans t_215
  clear t_215
  have t_219 : pN S_74 q_32 = 32 := tN_sR eS_74 t_216
  clear t_216
  have t_221 : At S_65 q_32 14 := by rw [eS_65]; exact At_sN t_218 hq_64
  have t_222 : At S_74 q_32 14 := tAt_sR eS_74 t_221
  have t_220 : pN S_81 q_32 = 32 := by rw [eS_81]; exact (pN_sN_ne (ne_of_new hq_80 t_222.1)).trans t_219
  clear t_219
  have t_223 : pN S_90 q_32 = 32 := tN_sR eS_90 t_220
  clear t_220
  have t_224 : pI S_2 904 x = 0 := by rw [eS_2, pI_sN]; exact (hzI 904)
  have t_225 : pI S_10 904 x = 0 := tI_sR eS_10 t_224
  have t_226 : pI S_17 904 x = 0 := by rw [eS_17, pI_sN]; exact t_225
  have t_227 : pI S_26 904 x = 0 := tI_sR eS_26 t_226
  have t_228 : pI S_33 904 x = 0 := by rw [eS_33, pI_sN]; exact t_227
  have t_229 : pI S_42 904 x = 0 := tI_sR eS_42 t_228
  have t_230 : pI S_49 904 x = 0 := by rw [eS_49, pI_sN]; exact t_229
  have t_231 : pI S_58 904 x = 0 := tI_sR eS_58 t_230
  have t_232 : pI S_65 904 x = 0 := by rw [eS_65, pI_sN]; exact t_231
  have t_233 : pI S_74 904 x = 0 := tI_sR eS_74 t_232
  have t_234 : pI S_81 904 x = 0 := by rw [eS_81, pI_sN]; exact t_233
  have t_235 : pI S_90 904 x = 0 := tI_sR eS_90 t_234
  have t_236 : pN S_58 q_48 = 32 := tN_sR eS_58 hn_55
  clear hn_55
  have t_238 : At S_58 q_48 14 := tAt_sR eS_58 ha_54
  have t_237 : pN S_65 q_48 = 32 := by rw [eS_65]; exact (pN_sN_ne (ne_of_new hq_64 t_238.1)).trans t_236
  clear t_236
  have t_239 : pN S_74 q_48 = 32 := tN_sR eS_74 t_237
  clear t_237
  have t_241 : At S_65 q_48 14 := by rw [eS_65]; exact At_sN t_238 hq_64
  have t_242 : At S_74 q_48 14 := tAt_sR eS_74 t_241
  have t_240 : pN S_81 q_48 = 32 := by rw [eS_81]; exact (pN_sN_ne (ne_of_new hq_80 t_242.1)).trans t_239
  clear t_239
  have t_243 : pN S_90 q_48 = 32 := tN_sR eS_90 t_240
  clear t_240
  have t_244 : pN S_74 q_64 = 32 := tN_sR eS_74 hn_71
  clear hn_71
  have t_246 : At S_74 q_64 14 := tAt_sR eS_74 ha_70
  have t_245 : pN S_81 q_64 = 32 := by rw [eS_81]; exact (pN_sN_ne (ne_of_new hq_80 t_246.1)).trans t_244
  clear t_244
  have t_247 : pN S_90 q_64 = 32 := tN_sR eS_90 t_245
  clear t_245
  have t_248 : pN S_90 q_80 = 32 := tN_sR eS_90 hn_87
  clear hn_87
  obtain ⟨S_249, eS_249⟩ : ∃ T, T = sK S_90 x 29 := ⟨_, rfl⟩
  have hw := Wd_sK (k := 29) hw t_96 rfl; rw [← eS_249] at hw
  have hg9 : GX S_249 := by rw [eS_249]; exact GX_sK hg_94 t_96 (by decide +kernel) (mk_29 (by rw [pI_sK, t_109]; exact ⟨by rw [ti_0]; omega, by rw [ti_0]; omega⟩) ⟨q_1, (by rw [pR_sK]; exact t_119), At_sK t_96 t_130 (by decide), by rw [pN_sK]; exact t_150⟩ ⟨q_16, (by rw [pR_sK]; exact t_158), At_sK t_96 t_167 (by decide), by rw [pN_sK]; exact t_183⟩ ⟨q_32, q_48, q_64, q_80, 32, (by rw [pR_sK]; exact t_189), (by rw [pR_sK]; exact t_200), (by rw [pR_sK]; exact t_207), (by rw [pR_sK]; exact h_95), At_sK t_96 t_196 (by decide), At_sK t_96 t_205 (by decide), At_sK t_96 t_210 (by decide), At_sK t_96 t_211 (by decide), by rw [pN_sK]; exact t_223, by rw [pN_sK]; exact t_243, by rw [pN_sK]; exact t_247, by rw [pN_sK]; exact t_248, by rw [pI_sK, t_235]; rw [ti_0]; omega, by rw [pI_sK, t_235]; rw [ti_0]; omega, by decide⟩)
  have ha9 : At S_249 x 29 := by rw [eS_249]; exact At_nK t_96
  have hk9 : Kq S S_249 x := hK_93.sK eS_249
  have hPhc9 : Phc S_249 = Phc S + 14272 := by rw [show Phc S_249 = Ph fC 8 14400 S_249 from rfl, Ph_sK nd_97 t_96 (by decide) eS_249, ph_29 ha9 (show pR S_249 905 x = some q_32 by rw [eS_249, pR_sK]; exact t_189) (show pN S_249 q_32 = 32 by rw [eS_249, pN_sK]; exact t_223)]; show Phc S_90 + _ = _; have z1 : fC 32 = 14272 := (by decide +kernel); omega
  have hPhs9 : Phs S_249 = Phs S + 42944 := by rw [show Phs S_249 = Ph fS 15100 46000 S_249 from rfl, Ph_sK nd_97 t_96 (by decide) eS_249, ph_29 ha9 (show pR S_249 905 x = some q_32 by rw [eS_249, pR_sK]; exact t_189) (show pN S_249 q_32 = 32 by rw [eS_249, pN_sK]; exact t_223)]; show Phs S_90 + _ = _; have z1 : fS 32 = 42944 := (by decide +kernel); omega
  have t_250 : pI S_2 903 x = 0 := by rw [eS_2, pI_sN]; exact (hzI 903)
  have t_251 : pI S_10 903 x = 0 := tI_sR eS_10 t_250
  have t_252 : pI S_17 903 x = 0 := by rw [eS_17, pI_sN]; exact t_251
  have t_253 : pI S_26 903 x = 0 := tI_sR eS_26 t_252
  have t_254 : pI S_33 903 x = 0 := by rw [eS_33, pI_sN]; exact t_253
  have t_255 : pI S_42 903 x = 0 := tI_sR eS_42 t_254
  have t_256 : pI S_49 903 x = 0 := by rw [eS_49, pI_sN]; exact t_255
  have t_257 : pI S_58 903 x = 0 := tI_sR eS_58 t_256
  have t_258 : pI S_65 903 x = 0 := by rw [eS_65, pI_sN]; exact t_257
  have t_259 : pI S_74 903 x = 0 := tI_sR eS_74 t_258
  have t_260 : pI S_81 903 x = 0 := by rw [eS_81, pI_sN]; exact t_259
  have t_261 : pI S_90 903 x = 0 := tI_sR eS_90 t_260
  exact ret_v X hw hr hlocks (by show 6 ≤ 6; omega) (by show 728 ≤ 728; omega) ⟨hk9, hg9, ha9, hPhc9, hPhs9, (by rw [eS_249, pI_sK]; exact t_109), (by rw [eS_249, pI_sK]; exact t_261), ⟨q_1, q_16, (by rw [eS_249, pR_sK]; exact t_119), (by rw [eS_249, pR_sK]; exact t_158), hn0_q_1, hn0_q_16⟩⟩ dX9_init_54
set_option maxHeartbeats 4000000 in
set_option maxRecDepth 100000 in
theorem k_X6_init6 (l : Launch) (G : va_G) (cy : Nat → ClassId) (κ : Nat → Nat) (S : PS) (sz : Nat) (x : Nat) (hG : GX S) (ha_x : At S x 186) (hzI : ∀ g, pI S g x = 0) (hzR : ∀ g, pR S g x = none) : Cv l yX6_init wsX6_init ({ frames := 2, cells := 6, slots := 180, locals := 96 }) G cy κ S sz [.ref x] (fun (S9 : PS) => Kq S S9 x ∧ GX S9 ∧ At S9 x 6 ∧ Phc S9 = Phc S + 0 ∧ Phs S9 = Phs S + 0 ∧ pI S9 600 x = 0 ∧ RuN S S9 x) := by
  refine ent_m (cc := cX6_init) (maxL := 1) (ret := none) (by decide) rfl (Nat.le_of_ble_eq_true rfl) ?_
  intro p e s m below meth c ls X hr hlocks hin hw hl hsz
  subst hsz
  have X : Cx p c cX6_init 1 s [.ref x].toArray wsX6_init RX6 m G cy κ (AS S s.heap.size) := X
  have hl : lv_has ls 1 [(0, .ref x)] := hl
  have hpc0 : Phc S = Phc S + 0 := rfl
  have hps0 : Phs S = Phs S + 0 := rfl
  have hK : Kq S S x := Kq.rf S _
  refine lv_aload_n X.1 X.2.1 dX6_init_0 rfl (lv_at hl 0 rfl) ?_
  refine W.objInit X.1 X.2.1 X.2.2.2.2.1 (X.2.2.2.1 (.methodLink RX6 3 objectInit) (by decide +kernel)) (X.2.2.2.1 (.instanceMethod objectInit) (by decide +kernel)) (X.2.2.2.1 (.code objectInit ⟨#[0xb1]⟩ 1 none) (by decide +kernel)) rfl (hl.1.trans X.2.2.1.symm) rfl dX6_init_1 (Nat.le_of_ble_eq_true rfl) (Nat.le_of_ble_eq_true rfl) ?_
  refine W.eq (g2 := F0 m 4 ls ([])) rfl ?_
  refine lv_aload_n X.1 X.2.1 dX6_init_4 rfl (lv_at hl 0 rfl) ?_
  refine lv_bipush (v := 12) X.1 X.2.1 dX6_init_5 (by decide) ?_
  refine r_newI (N := 12) X hw 134 12 1 rfl (X.2.2.2.1 (.arrayClass .int) (by decide +kernel)) (z_nn ti_12 (by omega)) (by decide) (by decide) (Nat.le_of_ble_eq_true rfl) (Nat.le_of_ble_eq_true rfl) (Nat.le_of_ble_eq_true rfl) (Nat.le_of_ble_eq_true rfl) dX6_init_7 (fun q_1 H hq_1 hw => ?_)
  obtain ⟨S_2, eS_2⟩ : ∃ T, T = sN S q_1 134 12 := ⟨_, rfl⟩
  rw [← eS_2] at hw
  have ph_3 : Phc S_2 = Phc S + 0 := (show Phc S_2 = Phc S from Ph_sN' hG.ci hq_1 eS_2 (by decide)).trans hpc0
  have ph_4 : Phs S_2 = Phs S + 0 := (show Phs S_2 = Phs S from Ph_sN' hG.ci hq_1 eS_2 (by decide)).trans hps0
  clear hpc0
  clear hps0
  have hK_5 : Kq S S_2 x := hK.sN hq_1 eS_2
  have hg_6 : GX S_2 := by rw [eS_2]; exact GX_N hG hq_1 (by decide +kernel)
  have hn0_q_1 := hK.new hq_1
  have ha_7 : At S_2 q_1 134 := by rw [eS_2]; exact At_nN _ _ _ _
  have hn_8 : pN S_2 q_1 = 12 := by rw [eS_2]; exact pN_sN_new
  have t_9 : At S_2 x 186 := by rw [eS_2]; exact At_sN ha_x hq_1
  refine r_putR X hw t_9 rfl 1 601 (some q_1) rfl tyX6 (by decide) rfl inn_X6_init_6 tyX6_ok nmX6 (by decide) (X.2.2.2.1 (.fieldLink RX6 9 "SilkMill$Rules" "acts" "[I") (by decide +kernel)) rfl (Or.inr ⟨rfl, hin, rfl⟩) (fun _ => rfl) rfl (fun _ => rfl) rfl (Nat.le_of_ble_eq_true rfl) (st_601 _ _) dX6_init_9 (fun H locs hw => ?_)
  obtain ⟨S_10, eS_10⟩ : ∃ T, T = sR S_2 601 x (some q_1) := ⟨_, rfl⟩
  rw [← eS_10] at hw
  have ph_11 : Phc S_10 = Phc S + 0 := (show Phc S_10 = Phc S_2 from Ph_rawR t_9 (by decide) eS_10).trans ph_3
  have ph_12 : Phs S_10 = Phs S + 0 := (show Phs S_10 = Phs S_2 from Ph_rawR t_9 (by decide) eS_10).trans ph_4
  clear ph_3
  clear ph_4
  have hK_13 : Kq S S_10 x := hK_5.sR eS_10
  have hg_14 : GX S_10 := by rw [eS_10]; exact GX_rawR hg_6 t_9 (by decide +kernel)
  have h_15 : pR S_10 601 x = some q_1 := tR_sRs eS_10
  refine lv_aload_n X.1 X.2.1 dX6_init_12 rfl (lv_at hl 0 rfl) ?_
  refine lv_bipush (v := 12) X.1 X.2.1 dX6_init_13 (by decide) ?_
  refine r_newI (N := 12) X hw 134 24 2 rfl (X.2.2.2.1 (.arrayClass .int) (by decide +kernel)) (z_nn ti_12 (by omega)) (by decide) (by decide) (Nat.le_of_ble_eq_true rfl) (Nat.le_of_ble_eq_true rfl) (Nat.le_of_ble_eq_true rfl) (Nat.le_of_ble_eq_true rfl) dX6_init_15 (fun q_16 H hq_16 hw => ?_)
  obtain ⟨S_17, eS_17⟩ : ∃ T, T = sN S_10 q_16 134 12 := ⟨_, rfl⟩
  rw [← eS_17] at hw
  have ph_18 : Phc S_17 = Phc S + 0 := (show Phc S_17 = Phc S_10 from Ph_sN' hg_14.ci hq_16 eS_17 (by decide)).trans ph_11
  have ph_19 : Phs S_17 = Phs S + 0 := (show Phs S_17 = Phs S_10 from Ph_sN' hg_14.ci hq_16 eS_17 (by decide)).trans ph_12
  clear ph_11
  clear ph_12
  have hK_20 : Kq S S_17 x := hK_13.sN hq_16 eS_17
  have hg_21 : GX S_17 := by rw [eS_17]; exact GX_N hg_14 hq_16 (by decide +kernel)
  have hn0_q_16 := hK_13.new hq_16
  have ha_22 : At S_17 q_16 134 := by rw [eS_17]; exact At_nN _ _ _ _
  have hn_23 : pN S_17 q_16 = 12 := by rw [eS_17]; exact pN_sN_new
  have t_24 : At S_10 x 186 := tAt_sR eS_10 t_9
  have t_25 : At S_17 x 186 := by rw [eS_17]; exact At_sN t_24 hq_16
  refine r_putR X hw t_25 rfl 2 602 (some q_16) rfl tyX6 (by decide) rfl inn_X6_init_6 tyX6_ok nmX6 (by decide) (X.2.2.2.1 (.fieldLink RX6 15 "SilkMill$Rules" "amounts" "[I") (by decide +kernel)) rfl (Or.inr ⟨rfl, hin, rfl⟩) (fun _ => rfl) rfl (fun _ => rfl) rfl (Nat.le_of_ble_eq_true rfl) (st_602 _ _) dX6_init_17 (fun H locs hw => ?_)
  obtain ⟨S_26, eS_26⟩ : ∃ T, T = sR S_17 602 x (some q_16) := ⟨_, rfl⟩
  rw [← eS_26] at hw
  have ph_27 : Phc S_26 = Phc S + 0 := (show Phc S_26 = Phc S_17 from Ph_rawR t_25 (by decide) eS_26).trans ph_18
  have ph_28 : Phs S_26 = Phs S + 0 := (show Phs S_26 = Phs S_17 from Ph_rawR t_25 (by decide) eS_26).trans ph_19
  clear ph_18
  clear ph_19
  have hK_29 : Kq S S_26 x := hK_20.sR eS_26
  have hg_30 : GX S_26 := by rw [eS_26]; exact GX_rawR hg_21 t_25 (by decide +kernel)
  have h_31 : pR S_26 602 x = some q_16 := tR_sRs eS_26
  refine lv_aload_n X.1 X.2.1 dX6_init_20 rfl (lv_at hl 0 rfl) ?_
  refine lv_bipush (v := 12) X.1 X.2.1 dX6_init_21 (by decide) ?_
  refine r_newI (N := 12) X hw 34 36 3 rfl (X.2.2.2.1 (.arrayClass .int) (by decide +kernel)) (z_nn ti_12 (by omega)) (by decide) (by decide) (Nat.le_of_ble_eq_true rfl) (Nat.le_of_ble_eq_true rfl) (Nat.le_of_ble_eq_true rfl) (Nat.le_of_ble_eq_true rfl) dX6_init_23 (fun q_32 H hq_32 hw => ?_)
  obtain ⟨S_33, eS_33⟩ : ∃ T, T = sN S_26 q_32 34 12 := ⟨_, rfl⟩
  rw [← eS_33] at hw
  have ph_34 : Phc S_33 = Phc S + 0 := (show Phc S_33 = Phc S_26 from Ph_sN' hg_30.ci hq_32 eS_33 (by decide)).trans ph_27
  have ph_35 : Phs S_33 = Phs S + 0 := (show Phs S_33 = Phs S_26 from Ph_sN' hg_30.ci hq_32 eS_33 (by decide)).trans ph_28
  clear ph_27
  clear ph_28
  have hK_36 : Kq S S_33 x := hK_29.sN hq_32 eS_33
  have hg_37 : GX S_33 := by rw [eS_33]; exact GX_N hg_30 hq_32 (by decide +kernel)
  have hn0_q_32 := hK_29.new hq_32
  have ha_38 : At S_33 q_32 34 := by rw [eS_33]; exact At_nN _ _ _ _
  have hn_39 : pN S_33 q_32 = 12 := by rw [eS_33]; exact pN_sN_new
  have t_40 : At S_26 x 186 := tAt_sR eS_26 t_25
  have t_41 : At S_33 x 186 := by rw [eS_33]; exact At_sN t_40 hq_32
  refine r_putR X hw t_41 rfl 3 603 (some q_32) rfl tyX6 (by decide) rfl inn_X6_init_6 tyX6_ok nmX6 (by decide) (X.2.2.2.1 (.fieldLink RX6 18 "SilkMill$Rules" "conditions" "[I") (by decide +kernel)) rfl (Or.inr ⟨rfl, hin, rfl⟩) (fun _ => rfl) rfl (fun _ => rfl) rfl (Nat.le_of_ble_eq_true rfl) (st_603 _ _) dX6_init_25 (fun H locs hw => ?_)
  obtain ⟨S_42, eS_42⟩ : ∃ T, T = sR S_33 603 x (some q_32) := ⟨_, rfl⟩
  rw [← eS_42] at hw
  have ph_43 : Phc S_42 = Phc S + 0 := (show Phc S_42 = Phc S_33 from Ph_rawR t_41 (by decide) eS_42).trans ph_34
  have ph_44 : Phs S_42 = Phs S + 0 := (show Phs S_42 = Phs S_33 from Ph_rawR t_41 (by decide) eS_42).trans ph_35
  clear ph_34
  clear ph_35
  have hK_45 : Kq S S_42 x := hK_36.sR eS_42
  have hg_46 : GX S_42 := by rw [eS_42]; exact GX_rawR hg_37 t_41 (by decide +kernel)
  have h_47 : pR S_42 603 x = some q_32 := tR_sRs eS_42
  refine lv_aload_n X.1 X.2.1 dX6_init_28 rfl (lv_at hl 0 rfl) ?_
  refine lv_bipush (v := 48) X.1 X.2.1 dX6_init_29 (by decide) ?_
  refine r_newI (N := 48) X hw 134 84 4 rfl (X.2.2.2.1 (.arrayClass .int) (by decide +kernel)) (z_nn ti_48 (by omega)) (by decide) (by decide) (Nat.le_of_ble_eq_true rfl) (Nat.le_of_ble_eq_true rfl) (Nat.le_of_ble_eq_true rfl) (Nat.le_of_ble_eq_true rfl) dX6_init_31 (fun q_48 H hq_48 hw => ?_)
  obtain ⟨S_49, eS_49⟩ : ∃ T, T = sN S_42 q_48 134 48 := ⟨_, rfl⟩
  rw [← eS_49] at hw
  have ph_50 : Phc S_49 = Phc S + 0 := (show Phc S_49 = Phc S_42 from Ph_sN' hg_46.ci hq_48 eS_49 (by decide)).trans ph_43
  have ph_51 : Phs S_49 = Phs S + 0 := (show Phs S_49 = Phs S_42 from Ph_sN' hg_46.ci hq_48 eS_49 (by decide)).trans ph_44
  clear ph_43
  clear ph_44
  have hK_52 : Kq S S_49 x := hK_45.sN hq_48 eS_49
  have hg_53 : GX S_49 := by rw [eS_49]; exact GX_N hg_46 hq_48 (by decide +kernel)
  have hn0_q_48 := hK_45.new hq_48
  have ha_54 : At S_49 q_48 134 := by rw [eS_49]; exact At_nN _ _ _ _
  have hn_55 : pN S_49 q_48 = 48 := by rw [eS_49]; exact pN_sN_new
  have t_56 : At S_42 x 186 := tAt_sR eS_42 t_41
  have t_57 : At S_49 x 186 := by rw [eS_49]; exact At_sN t_56 hq_48
  refine r_putR X hw t_57 rfl 4 604 (some q_48) rfl tyX6 (by decide) rfl inn_X6_init_6 tyX6_ok nmX6 (by decide) (X.2.2.2.1 (.fieldLink RX6 21 "SilkMill$Rules" "fields" "[I") (by decide +kernel)) rfl (Or.inr ⟨rfl, hin, rfl⟩) (fun _ => rfl) rfl (fun _ => rfl) rfl (Nat.le_of_ble_eq_true rfl) (st_604 _ _) dX6_init_33 (fun H locs hw => ?_)
  obtain ⟨S_58, eS_58⟩ : ∃ T, T = sR S_49 604 x (some q_48) := ⟨_, rfl⟩
  rw [← eS_58] at hw
  have ph_59 : Phc S_58 = Phc S + 0 := (show Phc S_58 = Phc S_49 from Ph_rawR t_57 (by decide) eS_58).trans ph_50
  have ph_60 : Phs S_58 = Phs S + 0 := (show Phs S_58 = Phs S_49 from Ph_rawR t_57 (by decide) eS_58).trans ph_51
  clear ph_50
  clear ph_51
  have hK_61 : Kq S S_58 x := hK_52.sR eS_58
  have hg_62 : GX S_58 := by rw [eS_58]; exact GX_rawR hg_53 t_57 (by decide +kernel)
  have h_63 : pR S_58 604 x = some q_48 := tR_sRs eS_58
  refine lv_aload_n X.1 X.2.1 dX6_init_36 rfl (lv_at hl 0 rfl) ?_
  refine lv_bipush (v := 48) X.1 X.2.1 dX6_init_37 (by decide) ?_
  refine r_newI (N := 48) X hw 134 132 5 rfl (X.2.2.2.1 (.arrayClass .int) (by decide +kernel)) (z_nn ti_48 (by omega)) (by decide) (by decide) (Nat.le_of_ble_eq_true rfl) (Nat.le_of_ble_eq_true rfl) (Nat.le_of_ble_eq_true rfl) (Nat.le_of_ble_eq_true rfl) dX6_init_39 (fun q_64 H hq_64 hw => ?_)
  obtain ⟨S_65, eS_65⟩ : ∃ T, T = sN S_58 q_64 134 48 := ⟨_, rfl⟩
  rw [← eS_65] at hw
  have ph_66 : Phc S_65 = Phc S + 0 := (show Phc S_65 = Phc S_58 from Ph_sN' hg_62.ci hq_64 eS_65 (by decide)).trans ph_59
  have ph_67 : Phs S_65 = Phs S + 0 := (show Phs S_65 = Phs S_58 from Ph_sN' hg_62.ci hq_64 eS_65 (by decide)).trans ph_60
  clear ph_59
  clear ph_60
  have hK_68 : Kq S S_65 x := hK_61.sN hq_64 eS_65
  have hg_69 : GX S_65 := by rw [eS_65]; exact GX_N hg_62 hq_64 (by decide +kernel)
  have hn0_q_64 := hK_61.new hq_64
  have ha_70 : At S_65 q_64 134 := by rw [eS_65]; exact At_nN _ _ _ _
  have hn_71 : pN S_65 q_64 = 48 := by rw [eS_65]; exact pN_sN_new
  have t_72 : At S_58 x 186 := tAt_sR eS_58 t_57
  have t_73 : At S_65 x 186 := by rw [eS_65]; exact At_sN t_72 hq_64
  refine r_putR X hw t_73 rfl 5 605 (some q_64) rfl tyX6 (by decide) rfl inn_X6_init_6 tyX6_ok nmX6 (by decide) (X.2.2.2.1 (.fieldLink RX6 24 "SilkMill$Rules" "relations" "[I") (by decide +kernel)) rfl (Or.inr ⟨rfl, hin, rfl⟩) (fun _ => rfl) rfl (fun _ => rfl) rfl (Nat.le_of_ble_eq_true rfl) (st_605 _ _) dX6_init_41 (fun H locs hw => ?_)
  obtain ⟨S_74, eS_74⟩ : ∃ T, T = sR S_65 605 x (some q_64) := ⟨_, rfl⟩
  rw [← eS_74] at hw
  have ph_75 : Phc S_74 = Phc S + 0 := (show Phc S_74 = Phc S_65 from Ph_rawR t_73 (by decide) eS_74).trans ph_66
  have ph_76 : Phs S_74 = Phs S + 0 := (show Phs S_74 = Phs S_65 from Ph_rawR t_73 (by decide) eS_74).trans ph_67
  clear ph_66
  clear ph_67
  have hK_77 : Kq S S_74 x := hK_68.sR eS_74
  have hg_78 : GX S_74 := by rw [eS_74]; exact GX_rawR hg_69 t_73 (by decide +kernel)
  have h_79 : pR S_74 605 x = some q_64 := tR_sRs eS_74
  refine lv_aload_n X.1 X.2.1 dX6_init_44 rfl (lv_at hl 0 rfl) ?_
  refine lv_bipush (v := 48) X.1 X.2.1 dX6_init_45 (by decide) ?_
  refine r_newI (N := 48) X hw 134 180 6 rfl (X.2.2.2.1 (.arrayClass .int) (by decide +kernel)) (z_nn ti_48 (by omega)) (by decide) (by decide) (Nat.le_of_ble_eq_true rfl) (Nat.le_of_ble_eq_true rfl) (Nat.le_of_ble_eq_true rfl) (Nat.le_of_ble_eq_true rfl) dX6_init_47 (fun q_80 H hq_80 hw => ?_)
  obtain ⟨S_81, eS_81⟩ : ∃ T, T = sN S_74 q_80 134 48 := ⟨_, rfl⟩
  rw [← eS_81] at hw
  have ph_82 : Phc S_81 = Phc S + 0 := (show Phc S_81 = Phc S_74 from Ph_sN' hg_78.ci hq_80 eS_81 (by decide)).trans ph_75
  have ph_83 : Phs S_81 = Phs S + 0 := (show Phs S_81 = Phs S_74 from Ph_sN' hg_78.ci hq_80 eS_81 (by decide)).trans ph_76
  clear ph_75
  clear ph_76
  have hK_84 : Kq S S_81 x := hK_77.sN hq_80 eS_81
  have hg_85 : GX S_81 := by rw [eS_81]; exact GX_N hg_78 hq_80 (by decide +kernel)
  have hn0_q_80 := hK_77.new hq_80
  have ha_86 : At S_81 q_80 134 := by rw [eS_81]; exact At_nN _ _ _ _
  have hn_87 : pN S_81 q_80 = 48 := by rw [eS_81]; exact pN_sN_new
  have t_88 : At S_74 x 186 := tAt_sR eS_74 t_73
  have t_89 : At S_81 x 186 := by rw [eS_81]; exact At_sN t_88 hq_80
  refine r_putR X hw t_89 rfl 6 606 (some q_80) rfl tyX6 (by decide) rfl inn_X6_init_6 tyX6_ok nmX6 (by decide) (X.2.2.2.1 (.fieldLink RX6 27 "SilkMill$Rules" "numbers" "[I") (by decide +kernel)) rfl (Or.inr ⟨rfl, hin, rfl⟩) (fun _ => rfl) rfl (fun _ => rfl) rfl (Nat.le_of_ble_eq_true rfl) (st_606 _ _) dX6_init_49 (fun H locs hw => ?_)
  obtain ⟨S_90, eS_90⟩ : ∃ T, T = sR S_81 606 x (some q_80) := ⟨_, rfl⟩
  rw [← eS_90] at hw
  have ph_91 : Phc S_90 = Phc S + 0 := (show Phc S_90 = Phc S_81 from Ph_rawR t_89 (by decide) eS_90).trans ph_82
  have ph_92 : Phs S_90 = Phs S + 0 := (show Phs S_90 = Phs S_81 from Ph_rawR t_89 (by decide) eS_90).trans ph_83
  clear ph_82
  clear ph_83
  have hK_93 : Kq S S_90 x := hK_84.sR eS_90
  have hg_94 : GX S_90 := by rw [eS_90]; exact GX_rawR hg_85 t_89 (by decide +kernel)
  have h_95 : pR S_90 606 x = some q_80 := tR_sRs eS_90
  have t_96 : At S_90 x 186 := tAt_sR eS_90 t_89
  have nd_97 := nodup_of hw
  have t_98 : pI S_2 600 x = 0 := by rw [eS_2, pI_sN]; exact (hzI 600)
  have t_99 : pI S_10 600 x = 0 := tI_sR eS_10 t_98
  have t_100 : pI S_17 600 x = 0 := by rw [eS_17, pI_sN]; exact t_99
  have t_101 : pI S_26 600 x = 0 := tI_sR eS_26 t_100
  have t_102 : pI S_33 600 x = 0 := by rw [eS_33, pI_sN]; exact t_101
  have t_103 : pI S_42 600 x = 0 := tI_sR eS_42 t_102
  have t_104 : pI S_49 600 x = 0 := by rw [eS_49, pI_sN]; exact t_103
  have t_105 : pI S_58 600 x = 0 := tI_sR eS_58 t_104
  have t_106 : pI S_65 600 x = 0 := by rw [eS_65, pI_sN]; exact t_105
  have t_107 : pI S_74 600 x = 0 := tI_sR eS_74 t_106
  have t_108 : pI S_81 600 x = 0 := by rw [eS_81, pI_sN]; exact t_107
  have t_109 : pI S_90 600 x = 0 := tI_sR eS_90 t_108
  have t_110 : pR S_17 601 x = some q_1 := by rw [eS_17, pR_sN]; exact h_15
  have t_111 : pR S_26 601 x = some q_1 := tR_sR eS_26 rfl t_110
  have t_112 : pR S_33 601 x = some q_1 := by rw [eS_33, pR_sN]; exact t_111
  have t_113 : pR S_42 601 x = some q_1 := tR_sR eS_42 rfl t_112
  have t_114 : pR S_49 601 x = some q_1 := by rw [eS_49, pR_sN]; exact t_113
  have t_115 : pR S_58 601 x = some q_1 := tR_sR eS_58 rfl t_114
  have t_116 : pR S_65 601 x = some q_1 := by rw [eS_65, pR_sN]; exact t_115
  have t_117 : pR S_74 601 x = some q_1 := tR_sR eS_74 rfl t_116
  have t_118 : pR S_81 601 x = some q_1 := by rw [eS_81, pR_sN]; exact t_117
  have t_119 : pR S_90 601 x = some q_1 := tR_sR eS_90 rfl t_118
  have t_120 : At S_10 q_1 134 := tAt_sR eS_10 ha_7
  have t_121 : At S_17 q_1 134 := by rw [eS_17]; exact At_sN t_120 hq_16
  have t_122 : At S_26 q_1 134 := tAt_sR eS_26 t_121
  have t_123 : At S_33 q_1 134 := by rw [eS_33]; exact At_sN t_122 hq_32
  have t_124 : At S_42 q_1 134 := tAt_sR eS_42 t_123
  have t_125 : At S_49 q_1 134 := by rw [eS_49]; exact At_sN t_124 hq_48
  have t_126 : At S_58 q_1 134 := tAt_sR eS_58 t_125
  have t_127 : At S_65 q_1 134 := by rw [eS_65]; exact At_sN t_126 hq_64
  have t_128 : At S_74 q_1 134 := tAt_sR eS_74 t_127
  have t_129 : At S_81 q_1 134 := by rw [eS_81]; exact At_sN t_128 hq_80
  have t_130 : At S_90 q_1 134 := tAt_sR eS_90 t_129
  have t_131 : pN S_10 q_1 = 12 := tN_sR eS_10 hn_8
  clear hn_8
  have t_133 : At S_10 q_1 134 := tAt_sR eS_10 ha_7
  have t_132 : pN S_17 q_1 = 12 := by rw [eS_17]; exact (pN_sN_ne (ne_of_new hq_16 t_133.1)).trans t_131
  clear t_131
  have t_134 : pN S_26 q_1 = 12 := tN_sR eS_26 t_132
  clear t_132
  have t_136 : At S_17 q_1 134 := by rw [eS_17]; exact At_sN t_133 hq_16
  have t_137 : At S_26 q_1 134 := tAt_sR eS_26 t_136
  have t_135 : pN S_33 q_1 = 12 := by rw [eS_33]; exact (pN_sN_ne (ne_of_new hq_32 t_137.1)).trans t_134
  clear t_134
  have t_138 : pN S_42 q_1 = 12 := tN_sR eS_42 t_135
  clear t_135
  have t_140 : At S_33 q_1 134 := by rw [eS_33]; exact At_sN t_137 hq_32
  have t_141 : At S_42 q_1 134 := tAt_sR eS_42 t_140
  have t_139 : pN S_49 q_1 = 12 := by rw [eS_49]; exact (pN_sN_ne (ne_of_new hq_48 t_141.1)).trans t_138
  clear t_138
  have t_142 : pN S_58 q_1 = 12 := tN_sR eS_58 t_139
  clear t_139
  have t_144 : At S_49 q_1 134 := by rw [eS_49]; exact At_sN t_141 hq_48
  have t_145 : At S_58 q_1 134 := tAt_sR eS_58 t_144
  have t_143 : pN S_65 q_1 = 12 := by rw [eS_65]; exact (pN_sN_ne (ne_of_new hq_64 t_145.1)).trans t_142
  clear t_142
  have t_146 : pN S_74 q_1 = 12 := tN_sR eS_74 t_143
  clear t_143
  have t_148 : At S_65 q_1 134 := by rw [eS_65]; exact At_sN t_145 hq_64
  have t_149 : At S_74 q_1 134 := tAt_sR eS_74 t_148
  have t_147 : pN S_81 q_1 = 12 := by rw [eS_81]; exact (pN_sN_ne (ne_of_new hq_80 t_149.1)).trans t_146
  clear t_146
  have t_150 : pN S_90 q_1 = 12 := tN_sR eS_90 t_147
  clear t_147
  have t_151 : pR S_33 602 x = some q_16 := by rw [eS_33, pR_sN]; exact h_31
  have t_152 : pR S_42 602 x = some q_16 := tR_sR eS_42 rfl t_151
  have t_153 : pR S_49 602 x = some q_16 := by rw [eS_49, pR_sN]; exact t_152
  have t_154 : pR S_58 602 x = some q_16 := tR_sR eS_58 rfl t_153
  have t_155 : pR S_65 602 x = some q_16 := by rw [eS_65, pR_sN]; exact t_154
  have t_156 : pR S_74 602 x = some q_16 := tR_sR eS_74 rfl t_155
  have t_157 : pR S_81 602 x = some q_16 := by rw [eS_81, pR_sN]; exact t_156
  have t_158 : pR S_90 602 x = some q_16 := tR_sR eS_90 rfl t_157
  have t_159 : At S_26 q_16 134 := tAt_sR eS_26 ha_22
  have t_160 : At S_33 q_16 134 := by rw [eS_33]; exact At_sN t_159 hq_32
  have t_161 : At S_42 q_16 134 := tAt_sR eS_42 t_160
  have t_162 : At S_49 q_16 134 := by rw [eS_49]; exact At_sN t_161 hq_48
  have t_163 : At S_58 q_16 134 := tAt_sR eS_58 t_162
  have t_164 : At S_65 q_16 134 := by rw [eS_65]; exact At_sN t_163 hq_64
  have t_165 : At S_74 q_16 134 := tAt_sR eS_74 t_164
  have t_166 : At S_81 q_16 134 := by rw [eS_81]; exact At_sN t_165 hq_80
  have t_167 : At S_90 q_16 134 := tAt_sR eS_90 t_166
  have t_168 : pN S_26 q_16 = 12 := tN_sR eS_26 hn_23
  clear hn_23
  have t_170 : At S_26 q_16 134 := tAt_sR eS_26 ha_22
  have t_169 : pN S_33 q_16 = 12 := by rw [eS_33]; exact (pN_sN_ne (ne_of_new hq_32 t_170.1)).trans t_168
  clear t_168
  have t_171 : pN S_42 q_16 = 12 := tN_sR eS_42 t_169
  clear t_169
  have t_173 : At S_33 q_16 134 := by rw [eS_33]; exact At_sN t_170 hq_32
  have t_174 : At S_42 q_16 134 := tAt_sR eS_42 t_173
  have t_172 : pN S_49 q_16 = 12 := by rw [eS_49]; exact (pN_sN_ne (ne_of_new hq_48 t_174.1)).trans t_171
  clear t_171
  have t_175 : pN S_58 q_16 = 12 := tN_sR eS_58 t_172
  clear t_172
  have t_177 : At S_49 q_16 134 := by rw [eS_49]; exact At_sN t_174 hq_48
  have t_178 : At S_58 q_16 134 := tAt_sR eS_58 t_177
  have t_176 : pN S_65 q_16 = 12 := by rw [eS_65]; exact (pN_sN_ne (ne_of_new hq_64 t_178.1)).trans t_175
  clear t_175
  have t_179 : pN S_74 q_16 = 12 := tN_sR eS_74 t_176
  clear t_176
  have t_181 : At S_65 q_16 134 := by rw [eS_65]; exact At_sN t_178 hq_64
  have t_182 : At S_74 q_16 134 := tAt_sR eS_74 t_181
  have t_180 : pN S_81 q_16 = 12 := by rw [eS_81]; exact (pN_sN_ne (ne_of_new hq_80 t_182.1)).trans t_179
  clear t_179
  have t_183 : pN S_90 q_16 = 12 := tN_sR eS_90 t_180
  clear t_180
  have t_184 : pR S_49 603 x = some q_32 := by rw [eS_49, pR_sN]; exact h_47
  have t_185 : pR S_58 603 x = some q_32 := tR_sR eS_58 rfl t_184
  have t_186 : pR S_65 603 x = some q_32 := by rw [eS_65, pR_sN]; exact t_185
  have t_187 : pR S_74 603 x = some q_32 := tR_sR eS_74 rfl t_186
  have t_188 : pR S_81 603 x = some q_32 := by rw [eS_81, pR_sN]; exact t_187
  have t_189 : pR S_90 603 x = some q_32 := tR_sR eS_90 rfl t_188
  have t_190 : At S_42 q_32 34 := tAt_sR eS_42 ha_38
  have t_191 : At S_49 q_32 34 := by rw [eS_49]; exact At_sN t_190 hq_48
  have t_192 : At S_58 q_32 34 := tAt_sR eS_58 t_191
  have t_193 : At S_65 q_32 34 := by rw [eS_65]; exact At_sN t_192 hq_64
  have t_194 : At S_74 q_32 34 := tAt_sR eS_74 t_193
  have t_195 : At S_81 q_32 34 := by rw [eS_81]; exact At_sN t_194 hq_80
  have t_196 : At S_90 q_32 34 := tAt_sR eS_90 t_195
  have t_197 : pN S_42 q_32 = 12 := tN_sR eS_42 hn_39
  clear hn_39
  have t_199 : At S_42 q_32 34 := tAt_sR eS_42 ha_38
  have t_198 : pN S_49 q_32 = 12 := by rw [eS_49]; exact (pN_sN_ne (ne_of_new hq_48 t_199.1)).trans t_197
  clear t_197
  have t_200 : pN S_58 q_32 = 12 := tN_sR eS_58 t_198
  clear t_198
  have t_202 : At S_49 q_32 34 := by rw [eS_49]; exact At_sN t_199 hq_48
  have t_203 : At S_58 q_32 34 := tAt_sR eS_58 t_202
  have t_201 : pN S_65 q_32 = 12 := by rw [eS_65]; exact (pN_sN_ne (ne_of_new hq_64 t_203.1)).trans t_200
  clear t_200
  have t_204 : pN S_74 q_32 = 12 := tN_sR eS_74 t_201
  clear t_201
  have t_206 : At S_65 q_32 34 := by rw [eS_65]; exact At_sN t_203 hq_64
  have t_207 : At S_74 q_32 34 := tAt_sR eS_74 t_206
  have t_205 : pN S_81 q_32 = 12 := by rw [eS_81]; exact (pN_sN_ne (ne_of_new hq_80 t_207.1)).trans t_204
  clear t_204
  have t_208 : pN S_90 q_32 = 12 := tN_sR eS_90 t_205
  clear t_205
  have t_209 : pR S_65 604 x = some q_48 := by rw [eS_65, pR_sN]; exact h_63
  have t_210 : pR S_74 604 x = some q_48 := tR_sR eS_74 rfl t_209
  have t_211 : pR S_81 604 x = some q_48 := by rw [eS_81, pR_sN]; exact t_210
  have t_212 : pR S_90 604 x = some q_48 := tR_sR eS_90 rfl t_211
  have t_213 : At S_58 q_48 134 := tAt_sR eS_58 ha_54
  have t_214 : At S_65 q_48 134 := by rw [eS_65]; exact At_sN t_213 hq_64
  have t_215 : At S_74 q_48 134 := tAt_sR eS_74 t_214
  have t_216 : At S_81 q_48 134 := by rw [eS_81]; exact At_sN t_215 hq_80
  have t_217 : At S_90 q_48 134 := tAt_sR eS_90 t_216
  have t_218 : pN S_58 q_48 = 48 := tN_sR eS_58 hn_55
  clear hn_55
  have t_220 : At S_58 q_48 134 := tAt_sR eS_58 ha_54
  have t_219 : pN S_65 q_48 = 48 := by rw [eS_65]; exact (pN_sN_ne (ne_of_new hq_64 t_220.1)).trans t_218
  clear t_218
  have t_221 : pN S_74 q_48 = 48 := tN_sR eS_74 t_219
  clear t_219
  have t_223 : At S_65 q_48 134 := by rw [eS_65]; exact At_sN t_220 hq_64
  have t_224 : At S_74 q_48 134 := tAt_sR eS_74 t_223
  have t_222 : pN S_81 q_48 = 48 := by rw [eS_81]; exact (pN_sN_ne (ne_of_new hq_80 t_224.1)).trans t_221
  clear t_221
  have t_225 : pN S_90 q_48 = 48 := tN_sR eS_90 t_222
  clear t_222
  have t_226 : pR S_81 605 x = some q_64 := by rw [eS_81, pR_sN]; exact h_79
  have t_227 : pR S_90 605 x = some q_64 := tR_sR eS_90 rfl t_226
  have t_228 : At S_74 q_64 134 := tAt_sR eS_74 ha_70
  have t_229 : At S_81 q_64 134 := by rw [eS_81]; exact At_sN t_228 hq_80
  have t_230 : At S_90 q_64 134 := tAt_sR eS_90 t_229
  have t_231 : pN S_74 q_64 = 48 := tN_sR eS_74 hn_71
  clear hn_71
  have t_233 : At S_74 q_64 134 := tAt_sR eS_74 ha_70
  have t_232 : pN S_81 q_64 = 48 := by rw [eS_81]; exact (pN_sN_ne (ne_of_new hq_80 t_233.1)).trans t_231
  clear t_231
  have t_234 : pN S_90 q_64 = 48 := tN_sR eS_90 t_232
  clear t_232
  have t_235 : At S_90 q_80 134 := tAt_sR eS_90 ha_86
  have t_236 : pN S_90 q_80 = 48 := tN_sR eS_90 hn_87
  clear hn_87
  obtain ⟨S_237, eS_237⟩ : ∃ T, T = sK S_90 x 6 := ⟨_, rfl⟩
  have hw := Wd_sK (k := 6) hw t_96 rfl; rw [← eS_237] at hw
  have hg9 : GX S_237 := by rw [eS_237]; exact GX_sK hg_94 t_96 (by decide +kernel) (mk_6 (by rw [pI_sK, t_109]; exact ⟨by rw [ti_0]; omega, by rw [ti_0]; omega⟩) ⟨q_1, (by rw [pR_sK]; exact t_119), At_sK t_96 t_130 (by decide), by rw [pN_sK]; exact t_150⟩ ⟨q_16, (by rw [pR_sK]; exact t_158), At_sK t_96 t_167 (by decide), by rw [pN_sK]; exact t_183⟩ ⟨q_32, (by rw [pR_sK]; exact t_189), At_sK t_96 t_196 (by decide), by rw [pN_sK]; exact t_208⟩ ⟨q_48, (by rw [pR_sK]; exact t_212), At_sK t_96 t_217 (by decide), by rw [pN_sK]; exact t_225⟩ ⟨q_64, (by rw [pR_sK]; exact t_227), At_sK t_96 t_230 (by decide), by rw [pN_sK]; exact t_234⟩ ⟨q_80, (by rw [pR_sK]; exact h_95), At_sK t_96 t_235 (by decide), by rw [pN_sK]; exact t_236⟩)
  have ha9 : At S_237 x 6 := by rw [eS_237]; exact At_nK t_96
  have hk9 : Kq S S_237 x := hK_93.sK eS_237
  have hPhc9 : Phc S_237 = Phc S + 0 := by rw [show Phc S_237 = Ph fC 8 14400 S_237 from rfl, Ph_sK nd_97 t_96 (by decide) eS_237, ph_0 ha9 (by decide)]; show Phc S_90 + _ = _; omega
  have hPhs9 : Phs S_237 = Phs S + 0 := by rw [show Phs S_237 = Ph fS 15100 46000 S_237 from rfl, Ph_sK nd_97 t_96 (by decide) eS_237, ph_0 ha9 (by decide)]; show Phs S_90 + _ = _; omega
  have rn_238 : ∀ g, g ∈ ruG → ∀ a, pR S_237 g x = some a → a ∉ pL S := by
    intro g hg a ha
    simp only [ruG, List.mem_cons, List.not_mem_nil, or_false] at hg
    rcases hg with e | e | e | e | e | e <;> subst e
    · rw [eS_237, pR_sK, t_119] at ha; cases ha; exact hn0_q_1
    · rw [eS_237, pR_sK, t_158] at ha; cases ha; exact hn0_q_16
    · rw [eS_237, pR_sK, t_189] at ha; cases ha; exact hn0_q_32
    · rw [eS_237, pR_sK, t_212] at ha; cases ha; exact hn0_q_48
    · rw [eS_237, pR_sK, t_227] at ha; cases ha; exact hn0_q_64
    · rw [eS_237, pR_sK, h_95] at ha; cases ha; exact hn0_q_80
  exact ret_v X hw hr hlocks (Nat.le_of_ble_eq_true rfl) (Nat.le_of_ble_eq_true rfl) ⟨hk9, hg9, ha9, hPhc9, hPhs9, (by rw [eS_237, pI_sK]; exact t_109), ⟨⟨q_1, q_16, q_48, q_64, q_80, ⟨(by rw [eS_237, pR_sK]; exact t_119), (by rw [eS_237, pR_sK]; exact t_158), (by rw [eS_237, pR_sK]; exact t_212), (by rw [eS_237, pR_sK]; exact t_227), (by rw [eS_237, pR_sK]; exact h_95)⟩, (ne_of_new hq_16 t_133.1), (ne_of_new hq_48 t_141.1), (ne_of_new hq_64 t_145.1), (ne_of_new hq_80 t_149.1), (ne_of_new hq_48 t_174.1), (ne_of_new hq_64 t_178.1), (ne_of_new hq_80 t_182.1), (ne_of_new hq_64 t_220.1), (ne_of_new hq_80 t_224.1), (ne_of_new hq_80 t_233.1)⟩, rn_238⟩⟩ dX6_init_52
