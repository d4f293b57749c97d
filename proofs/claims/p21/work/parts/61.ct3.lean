/-! ===== what is made: the shelf, a pot's rows ===== -/
def ShI (T : PS) (sh : Nat) (n : Int) : Prop := (∀ k : Nat, (k : Int) < n → ∃ P w, pB T sh k = some P ∧ At T P 3 ∧ pI T 300 P = -1 ∧ pR T 302 P = some w ∧ w ∈ pL T) ∧ (∀ k k' : Nat, (k : Int) < n → (k' : Int) < n → k ≠ k' → pB T sh k ≠ pB T sh k') ∧ ∀ (k k' : Nat) (P P' : Nat), (k : Int) < n → (k' : Int) < n → k ≠ k' → pB T sh k = some P → pB T sh k' = some P' → pR T 302 P ≠ pR T 302 P'
theorem ShI_0 {T : PS} {sh : Nat} : ShI T sh 0 := ⟨fun k h => absurd h (by omega), fun k k' h => absurd h (by omega), fun k k' _ _ h => absurd h (by omega)⟩
theorem ShI_step {T T1 T2 T3 : PS} {sh q wn ix kr : Nat} {n : Int} (h : ShI T sh n) (hq : q ∉ pL T) (e1 : T1 = sO T q kr) (hK : Kq T1 T2 q) (e3 : T3 = sB T2 sh (va_up (pB T2 sh) ix (some q))) (hs : sh ∈ pL T) (hix : (ix : Int) = n) (ha : At T2 q 3) (hk : pI T2 300 q = -1) (hw : pR T2 302 q = some wn) (hwn : wn ∉ pL T1) (hwl : wn ∈ pL T2) : ShI T3 sh (n + 1) := by
  have hI : ∀ a ∈ pL T, pK T2 a = pK T a ∧ (∀ g, pI T2 g a = pI T g a) ∧ pB T2 a = pB T a ∧ a ∈ pL T2 ∧ (∀ g, pR T2 g a = pR T g a) := fun a h => by
    have hne := ne_of_new hq h
    have h1 : a ∈ pL T1 := by rw [e1]; exact List.mem_append_left _ h
    have k := (hK a h1).2 hne
    exact ⟨k.1.trans (by rw [e1]; exact if_neg hne), fun g => (k.2.1 g).trans (by rw [e1]; exact pI_sO_ne hne), k.2.2.2.2.2.trans (by rw [e1]; rfl), (hK a h1).1, fun g => (k.2.2.1 g).trans (by rw [e1]; exact pR_sO_ne hne)⟩
  have eB : pB T3 sh = va_up (pB T sh) ix (some q) := by rw [e3, show pB (sB T2 sh (va_up (pB T2 sh) ix (some q))) sh = va_up (pB T2 sh) ix (some q) from if_pos rfl, (hI sh hs).2.2.1]
  have eI : ∀ g a, pI T3 g a = pI T2 g a := fun g a => by rw [e3]; rfl
  have eR : ∀ g a, pR T3 g a = pR T2 g a := fun g a => by rw [e3]; rfl
  have eL : pL T3 = pL T2 := by rw [e3]; rfl
  have hA : ∀ a k, At T2 a k → At T3 a k := fun a k z => by rw [e3]; exact At_sB z
  have old : ∀ k : Nat, (k : Int) < n → ∃ P w, pB T3 sh k = some P ∧ pB T sh k = some P ∧ P ∈ pL T ∧ w ∈ pL T ∧ At T3 P 3 ∧ pI T3 300 P = -1 ∧ pR T3 302 P = some w ∧ pR T 302 P = some w := fun k hk2 => by
    obtain ⟨P, w, p1, p2, p3, p4, p5⟩ := h.1 k hk2
    have z := hI P p2.1
    exact ⟨P, w, by rw [eB]; unfold va_up; rw [if_neg (by omega)]; exact p1, p1, p2.1, p5, hA _ _ ⟨z.2.2.2.1, z.1.trans p2.2⟩, (eI _ _).trans ((z.2.1 _).trans p3), (eR _ _).trans ((z.2.2.2.2 _).trans p4), p4⟩
  have new : pB T3 sh ix = some q := by rw [eB]; unfold va_up; rw [if_pos rfl]
  have hwT : wn ∉ pL T := fun z => hwn (by rw [e1]; exact List.mem_append_left _ z)
  refine ⟨fun k hk2 => ?_, fun k k' h1 h2 h3 => ?_, fun k k' P P' h1 h2 h3 h5 h6 => ?_⟩
  · by_cases e : (k : Int) = n
    · rw [show k = ix by omega]; exact ⟨q, wn, new, hA _ _ ha, (eI _ _).trans hk, (eR _ _).trans hw, by rw [eL]; exact hwl⟩
    · obtain ⟨P, w, p1, -, -, p4, p5, p6, p7, -⟩ := old k (by omega); exact ⟨P, w, p1, p5, p6, p7, by rw [eL]; exact (hI w p4).2.2.2.1⟩
  · by_cases e : (k : Int) = n
    · obtain ⟨P, w, p1, -, p2, -⟩ := old k' (by omega)
      rw [show k = ix by omega, new, p1]
      exact fun z => ne_of_new hq p2 (Option.some.inj z).symm
    · obtain ⟨P, w, p1, p0, p2, -⟩ := old k (by omega)
      by_cases e' : (k' : Int) = n
      · rw [show k' = ix by omega, new, p1]
        exact fun z => ne_of_new hq p2 (Option.some.inj z)
      · obtain ⟨P', w', q1, q0, q2, -⟩ := old k' (by omega)
        have z := h.2.1 k k' (by omega) (by omega) h3
        rw [p0, q0] at z
        rw [p1, q1]; exact z
  · by_cases e : (k : Int) = n
    · obtain ⟨P2, w, p1, -, -, p4, -, -, p7, -⟩ := old k' (by omega)
      rw [show k = ix by omega, new] at h5
      rw [p1] at h6
      cases h5; cases h6
      rw [eR, hw, p7]
      exact fun z => hwT (by rw [Option.some.inj z]; exact p4)
    · obtain ⟨P2, w, p1, p0, -, p4, -, -, p7, p8⟩ := old k (by omega)
      rw [p1] at h5
      cases h5
      by_cases e' : (k' : Int) = n
      · rw [show k' = ix by omega, new] at h6
        cases h6
        rw [p7, eR, hw]
        exact fun z => hwT (by rw [← Option.some.inj z]; exact p4)
      · obtain ⟨P3, w', q1, q0, -, -, -, -, q7, q8⟩ := old k' (by omega)
        rw [q1] at h6
        cases h6
        have z := h.2.2 k k' _ _ (by omega) (by omega) h3 p0 q0
        rw [p8, q8] at z
        rw [p7, q7]; exact z
theorem ShI_to {T U : PS} {sh : Nat} {n : Int} (h : ShI T sh n) (hB : pB U sh = pB T sh) (hU : ∀ a, At T a 3 → At U a 3 ∧ pI U 300 a = pI T 300 a ∧ pR U 302 a = pR T 302 a) (hL : ∀ a ∈ pL T, a ∈ pL U) : ShI U sh n := ⟨fun k hk => by
  obtain ⟨P, w, p1, p2, p3, p4, p5⟩ := h.1 k hk
  exact ⟨P, w, by rw [hB]; exact p1, (hU P p2).1, (hU P p2).2.1.trans p3, (hU P p2).2.2.trans p4, hL _ p5⟩, fun k k' h1 h2 h3 => by rw [hB]; exact h.2.1 k k' h1 h2 h3, fun k k' P P' h1 h2 h3 h5 h6 => by
  rw [hB] at h5 h6
  obtain ⟨P2, w, p1, p2, -⟩ := h.1 k h1
  obtain ⟨P3, w', q1, q2, -⟩ := h.1 k' h2
  rw [h5] at p1; cases p1
  rw [h6] at q1; cases q1
  rw [(hU _ p2).2.2, (hU _ q2).2.2]
  exact h.2.2 k k' _ _ h1 h2 h3 h5 h6⟩
theorem ShI_sK {T : PS} {q k k0 sh : Nat} {n : Int} (hq : At T q k0) (hne : 3 ≠ k0) (h : ShI T sh n) : ShI (sK T q k) sh n := ShI_to h rfl (fun _ ha => ⟨At_sK hq ha hne, rfl, rfl⟩) (fun _ z => z)
def RowE (S : PS) (P g : Nat) : Prop := ∃ R q, pR S g P = some R ∧ At S R 5 ∧ pR S 501 R = some q ∧ At S q 16 ∧ pB S q = fun _ => none
theorem RowE_fr {M : List Nat} {S T : PS} {P g : Nat} (hF : Fr M S T) (hP : At S P 4) (h1 : M.contains g = false) (h2 : M.contains 501 = false) (h3 : M.contains 10016 = false) (h : RowE S P g) : RowE T P g := by
  obtain ⟨R, q, a1, a2, a3, a4, a5⟩ := h
  exact ⟨R, q, hF.R' h1 hP a1, hF.at a2, hF.R' h2 a2 a3, hF.at a4, (hF.B' (k := 16) h3 a4).trans a5⟩
theorem ePT_fr {S T U : PS} {q n x : Nat} {c : Option Nat} {v : Int32} (hq : At S q 18) (e1 : T = sB S q (va_up (pB S q) n c)) (e2 : U = sI T 1104 x v) : Fr ePT S U := (show Fr ePT S T by rw [e1]; exact Fr_sB hq (by decide)).trans (show Fr ePT T U by rw [e2]; exact Fr_sI (by decide))

set_option maxHeartbeats 4000000 in
set_option maxRecDepth 100000 in
theorem k_X3_init3 (l : Launch) (G : va_G) (cy : Nat → ClassId) (κ : Nat → Nat) (S : PS) (sz : Nat) (x : Nat) (hG : GX S) (ha_x : At S x 183) (hzI : ∀ g, pI S g x = 0) (hzR : ∀ g, pR S g x = none) : Cv l yX3_init wsX3_init ({ frames := 2, cells := 1, slots := 8, locals := 96 }) G cy κ S sz [.ref x] (fun (S9 : PS) => Kq S S9 x ∧ GX S9 ∧ At S9 x 3 ∧ Phc S9 = Phc S + 0 ∧ Phs S9 = Phs S + 0 ∧ pI S9 300 x = -1 ∧ ∃ w, pR S9 302 x = some w ∧ w ∉ pL S ∧ w ∈ pL S9) := by
  refine ent_m (cc := cX3_init) (maxL := 1) (ret := none) (by decide) rfl (Nat.le_of_ble_eq_true rfl) ?_
  intro p e s m below meth c ls X hr hlocks hin hw hl hsz
  subst hsz
  have X : Cx p c cX3_init 1 s [.ref x].toArray wsX3_init RX3 m G cy κ (AS S s.heap.size) := X
  have hl : lv_has ls 1 [(0, .ref x)] := hl
  have hpc0 : Phc S = Phc S + 0 := rfl
  have hps0 : Phs S = Phs S + 0 := rfl
  have hK : Kq S S x := Kq.rf S _
  refine lv_aload_n X.1 X.2.1 dX3_init_0 rfl (lv_at hl 0 rfl) ?_
  refine W.objInit X.1 X.2.1 X.2.2.2.2.1 (X.2.2.2.1 (.methodLink RX3 3 objectInit) (by decide +kernel)) (X.2.2.2.1 (.instanceMethod objectInit) (by decide +kernel)) (X.2.2.2.1 (.code objectInit ⟨#[0xb1]⟩ 1 none) (by decide +kernel)) rfl (hl.1.trans X.2.2.1.symm) rfl dX3_init_1 (Nat.le_of_ble_eq_true rfl) (Nat.le_of_ble_eq_true rfl) ?_
  refine W.eq (g2 := F0 m 4 ls ([])) rfl ?_
  refine lv_aload_n X.1 X.2.1 dX3_init_4 rfl (lv_at hl 0 rfl) ?_
  refine lv_iconst (v := (-1)) X.1 X.2.1 dX3_init_5 (by decide) ?_
  refine r_putI (v := (-1)) X hw ha_x rfl 0 300 tyX3 (by decide) rfl inn_X3_init_3 tyX3_ok nmX3 (by decide) (X.2.2.2.1 (.fieldLink RX3 9 "SilkMill$Place" "kind" "I") (by decide +kernel)) rfl (Or.inl rfl) rfl rfl (Nat.le_of_ble_eq_true rfl) (st_300 _ _) dX3_init_6 (fun H locs hw => ?_)
  obtain ⟨S_1, eS_1⟩ : ∃ T, T = sI S 300 x ((-1)) := ⟨_, rfl⟩
  rw [← eS_1] at hw
  have ph_2 : Phc S_1 = Phc S + 0 := (show Phc S_1 = Phc S from Ph_rawI ha_x (by decide) eS_1).trans hpc0
  have ph_3 : Phs S_1 = Phs S + 0 := (show Phs S_1 = Phs S from Ph_rawI ha_x (by decide) eS_1).trans hps0
  clear hpc0
  clear hps0
  have hK_4 : Kq S S_1 x := hK.sI eS_1
  have hg_5 : GX S_1 := by rw [eS_1]; exact GX_rawI hG ha_x (by decide +kernel)
  have h_6 : pI S_1 300 x = (-1) := tI_sIs eS_1
  refine lv_aload_n X.1 X.2.1 dX3_init_9 rfl (lv_at hl 0 rfl) ?_
  refine lv_bipush (v := 8) X.1 X.2.1 dX3_init_10 (by decide) ?_
  refine r_newI (N := 8) X hw 114 8 1 rfl (X.2.2.2.1 (.arrayClass .int) (by decide +kernel)) (z_nn ti_8 (by omega)) (by decide) (by decide) (Nat.le_of_ble_eq_true rfl) (Nat.le_of_ble_eq_true rfl) (Nat.le_of_ble_eq_true rfl) (Nat.le_of_ble_eq_true rfl) dX3_init_12 (fun q_7 H hq_7 hw => ?_)
  obtain ⟨S_8, eS_8⟩ : ∃ T, T = sN S_1 q_7 114 8 := ⟨_, rfl⟩
  rw [← eS_8] at hw
  have ph_9 : Phc S_8 = Phc S + 0 := (show Phc S_8 = Phc S_1 from Ph_sN' hg_5.ci hq_7 eS_8 (by decide)).trans ph_2
  have ph_10 : Phs S_8 = Phs S + 0 := (show Phs S_8 = Phs S_1 from Ph_sN' hg_5.ci hq_7 eS_8 (by decide)).trans ph_3
  clear ph_2
  clear ph_3
  have hK_11 : Kq S S_8 x := hK_4.sN hq_7 eS_8
  have hg_12 : GX S_8 := by rw [eS_8]; exact GX_N hg_5 hq_7 (by decide +kernel)
  have hn0_q_7 := hK_4.new hq_7
  have ha_13 : At S_8 q_7 114 := by rw [eS_8]; exact At_nN _ _ _ _
  have hn_14 : pN S_8 q_7 = 8 := by rw [eS_8]; exact pN_sN_new
  have t_15 : At S_1 x 183 := tAt_sI eS_1 ha_x
  have t_16 : At S_8 x 183 := by rw [eS_8]; exact At_sN t_15 hq_7
  refine r_putR X hw t_16 rfl 2 302 (some q_7) rfl tyX3 (by decide) rfl inn_X3_init_3 tyX3_ok nmX3 (by decide) (X.2.2.2.1 (.fieldLink RX3 15 "SilkMill$Place" "word" "[I") (by decide +kernel)) rfl (Or.inr ⟨rfl, hin, rfl⟩) (fun _ => rfl) rfl (fun _ => rfl) rfl (Nat.le_of_ble_eq_true rfl) (st_302 _ _) dX3_init_14 (fun H locs hw => ?_)
  obtain ⟨S_17, eS_17⟩ : ∃ T, T = sR S_8 302 x (some q_7) := ⟨_, rfl⟩
  rw [← eS_17] at hw
  have ph_18 : Phc S_17 = Phc S + 0 := (show Phc S_17 = Phc S_8 from Ph_rawR t_16 (by decide) eS_17).trans ph_9
  have ph_19 : Phs S_17 = Phs S + 0 := (show Phs S_17 = Phs S_8 from Ph_rawR t_16 (by decide) eS_17).trans ph_10
  clear ph_9
  clear ph_10
  have hK_20 : Kq S S_17 x := hK_11.sR eS_17
  have hg_21 : GX S_17 := by rw [eS_17]; exact GX_rawR hg_12 t_16 (by decide +kernel)
  have h_22 : pR S_17 302 x = some q_7 := tR_sRs eS_17
  have t_23 : At S_17 x 183 := tAt_sR eS_17 t_16
  have nd_24 := nodup_of hw
  have t_25 : At S_17 q_7 114 := tAt_sR eS_17 ha_13
  have t_26 : pN S_17 q_7 = 8 := tN_sR eS_17 hn_14
  clear hn_14
  have t_27 : pI S_1 301 x = 0 := tI_sI eS_1 rfl (hzI 301)
  have t_28 : pI S_8 301 x = 0 := by rw [eS_8, pI_sN]; exact t_27
  have t_29 : pI S_17 301 x = 0 := tI_sR eS_17 t_28
  have t_30 : pR S_1 303 x = none := tR_sI eS_1 (hzR 303)
  have t_31 : pR S_8 303 x = none := by rw [eS_8, pR_sN]; exact t_30
  have t_32 : pR S_17 303 x = none := tR_sR eS_17 rfl t_31
  obtain ⟨S_33, eS_33⟩ : ∃ T, T = sK S_17 x 3 := ⟨_, rfl⟩
  have hw := Wd_sK (k := 3) hw t_23 rfl; rw [← eS_33] at hw
  have hg9 : GX S_33 := by rw [eS_33]; exact GX_sK hg_21 t_23 (by decide +kernel) (mk_3 ⟨q_7, (by rw [pR_sK]; exact h_22), At_sK t_23 t_25 (by decide), by rw [pN_sK]; exact t_26⟩ (by rw [pI_sK, t_29]; exact ⟨by rw [ti_0]; omega, by rw [ti_0]; omega⟩) (fun c hc => by rw [pR_sK, t_32] at hc; cases hc))
  have ha9 : At S_33 x 3 := by rw [eS_33]; exact At_nK t_23
  have hk9 : Kq S S_33 x := hK_20.sK eS_33
  have hPhc9 : Phc S_33 = Phc S + 0 := by rw [show Phc S_33 = Ph fC 8 14400 S_33 from rfl, Ph_sK nd_24 t_23 (by decide) eS_33, ph_0 ha9 (by decide)]; show Phc S_17 + _ = _; omega
  have hPhs9 : Phs S_33 = Phs S + 0 := by rw [show Phs S_33 = Ph fS 15100 46000 S_33 from rfl, Ph_sK nd_24 t_23 (by decide) eS_33, ph_0 ha9 (by decide)]; show Phs S_17 + _ = _; omega
  have t_34 : pI S_8 300 x = (-1) := by rw [eS_8, pI_sN]; exact h_6
  have t_35 : pI S_17 300 x = (-1) := tI_sR eS_17 t_34
  exact ret_v X hw hr hlocks (Nat.le_of_ble_eq_true rfl) (Nat.le_of_ble_eq_true rfl) ⟨hk9, hg9, ha9, hPhc9, hPhs9, (by rw [eS_33, pI_sK]; exact t_35), ⟨q_7, by rw [eS_33, pR_sK]; exact h_22, hn0_q_7, by rw [eS_33]; exact t_25.1⟩⟩ dX3_init_17
