/-! ===== what is made: the shelf, a pot's rows ===== -/
def ShI (T : PS) (sh : Nat) (n : Int) : Prop := (∀ k : Nat, (k : Int) < n → ∃ P w, pB T sh k = some P ∧ At T P 3 ∧ pI T 300 P = -1 ∧ pR T 302 P = some w ∧ w ∈ pL T) ∧ (∀ k k' : Nat, (k : Int) < n → (k' : Int) < n → k ≠ k' → pB T sh k ≠ pB T sh k') ∧ ∀ (k k' : Nat) (P P' : Nat), (k : Int) < n → (k' : Int) < n → k ≠ k' → pB T sh k = some P → pB T sh k' = some P' → pR T 302 P ≠ pR T 302 P'
theorem ShI_0 {T : PS} {sh : Nat} : ShI T sh 0 := ⟨fun k h => absurd h (by omega), fun k k' h => absurd h (by omega), fun k k' _ _ h => absurd h (by omega)⟩
theorem ShI_step {T T1 T2 T3 : PS} {sh q wn ix kr : Nat} {n : Int} (h : ShI T sh n) (hq : q ∉ pL T) (e1 : T1 = sO T q kr) (hK : Kq T1 T2 q) (e3 : T3 = sB T2 sh (va_up (pB T2 sh) ix (some q))) (hs : sh ∈ pL T) (hix : (ix : Int) = n) (ha : At T2 q 3) (hk : pI T2 300 q = -1) (hw : pR T2 302 q = some wn) (hwn : wn ∉ pL T1) (hwl : wn ∈ pL T2) : ShI T3 sh (n + 1) := by
  have hI : ∀ a ∈ pL T, pK T2 a = pK T a ∧ (∀ g, pI T2 g a = pI T g a) ∧ pB T2 a = pB T a ∧ a ∈ pL T2 ∧ (∀ g, pR T2 g a = pR T g a) := fun a h => by
    have hne := ne_of_new hq h
    have h1 : a ∈ pL T1 := by rw [e1]; exact List.mem_append_left _ h
    have k := (hK a h1).2 hne
    exact ⟨k.1.trans (by rw [e1]; exact if_neg hne), fun g => (k.2.1 g).trans (by rw [e1]; exact pI_sO_ne hne), k.2.2.2.2.2.trans (by rw [e1]; rfl), (hK a h1).1, fun g => (k.2.2.1 g).trans (by rw [e1]; exact pR_sO_ne hne)⟩
  have eB : pB T3 sh = va_up (pB T sh) ix (some q) := by rw [e3, show pB (sB T2 sh (va_up (pB T2 sh) ix (some q))) sh = va_up (pB T2 sh) ix (some q) from if_pos rfl, (hI sh hs).2.2.1]
  have eI : ∀ g a, pI T3 g a = pI T2 g a := fun g a => by rw [e3]; rfl
  have eR : ∀ g a, pR T3 g a = pR T2 g a := fun g a => by rw [e3]; rfl
  have eL : pL T3 = pL T2 := by rw [e3]; rfl
  have hA : ∀ a k, At T2 a k → At T3 a k := fun a k z => by rw [e3]; exact At_sB z
  have old : ∀ k : Nat, (k : Int) < n → ∃ P w, pB T3 sh k = some P ∧ pB T sh k = some P ∧ P ∈ pL T ∧ w ∈ pL T ∧ At T3 P 3 ∧ pI T3 300 P = -1 ∧ pR T3 302 P = some w ∧ pR T 302 P = some w := fun k hk2 => by
    obtain ⟨P, w, p1, p2, p3, p4, p5⟩ := h.1 k hk2
    have z := hI P p2.1
    exact ⟨P, w, by rw [eB]; unfold va_up; rw [if_neg (by omega)]; exact p1, p1, p2.1, p5, hA _ _ ⟨z.2.2.2.1, z.1.trans p2.2⟩, (eI _ _).trans ((z.2.1 _).trans p3), (eR _ _).trans ((z.2.2.2.2 _).trans p4), p4⟩
  have new : pB T3 sh ix = some q := by rw [eB]; unfold va_up; rw [if_pos rfl]
  have hwT : wn ∉ pL T := fun z => hwn (by rw [e1]; exact List.mem_append_left _ z)
  refine ⟨fun k hk2 => ?_, fun k k' h1 h2 h3 => ?_, fun k k' P P' h1 h2 h3 h5 h6 => ?_⟩
  · by_cases e : (k : Int) = n
    · rw [show k = ix by omega]; exact ⟨q, wn, new, hA _ _ ha, (eI _ _).trans hk, (eR _ _).trans hw, by rw [eL]; exact hwl⟩
    · obtain ⟨P, w, p1, -, -, p4, p5, p6, p7, -⟩ := old k (by omega); exact ⟨P, w, p1, p5, p6, p7, by rw [eL]; exact (hI w p4).2.2.2.1⟩
  · by_cases e : (k : Int) = n
    · obtain ⟨P, w, p1, -, p2, -⟩ := old k' (by omega)
      rw [show k = ix by omega, new, p1]
      exact fun z => ne_of_new hq p2 (Option.some.inj z).symm
    · obtain ⟨P, w, p1, p0, p2, -⟩ := old k (by omega)
      by_cases e' : (k' : Int) = n
      · rw [show k' = ix by omega, new, p1]
        exact fun z => ne_of_new hq p2 (Option.some.inj z)
      · obtain ⟨P', w', q1, q0, q2, -⟩ := old k' (by omega)
        have z := h.2.1 k k' (by omega) (by omega) h3
        rw [p0, q0] at z
        rw [p1, q1]; exact z
  · by_cases e : (k : Int) = n
    · obtain ⟨P2, w, p1, -, -, p4, -, -, p7, -⟩ := old k' (by omega)
      rw [show k = ix by omega, new] at h5
      rw [p1] at h6
      cases h5; cases h6
      rw [eR, hw, p7]
      exact fun z => hwT (by rw [Option.some.inj z]; exact p4)
    · obtain ⟨P2, w, p1, p0, -, p4, -, -, p7, p8⟩ := old k (by omega)
      rw [p1] at h5
      cases h5
      by_cases e' : (k' : Int) = n
      · rw [show k' = ix by omega, new] at h6
        cases h6
        rw [p7, eR, hw]
        exact fun z => hwT (by rw [← Option.some.inj z]; exact p4)
      · obtain ⟨P3, w', q1, q0, -, -, -, -, q7, q8⟩ := old k' (by omega)
        rw [q1] at h6
        cases h6
        have z := h.2.2 k k' _ _ (by omega) (by omega) h3 p0 q0
        rw [p8, q8] at z
        rw [p7, q7]; exact z
theorem ShI_to {T U : PS} {sh : Nat} {n : Int} (h : ShI T sh n) (hB : pB U sh = pB T sh) (hU : ∀ a, At T a 3 → At U a 3 ∧ pI U 300 a = pI T 300 a ∧ pR U 302 a = pR T 302 a) (hL : ∀ a ∈ pL T, a ∈ pL U) : ShI U sh n := ⟨fun k hk => by
  obtain ⟨P, w, p1, p2, p3, p4, p5⟩ := h.1 k hk
  exact ⟨P, w, by rw [hB]; exact p1, (hU P p2).1, (hU P p2).2.1.trans p3, (hU P p2).2.2.trans p4, hL _ p5⟩, fun k k' h1 h2 h3 => by rw [hB]; exact h.2.1 k k' h1 h2 h3, fun k k' P P' h1 h2 h3 h5 h6 => by
  rw [hB] at h5 h6
  obtain ⟨P2, w, p1, p2, -⟩ := h.1 k h1
  obtain ⟨P3, w', q1, q2, -⟩ := h.1 k' h2
  rw [h5] at p1; cases p1
  rw [h6] at q1; cases q1
  rw [(hU _ p2).2.2, (hU _ q2).2.2]
  exact h.2.2 k k' _ _ h1 h2 h3 h5 h6⟩
theorem ShI_sK {T : PS} {q k k0 sh : Nat} {n : Int} (hq : At T q k0) (hne : 3 ≠ k0) (h : ShI T sh n) : ShI (sK T q k) sh n := ShI_to h rfl (fun _ ha => ⟨At_sK hq ha hne, rfl, rfl⟩) (fun _ z => z)
def RowE (S : PS) (P g : Nat) : Prop := ∃ R q, pR S g P = some R ∧ At S R 5 ∧ pR S 501 R = some q ∧ At S q 16 ∧ pB S q = fun _ => none
theorem RowE_fr {M : List Nat} {S T : PS} {P g : Nat} (hF : Fr M S T) (hP : At S P 4) (h1 : M.contains g = false) (h2 : M.contains 501 = false) (h3 : M.contains 10016 = false) (h : RowE S P g) : RowE T P g := by
  obtain ⟨R, q, a1, a2, a3, a4, a5⟩ := h
  exact ⟨R, q, hF.R' h1 hP a1, hF.at a2, hF.R' h2 a2 a3, hF.at a4, (hF.B' (k := 16) h3 a4).trans a5⟩
theorem ePT_fr {S T U : PS} {q n x : Nat} {c : Option Nat} {v : Int32} (hq : At S q 18) (e1 : T = sB S q (va_up (pB S q) n c)) (e2 : U = sI T 1104 x v) : Fr ePT S U := (show Fr ePT S T by rw [e1]; exact Fr_sB hq (by decide)).trans (show Fr ePT T U by rw [e2]; exact Fr_sI (by decide))

set_option maxHeartbeats 4000000 in
set_option maxRecDepth 100000 in
theorem k_X3_init3 (l : Launch) (G : va_G) (cy : Nat → ClassId) (κ : Nat → Nat) (S : PS) (sz : Nat) (x : Nat) (hG : GX S) (ha_x : At S x 183) (hzI : ∀ g, pI S g x = 0) (hzR : ∀ g, pR S g x = none) : Cv l yX3_init wsX3_init ({ frames := 2, cells := 1, slots := 8, locals := 96 }) G cy κ S sz [.ref x] (fun (S9 : PS) => Kq S S9 x ∧ GX S9 ∧ At S9 x 3 ∧ Phc S9 = Phc S + 0 ∧ Phs S9 = Phs S + 0 ∧ pI S9 300 x = -1 ∧ ∃ w, pR S9 302 x = some w ∧ w ∉ pL S ∧ w ∈ pL S9) := by
  refine ent_m (cc := cX3_init) (maxL := 1) (ret := none) (by decide) rfl (Nat.le_of_ble_eq_true rfl) ?_
  intro p e s m below meth c ls X hr hlocks hin hw hl hsz
  subst hsz
  have X : Cx p c cX3_init 1 s [.ref x].toArray wsX3_init RX3 m G cy κ (AS S s.heap.size) := X
  have hl : lv_has ls 1 [(0, .ref x)] := hl
  have hpc0 : Phc S = Phc S + 0 := rfl
  have hps0 : Phs S = Phs S + 0 := rfl
  have hK : Kq S S x := Kq.rf S _
  refine lv_aload_n X.1 X.2.1 dX3_init_0 rfl (lv_at hl 0 rfl) ?_
  refine W.objInit X.1 X.2.1 X.2.2.2.2.1 (X.2.2.2.1 (.methodLink RX3 3 objectInit) (by decide +kernel)) (X.2.2.2.1 (.instanceMethod objectInit) (by decide +kernel)) (X.2.2.2.1 (.code objectInit ⟨#[0xb1]⟩ 1 none) (by decide +kernel)) rfl (hl.1.trans X.2.2.1.symm) rfl dX3_init_1 (Nat.le_of_ble_eq_true rfl) (Nat.le_of_ble_eq_true rfl) ?_
  refine W.eq (g2 := F0 m 4 ls ([])) rfl ?_
  refine lv_aload_n X.1 X.2.1 dX3_init_4 rfl (lv_at hl 0 rfl) ?_
  refine lv_iconst (v := (-1)) X.1 X.2.1 dX3_init_5 (by decide) ?_
  refine r_putI (v := (-1)) X hw ha_x rfl 0 300 tyX3 (by decide) rfl inn_X3_init_3 tyX3_ok nmX3 (by decide) (X.2.2.2.1 (.fieldLink RX3 9 "SilkMill$Place" "kind" "I") (by decide +kernel)) rfl (Or.inl rfl) rfl rfl (Nat.le_of_ble_eq_true rfl) (st_300 _ _) dX3_init_6 (fun H locs hw => ?_)
  obtain ⟨S_1, eS_1⟩ : ∃ T, T = sI S 300 x ((-1)) := ⟨_, rfl⟩
  rw [← eS_1] at hw
  have ph_2 : Phc S_1 = Phc S + 0 := (show Phc S_1 = Phc S from Ph_rawI ha_x (by decide) eS_1).trans hpc0
  have ph_3 : Phs S_1 = Phs S + 0 := (show Phs S_1 = Phs S from Ph_rawI ha_x (by decide) eS_1).trans hps0
  clear hpc0
  clear hps0
  have hK_4 : Kq S S_1 x := hK.sI eS_1
  have hg_5 : GX S_1 := by rw [eS_1]; exact GX_rawI hG ha_x (by decide +kernel)
  have h_6 : pI S_1 300 x = (-1) := tI_sIs eS_1
  refine lv_aload_n X.1 X.2.1 dX3_init_9 rfl (lv_at hl 0 rfl) ?_
  refine lv_bipush (v := 8) X.1 X.2.1 dX3_init_10 (by decide) ?_
  refine r_newI (N := 8) X hw 114 8 1 rfl (X.2.2.2.1 (.arrayClass .int) (by decide +kernel)) (z_nn ti_8 (by omega)) (by decide) (by decide) (Nat.le_of_ble_eq_true rfl) (Nat.le_of_ble_eq_true rfl) (Nat.le_of_ble_eq_true rfl) (Nat.le_of_ble_eq_true rfl) dX3_init_12 (fun q_7 H hq_7 hw => ?_)
  obtain ⟨S_8, eS_8⟩ : ∃ T, T = sN S_1 q_7 114 8 := ⟨_, rfl⟩
  rw [← eS_8] at hw
  have ph_9 : Phc S_8 = Phc S + 0 := (show Phc S_8 = Phc S_1 from Ph_sN' hg_5.ci hq_7 eS_8 (by decide)).trans ph_2
  have ph_10 : Phs S_8 = Phs S + 0 := (show Phs S_8 = Phs S_1 from Ph_sN' hg_5.ci hq_7 eS_8 (by decide)).trans ph_3
  clear ph_2
  clear ph_3
  have hK_11 : Kq S S_8 x := hK_4.sN hq_7 eS_8
  have hg_12 : GX S_8 := by rw [eS_8]; exact GX_N hg_5 hq_7 (by decide +kernel)
  have hn0_q_7 := hK_4.new hq_7
  have ha_13 : At S_8 q_7 114 := by rw [eS_8]; exact At_nN _ _ _ _
  have hn_14 : pN S_8 q_7 = 8 := by rw [eS_8]; exact pN_sN_new
  have t_15 : At S_1 x 183 := tAt_sI eS_1 ha_x
  have t_16 : At S_8 x 183 := by rw [eS_8]; exact At_sN t_15 hq_7
  refine r_putR X hw t_16 rfl 2 302 (some q_7) rfl tyX3 (by decide) rfl inn_X3_init_3 tyX3_ok nmX3 (by decide) (X.2.2.2.1 (.fieldLink RX3 15 "SilkMill$Place" "word" "[I") (by decide +kernel)) rfl (Or.inr ⟨rfl, hin, rfl⟩) (fun _ => rfl) rfl (fun _ => rfl) rfl (Nat.le_of_ble_eq_true rfl) (st_302 _ _) dX3_init_14 (fun H locs hw => ?_)
  obtain ⟨S_17, eS_17⟩ : ∃ T, T = sR S_8 302 x (some q_7) := ⟨_, rfl⟩
  rw [← eS_17] at hw
  have ph_18 : Phc S_17 = Phc S + 0 := (show Phc S_17 = Phc S_8 from Ph_rawR t_16 (by decide) eS_17).trans ph_9
  have ph_19 : Phs S_17 = Phs S + 0 := (show Phs S_17 = Phs S_8 from Ph_rawR t_16 (by decide) eS_17).trans ph_10
  clear ph_9
  clear ph_10
  have hK_20 : Kq S S_17 x := hK_11.sR eS_17
  have hg_21 : GX S_17 := by rw [eS_17]; exact GX_rawR hg_12 t_16 (by decide +kernel)
  have h_22 : pR S_17 302 x = some q_7 := tR_sRs eS_17
  have t_23 : At S_17 x 183 := tAt_sR eS_17 t_16
  have nd_24 := nodup_of hw
  have t_25 : At S_17 q_7 114 := tAt_sR eS_17 ha_13
  have t_26 : pN S_17 q_7 = 8 := tN_sR eS_17 hn_14
  clear hn_14
  have t_27 : pI S_1 301 x = 0 := tI_sI eS_1 rfl (hzI 301)
  have t_28 : pI S_8 301 x = 0 := by rw [eS_8, pI_sN]; exact t_27
  have t_29 : pI S_17 301 x = 0 := tI_sR eS_17 t_28
  have t_30 : pR S_1 303 x = none := tR_sI eS_1 (hzR 303)
  have t_31 : pR S_8 303 x = none := by rw [eS_8, pR_sN]; exact t_30
  have t_32 : pR S_17 303 x = none := tR_sR eS_17 rfl t_31
  obtain ⟨S_33, eS_33⟩ : ∃ T, T = sK S_17 x 3 := ⟨_, rfl⟩
  have hw := Wd_sK (k := 3) hw t_23 rfl; rw [← eS_33] at hw
  have hg9 : GX S_33 := by rw [eS_33]; exact GX_sK hg_21 t_23 (by decide +kernel) (mk_3 ⟨q_7, (by rw [pR_sK]; exact h_22), At_sK t_23 t_25 (by decide), by rw [pN_sK]; exact t_26⟩ (by rw [pI_sK, t_29]; exact ⟨by rw [ti_0]; omega, by rw [ti_0]; omega⟩) (fun c hc => by rw [pR_sK, t_32] at hc; cases hc))
  have ha9 : At S_33 x 3 := by rw [eS_33]; exact At_nK t_23
  have hk9 : Kq S S_33 x := hK_20.sK eS_33
  have hPhc9 : Phc S_33 = Phc S + 0 := by rw [show Phc S_33 = Ph fC 8 14400 S_33 from rfl, Ph_sK nd_24 t_23 (by decide) eS_33, ph_0 ha9 (by decide)]; show Phc S_17 + _ = _; omega
  have hPhs9 : Phs S_33 = Phs S + 0 := by rw [show Phs S_33 = Ph fS 15100 46000 S_33 from rfl, Ph_sK nd_24 t_23 (by decide) eS_33, ph_0 ha9 (by decide)]; show Phs S_17 + _ = _; omega
  have t_34 : pI S_8 300 x = (-1) := by rw [eS_8, pI_sN]; exact h_6
  have t_35 : pI S_17 300 x = (-1) := tI_sR eS_17 t_34
  exact ret_v X hw hr hlocks (Nat.le_of_ble_eq_true rfl) (Nat.le_of_ble_eq_true rfl) ⟨hk9, hg9, ha9, hPhc9, hPhs9, (by rw [eS_33, pI_sK]; exact t_35), ⟨q_7, by rw [eS_33, pR_sK]; exact h_22, hn0_q_7, by rw [eS_33]; exact t_25.1⟩⟩ dX3_init_17
set_option maxHeartbeats 4000000 in
set_option maxRecDepth 100000 in
theorem k_X11_init3 (l : Launch) (G : va_G) (cy : Nat → ClassId) (κ : Nat → Nat) (S : PS) (sz : Nat) (x : Nat) (hG : GX S) (ha_x : At S x 191) (hzI : ∀ g, pI S g x = 0) (hzR : ∀ g, pR S g x = none) : Cv l yX11_init wsX11_init ({ frames := 4, cells := 58, slots := 1728, locals := 192 }) G cy κ S sz [.ref x] (fun (S9 : PS) => Kq S S9 x ∧ GX S9 ∧ At S9 x 11 ∧ Phc S9 = Phc S + 57920 ∧ Phs S9 = Phs S + 788000 ∧ ∃ q, pR S9 1107 x = some q ∧ At S9 q 8 ∧ pI S9 801 q = 0 ∧ pI S9 1102 x = 0 ∧ pI S9 1104 x = 0 ∧ ∃ u, pR S9 1105 x = some u ∧ At S9 u 10 ∧ pI S9 1000 u = 0 ∧ ∃ sh, pR S9 1109 x = some sh ∧ ShI S9 sh 16) := by
  refine ent_m (cc := cX11_init) (maxL := 2) (ret := none) (by decide) rfl (Nat.le_of_ble_eq_true rfl) ?_
  intro p e s m below meth c ls X hr hlocks hin hw hl hsz
  subst hsz
  have X : Cx p c cX11_init 2 s [.ref x].toArray wsX11_init RX11 m G cy κ (AS S s.heap.size) := X
  have hl : lv_has ls 2 [(0, .ref x)] := hl
  have hpc0 : Phc S = Phc S + 0 := rfl
  have hps0 : Phs S = Phs S + 0 := rfl
  have hK : Kq S S x := Kq.rf S _
  generalize hQQ : MQ below _ _ _ _ _ _ = QQ
  replace hQQ := hQQ.symm
  refine lv_aload_n X.1 X.2.1 dX11_init_0 rfl (lv_at hl 0 rfl) ?_
  refine W.objInit X.1 X.2.1 X.2.2.2.2.1 (X.2.2.2.1 (.methodLink RX11 3 objectInit) (by decide +kernel)) (X.2.2.2.1 (.instanceMethod objectInit) (by decide +kernel)) (X.2.2.2.1 (.code objectInit ⟨#[0xb1]⟩ 1 none) (by decide +kernel)) rfl (hl.1.trans X.2.2.1.symm) rfl dX11_init_1 (Nat.le_of_ble_eq_true rfl) (Nat.le_of_ble_eq_true rfl) ?_
  refine W.eq (g2 := F0 m 4 ls ([])) rfl ?_
  refine lv_aload_n X.1 X.2.1 dX11_init_4 rfl (lv_at hl 0 rfl) ?_
  refine lv_sipush (v := 600) X.1 X.2.1 dX11_init_5 (by decide) ?_
  refine r_newQ (N := 600) (C := RX0) X hw 36 16 600 1 rfl (by decide) rfl (X.2.2.2.1 (.classLink RX11 9 RX0) (by decide +kernel)) X.2.2.2.2.2.2.2.1.1.1 (z_nn ti_600 (by omega)) (by decide) (by decide) (by show 0 + 1 ≤ 1; omega) (by show 0 + 600 ≤ 600; omega) (by show 1 ≤ 58; omega) (by show 600 ≤ 1728; omega) dX11_init_8 (fun q_1 H hq_1 hw => ?_)
  obtain ⟨S_2, eS_2⟩ : ∃ T, T = sN S q_1 36 600 := ⟨_, rfl⟩
  rw [← eS_2] at hw
  have ph_3 : Phc S_2 = Phc S + 0 := (show Phc S_2 = Phc S from Ph_sN' hG.ci hq_1 eS_2 (by decide)).trans hpc0
  have ph_4 : Phs S_2 = Phs S + 0 := (show Phs S_2 = Phs S from Ph_sN' hG.ci hq_1 eS_2 (by decide)).trans hps0
  clear hpc0
  clear hps0
  have hK_5 : Kq S S_2 x := hK.sN hq_1 eS_2
  have hg_6 : GX S_2 := by rw [eS_2]; exact GX_N hG hq_1 (by decide +kernel)
  have hn0_q_1 := hK.new hq_1
  have ha_7 : At S_2 q_1 36 := by rw [eS_2]; exact At_nN _ _ _ _
  have hn_8 : pN S_2 q_1 = 600 := by rw [eS_2]; exact pN_sN_new
  have t_9 : At S_2 x 191 := by rw [eS_2]; exact At_sN ha_x hq_1
  refine r_putR X hw t_9 rfl 0 1100 (some q_1) rfl tyX11 (by decide) rfl inn_X11_init_11 tyX11_ok nmX11 (by decide) (X.2.2.2.1 (.fieldLink RX11 11 "SilkMill" "cocoons" "[LSilkMill$Cocoon;") (by decide +kernel)) rfl (Or.inr ⟨rfl, hin, rfl⟩) (fun _ => rfl) rfl (fun _ => rfl) rfl (Nat.le_of_ble_eq_true rfl) (st_1100 _ _) dX11_init_11 (fun H locs hw => ?_)
  obtain ⟨S_10, eS_10⟩ : ∃ T, T = sR S_2 1100 x (some q_1) := ⟨_, rfl⟩
  rw [← eS_10] at hw
  have ph_11 : Phc S_10 = Phc S + 0 := (show Phc S_10 = Phc S_2 from Ph_rawR t_9 (by decide) eS_10).trans ph_3
  have ph_12 : Phs S_10 = Phs S + 0 := (show Phs S_10 = Phs S_2 from Ph_rawR t_9 (by decide) eS_10).trans ph_4
  clear ph_3
  clear ph_4
  have hK_13 : Kq S S_10 x := hK_5.sR eS_10
  have hg_14 : GX S_10 := by rw [eS_10]; exact GX_rawR hg_6 t_9 (by decide +kernel)
  have h_15 : pR S_10 1100 x = some q_1 := tR_sRs eS_10
  refine lv_aload_n X.1 X.2.1 dX11_init_14 rfl (lv_at hl 0 rfl) ?_
  refine lv_bipush (v := 10) X.1 X.2.1 dX11_init_15 (by decide) ?_
  refine r_newI (N := 10) X hw 54 610 2 rfl (X.2.2.2.1 (.arrayClass .int) (by decide +kernel)) (z_nn ti_10 (by omega)) (by decide) (by decide) (by show 1 + 1 ≤ 2; omega) (by show 600 + 10 ≤ 610; omega) (by show 2 ≤ 58; omega) (by show 610 ≤ 1728; omega) dX11_init_17 (fun q_16 H hq_16 hw => ?_)
  obtain ⟨S_17, eS_17⟩ : ∃ T, T = sN S_10 q_16 54 10 := ⟨_, rfl⟩
  rw [← eS_17] at hw
  have ph_18 : Phc S_17 = Phc S + 0 := (show Phc S_17 = Phc S_10 from Ph_sN' hg_14.ci hq_16 eS_17 (by decide)).trans ph_11
  have ph_19 : Phs S_17 = Phs S + 0 := (show Phs S_17 = Phs S_10 from Ph_sN' hg_14.ci hq_16 eS_17 (by decide)).trans ph_12
  clear ph_11
  clear ph_12
  have hK_20 : Kq S S_17 x := hK_13.sN hq_16 eS_17
  have hg_21 : GX S_17 := by rw [eS_17]; exact GX_N hg_14 hq_16 (by decide +kernel)
  have hn0_q_16 := hK_13.new hq_16
  have ha_22 : At S_17 q_16 54 := by rw [eS_17]; exact At_nN _ _ _ _
  have hn_23 : pN S_17 q_16 = 10 := by rw [eS_17]; exact pN_sN_new
  have t_24 : At S_10 x 191 := tAt_sR eS_10 t_9
  have t_25 : At S_17 x 191 := by rw [eS_17]; exact At_sN t_24 hq_16
  refine r_putR X hw t_25 rfl 1 1101 (some q_16) rfl tyX11 (by decide) rfl inn_X11_init_11 tyX11_ok nmX11 (by decide) (X.2.2.2.1 (.fieldLink RX11 15 "SilkMill" "lotSizes" "[I") (by decide +kernel)) rfl (Or.inr ⟨rfl, hin, rfl⟩) (fun _ => rfl) rfl (fun _ => rfl) rfl (Nat.le_of_ble_eq_true rfl) (st_1101 _ _) dX11_init_19 (fun H locs hw => ?_)
  obtain ⟨S_26, eS_26⟩ : ∃ T, T = sR S_17 1101 x (some q_16) := ⟨_, rfl⟩
  rw [← eS_26] at hw
  have ph_27 : Phc S_26 = Phc S + 0 := (show Phc S_26 = Phc S_17 from Ph_rawR t_25 (by decide) eS_26).trans ph_18
  have ph_28 : Phs S_26 = Phs S + 0 := (show Phs S_26 = Phs S_17 from Ph_rawR t_25 (by decide) eS_26).trans ph_19
  clear ph_18
  clear ph_19
  have hK_29 : Kq S S_26 x := hK_20.sR eS_26
  have hg_30 : GX S_26 := by rw [eS_26]; exact GX_rawR hg_21 t_25 (by decide +kernel)
  have h_31 : pR S_26 1101 x = some q_16 := tR_sRs eS_26
  refine lv_aload_n X.1 X.2.1 dX11_init_22 rfl (lv_at hl 0 rfl) ?_
  refine lv_iconst (v := 4) X.1 X.2.1 dX11_init_23 (by decide) ?_
  refine r_newQ (N := 4) (C := RX4) X hw 18 18 614 3 rfl (by decide) rfl (X.2.2.2.1 (.classLink RX11 19 RX4) (by decide +kernel)) X.2.2.2.2.2.2.2.1.1.2.2.1 (z_nn ti_4 (by omega)) (by decide) (by decide) (by show 2 + 1 ≤ 3; omega) (by show 610 + 4 ≤ 614; omega) (by show 3 ≤ 58; omega) (by show 614 ≤ 1728; omega) dX11_init_24 (fun q_32 H hq_32 hw => ?_)
  obtain ⟨S_33, eS_33⟩ : ∃ T, T = sN S_26 q_32 18 4 := ⟨_, rfl⟩
  rw [← eS_33] at hw
  have ph_34 : Phc S_33 = Phc S + 0 := (show Phc S_33 = Phc S_26 from Ph_sN' hg_30.ci hq_32 eS_33 (by decide)).trans ph_27
  have ph_35 : Phs S_33 = Phs S + 0 := (show Phs S_33 = Phs S_26 from Ph_sN' hg_30.ci hq_32 eS_33 (by decide)).trans ph_28
  clear ph_27
  clear ph_28
  have hK_36 : Kq S S_33 x := hK_29.sN hq_32 eS_33
  have hg_37 : GX S_33 := by rw [eS_33]; exact GX_N hg_30 hq_32 (by decide +kernel)
  have hn0_q_32 := hK_29.new hq_32
  have ha_38 : At S_33 q_32 18 := by rw [eS_33]; exact At_nN _ _ _ _
  have hn_39 : pN S_33 q_32 = 4 := by rw [eS_33]; exact pN_sN_new
  have t_40 : At S_26 x 191 := tAt_sR eS_26 t_25
  have t_41 : At S_33 x 191 := by rw [eS_33]; exact At_sN t_40 hq_32
  refine r_putR X hw t_41 rfl 3 1103 (some q_32) rfl tyX11 (by decide) rfl inn_X11_init_11 tyX11_ok nmX11 (by decide) (X.2.2.2.1 (.fieldLink RX11 21 "SilkMill" "pots" "[LSilkMill$Pot;") (by decide +kernel)) rfl (Or.inr ⟨rfl, hin, rfl⟩) (fun _ => rfl) rfl (fun _ => rfl) rfl (Nat.le_of_ble_eq_true rfl) (st_1103 _ _) dX11_init_27 (fun H locs hw => ?_)
  obtain ⟨S_42, eS_42⟩ : ∃ T, T = sR S_33 1103 x (some q_32) := ⟨_, rfl⟩
  rw [← eS_42] at hw
  have ph_43 : Phc S_42 = Phc S + 0 := (show Phc S_42 = Phc S_33 from Ph_rawR t_41 (by decide) eS_42).trans ph_34
  have ph_44 : Phs S_42 = Phs S + 0 := (show Phs S_42 = Phs S_33 from Ph_rawR t_41 (by decide) eS_42).trans ph_35
  clear ph_34
  clear ph_35
  have hK_45 : Kq S S_42 x := hK_36.sR eS_42
  have hg_46 : GX S_42 := by rw [eS_42]; exact GX_rawR hg_37 t_41 (by decide +kernel)
  have h_47 : pR S_42 1103 x = some q_32 := tR_sRs eS_42
  refine lv_aload_n X.1 X.2.1 dX11_init_30 rfl (lv_at hl 0 rfl) ?_
  refine r_new X hw 190 10 621 4 rfl tyX10 (by decide) rfl inn_X11_init_10 tyX10_ok (X.2.2.2.1 (.classLink RX11 25 RX10) (by decide +kernel)) (X.2.2.2.1 (.instantiable RX10 7) (by decide +kernel)) (X.2.2.2.1 (.initialized RX10) (by decide +kernel)) (zo_10 _) zd_10 (by show 3 + 1 ≤ 4; omega) (by show 614 + 7 ≤ 621; omega) (by show 4 ≤ 58; omega) (by show 621 ≤ 1728; omega) dX11_init_31 (fun q_48 H hq_48 hw => ?_)
  obtain ⟨S_49, eS_49⟩ : ∃ T, T = sO S_42 q_48 190 := ⟨_, rfl⟩
  rw [← eS_49] at hw
  have ph_50 : Phc S_49 = Phc S + 0 := (show Phc S_49 = Phc S_42 from Ph_sO hg_46 hq_48 eS_49 (by decide)).trans ph_43
  have ph_51 : Phs S_49 = Phs S + 0 := (show Phs S_49 = Phs S_42 from Ph_sO hg_46 hq_48 eS_49 (by decide)).trans ph_44
  clear ph_43
  clear ph_44
  have hK_52 : Kq S S_49 x := hK_45.sO hq_48 eS_49
  have hg_53 : GX S_49 := by rw [eS_49]; exact GX_O hg_46 hq_48 (by decide +kernel)
  have hn0_q_48 := hK_45.new hq_48
  have ha_54 : At S_49 q_48 190 := by rw [eS_49]; exact At_nO _ _ _
  have hzI_q_48 : ∀ g, pI S_49 g q_48 = 0 := fun g => by rw [eS_49]; exact pI_sO_new
  have hzR_q_48 : ∀ g, pR S_49 g q_48 = none := fun g => by rw [eS_49]; exact if_pos rfl
  refine lv_dup X.1 X.2.1 dX11_init_34 rfl ?_
  refine k_v (rm := { frames := 2, cells := 1, slots := 400, locals := 96 }) (av := [.ref q_48]) X hw (va_runIN (As := []) (rest := [.ref q_48, .ref x]) (cfix X) (k_X10_init l G cy κ S_49 _ q_48 hg_53 ha_54 hzI_q_48 hzR_q_48) ⟨(va_cnB (host := RX11) 0 X.2.2.2.1 gX11_init_X10_init_n27 rfl rfl rfl (X.2.2.2.2.2.2.2.1.2.1 (RX11, 27, yX10_init) (by decide +kernel)) (X.2.2.2.1 (.initialized RX10) (by decide +kernel)) (by decide +kernel) ⟨Nat.le_of_ble_eq_true rfl, Nat.le_of_ble_eq_true rfl⟩), rfl, (X.2.2.2.1 (.instanceMethod yX10_init) (by decide +kernel))⟩ (pre_S X hw _) rfl rfl hl.1 rfl (lv_room (Nat.le_of_ble_eq_true rfl)) dX11_init_35 ⟨(by show 4 + 1 ≤ 58; omega), (by show 621 + 400 ≤ 1728; omega)⟩) 5 1021 (by show 4 + 1 ≤ 5; omega) (by show 621 + 400 ≤ 1021; omega) (fun S_56 H locs hp hw hfr hnw => ?_)
  obtain ⟨hK_57, hg_58, ha_59, ph_60, ph_61, kz_62⟩ := hp
  have hK_63 : Kq S S_56 x := hK_52.sub hn0_q_48 hK_57
  have ph_64 : Phc S_56 = Phc S + 0 := by omega
  have ph_65 : Phs S_56 = Phs S + 0 := by omega
  clear ph_50
  clear ph_51
  clear ph_60
  clear ph_61
  have t_66 : At S_42 x 191 := tAt_sR eS_42 t_41
  have t_67 : At S_49 x 191 := by rw [eS_49]; exact At_sO t_66 hq_48
  have t_68 : At S_56 x 191 := hK_57.at ha_54 t_67 (by decide)
  refine r_putR X hw t_68 rfl 5 1105 (some q_48) rfl tyX11 (by decide) rfl inn_X11_init_11 tyX11_ok nmX11 (by decide) (X.2.2.2.1 (.fieldLink RX11 28 "SilkMill" "tape" "LSilkMill$Tape;") (by decide +kernel)) rfl (Or.inr ⟨rfl, hin, rfl⟩) (fun _ => rfl) rfl (fun _ => rfl) rfl (Nat.le_of_ble_eq_true rfl) (st_1105 _ _) dX11_init_38 (fun H locs hw => ?_)
  obtain ⟨S_69, eS_69⟩ : ∃ T, T = sR S_56 1105 x (some q_48) := ⟨_, rfl⟩
  rw [← eS_69] at hw
  have ph_70 : Phc S_69 = Phc S + 0 := (show Phc S_69 = Phc S_56 from Ph_rawR t_68 (by decide) eS_69).trans ph_64
  have ph_71 : Phs S_69 = Phs S + 0 := (show Phs S_69 = Phs S_56 from Ph_rawR t_68 (by decide) eS_69).trans ph_65
  clear ph_64
  clear ph_65
  have hK_72 : Kq S S_69 x := hK_63.sR eS_69
  have hg_73 : GX S_69 := by rw [eS_69]; exact GX_rawR hg_58 t_68 (by decide +kernel)
  have h_74 : pR S_69 1105 x = some q_48 := tR_sRs eS_69
  refine lv_aload_n X.1 X.2.1 dX11_init_41 rfl (lv_at hl 0 rfl) ?_
  refine r_new X hw 186 6 1028 6 rfl tyX6 (by decide) rfl inn_X11_init_6 tyX6_ok (X.2.2.2.1 (.classLink RX11 32 RX6) (by decide +kernel)) (X.2.2.2.1 (.instantiable RX6 7) (by decide +kernel)) (X.2.2.2.1 (.initialized RX6) (by decide +kernel)) (zo_6 _) zd_6 (by show 5 + 1 ≤ 6; omega) (by show 1021 + 7 ≤ 1028; omega) (by show 6 ≤ 58; omega) (by show 1028 ≤ 1728; omega) dX11_init_42 (fun q_75 H hq_75 hw => ?_)
  obtain ⟨S_76, eS_76⟩ : ∃ T, T = sO S_69 q_75 186 := ⟨_, rfl⟩
  rw [← eS_76] at hw
  have ph_77 : Phc S_76 = Phc S + 0 := (show Phc S_76 = Phc S_69 from Ph_sO hg_73 hq_75 eS_76 (by decide)).trans ph_70
  have ph_78 : Phs S_76 = Phs S + 0 := (show Phs S_76 = Phs S_69 from Ph_sO hg_73 hq_75 eS_76 (by decide)).trans ph_71
  clear ph_70
  clear ph_71
  have hK_79 : Kq S S_76 x := hK_72.sO hq_75 eS_76
  have hg_80 : GX S_76 := by rw [eS_76]; exact GX_O hg_73 hq_75 (by decide +kernel)
  have hn0_q_75 := hK_72.new hq_75
  have ha_81 : At S_76 q_75 186 := by rw [eS_76]; exact At_nO _ _ _
  have hzI_q_75 : ∀ g, pI S_76 g q_75 = 0 := fun g => by rw [eS_76]; exact pI_sO_new
  have hzR_q_75 : ∀ g, pR S_76 g q_75 = none := fun g => by rw [eS_76]; exact if_pos rfl
  refine lv_dup X.1 X.2.1 dX11_init_45 rfl ?_
  refine k_v (rm := { frames := 2, cells := 6, slots := 180, locals := 96 }) (av := [.ref q_75]) X hw (va_runIN (As := []) (rest := [.ref q_75, .ref x]) (cfix X) (k_X6_init l G cy κ S_76 _ q_75 hg_80 ha_81 hzI_q_75 hzR_q_75) ⟨(va_cnB (host := RX11) 0 X.2.2.2.1 gX11_init_X6_init_n34 rfl rfl rfl (X.2.2.2.2.2.2.2.1.2.1 (RX11, 34, yX6_init) (by decide +kernel)) (X.2.2.2.1 (.initialized RX6) (by decide +kernel)) (by decide +kernel) ⟨Nat.le_of_ble_eq_true rfl, Nat.le_of_ble_eq_true rfl⟩), rfl, (X.2.2.2.1 (.instanceMethod yX6_init) (by decide +kernel))⟩ (pre_S X hw _) rfl rfl hl.1 rfl (lv_room (Nat.le_of_ble_eq_true rfl)) dX11_init_46 ⟨(by show 6 + 6 ≤ 58; omega), (by show 1028 + 180 ≤ 1728; omega)⟩) 12 1208 (by show 6 + 6 ≤ 12; omega) (by show 1028 + 180 ≤ 1208; omega) (fun S_83 H locs hp hw hfr hnw => ?_)
  obtain ⟨hK_84, hg_85, ha_86, ph_87, ph_88⟩ := hp
  have hK_89 : Kq S S_83 x := hK_79.sub hn0_q_75 hK_84
  have ph_90 : Phc S_83 = Phc S + 0 := by omega
  have ph_91 : Phs S_83 = Phs S + 0 := by omega
  clear ph_77
  clear ph_78
  clear ph_87
  clear ph_88
  have t_92 : At S_69 x 191 := tAt_sR eS_69 t_68
  have t_93 : At S_76 x 191 := by rw [eS_76]; exact At_sO t_92 hq_75
  have t_94 : At S_83 x 191 := hK_84.at ha_81 t_93 (by decide)
  refine r_putR X hw t_94 rfl 6 1106 (some q_75) rfl tyX11 (by decide) rfl inn_X11_init_11 tyX11_ok nmX11 (by decide) (X.2.2.2.1 (.fieldLink RX11 35 "SilkMill" "spareRules" "LSilkMill$Rules;") (by decide +kernel)) rfl (Or.inl rfl) (fun _ => rfl) rfl (fun _ => rfl) rfl (Nat.le_of_ble_eq_true rfl) (st_1106 _ _) dX11_init_49 (fun H locs hw => ?_)
  obtain ⟨S_95, eS_95⟩ : ∃ T, T = sR S_83 1106 x (some q_75) := ⟨_, rfl⟩
  rw [← eS_95] at hw
  have ph_96 : Phc S_95 = Phc S + 0 := (show Phc S_95 = Phc S_83 from Ph_rawR t_94 (by decide) eS_95).trans ph_90
  have ph_97 : Phs S_95 = Phs S + 0 := (show Phs S_95 = Phs S_83 from Ph_rawR t_94 (by decide) eS_95).trans ph_91
  clear ph_90
  clear ph_91
  have hK_98 : Kq S S_95 x := hK_89.sR eS_95
  have hg_99 : GX S_95 := by rw [eS_95]; exact GX_rawR hg_85 t_94 (by decide +kernel)
  have h_100 : pR S_95 1106 x = some q_75 := tR_sRs eS_95
  refine lv_aload_n X.1 X.2.1 dX11_init_52 rfl (lv_at hl 0 rfl) ?_
  refine r_new X hw 188 8 1221 13 rfl tyX8 (by decide) rfl inn_X11_init_8 tyX8_ok (X.2.2.2.1 (.classLink RX11 39 RX8) (by decide +kernel)) (X.2.2.2.1 (.instantiable RX8 13) (by decide +kernel)) (X.2.2.2.1 (.initialized RX8) (by decide +kernel)) (zo_8 _) zd_8 (by show 12 + 1 ≤ 13; omega) (by show 1208 + 13 ≤ 1221; omega) (by show 13 ≤ 58; omega) (by show 1221 ≤ 1728; omega) dX11_init_53 (fun q_101 H hq_101 hw => ?_)
  obtain ⟨S_102, eS_102⟩ : ∃ T, T = sO S_95 q_101 188 := ⟨_, rfl⟩
  rw [← eS_102] at hw
  have ph_103 : Phc S_102 = Phc S + 0 := (show Phc S_102 = Phc S_95 from Ph_sO hg_99 hq_101 eS_102 (by decide)).trans ph_96
  have ph_104 : Phs S_102 = Phs S + 0 := (show Phs S_102 = Phs S_95 from Ph_sO hg_99 hq_101 eS_102 (by decide)).trans ph_97
  clear ph_96
  clear ph_97
  have hK_105 : Kq S S_102 x := hK_98.sO hq_101 eS_102
  have hg_106 : GX S_102 := by rw [eS_102]; exact GX_O hg_99 hq_101 (by decide +kernel)
  have hn0_q_101 := hK_98.new hq_101
  have ha_107 : At S_102 q_101 188 := by rw [eS_102]; exact At_nO _ _ _
  have hzI_q_101 : ∀ g, pI S_102 g q_101 = 0 := fun g => by rw [eS_102]; exact pI_sO_new
  have hzR_q_101 : ∀ g, pR S_102 g q_101 = none := fun g => by rw [eS_102]; exact if_pos rfl
  refine lv_dup X.1 X.2.1 dX11_init_56 rfl ?_
  refine k_v (rm := { frames := 3, cells := 9, slots := 214, locals := 144 }) (av := [.ref q_101]) X hw (va_runIN (As := []) (rest := [.ref q_101, .ref x]) (cfix X) (k_X8_init l G cy κ S_102 _ q_101 hg_106 ha_107 hzI_q_101 hzR_q_101) ⟨(va_cnB (host := RX11) 0 X.2.2.2.1 gX11_init_X8_init_n41 rfl rfl rfl (X.2.2.2.2.2.2.2.1.2.1 (RX11, 41, yX8_init) (by decide +kernel)) (X.2.2.2.1 (.initialized RX8) (by decide +kernel)) (by decide +kernel) ⟨Nat.le_of_ble_eq_true rfl, Nat.le_of_ble_eq_true rfl⟩), rfl, (X.2.2.2.1 (.instanceMethod yX8_init) (by decide +kernel))⟩ (pre_S X hw _) rfl rfl hl.1 rfl (lv_room (Nat.le_of_ble_eq_true rfl)) dX11_init_57 ⟨(by show 13 + 9 ≤ 58; omega), (by show 1221 + 214 ≤ 1728; omega)⟩) 22 1435 (by show 13 + 9 ≤ 22; omega) (by show 1221 + 214 ≤ 1435; omega) (fun S_109 H locs hp hw hfr hnw => ?_)
  obtain ⟨hK_110, hg_111, ha_112, ph_113, ph_114, kz_115⟩ := hp
  have hK_116 : Kq S S_109 x := hK_105.sub hn0_q_101 hK_110
  have ph_117 : Phc S_109 = Phc S + 320 := by omega
  have ph_118 : Phs S_109 = Phs S + 604000 := by omega
  clear ph_103
  clear ph_104
  clear ph_113
  clear ph_114
  have t_119 : At S_95 x 191 := tAt_sR eS_95 t_94
  have t_120 : At S_102 x 191 := by rw [eS_102]; exact At_sO t_119 hq_101
  have t_121 : At S_109 x 191 := hK_110.at ha_107 t_120 (by decide)
  refine r_putR X hw t_121 rfl 7 1107 (some q_101) rfl tyX11 (by decide) rfl inn_X11_init_11 tyX11_ok nmX11 (by decide) (X.2.2.2.1 (.fieldLink RX11 42 "SilkMill" "store" "LSilkMill$Store;") (by decide +kernel)) rfl (Or.inr ⟨rfl, hin, rfl⟩) (fun _ => rfl) rfl (fun _ => rfl) rfl (Nat.le_of_ble_eq_true rfl) (st_1107 _ _) dX11_init_60 (fun H locs hw => ?_)
  obtain ⟨S_122, eS_122⟩ : ∃ T, T = sR S_109 1107 x (some q_101) := ⟨_, rfl⟩
  rw [← eS_122] at hw
  have ph_123 : Phc S_122 = Phc S + 320 := (show Phc S_122 = Phc S_109 from Ph_rawR t_121 (by decide) eS_122).trans ph_117
  have ph_124 : Phs S_122 = Phs S + 604000 := (show Phs S_122 = Phs S_109 from Ph_rawR t_121 (by decide) eS_122).trans ph_118
  clear ph_117
  clear ph_118
  have hK_125 : Kq S S_122 x := hK_116.sR eS_122
  have hg_126 : GX S_122 := by rw [eS_122]; exact GX_rawR hg_111 t_121 (by decide +kernel)
  have h_127 : pR S_122 1107 x = some q_101 := tR_sRs eS_122
  refine lv_aload_n X.1 X.2.1 dX11_init_63 rfl (lv_at hl 0 rfl) ?_
  refine r_new X hw 181 1 1439 23 rfl tyX1 (by decide) rfl inn_X11_init_1 tyX1_ok (X.2.2.2.1 (.classLink RX11 46 RX1) (by decide +kernel)) (X.2.2.2.1 (.instantiable RX1 4) (by decide +kernel)) (X.2.2.2.1 (.initialized RX1) (by decide +kernel)) (zo_1 _) zd_1 (by show 22 + 1 ≤ 23; omega) (by show 1435 + 4 ≤ 1439; omega) (by show 23 ≤ 58; omega) (by show 1439 ≤ 1728; omega) dX11_init_64 (fun q_128 H hq_128 hw => ?_)
  obtain ⟨S_129, eS_129⟩ : ∃ T, T = sO S_122 q_128 181 := ⟨_, rfl⟩
  rw [← eS_129] at hw
  have ph_130 : Phc S_129 = Phc S + 320 := (show Phc S_129 = Phc S_122 from Ph_sO hg_126 hq_128 eS_129 (by decide)).trans ph_123
  have ph_131 : Phs S_129 = Phs S + 604000 := (show Phs S_129 = Phs S_122 from Ph_sO hg_126 hq_128 eS_129 (by decide)).trans ph_124
  clear ph_123
  clear ph_124
  have hK_132 : Kq S S_129 x := hK_125.sO hq_128 eS_129
  have hg_133 : GX S_129 := by rw [eS_129]; exact GX_O hg_126 hq_128 (by decide +kernel)
  have hn0_q_128 := hK_125.new hq_128
  have ha_134 : At S_129 q_128 181 := by rw [eS_129]; exact At_nO _ _ _
  have hzI_q_128 : ∀ g, pI S_129 g q_128 = 0 := fun g => by rw [eS_129]; exact pI_sO_new
  have hzR_q_128 : ∀ g, pR S_129 g q_128 = none := fun g => by rw [eS_129]; exact if_pos rfl
  refine lv_dup X.1 X.2.1 dX11_init_67 rfl ?_
  refine k_v (rm := { frames := 2, cells := 1, slots := 5, locals := 96 }) (av := [.ref q_128]) X hw (va_runIN (As := []) (rest := [.ref q_128, .ref x]) (cfix X) (k_X1_init l G cy κ S_129 _ q_128 hg_133 ha_134 hzI_q_128 hzR_q_128) ⟨(va_cnB (host := RX11) 0 X.2.2.2.1 gX11_init_X1_init_n48 rfl rfl rfl (X.2.2.2.2.2.2.2.1.2.1 (RX11, 48, yX1_init) (by decide +kernel)) (X.2.2.2.1 (.initialized RX1) (by decide +kernel)) (by decide +kernel) ⟨Nat.le_of_ble_eq_true rfl, Nat.le_of_ble_eq_true rfl⟩), rfl, (X.2.2.2.1 (.instanceMethod yX1_init) (by decide +kernel))⟩ (pre_S X hw _) rfl rfl hl.1 rfl (lv_room (Nat.le_of_ble_eq_true rfl)) dX11_init_68 ⟨(by show 23 + 1 ≤ 58; omega), (by show 1439 + 5 ≤ 1728; omega)⟩) 24 1444 (by show 23 + 1 ≤ 24; omega) (by show 1439 + 5 ≤ 1444; omega) (fun S_136 H locs hp hw hfr hnw => ?_)
  obtain ⟨hK_137, hg_138, ha_139, ph_140, ph_141⟩ := hp
  have hK_142 : Kq S S_136 x := hK_132.sub hn0_q_128 hK_137
  have ph_143 : Phc S_136 = Phc S + 320 := by omega
  have ph_144 : Phs S_136 = Phs S + 604000 := by omega
  clear ph_130
  clear ph_131
  clear ph_140
  clear ph_141
  have t_145 : At S_122 x 191 := tAt_sR eS_122 t_121
  have t_146 : At S_129 x 191 := by rw [eS_129]; exact At_sO t_145 hq_128
  have t_147 : At S_136 x 191 := hK_137.at ha_134 t_146 (by decide)
  refine r_putR X hw t_147 rfl 8 1108 (some q_128) rfl tyX11 (by decide) rfl inn_X11_init_11 tyX11_ok nmX11 (by decide) (X.2.2.2.1 (.fieldLink RX11 49 "SilkMill" "latestDraw" "LSilkMill$Draw;") (by decide +kernel)) rfl (Or.inr ⟨rfl, hin, rfl⟩) (fun _ => rfl) rfl (fun _ => rfl) rfl (Nat.le_of_ble_eq_true rfl) (st_1108 _ _) dX11_init_71 (fun H locs hw => ?_)
  obtain ⟨S_148, eS_148⟩ : ∃ T, T = sR S_136 1108 x (some q_128) := ⟨_, rfl⟩
  rw [← eS_148] at hw
  have ph_149 : Phc S_148 = Phc S + 320 := (show Phc S_148 = Phc S_136 from Ph_rawR t_147 (by decide) eS_148).trans ph_143
  have ph_150 : Phs S_148 = Phs S + 604000 := (show Phs S_148 = Phs S_136 from Ph_rawR t_147 (by decide) eS_148).trans ph_144
  clear ph_143
  clear ph_144
  have hK_151 : Kq S S_148 x := hK_142.sR eS_148
  have hg_152 : GX S_148 := by rw [eS_148]; exact GX_rawR hg_138 t_147 (by decide +kernel)
  have h_153 : pR S_148 1108 x = some q_128 := tR_sRs eS_148
  refine lv_aload_n X.1 X.2.1 dX11_init_74 rfl (lv_at hl 0 rfl) ?_
  refine lv_bipush (v := 16) X.1 X.2.1 dX11_init_75 (by decide) ?_
  refine r_newQ (N := 16) (C := RX3) X hw 17 17 1460 25 rfl (by decide) rfl (X.2.2.2.1 (.classLink RX11 53 RX3) (by decide +kernel)) X.2.2.2.2.2.2.2.1.1.2.1 (z_nn ti_16 (by omega)) (by decide) (by decide) (by show 24 + 1 ≤ 25; omega) (by show 1444 + 16 ≤ 1460; omega) (by show 25 ≤ 58; omega) (by show 1460 ≤ 1728; omega) dX11_init_77 (fun q_154 H hq_154 hw => ?_)
  obtain ⟨S_155, eS_155⟩ : ∃ T, T = sN S_148 q_154 17 16 := ⟨_, rfl⟩
  rw [← eS_155] at hw
  have ph_156 : Phc S_155 = Phc S + 320 := (show Phc S_155 = Phc S_148 from Ph_sN' hg_152.ci hq_154 eS_155 (by decide)).trans ph_149
  have ph_157 : Phs S_155 = Phs S + 604000 := (show Phs S_155 = Phs S_148 from Ph_sN' hg_152.ci hq_154 eS_155 (by decide)).trans ph_150
  clear ph_149
  clear ph_150
  have hK_158 : Kq S S_155 x := hK_151.sN hq_154 eS_155
  have hg_159 : GX S_155 := by rw [eS_155]; exact GX_N hg_152 hq_154 (by decide +kernel)
  have hn0_q_154 := hK_151.new hq_154
  have ha_160 : At S_155 q_154 17 := by rw [eS_155]; exact At_nN _ _ _ _
  have hn_161 : pN S_155 q_154 = 16 := by rw [eS_155]; exact pN_sN_new
  have t_162 : At S_148 x 191 := tAt_sR eS_148 t_147
  have t_163 : At S_155 x 191 := by rw [eS_155]; exact At_sN t_162 hq_154
  refine r_putR X hw t_163 rfl 9 1109 (some q_154) rfl tyX11 (by decide) rfl inn_X11_init_11 tyX11_ok nmX11 (by decide) (X.2.2.2.1 (.fieldLink RX11 55 "SilkMill" "shelf" "[LSilkMill$Place;") (by decide +kernel)) rfl (Or.inr ⟨rfl, hin, rfl⟩) (fun _ => rfl) rfl (fun _ => rfl) rfl (Nat.le_of_ble_eq_true rfl) (st_1109 _ _) dX11_init_80 (fun H locs hw => ?_)
  obtain ⟨S_164, eS_164⟩ : ∃ T, T = sR S_155 1109 x (some q_154) := ⟨_, rfl⟩
  rw [← eS_164] at hw
  have ph_165 : Phc S_164 = Phc S + 320 := (show Phc S_164 = Phc S_155 from Ph_rawR t_163 (by decide) eS_164).trans ph_156
  have ph_166 : Phs S_164 = Phs S + 604000 := (show Phs S_164 = Phs S_155 from Ph_rawR t_163 (by decide) eS_164).trans ph_157
  clear ph_156
  clear ph_157
  have hK_167 : Kq S S_164 x := hK_158.sR eS_164
  have hg_168 : GX S_164 := by rw [eS_164]; exact GX_rawR hg_159 t_163 (by decide +kernel)
  have h_169 : pR S_164 1109 x = some q_154 := tR_sRs eS_164
  refine lv_aload_n X.1 X.2.1 dX11_init_83 rfl (lv_at hl 0 rfl) ?_
  refine lv_bipush (v := 60) X.1 X.2.1 dX11_init_84 (by decide) ?_
  refine r_newI (N := 60) X hw 194 1520 26 rfl (X.2.2.2.1 (.arrayClass .int) (by decide +kernel)) (z_nn ti_60 (by omega)) (by decide) (by decide) (by show 25 + 1 ≤ 26; omega) (by show 1460 + 60 ≤ 1520; omega) (by show 26 ≤ 58; omega) (by show 1520 ≤ 1728; omega) dX11_init_86 (fun q_170 H hq_170 hw => ?_)
  obtain ⟨S_171, eS_171⟩ : ∃ T, T = sN S_164 q_170 194 60 := ⟨_, rfl⟩
  rw [← eS_171] at hw
  have ph_172 : Phc S_171 = Phc S + 320 := (show Phc S_171 = Phc S_164 from Ph_sN' hg_168.ci hq_170 eS_171 (by decide)).trans ph_165
  have ph_173 : Phs S_171 = Phs S + 604000 := (show Phs S_171 = Phs S_164 from Ph_sN' hg_168.ci hq_170 eS_171 (by decide)).trans ph_166
  clear ph_165
  clear ph_166
  have hK_174 : Kq S S_171 x := hK_167.sN hq_170 eS_171
  have hg_175 : GX S_171 := by rw [eS_171]; exact GX_N hg_168 hq_170 (by decide +kernel)
  have hn0_q_170 := hK_167.new hq_170
  have ha_176 : At S_171 q_170 194 := by rw [eS_171]; exact At_nN _ _ _ _
  have hn_177 : pN S_171 q_170 = 60 := by rw [eS_171]; exact pN_sN_new
  have t_178 : At S_164 x 191 := tAt_sR eS_164 t_163
  have t_179 : At S_171 x 191 := by rw [eS_171]; exact At_sN t_178 hq_170
  refine r_putR X hw t_179 rfl 11 1111 (some q_170) rfl tyX11 (by decide) rfl inn_X11_init_11 tyX11_ok nmX11 (by decide) (X.2.2.2.1 (.fieldLink RX11 59 "SilkMill" "idle" "[I") (by decide +kernel)) rfl (Or.inr ⟨rfl, hin, rfl⟩) (fun _ => rfl) rfl (fun _ => rfl) rfl (Nat.le_of_ble_eq_true rfl) (st_1111 _ _) dX11_init_88 (fun H locs hw => ?_)
  obtain ⟨S_180, eS_180⟩ : ∃ T, T = sR S_171 1111 x (some q_170) := ⟨_, rfl⟩
  rw [← eS_180] at hw
  have ph_181 : Phc S_180 = Phc S + 320 := (show Phc S_180 = Phc S_171 from Ph_rawR t_179 (by decide) eS_180).trans ph_172
  have ph_182 : Phs S_180 = Phs S + 604000 := (show Phs S_180 = Phs S_171 from Ph_rawR t_179 (by decide) eS_180).trans ph_173
  clear ph_172
  clear ph_173
  have hK_183 : Kq S S_180 x := hK_174.sR eS_180
  have hg_184 : GX S_180 := by rw [eS_180]; exact GX_rawR hg_175 t_179 (by decide +kernel)
  have h_185 : pR S_180 1111 x = some q_170 := tR_sRs eS_180
  refine lv_iconst (v := 0) X.1 X.2.1 dX11_init_91 (by decide) ?_
  have t_186 : pR S_171 1109 x = some q_154 := by rw [eS_171, pR_sN]; exact h_169
  have t_187 : pR S_180 1109 x = some q_154 := tR_sR eS_180 rfl t_186
  refine lv_istore_n (lv' := [(1, .int 0), (0, .ref x)]) X.1 X.2.1 dX11_init_92 rfl hl (by decide) rfl (fun ls hl => ?_)
  have t_194 : At S_122 x 191 := tAt_sR eS_122 t_121
  have t_193 : pR S_129 1107 x = some q_101 := by rw [eS_129]; exact (pR_sO_ne (ne_of_new hq_128 t_194.1)).trans h_127
  have t_196 : At S_129 x 191 := by rw [eS_129]; exact At_sO t_194 hq_128
  have t_195 : pR S_136 1107 x = some q_101 := (((hK_137 x t_196.1).2 (At_ne t_196 ha_134 (by decide))).2.2.1 1107).trans t_193
  have t_197 : pR S_148 1107 x = some q_101 := tR_sR eS_148 rfl t_195
  have t_198 : pR S_155 1107 x = some q_101 := by rw [eS_155, pR_sN]; exact t_197
  have t_199 : pR S_164 1107 x = some q_101 := tR_sR eS_164 rfl t_198
  have t_200 : pR S_171 1107 x = some q_101 := by rw [eS_171, pR_sN]; exact t_199
  have t_201 : pR S_180 1107 x = some q_101 := tR_sR eS_180 rfl t_200
  have t_203 : At S_69 x 191 := tAt_sR eS_69 t_68
  have t_202 : pR S_76 1105 x = some q_48 := by rw [eS_76]; exact (pR_sO_ne (ne_of_new hq_75 t_203.1)).trans h_74
  have t_205 : At S_76 x 191 := by rw [eS_76]; exact At_sO t_203 hq_75
  have t_204 : pR S_83 1105 x = some q_48 := (((hK_84 x t_205.1).2 (At_ne t_205 ha_81 (by decide))).2.2.1 1105).trans t_202
  have t_206 : pR S_95 1105 x = some q_48 := tR_sR eS_95 rfl t_204
  have t_208 : At S_95 x 191 := tAt_sR eS_95 t_94
  have t_207 : pR S_102 1105 x = some q_48 := by rw [eS_102]; exact (pR_sO_ne (ne_of_new hq_101 t_208.1)).trans t_206
  have t_210 : At S_102 x 191 := by rw [eS_102]; exact At_sO t_208 hq_101
  have t_209 : pR S_109 1105 x = some q_48 := (((hK_110 x t_210.1).2 (At_ne t_210 ha_107 (by decide))).2.2.1 1105).trans t_207
  have t_211 : pR S_122 1105 x = some q_48 := tR_sR eS_122 rfl t_209
  have t_212 : pR S_129 1105 x = some q_48 := by rw [eS_129]; exact (pR_sO_ne (ne_of_new hq_128 t_194.1)).trans t_211
  have t_213 : pR S_136 1105 x = some q_48 := (((hK_137 x t_196.1).2 (At_ne t_196 ha_134 (by decide))).2.2.1 1105).trans t_212
  have t_214 : pR S_148 1105 x = some q_48 := tR_sR eS_148 rfl t_213
  have t_215 : pR S_155 1105 x = some q_48 := by rw [eS_155, pR_sN]; exact t_214
  have t_216 : pR S_164 1105 x = some q_48 := tR_sR eS_164 rfl t_215
  have t_217 : pR S_171 1105 x = some q_48 := by rw [eS_171, pR_sN]; exact t_216
  have t_218 : pR S_180 1105 x = some q_48 := tR_sR eS_180 rfl t_217
  have t_219 : pI S_2 1102 x = 0 := by rw [eS_2, pI_sN]; exact (hzI 1102)
  have t_220 : pI S_10 1102 x = 0 := tI_sR eS_10 t_219
  have t_221 : pI S_17 1102 x = 0 := by rw [eS_17, pI_sN]; exact t_220
  have t_222 : pI S_26 1102 x = 0 := tI_sR eS_26 t_221
  have t_223 : pI S_33 1102 x = 0 := by rw [eS_33, pI_sN]; exact t_222
  have t_224 : pI S_42 1102 x = 0 := tI_sR eS_42 t_223
  have t_226 : At S_42 x 191 := tAt_sR eS_42 t_41
  have t_225 : pI S_49 1102 x = 0 := by rw [eS_49]; exact (pI_sO_ne (ne_of_new hq_48 t_226.1)).trans t_224
  have t_228 : At S_49 x 191 := by rw [eS_49]; exact At_sO t_226 hq_48
  have t_227 : pI S_56 1102 x = 0 := (((hK_57 x t_228.1).2 (At_ne t_228 ha_54 (by decide))).2.1 1102).trans t_225
  have t_229 : pI S_69 1102 x = 0 := tI_sR eS_69 t_227
  have t_230 : pI S_76 1102 x = 0 := by rw [eS_76]; exact (pI_sO_ne (ne_of_new hq_75 t_203.1)).trans t_229
  have t_231 : pI S_83 1102 x = 0 := (((hK_84 x t_205.1).2 (At_ne t_205 ha_81 (by decide))).2.1 1102).trans t_230
  have t_232 : pI S_95 1102 x = 0 := tI_sR eS_95 t_231
  have t_233 : pI S_102 1102 x = 0 := by rw [eS_102]; exact (pI_sO_ne (ne_of_new hq_101 t_208.1)).trans t_232
  have t_234 : pI S_109 1102 x = 0 := (((hK_110 x t_210.1).2 (At_ne t_210 ha_107 (by decide))).2.1 1102).trans t_233
  have t_235 : pI S_122 1102 x = 0 := tI_sR eS_122 t_234
  have t_236 : pI S_129 1102 x = 0 := by rw [eS_129]; exact (pI_sO_ne (ne_of_new hq_128 t_194.1)).trans t_235
  have t_237 : pI S_136 1102 x = 0 := (((hK_137 x t_196.1).2 (At_ne t_196 ha_134 (by decide))).2.1 1102).trans t_236
  have t_238 : pI S_148 1102 x = 0 := tI_sR eS_148 t_237
  have t_239 : pI S_155 1102 x = 0 := by rw [eS_155, pI_sN]; exact t_238
  have t_240 : pI S_164 1102 x = 0 := tI_sR eS_164 t_239
  have t_241 : pI S_171 1102 x = 0 := by rw [eS_171, pI_sN]; exact t_240
  have t_242 : pI S_180 1102 x = 0 := tI_sR eS_180 t_241
  have t_244 : pI S_2 1104 x = 0 := by rw [eS_2, pI_sN]; exact (hzI 1104)
  have t_245 : pI S_10 1104 x = 0 := tI_sR eS_10 t_244
  have t_246 : pI S_17 1104 x = 0 := by rw [eS_17, pI_sN]; exact t_245
  have t_247 : pI S_26 1104 x = 0 := tI_sR eS_26 t_246
  have t_248 : pI S_33 1104 x = 0 := by rw [eS_33, pI_sN]; exact t_247
  have t_249 : pI S_42 1104 x = 0 := tI_sR eS_42 t_248
  have t_250 : pI S_49 1104 x = 0 := by rw [eS_49]; exact (pI_sO_ne (ne_of_new hq_48 t_226.1)).trans t_249
  have t_251 : pI S_56 1104 x = 0 := (((hK_57 x t_228.1).2 (At_ne t_228 ha_54 (by decide))).2.1 1104).trans t_250
  have t_252 : pI S_69 1104 x = 0 := tI_sR eS_69 t_251
  have t_253 : pI S_76 1104 x = 0 := by rw [eS_76]; exact (pI_sO_ne (ne_of_new hq_75 t_203.1)).trans t_252
  have t_254 : pI S_83 1104 x = 0 := (((hK_84 x t_205.1).2 (At_ne t_205 ha_81 (by decide))).2.1 1104).trans t_253
  have t_255 : pI S_95 1104 x = 0 := tI_sR eS_95 t_254
  have t_256 : pI S_102 1104 x = 0 := by rw [eS_102]; exact (pI_sO_ne (ne_of_new hq_101 t_208.1)).trans t_255
  have t_257 : pI S_109 1104 x = 0 := (((hK_110 x t_210.1).2 (At_ne t_210 ha_107 (by decide))).2.1 1104).trans t_256
  have t_258 : pI S_122 1104 x = 0 := tI_sR eS_122 t_257
  have t_259 : pI S_129 1104 x = 0 := by rw [eS_129]; exact (pI_sO_ne (ne_of_new hq_128 t_194.1)).trans t_258
  have t_260 : pI S_136 1104 x = 0 := (((hK_137 x t_196.1).2 (At_ne t_196 ha_134 (by decide))).2.1 1104).trans t_259
  have t_261 : pI S_148 1104 x = 0 := tI_sR eS_148 t_260
  have t_262 : pI S_155 1104 x = 0 := by rw [eS_155, pI_sN]; exact t_261
  have t_263 : pI S_164 1104 x = 0 := tI_sR eS_164 t_262
  have t_264 : pI S_171 1104 x = 0 := by rw [eS_171, pI_sN]; exact t_263
  have t_265 : pI S_180 1104 x = 0 := tI_sR eS_180 t_264
  have t_267 : pI S_122 801 q_101 = 0 := tI_sR eS_122 kz_115
  have t_269 : At S_122 q_101 8 := tAt_sR eS_122 ha_112
  have t_268 : pI S_129 801 q_101 = 0 := by rw [eS_129]; exact (pI_sO_ne (ne_of_new hq_128 t_269.1)).trans t_267
  have t_271 : At S_129 q_101 8 := by rw [eS_129]; exact At_sO t_269 hq_128
  have t_270 : pI S_136 801 q_101 = 0 := (((hK_137 q_101 t_271.1).2 (At_ne t_271 ha_134 (by decide))).2.1 801).trans t_268
  have t_272 : pI S_148 801 q_101 = 0 := tI_sR eS_148 t_270
  have t_273 : pI S_155 801 q_101 = 0 := by rw [eS_155, pI_sN]; exact t_272
  have t_274 : pI S_164 801 q_101 = 0 := tI_sR eS_164 t_273
  have t_275 : pI S_171 801 q_101 = 0 := by rw [eS_171, pI_sN]; exact t_274
  have t_276 : pI S_180 801 q_101 = 0 := tI_sR eS_180 t_275
  have t_278 : pI S_69 1000 q_48 = 0 := tI_sR eS_69 kz_62
  have t_280 : At S_69 q_48 10 := tAt_sR eS_69 ha_59
  have t_279 : pI S_76 1000 q_48 = 0 := by rw [eS_76]; exact (pI_sO_ne (ne_of_new hq_75 t_280.1)).trans t_278
  have t_282 : At S_76 q_48 10 := by rw [eS_76]; exact At_sO t_280 hq_75
  have t_281 : pI S_83 1000 q_48 = 0 := (((hK_84 q_48 t_282.1).2 (At_ne t_282 ha_81 (by decide))).2.1 1000).trans t_279
  have t_283 : pI S_95 1000 q_48 = 0 := tI_sR eS_95 t_281
  have t_285 : At S_83 q_48 10 := hK_84.at ha_81 t_282 (by decide)
  have t_286 : At S_95 q_48 10 := tAt_sR eS_95 t_285
  have t_284 : pI S_102 1000 q_48 = 0 := by rw [eS_102]; exact (pI_sO_ne (ne_of_new hq_101 t_286.1)).trans t_283
  have t_288 : At S_102 q_48 10 := by rw [eS_102]; exact At_sO t_286 hq_101
  have t_287 : pI S_109 1000 q_48 = 0 := (((hK_110 q_48 t_288.1).2 (At_ne t_288 ha_107 (by decide))).2.1 1000).trans t_284
  have t_289 : pI S_122 1000 q_48 = 0 := tI_sR eS_122 t_287
  have t_291 : At S_109 q_48 10 := hK_110.at ha_107 t_288 (by decide)
  have t_292 : At S_122 q_48 10 := tAt_sR eS_122 t_291
  have t_290 : pI S_129 1000 q_48 = 0 := by rw [eS_129]; exact (pI_sO_ne (ne_of_new hq_128 t_292.1)).trans t_289
  have t_294 : At S_129 q_48 10 := by rw [eS_129]; exact At_sO t_292 hq_128
  have t_293 : pI S_136 1000 q_48 = 0 := (((hK_137 q_48 t_294.1).2 (At_ne t_294 ha_134 (by decide))).2.1 1000).trans t_290
  have t_295 : pI S_148 1000 q_48 = 0 := tI_sR eS_148 t_293
  have t_296 : pI S_155 1000 q_48 = 0 := by rw [eS_155, pI_sN]; exact t_295
  have t_297 : pI S_164 1000 q_48 = 0 := tI_sR eS_164 t_296
  have t_298 : pI S_171 1000 q_48 = 0 := by rw [eS_171, pI_sN]; exact t_297
  have t_299 : pI S_180 1000 q_48 = 0 := tI_sR eS_180 t_298
  have t_301 : pR S_17 1100 x = some q_1 := by rw [eS_17, pR_sN]; exact h_15
  have t_302 : pR S_26 1100 x = some q_1 := tR_sR eS_26 rfl t_301
  have t_303 : pR S_33 1100 x = some q_1 := by rw [eS_33, pR_sN]; exact t_302
  have t_304 : pR S_42 1100 x = some q_1 := tR_sR eS_42 rfl t_303
  have t_305 : pR S_49 1100 x = some q_1 := by rw [eS_49]; exact (pR_sO_ne (ne_of_new hq_48 t_226.1)).trans t_304
  have t_306 : pR S_56 1100 x = some q_1 := (((hK_57 x t_228.1).2 (At_ne t_228 ha_54 (by decide))).2.2.1 1100).trans t_305
  have t_307 : pR S_69 1100 x = some q_1 := tR_sR eS_69 rfl t_306
  have t_308 : pR S_76 1100 x = some q_1 := by rw [eS_76]; exact (pR_sO_ne (ne_of_new hq_75 t_203.1)).trans t_307
  have t_309 : pR S_83 1100 x = some q_1 := (((hK_84 x t_205.1).2 (At_ne t_205 ha_81 (by decide))).2.2.1 1100).trans t_308
  have t_310 : pR S_95 1100 x = some q_1 := tR_sR eS_95 rfl t_309
  have t_311 : pR S_102 1100 x = some q_1 := by rw [eS_102]; exact (pR_sO_ne (ne_of_new hq_101 t_208.1)).trans t_310
  have t_312 : pR S_109 1100 x = some q_1 := (((hK_110 x t_210.1).2 (At_ne t_210 ha_107 (by decide))).2.2.1 1100).trans t_311
  have t_313 : pR S_122 1100 x = some q_1 := tR_sR eS_122 rfl t_312
  have t_314 : pR S_129 1100 x = some q_1 := by rw [eS_129]; exact (pR_sO_ne (ne_of_new hq_128 t_194.1)).trans t_313
  have t_315 : pR S_136 1100 x = some q_1 := (((hK_137 x t_196.1).2 (At_ne t_196 ha_134 (by decide))).2.2.1 1100).trans t_314
  have t_316 : pR S_148 1100 x = some q_1 := tR_sR eS_148 rfl t_315
  have t_317 : pR S_155 1100 x = some q_1 := by rw [eS_155, pR_sN]; exact t_316
  have t_318 : pR S_164 1100 x = some q_1 := tR_sR eS_164 rfl t_317
  have t_319 : pR S_171 1100 x = some q_1 := by rw [eS_171, pR_sN]; exact t_318
  have t_320 : pR S_180 1100 x = some q_1 := tR_sR eS_180 rfl t_319
  have t_323 : pN S_10 q_1 = 600 := tN_sR eS_10 hn_8
  clear hn_8
  have t_325 : At S_10 q_1 36 := tAt_sR eS_10 ha_7
  have t_324 : pN S_17 q_1 = 600 := by rw [eS_17]; exact (pN_sN_ne (ne_of_new hq_16 t_325.1)).trans t_323
  clear t_323
  have t_326 : pN S_26 q_1 = 600 := tN_sR eS_26 t_324
  clear t_324
  have t_328 : At S_17 q_1 36 := by rw [eS_17]; exact At_sN t_325 hq_16
  have t_329 : At S_26 q_1 36 := tAt_sR eS_26 t_328
  have t_327 : pN S_33 q_1 = 600 := by rw [eS_33]; exact (pN_sN_ne (ne_of_new hq_32 t_329.1)).trans t_326
  clear t_326
  have t_330 : pN S_42 q_1 = 600 := tN_sR eS_42 t_327
  clear t_327
  have t_331 : pN S_49 q_1 = 600 := by rw [eS_49, pN_sO]; exact t_330
  clear t_330
  have t_333 : At S_33 q_1 36 := by rw [eS_33]; exact At_sN t_329 hq_32
  have t_334 : At S_42 q_1 36 := tAt_sR eS_42 t_333
  have t_335 : At S_49 q_1 36 := by rw [eS_49]; exact At_sO t_334 hq_48
  have t_332 : pN S_56 q_1 = 600 := ((hK_57 q_1 t_335.1).2 (At_ne t_335 ha_54 (by decide))).2.2.2.1.trans t_331
  clear t_331
  have t_336 : pN S_69 q_1 = 600 := tN_sR eS_69 t_332
  clear t_332
  have t_337 : pN S_76 q_1 = 600 := by rw [eS_76, pN_sO]; exact t_336
  clear t_336
  have t_339 : At S_56 q_1 36 := hK_57.at ha_54 t_335 (by decide)
  have t_340 : At S_69 q_1 36 := tAt_sR eS_69 t_339
  have t_341 : At S_76 q_1 36 := by rw [eS_76]; exact At_sO t_340 hq_75
  have t_338 : pN S_83 q_1 = 600 := ((hK_84 q_1 t_341.1).2 (At_ne t_341 ha_81 (by decide))).2.2.2.1.trans t_337
  clear t_337
  have t_342 : pN S_95 q_1 = 600 := tN_sR eS_95 t_338
  clear t_338
  have t_343 : pN S_102 q_1 = 600 := by rw [eS_102, pN_sO]; exact t_342
  clear t_342
  have t_345 : At S_83 q_1 36 := hK_84.at ha_81 t_341 (by decide)
  have t_346 : At S_95 q_1 36 := tAt_sR eS_95 t_345
  have t_347 : At S_102 q_1 36 := by rw [eS_102]; exact At_sO t_346 hq_101
  have t_344 : pN S_109 q_1 = 600 := ((hK_110 q_1 t_347.1).2 (At_ne t_347 ha_107 (by decide))).2.2.2.1.trans t_343
  clear t_343
  have t_348 : pN S_122 q_1 = 600 := tN_sR eS_122 t_344
  clear t_344
  have t_349 : pN S_129 q_1 = 600 := by rw [eS_129, pN_sO]; exact t_348
  clear t_348
  have t_351 : At S_109 q_1 36 := hK_110.at ha_107 t_347 (by decide)
  have t_352 : At S_122 q_1 36 := tAt_sR eS_122 t_351
  have t_353 : At S_129 q_1 36 := by rw [eS_129]; exact At_sO t_352 hq_128
  have t_350 : pN S_136 q_1 = 600 := ((hK_137 q_1 t_353.1).2 (At_ne t_353 ha_134 (by decide))).2.2.2.1.trans t_349
  clear t_349
  have t_354 : pN S_148 q_1 = 600 := tN_sR eS_148 t_350
  clear t_350
  have t_356 : At S_136 q_1 36 := hK_137.at ha_134 t_353 (by decide)
  have t_357 : At S_148 q_1 36 := tAt_sR eS_148 t_356
  have t_355 : pN S_155 q_1 = 600 := by rw [eS_155]; exact (pN_sN_ne (ne_of_new hq_154 t_357.1)).trans t_354
  clear t_354
  have t_358 : pN S_164 q_1 = 600 := tN_sR eS_164 t_355
  clear t_355
  have t_360 : At S_155 q_1 36 := by rw [eS_155]; exact At_sN t_357 hq_154
  have t_361 : At S_164 q_1 36 := tAt_sR eS_164 t_360
  have t_359 : pN S_171 q_1 = 600 := by rw [eS_171]; exact (pN_sN_ne (ne_of_new hq_170 t_361.1)).trans t_358
  clear t_358
  have t_362 : pN S_180 q_1 = 600 := tN_sR eS_180 t_359
  clear t_359
  have t_364 : pR S_33 1101 x = some q_16 := by rw [eS_33, pR_sN]; exact h_31
  have t_365 : pR S_42 1101 x = some q_16 := tR_sR eS_42 rfl t_364
  have t_366 : pR S_49 1101 x = some q_16 := by rw [eS_49]; exact (pR_sO_ne (ne_of_new hq_48 t_226.1)).trans t_365
  have t_367 : pR S_56 1101 x = some q_16 := (((hK_57 x t_228.1).2 (At_ne t_228 ha_54 (by decide))).2.2.1 1101).trans t_366
  have t_368 : pR S_69 1101 x = some q_16 := tR_sR eS_69 rfl t_367
  have t_369 : pR S_76 1101 x = some q_16 := by rw [eS_76]; exact (pR_sO_ne (ne_of_new hq_75 t_203.1)).trans t_368
  have t_370 : pR S_83 1101 x = some q_16 := (((hK_84 x t_205.1).2 (At_ne t_205 ha_81 (by decide))).2.2.1 1101).trans t_369
  have t_371 : pR S_95 1101 x = some q_16 := tR_sR eS_95 rfl t_370
  have t_372 : pR S_102 1101 x = some q_16 := by rw [eS_102]; exact (pR_sO_ne (ne_of_new hq_101 t_208.1)).trans t_371
  have t_373 : pR S_109 1101 x = some q_16 := (((hK_110 x t_210.1).2 (At_ne t_210 ha_107 (by decide))).2.2.1 1101).trans t_372
  have t_374 : pR S_122 1101 x = some q_16 := tR_sR eS_122 rfl t_373
  have t_375 : pR S_129 1101 x = some q_16 := by rw [eS_129]; exact (pR_sO_ne (ne_of_new hq_128 t_194.1)).trans t_374
  have t_376 : pR S_136 1101 x = some q_16 := (((hK_137 x t_196.1).2 (At_ne t_196 ha_134 (by decide))).2.2.1 1101).trans t_375
  have t_377 : pR S_148 1101 x = some q_16 := tR_sR eS_148 rfl t_376
  have t_378 : pR S_155 1101 x = some q_16 := by rw [eS_155, pR_sN]; exact t_377
  have t_379 : pR S_164 1101 x = some q_16 := tR_sR eS_164 rfl t_378
  have t_380 : pR S_171 1101 x = some q_16 := by rw [eS_171, pR_sN]; exact t_379
  have t_381 : pR S_180 1101 x = some q_16 := tR_sR eS_180 rfl t_380
  have t_384 : pN S_26 q_16 = 10 := tN_sR eS_26 hn_23
  clear hn_23
  have t_386 : At S_26 q_16 54 := tAt_sR eS_26 ha_22
  have t_385 : pN S_33 q_16 = 10 := by rw [eS_33]; exact (pN_sN_ne (ne_of_new hq_32 t_386.1)).trans t_384
  clear t_384
  have t_387 : pN S_42 q_16 = 10 := tN_sR eS_42 t_385
  clear t_385
  have t_388 : pN S_49 q_16 = 10 := by rw [eS_49, pN_sO]; exact t_387
  clear t_387
  have t_390 : At S_33 q_16 54 := by rw [eS_33]; exact At_sN t_386 hq_32
  have t_391 : At S_42 q_16 54 := tAt_sR eS_42 t_390
  have t_392 : At S_49 q_16 54 := by rw [eS_49]; exact At_sO t_391 hq_48
  have t_389 : pN S_56 q_16 = 10 := ((hK_57 q_16 t_392.1).2 (At_ne t_392 ha_54 (by decide))).2.2.2.1.trans t_388
  clear t_388
  have t_393 : pN S_69 q_16 = 10 := tN_sR eS_69 t_389
  clear t_389
  have t_394 : pN S_76 q_16 = 10 := by rw [eS_76, pN_sO]; exact t_393
  clear t_393
  have t_396 : At S_56 q_16 54 := hK_57.at ha_54 t_392 (by decide)
  have t_397 : At S_69 q_16 54 := tAt_sR eS_69 t_396
  have t_398 : At S_76 q_16 54 := by rw [eS_76]; exact At_sO t_397 hq_75
  have t_395 : pN S_83 q_16 = 10 := ((hK_84 q_16 t_398.1).2 (At_ne t_398 ha_81 (by decide))).2.2.2.1.trans t_394
  clear t_394
  have t_399 : pN S_95 q_16 = 10 := tN_sR eS_95 t_395
  clear t_395
  have t_400 : pN S_102 q_16 = 10 := by rw [eS_102, pN_sO]; exact t_399
  clear t_399
  have t_402 : At S_83 q_16 54 := hK_84.at ha_81 t_398 (by decide)
  have t_403 : At S_95 q_16 54 := tAt_sR eS_95 t_402
  have t_404 : At S_102 q_16 54 := by rw [eS_102]; exact At_sO t_403 hq_101
  have t_401 : pN S_109 q_16 = 10 := ((hK_110 q_16 t_404.1).2 (At_ne t_404 ha_107 (by decide))).2.2.2.1.trans t_400
  clear t_400
  have t_405 : pN S_122 q_16 = 10 := tN_sR eS_122 t_401
  clear t_401
  have t_406 : pN S_129 q_16 = 10 := by rw [eS_129, pN_sO]; exact t_405
  clear t_405
  have t_408 : At S_109 q_16 54 := hK_110.at ha_107 t_404 (by decide)
  have t_409 : At S_122 q_16 54 := tAt_sR eS_122 t_408
  have t_410 : At S_129 q_16 54 := by rw [eS_129]; exact At_sO t_409 hq_128
  have t_407 : pN S_136 q_16 = 10 := ((hK_137 q_16 t_410.1).2 (At_ne t_410 ha_134 (by decide))).2.2.2.1.trans t_406
  clear t_406
  have t_411 : pN S_148 q_16 = 10 := tN_sR eS_148 t_407
  clear t_407
  have t_413 : At S_136 q_16 54 := hK_137.at ha_134 t_410 (by decide)
  have t_414 : At S_148 q_16 54 := tAt_sR eS_148 t_413
  have t_412 : pN S_155 q_16 = 10 := by rw [eS_155]; exact (pN_sN_ne (ne_of_new hq_154 t_414.1)).trans t_411
  clear t_411
  have t_415 : pN S_164 q_16 = 10 := tN_sR eS_164 t_412
  clear t_412
  have t_417 : At S_155 q_16 54 := by rw [eS_155]; exact At_sN t_414 hq_154
  have t_418 : At S_164 q_16 54 := tAt_sR eS_164 t_417
  have t_416 : pN S_171 q_16 = 10 := by rw [eS_171]; exact (pN_sN_ne (ne_of_new hq_170 t_418.1)).trans t_415
  clear t_415
  have t_419 : pN S_180 q_16 = 10 := tN_sR eS_180 t_416
  clear t_416
  have t_421 : pR S_49 1103 x = some q_32 := by rw [eS_49]; exact (pR_sO_ne (ne_of_new hq_48 t_226.1)).trans h_47
  have t_422 : pR S_56 1103 x = some q_32 := (((hK_57 x t_228.1).2 (At_ne t_228 ha_54 (by decide))).2.2.1 1103).trans t_421
  have t_423 : pR S_69 1103 x = some q_32 := tR_sR eS_69 rfl t_422
  have t_424 : pR S_76 1103 x = some q_32 := by rw [eS_76]; exact (pR_sO_ne (ne_of_new hq_75 t_203.1)).trans t_423
  have t_425 : pR S_83 1103 x = some q_32 := (((hK_84 x t_205.1).2 (At_ne t_205 ha_81 (by decide))).2.2.1 1103).trans t_424
  have t_426 : pR S_95 1103 x = some q_32 := tR_sR eS_95 rfl t_425
  have t_427 : pR S_102 1103 x = some q_32 := by rw [eS_102]; exact (pR_sO_ne (ne_of_new hq_101 t_208.1)).trans t_426
  have t_428 : pR S_109 1103 x = some q_32 := (((hK_110 x t_210.1).2 (At_ne t_210 ha_107 (by decide))).2.2.1 1103).trans t_427
  have t_429 : pR S_122 1103 x = some q_32 := tR_sR eS_122 rfl t_428
  have t_430 : pR S_129 1103 x = some q_32 := by rw [eS_129]; exact (pR_sO_ne (ne_of_new hq_128 t_194.1)).trans t_429
  have t_431 : pR S_136 1103 x = some q_32 := (((hK_137 x t_196.1).2 (At_ne t_196 ha_134 (by decide))).2.2.1 1103).trans t_430
  have t_432 : pR S_148 1103 x = some q_32 := tR_sR eS_148 rfl t_431
  have t_433 : pR S_155 1103 x = some q_32 := by rw [eS_155, pR_sN]; exact t_432
  have t_434 : pR S_164 1103 x = some q_32 := tR_sR eS_164 rfl t_433
  have t_435 : pR S_171 1103 x = some q_32 := by rw [eS_171, pR_sN]; exact t_434
  have t_436 : pR S_180 1103 x = some q_32 := tR_sR eS_180 rfl t_435
  have t_439 : pN S_42 q_32 = 4 := tN_sR eS_42 hn_39
  clear hn_39
  have t_440 : pN S_49 q_32 = 4 := by rw [eS_49, pN_sO]; exact t_439
  clear t_439
  have t_442 : At S_42 q_32 18 := tAt_sR eS_42 ha_38
  have t_443 : At S_49 q_32 18 := by rw [eS_49]; exact At_sO t_442 hq_48
  have t_441 : pN S_56 q_32 = 4 := ((hK_57 q_32 t_443.1).2 (At_ne t_443 ha_54 (by decide))).2.2.2.1.trans t_440
  clear t_440
  have t_444 : pN S_69 q_32 = 4 := tN_sR eS_69 t_441
  clear t_441
  have t_445 : pN S_76 q_32 = 4 := by rw [eS_76, pN_sO]; exact t_444
  clear t_444
  have t_447 : At S_56 q_32 18 := hK_57.at ha_54 t_443 (by decide)
  have t_448 : At S_69 q_32 18 := tAt_sR eS_69 t_447
  have t_449 : At S_76 q_32 18 := by rw [eS_76]; exact At_sO t_448 hq_75
  have t_446 : pN S_83 q_32 = 4 := ((hK_84 q_32 t_449.1).2 (At_ne t_449 ha_81 (by decide))).2.2.2.1.trans t_445
  clear t_445
  have t_450 : pN S_95 q_32 = 4 := tN_sR eS_95 t_446
  clear t_446
  have t_451 : pN S_102 q_32 = 4 := by rw [eS_102, pN_sO]; exact t_450
  clear t_450
  have t_453 : At S_83 q_32 18 := hK_84.at ha_81 t_449 (by decide)
  have t_454 : At S_95 q_32 18 := tAt_sR eS_95 t_453
  have t_455 : At S_102 q_32 18 := by rw [eS_102]; exact At_sO t_454 hq_101
  have t_452 : pN S_109 q_32 = 4 := ((hK_110 q_32 t_455.1).2 (At_ne t_455 ha_107 (by decide))).2.2.2.1.trans t_451
  clear t_451
  have t_456 : pN S_122 q_32 = 4 := tN_sR eS_122 t_452
  clear t_452
  have t_457 : pN S_129 q_32 = 4 := by rw [eS_129, pN_sO]; exact t_456
  clear t_456
  have t_459 : At S_109 q_32 18 := hK_110.at ha_107 t_455 (by decide)
  have t_460 : At S_122 q_32 18 := tAt_sR eS_122 t_459
  have t_461 : At S_129 q_32 18 := by rw [eS_129]; exact At_sO t_460 hq_128
  have t_458 : pN S_136 q_32 = 4 := ((hK_137 q_32 t_461.1).2 (At_ne t_461 ha_134 (by decide))).2.2.2.1.trans t_457
  clear t_457
  have t_462 : pN S_148 q_32 = 4 := tN_sR eS_148 t_458
  clear t_458
  have t_464 : At S_136 q_32 18 := hK_137.at ha_134 t_461 (by decide)
  have t_465 : At S_148 q_32 18 := tAt_sR eS_148 t_464
  have t_463 : pN S_155 q_32 = 4 := by rw [eS_155]; exact (pN_sN_ne (ne_of_new hq_154 t_465.1)).trans t_462
  clear t_462
  have t_466 : pN S_164 q_32 = 4 := tN_sR eS_164 t_463
  clear t_463
  have t_468 : At S_155 q_32 18 := by rw [eS_155]; exact At_sN t_465 hq_154
  have t_469 : At S_164 q_32 18 := tAt_sR eS_164 t_468
  have t_467 : pN S_171 q_32 = 4 := by rw [eS_171]; exact (pN_sN_ne (ne_of_new hq_170 t_469.1)).trans t_466
  clear t_466
  have t_470 : pN S_180 q_32 = 4 := tN_sR eS_180 t_467
  clear t_467
  have t_474 : pR S_102 1106 x = some q_75 := by rw [eS_102]; exact (pR_sO_ne (ne_of_new hq_101 t_208.1)).trans h_100
  have t_475 : pR S_109 1106 x = some q_75 := (((hK_110 x t_210.1).2 (At_ne t_210 ha_107 (by decide))).2.2.1 1106).trans t_474
  have t_476 : pR S_122 1106 x = some q_75 := tR_sR eS_122 rfl t_475
  have t_477 : pR S_129 1106 x = some q_75 := by rw [eS_129]; exact (pR_sO_ne (ne_of_new hq_128 t_194.1)).trans t_476
  have t_478 : pR S_136 1106 x = some q_75 := (((hK_137 x t_196.1).2 (At_ne t_196 ha_134 (by decide))).2.2.1 1106).trans t_477
  have t_479 : pR S_148 1106 x = some q_75 := tR_sR eS_148 rfl t_478
  have t_480 : pR S_155 1106 x = some q_75 := by rw [eS_155, pR_sN]; exact t_479
  have t_481 : pR S_164 1106 x = some q_75 := tR_sR eS_164 rfl t_480
  have t_482 : pR S_171 1106 x = some q_75 := by rw [eS_171, pR_sN]; exact t_481
  have t_483 : pR S_180 1106 x = some q_75 := tR_sR eS_180 rfl t_482
  have t_488 : pR S_155 1108 x = some q_128 := by rw [eS_155, pR_sN]; exact h_153
  have t_489 : pR S_164 1108 x = some q_128 := tR_sR eS_164 rfl t_488
  have t_490 : pR S_171 1108 x = some q_128 := by rw [eS_171, pR_sN]; exact t_489
  have t_491 : pR S_180 1108 x = some q_128 := tR_sR eS_180 rfl t_490
  have t_496 : pN S_164 q_154 = 16 := tN_sR eS_164 hn_161
  clear hn_161
  have t_498 : At S_164 q_154 17 := tAt_sR eS_164 ha_160
  have t_497 : pN S_171 q_154 = 16 := by rw [eS_171]; exact (pN_sN_ne (ne_of_new hq_170 t_498.1)).trans t_496
  clear t_496
  have t_499 : pN S_180 q_154 = 16 := tN_sR eS_180 t_497
  clear t_497
  have t_503 : pN S_180 q_170 = 60 := tN_sR eS_180 hn_177
  clear hn_177
  have L_188 : ∀ (n : Nat) (T_190 : PS) (H : Heap) (locs : List Loc) (ls : Array Slot) (i1_189 : Int32) (i1_189_z : Int) (cc_505 nn_506 : Nat), ((16 - i1_189_z).toNat = n) → (Wd G cy (AS S s.heap.size) s.heap T_190 H locs) → (i1_189.toInt = i1_189_z) → (0 ≤ i1_189_z ∧ i1_189_z ≤ 16) → (At T_190 x 191) → (Kq S T_190 x) → (GX T_190) → (Phc T_190 = Phc S + 320) → (Phs T_190 = Phs S + 604000) → (ShI T_190 q_154 i1_189_z) → (pI T_190 1102 x = 0) → (pI T_190 1104 x = 0) → (pI T_190 801 q_101 = 0) → (pI T_190 1000 q_48 = 0) → (pR T_190 1100 x = some q_1) → (At T_190 q_1 36) → (pN T_190 q_1 = 600) → (pR T_190 1101 x = some q_16) → (At T_190 q_16 54) → (pN T_190 q_16 = 10) → (pR T_190 1103 x = some q_32) → (At T_190 q_32 18) → (pN T_190 q_32 = 4) → (pR T_190 1105 x = some q_48) → (At T_190 q_48 10) → (pR T_190 1106 x = some q_75) → (At T_190 q_75 6) → (pR T_190 1107 x = some q_101) → (At T_190 q_101 8) → (pR T_190 1108 x = some q_128) → (At T_190 q_128 1) → (pR T_190 1109 x = some q_154) → (At T_190 q_154 17) → (pN T_190 q_154 = 16) → (pR T_190 1111 x = some q_170) → (At T_190 q_170 194) → (pN T_190 q_170 = 60) → (cc_505 = 26 + 2 * (i1_189_z).toNat) → (nn_506 = 1520 + 13 * (i1_189_z).toNat) → (lv_has ls 2 [(1, .int (i1_189)), (0, .ref x)]) → W p l e ({ frames := 4, cells := 58, slots := 1728, locals := 192 }) s m [.ref x].toArray below meth c H locs cc_505 nn_506 QQ (F0 m 93 ls []) := by
    intro n
    induction n using Nat.strongRecOn with
    | ind n ih =>
    intro T_190 H locs ls i1_189 i1_189_z cc_505 nn_506 hn hw hz_i1_189 hr_i1_189 ha_x_L_191 hK_T_190 hg_T_190 hpc_T_190 hps_T_190 iv_192 ik_243 ik_266 ik_277 ik_300 ik_321 ik_322 ik_363 ik_382 ik_383 ik_420 ik_437 ik_438 ik_471 ik_472 ik_473 ik_484 ik_485 ik_486 ik_487 ik_492 ik_493 ik_494 ik_495 ik_500 ik_501 ik_502 ik_504 hcc_507 hnn_508 hl
    have rg_509 : (-2147483648) ≤ i1_189_z ∧ i1_189_z ≤ 2147483647 := by rw [← hz_i1_189]; exact ⟨z_lo _, z_hi _⟩
    refine lv_iload_n X.1 X.2.1 dX11_init_93 rfl (lv_at hl 0 rfl) ?_
    refine lv_bipush (v := 16) X.1 X.2.1 dX11_init_94 (by decide) ?_
    refine lv_icmp_ge (tgt := 118) X.1 X.2.1 dX11_init_96 (by decide) (fun c_510 => ?_) (fun c_510 => ?_)
    · have z_b_511 := trivial
      have k_512 : i1_189_z ≥ 16 := z_le ti_16 hz_i1_189 c_510
      have nd_513 := nodup_of hw
      obtain ⟨S_514, eS_514⟩ : ∃ T, T = sK T_190 x 11 := ⟨_, rfl⟩
      have hw := Wd_sK (k := 11) hw ha_x_L_191 rfl; rw [← eS_514] at hw
      have hg9 : GX S_514 := by rw [eS_514]; exact GX_sK hg_T_190 ha_x_L_191 (by decide +kernel) (mk_11 ⟨q_1, (by rw [pR_sK]; exact ik_321), At_sK ha_x_L_191 ik_322 (by decide), by rw [pN_sK]; exact ik_363⟩ ⟨q_16, (by rw [pR_sK]; exact ik_382), At_sK ha_x_L_191 ik_383 (by decide), by rw [pN_sK]; exact ik_420⟩ (by rw [pI_sK, ik_243]; exact ⟨by rw [ti_0]; omega, by rw [ti_0]; omega⟩) ⟨q_32, (by rw [pR_sK]; exact ik_437), At_sK ha_x_L_191 ik_438 (by decide), by rw [pN_sK]; exact ik_471⟩ (by rw [pI_sK, ik_266]; exact ⟨by rw [ti_0]; omega, by rw [ti_0]; omega⟩) ⟨q_48, (by rw [pR_sK]; exact ik_472), At_sK ha_x_L_191 ik_473 (by decide)⟩ ⟨q_75, (by rw [pR_sK]; exact ik_484), At_sK ha_x_L_191 ik_485 (by decide)⟩ ⟨q_101, (by rw [pR_sK]; exact ik_486), At_sK ha_x_L_191 ik_487 (by decide)⟩ ⟨q_128, (by rw [pR_sK]; exact ik_492), At_sK ha_x_L_191 ik_493 (by decide)⟩ ⟨q_154, (by rw [pR_sK]; exact ik_494), At_sK ha_x_L_191 ik_495 (by decide), by rw [pN_sK]; exact ik_500⟩ ⟨q_170, (by rw [pR_sK]; exact ik_501), At_sK ha_x_L_191 ik_502 (by decide), by rw [pN_sK]; exact ik_504⟩)
      have ha9 : At S_514 x 11 := by rw [eS_514]; exact At_nK ha_x_L_191
      have hk9 : Kq S S_514 x := hK_T_190.sK eS_514
      have hPhc9 : Phc S_514 = Phc S + 57920 := by rw [show Phc S_514 = Ph fC 8 14400 S_514 from rfl, Ph_sK nd_513 ha_x_L_191 (by decide) eS_514, ph_11 ha9 (show pI S_514 1104 x = 0 by rw [eS_514, pI_sK]; exact ik_266)]; show Phc T_190 + _ = _; omega
      have hPhs9 : Phs S_514 = Phs S + 788000 := by rw [show Phs S_514 = Ph fS 15100 46000 S_514 from rfl, Ph_sK nd_513 ha_x_L_191 (by decide) eS_514, ph_11 ha9 (show pI S_514 1104 x = 0 by rw [eS_514, pI_sK]; exact ik_266)]; show Phs T_190 + _ = _; omega
      rw [hQQ]
      exact ret_v X hw hr hlocks (by show cc_505 ≤ 58; omega) (by show nn_506 ≤ 1728; omega) ⟨hk9, hg9, ha9, hPhc9, hPhs9, ⟨q_101, by rw [eS_514, pR_sK]; exact ik_486, by rw [eS_514]; exact At_sK ha_x_L_191 ik_487 (by decide), by rw [eS_514, pI_sK]; exact ik_277, by rw [eS_514, pI_sK]; exact ik_243, by rw [eS_514, pI_sK]; exact ik_266, q_48, by rw [eS_514, pR_sK]; exact ik_472, by rw [eS_514]; exact At_sK ha_x_L_191 ik_473 (by decide), by rw [eS_514, pI_sK]; exact ik_300, q_154, by rw [eS_514, pR_sK]; exact ik_494, by rw [eS_514, show (16 : Int) = i1_189_z by omega]; exact ShI_sK ha_x_L_191 (by decide) iv_192⟩⟩ dX11_init_118
    · have z_b_515 := trivial
      have k_516 : i1_189_z < 16 := z_nle ti_16 hz_i1_189 c_510
      refine lv_aload_n X.1 X.2.1 dX11_init_99 rfl (lv_at hl 1 rfl) ?_
      refine r_getR (g := 1109) X hw ha_x_L_191 rfl 9 ik_494 (by decide) rfl inn_X11_init_11 (by decide) (X.2.2.2.1 (.fieldLink RX11 55 "SilkMill" "shelf" "[LSilkMill$Place;") (by decide +kernel)) rfl (gv_1109 _ _) dX11_init_100 ?_
      refine lv_iload_n X.1 X.2.1 dX11_init_103 rfl (lv_at hl 0 rfl) ?_
      refine r_new X hw 183 3 (nn_506 + 5) (cc_505 + 1) rfl tyX3 (by decide) rfl inn_X11_init_3 tyX3_ok (X.2.2.2.1 (.classLink RX11 53 RX3) (by decide +kernel)) (X.2.2.2.1 (.instantiable RX3 5) (by decide +kernel)) (X.2.2.2.1 (.initialized RX3) (by decide +kernel)) (zo_3 _) zd_3 (by show cc_505 + 1 ≤ (cc_505 + 1); omega) (by show nn_506 + 5 ≤ (nn_506 + 5); omega) (by show (cc_505 + 1) ≤ 58; omega) (by show (nn_506 + 5) ≤ 1728; omega) dX11_init_104 (fun q_517 H hq_517 hw => ?_)
      obtain ⟨S_518, eS_518⟩ : ∃ T, T = sO T_190 q_517 183 := ⟨_, rfl⟩
      rw [← eS_518] at hw
      have ph_519 : Phc S_518 = Phc S + 320 := (show Phc S_518 = Phc T_190 from Ph_sO hg_T_190 hq_517 eS_518 (by decide)).trans hpc_T_190
      have ph_520 : Phs S_518 = Phs S + 604000 := (show Phs S_518 = Phs T_190 from Ph_sO hg_T_190 hq_517 eS_518 (by decide)).trans hps_T_190
      clear hpc_T_190
      clear hps_T_190
      have hK_521 : Kq S S_518 x := hK_T_190.sO hq_517 eS_518
      have hg_522 : GX S_518 := by rw [eS_518]; exact GX_O hg_T_190 hq_517 (by decide +kernel)
      have hn0_q_517 := hK_T_190.new hq_517
      have ha_523 : At S_518 q_517 183 := by rw [eS_518]; exact At_nO _ _ _
      have hzI_q_517 : ∀ g, pI S_518 g q_517 = 0 := fun g => by rw [eS_518]; exact pI_sO_new
      have hzR_q_517 : ∀ g, pR S_518 g q_517 = none := fun g => by rw [eS_518]; exact if_pos rfl
      refine lv_dup X.1 X.2.1 dX11_init_107 rfl ?_
      refine k_v (rm := { frames := 2, cells := 1, slots := 8, locals := 96 }) (av := [.ref q_517]) X hw (va_runIN (As := []) (rest := [.ref q_517, .int (i1_189), .ref q_154]) (cfix X) (k_X3_init3 l G cy κ S_518 _ q_517 hg_522 ha_523 hzI_q_517 hzR_q_517) ⟨(va_cnB (host := RX11) 0 X.2.2.2.1 gX11_init_X3_init_n62 rfl rfl rfl (X.2.2.2.2.2.2.2.1.2.1 (RX11, 62, yX3_init) (by decide +kernel)) (X.2.2.2.1 (.initialized RX3) (by decide +kernel)) (by decide +kernel) ⟨Nat.le_of_ble_eq_true rfl, Nat.le_of_ble_eq_true rfl⟩), rfl, (X.2.2.2.1 (.instanceMethod yX3_init) (by decide +kernel))⟩ (pre_S X hw _) rfl rfl hl.1 rfl (lv_room (Nat.le_of_ble_eq_true rfl)) dX11_init_108 ⟨(by show (cc_505 + 1) + 1 ≤ 58; omega), (by show (nn_506 + 5) + 8 ≤ 1728; omega)⟩) ((cc_505 + 1) + 1) ((nn_506 + 5) + 8) (by show (cc_505 + 1) + 1 ≤ ((cc_505 + 1) + 1); omega) (by show (nn_506 + 5) + 8 ≤ ((nn_506 + 5) + 8); omega) (fun S_525 H locs hp hw hfr hnw => ?_)
      obtain ⟨hK_526, hg_527, ha_528, ph_529, ph_530, kx_531, kx_532, kx_533, kx_534, kx_535⟩ := hp
      have hK_536 : Kq S S_525 x := hK_521.sub hn0_q_517 hK_526
      have ph_537 : Phc S_525 = Phc S + 320 := by omega
      have ph_538 : Phs S_525 = Phs S + 604000 := by omega
      clear ph_519
      clear ph_520
      clear ph_529
      clear ph_530
      have t_539 : At S_518 q_154 17 := by rw [eS_518]; exact At_sO ik_495 hq_517
      have t_540 : At S_525 q_154 17 := hK_526.at ha_523 t_539 (by decide)
      have t_541 : pN S_518 q_154 = 16 := by rw [eS_518, pN_sO]; exact ik_500
      have t_543 : At S_518 q_154 17 := by rw [eS_518]; exact At_sO ik_495 hq_517
      have t_542 : pN S_525 q_154 = 16 := ((hK_526 q_154 t_543.1).2 (At_ne t_543 ha_523 (by decide))).2.2.2.1.trans t_541
      clear t_541
      refine r_aast X hw t_540 rfl ha_528 rfl (by decide) (by decide) rfl rfl (by rw [t_542]; exact z_ix hz_i1_189 (by omega) (by omega)) dX11_init_111 (fun H locs hw => ?_)
      obtain ⟨S_544, eS_544⟩ : ∃ T, T = sB S_525 q_154 (va_up (pB S_525 q_154) (Int32.toNatClampNeg (i1_189)) (some q_517)) := ⟨_, rfl⟩
      rw [← eS_544] at hw
      have ph_545 : Phc S_544 = Phc S + 320 := (show Phc S_544 = Phc S_525 from Ph_sB eS_544).trans ph_537
      have ph_546 : Phs S_544 = Phs S + 604000 := (show Phs S_544 = Phs S_525 from Ph_sB eS_544).trans ph_538
      clear ph_537
      clear ph_538
      have hK_547 : Kq S S_544 x := hK_536.sB hn0_q_154 eS_544
      have hg_548 : GX S_544 := by rw [eS_544]; exact uB_17 hg_527 t_540 (fun q hq => by cases hq; exact ha_528)
      have zn_550 := z_nat (x := i1_189) hz_i1_189 (by omega)
      have sh_549 : ShI S_544 q_154 (i1_189_z + 1) := ShI_step iv_192 hq_517 eS_518 hK_526 eS_544 ik_495.1 (by omega) ha_528 kx_531 kx_533 kx_534 kx_535
      obtain ⟨x_551, ex_551⟩ : ∃ y : Int32, y = i1_189 + 1 := ⟨_, rfl⟩
      have z_552 : x_551.toInt = i1_189_z + 1 := z_add ex_551 hz_i1_189 ti_1 (by omega) (by omega)
      refine lv_iinc (v := x_551) (lv' := [(1, .int (x_551)), (0, .ref x)]) X.1 X.2.1 dX11_init_112 hl (k := 0) rfl (by rw [ex_551]; rfl) (by decide) rfl (fun ls hl => ?_)
      refine lv_goto (tgt := 93) X.1 X.2.1 dX11_init_115 (by decide) ?_
      have t_553 : At S_518 x 191 := by rw [eS_518]; exact At_sO ha_x_L_191 hq_517
      have t_554 : At S_525 x 191 := hK_526.at ha_523 t_553 (by decide)
      have t_555 : At S_544 x 191 := tAt_sB eS_544 t_554
      have t_556 : pI S_518 1102 x = 0 := by rw [eS_518]; exact (pI_sO_ne (ne_of_new hq_517 ha_x_L_191.1)).trans ik_243
      have t_558 : At S_518 x 191 := by rw [eS_518]; exact At_sO ha_x_L_191 hq_517
      have t_557 : pI S_525 1102 x = 0 := (((hK_526 x t_558.1).2 (At_ne t_558 ha_523 (by decide))).2.1 1102).trans t_556
      have t_559 : pI S_544 1102 x = 0 := tI_sB eS_544 t_557
      have t_560 : pI S_518 1104 x = 0 := by rw [eS_518]; exact (pI_sO_ne (ne_of_new hq_517 ha_x_L_191.1)).trans ik_266
      have t_561 : pI S_525 1104 x = 0 := (((hK_526 x t_558.1).2 (At_ne t_558 ha_523 (by decide))).2.1 1104).trans t_560
      have t_562 : pI S_544 1104 x = 0 := tI_sB eS_544 t_561
      have t_563 : pI S_518 801 q_101 = 0 := by rw [eS_518]; exact (pI_sO_ne (ne_of_new hq_517 ik_487.1)).trans ik_277
      have t_565 : At S_518 q_101 8 := by rw [eS_518]; exact At_sO ik_487 hq_517
      have t_564 : pI S_525 801 q_101 = 0 := (((hK_526 q_101 t_565.1).2 (At_ne t_565 ha_523 (by decide))).2.1 801).trans t_563
      have t_566 : pI S_544 801 q_101 = 0 := tI_sB eS_544 t_564
      have t_567 : pI S_518 1000 q_48 = 0 := by rw [eS_518]; exact (pI_sO_ne (ne_of_new hq_517 ik_473.1)).trans ik_300
      have t_569 : At S_518 q_48 10 := by rw [eS_518]; exact At_sO ik_473 hq_517
      have t_568 : pI S_525 1000 q_48 = 0 := (((hK_526 q_48 t_569.1).2 (At_ne t_569 ha_523 (by decide))).2.1 1000).trans t_567
      have t_570 : pI S_544 1000 q_48 = 0 := tI_sB eS_544 t_568
      have t_571 : pR S_518 1100 x = some q_1 := by rw [eS_518]; exact (pR_sO_ne (ne_of_new hq_517 ha_x_L_191.1)).trans ik_321
      have t_572 : pR S_525 1100 x = some q_1 := (((hK_526 x t_558.1).2 (At_ne t_558 ha_523 (by decide))).2.2.1 1100).trans t_571
      have t_573 : pR S_544 1100 x = some q_1 := tR_sB eS_544 t_572
      have t_574 : At S_518 q_1 36 := by rw [eS_518]; exact At_sO ik_322 hq_517
      have t_575 : At S_525 q_1 36 := hK_526.at ha_523 t_574 (by decide)
      have t_576 : At S_544 q_1 36 := tAt_sB eS_544 t_575
      have t_577 : pN S_518 q_1 = 600 := by rw [eS_518, pN_sO]; exact ik_363
      have t_579 : At S_518 q_1 36 := by rw [eS_518]; exact At_sO ik_322 hq_517
      have t_578 : pN S_525 q_1 = 600 := ((hK_526 q_1 t_579.1).2 (At_ne t_579 ha_523 (by decide))).2.2.2.1.trans t_577
      clear t_577
      have t_580 : pN S_544 q_1 = 600 := tN_sB eS_544 t_578
      clear t_578
      have t_581 : pR S_518 1101 x = some q_16 := by rw [eS_518]; exact (pR_sO_ne (ne_of_new hq_517 ha_x_L_191.1)).trans ik_382
      have t_582 : pR S_525 1101 x = some q_16 := (((hK_526 x t_558.1).2 (At_ne t_558 ha_523 (by decide))).2.2.1 1101).trans t_581
      have t_583 : pR S_544 1101 x = some q_16 := tR_sB eS_544 t_582
      have t_584 : At S_518 q_16 54 := by rw [eS_518]; exact At_sO ik_383 hq_517
      have t_585 : At S_525 q_16 54 := hK_526.at ha_523 t_584 (by decide)
      have t_586 : At S_544 q_16 54 := tAt_sB eS_544 t_585
      have t_587 : pN S_518 q_16 = 10 := by rw [eS_518, pN_sO]; exact ik_420
      have t_589 : At S_518 q_16 54 := by rw [eS_518]; exact At_sO ik_383 hq_517
      have t_588 : pN S_525 q_16 = 10 := ((hK_526 q_16 t_589.1).2 (At_ne t_589 ha_523 (by decide))).2.2.2.1.trans t_587
      clear t_587
      have t_590 : pN S_544 q_16 = 10 := tN_sB eS_544 t_588
      clear t_588
      have t_591 : pR S_518 1103 x = some q_32 := by rw [eS_518]; exact (pR_sO_ne (ne_of_new hq_517 ha_x_L_191.1)).trans ik_437
      have t_592 : pR S_525 1103 x = some q_32 := (((hK_526 x t_558.1).2 (At_ne t_558 ha_523 (by decide))).2.2.1 1103).trans t_591
      have t_593 : pR S_544 1103 x = some q_32 := tR_sB eS_544 t_592
      have t_594 : At S_518 q_32 18 := by rw [eS_518]; exact At_sO ik_438 hq_517
      have t_595 : At S_525 q_32 18 := hK_526.at ha_523 t_594 (by decide)
      have t_596 : At S_544 q_32 18 := tAt_sB eS_544 t_595
      have t_597 : pN S_518 q_32 = 4 := by rw [eS_518, pN_sO]; exact ik_471
      have t_599 : At S_518 q_32 18 := by rw [eS_518]; exact At_sO ik_438 hq_517
      have t_598 : pN S_525 q_32 = 4 := ((hK_526 q_32 t_599.1).2 (At_ne t_599 ha_523 (by decide))).2.2.2.1.trans t_597
      clear t_597
      have t_600 : pN S_544 q_32 = 4 := tN_sB eS_544 t_598
      clear t_598
      have t_601 : pR S_518 1105 x = some q_48 := by rw [eS_518]; exact (pR_sO_ne (ne_of_new hq_517 ha_x_L_191.1)).trans ik_472
      have t_602 : pR S_525 1105 x = some q_48 := (((hK_526 x t_558.1).2 (At_ne t_558 ha_523 (by decide))).2.2.1 1105).trans t_601
      have t_603 : pR S_544 1105 x = some q_48 := tR_sB eS_544 t_602
      have t_604 : At S_525 q_48 10 := hK_526.at ha_523 t_569 (by decide)
      have t_605 : At S_544 q_48 10 := tAt_sB eS_544 t_604
      have t_606 : pR S_518 1106 x = some q_75 := by rw [eS_518]; exact (pR_sO_ne (ne_of_new hq_517 ha_x_L_191.1)).trans ik_484
      have t_607 : pR S_525 1106 x = some q_75 := (((hK_526 x t_558.1).2 (At_ne t_558 ha_523 (by decide))).2.2.1 1106).trans t_606
      have t_608 : pR S_544 1106 x = some q_75 := tR_sB eS_544 t_607
      have t_609 : At S_518 q_75 6 := by rw [eS_518]; exact At_sO ik_485 hq_517
      have t_610 : At S_525 q_75 6 := hK_526.at ha_523 t_609 (by decide)
      have t_611 : At S_544 q_75 6 := tAt_sB eS_544 t_610
      have t_612 : pR S_518 1107 x = some q_101 := by rw [eS_518]; exact (pR_sO_ne (ne_of_new hq_517 ha_x_L_191.1)).trans ik_486
      have t_613 : pR S_525 1107 x = some q_101 := (((hK_526 x t_558.1).2 (At_ne t_558 ha_523 (by decide))).2.2.1 1107).trans t_612
      have t_614 : pR S_544 1107 x = some q_101 := tR_sB eS_544 t_613
      have t_615 : At S_525 q_101 8 := hK_526.at ha_523 t_565 (by decide)
      have t_616 : At S_544 q_101 8 := tAt_sB eS_544 t_615
      have t_617 : pR S_518 1108 x = some q_128 := by rw [eS_518]; exact (pR_sO_ne (ne_of_new hq_517 ha_x_L_191.1)).trans ik_492
      have t_618 : pR S_525 1108 x = some q_128 := (((hK_526 x t_558.1).2 (At_ne t_558 ha_523 (by decide))).2.2.1 1108).trans t_617
      have t_619 : pR S_544 1108 x = some q_128 := tR_sB eS_544 t_618
      have t_620 : At S_518 q_128 1 := by rw [eS_518]; exact At_sO ik_493 hq_517
      have t_621 : At S_525 q_128 1 := hK_526.at ha_523 t_620 (by decide)
      have t_622 : At S_544 q_128 1 := tAt_sB eS_544 t_621
      have t_623 : pR S_518 1109 x = some q_154 := by rw [eS_518]; exact (pR_sO_ne (ne_of_new hq_517 ha_x_L_191.1)).trans ik_494
      have t_624 : pR S_525 1109 x = some q_154 := (((hK_526 x t_558.1).2 (At_ne t_558 ha_523 (by decide))).2.2.1 1109).trans t_623
      have t_625 : pR S_544 1109 x = some q_154 := tR_sB eS_544 t_624
      have t_626 : At S_544 q_154 17 := tAt_sB eS_544 t_540
      have t_627 : pN S_544 q_154 = 16 := tN_sB eS_544 t_542
      clear t_542
      have t_628 : pR S_518 1111 x = some q_170 := by rw [eS_518]; exact (pR_sO_ne (ne_of_new hq_517 ha_x_L_191.1)).trans ik_501
      have t_629 : pR S_525 1111 x = some q_170 := (((hK_526 x t_558.1).2 (At_ne t_558 ha_523 (by decide))).2.2.1 1111).trans t_628
      have t_630 : pR S_544 1111 x = some q_170 := tR_sB eS_544 t_629
      have t_631 : At S_518 q_170 194 := by rw [eS_518]; exact At_sO ik_502 hq_517
      have t_632 : At S_525 q_170 194 := hK_526.at ha_523 t_631 (by decide)
      have t_633 : At S_544 q_170 194 := tAt_sB eS_544 t_632
      have t_634 : pN S_518 q_170 = 60 := by rw [eS_518, pN_sO]; exact ik_504
      have t_636 : At S_518 q_170 194 := by rw [eS_518]; exact At_sO ik_502 hq_517
      have t_635 : pN S_525 q_170 = 60 := ((hK_526 q_170 t_636.1).2 (At_ne t_636 ha_523 (by decide))).2.2.2.1.trans t_634
      clear t_634
      have t_637 : pN S_544 q_170 = 60 := tN_sB eS_544 t_635
      clear t_635
      exact ih _ (by omega) _ _ _ _ (x_551) (x_551.toInt) (((cc_505 + 1) + 1)) (((nn_506 + 5) + 8)) rfl hw rfl (by omega) t_555 hK_547 hg_548 ph_545 ph_546 (by rw [show x_551.toInt = i1_189_z + 1 by omega]; exact sh_549) t_559 t_562 t_566 t_570 t_573 t_576 t_580 t_583 t_586 t_590 t_593 t_596 t_600 t_603 t_605 t_608 t_611 t_614 t_616 t_619 t_622 t_625 t_626 t_627 t_630 t_633 t_637 (by omega) (by omega) (lv_sub hl [0, 1] rfl)
  have t_638 : At S_180 x 191 := tAt_sR eS_180 t_179
  have t_639 : At S_171 q_1 36 := by rw [eS_171]; exact At_sN t_361 hq_170
  have t_640 : At S_180 q_1 36 := tAt_sR eS_180 t_639
  have t_641 : At S_171 q_16 54 := by rw [eS_171]; exact At_sN t_418 hq_170
  have t_642 : At S_180 q_16 54 := tAt_sR eS_180 t_641
  have t_643 : At S_171 q_32 18 := by rw [eS_171]; exact At_sN t_469 hq_170
  have t_644 : At S_180 q_32 18 := tAt_sR eS_180 t_643
  have t_645 : At S_136 q_48 10 := hK_137.at ha_134 t_294 (by decide)
  have t_646 : At S_148 q_48 10 := tAt_sR eS_148 t_645
  have t_647 : At S_155 q_48 10 := by rw [eS_155]; exact At_sN t_646 hq_154
  have t_648 : At S_164 q_48 10 := tAt_sR eS_164 t_647
  have t_649 : At S_171 q_48 10 := by rw [eS_171]; exact At_sN t_648 hq_170
  have t_650 : At S_180 q_48 10 := tAt_sR eS_180 t_649
  have t_651 : At S_95 q_75 6 := tAt_sR eS_95 ha_86
  have t_652 : At S_102 q_75 6 := by rw [eS_102]; exact At_sO t_651 hq_101
  have t_653 : At S_109 q_75 6 := hK_110.at ha_107 t_652 (by decide)
  have t_654 : At S_122 q_75 6 := tAt_sR eS_122 t_653
  have t_655 : At S_129 q_75 6 := by rw [eS_129]; exact At_sO t_654 hq_128
  have t_656 : At S_136 q_75 6 := hK_137.at ha_134 t_655 (by decide)
  have t_657 : At S_148 q_75 6 := tAt_sR eS_148 t_656
  have t_658 : At S_155 q_75 6 := by rw [eS_155]; exact At_sN t_657 hq_154
  have t_659 : At S_164 q_75 6 := tAt_sR eS_164 t_658
  have t_660 : At S_171 q_75 6 := by rw [eS_171]; exact At_sN t_659 hq_170
  have t_661 : At S_180 q_75 6 := tAt_sR eS_180 t_660
  have t_662 : At S_136 q_101 8 := hK_137.at ha_134 t_271 (by decide)
  have t_663 : At S_148 q_101 8 := tAt_sR eS_148 t_662
  have t_664 : At S_155 q_101 8 := by rw [eS_155]; exact At_sN t_663 hq_154
  have t_665 : At S_164 q_101 8 := tAt_sR eS_164 t_664
  have t_666 : At S_171 q_101 8 := by rw [eS_171]; exact At_sN t_665 hq_170
  have t_667 : At S_180 q_101 8 := tAt_sR eS_180 t_666
  have t_668 : At S_148 q_128 1 := tAt_sR eS_148 ha_139
  have t_669 : At S_155 q_128 1 := by rw [eS_155]; exact At_sN t_668 hq_154
  have t_670 : At S_164 q_128 1 := tAt_sR eS_164 t_669
  have t_671 : At S_171 q_128 1 := by rw [eS_171]; exact At_sN t_670 hq_170
  have t_672 : At S_180 q_128 1 := tAt_sR eS_180 t_671
  have t_673 : At S_171 q_154 17 := by rw [eS_171]; exact At_sN t_498 hq_170
  have t_674 : At S_180 q_154 17 := tAt_sR eS_180 t_673
  have t_675 : At S_180 q_170 194 := tAt_sR eS_180 ha_176
  exact L_188 _ _ _ _ _ (0) (0) (26) (1520) rfl hw ti_0 (by omega) t_638 hK_183 hg_184 ph_181 ph_182 ShI_0 t_242 t_265 t_276 t_299 t_320 t_640 t_362 t_381 t_642 t_419 t_436 t_644 t_470 t_218 t_650 t_483 t_661 t_201 t_667 t_491 t_672 t_187 t_674 t_499 h_185 t_675 t_503 (by omega) (by omega) (lv_sub hl [0, 1] rfl)
