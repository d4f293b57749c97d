def eR0 : List Nat := [500, 502]
/-! ===== which cocoons a run can touch: those in the cells A of its pot's rows ===== -/
def RH (A : Nat → Prop) (S : PS) (c : Nat) : Prop := ∃ q i, A q ∧ pB S q i = some c
def AO (A : Nat → Prop) (S : PS) : Prop := ∀ q, A q → At S q 16
def nzS (v : Int32) : Prop := v.toInt ≠ 0 ∧ v.toInt ≠ 5
def Tch (A : Nat → Prop) (S T : PS) : Prop := Ext S T ∧ (∀ c, RH A T c → RH A S c) ∧ ∀ c, At S c 0 → pI T 3 c = pI S 3 c ∨ (RH A S c ∧ nzS (pI T 3 c))
/-- a cocoon comes into a row -/
def AddC (A : Nat → Prop) (S T : PS) (c : Nat) : Prop := ∀ d, RH A T d → RH A S d ∨ d = c
/-- only one cocoon's stand may be another -/
def Sto (S T : PS) (c : Nat) : Prop := ∀ d, At S d 0 → pI T 3 d = pI S 3 d ∨ (d = c ∧ nzS (pI T 3 d))
def PIn (A : Nat → Prop) (S : PS) (x : Nat) : Prop := ∀ R q, (pR S 400 x = some R ∨ pR S 401 x = some R ∨ pR S 402 x = some R) → pR S 501 R = some q → A q
theorem AO_ext {A : Nat → Prop} {S T : PS} (h : Ext S T) (ho : AO A S) : AO A T := fun q hq => h.at (ho q hq)
theorem Tch_rf (A : Nat → Prop) (S : PS) : Tch A S S := ⟨Ext.rf S, fun _ h => h, fun _ _ => Or.inl rfl⟩
theorem Tch_to {A : Nat → Prop} {S T U : PS} (h : Tch A S T) (hE : Ext T U) (hB : ∀ q, A q → pB U q = pB T q) (hI : ∀ c, At T c 0 → pI U 3 c = pI T 3 c) : Tch A S U := ⟨h.1.trans hE, fun c ⟨q, i, h1, h2⟩ => h.2.1 c ⟨q, i, h1, by rw [← hB q h1]; exact h2⟩, fun c hc => by rw [hI c (h.1.at hc)]; exact h.2.2 c hc⟩
theorem Tch_sI {A : Nat → Prop} {S T U : PS} {g a : Nat} {v : Int32} (h : Tch A S T) (e : U = sI T g a v) (hg : 3 ≠ g) : Tch A S U := by
  subst e
  exact Tch_to h (Ext.rf T) (fun _ _ => rfl) (fun c _ => pI_sI_nf hg)
theorem Tch_s3 {A : Nat → Prop} {S T U : PS} {a : Nat} {v : Int32} (h : Tch A S T) (e : U = sI T 3 a v) (hr : RH A S a) (hv : nzS v) : Tch A S U := by
  subst e
  refine ⟨h.1, h.2.1, fun c hc => ?_⟩
  by_cases e : c = a
  · subst e; exact Or.inr ⟨hr, by rw [pI_sI_same]; exact hv⟩
  · rw [pI_sI_ne e]; exact h.2.2 c hc
theorem Tch_sR {A : Nat → Prop} {S T U : PS} {g a : Nat} {v : Option Nat} (h : Tch A S T) (e : U = sR T g a v) : Tch A S U := by
  subst e
  exact Tch_to h (Ext.rf T) (fun _ _ => rfl) (fun _ _ => rfl)
theorem Tch_sA {A : Nat → Prop} {S T U : PS} {a : Nat} {f : Nat → Int32} (h : Tch A S T) (e : U = sA T a f) : Tch A S U := by
  subst e
  exact Tch_to h (Ext.rf T) (fun _ _ => rfl) (fun _ _ => rfl)
theorem pB_up {S : PS} {b q n i c : Nat} {v : Option Nat} (h : pB (sB S b (va_up (pB S b) n v)) q i = some c) : pB S q i = some c ∨ v = some c := by
  by_cases e : q = b
  · subst e
    rw [show pB (sB S q (va_up (pB S q) n v)) q = va_up (pB S q) n v from if_pos rfl] at h
    unfold va_up at h
    split at h
    · exact Or.inr h
    · exact Or.inl h
  · rw [show pB (sB S b (va_up (pB S b) n v)) q = pB S q from if_neg e] at h
    exact Or.inl h
theorem Tch_sB {A : Nat → Prop} {S T U : PS} {b n c : Nat} (h : Tch A S T) (e : U = sB T b (va_up (pB T b) n (some c))) (hr : RH A S c) : Tch A S U := by
  subst e
  refine ⟨h.1, fun d ⟨q, i, h1, h2⟩ => ?_, h.2.2⟩
  rcases pB_up h2 with h3 | h3
  · exact h.2.1 d ⟨q, i, h1, h3⟩
  · cases h3; exact hr
theorem Tch_sBn {A : Nat → Prop} {S T U : PS} {b n : Nat} (h : Tch A S T) (e : U = sB T b (va_up (pB T b) n none)) : Tch A S U := by
  subst e
  refine ⟨h.1, fun d ⟨q, i, h1, h2⟩ => ?_, h.2.2⟩
  rcases pB_up h2 with h3 | h3
  · exact h.2.1 d ⟨q, i, h1, h3⟩
  · cases h3
theorem Tch_fr {A : Nat → Prop} {M : List Nat} {S T U : PS} (h : Tch A S T) (hF : Fr M T U) (ho : AO A S) (h3 : M.contains 3 = false) (h6 : M.contains 10016 = false) : Tch A S U := Tch_to h hF.1 (fun q hq => hF.B' (k := 16) h6 (h.1.at (ho q hq))) (fun c hc => hF.I' h3 hc rfl)
theorem Tch_tr {A : Nat → Prop} {S T U : PS} (h : Tch A S T) (h' : Tch A T U) : Tch A S U := ⟨h.1.trans h'.1, fun c hc => h.2.1 c (h'.2.1 c hc), fun c hc => by
  rcases h'.2.2 c (h.1.at hc) with e | ⟨e1, e2⟩
  · rw [e]; exact h.2.2 c hc
  · exact Or.inr ⟨h.2.1 c e1, e2⟩⟩
theorem Tch_add {A : Nat → Prop} {M : List Nat} {S T U : PS} {c : Nat} (h : Tch A S T) (hF : Fr M T U) (h3 : M.contains 3 = false) (ha : AddC A T U c) (hr : RH A S c) : Tch A S U := ⟨h.1.trans hF.1, fun d hd => by
  rcases ha d hd with e | e
  · exact h.2.1 d e
  · rw [e]; exact hr, fun d hd => by rw [hF.I' h3 (h.1.at hd) rfl]; exact h.2.2 d hd⟩
theorem Tch_sto {A : Nat → Prop} {M : List Nat} {S T U : PS} {c : Nat} (h : Tch A S T) (hF : Fr M T U) (ho : AO A S) (h6 : M.contains 10016 = false) (hs : Sto T U c) (hr : RH A S c) : Tch A S U := ⟨h.1.trans hF.1, fun d ⟨q, i, h1, h2⟩ => h.2.1 d ⟨q, i, h1, by rw [← hF.B' (k := 16) h6 (h.1.at (ho q h1))]; exact h2⟩, fun d hd => by
  rcases hs d (h.1.at hd) with e | ⟨e1, e2⟩
  · rw [e]; exact h.2.2 d hd
  · exact Or.inr ⟨by rw [e1]; exact hr, e2⟩⟩
theorem AddC_of {A : Nat → Prop} {S T U : PS} {b n c : Nat} (hB : ∀ q, A q → pB T q = pB S q) (e : U = sB T b (va_up (pB T b) n (some c))) : AddC A S U c := fun d ⟨q, i, h1, h2⟩ => by
  subst e
  rcases pB_up h2 with h3 | h3
  · exact Or.inl ⟨q, i, h1, by rw [← hB q h1]; exact h3⟩
  · cases h3; exact Or.inr rfl
theorem AddC_rf {A : Nat → Prop} {S : PS} {c : Nat} : AddC A S S c := fun _ h => Or.inl h
theorem AddC_sI {A : Nat → Prop} {S T U : PS} {g a c : Nat} {v : Int32} (h : AddC A S T c) (e : U = sI T g a v) : AddC A S U c := by
  subst e
  exact h
theorem Sto_rf (S : PS) (c : Nat) : Sto S S c := fun _ _ => Or.inl rfl
theorem Sto_sI {S T U : PS} {g a c : Nat} {v : Int32} (h : Sto S T c) (e : U = sI T g a v) (hg : 3 ≠ g) : Sto S U c := by
  subst e
  intro d hd
  rw [pI_sI_nf hg]; exact h d hd
theorem Sto_s3 {S T U : PS} {c : Nat} {v : Int32} (h : Sto S T c) (e : U = sI T 3 c v) (hv : nzS v) : Sto S U c := by
  subst e
  intro d hd
  by_cases q : d = c
  · subst q; exact Or.inr ⟨rfl, by rw [pI_sI_same]; exact hv⟩
  · rw [pI_sI_ne q]; exact h d hd
theorem RH_fr {A : Nat → Prop} {M : List Nat} {T U : PS} {c : Nat} (hF : Fr M T U) (ho : AO A T) (h6 : M.contains 10016 = false) (h : RH A T c) : RH A U c := by
  obtain ⟨q, i, h1, h2⟩ := h
  exact ⟨q, i, h1, by rw [hF.B' (k := 16) h6 (ho q h1)]; exact h2⟩

set_option maxHeartbeats 4000000 in
set_option maxRecDepth 100000 in
theorem k_X0_drawOneMetre3 (l : Launch) (G : va_G) (cy : Nat → ClassId) (κ : Nat → Nat) (S : PS) (sz : Nat) (x : Nat) (hG : GX S) (ha_x : At S x 0) : Cv l yX0_drawOneMetre wsX0_drawOneMetre ({ frames := 3, cells := 0, slots := 0, locals := 144 }) G cy κ S sz [.ref x] (fun (S9 : PS) => Ok eCO S S9 ∧ (Sto S S9 x)) := by
  refine ent_m (cc := cX0_drawOneMetre) (maxL := 2) (ret := none) (by decide) rfl (Nat.le_of_ble_eq_true rfl) ?_
  intro p e s m below meth c ls X hr hlocks hin hw hl hsz
  subst hsz
  have X : Cx p c cX0_drawOneMetre 2 s [.ref x].toArray wsX0_drawOneMetre RX0 m G cy κ (AS S s.heap.size) := X
  have hl : lv_has ls 2 [(0, .ref x)] := hl
  have hO : Ok eCO S S := Ok.rf hG
  have hso : Sto S S x := Sto_rf S x
  refine lv_aload_n X.1 X.2.1 dX0_drawOneMetre_0 rfl (lv_at hl 0 rfl) ?_
  obtain ⟨v_1, ev_1⟩ : ∃ v, pI S 4 x = v := ⟨_, rfl⟩
  have rg_3 := And.intro (z_lo v_1) (z_hi v_1)
  refine r_getI (g := 4) (x := v_1) X hw ha_x rfl 4 ev_1 (by decide) rfl inn_X0_drawOneMetre_0 (by decide) (X.2.2.2.1 (.fieldLink RX0 57 "SilkMill$Cocoon" "drawnTo" "I") (by decide +kernel)) rfl (gv_4 _ _) dX0_drawOneMetre_1 ?_
  refine lv_istore_n (lv' := [(1, .int (v_1)), (0, .ref x)]) X.1 X.2.1 dX0_drawOneMetre_4 rfl hl (by decide) rfl (fun ls hl => ?_)
  refine lv_aload_n X.1 X.2.1 dX0_drawOneMetre_5 rfl (lv_at hl 1 rfl) ?_
  refine lv_dup X.1 X.2.1 dX0_drawOneMetre_6 rfl ?_
  refine r_getI (g := 4) (x := v_1) X hw ha_x rfl 4 ev_1 (by decide) rfl inn_X0_drawOneMetre_0 (by decide) (X.2.2.2.1 (.fieldLink RX0 57 "SilkMill$Cocoon" "drawnTo" "I") (by decide +kernel)) rfl (gv_4 _ _) dX0_drawOneMetre_7 ?_
  refine lv_iconst (v := 1) X.1 X.2.1 dX0_drawOneMetre_10 (by decide) ?_
  refine lv_iadd X.1 X.2.1 dX0_drawOneMetre_11 ?_
  refine lv_topi (fun v_4 ev_4 => ?_)
  have rg_5 := And.intro (z_lo v_4) (z_hi v_4)
  refine r_putI (v := v_4) X hw ha_x rfl 4 4 tyX0 (by decide) rfl inn_X0_drawOneMetre_0 tyX0_ok nmX0 (by decide) (X.2.2.2.1 (.fieldLink RX0 57 "SilkMill$Cocoon" "drawnTo" "I") (by decide +kernel)) rfl (Or.inl rfl) rfl rfl (Nat.le_of_ble_eq_true rfl) (st_4 _ _) dX0_drawOneMetre_12 (fun H locs hw => ?_)
  obtain ⟨S_6, eS_6⟩ : ∃ T, T = sI S 4 x (v_4) := ⟨_, rfl⟩
  rw [← eS_6] at hw
  have hO_7 : Ok eCO S S_6 := hO.sI eS_6 (by decide +kernel) (uI_0_4 hO.1 ha_x)
  have h_8 : pI S_6 4 x = v_4 := tI_sIs eS_6
  refine lv_aload_n X.1 X.2.1 dX0_drawOneMetre_15 rfl (lv_at hl 1 rfl) ?_
  have t_9 : At S_6 x 0 := tAt_sI eS_6 ha_x
  refine r_getI (g := 4) (x := v_4) X hw t_9 rfl 4 h_8 (by decide) rfl inn_X0_drawOneMetre_0 (by decide) (X.2.2.2.1 (.fieldLink RX0 57 "SilkMill$Cocoon" "drawnTo" "I") (by decide +kernel)) rfl (gv_4 _ _) dX0_drawOneMetre_16 ?_
  refine lv_aload_n X.1 X.2.1 dX0_drawOneMetre_19 rfl (lv_at hl 1 rfl) ?_
  obtain ⟨v_10, ev_10⟩ : ∃ v, pI S_6 2 x = v := ⟨_, rfl⟩
  have rg_11 := gI_0_2 hO_7.1 t_9; rw [ev_10] at rg_11
  refine r_getI (g := 2) (x := v_10) X hw t_9 rfl 2 ev_10 (by decide) rfl inn_X0_drawOneMetre_0 (by decide) (X.2.2.2.1 (.fieldLink RX0 40 "SilkMill$Cocoon" "length" "I") (by decide +kernel)) rfl (gv_2 _ _) dX0_drawOneMetre_20 ?_
  refine lv_icmp_lt (tgt := 34) X.1 X.2.1 dX0_drawOneMetre_23 (by decide) (fun c_12 => ?_) (fun c_12 => ?_)
  · have z_b_13 := trivial
    have k_14 : v_4.toInt < v_10.toInt := z_lt rfl rfl c_12
    refine lv_aload_n X.1 X.2.1 dX0_drawOneMetre_34 rfl (lv_at hl 1 rfl) ?_
    refine lv_iload_n X.1 X.2.1 dX0_drawOneMetre_35 rfl (lv_at hl 0 rfl) ?_
    refine k_i (rm := { frames := 2, cells := 0, slots := 0, locals := 96 }) (av := [.ref x, .int (v_1)]) X hw (va_runV (As := [.int (v_1)]) (rest := []) (cfix X) (k_X0_breaksAt l G cy κ S_6 _ x (v_1) (v_1.toInt) hO_7.1 t_9 rfl) (cwV 1 X.2.2.2.1 gX0_drawOneMetre_X0_breaksAt rfl rfl rfl (by decide +kernel) ⟨Nat.le_of_ble_eq_true rfl, Nat.le_of_ble_eq_true rfl⟩) (pre_V X hw _ t_9 rfl (by decide) rfl) rfl rfl hl.1 rfl (lv_room (Nat.le_of_ble_eq_true rfl)) dX0_drawOneMetre_36 ⟨Nat.le_of_ble_eq_true rfl, Nat.le_of_ble_eq_true rfl⟩) 0 0 (Nat.le_of_ble_eq_true rfl) (Nat.le_of_ble_eq_true rfl) (fun rr_15 S_16 H locs hp hw hfr hnw => ?_)
    obtain ⟨e2, hp⟩ := hp
    subst e2
    rcases hp with ⟨f_17, er_18⟩ | ⟨f_17, er_18⟩ <;> subst er_18
    · have z_b_19 := trivial
      refine lv_if_eq (tgt := 47) X.1 X.2.1 dX0_drawOneMetre_39 (by decide) (fun c_20 => absurd c_20 (by decide)) (fun c_20 => ?_)
      refine lv_aload_n X.1 X.2.1 dX0_drawOneMetre_42 rfl (lv_at hl 1 rfl) ?_
      refine lv_iconst (v := 3) X.1 X.2.1 dX0_drawOneMetre_43 (by decide) ?_
      refine r_putI (v := 3) X hw t_9 rfl 3 3 tyX0 (by decide) rfl inn_X0_drawOneMetre_0 tyX0_ok nmX0 (by decide) (X.2.2.2.1 (.fieldLink RX0 9 "SilkMill$Cocoon" "stand" "I") (by decide +kernel)) rfl (Or.inl rfl) rfl rfl (Nat.le_of_ble_eq_true rfl) (st_3 _ _) dX0_drawOneMetre_44 (fun H locs hw => ?_)
      obtain ⟨S_21, eS_21⟩ : ∃ T, T = sI S_6 3 x (3) := ⟨_, rfl⟩
      rw [← eS_21] at hw
      have hO_22 : Ok eCO S S_21 := hO_7.sI eS_21 (by decide +kernel) (uI_0_3 hO_7.1 t_9)
      have h_23 : pI S_21 3 x = 3 := tI_sIs eS_21
      have so_24 : Sto S S_6 x := Sto_sI hso eS_6 (by decide)
      have so_25 : Sto S S_21 x := Sto_s3 so_24 eS_21 ⟨by decide, by decide⟩
      exact ret_v X hw hr hlocks (Nat.le_of_ble_eq_true rfl) (Nat.le_of_ble_eq_true rfl) ⟨hO_22, so_25⟩ dX0_drawOneMetre_47
    · have z_b_26 := trivial
      refine lv_if_eq (tgt := 47) X.1 X.2.1 dX0_drawOneMetre_39 (by decide) (fun c_27 => ?_) (fun c_27 => absurd c_27 (by decide))
      have so_28 : Sto S S_6 x := Sto_sI hso eS_6 (by decide)
      exact ret_v X hw hr hlocks (Nat.le_of_ble_eq_true rfl) (Nat.le_of_ble_eq_true rfl) ⟨hO_7, so_28⟩ dX0_drawOneMetre_47
  · have z_b_29 := trivial
    have k_30 : v_4.toInt ≥ v_10.toInt := z_nlt rfl rfl c_12
    refine lv_aload_n X.1 X.2.1 dX0_drawOneMetre_26 rfl (lv_at hl 1 rfl) ?_
    refine lv_iconst (v := 4) X.1 X.2.1 dX0_drawOneMetre_27 (by decide) ?_
    refine r_putI (v := 4) X hw t_9 rfl 3 3 tyX0 (by decide) rfl inn_X0_drawOneMetre_0 tyX0_ok nmX0 (by decide) (X.2.2.2.1 (.fieldLink RX0 9 "SilkMill$Cocoon" "stand" "I") (by decide +kernel)) rfl (Or.inl rfl) rfl rfl (Nat.le_of_ble_eq_true rfl) (st_3 _ _) dX0_drawOneMetre_28 (fun H locs hw => ?_)
    obtain ⟨S_31, eS_31⟩ : ∃ T, T = sI S_6 3 x (4) := ⟨_, rfl⟩
    rw [← eS_31] at hw
    have hO_32 : Ok eCO S S_31 := hO_7.sI eS_31 (by decide +kernel) (uI_0_3 hO_7.1 t_9)
    have h_33 : pI S_31 3 x = 4 := tI_sIs eS_31
    refine lv_goto (tgt := 47) X.1 X.2.1 dX0_drawOneMetre_31 (by decide) ?_
    have so_34 : Sto S S_6 x := Sto_sI hso eS_6 (by decide)
    have so_35 : Sto S S_31 x := Sto_s3 so_34 eS_31 ⟨by decide, by decide⟩
    exact ret_v X hw hr hlocks (Nat.le_of_ble_eq_true rfl) (Nat.le_of_ble_eq_true rfl) ⟨hO_32, so_35⟩ dX0_drawOneMetre_47
set_option maxHeartbeats 4000000 in
set_option maxRecDepth 100000 in
theorem k_X5_at3 (l : Launch) (G : va_G) (cy : Nat → ClassId) (κ : Nat → Nat) (S : PS) (sz : Nat) (x : Nat) (a1 : Int32) (a1_z : Int) (A : Nat → Prop) (hG : GX S) (ha_x : At S x 5) (hz_a1 : a1.toInt = a1_z) (hp_0 : AO A S) (hp_1 : (∀ q, pR S 501 x = some q → A q)) : Cq l yX5_at wsX5_at ({ frames := 2, cells := 0, slots := 0, locals := 96 }) G cy κ S sz [.ref x, .int (a1)] (fun (r : Option Nat) (S9 : PS) => S = S9 ∧ (∀ q, r = some q → At S9 q 0 ∧ 0 ≤ a1_z ∧ a1_z < (pI S 500 x).toInt ∧ RH A S q)) := by
  refine ent_m (cc := cX5_at) (maxL := 2) (ret := (some (.object "SilkMill$Cocoon"))) (by decide) rfl (Nat.le_of_ble_eq_true rfl) ?_
  intro p e s m below meth c ls X hr hlocks hin hw hl hsz
  subst hsz
  have X : Cx p c cX5_at 2 s [.ref x, .int (a1)].toArray wsX5_at RX5 m G cy κ (AS S s.heap.size) := X
  have hl : lv_has ls 2 [(0, .ref x), (1, .int (a1))] := hl
  have rg_a1 : (-2147483648) ≤ a1_z ∧ a1_z ≤ 2147483647 := by rw [← hz_a1]; exact ⟨z_lo _, z_hi _⟩
  obtain ⟨q_1, n_2, h_3, h_4, h_5, h_6, h_7⟩ := gRowQ hG ha_x
  have hA_q_1 : A q_1 := hp_1 _ h_3
  have htc0 : Tch A S S := Tch_rf A S
  refine lv_iload_n X.1 X.2.1 dX5_at_0 rfl (lv_at hl 1 rfl) ?_
  refine lv_if_lt (tgt := 12) X.1 X.2.1 dX5_at_1 (by decide) (fun c_8 => ?_) (fun c_8 => ?_)
  · have z_b_9 := trivial
    have k_10 : a1_z < 0 := z_lt hz_a1 ti_0 c_8
    refine lv_null X.1 X.2.1 dX5_at_12 ?_
    refine lv_goto (tgt := 26) X.1 X.2.1 dX5_at_13 (by decide) ?_
    exact ret_q none rfl X hw hr hlocks (Nat.le_of_ble_eq_true rfl) (Nat.le_of_ble_eq_true rfl) ⟨rfl, (fun q h => by cases h)⟩ dX5_at_26
  · have z_b_11 := trivial
    have k_12 : a1_z ≥ 0 := z_nlt hz_a1 ti_0 c_8
    refine lv_iload_n X.1 X.2.1 dX5_at_4 rfl (lv_at hl 1 rfl) ?_
    refine lv_aload_n X.1 X.2.1 dX5_at_5 rfl (lv_at hl 0 rfl) ?_
    obtain ⟨v_13, ev_13⟩ : ∃ v, pI S 500 x = v := ⟨_, rfl⟩
    have rg_14 := gRow_500 hG ha_x h_3 h_5; rw [ev_13] at rg_14
    have pz_15 : (pI S 500 x).toInt = v_13.toInt := by rw [ev_13]
    refine r_getI (g := 500) (x := v_13) X hw ha_x rfl 0 ev_13 (by decide) rfl inn_X5_at_5 (by decide) (X.2.2.2.1 (.fieldLink RX5 23 "SilkMill$Row" "size" "I") (by decide +kernel)) rfl (gv_500 _ _) dX5_at_6 ?_
    refine lv_icmp_lt (tgt := 16) X.1 X.2.1 dX5_at_9 (by decide) (fun c_16 => ?_) (fun c_16 => ?_)
    · have z_b_17 := trivial
      have k_18 : a1_z < v_13.toInt := z_lt hz_a1 rfl c_16
      refine lv_aload_n X.1 X.2.1 dX5_at_16 rfl (lv_at hl 0 rfl) ?_
      refine r_getR (g := 501) X hw ha_x rfl 1 h_3 (by decide) rfl inn_X5_at_5 (by decide) (X.2.2.2.1 (.fieldLink RX5 17 "SilkMill$Row" "cells" "[LSilkMill$Cocoon;") (by decide +kernel)) rfl (gv_501 _ _) dX5_at_17 ?_
      refine lv_aload_n X.1 X.2.1 dX5_at_20 rfl (lv_at hl 0 rfl) ?_
      refine lv_iload_n X.1 X.2.1 dX5_at_21 rfl (lv_at hl 1 rfl) ?_
      refine k_i (rm := { frames := 1, cells := 0, slots := 0, locals := 48 }) (av := [.ref x, .int (a1)]) X hw (va_runV (As := [.int (a1)]) (rest := [.ref q_1]) (cfix X) (k_X5_cellOf l G cy κ S _ x (a1) (a1_z) q_1 n_2 hG ha_x hz_a1 h_3 h_5 (by omega)) (cwV 1 X.2.2.2.1 gX5_at_X5_cellOf rfl rfl rfl (by decide +kernel) ⟨Nat.le_of_ble_eq_true rfl, Nat.le_of_ble_eq_true rfl⟩) (pre_V X hw _ ha_x rfl (by decide) rfl) rfl rfl hl.1 rfl (lv_room (Nat.le_of_ble_eq_true rfl)) dX5_at_22 ⟨Nat.le_of_ble_eq_true rfl, Nat.le_of_ble_eq_true rfl⟩) 0 0 (Nat.le_of_ble_eq_true rfl) (Nat.le_of_ble_eq_true rfl) (fun rr_19 S_20 H locs hp hw hfr hnw => ?_)
      obtain ⟨e2, hp⟩ := hp
      subst e2
      obtain ⟨f_21, f_22⟩ := hp
      refine r_aald X hw h_4 rfl (by decide) rfl (by rw [h_5]; exact z_ix rfl (by omega) (by omega)) dX5_at_25 ?_
      rcases ho_23 : pB S q_1 (Int32.toNatClampNeg (rr_19)) with _ | q_24
      · refine W.eq (g2 := F0 m 26 ls (.null :: [])) rfl ?_
        exact ret_q none rfl X hw hr hlocks (Nat.le_of_ble_eq_true rfl) (Nat.le_of_ble_eq_true rfl) ⟨rfl, (fun q h => by cases h)⟩ dX5_at_26
      · refine W.eq (g2 := F0 m 26 ls (.ref q_24 :: [])) rfl ?_
        have ha_25 : At S q_24 0 := gEl_16 hG h_4 _ _ ho_23
        exact ret_q (some q_24) rfl X hw hr hlocks (Nat.le_of_ble_eq_true rfl) (Nat.le_of_ble_eq_true rfl) ⟨rfl, (fun q h => by cases h; exact ⟨ha_25, by omega, by omega, ⟨_, _, hA_q_1, ho_23⟩⟩)⟩ dX5_at_26
    · have z_b_26 := trivial
      have k_27 : a1_z ≥ v_13.toInt := z_nlt hz_a1 rfl c_16
      refine lv_null X.1 X.2.1 dX5_at_12 ?_
      refine lv_goto (tgt := 26) X.1 X.2.1 dX5_at_13 (by decide) ?_
      exact ret_q none rfl X hw hr hlocks (Nat.le_of_ble_eq_true rfl) (Nat.le_of_ble_eq_true rfl) ⟨rfl, (fun q h => by cases h)⟩ dX5_at_26
set_option maxHeartbeats 4000000 in
set_option maxRecDepth 100000 in
theorem k_X5_removeFirst3 (l : Launch) (G : va_G) (cy : Nat → ClassId) (κ : Nat → Nat) (S : PS) (sz : Nat) (x : Nat) (A : Nat → Prop) (hG : GX S) (ha_x : At S x 5) (hp_0 : AO A S) (hp_1 : (∀ q, pR S 501 x = some q → A q)) : Cq l yX5_removeFirst wsX5_removeFirst ({ frames := 2, cells := 0, slots := 0, locals := 96 }) G cy κ S sz [.ref x] (fun (r : Option Nat) (S9 : PS) => Ok eR0 S S9 ∧ (∀ q, r = some q → At S9 q 0 ∧ RH A S q ∧ RH A S9 q)) := by
  refine ent_m (cc := cX5_removeFirst) (maxL := 2) (ret := (some (.object "SilkMill$Cocoon"))) (by decide) rfl (Nat.le_of_ble_eq_true rfl) ?_
  intro p e s m below meth c ls X hr hlocks hin hw hl hsz
  subst hsz
  have X : Cx p c cX5_removeFirst 2 s [.ref x].toArray wsX5_removeFirst RX5 m G cy κ (AS S s.heap.size) := X
  have hl : lv_has ls 2 [(0, .ref x)] := hl
  have hO : Ok eR0 S S := Ok.rf hG
  obtain ⟨q_1, n_2, h_3, h_4, h_5, h_6, h_7⟩ := gRowQ hO.1 ha_x
  have hA_q_1 : A q_1 := hp_1 _ h_3
  have htc0 : Tch A S S := Tch_rf A S
  refine lv_aload_n X.1 X.2.1 dX5_removeFirst_0 rfl (lv_at hl 0 rfl) ?_
  obtain ⟨v_8, ev_8⟩ : ∃ v, pI S 500 x = v := ⟨_, rfl⟩
  have rg_9 := gRow_500 hO.1 ha_x h_3 h_5; rw [ev_8] at rg_9
  refine r_getI (g := 500) (x := v_8) X hw ha_x rfl 0 ev_8 (by decide) rfl inn_X5_removeFirst_5 (by decide) (X.2.2.2.1 (.fieldLink RX5 23 "SilkMill$Row" "size" "I") (by decide +kernel)) rfl (gv_500 _ _) dX5_removeFirst_1 ?_
  refine lv_if_ne (tgt := 9) X.1 X.2.1 dX5_removeFirst_4 (by decide) (fun c_10 => ?_) (fun c_10 => ?_)
  · have z_b_11 := trivial
    have k_12 : v_8.toInt ≠ 0 := z_ne rfl ti_0 c_10
    refine lv_aload_n X.1 X.2.1 dX5_removeFirst_9 rfl (lv_at hl 0 rfl) ?_
    refine r_getR (g := 501) X hw ha_x rfl 1 h_3 (by decide) rfl inn_X5_removeFirst_5 (by decide) (X.2.2.2.1 (.fieldLink RX5 17 "SilkMill$Row" "cells" "[LSilkMill$Cocoon;") (by decide +kernel)) rfl (gv_501 _ _) dX5_removeFirst_10 ?_
    refine lv_aload_n X.1 X.2.1 dX5_removeFirst_13 rfl (lv_at hl 0 rfl) ?_
    obtain ⟨v_13, ev_13⟩ : ∃ v, pI S 502 x = v := ⟨_, rfl⟩
    have rg_14 := gRow_502 hO.1 ha_x h_3 h_5; rw [ev_13] at rg_14
    refine r_getI (g := 502) (x := v_13) X hw ha_x rfl 2 ev_13 (by decide) rfl inn_X5_removeFirst_5 (by decide) (X.2.2.2.1 (.fieldLink RX5 31 "SilkMill$Row" "head" "I") (by decide +kernel)) rfl (gv_502 _ _) dX5_removeFirst_14 ?_
    refine r_aald X hw h_4 rfl (by decide) rfl (by rw [h_5]; exact z_ix rfl (by omega) (by omega)) dX5_removeFirst_17 ?_
    rcases ho_15 : pB S q_1 (Int32.toNatClampNeg (v_13)) with _ | q_16
    · refine W.eq (g2 := F0 m 18 ls (.null :: [])) rfl ?_
      refine lv_astore_nN (lv' := [(1, .null), (0, .ref x)]) X.1 X.2.1 dX5_removeFirst_18 rfl hl (by decide) rfl (fun ls hl => ?_)
      refine lv_aload_n X.1 X.2.1 dX5_removeFirst_19 rfl (lv_at hl 1 rfl) ?_
      refine lv_aload_n X.1 X.2.1 dX5_removeFirst_20 rfl (lv_at hl 1 rfl) ?_
      refine lv_iconst (v := 1) X.1 X.2.1 dX5_removeFirst_21 (by decide) ?_
      refine k_i (rm := { frames := 1, cells := 0, slots := 0, locals := 48 }) (av := [.ref x, .int 1]) X hw (va_runV (As := [.int 1]) (rest := [.ref x]) (cfix X) (k_X5_cellOf l G cy κ S _ x (1) (1) q_1 n_2 hO.1 ha_x ti_1 h_3 h_5 (by omega)) (cwV 1 X.2.2.2.1 gX5_removeFirst_X5_cellOf rfl rfl rfl (by decide +kernel) ⟨Nat.le_of_ble_eq_true rfl, Nat.le_of_ble_eq_true rfl⟩) (pre_V X hw _ ha_x rfl (by decide) rfl) rfl rfl hl.1 rfl (lv_room (Nat.le_of_ble_eq_true rfl)) dX5_removeFirst_22 ⟨Nat.le_of_ble_eq_true rfl, Nat.le_of_ble_eq_true rfl⟩) 0 0 (Nat.le_of_ble_eq_true rfl) (Nat.le_of_ble_eq_true rfl) (fun rr_17 S_18 H locs hp hw hfr hnw => ?_)
      obtain ⟨e2, hp⟩ := hp
      subst e2
      obtain ⟨f_19, f_20⟩ := hp
      refine r_putI (v := rr_17) X hw ha_x rfl 2 502 tyX5 (by decide) rfl inn_X5_removeFirst_5 tyX5_ok nmX5 (by decide) (X.2.2.2.1 (.fieldLink RX5 31 "SilkMill$Row" "head" "I") (by decide +kernel)) rfl (Or.inl rfl) rfl rfl (Nat.le_of_ble_eq_true rfl) (st_502 _ _) dX5_removeFirst_25 (fun H locs hw => ?_)
      obtain ⟨S_21, eS_21⟩ : ∃ T, T = sI S 502 x (rr_17) := ⟨_, rfl⟩
      rw [← eS_21] at hw
      have hO_22 : Ok eR0 S S_21 := hO.sI eS_21 (by decide +kernel) (uI_5_502 hO.1 ha_x h_3 h_5 (by omega) (by omega))
      have h_23 : pI S_21 502 x = rr_17 := tI_sIs eS_21
      refine lv_aload_n X.1 X.2.1 dX5_removeFirst_28 rfl (lv_at hl 1 rfl) ?_
      refine lv_dup X.1 X.2.1 dX5_removeFirst_29 rfl ?_
      have t_24 : At S_21 x 5 := tAt_sI eS_21 ha_x
      have t_25 : pI S_21 500 x = v_8 := tI_sI eS_21 rfl ev_8
      refine r_getI (g := 500) (x := v_8) X hw t_24 rfl 0 t_25 (by decide) rfl inn_X5_removeFirst_5 (by decide) (X.2.2.2.1 (.fieldLink RX5 23 "SilkMill$Row" "size" "I") (by decide +kernel)) rfl (gv_500 _ _) dX5_removeFirst_30 ?_
      refine lv_iconst (v := 1) X.1 X.2.1 dX5_removeFirst_33 (by decide) ?_
      refine lv_isub X.1 X.2.1 dX5_removeFirst_34 ?_
      refine lv_topi (fun v_26 ev_26 => ?_)
      have z_27 : v_26.toInt = v_8.toInt - 1 := z_sub ev_26 rfl ti_1 (by omega) (by omega)
      have t_28 : pR S_21 501 x = some q_1 := tR_sI eS_21 h_3
      have t_29 : pN S_21 q_1 = n_2 := tN_sI eS_21 h_5
      clear h_5
      refine r_putI (v := v_26) X hw t_24 rfl 0 500 tyX5 (by decide) rfl inn_X5_removeFirst_5 tyX5_ok nmX5 (by decide) (X.2.2.2.1 (.fieldLink RX5 23 "SilkMill$Row" "size" "I") (by decide +kernel)) rfl (Or.inl rfl) rfl rfl (Nat.le_of_ble_eq_true rfl) (st_500 _ _) dX5_removeFirst_35 (fun H locs hw => ?_)
      obtain ⟨S_30, eS_30⟩ : ∃ T, T = sI S_21 500 x (v_26) := ⟨_, rfl⟩
      rw [← eS_30] at hw
      have hO_31 : Ok eR0 S S_30 := hO_22.sI eS_30 (by decide +kernel) (uI_5_500 hO_22.1 t_24 t_28 t_29 (by omega) (by omega))
      have h_32 : pI S_30 500 x = v_26 := tI_sIs eS_30
      refine lv_aload_nN X.1 X.2.1 dX5_removeFirst_38 rfl (lv_at hl 0 rfl) ?_
      exact ret_q none rfl X hw hr hlocks (Nat.le_of_ble_eq_true rfl) (Nat.le_of_ble_eq_true rfl) ⟨hO_31, (fun q h => by cases h)⟩ dX5_removeFirst_39
    · refine W.eq (g2 := F0 m 18 ls (.ref q_16 :: [])) rfl ?_
      have ha_33 : At S q_16 0 := gEl_16 hO.1 h_4 _ _ ho_15
      refine lv_astore_n (lv' := [(1, .ref q_16), (0, .ref x)]) X.1 X.2.1 dX5_removeFirst_18 rfl hl (by decide) rfl (fun ls hl => ?_)
      refine lv_aload_n X.1 X.2.1 dX5_removeFirst_19 rfl (lv_at hl 1 rfl) ?_
      refine lv_aload_n X.1 X.2.1 dX5_removeFirst_20 rfl (lv_at hl 1 rfl) ?_
      refine lv_iconst (v := 1) X.1 X.2.1 dX5_removeFirst_21 (by decide) ?_
      refine k_i (rm := { frames := 1, cells := 0, slots := 0, locals := 48 }) (av := [.ref x, .int 1]) X hw (va_runV (As := [.int 1]) (rest := [.ref x]) (cfix X) (k_X5_cellOf l G cy κ S _ x (1) (1) q_1 n_2 hO.1 ha_x ti_1 h_3 h_5 (by omega)) (cwV 1 X.2.2.2.1 gX5_removeFirst_X5_cellOf rfl rfl rfl (by decide +kernel) ⟨Nat.le_of_ble_eq_true rfl, Nat.le_of_ble_eq_true rfl⟩) (pre_V X hw _ ha_x rfl (by decide) rfl) rfl rfl hl.1 rfl (lv_room (Nat.le_of_ble_eq_true rfl)) dX5_removeFirst_22 ⟨Nat.le_of_ble_eq_true rfl, Nat.le_of_ble_eq_true rfl⟩) 0 0 (Nat.le_of_ble_eq_true rfl) (Nat.le_of_ble_eq_true rfl) (fun rr_34 S_35 H locs hp hw hfr hnw => ?_)
      obtain ⟨e2, hp⟩ := hp
      subst e2
      obtain ⟨f_36, f_37⟩ := hp
      refine r_putI (v := rr_34) X hw ha_x rfl 2 502 tyX5 (by decide) rfl inn_X5_removeFirst_5 tyX5_ok nmX5 (by decide) (X.2.2.2.1 (.fieldLink RX5 31 "SilkMill$Row" "head" "I") (by decide +kernel)) rfl (Or.inl rfl) rfl rfl (Nat.le_of_ble_eq_true rfl) (st_502 _ _) dX5_removeFirst_25 (fun H locs hw => ?_)
      obtain ⟨S_38, eS_38⟩ : ∃ T, T = sI S 502 x (rr_34) := ⟨_, rfl⟩
      rw [← eS_38] at hw
      have hO_39 : Ok eR0 S S_38 := hO.sI eS_38 (by decide +kernel) (uI_5_502 hO.1 ha_x h_3 h_5 (by omega) (by omega))
      have h_40 : pI S_38 502 x = rr_34 := tI_sIs eS_38
      refine lv_aload_n X.1 X.2.1 dX5_removeFirst_28 rfl (lv_at hl 1 rfl) ?_
      refine lv_dup X.1 X.2.1 dX5_removeFirst_29 rfl ?_
      have t_41 : At S_38 x 5 := tAt_sI eS_38 ha_x
      have t_42 : pI S_38 500 x = v_8 := tI_sI eS_38 rfl ev_8
      refine r_getI (g := 500) (x := v_8) X hw t_41 rfl 0 t_42 (by decide) rfl inn_X5_removeFirst_5 (by decide) (X.2.2.2.1 (.fieldLink RX5 23 "SilkMill$Row" "size" "I") (by decide +kernel)) rfl (gv_500 _ _) dX5_removeFirst_30 ?_
      refine lv_iconst (v := 1) X.1 X.2.1 dX5_removeFirst_33 (by decide) ?_
      refine lv_isub X.1 X.2.1 dX5_removeFirst_34 ?_
      refine lv_topi (fun v_43 ev_43 => ?_)
      have z_44 : v_43.toInt = v_8.toInt - 1 := z_sub ev_43 rfl ti_1 (by omega) (by omega)
      have t_45 : pR S_38 501 x = some q_1 := tR_sI eS_38 h_3
      have t_46 : pN S_38 q_1 = n_2 := tN_sI eS_38 h_5
      clear h_5
      refine r_putI (v := v_43) X hw t_41 rfl 0 500 tyX5 (by decide) rfl inn_X5_removeFirst_5 tyX5_ok nmX5 (by decide) (X.2.2.2.1 (.fieldLink RX5 23 "SilkMill$Row" "size" "I") (by decide +kernel)) rfl (Or.inl rfl) rfl rfl (Nat.le_of_ble_eq_true rfl) (st_500 _ _) dX5_removeFirst_35 (fun H locs hw => ?_)
      obtain ⟨S_47, eS_47⟩ : ∃ T, T = sI S_38 500 x (v_43) := ⟨_, rfl⟩
      rw [← eS_47] at hw
      have hO_48 : Ok eR0 S S_47 := hO_39.sI eS_47 (by decide +kernel) (uI_5_500 hO_39.1 t_41 t_45 t_46 (by omega) (by omega))
      have h_49 : pI S_47 500 x = v_43 := tI_sIs eS_47
      refine lv_aload_n X.1 X.2.1 dX5_removeFirst_38 rfl (lv_at hl 0 rfl) ?_
      have bb_50 : pB S_38 q_1 = pB S q_1 := by rw [eS_38]; rfl
      have bb_51 : pB S_47 q_1 = pB S q_1 := (show pB S_47 q_1 = pB S_38 q_1 from by rw [eS_47]; rfl).trans bb_50
      have t_52 : At S_38 q_16 0 := tAt_sI eS_38 ha_33
      have t_53 : At S_47 q_16 0 := tAt_sI eS_47 t_52
      exact ret_q (some q_16) rfl X hw hr hlocks (Nat.le_of_ble_eq_true rfl) (Nat.le_of_ble_eq_true rfl) ⟨hO_48, (fun q h => by cases h; exact ⟨t_53, ⟨_, _, hA_q_1, ho_15⟩, ⟨_, _, hA_q_1, (congrFun bb_51 _).trans ho_15⟩⟩)⟩ dX5_removeFirst_39
  · have z_b_54 := trivial
    have k_55 : v_8.toInt = 0 := z_eq rfl ti_0 c_10
    refine lv_null X.1 X.2.1 dX5_removeFirst_7 ?_
    exact ret_q none rfl X hw hr hlocks (Nat.le_of_ble_eq_true rfl) (Nat.le_of_ble_eq_true rfl) ⟨hO, (fun q h => by cases h)⟩ dX5_removeFirst_8
set_option maxHeartbeats 4000000 in
set_option maxRecDepth 100000 in
theorem k_X5_addLast3 (l : Launch) (G : va_G) (cy : Nat → ClassId) (κ : Nat → Nat) (S : PS) (sz : Nat) (x : Nat) (c1 : Nat) (A : Nat → Prop) (hG : GX S) (ha_x : At S x 5) (ha_c1 : At S c1 0) (hp_0 : AO A S) (hp_1 : (∀ q, pR S 501 x = some q → A q)) : Cv l yX5_addLast wsX5_addLast ({ frames := 2, cells := 0, slots := 0, locals := 96 }) G cy κ S sz [.ref x, .ref c1] (fun (S9 : PS) => Ok eRW S S9 ∧ (AddC A S S9 c1)) := by
  refine ent_m (cc := cX5_addLast) (maxL := 2) (ret := none) (by decide) rfl (Nat.le_of_ble_eq_true rfl) ?_
  intro p e s m below meth c ls X hr hlocks hin hw hl hsz
  subst hsz
  have X : Cx p c cX5_addLast 2 s [.ref x, .ref c1].toArray wsX5_addLast RX5 m G cy κ (AS S s.heap.size) := X
  have hl : lv_has ls 2 [(0, .ref x), (1, .ref c1)] := hl
  have hO : Ok eRW S S := Ok.rf hG
  obtain ⟨q_1, n_2, h_3, h_4, h_5, h_6, h_7⟩ := gRowQ hO.1 ha_x
  have hA_q_1 : A q_1 := hp_1 _ h_3
  have htc0 : Tch A S S := Tch_rf A S
  refine lv_aload_n X.1 X.2.1 dX5_addLast_0 rfl (lv_at hl 0 rfl) ?_
  obtain ⟨v_8, ev_8⟩ : ∃ v, pI S 500 x = v := ⟨_, rfl⟩
  have rg_9 := gRow_500 hO.1 ha_x h_3 h_5; rw [ev_8] at rg_9
  refine r_getI (g := 500) (x := v_8) X hw ha_x rfl 0 ev_8 (by decide) rfl inn_X5_addLast_5 (by decide) (X.2.2.2.1 (.fieldLink RX5 23 "SilkMill$Row" "size" "I") (by decide +kernel)) rfl (gv_500 _ _) dX5_addLast_1 ?_
  refine lv_aload_n X.1 X.2.1 dX5_addLast_4 rfl (lv_at hl 0 rfl) ?_
  refine r_getR (g := 501) X hw ha_x rfl 1 h_3 (by decide) rfl inn_X5_addLast_5 (by decide) (X.2.2.2.1 (.fieldLink RX5 17 "SilkMill$Row" "cells" "[LSilkMill$Cocoon;") (by decide +kernel)) rfl (gv_501 _ _) dX5_addLast_5 ?_
  refine r_alen X hw h_4 rfl (by decide) rfl dX5_addLast_8 ?_
  rw [h_5]
  refine lv_topi (fun v_10 ev_10 => ?_)
  have z_11 : v_10.toInt = (n_2 : Int) := z_len ev_10 (by omega)
  refine lv_icmp_ge (tgt := 36) X.1 X.2.1 dX5_addLast_9 (by decide) (fun c_12 => ?_) (fun c_12 => ?_)
  · have z_b_13 := trivial
    have k_14 : v_8.toInt ≥ v_10.toInt := z_le rfl rfl c_12
    exact ret_v X hw hr hlocks (Nat.le_of_ble_eq_true rfl) (Nat.le_of_ble_eq_true rfl) ⟨hO, AddC_rf⟩ dX5_addLast_36
  · have z_b_15 := trivial
    have k_16 : v_8.toInt < v_10.toInt := z_nle rfl rfl c_12
    refine lv_aload_n X.1 X.2.1 dX5_addLast_12 rfl (lv_at hl 0 rfl) ?_
    refine r_getR (g := 501) X hw ha_x rfl 1 h_3 (by decide) rfl inn_X5_addLast_5 (by decide) (X.2.2.2.1 (.fieldLink RX5 17 "SilkMill$Row" "cells" "[LSilkMill$Cocoon;") (by decide +kernel)) rfl (gv_501 _ _) dX5_addLast_13 ?_
    refine lv_aload_n X.1 X.2.1 dX5_addLast_16 rfl (lv_at hl 0 rfl) ?_
    refine lv_aload_n X.1 X.2.1 dX5_addLast_17 rfl (lv_at hl 0 rfl) ?_
    refine r_getI (g := 500) (x := v_8) X hw ha_x rfl 0 ev_8 (by decide) rfl inn_X5_addLast_5 (by decide) (X.2.2.2.1 (.fieldLink RX5 23 "SilkMill$Row" "size" "I") (by decide +kernel)) rfl (gv_500 _ _) dX5_addLast_18 ?_
    refine k_i (rm := { frames := 1, cells := 0, slots := 0, locals := 48 }) (av := [.ref x, .int (v_8)]) X hw (va_runV (As := [.int (v_8)]) (rest := [.ref q_1]) (cfix X) (k_X5_cellOf l G cy κ S _ x (v_8) (v_8.toInt) q_1 n_2 hO.1 ha_x rfl h_3 h_5 (by omega)) (cwV 1 X.2.2.2.1 gX5_addLast_X5_cellOf rfl rfl rfl (by decide +kernel) ⟨Nat.le_of_ble_eq_true rfl, Nat.le_of_ble_eq_true rfl⟩) (pre_V X hw _ ha_x rfl (by decide) rfl) rfl rfl hl.1 rfl (lv_room (Nat.le_of_ble_eq_true rfl)) dX5_addLast_21 ⟨Nat.le_of_ble_eq_true rfl, Nat.le_of_ble_eq_true rfl⟩) 0 0 (Nat.le_of_ble_eq_true rfl) (Nat.le_of_ble_eq_true rfl) (fun rr_17 S_18 H locs hp hw hfr hnw => ?_)
    obtain ⟨e2, hp⟩ := hp
    subst e2
    obtain ⟨f_19, f_20⟩ := hp
    refine lv_aload_n X.1 X.2.1 dX5_addLast_24 rfl (lv_at hl 1 rfl) ?_
    refine r_aast X hw h_4 rfl ha_c1 rfl (by decide) (by decide) rfl rfl (by rw [h_5]; exact z_ix rfl (by omega) (by omega)) dX5_addLast_25 (fun H locs hw => ?_)
    obtain ⟨S_21, eS_21⟩ : ∃ T, T = sB S q_1 (va_up (pB S q_1) (Int32.toNatClampNeg (rr_17)) (some c1)) := ⟨_, rfl⟩
    rw [← eS_21] at hw
    have hO_22 : Ok eRW S S_21 := hO.sB eS_21 h_4 (by decide +kernel) (uB_16 hO.1 h_4 (fun q hq => by cases hq; exact ha_c1))
    refine lv_aload_n X.1 X.2.1 dX5_addLast_26 rfl (lv_at hl 0 rfl) ?_
    refine lv_dup X.1 X.2.1 dX5_addLast_27 rfl ?_
    have t_23 : At S_21 x 5 := tAt_sB eS_21 ha_x
    have t_24 : pI S_21 500 x = v_8 := tI_sB eS_21 ev_8
    refine r_getI (g := 500) (x := v_8) X hw t_23 rfl 0 t_24 (by decide) rfl inn_X5_addLast_5 (by decide) (X.2.2.2.1 (.fieldLink RX5 23 "SilkMill$Row" "size" "I") (by decide +kernel)) rfl (gv_500 _ _) dX5_addLast_28 ?_
    refine lv_iconst (v := 1) X.1 X.2.1 dX5_addLast_31 (by decide) ?_
    refine lv_iadd X.1 X.2.1 dX5_addLast_32 ?_
    refine lv_topi (fun v_25 ev_25 => ?_)
    have z_26 : v_25.toInt = v_8.toInt + 1 := z_add ev_25 rfl ti_1 (by omega) (by omega)
    have t_27 : pR S_21 501 x = some q_1 := tR_sB eS_21 h_3
    have t_28 : pN S_21 q_1 = n_2 := tN_sB eS_21 h_5
    clear h_5
    refine r_putI (v := v_25) X hw t_23 rfl 0 500 tyX5 (by decide) rfl inn_X5_addLast_5 tyX5_ok nmX5 (by decide) (X.2.2.2.1 (.fieldLink RX5 23 "SilkMill$Row" "size" "I") (by decide +kernel)) rfl (Or.inl rfl) rfl rfl (Nat.le_of_ble_eq_true rfl) (st_500 _ _) dX5_addLast_33 (fun H locs hw => ?_)
    obtain ⟨S_29, eS_29⟩ : ∃ T, T = sI S_21 500 x (v_25) := ⟨_, rfl⟩
    rw [← eS_29] at hw
    have hO_30 : Ok eRW S S_29 := hO_22.sI eS_29 (by decide +kernel) (uI_5_500 hO_22.1 t_23 t_27 t_28 (by omega) (by omega))
    have h_31 : pI S_29 500 x = v_25 := tI_sIs eS_29
    have ad_32 : AddC A S S_21 c1 := AddC_of (fun q hq => by rfl) eS_21
    have ad_33 : AddC A S S_29 c1 := AddC_sI ad_32 eS_29
    exact ret_v X hw hr hlocks (Nat.le_of_ble_eq_true rfl) (Nat.le_of_ble_eq_true rfl) ⟨hO_30, ad_33⟩ dX5_addLast_36
set_option maxHeartbeats 4000000 in
set_option maxRecDepth 100000 in
theorem k_X5_addFirst3 (l : Launch) (G : va_G) (cy : Nat → ClassId) (κ : Nat → Nat) (S : PS) (sz : Nat) (x : Nat) (c1 : Nat) (A : Nat → Prop) (hG : GX S) (ha_x : At S x 5) (ha_c1 : At S c1 0) (hp_0 : AO A S) (hp_1 : (∀ q, pR S 501 x = some q → A q)) : Cv l yX5_addFirst wsX5_addFirst ({ frames := 2, cells := 0, slots := 0, locals := 96 }) G cy κ S sz [.ref x, .ref c1] (fun (S9 : PS) => Ok eRW S S9 ∧ (AddC A S S9 c1)) := by
  refine ent_m (cc := cX5_addFirst) (maxL := 2) (ret := none) (by decide) rfl (Nat.le_of_ble_eq_true rfl) ?_
  intro p e s m below meth c ls X hr hlocks hin hw hl hsz
  subst hsz
  have X : Cx p c cX5_addFirst 2 s [.ref x, .ref c1].toArray wsX5_addFirst RX5 m G cy κ (AS S s.heap.size) := X
  have hl : lv_has ls 2 [(0, .ref x), (1, .ref c1)] := hl
  have hO : Ok eRW S S := Ok.rf hG
  obtain ⟨q_1, n_2, h_3, h_4, h_5, h_6, h_7⟩ := gRowQ hO.1 ha_x
  have hA_q_1 : A q_1 := hp_1 _ h_3
  have htc0 : Tch A S S := Tch_rf A S
  refine lv_aload_n X.1 X.2.1 dX5_addFirst_0 rfl (lv_at hl 0 rfl) ?_
  obtain ⟨v_8, ev_8⟩ : ∃ v, pI S 500 x = v := ⟨_, rfl⟩
  have rg_9 := gRow_500 hO.1 ha_x h_3 h_5; rw [ev_8] at rg_9
  refine r_getI (g := 500) (x := v_8) X hw ha_x rfl 0 ev_8 (by decide) rfl inn_X5_addFirst_5 (by decide) (X.2.2.2.1 (.fieldLink RX5 23 "SilkMill$Row" "size" "I") (by decide +kernel)) rfl (gv_500 _ _) dX5_addFirst_1 ?_
  refine lv_aload_n X.1 X.2.1 dX5_addFirst_4 rfl (lv_at hl 0 rfl) ?_
  refine r_getR (g := 501) X hw ha_x rfl 1 h_3 (by decide) rfl inn_X5_addFirst_5 (by decide) (X.2.2.2.1 (.fieldLink RX5 17 "SilkMill$Row" "cells" "[LSilkMill$Cocoon;") (by decide +kernel)) rfl (gv_501 _ _) dX5_addFirst_5 ?_
  refine r_alen X hw h_4 rfl (by decide) rfl dX5_addFirst_8 ?_
  rw [h_5]
  refine lv_topi (fun v_10 ev_10 => ?_)
  have z_11 : v_10.toInt = (n_2 : Int) := z_len ev_10 (by omega)
  refine lv_icmp_ge (tgt := 59) X.1 X.2.1 dX5_addFirst_9 (by decide) (fun c_12 => ?_) (fun c_12 => ?_)
  · have z_b_13 := trivial
    have k_14 : v_8.toInt ≥ v_10.toInt := z_le rfl rfl c_12
    exact ret_v X hw hr hlocks (Nat.le_of_ble_eq_true rfl) (Nat.le_of_ble_eq_true rfl) ⟨hO, AddC_rf⟩ dX5_addFirst_59
  · have z_b_15 := trivial
    have k_16 : v_8.toInt < v_10.toInt := z_nle rfl rfl c_12
    refine lv_aload_n X.1 X.2.1 dX5_addFirst_12 rfl (lv_at hl 0 rfl) ?_
    refine lv_aload_n X.1 X.2.1 dX5_addFirst_13 rfl (lv_at hl 0 rfl) ?_
    obtain ⟨v_17, ev_17⟩ : ∃ v, pI S 502 x = v := ⟨_, rfl⟩
    have rg_18 := gRow_502 hO.1 ha_x h_3 h_5; rw [ev_17] at rg_18
    refine r_getI (g := 502) (x := v_17) X hw ha_x rfl 2 ev_17 (by decide) rfl inn_X5_addFirst_5 (by decide) (X.2.2.2.1 (.fieldLink RX5 31 "SilkMill$Row" "head" "I") (by decide +kernel)) rfl (gv_502 _ _) dX5_addFirst_14 ?_
    refine lv_if_ne (tgt := 30) X.1 X.2.1 dX5_addFirst_17 (by decide) (fun c_19 => ?_) (fun c_19 => ?_)
    · have z_b_20 := trivial
      have k_21 : v_17.toInt ≠ 0 := z_ne rfl ti_0 c_19
      refine lv_aload_n X.1 X.2.1 dX5_addFirst_30 rfl (lv_at hl 0 rfl) ?_
      refine r_getI (g := 502) (x := v_17) X hw ha_x rfl 2 ev_17 (by decide) rfl inn_X5_addFirst_5 (by decide) (X.2.2.2.1 (.fieldLink RX5 31 "SilkMill$Row" "head" "I") (by decide +kernel)) rfl (gv_502 _ _) dX5_addFirst_31 ?_
      refine lv_iconst (v := 1) X.1 X.2.1 dX5_addFirst_34 (by decide) ?_
      refine lv_isub X.1 X.2.1 dX5_addFirst_35 ?_
      refine lv_topi (fun v_22 ev_22 => ?_)
      have z_23 : v_22.toInt = v_17.toInt - 1 := z_sub ev_22 rfl ti_1 (by omega) (by omega)
      refine r_putI (v := v_22) X hw ha_x rfl 2 502 tyX5 (by decide) rfl inn_X5_addFirst_5 tyX5_ok nmX5 (by decide) (X.2.2.2.1 (.fieldLink RX5 31 "SilkMill$Row" "head" "I") (by decide +kernel)) rfl (Or.inl rfl) rfl rfl (Nat.le_of_ble_eq_true rfl) (st_502 _ _) dX5_addFirst_36 (fun H locs hw => ?_)
      obtain ⟨S_24, eS_24⟩ : ∃ T, T = sI S 502 x (v_22) := ⟨_, rfl⟩
      rw [← eS_24] at hw
      have hO_25 : Ok eRW S S_24 := hO.sI eS_24 (by decide +kernel) (uI_5_502 hO.1 ha_x h_3 h_5 (by omega) (by omega))
      have h_26 : pI S_24 502 x = v_22 := tI_sIs eS_24
      refine lv_aload_n X.1 X.2.1 dX5_addFirst_39 rfl (lv_at hl 0 rfl) ?_
      have t_27 : At S_24 x 5 := tAt_sI eS_24 ha_x
      have t_28 : pR S_24 501 x = some q_1 := tR_sI eS_24 h_3
      refine r_getR (g := 501) X hw t_27 rfl 1 t_28 (by decide) rfl inn_X5_addFirst_5 (by decide) (X.2.2.2.1 (.fieldLink RX5 17 "SilkMill$Row" "cells" "[LSilkMill$Cocoon;") (by decide +kernel)) rfl (gv_501 _ _) dX5_addFirst_40 ?_
      refine lv_aload_n X.1 X.2.1 dX5_addFirst_43 rfl (lv_at hl 0 rfl) ?_
      refine r_getI (g := 502) (x := v_22) X hw t_27 rfl 2 h_26 (by decide) rfl inn_X5_addFirst_5 (by decide) (X.2.2.2.1 (.fieldLink RX5 31 "SilkMill$Row" "head" "I") (by decide +kernel)) rfl (gv_502 _ _) dX5_addFirst_44 ?_
      refine lv_aload_n X.1 X.2.1 dX5_addFirst_47 rfl (lv_at hl 1 rfl) ?_
      have t_29 : At S_24 q_1 16 := tAt_sI eS_24 h_4
      have t_30 : pN S_24 q_1 = n_2 := tN_sI eS_24 h_5
      clear h_5
      have t_31 : At S_24 c1 0 := tAt_sI eS_24 ha_c1
      refine r_aast X hw t_29 rfl t_31 rfl (by decide) (by decide) rfl rfl (by rw [t_30]; exact z_ix rfl (by omega) (by omega)) dX5_addFirst_48 (fun H locs hw => ?_)
      obtain ⟨S_32, eS_32⟩ : ∃ T, T = sB S_24 q_1 (va_up (pB S_24 q_1) (Int32.toNatClampNeg (v_22)) (some c1)) := ⟨_, rfl⟩
      rw [← eS_32] at hw
      have hO_33 : Ok eRW S S_32 := hO_25.sB eS_32 t_29 (by decide +kernel) (uB_16 hO_25.1 t_29 (fun q hq => by cases hq; exact t_31))
      refine lv_aload_n X.1 X.2.1 dX5_addFirst_49 rfl (lv_at hl 0 rfl) ?_
      refine lv_dup X.1 X.2.1 dX5_addFirst_50 rfl ?_
      have t_34 : At S_32 x 5 := tAt_sB eS_32 t_27
      have t_35 : pI S_24 500 x = v_8 := tI_sI eS_24 rfl ev_8
      have t_36 : pI S_32 500 x = v_8 := tI_sB eS_32 t_35
      refine r_getI (g := 500) (x := v_8) X hw t_34 rfl 0 t_36 (by decide) rfl inn_X5_addFirst_5 (by decide) (X.2.2.2.1 (.fieldLink RX5 23 "SilkMill$Row" "size" "I") (by decide +kernel)) rfl (gv_500 _ _) dX5_addFirst_51 ?_
      refine lv_iconst (v := 1) X.1 X.2.1 dX5_addFirst_54 (by decide) ?_
      refine lv_iadd X.1 X.2.1 dX5_addFirst_55 ?_
      refine lv_topi (fun v_37 ev_37 => ?_)
      have z_38 : v_37.toInt = v_8.toInt + 1 := z_add ev_37 rfl ti_1 (by omega) (by omega)
      have t_39 : pR S_32 501 x = some q_1 := tR_sB eS_32 t_28
      have t_40 : pN S_32 q_1 = n_2 := tN_sB eS_32 t_30
      clear t_30
      refine r_putI (v := v_37) X hw t_34 rfl 0 500 tyX5 (by decide) rfl inn_X5_addFirst_5 tyX5_ok nmX5 (by decide) (X.2.2.2.1 (.fieldLink RX5 23 "SilkMill$Row" "size" "I") (by decide +kernel)) rfl (Or.inl rfl) rfl rfl (Nat.le_of_ble_eq_true rfl) (st_500 _ _) dX5_addFirst_56 (fun H locs hw => ?_)
      obtain ⟨S_41, eS_41⟩ : ∃ T, T = sI S_32 500 x (v_37) := ⟨_, rfl⟩
      rw [← eS_41] at hw
      have hO_42 : Ok eRW S S_41 := hO_33.sI eS_41 (by decide +kernel) (uI_5_500 hO_33.1 t_34 t_39 t_40 (by omega) (by omega))
      have h_43 : pI S_41 500 x = v_37 := tI_sIs eS_41
      have ad_44 : AddC A S S_32 c1 := AddC_of (fun q hq => by rw [eS_24]; rfl) eS_32
      have ad_45 : AddC A S S_41 c1 := AddC_sI ad_44 eS_41
      exact ret_v X hw hr hlocks (Nat.le_of_ble_eq_true rfl) (Nat.le_of_ble_eq_true rfl) ⟨hO_42, ad_45⟩ dX5_addFirst_59
    · have z_b_46 := trivial
      have k_47 : v_17.toInt = 0 := z_eq rfl ti_0 c_19
      refine lv_aload_n X.1 X.2.1 dX5_addFirst_20 rfl (lv_at hl 0 rfl) ?_
      refine r_getR (g := 501) X hw ha_x rfl 1 h_3 (by decide) rfl inn_X5_addFirst_5 (by decide) (X.2.2.2.1 (.fieldLink RX5 17 "SilkMill$Row" "cells" "[LSilkMill$Cocoon;") (by decide +kernel)) rfl (gv_501 _ _) dX5_addFirst_21 ?_
      refine r_alen X hw h_4 rfl (by decide) rfl dX5_addFirst_24 ?_
      rw [h_5]
      refine lv_topi (fun v_48 ev_48 => ?_)
      have z_49 : v_48.toInt = (n_2 : Int) := z_len ev_48 (by omega)
      refine lv_iconst (v := 1) X.1 X.2.1 dX5_addFirst_25 (by decide) ?_
      refine lv_isub X.1 X.2.1 dX5_addFirst_26 ?_
      refine lv_topi (fun v_50 ev_50 => ?_)
      have z_51 : v_50.toInt = v_48.toInt - 1 := z_sub ev_50 rfl ti_1 (by omega) (by omega)
      refine lv_goto (tgt := 36) X.1 X.2.1 dX5_addFirst_27 (by decide) ?_
      refine r_putI (v := v_50) X hw ha_x rfl 2 502 tyX5 (by decide) rfl inn_X5_addFirst_5 tyX5_ok nmX5 (by decide) (X.2.2.2.1 (.fieldLink RX5 31 "SilkMill$Row" "head" "I") (by decide +kernel)) rfl (Or.inl rfl) rfl rfl (Nat.le_of_ble_eq_true rfl) (st_502 _ _) dX5_addFirst_36 (fun H locs hw => ?_)
      obtain ⟨S_52, eS_52⟩ : ∃ T, T = sI S 502 x (v_50) := ⟨_, rfl⟩
      rw [← eS_52] at hw
      have hO_53 : Ok eRW S S_52 := hO.sI eS_52 (by decide +kernel) (uI_5_502 hO.1 ha_x h_3 h_5 (by omega) (by omega))
      have h_54 : pI S_52 502 x = v_50 := tI_sIs eS_52
      refine lv_aload_n X.1 X.2.1 dX5_addFirst_39 rfl (lv_at hl 0 rfl) ?_
      have t_55 : At S_52 x 5 := tAt_sI eS_52 ha_x
      have t_56 : pR S_52 501 x = some q_1 := tR_sI eS_52 h_3
      refine r_getR (g := 501) X hw t_55 rfl 1 t_56 (by decide) rfl inn_X5_addFirst_5 (by decide) (X.2.2.2.1 (.fieldLink RX5 17 "SilkMill$Row" "cells" "[LSilkMill$Cocoon;") (by decide +kernel)) rfl (gv_501 _ _) dX5_addFirst_40 ?_
      refine lv_aload_n X.1 X.2.1 dX5_addFirst_43 rfl (lv_at hl 0 rfl) ?_
      refine r_getI (g := 502) (x := v_50) X hw t_55 rfl 2 h_54 (by decide) rfl inn_X5_addFirst_5 (by decide) (X.2.2.2.1 (.fieldLink RX5 31 "SilkMill$Row" "head" "I") (by decide +kernel)) rfl (gv_502 _ _) dX5_addFirst_44 ?_
      refine lv_aload_n X.1 X.2.1 dX5_addFirst_47 rfl (lv_at hl 1 rfl) ?_
      have t_57 : At S_52 q_1 16 := tAt_sI eS_52 h_4
      have t_58 : pN S_52 q_1 = n_2 := tN_sI eS_52 h_5
      clear h_5
      have t_59 : At S_52 c1 0 := tAt_sI eS_52 ha_c1
      refine r_aast X hw t_57 rfl t_59 rfl (by decide) (by decide) rfl rfl (by rw [t_58]; exact z_ix rfl (by omega) (by omega)) dX5_addFirst_48 (fun H locs hw => ?_)
      obtain ⟨S_60, eS_60⟩ : ∃ T, T = sB S_52 q_1 (va_up (pB S_52 q_1) (Int32.toNatClampNeg (v_50)) (some c1)) := ⟨_, rfl⟩
      rw [← eS_60] at hw
      have hO_61 : Ok eRW S S_60 := hO_53.sB eS_60 t_57 (by decide +kernel) (uB_16 hO_53.1 t_57 (fun q hq => by cases hq; exact t_59))
      refine lv_aload_n X.1 X.2.1 dX5_addFirst_49 rfl (lv_at hl 0 rfl) ?_
      refine lv_dup X.1 X.2.1 dX5_addFirst_50 rfl ?_
      have t_62 : At S_60 x 5 := tAt_sB eS_60 t_55
      have t_63 : pI S_52 500 x = v_8 := tI_sI eS_52 rfl ev_8
      have t_64 : pI S_60 500 x = v_8 := tI_sB eS_60 t_63
      refine r_getI (g := 500) (x := v_8) X hw t_62 rfl 0 t_64 (by decide) rfl inn_X5_addFirst_5 (by decide) (X.2.2.2.1 (.fieldLink RX5 23 "SilkMill$Row" "size" "I") (by decide +kernel)) rfl (gv_500 _ _) dX5_addFirst_51 ?_
      refine lv_iconst (v := 1) X.1 X.2.1 dX5_addFirst_54 (by decide) ?_
      refine lv_iadd X.1 X.2.1 dX5_addFirst_55 ?_
      refine lv_topi (fun v_65 ev_65 => ?_)
      have z_66 : v_65.toInt = v_8.toInt + 1 := z_add ev_65 rfl ti_1 (by omega) (by omega)
      have t_67 : pR S_60 501 x = some q_1 := tR_sB eS_60 t_56
      have t_68 : pN S_60 q_1 = n_2 := tN_sB eS_60 t_58
      clear t_58
      refine r_putI (v := v_65) X hw t_62 rfl 0 500 tyX5 (by decide) rfl inn_X5_addFirst_5 tyX5_ok nmX5 (by decide) (X.2.2.2.1 (.fieldLink RX5 23 "SilkMill$Row" "size" "I") (by decide +kernel)) rfl (Or.inl rfl) rfl rfl (Nat.le_of_ble_eq_true rfl) (st_500 _ _) dX5_addFirst_56 (fun H locs hw => ?_)
      obtain ⟨S_69, eS_69⟩ : ∃ T, T = sI S_60 500 x (v_65) := ⟨_, rfl⟩
      rw [← eS_69] at hw
      have hO_70 : Ok eRW S S_69 := hO_61.sI eS_69 (by decide +kernel) (uI_5_500 hO_61.1 t_62 t_67 t_68 (by omega) (by omega))
      have h_71 : pI S_69 500 x = v_65 := tI_sIs eS_69
      have ad_72 : AddC A S S_60 c1 := AddC_of (fun q hq => by rw [eS_52]; rfl) eS_60
      have ad_73 : AddC A S S_69 c1 := AddC_sI ad_72 eS_69
      exact ret_v X hw hr hlocks (Nat.le_of_ble_eq_true rfl) (Nat.le_of_ble_eq_true rfl) ⟨hO_70, ad_73⟩ dX5_addFirst_59
set_option maxHeartbeats 4000000 in
set_option maxRecDepth 100000 in
theorem k_X5_removeAt3 (l : Launch) (G : va_G) (cy : Nat → ClassId) (κ : Nat → Nat) (S : PS) (sz : Nat) (x : Nat) (a1 : Int32) (a1_z : Int) (A : Nat → Prop) (hG : GX S) (ha_x : At S x 5) (hz_a1 : a1.toInt = a1_z) (hp_0 : AO A S) (hp_1 : (∀ q, pR S 501 x = some q → A q)) : Cq l yX5_removeAt wsX5_removeAt ({ frames := 3, cells := 0, slots := 0, locals := 144 }) G cy κ S sz [.ref x, .int (a1)] (fun (r : Option Nat) (S9 : PS) => Ok eRW S S9 ∧ ((∀ q, r = some q → At S9 q 0 ∧ RH A S q) ∧ Tch A S S9)) := by
  refine ent_m (cc := cX5_removeAt) (maxL := 4) (ret := (some (.object "SilkMill$Cocoon"))) (by decide) rfl (Nat.le_of_ble_eq_true rfl) ?_
  intro p e s m below meth c ls X hr hlocks hin hw hl hsz
  subst hsz
  have X : Cx p c cX5_removeAt 4 s [.ref x, .int (a1)].toArray wsX5_removeAt RX5 m G cy κ (AS S s.heap.size) := X
  have hl : lv_has ls 4 [(0, .ref x), (1, .int (a1))] := hl
  have rg_a1 : (-2147483648) ≤ a1_z ∧ a1_z ≤ 2147483647 := by rw [← hz_a1]; exact ⟨z_lo _, z_hi _⟩
  have hO : Ok eRW S S := Ok.rf hG
  generalize hQQ : MQ below _ _ _ _ _ _ = QQ
  replace hQQ := hQQ.symm
  obtain ⟨q_1, n_2, h_3, h_4, h_5, h_6, h_7⟩ := gRowQ hO.1 ha_x
  have hA_q_1 : A q_1 := hp_1 _ h_3
  have htc0 : Tch A S S := Tch_rf A S
  refine lv_aload_n X.1 X.2.1 dX5_removeAt_0 rfl (lv_at hl 0 rfl) ?_
  refine lv_iload_n X.1 X.2.1 dX5_removeAt_1 rfl (lv_at hl 1 rfl) ?_
  refine k_q (rm := { frames := 2, cells := 0, slots := 0, locals := 96 }) (av := [.ref x, .int (a1)]) X hw (va_runV (As := [.int (a1)]) (rest := []) (cfix X) (k_X5_at3 l G cy κ S _ x (a1) (a1_z) A hO.1 ha_x hz_a1 (AO_ext htc0.1 hp_0) (fun q h => by rw [h_3] at h; cases h; exact hA_q_1)) (cwV 1 X.2.2.2.1 gX5_removeAt_X5_at rfl rfl rfl (by decide +kernel) ⟨Nat.le_of_ble_eq_true rfl, Nat.le_of_ble_eq_true rfl⟩) (pre_V X hw _ ha_x rfl (by decide) rfl) rfl rfl hl.1 rfl (lv_room (Nat.le_of_ble_eq_true rfl)) dX5_removeAt_2 ⟨Nat.le_of_ble_eq_true rfl, Nat.le_of_ble_eq_true rfl⟩) 0 0 (Nat.le_of_ble_eq_true rfl) (Nat.le_of_ble_eq_true rfl) (fun rr_8 S_9 H locs hp hw hfr hnw => ?_)
  obtain ⟨e2, hp⟩ := hp
  subst e2
  have hq_10 := hp
  rcases rr_8 with _ | q_11
  · refine W.eq (g2 := F0 m 5 ls (.null :: [])) rfl ?_
    refine lv_astore_nN (lv' := [(2, .null), (0, .ref x), (1, .int (a1))]) X.1 X.2.1 dX5_removeAt_5 rfl hl (by decide) rfl (fun ls hl => ?_)
    refine lv_aload_nN X.1 X.2.1 dX5_removeAt_6 rfl (lv_at hl 0 rfl) ?_
    refine lv_ifnonnullN X.1 X.2.1 dX5_removeAt_7 ?_
    refine lv_null X.1 X.2.1 dX5_removeAt_10 ?_
    rw [hQQ]
    exact ret_q none rfl X hw hr hlocks (Nat.le_of_ble_eq_true rfl) (Nat.le_of_ble_eq_true rfl) ⟨hO, ⟨fun q h => (by cases h), htc0⟩⟩ dX5_removeAt_11
  · refine W.eq (g2 := F0 m 5 ls (.ref q_11 :: [])) rfl ?_
    obtain ⟨ha_12, f_13, f_14, f_15⟩ := hq_10 _ rfl
    have rh_16 : RH A S q_11 := htc0.2.1 _ f_15
    refine lv_astore_n (lv' := [(2, .ref q_11), (0, .ref x), (1, .int (a1))]) X.1 X.2.1 dX5_removeAt_5 rfl hl (by decide) rfl (fun ls hl => ?_)
    refine lv_aload_n X.1 X.2.1 dX5_removeAt_6 rfl (lv_at hl 0 rfl) ?_
    refine lv_ifnonnull (tgt := 12) X.1 X.2.1 dX5_removeAt_7 (by decide) ?_
    refine lv_iload_n X.1 X.2.1 dX5_removeAt_12 rfl (lv_at hl 2 rfl) ?_
    refine lv_istore_n (lv' := [(3, .int (a1)), (2, .ref q_11), (0, .ref x), (1, .int (a1))]) X.1 X.2.1 dX5_removeAt_13 rfl hl (by decide) rfl (fun ls hl => ?_)
    obtain ⟨v_23, ev_23⟩ : ∃ v, pI S 500 x = v := ⟨_, rfl⟩
    have rg_24 := gRow_500 hO.1 ha_x h_3 h_5; rw [ev_23] at rg_24
    have pz_25 : (pI S 500 x).toInt = v_23.toInt := by rw [ev_23]
    have L_17 : ∀ (n : Nat) (T_19 : PS) (H : Heap) (locs : List Loc) (ls : Array Slot) (i3_18 : Int32) (i3_18_z : Int), ((600 - i3_18_z).toNat = n) → (Wd G cy (AS S s.heap.size) s.heap T_19 H locs) → (i3_18.toInt = i3_18_z) → (0 ≤ i3_18_z ∧ i3_18_z ≤ 2147483647) → (At T_19 q_11 0) → (At T_19 x 5) → (Ok eRW S T_19) → (Tch A S T_19) → (pI T_19 500 x = v_23) → (pR T_19 501 x = some q_1) → (At T_19 q_1 16) → (pN T_19 q_1 = n_2) → (lv_has ls 4 [(3, .int (i3_18)), (2, .ref q_11), (0, .ref x), (1, .int (a1))]) → W p l e ({ frames := 3, cells := 0, slots := 0, locals := 144 }) s m [.ref x, .int (a1)].toArray below meth c H locs 0 0 QQ (F0 m 14 ls []) := by
      intro n
      induction n using Nat.strongRecOn with
      | ind n ih =>
      intro T_19 H locs ls i3_18 i3_18_z hn hw hz_i3_18 hr_i3_18 ha_q_11_L_20 ha_x_L_21 hO_T_19 iv_22 ik_26 ik_27 ik_28 ik_29 hl
      have rg_30 : (-2147483648) ≤ i3_18_z ∧ i3_18_z ≤ 2147483647 := by rw [← hz_i3_18]; exact ⟨z_lo _, z_hi _⟩
      refine lv_iload_n X.1 X.2.1 dX5_removeAt_14 rfl (lv_at hl 0 rfl) ?_
      refine lv_aload_n X.1 X.2.1 dX5_removeAt_15 rfl (lv_at hl 2 rfl) ?_
      refine r_getI (g := 500) (x := v_23) X hw ha_x_L_21 rfl 0 ik_26 (by decide) rfl inn_X5_removeAt_5 (by decide) (X.2.2.2.1 (.fieldLink RX5 23 "SilkMill$Row" "size" "I") (by decide +kernel)) rfl (gv_500 _ _) dX5_removeAt_16 ?_
      refine lv_iconst (v := 1) X.1 X.2.1 dX5_removeAt_19 (by decide) ?_
      refine lv_isub X.1 X.2.1 dX5_removeAt_20 ?_
      refine lv_topi (fun v_31 ev_31 => ?_)
      have z_32 : v_31.toInt = v_23.toInt - 1 := z_sub ev_31 rfl ti_1 (by omega) (by omega)
      refine lv_icmp_ge (tgt := 52) X.1 X.2.1 dX5_removeAt_21 (by decide) (fun c_33 => ?_) (fun c_33 => ?_)
      · have z_b_34 := trivial
        have k_35 : i3_18_z ≥ v_31.toInt := z_le rfl hz_i3_18 c_33
        refine lv_aload_n X.1 X.2.1 dX5_removeAt_52 rfl (lv_at hl 2 rfl) ?_
        refine lv_dup X.1 X.2.1 dX5_removeAt_53 rfl ?_
        refine r_getI (g := 500) (x := v_23) X hw ha_x_L_21 rfl 0 ik_26 (by decide) rfl inn_X5_removeAt_5 (by decide) (X.2.2.2.1 (.fieldLink RX5 23 "SilkMill$Row" "size" "I") (by decide +kernel)) rfl (gv_500 _ _) dX5_removeAt_54 ?_
        refine lv_iconst (v := 1) X.1 X.2.1 dX5_removeAt_57 (by decide) ?_
        refine lv_isub X.1 X.2.1 dX5_removeAt_58 ?_
        refine lv_topi (fun v_36 ev_36 => ?_)
        have z_37 : v_36.toInt = v_23.toInt - 1 := z_sub ev_36 rfl ti_1 (by omega) (by omega)
        refine r_putI (v := v_36) X hw ha_x_L_21 rfl 0 500 tyX5 (by decide) rfl inn_X5_removeAt_5 tyX5_ok nmX5 (by decide) (X.2.2.2.1 (.fieldLink RX5 23 "SilkMill$Row" "size" "I") (by decide +kernel)) rfl (Or.inl rfl) rfl rfl (Nat.le_of_ble_eq_true rfl) (st_500 _ _) dX5_removeAt_59 (fun H locs hw => ?_)
        obtain ⟨S_38, eS_38⟩ : ∃ T, T = sI T_19 500 x (v_36) := ⟨_, rfl⟩
        rw [← eS_38] at hw
        have hO_39 : Ok eRW S S_38 := hO_T_19.sI eS_38 (by decide +kernel) (uI_5_500 hO_T_19.1 ha_x_L_21 ik_27 ik_29 (by omega) (by omega))
        have h_40 : pI S_38 500 x = v_36 := tI_sIs eS_38
        refine lv_aload_n X.1 X.2.1 dX5_removeAt_62 rfl (lv_at hl 1 rfl) ?_
        have tc_41 : Tch A S S_38 := Tch_sI iv_22 eS_38 (by decide)
        have t_42 : At S_38 q_11 0 := tAt_sI eS_38 ha_q_11_L_20
        rw [hQQ]
        exact ret_q (some q_11) rfl X hw hr hlocks (Nat.le_of_ble_eq_true rfl) (Nat.le_of_ble_eq_true rfl) ⟨hO_39, ⟨fun q h => (by cases h; exact ⟨t_42, rh_16⟩), tc_41⟩⟩ dX5_removeAt_63
      · have z_b_43 := trivial
        have k_44 : i3_18_z < v_31.toInt := z_nle rfl hz_i3_18 c_33
        refine lv_aload_n X.1 X.2.1 dX5_removeAt_24 rfl (lv_at hl 2 rfl) ?_
        refine r_getR (g := 501) X hw ha_x_L_21 rfl 1 ik_27 (by decide) rfl inn_X5_removeAt_5 (by decide) (X.2.2.2.1 (.fieldLink RX5 17 "SilkMill$Row" "cells" "[LSilkMill$Cocoon;") (by decide +kernel)) rfl (gv_501 _ _) dX5_removeAt_25 ?_
        refine lv_aload_n X.1 X.2.1 dX5_removeAt_28 rfl (lv_at hl 2 rfl) ?_
        refine lv_iload_n X.1 X.2.1 dX5_removeAt_29 rfl (lv_at hl 0 rfl) ?_
        refine k_i (rm := { frames := 1, cells := 0, slots := 0, locals := 48 }) (av := [.ref x, .int (i3_18)]) X hw (va_runV (As := [.int (i3_18)]) (rest := [.ref q_1]) (cfix X) (k_X5_cellOf l G cy κ T_19 _ x (i3_18) (i3_18_z) q_1 n_2 hO_T_19.1 ha_x_L_21 hz_i3_18 ik_27 ik_29 (by omega)) (cwV 1 X.2.2.2.1 gX5_removeAt_X5_cellOf rfl rfl rfl (by decide +kernel) ⟨Nat.le_of_ble_eq_true rfl, Nat.le_of_ble_eq_true rfl⟩) (pre_V X hw _ ha_x_L_21 rfl (by decide) rfl) rfl rfl hl.1 rfl (lv_room (Nat.le_of_ble_eq_true rfl)) dX5_removeAt_30 ⟨Nat.le_of_ble_eq_true rfl, Nat.le_of_ble_eq_true rfl⟩) 0 0 (Nat.le_of_ble_eq_true rfl) (Nat.le_of_ble_eq_true rfl) (fun rr_45 S_46 H locs hp hw hfr hnw => ?_)
        obtain ⟨e2, hp⟩ := hp
        subst e2
        obtain ⟨f_47, f_48⟩ := hp
        refine lv_aload_n X.1 X.2.1 dX5_removeAt_33 rfl (lv_at hl 2 rfl) ?_
        refine r_getR (g := 501) X hw ha_x_L_21 rfl 1 ik_27 (by decide) rfl inn_X5_removeAt_5 (by decide) (X.2.2.2.1 (.fieldLink RX5 17 "SilkMill$Row" "cells" "[LSilkMill$Cocoon;") (by decide +kernel)) rfl (gv_501 _ _) dX5_removeAt_34 ?_
        refine lv_aload_n X.1 X.2.1 dX5_removeAt_37 rfl (lv_at hl 2 rfl) ?_
        refine lv_iload_n X.1 X.2.1 dX5_removeAt_38 rfl (lv_at hl 0 rfl) ?_
        refine lv_iconst (v := 1) X.1 X.2.1 dX5_removeAt_39 (by decide) ?_
        refine lv_iadd X.1 X.2.1 dX5_removeAt_40 ?_
        refine lv_topi (fun v_49 ev_49 => ?_)
        have z_50 : v_49.toInt = i3_18_z + 1 := z_add ev_49 hz_i3_18 ti_1 (by omega) (by omega)
        refine k_i (rm := { frames := 1, cells := 0, slots := 0, locals := 48 }) (av := [.ref x, .int (v_49)]) X hw (va_runV (As := [.int (v_49)]) (rest := [.ref q_1, .int (rr_45), .ref q_1]) (cfix X) (k_X5_cellOf l G cy κ T_19 _ x (v_49) (v_49.toInt) q_1 n_2 hO_T_19.1 ha_x_L_21 rfl ik_27 ik_29 (by omega)) (cwV 1 X.2.2.2.1 gX5_removeAt_X5_cellOf rfl rfl rfl (by decide +kernel) ⟨Nat.le_of_ble_eq_true rfl, Nat.le_of_ble_eq_true rfl⟩) (pre_V X hw _ ha_x_L_21 rfl (by decide) rfl) rfl rfl hl.1 rfl (lv_room (Nat.le_of_ble_eq_true rfl)) dX5_removeAt_41 ⟨Nat.le_of_ble_eq_true rfl, Nat.le_of_ble_eq_true rfl⟩) 0 0 (Nat.le_of_ble_eq_true rfl) (Nat.le_of_ble_eq_true rfl) (fun rr_51 S_52 H locs hp hw hfr hnw => ?_)
        obtain ⟨e2, hp⟩ := hp
        subst e2
        obtain ⟨f_53, f_54⟩ := hp
        refine r_aald X hw ik_28 rfl (by decide) rfl (by rw [ik_29]; exact z_ix rfl (by omega) (by omega)) dX5_removeAt_44 ?_
        rcases ho_55 : pB T_19 q_1 (Int32.toNatClampNeg (rr_51)) with _ | q_56
        · refine W.eq (g2 := F0 m 45 ls (.null :: .int (rr_45) :: .ref q_1 :: [])) rfl ?_
          refine r_aastN (C := "SilkMill$Cocoon") X hw ik_28 rfl (by decide) rfl (by rw [ik_29]; exact z_ix rfl (by omega) (by omega)) dX5_removeAt_45 (fun H locs hw => ?_)
          obtain ⟨S_57, eS_57⟩ : ∃ T, T = sB T_19 q_1 (va_up (pB T_19 q_1) (Int32.toNatClampNeg (rr_45)) none) := ⟨_, rfl⟩
          rw [← eS_57] at hw
          have hO_58 : Ok eRW S S_57 := hO_T_19.sB eS_57 ik_28 (by decide +kernel) (uB_16 hO_T_19.1 ik_28 (fun q hq => by cases hq))
          obtain ⟨x_59, ex_59⟩ : ∃ y : Int32, y = i3_18 + 1 := ⟨_, rfl⟩
          have z_60 : x_59.toInt = i3_18_z + 1 := z_add ex_59 hz_i3_18 ti_1 (by omega) (by omega)
          refine lv_iinc (v := x_59) (lv' := [(3, .int (x_59)), (2, .ref q_11), (0, .ref x), (1, .int (a1))]) X.1 X.2.1 dX5_removeAt_46 hl (k := 0) rfl (by rw [ex_59]; rfl) (by decide) rfl (fun ls hl => ?_)
          refine lv_goto (tgt := 14) X.1 X.2.1 dX5_removeAt_49 (by decide) ?_
          have t_61 : At S_57 q_11 0 := tAt_sB eS_57 ha_q_11_L_20
          have t_62 : At S_57 x 5 := tAt_sB eS_57 ha_x_L_21
          have tc_63 : Tch A S S_57 := Tch_sBn iv_22 eS_57
          have t_64 : pI S_57 500 x = v_23 := tI_sB eS_57 ik_26
          have t_65 : pR S_57 501 x = some q_1 := tR_sB eS_57 ik_27
          have t_66 : At S_57 q_1 16 := tAt_sB eS_57 ik_28
          have t_67 : pN S_57 q_1 = n_2 := tN_sB eS_57 ik_29
          exact ih _ (by omega) _ _ _ _ (x_59) (x_59.toInt) rfl hw rfl (by omega) t_61 t_62 hO_58 tc_63 t_64 t_65 t_66 t_67 (lv_sub hl [0, 1, 2, 3] rfl)
        · refine W.eq (g2 := F0 m 45 ls (.ref q_56 :: .int (rr_45) :: .ref q_1 :: [])) rfl ?_
          have ha_68 : At T_19 q_56 0 := gEl_16 hO_T_19.1 ik_28 _ _ ho_55
          have rh_69 : RH A S q_56 := iv_22.2.1 _ ⟨_, _, hA_q_1, ho_55⟩
          refine r_aast X hw ik_28 rfl ha_68 rfl (by decide) (by decide) rfl rfl (by rw [ik_29]; exact z_ix rfl (by omega) (by omega)) dX5_removeAt_45 (fun H locs hw => ?_)
          obtain ⟨S_70, eS_70⟩ : ∃ T, T = sB T_19 q_1 (va_up (pB T_19 q_1) (Int32.toNatClampNeg (rr_45)) (some q_56)) := ⟨_, rfl⟩
          rw [← eS_70] at hw
          have hO_71 : Ok eRW S S_70 := hO_T_19.sB eS_70 ik_28 (by decide +kernel) (uB_16 hO_T_19.1 ik_28 (fun q hq => by cases hq; exact ha_68))
          obtain ⟨x_72, ex_72⟩ : ∃ y : Int32, y = i3_18 + 1 := ⟨_, rfl⟩
          have z_73 : x_72.toInt = i3_18_z + 1 := z_add ex_72 hz_i3_18 ti_1 (by omega) (by omega)
          refine lv_iinc (v := x_72) (lv' := [(3, .int (x_72)), (2, .ref q_11), (0, .ref x), (1, .int (a1))]) X.1 X.2.1 dX5_removeAt_46 hl (k := 0) rfl (by rw [ex_72]; rfl) (by decide) rfl (fun ls hl => ?_)
          refine lv_goto (tgt := 14) X.1 X.2.1 dX5_removeAt_49 (by decide) ?_
          have t_74 : At S_70 q_11 0 := tAt_sB eS_70 ha_q_11_L_20
          have t_75 : At S_70 x 5 := tAt_sB eS_70 ha_x_L_21
          have tc_76 : Tch A S S_70 := Tch_sB iv_22 eS_70 rh_69
          have t_77 : pI S_70 500 x = v_23 := tI_sB eS_70 ik_26
          have t_78 : pR S_70 501 x = some q_1 := tR_sB eS_70 ik_27
          have t_79 : At S_70 q_1 16 := tAt_sB eS_70 ik_28
          have t_80 : pN S_70 q_1 = n_2 := tN_sB eS_70 ik_29
          exact ih _ (by omega) _ _ _ _ (x_72) (x_72.toInt) rfl hw rfl (by omega) t_74 t_75 hO_71 tc_76 t_77 t_78 t_79 t_80 (lv_sub hl [0, 1, 2, 3] rfl)
    exact L_17 _ _ _ _ _ (a1) (a1_z) rfl hw hz_a1 (by omega) ha_12 ha_x hO htc0 ev_23 h_3 h_4 h_5 (lv_sub hl [0, 1, 2, 3] rfl)
