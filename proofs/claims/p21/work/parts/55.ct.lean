def MLt : List Nat := [1102, 10036, 10054]
def M12t : List Nat := [1200, 1201, 10254, 10274, 10294, 10314, 10334]
/-! ===== cocoons: what is told of them once ===== -/
theorem len_max {sd lg i y v : Int32} (e : v = if (20 : Int32) < y then y else 20) (hy : y = lg + prt (nxt (sd + 7919 * i)) 41 - 20) : v = lenI sd lg i := by
  have z := z_max e (show (20 : Int32).toInt = 20 by decide) (rfl : y.toInt = y.toInt)
  apply Int32.toInt_inj.mp
  unfold lenI
  rw [← hy]
  split
  · rename_i h
    have := z_le (show (20 : Int32).toInt = 20 by decide) (rfl : y.toInt = y.toInt) h
    omega
  · rename_i h
    have := z_nle (show (20 : Int32).toInt = 20 by decide) (rfl : y.toInt = y.toInt) h
    rw [show (20 : Int32).toInt = 20 by decide]
    omega
def bsI (sd bs i : Int32) : Int32 := bs + prt (nxt (nxt (sd + 7919 * i))) 9 - 4
def CoF (S : PS) (c : Nat) (l i sd bs lg fr : Int32) : Prop := pI S 0 c = l ∧ pI S 1 c = i ∧ pI S 2 c = lenI sd lg i ∧ pI S 7 c = sd ∧ pI S 8 c = bsI sd bs i ∧ pI S 9 c = fr
def Co0 (S : PS) (c : Nat) : Prop := pI S 3 c = 0 ∧ pI S 4 c = 0 ∧ pI S 5 c = -1 ∧ pI S 6 c = 0
theorem CoF_eq {S S' : PS} {c : Nat} {l i sd bs lg fr : Int32} (h : ∀ g, g < 10 → pI S' g c = pI S g c) (hc : CoF S c l i sd bs lg fr) : CoF S' c l i sd bs lg fr := ⟨(h 0 (by decide)).trans hc.1, (h 1 (by decide)).trans hc.2.1, (h 2 (by decide)).trans hc.2.2.1, (h 7 (by decide)).trans hc.2.2.2.1, (h 8 (by decide)).trans hc.2.2.2.2.1, (h 9 (by decide)).trans hc.2.2.2.2.2⟩
theorem Co0_eq {S S' : PS} {c : Nat} (h : ∀ g, g < 10 → pI S' g c = pI S g c) (hc : Co0 S c) : Co0 S' c := ⟨(h 3 (by decide)).trans hc.1, (h 4 (by decide)).trans hc.2.1, (h 5 (by decide)).trans hc.2.2.1, (h 6 (by decide)).trans hc.2.2.2⟩
/-- from the place b on, n new cocoons stand in the row ca; all else of it is as before -/
def NewC (S T : PS) (ca : Nat) (b n : Int) (l sd bs lg fr : Int32) : Prop := (∀ j : Nat, (j : Int) < n → ∃ c, pB T ca (b + (j : Int)).toNat = some c ∧ c ∉ pL S ∧ At T c 0 ∧ CoF T c l (Int32.ofInt (j : Int)) sd bs lg fr ∧ Co0 T c) ∧ (∀ j : Nat, (j : Int) < b ∨ b + n ≤ (j : Int) → pB T ca j = pB S ca j)
theorem NewC_0 {S : PS} {ca : Nat} {b : Int} {l sd bs lg fr : Int32} : NewC S S ca b 0 l sd bs lg fr := ⟨fun j hj => absurd hj (by omega), fun _ _ => rfl⟩
theorem NewC_step {S T T1 T2 T3 : PS} {ca q ix kr : Nat} {b n : Int} {l i sd bs lg fr : Int32} (h : NewC S T ca b n l sd bs lg fr) (hq : q ∉ pL T) (e1 : T1 = sO T q kr) (hK : Kq T1 T2 q) (e3 : T3 = sB T2 ca (va_up (pB T2 ca) ix (some q))) (hc : ca ∈ pL T) (hS : ∀ a ∈ pL S, a ∈ pL T) (hix : (ix : Int) = b + n) (hb : 0 ≤ b) (hn : 0 ≤ n) (ha : At T2 q 0) (hi : i.toInt = n) (hf : CoF T2 q l i sd bs lg fr) (h0 : Co0 T2 q) : NewC S T3 ca b (n + 1) l sd bs lg fr := by
  have hI : ∀ a ∈ pL T, pK T2 a = pK T a ∧ (∀ g, pI T2 g a = pI T g a) ∧ pB T2 a = pB T a ∧ a ∈ pL T2 := fun a h => by
    have hne := ne_of_new hq h
    have h1 : a ∈ pL T1 := by rw [e1]; exact List.mem_append_left _ h
    have k := (hK a h1).2 hne
    exact ⟨k.1.trans (by rw [e1]; exact if_neg hne), fun g => (k.2.1 g).trans (by rw [e1]; exact pI_sO_ne hne), k.2.2.2.2.2.trans (by rw [e1]; rfl), (hK a h1).1⟩
  have eB : pB T3 ca = va_up (pB T2 ca) ix (some q) := by rw [e3]; exact if_pos rfl
  have eI : ∀ g a, pI T3 g a = pI T2 g a := fun g a => by rw [e3]; rfl
  refine ⟨fun j hj => ?_, fun j hj => ?_⟩
  · by_cases e : (j : Int) = n
    · refine ⟨q, ?_, fun z => hq (hS q z), ?_, ?_, Co0_eq (fun g _ => eI g q) h0⟩
      · rw [eB]; unfold va_up; rw [if_pos (by omega)]
      · rw [e3]; exact At_sB ha
      · have ej : Int32.ofInt (j : Int) = i := by rw [e, ← hi]; exact Int32.ofInt_toInt i
        rw [ej]; exact CoF_eq (fun g _ => eI g q) hf
    · obtain ⟨c, c1, c2, c3, c4, c5⟩ := h.1 j (by omega)
      have k := hI c c3.1
      refine ⟨c, ?_, c2, ?_, CoF_eq (fun g _ => (eI g c).trans (k.2.1 g)) c4, Co0_eq (fun g _ => (eI g c).trans (k.2.1 g)) c5⟩
      · rw [eB]; unfold va_up; rw [if_neg (by omega), (hI ca hc).2.2.1]; exact c1
      · rw [e3]; exact At_sB ⟨k.2.2.2, k.1.trans c3.2⟩
  · rw [eB]; unfold va_up; rw [if_neg (by omega), (hI ca hc).2.2.1]; exact h.2 j (by omega)
theorem NewC_sA {S T T1 : PS} {ca a : Nat} {f : Nat → Int32} {b n : Int} {l sd bs lg fr : Int32} (h : NewC S T ca b n l sd bs lg fr) (e : T1 = sA T a f) : NewC S T1 ca b n l sd bs lg fr := by
  subst e
  exact h
theorem NewC_sI {S T T1 : PS} {ca g a : Nat} {v : Int32} {b n : Int} {l sd bs lg fr : Int32} (h : NewC S T ca b n l sd bs lg fr) (e : T1 = sI T g a v) (hg : 10 ≤ g) : NewC S T1 ca b n l sd bs lg fr := by
  subst e
  refine ⟨fun j hj => ?_, h.2⟩
  obtain ⟨c, c1, c2, c3, c4, c5⟩ := h.1 j hj
  exact ⟨c, c1, c2, c3, CoF_eq (fun k hk => pI_sI_nf (by omega)) c4, Co0_eq (fun k hk => pI_sI_nf (by omega)) c5⟩
/-- the reference's lot -/
def L12 (S T : PS) (x : Nat) (a1 a2 a3 a4 a5 : Int32) : Prop := ∀ j : Nat, mA T x 1202 j = (if j = (pI S 1201 x).toInt.toNat then a1 else mA S x 1202 j) ∧ mA T x 1203 j = (if j = (pI S 1201 x).toInt.toNat then a2 else mA S x 1203 j) ∧ mA T x 1204 j = (if j = (pI S 1201 x).toInt.toNat then a3 else mA S x 1204 j) ∧ mA T x 1205 j = (if j = (pI S 1201 x).toInt.toNat then a4 else mA S x 1205 j) ∧ mA T x 1206 j = (if j = (pI S 1201 x).toInt.toNat then a5 else mA S x 1206 j)
def S12 (S T : PS) (x : Nat) : Prop := mA T x 1202 = mA S x 1202 ∧ mA T x 1203 = mA S x 1203 ∧ mA T x 1204 = mA S x 1204 ∧ mA T x 1205 = mA S x 1205 ∧ mA T x 1206 = mA S x 1206
/-! ===== every cocoon of every lot stands in its place, with what the reference's rows of lots tell of it ===== -/
def mB (S : PS) (x g : Nat) : Nat → Option Nat := match pR S g x with | some q => pB S q | none => fun _ => none
theorem mB_eq {S : PS} {x g q : Nat} (h : pR S g x = some q) : mB S x g = pB S q := by unfold mB; rw [h]
theorem mA_frc {M : List Nat} {S S' : PS} {x k0 g k : Nat} (hF : Fr M S S') (ha : At S x k0) (hq : ∃ q, pR S g x = some q ∧ At S q k) (h1 : M.contains g = false) (h2 : M.contains (10000 + k) = false) : mA S' x g = mA S x g := by
  obtain ⟨q, hr, hk⟩ := hq
  rw [mA_eq hr, mA_eq (hF.R' h1 ha hr)]
  exact hF.A' h2 hk
theorem mB_frc {M : List Nat} {S S' : PS} {x k0 g k : Nat} (hF : Fr M S S') (ha : At S x k0) (hq : ∃ q, pR S g x = some q ∧ At S q k) (h1 : M.contains g = false) (h2 : M.contains (10000 + k) = false) : mB S' x g = mB S x g := by
  obtain ⟨q, hr, hk⟩ := hq
  rw [mB_eq hr, mB_eq (hF.R' h1 ha hr)]
  exact hF.B' h2 hk
theorem allc {L M : List Nat} (hM : L.all (fun g => !M.contains g) = true) {g : Nat} (hg : g ∈ L) : M.contains g = false := by
  have h := List.all_eq_true.mp hM g hg
  cases e : M.contains g
  · rfl
  · rw [e] at h; cases h
def coL : List Nat := [0, 1, 2, 7, 8, 9]
theorem CoF_fr {M : List Nat} {S S' : PS} {c : Nat} {l i sd bs lg fr : Int32} (hF : Fr M S S') (hc : At S c 0) (hM : coL.all (fun g => !M.contains g) = true) (h : CoF S c l i sd bs lg fr) : CoF S' c l i sd bs lg fr := ⟨hF.I' (allc hM (by decide)) hc h.1, hF.I' (allc hM (by decide)) hc h.2.1, hF.I' (allc hM (by decide)) hc h.2.2.1, hF.I' (allc hM (by decide)) hc h.2.2.2.1, hF.I' (allc hM (by decide)) hc h.2.2.2.2.1, hF.I' (allc hM (by decide)) hc h.2.2.2.2.2⟩
def CTi (S : PS) (x mo l i c : Nat) : Prop := mB S x 1100 (60 * l + i) = some c ∧ At S c 0 ∧ CoF S c (Int32.ofInt (l : Int)) (Int32.ofInt (i : Int)) (mA S mo 1203 l) (mA S mo 1204 l) (mA S mo 1205 l) (mA S mo 1206 l)
def CT (S : PS) (x mo : Nat) : Prop := ∀ l : Nat, (l : Int) < (pI S 1102 x).toInt → mA S x 1101 l = mA S mo 1202 l ∧ ∀ i : Nat, (i : Int) < (mA S x 1101 l).toInt → ∃ c, CTi S x mo l i c
def ctC : List Nat := [1100, 1101, 1102, 10036, 10054]
def ctR : List Nat := [1202, 1203, 1204, 1205, 1206, 10254, 10274, 10294, 10314, 10334]
theorem S12_fr {M : List Nat} {S S' : PS} {mo : Nat} (hG : GX S) (hF : Fr M S S') (hm : At S mo 12) (hM : ctR.all (fun g => !M.contains g) = true) : S12 S S' mo := ⟨mA_fr hF hm (ex3 (gQ_12_1202 hG hm)) (allc hM (by decide)) (allc hM (by decide)), mA_fr hF hm (ex3 (gQ_12_1203 hG hm)) (allc hM (by decide)) (allc hM (by decide)), mA_fr hF hm (ex3 (gQ_12_1204 hG hm)) (allc hM (by decide)) (allc hM (by decide)), mA_fr hF hm (ex3 (gQ_12_1205 hG hm)) (allc hM (by decide)) (allc hM (by decide)), mA_fr hF hm (ex3 (gQ_12_1206 hG hm)) (allc hM (by decide)) (allc hM (by decide))⟩
theorem CT_eq {M : List Nat} {S S' : PS} {x mo : Nat} (hG : GX S) (hF : Fr M S S') (hx : At S x 11) (hM : ctC.all (fun g => !M.contains g) = true) (hM2 : coL.all (fun g => !M.contains g) = true) (h12 : S12 S S' mo) (h : CT S x mo) : CT S' x mo := fun l hl => by
  have eA : mA S' x 1101 = mA S x 1101 := mA_frc hF hx (ex3 (gQ_11_1101 hG hx)) (allc hM (by decide)) (allc hM (by decide))
  have eB : mB S' x 1100 = mB S x 1100 := mB_frc hF hx (ex3 (gQ_11_1100 hG hx)) (allc hM (by decide)) (allc hM (by decide))
  rw [hF.I' (allc hM (by decide)) hx rfl] at hl
  obtain ⟨h1, h2⟩ := h l hl
  obtain ⟨e2, e3, e4, e5, e6⟩ := h12
  refine ⟨by rw [eA, e2]; exact h1, fun i hi => ?_⟩
  rw [eA] at hi
  obtain ⟨c, c1, c2, c3⟩ := h2 i hi
  refine ⟨c, by rw [eB]; exact c1, hF.at c2, ?_⟩
  rw [e3, e4, e5, e6]
  exact CoF_fr hF c2 hM2 c3
theorem CT_lot {S S1 S2 : PS} {x mo : Nat} {a1 a2 a3 a4 a5 : Int32} {a1_z : Int} (hG : GX S) (hG1 : GX S1) (hx : At S x 11) (hm : At S mo 12) (hF1 : Fr MLt S S1) (hF2 : Fr M12t S1 S2) (hl : (pI S 1102 x).toInt = (pI S 1201 mo).toInt) (h9 : (pI S1 1102 x).toInt = (pI S 1102 x).toInt + 1) (hz : a1.toInt = a1_z)
    (hN : ∀ ca lz, pR S 1100 x = some ca → pR S 1101 x = some lz → NewC S S1 ca (60 * (pI S 1102 x).toInt) a1_z (pI S 1102 x) a2 a3 a4 a5 ∧ pA S1 lz = upd (pA S lz) (Int32.toNatClampNeg (pI S 1102 x)) a1) (h12 : L12 S1 S2 mo a1 a2 a3 a4 a5) (h : CT S x mo) : CT S2 x mo := fun l hl2 => by
  have hr := gI_11_1102 hG hx
  obtain ⟨ca, k1, k2, -⟩ := gQ_11_1100 hG hx
  obtain ⟨lz, k3, k4, -⟩ := gQ_11_1101 hG hx
  obtain ⟨n1, n2⟩ := hN ca lz k1 k3
  have hx1 := hF1.at hx
  have hm1 := hF1.at hm
  have j1 : pR S1 1100 x = some ca := hF1.R' (by decide +kernel) hx k1
  have j3 : pR S1 1101 x = some lz := hF1.R' (by decide +kernel) hx k3
  have q1 : pR S2 1100 x = some ca := hF2.R' (by decide +kernel) hx1 j1
  have q3 : pR S2 1101 x = some lz := hF2.R' (by decide +kernel) hx1 j3
  have zn := z_nat (x := pI S 1102 x) rfl hr.1
  have eA : pA S2 lz = pA S1 lz := hF2.A' (k := 54) (by decide +kernel) (hF1.at k4)
  have eB : pB S2 ca = pB S1 ca := hF2.B' (k := 36) (by decide +kernel) (hF1.at k2)
  have el : (pI S1 1201 mo).toInt.toNat = Int32.toNatClampNeg (pI S 1102 x) := by
    rw [hF1.I' (by decide +kernel) hm rfl, ← hl]; omega
  obtain ⟨e2, e3, e4, e5, e6⟩ := S12_fr hG hF1 hm (by decide +kernel)
  have hj := h12 l
  rw [el, e2, e3, e4, e5, e6] at hj
  rw [hF2.I' (by decide +kernel) hx1 rfl, h9] at hl2
  by_cases el2 : l = Int32.toNatClampNeg (pI S 1102 x)
  · rw [if_pos el2, if_pos el2, if_pos el2, if_pos el2, if_pos el2] at hj
    obtain ⟨g2, g3, g4, g5, g6⟩ := hj
    have ea : mA S2 x 1101 l = a1 := by rw [mA_eq q3, eA, n2, el2]; exact upd_s
    refine ⟨by rw [ea, g2], fun i hi => ?_⟩
    rw [ea, hz] at hi
    obtain ⟨c, c1, c2, c3, c4, c5⟩ := n1.1 i hi
    refine ⟨c, ?_, hF2.at c3, ?_⟩
    · rw [mB_eq q1, eB, show 60 * l + i = (60 * (pI S 1102 x).toInt + (i : Int)).toNat by omega]; exact c1
    · rw [g3, g4, g5, g6, show Int32.ofInt (l : Int) = pI S 1102 x by rw [el2, zn]; exact Int32.ofInt_toInt _]
      exact CoF_fr hF2 c3 (by decide +kernel) c4
  · rw [if_neg el2, if_neg el2, if_neg el2, if_neg el2, if_neg el2] at hj
    obtain ⟨g2, g3, g4, g5, g6⟩ := hj
    obtain ⟨h1, h2⟩ := h l (by omega)
    have ea : mA S2 x 1101 l = mA S x 1101 l := by rw [mA_eq q3, eA, n2, mA_eq k3]; exact upd_n el2
    refine ⟨by rw [ea, g2]; exact h1, fun i hi => ?_⟩
    rw [ea] at hi
    obtain ⟨c, c1, c2, c3⟩ := h2 i hi
    have hs := gE_54 hG k4 l
    rw [mA_eq k3] at hi
    refine ⟨c, ?_, hF2.at (hF1.at c2), ?_⟩
    · rw [mB_eq q1, eB, n1.2 (60 * l + i) (by omega), ← mB_eq k1]; exact c1
    · rw [g3, g4, g5, g6]
      exact CoF_fr hF2 (hF1.at c2) (by decide +kernel) (CoF_fr hF1 c2 (by decide +kernel) c3)
theorem CT_0 {S : PS} {x mo : Nat} (h : pI S 1102 x = 0) : CT S x mo := fun l hl => by
  rw [h] at hl
  have e : (0 : Int32).toInt = 0 := by decide
  omega

set_option maxHeartbeats 4000000 in
set_option maxRecDepth 100000 in
theorem k_X11_next2 (l : Launch) (G : va_G) (cy : Nat → ClassId) (κ : Nat → Nat) (S : PS) (sz : Nat) (x1 : Int32) (x1_z : Int) (hG : GX S) (hz_x1 : x1.toInt = x1_z) : Ci l yX11_next wsX11_next ({ frames := 1, cells := 0, slots := 0, locals := 48 }) G cy κ S sz [.int (x1)] (fun (r : Int32) (S9 : PS) => S = S9 ∧ (r = nxt x1)) := by
  refine ent_m (cc := cX11_next) (maxL := 1) (ret := (some .int)) (by decide) rfl (Nat.le_of_ble_eq_true rfl) ?_
  intro p e s m below meth c ls X hr hlocks hin hw hl hsz
  subst hsz
  have X : Cx p c cX11_next 1 s [.int (x1)].toArray wsX11_next RX11 m G cy κ (AS S s.heap.size) := X
  have hl : lv_has ls 1 [(0, .int (x1))] := hl
  have rg_x1 : (-2147483648) ≤ x1_z ∧ x1_z ≤ 2147483647 := by rw [← hz_x1]; exact ⟨z_lo _, z_hi _⟩
  refine lv_iload_n X.1 X.2.1 dX11_next_0 rfl (lv_at hl 0 rfl) ?_
  refine lv_ldcw (v := 1103515245) X.1 X.2.1 X.2.2.2.2.1 (X.2.2.2.1 (.constant RX11 380 1103515245) (by decide +kernel)) dX11_next_1 ?_
  refine lv_imul X.1 X.2.1 dX11_next_4 ?_
  refine lv_topi (fun v_1 ev_1 => ?_)
  have rg_2 := And.intro (z_lo v_1) (z_hi v_1)
  refine lv_sipush (v := 12345) X.1 X.2.1 dX11_next_5 (by decide) ?_
  refine lv_iadd X.1 X.2.1 dX11_next_8 ?_
  refine lv_topi (fun v_3 ev_3 => ?_)
  have rg_4 := And.intro (z_lo v_3) (z_hi v_3)
  exact ret_i X hw hr hlocks (Nat.le_of_ble_eq_true rfl) (Nat.le_of_ble_eq_true rfl) ⟨rfl, (by subst_vars; rfl)⟩ dX11_next_9
set_option maxHeartbeats 4000000 in
set_option maxRecDepth 100000 in
theorem k_X0_init2 (l : Launch) (G : va_G) (cy : Nat → ClassId) (κ : Nat → Nat) (S : PS) (sz : Nat) (x : Nat) (a1 : Int32) (a1_z : Int) (a2 : Int32) (a2_z : Int) (a3 : Int32) (a3_z : Int) (a4 : Int32) (a4_z : Int) (a5 : Int32) (a5_z : Int) (a6 : Int32) (a6_z : Int) (hG : GX S) (ha_x : At S x 180) (hz_a1 : a1.toInt = a1_z) (hz_a2 : a2.toInt = a2_z) (hz_a3 : a3.toInt = a3_z) (hz_a4 : a4.toInt = a4_z) (hz_a5 : a5.toInt = a5_z) (hz_a6 : a6.toInt = a6_z) (hzI : ∀ g, pI S g x = 0) (hzR : ∀ g, pR S g x = none) (hp_0 : 40 ≤ a5_z) (hp_1 : a5_z ≤ 200) : Cv l yX0_init wsX0_init ({ frames := 3, cells := 0, slots := 0, locals := 144 }) G cy κ S sz [.ref x, .int (a1), .int (a2), .int (a3), .int (a4), .int (a5), .int (a6)] (fun (S9 : PS) => Kq S S9 x ∧ GX S9 ∧ At S9 x 0 ∧ Phc S9 = Phc S + 0 ∧ Phs S9 = Phs S + 0 ∧ CoF S9 x a1 a2 a3 a4 a5 a6 ∧ Co0 S9 x) := by
  refine ent_m (cc := cX0_init) (maxL := 8) (ret := none) (by decide) rfl (Nat.le_of_ble_eq_true rfl) ?_
  intro p e s m below meth c ls X hr hlocks hin hw hl hsz
  subst hsz
  have X : Cx p c cX0_init 8 s [.ref x, .int (a1), .int (a2), .int (a3), .int (a4), .int (a5), .int (a6)].toArray wsX0_init RX0 m G cy κ (AS S s.heap.size) := X
  have hl : lv_has ls 8 [(0, .ref x), (1, .int (a1)), (2, .int (a2)), (3, .int (a3)), (4, .int (a4)), (5, .int (a5)), (6, .int (a6))] := hl
  have rg_a1 : (-2147483648) ≤ a1_z ∧ a1_z ≤ 2147483647 := by rw [← hz_a1]; exact ⟨z_lo _, z_hi _⟩
  have rg_a2 : (-2147483648) ≤ a2_z ∧ a2_z ≤ 2147483647 := by rw [← hz_a2]; exact ⟨z_lo _, z_hi _⟩
  have rg_a3 : (-2147483648) ≤ a3_z ∧ a3_z ≤ 2147483647 := by rw [← hz_a3]; exact ⟨z_lo _, z_hi _⟩
  have rg_a4 : (-2147483648) ≤ a4_z ∧ a4_z ≤ 2147483647 := by rw [← hz_a4]; exact ⟨z_lo _, z_hi _⟩
  have rg_a5 : (-2147483648) ≤ a5_z ∧ a5_z ≤ 2147483647 := by rw [← hz_a5]; exact ⟨z_lo _, z_hi _⟩
  have rg_a6 : (-2147483648) ≤ a6_z ∧ a6_z ≤ 2147483647 := by rw [← hz_a6]; exact ⟨z_lo _, z_hi _⟩
  have hpc0 : Phc S = Phc S + 0 := rfl
  have hps0 : Phs S = Phs S + 0 := rfl
  have hK : Kq S S x := Kq.rf S _
  refine lv_aload_n X.1 X.2.1 dX0_init_0 rfl (lv_at hl 0 rfl) ?_
  refine W.objInit X.1 X.2.1 X.2.2.2.2.1 (X.2.2.2.1 (.methodLink RX0 3 objectInit) (by decide +kernel)) (X.2.2.2.1 (.instanceMethod objectInit) (by decide +kernel)) (X.2.2.2.1 (.code objectInit ⟨#[0xb1]⟩ 1 none) (by decide +kernel)) rfl (hl.1.trans X.2.2.1.symm) rfl dX0_init_1 (Nat.le_of_ble_eq_true rfl) (Nat.le_of_ble_eq_true rfl) ?_
  refine W.eq (g2 := F0 m 4 ls ([])) rfl ?_
  refine lv_aload_n X.1 X.2.1 dX0_init_4 rfl (lv_at hl 0 rfl) ?_
  refine lv_iconst (v := 0) X.1 X.2.1 dX0_init_5 (by decide) ?_
  refine r_putI (v := 0) X hw ha_x rfl 3 3 tyX0 (by decide) rfl inn_X0_init_0 tyX0_ok nmX0 (by decide) (X.2.2.2.1 (.fieldLink RX0 9 "SilkMill$Cocoon" "stand" "I") (by decide +kernel)) rfl (Or.inl rfl) rfl rfl (Nat.le_of_ble_eq_true rfl) (st_3 _ _) dX0_init_6 (fun H locs hw => ?_)
  obtain ⟨S_1, eS_1⟩ : ∃ T, T = sI S 3 x (0) := ⟨_, rfl⟩
  rw [← eS_1] at hw
  have ph_2 : Phc S_1 = Phc S + 0 := (show Phc S_1 = Phc S from Ph_rawI ha_x (by decide) eS_1).trans hpc0
  have ph_3 : Phs S_1 = Phs S + 0 := (show Phs S_1 = Phs S from Ph_rawI ha_x (by decide) eS_1).trans hps0
  clear hpc0
  clear hps0
  have hK_4 : Kq S S_1 x := hK.sI eS_1
  have hg_5 : GX S_1 := by rw [eS_1]; exact GX_rawI hG ha_x (by decide +kernel)
  have h_6 : pI S_1 3 x = 0 := tI_sIs eS_1
  refine lv_aload_n X.1 X.2.1 dX0_init_9 rfl (lv_at hl 0 rfl) ?_
  refine lv_iconst (v := (-1)) X.1 X.2.1 dX0_init_10 (by decide) ?_
  have t_7 : At S_1 x 180 := tAt_sI eS_1 ha_x
  refine r_putI (v := (-1)) X hw t_7 rfl 5 5 tyX0 (by decide) rfl inn_X0_init_0 tyX0_ok nmX0 (by decide) (X.2.2.2.1 (.fieldLink RX0 15 "SilkMill$Cocoon" "potNumber" "I") (by decide +kernel)) rfl (Or.inl rfl) rfl rfl (Nat.le_of_ble_eq_true rfl) (st_5 _ _) dX0_init_11 (fun H locs hw => ?_)
  obtain ⟨S_8, eS_8⟩ : ∃ T, T = sI S_1 5 x ((-1)) := ⟨_, rfl⟩
  rw [← eS_8] at hw
  have ph_9 : Phc S_8 = Phc S + 0 := (show Phc S_8 = Phc S_1 from Ph_rawI t_7 (by decide) eS_8).trans ph_2
  have ph_10 : Phs S_8 = Phs S + 0 := (show Phs S_8 = Phs S_1 from Ph_rawI t_7 (by decide) eS_8).trans ph_3
  clear ph_2
  clear ph_3
  have hK_11 : Kq S S_8 x := hK_4.sI eS_8
  have hg_12 : GX S_8 := by rw [eS_8]; exact GX_rawI hg_5 t_7 (by decide +kernel)
  have h_13 : pI S_8 5 x = (-1) := tI_sIs eS_8
  refine lv_aload_n X.1 X.2.1 dX0_init_14 rfl (lv_at hl 0 rfl) ?_
  refine lv_iload_n X.1 X.2.1 dX0_init_15 rfl (lv_at hl 1 rfl) ?_
  have t_14 : At S_8 x 180 := tAt_sI eS_8 t_7
  refine r_putI (v := a1) X hw t_14 rfl 0 0 tyX0 (by decide) rfl inn_X0_init_0 tyX0_ok nmX0 (by decide) (X.2.2.2.1 (.fieldLink RX0 18 "SilkMill$Cocoon" "lotNumber" "I") (by decide +kernel)) rfl (Or.inr ⟨rfl, hin, rfl⟩) rfl rfl (Nat.le_of_ble_eq_true rfl) (st_0 _ _) dX0_init_16 (fun H locs hw => ?_)
  obtain ⟨S_15, eS_15⟩ : ∃ T, T = sI S_8 0 x (a1) := ⟨_, rfl⟩
  rw [← eS_15] at hw
  have ph_16 : Phc S_15 = Phc S + 0 := (show Phc S_15 = Phc S_8 from Ph_rawI t_14 (by decide) eS_15).trans ph_9
  have ph_17 : Phs S_15 = Phs S + 0 := (show Phs S_15 = Phs S_8 from Ph_rawI t_14 (by decide) eS_15).trans ph_10
  clear ph_9
  clear ph_10
  have hK_18 : Kq S S_15 x := hK_11.sI eS_15
  have hg_19 : GX S_15 := by rw [eS_15]; exact GX_rawI hg_12 t_14 (by decide +kernel)
  have h_20 : pI S_15 0 x = a1 := tI_sIs eS_15
  refine lv_aload_n X.1 X.2.1 dX0_init_19 rfl (lv_at hl 0 rfl) ?_
  refine lv_iload_n X.1 X.2.1 dX0_init_20 rfl (lv_at hl 2 rfl) ?_
  have t_21 : At S_15 x 180 := tAt_sI eS_15 t_14
  refine r_putI (v := a2) X hw t_21 rfl 1 1 tyX0 (by decide) rfl inn_X0_init_0 tyX0_ok nmX0 (by decide) (X.2.2.2.1 (.fieldLink RX0 21 "SilkMill$Cocoon" "index" "I") (by decide +kernel)) rfl (Or.inr ⟨rfl, hin, rfl⟩) rfl rfl (Nat.le_of_ble_eq_true rfl) (st_1 _ _) dX0_init_21 (fun H locs hw => ?_)
  obtain ⟨S_22, eS_22⟩ : ∃ T, T = sI S_15 1 x (a2) := ⟨_, rfl⟩
  rw [← eS_22] at hw
  have ph_23 : Phc S_22 = Phc S + 0 := (show Phc S_22 = Phc S_15 from Ph_rawI t_21 (by decide) eS_22).trans ph_16
  have ph_24 : Phs S_22 = Phs S + 0 := (show Phs S_22 = Phs S_15 from Ph_rawI t_21 (by decide) eS_22).trans ph_17
  clear ph_16
  clear ph_17
  have hK_25 : Kq S S_22 x := hK_18.sI eS_22
  have hg_26 : GX S_22 := by rw [eS_22]; exact GX_rawI hg_19 t_21 (by decide +kernel)
  have h_27 : pI S_22 1 x = a2 := tI_sIs eS_22
  refine lv_aload_n X.1 X.2.1 dX0_init_24 rfl (lv_at hl 0 rfl) ?_
  refine lv_iload_n X.1 X.2.1 dX0_init_25 rfl (lv_at hl 3 rfl) ?_
  have t_28 : At S_22 x 180 := tAt_sI eS_22 t_21
  refine r_putI (v := a3) X hw t_28 rfl 7 7 tyX0 (by decide) rfl inn_X0_init_0 tyX0_ok nmX0 (by decide) (X.2.2.2.1 (.fieldLink RX0 24 "SilkMill$Cocoon" "seed" "I") (by decide +kernel)) rfl (Or.inr ⟨rfl, hin, rfl⟩) rfl rfl (Nat.le_of_ble_eq_true rfl) (st_7 _ _) dX0_init_26 (fun H locs hw => ?_)
  obtain ⟨S_29, eS_29⟩ : ∃ T, T = sI S_22 7 x (a3) := ⟨_, rfl⟩
  rw [← eS_29] at hw
  have ph_30 : Phc S_29 = Phc S + 0 := (show Phc S_29 = Phc S_22 from Ph_rawI t_28 (by decide) eS_29).trans ph_23
  have ph_31 : Phs S_29 = Phs S + 0 := (show Phs S_29 = Phs S_22 from Ph_rawI t_28 (by decide) eS_29).trans ph_24
  clear ph_23
  clear ph_24
  have hK_32 : Kq S S_29 x := hK_25.sI eS_29
  have hg_33 : GX S_29 := by rw [eS_29]; exact GX_rawI hg_26 t_28 (by decide +kernel)
  have h_34 : pI S_29 7 x = a3 := tI_sIs eS_29
  refine lv_aload_n X.1 X.2.1 dX0_init_29 rfl (lv_at hl 0 rfl) ?_
  refine lv_iload X.1 X.2.1 dX0_init_30 (lv_at hl 6 rfl) ?_
  have t_35 : At S_29 x 180 := tAt_sI eS_29 t_28
  refine r_putI (v := a6) X hw t_35 rfl 9 9 tyX0 (by decide) rfl inn_X0_init_0 tyX0_ok nmX0 (by decide) (X.2.2.2.1 (.fieldLink RX0 27 "SilkMill$Cocoon" "frail" "I") (by decide +kernel)) rfl (Or.inr ⟨rfl, hin, rfl⟩) rfl rfl (Nat.le_of_ble_eq_true rfl) (st_9 _ _) dX0_init_32 (fun H locs hw => ?_)
  obtain ⟨S_36, eS_36⟩ : ∃ T, T = sI S_29 9 x (a6) := ⟨_, rfl⟩
  rw [← eS_36] at hw
  have ph_37 : Phc S_36 = Phc S + 0 := (show Phc S_36 = Phc S_29 from Ph_rawI t_35 (by decide) eS_36).trans ph_30
  have ph_38 : Phs S_36 = Phs S + 0 := (show Phs S_36 = Phs S_29 from Ph_rawI t_35 (by decide) eS_36).trans ph_31
  clear ph_30
  clear ph_31
  have hK_39 : Kq S S_36 x := hK_32.sI eS_36
  have hg_40 : GX S_36 := by rw [eS_36]; exact GX_rawI hg_33 t_35 (by decide +kernel)
  have h_41 : pI S_36 9 x = a6 := tI_sIs eS_36
  refine lv_iload_n X.1 X.2.1 dX0_init_35 rfl (lv_at hl 3 rfl) ?_
  refine lv_sipush (v := 7919) X.1 X.2.1 dX0_init_36 (by decide) ?_
  refine lv_iload_n X.1 X.2.1 dX0_init_39 rfl (lv_at hl 2 rfl) ?_
  refine lv_imul X.1 X.2.1 dX0_init_40 ?_
  refine lv_topi (fun v_42 ev_42 => ?_)
  have rg_43 := And.intro (z_lo v_42) (z_hi v_42)
  refine lv_iadd X.1 X.2.1 dX0_init_41 ?_
  refine lv_topi (fun v_44 ev_44 => ?_)
  have rg_45 := And.intro (z_lo v_44) (z_hi v_44)
  refine k_i (rm := { frames := 1, cells := 0, slots := 0, locals := 48 }) (av := [.int (v_44)]) X hw (va_runSN (As := [.int (v_44)]) (rest := []) (cfix X) (k_X11_next2 l G cy κ S_36 _ (v_44) (v_44.toInt) hg_40 rfl) ⟨(va_cnB (host := RX11) 1 X.2.2.2.1 gX0_init_X11_next_n30 rfl rfl rfl (X.2.2.2.2.2.2.2.1.2.1 (RX0, 30, yX11_next) (by decide +kernel)) (X.2.2.2.1 (.initialized RX11) (by decide +kernel)) (by decide +kernel) ⟨Nat.le_of_ble_eq_true rfl, Nat.le_of_ble_eq_true rfl⟩), (X.2.2.2.1 (.static yX11_next) (by decide +kernel)), trivial⟩ (pre_S X hw _) rfl rfl hl.1 rfl (lv_room (Nat.le_of_ble_eq_true rfl)) dX0_init_42 ⟨Nat.le_of_ble_eq_true rfl, Nat.le_of_ble_eq_true rfl⟩) 0 0 (Nat.le_of_ble_eq_true rfl) (Nat.le_of_ble_eq_true rfl) (fun rr_46 S_47 H locs hp hw hfr hnw => ?_)
  obtain ⟨e2, hp⟩ := hp
  subst e2
  have f_48 := hp
  refine lv_istore (lv' := [(7, .int (rr_46)), (0, .ref x), (1, .int (a1)), (2, .int (a2)), (3, .int (a3)), (4, .int (a4)), (5, .int (a5)), (6, .int (a6))]) X.1 X.2.1 dX0_init_45 hl (by decide) rfl (fun ls hl => ?_)
  refine lv_aload_n X.1 X.2.1 dX0_init_47 rfl (lv_at hl 1 rfl) ?_
  refine lv_bipush (v := 20) X.1 X.2.1 dX0_init_48 (by decide) ?_
  refine lv_iload X.1 X.2.1 dX0_init_50 (lv_at hl 6 rfl) ?_
  refine lv_iload X.1 X.2.1 dX0_init_52 (lv_at hl 0 rfl) ?_
  refine lv_bipush (v := 16) X.1 X.2.1 dX0_init_54 (by decide) ?_
  refine lv_iushr X.1 X.2.1 dX0_init_56 rfl ?_
  refine lv_topi (fun v_49 ev_49 => ?_)
  have z_50 : 0 ≤ v_49.toInt ∧ v_49.toInt ≤ 65535 := z_ushr16 ev_49
  refine lv_bipush (v := 41) X.1 X.2.1 dX0_init_57 (by decide) ?_
  refine lv_irem X.1 X.2.1 dX0_init_59 (by decide) ?_
  refine lv_topi (fun v_51 ev_51 => ?_)
  have z_52 : v_51.toInt = v_49.toInt % 41 := z_rem ev_51 rfl ti_41 (by omega) (by omega)
  have z_53 : 0 ≤ v_51.toInt ∧ v_51.toInt < 41 := by rw [z_52]; exact ⟨Int.emod_nonneg _ (by omega), Int.emod_lt_of_pos _ (by omega)⟩
  refine lv_iadd X.1 X.2.1 dX0_init_60 ?_
  refine lv_topi (fun v_54 ev_54 => ?_)
  have z_55 : v_54.toInt = a5_z + v_51.toInt := z_add ev_54 hz_a5 rfl (by omega) (by omega)
  refine lv_bipush (v := 20) X.1 X.2.1 dX0_init_61 (by decide) ?_
  refine lv_isub X.1 X.2.1 dX0_init_63 ?_
  refine lv_topi (fun v_56 ev_56 => ?_)
  have z_57 : v_56.toInt = v_54.toInt - 20 := z_sub ev_56 rfl ti_20 (by omega) (by omega)
  refine va_mmax X.1 X.2.1 (X.2.2.1.trans hl.1.symm) X.2.2.2.2.1 (X.2.2.2.1 (.methodLink RX0 34 Lib.Math.max.name) (by decide +kernel)) (X.2.2.2.1 (.static Lib.Math.max.name) (by decide +kernel)) (X.2.2.2.1 (.initialized "java/lang/Math") (by decide +kernel)) (X.2.2.2.1 (.code Lib.Math.max.name Lib.Math.max.code 2 (some .int)) (by decide +kernel)) (Nat.le_of_ble_eq_true rfl) (Nat.le_of_ble_eq_true rfl) (Nat.le_of_ble_eq_true rfl) (Nat.le_of_ble_eq_true rfl) dX0_init_64 ?_
  refine lv_topi (fun v_58 ev_58 => ?_)
  have z_59 : v_58.toInt = v_56.toInt := by have := z_max ev_58 ti_20 rfl; omega
  have t_60 : At S_36 x 180 := tAt_sI eS_36 t_35
  refine r_putI (v := v_58) X hw t_60 rfl 2 2 tyX0 (by decide) rfl inn_X0_init_0 tyX0_ok nmX0 (by decide) (X.2.2.2.1 (.fieldLink RX0 40 "SilkMill$Cocoon" "length" "I") (by decide +kernel)) rfl (Or.inr ⟨rfl, hin, rfl⟩) rfl rfl (Nat.le_of_ble_eq_true rfl) (st_2 _ _) dX0_init_67 (fun H locs hw => ?_)
  obtain ⟨S_61, eS_61⟩ : ∃ T, T = sI S_36 2 x (v_58) := ⟨_, rfl⟩
  rw [← eS_61] at hw
  have ph_62 : Phc S_61 = Phc S + 0 := (show Phc S_61 = Phc S_36 from Ph_rawI t_60 (by decide) eS_61).trans ph_37
  have ph_63 : Phs S_61 = Phs S + 0 := (show Phs S_61 = Phs S_36 from Ph_rawI t_60 (by decide) eS_61).trans ph_38
  clear ph_37
  clear ph_38
  have hK_64 : Kq S S_61 x := hK_39.sI eS_61
  have hg_65 : GX S_61 := by rw [eS_61]; exact GX_rawI hg_40 t_60 (by decide +kernel)
  have h_66 : pI S_61 2 x = v_58 := tI_sIs eS_61
  refine lv_iload X.1 X.2.1 dX0_init_70 (lv_at hl 0 rfl) ?_
  refine k_i (rm := { frames := 1, cells := 0, slots := 0, locals := 48 }) (av := [.int (rr_46)]) X hw (va_runSN (As := [.int (rr_46)]) (rest := []) (cfix X) (k_X11_next2 l G cy κ S_61 _ (rr_46) (rr_46.toInt) hg_65 rfl) ⟨(va_cnB (host := RX11) 1 X.2.2.2.1 gX0_init_X11_next_n30 rfl rfl rfl (X.2.2.2.2.2.2.2.1.2.1 (RX0, 30, yX11_next) (by decide +kernel)) (X.2.2.2.1 (.initialized RX11) (by decide +kernel)) (by decide +kernel) ⟨Nat.le_of_ble_eq_true rfl, Nat.le_of_ble_eq_true rfl⟩), (X.2.2.2.1 (.static yX11_next) (by decide +kernel)), trivial⟩ (pre_S X hw _) rfl rfl hl.1 rfl (lv_room (Nat.le_of_ble_eq_true rfl)) dX0_init_72 ⟨Nat.le_of_ble_eq_true rfl, Nat.le_of_ble_eq_true rfl⟩) 0 0 (Nat.le_of_ble_eq_true rfl) (Nat.le_of_ble_eq_true rfl) (fun rr_67 S_68 H locs hp hw hfr hnw => ?_)
  obtain ⟨e2, hp⟩ := hp
  subst e2
  have f_69 := hp
  refine lv_istore (lv' := [(7, .int (rr_67)), (0, .ref x), (1, .int (a1)), (2, .int (a2)), (3, .int (a3)), (4, .int (a4)), (5, .int (a5)), (6, .int (a6))]) X.1 X.2.1 dX0_init_75 hl (by decide) rfl (fun ls hl => ?_)
  refine lv_aload_n X.1 X.2.1 dX0_init_77 rfl (lv_at hl 1 rfl) ?_
  refine lv_iload X.1 X.2.1 dX0_init_78 (lv_at hl 5 rfl) ?_
  refine lv_iload X.1 X.2.1 dX0_init_80 (lv_at hl 0 rfl) ?_
  refine lv_bipush (v := 16) X.1 X.2.1 dX0_init_82 (by decide) ?_
  refine lv_iushr X.1 X.2.1 dX0_init_84 rfl ?_
  refine lv_topi (fun v_70 ev_70 => ?_)
  have z_71 : 0 ≤ v_70.toInt ∧ v_70.toInt ≤ 65535 := z_ushr16 ev_70
  refine lv_bipush (v := 9) X.1 X.2.1 dX0_init_85 (by decide) ?_
  refine lv_irem X.1 X.2.1 dX0_init_87 (by decide) ?_
  refine lv_topi (fun v_72 ev_72 => ?_)
  have z_73 : v_72.toInt = v_70.toInt % 9 := z_rem ev_72 rfl ti_9 (by omega) (by omega)
  have z_74 : 0 ≤ v_72.toInt ∧ v_72.toInt < 9 := by rw [z_73]; exact ⟨Int.emod_nonneg _ (by omega), Int.emod_lt_of_pos _ (by omega)⟩
  refine lv_iadd X.1 X.2.1 dX0_init_88 ?_
  refine lv_topi (fun v_75 ev_75 => ?_)
  have rg_76 := And.intro (z_lo v_75) (z_hi v_75)
  refine lv_iconst (v := 4) X.1 X.2.1 dX0_init_89 (by decide) ?_
  refine lv_isub X.1 X.2.1 dX0_init_90 ?_
  refine lv_topi (fun v_77 ev_77 => ?_)
  have rg_78 := And.intro (z_lo v_77) (z_hi v_77)
  have t_79 : At S_61 x 180 := tAt_sI eS_61 t_60
  refine r_putI (v := v_77) X hw t_79 rfl 8 8 tyX0 (by decide) rfl inn_X0_init_0 tyX0_ok nmX0 (by decide) (X.2.2.2.1 (.fieldLink RX0 43 "SilkMill$Cocoon" "base" "I") (by decide +kernel)) rfl (Or.inr ⟨rfl, hin, rfl⟩) rfl rfl (Nat.le_of_ble_eq_true rfl) (st_8 _ _) dX0_init_91 (fun H locs hw => ?_)
  obtain ⟨S_80, eS_80⟩ : ∃ T, T = sI S_61 8 x (v_77) := ⟨_, rfl⟩
  rw [← eS_80] at hw
  have ph_81 : Phc S_80 = Phc S + 0 := (show Phc S_80 = Phc S_61 from Ph_rawI t_79 (by decide) eS_80).trans ph_62
  have ph_82 : Phs S_80 = Phs S + 0 := (show Phs S_80 = Phs S_61 from Ph_rawI t_79 (by decide) eS_80).trans ph_63
  clear ph_62
  clear ph_63
  have hK_83 : Kq S S_80 x := hK_64.sI eS_80
  have hg_84 : GX S_80 := by rw [eS_80]; exact GX_rawI hg_65 t_79 (by decide +kernel)
  have h_85 : pI S_80 8 x = v_77 := tI_sIs eS_80
  have t_86 : At S_80 x 180 := tAt_sI eS_80 t_79
  have nd_87 := nodup_of hw
  have t_88 : pI S_80 2 x = v_58 := tI_sI eS_80 rfl h_66
  obtain ⟨S_89, eS_89⟩ : ∃ T, T = sK S_80 x 0 := ⟨_, rfl⟩
  have hw := Wd_sK (k := 0) hw t_86 rfl; rw [← eS_89] at hw
  have hg9 : GX S_89 := by rw [eS_89]; exact GX_sK hg_84 t_86 (by decide +kernel) (mk_0 (by rw [pI_sK, t_88]; exact ⟨by omega, by omega⟩))
  have ha9 : At S_89 x 0 := by rw [eS_89]; exact At_nK t_86
  have hk9 : Kq S S_89 x := hK_83.sK eS_89
  have hPhc9 : Phc S_89 = Phc S + 0 := by rw [show Phc S_89 = Ph fC 8 14400 S_89 from rfl, Ph_sK nd_87 t_86 (by decide) eS_89, ph_0 ha9 (by decide)]; show Phc S_80 + _ = _; omega
  have hPhs9 : Phs S_89 = Phs S + 0 := by rw [show Phs S_89 = Ph fS 15100 46000 S_89 from rfl, Ph_sK nd_87 t_86 (by decide) eS_89, ph_0 ha9 (by decide)]; show Phs S_80 + _ = _; omega
  have t_90 : pI S_22 0 x = a1 := tI_sI eS_22 rfl h_20
  have t_91 : pI S_29 0 x = a1 := tI_sI eS_29 rfl t_90
  have t_92 : pI S_36 0 x = a1 := tI_sI eS_36 rfl t_91
  have t_93 : pI S_61 0 x = a1 := tI_sI eS_61 rfl t_92
  have t_94 : pI S_80 0 x = a1 := tI_sI eS_80 rfl t_93
  have t_95 : pI S_29 1 x = a2 := tI_sI eS_29 rfl h_27
  have t_96 : pI S_36 1 x = a2 := tI_sI eS_36 rfl t_95
  have t_97 : pI S_61 1 x = a2 := tI_sI eS_61 rfl t_96
  have t_98 : pI S_80 1 x = a2 := tI_sI eS_80 rfl t_97
  have t_99 : pI S_36 7 x = a3 := tI_sI eS_36 rfl h_34
  have t_100 : pI S_61 7 x = a3 := tI_sI eS_61 rfl t_99
  have t_101 : pI S_80 7 x = a3 := tI_sI eS_80 rfl t_100
  have t_102 : pI S_61 9 x = a6 := tI_sI eS_61 rfl h_41
  have t_103 : pI S_80 9 x = a6 := tI_sI eS_80 rfl t_102
  have t_104 : pI S_8 3 x = 0 := tI_sI eS_8 rfl h_6
  have t_105 : pI S_15 3 x = 0 := tI_sI eS_15 rfl t_104
  have t_106 : pI S_22 3 x = 0 := tI_sI eS_22 rfl t_105
  have t_107 : pI S_29 3 x = 0 := tI_sI eS_29 rfl t_106
  have t_108 : pI S_36 3 x = 0 := tI_sI eS_36 rfl t_107
  have t_109 : pI S_61 3 x = 0 := tI_sI eS_61 rfl t_108
  have t_110 : pI S_80 3 x = 0 := tI_sI eS_80 rfl t_109
  have t_111 : pI S_1 4 x = 0 := tI_sI eS_1 rfl (hzI 4)
  have t_112 : pI S_8 4 x = 0 := tI_sI eS_8 rfl t_111
  have t_113 : pI S_15 4 x = 0 := tI_sI eS_15 rfl t_112
  have t_114 : pI S_22 4 x = 0 := tI_sI eS_22 rfl t_113
  have t_115 : pI S_29 4 x = 0 := tI_sI eS_29 rfl t_114
  have t_116 : pI S_36 4 x = 0 := tI_sI eS_36 rfl t_115
  have t_117 : pI S_61 4 x = 0 := tI_sI eS_61 rfl t_116
  have t_118 : pI S_80 4 x = 0 := tI_sI eS_80 rfl t_117
  have t_119 : pI S_15 5 x = (-1) := tI_sI eS_15 rfl h_13
  have t_120 : pI S_22 5 x = (-1) := tI_sI eS_22 rfl t_119
  have t_121 : pI S_29 5 x = (-1) := tI_sI eS_29 rfl t_120
  have t_122 : pI S_36 5 x = (-1) := tI_sI eS_36 rfl t_121
  have t_123 : pI S_61 5 x = (-1) := tI_sI eS_61 rfl t_122
  have t_124 : pI S_80 5 x = (-1) := tI_sI eS_80 rfl t_123
  have t_125 : pI S_1 6 x = 0 := tI_sI eS_1 rfl (hzI 6)
  have t_126 : pI S_8 6 x = 0 := tI_sI eS_8 rfl t_125
  have t_127 : pI S_15 6 x = 0 := tI_sI eS_15 rfl t_126
  have t_128 : pI S_22 6 x = 0 := tI_sI eS_22 rfl t_127
  have t_129 : pI S_29 6 x = 0 := tI_sI eS_29 rfl t_128
  have t_130 : pI S_36 6 x = 0 := tI_sI eS_36 rfl t_129
  have t_131 : pI S_61 6 x = 0 := tI_sI eS_61 rfl t_130
  have t_132 : pI S_80 6 x = 0 := tI_sI eS_80 rfl t_131
  exact ret_v X hw hr hlocks (Nat.le_of_ble_eq_true rfl) (Nat.le_of_ble_eq_true rfl) ⟨hk9, hg9, ha9, hPhc9, hPhs9, ⟨by rw [eS_89, pI_sK]; exact t_94, by rw [eS_89, pI_sK]; exact t_98, by rw [eS_89, pI_sK, t_88]; exact len_max ev_58 (by subst_vars; rfl), by rw [eS_89, pI_sK]; exact t_101, by rw [eS_89, pI_sK, h_85, ev_77]; subst_vars; rfl, by rw [eS_89, pI_sK]; exact t_103⟩, ⟨by rw [eS_89, pI_sK]; exact t_110, by rw [eS_89, pI_sK]; exact t_118, by rw [eS_89, pI_sK]; exact t_124, by rw [eS_89, pI_sK]; exact t_132⟩⟩ dX0_init_94
set_option maxHeartbeats 4000000 in
set_option maxRecDepth 100000 in
theorem k_X11_lot2 (l : Launch) (G : va_G) (cy : Nat → ClassId) (κ : Nat → Nat) (S : PS) (sz hz : Nat) (x : Nat) (a1 : Int32) (a1_z : Int) (a2 : Int32) (a2_z : Int) (a3 : Int32) (a3_z : Int) (a4 : Int32) (a4_z : Int) (a5 : Int32) (a5_z : Int) (hG : GX S) (ha_x : At S x 11) (hz_a1 : a1.toInt = a1_z) (hz_a2 : a2.toInt = a2_z) (hz_a3 : a3.toInt = a3_z) (hz_a4 : a4.toInt = a4_z) (hz_a5 : a5.toInt = a5_z) : Gi l yX11_lot wsX11_lot ({ frames := 4, cells := Phc S + 60, slots := Phs S + 600, locals := 192 }) G cy κ S sz hz 60 600 [.ref x, .int (a1), .int (a2), .int (a3), .int (a4), .int (a5)] (fun (r : Int32) (S9 : PS) => Og MLt S S9 ∧ (-2147483648 ≤ r.toInt ∧ r.toInt ≤ 2147483647 ∧ ((((pI S 1102 x).toInt < 10 ∧ 1 ≤ a1_z ∧ a1_z ≤ 60 ∧ 20 ≤ a3_z ∧ a3_z ≤ 60 ∧ 40 ≤ a4_z ∧ a4_z ≤ 200 ∧ 0 ≤ a5_z ∧ a5_z ≤ 200) ∧ r.toInt = (pI S 1102 x).toInt ∧ (pI S9 1102 x).toInt = (pI S 1102 x).toInt + 1) ∨ (¬ (((pI S 1102 x).toInt < 10 ∧ 1 ≤ a1_z ∧ a1_z ≤ 60 ∧ 20 ≤ a3_z ∧ a3_z ≤ 60 ∧ 40 ≤ a4_z ∧ a4_z ≤ 200 ∧ 0 ≤ a5_z ∧ a5_z ≤ 200)) ∧ r.toInt = -1 ∧ (pI S9 1102 x).toInt = (pI S 1102 x).toInt)) ∧ (((pI S 1102 x).toInt < 10 ∧ 1 ≤ a1_z ∧ a1_z ≤ 60 ∧ 20 ≤ a3_z ∧ a3_z ≤ 60 ∧ 40 ≤ a4_z ∧ a4_z ≤ 200 ∧ 0 ≤ a5_z ∧ a5_z ≤ 200) → ∀ ca lz, pR S 1100 x = some ca → pR S 1101 x = some lz → NewC S S9 ca (60 * (pI S 1102 x).toInt) a1_z (pI S 1102 x) a2 a3 a4 a5 ∧ pA S9 lz = upd (pA S lz) (Int32.toNatClampNeg (pI S 1102 x)) a1) ∧ (¬ ((pI S 1102 x).toInt < 10 ∧ 1 ≤ a1_z ∧ a1_z ≤ 60 ∧ 20 ≤ a3_z ∧ a3_z ≤ 60 ∧ 40 ≤ a4_z ∧ a4_z ≤ 200 ∧ 0 ≤ a5_z ∧ a5_z ≤ 200) → S9 = S))) := by
  refine ent_g (cc := cX11_lot) (maxL := 7) (ret := (some .int)) (by decide) rfl (Nat.le_of_ble_eq_true rfl) ?_
  intro p e s m below meth c ls X hr hlocks hin hw hl hsz hhz
  subst hsz hhz
  have X : Cx p c cX11_lot 7 s [.ref x, .int (a1), .int (a2), .int (a3), .int (a4), .int (a5)].toArray wsX11_lot RX11 m G cy κ (AS S s.heap.size) := X
  have hl : lv_has ls 7 [(0, .ref x), (1, .int (a1)), (2, .int (a2)), (3, .int (a3)), (4, .int (a4)), (5, .int (a5))] := hl
  have rg_a1 : (-2147483648) ≤ a1_z ∧ a1_z ≤ 2147483647 := by rw [← hz_a1]; exact ⟨z_lo _, z_hi _⟩
  have rg_a2 : (-2147483648) ≤ a2_z ∧ a2_z ≤ 2147483647 := by rw [← hz_a2]; exact ⟨z_lo _, z_hi _⟩
  have rg_a3 : (-2147483648) ≤ a3_z ∧ a3_z ≤ 2147483647 := by rw [← hz_a3]; exact ⟨z_lo _, z_hi _⟩
  have rg_a4 : (-2147483648) ≤ a4_z ∧ a4_z ≤ 2147483647 := by rw [← hz_a4]; exact ⟨z_lo _, z_hi _⟩
  have rg_a5 : (-2147483648) ≤ a5_z ∧ a5_z ≤ 2147483647 := by rw [← hz_a5]; exact ⟨z_lo _, z_hi _⟩
  have hpc0 : 0 + Phc S ≤ Phc S + 0 := by omega
  have hps0 : 0 + Phs S ≤ Phs S + 0 := by omega
  have hO : Og MLt S S := Og.rf hG
  generalize hQQ : MQ below _ _ _ _ _ _ = QQ
  replace hQQ := hQQ.symm
  obtain ⟨v_1, ev_1⟩ : ∃ v, pI S 1102 x = v := ⟨_, rfl⟩
  have rg_2 := gI_11_1102 hO.1 ha_x; rw [ev_1] at rg_2
  have pz_3 : (pI S 1102 x).toInt = v_1.toInt := by rw [ev_1]
  have pz_4 : (pI S 1102 x).toInt = v_1.toInt := (congrArg Int32.toInt ev_1).trans rfl
  obtain ⟨q_5, h_6, h_7, h_8⟩ := gQ_11_1100 hO.1 ha_x
  obtain ⟨q_9, h_10, h_11, h_12⟩ := gQ_11_1101 hO.1 ha_x
  refine lv_aload_n X.1 X.2.1 dX11_lot_0 rfl (lv_at hl 0 rfl) ?_
  refine r_getI (g := 1102) (x := v_1) X hw ha_x rfl 2 ev_1 (by decide) rfl inn_X11_lot_11 (by decide) (X.2.2.2.1 (.fieldLink RX11 63 "SilkMill" "lots" "I") (by decide +kernel)) rfl (gv_1102 _ _) dX11_lot_1 ?_
  refine lv_bipush (v := 10) X.1 X.2.1 dX11_lot_4 (by decide) ?_
  refine lv_icmp_ge (tgt := 55) X.1 X.2.1 dX11_lot_6 (by decide) (fun c_13 => ?_) (fun c_13 => ?_)
  · have z_b_14 := trivial
    have k_15 : v_1.toInt ≥ 10 := z_le ti_10 rfl c_13
    refine lv_iconst (v := (-1)) X.1 X.2.1 dX11_lot_55 (by decide) ?_
    have pz_16 : (pI S 1102 x).toInt = v_1.toInt := (congrArg Int32.toInt ev_1).trans rfl
    rw [hQQ]
    exact ret_gi X hw hr hlocks (by show 0 ≤ Phc S + 60; omega) (by show 0 ≤ Phs S + 600; omega) (by omega) (by omega) ⟨hO, ⟨z_lo _, z_hi _, Or.inr ⟨by omega, by decide, by omega⟩, fun h => absurd h (by omega), fun _ => rfl⟩⟩ dX11_lot_56
  · have z_b_17 := trivial
    have k_18 : v_1.toInt < 10 := z_nle ti_10 rfl c_13
    refine lv_iload_n X.1 X.2.1 dX11_lot_9 rfl (lv_at hl 1 rfl) ?_
    refine lv_iconst (v := 1) X.1 X.2.1 dX11_lot_10 (by decide) ?_
    refine lv_bipush (v := 60) X.1 X.2.1 dX11_lot_11 (by decide) ?_
    refine k_i (rm := { frames := 1, cells := 0, slots := 0, locals := 48 }) (av := [.int (a1), .int 1, .int 60]) X hw (va_runS (As := [.int (a1), .int 1, .int 60]) (rest := []) (cfix X) (k_X11_isWithin l G cy κ S _ (a1) (a1_z) (1) (1) (60) (60) hO.1 hz_a1 ti_1 ti_60) (cwS 3 X.2.2.2.1 gX11_lot_X11_isWithin rfl rfl rfl (by decide +kernel) ⟨Nat.le_of_ble_eq_true rfl, Nat.le_of_ble_eq_true rfl⟩) (pre_S X hw _) rfl rfl hl.1 rfl (lv_room (Nat.le_of_ble_eq_true rfl)) dX11_lot_13 ⟨(by show 0 + 0 ≤ Phc S + 60; omega), (by show 0 + 0 ≤ Phs S + 600; omega)⟩) 0 0 (by show 0 + 0 ≤ 0; omega) (by show 0 + 0 ≤ 0; omega) (fun rr_19 S_20 H locs hp hw hfr hnw => ?_)
    obtain ⟨e2, hp⟩ := hp
    subst e2
    rcases hp with ⟨f_21, er_22⟩ | ⟨f_21, er_22⟩ <;> subst er_22
    · have z_b_23 := trivial
      refine lv_if_eq (tgt := 55) X.1 X.2.1 dX11_lot_16 (by decide) (fun c_24 => absurd c_24 (by decide)) (fun c_24 => ?_)
      refine lv_iload_n X.1 X.2.1 dX11_lot_19 rfl (lv_at hl 3 rfl) ?_
      refine lv_bipush (v := 20) X.1 X.2.1 dX11_lot_20 (by decide) ?_
      refine lv_bipush (v := 60) X.1 X.2.1 dX11_lot_22 (by decide) ?_
      refine k_i (rm := { frames := 1, cells := 0, slots := 0, locals := 48 }) (av := [.int (a3), .int 20, .int 60]) X hw (va_runS (As := [.int (a3), .int 20, .int 60]) (rest := []) (cfix X) (k_X11_isWithin l G cy κ S _ (a3) (a3_z) (20) (20) (60) (60) hO.1 hz_a3 ti_20 ti_60) (cwS 3 X.2.2.2.1 gX11_lot_X11_isWithin rfl rfl rfl (by decide +kernel) ⟨Nat.le_of_ble_eq_true rfl, Nat.le_of_ble_eq_true rfl⟩) (pre_S X hw _) rfl rfl hl.1 rfl (lv_room (Nat.le_of_ble_eq_true rfl)) dX11_lot_24 ⟨(by show 0 + 0 ≤ Phc S + 60; omega), (by show 0 + 0 ≤ Phs S + 600; omega)⟩) 0 0 (by show 0 + 0 ≤ 0; omega) (by show 0 + 0 ≤ 0; omega) (fun rr_25 S_26 H locs hp hw hfr hnw => ?_)
      obtain ⟨e2, hp⟩ := hp
      subst e2
      rcases hp with ⟨f_27, er_28⟩ | ⟨f_27, er_28⟩ <;> subst er_28
      · have z_b_29 := trivial
        refine lv_if_eq (tgt := 55) X.1 X.2.1 dX11_lot_27 (by decide) (fun c_30 => absurd c_30 (by decide)) (fun c_30 => ?_)
        refine lv_iload X.1 X.2.1 dX11_lot_30 (lv_at hl 4 rfl) ?_
        refine lv_bipush (v := 40) X.1 X.2.1 dX11_lot_32 (by decide) ?_
        refine lv_sipush (v := 200) X.1 X.2.1 dX11_lot_34 (by decide) ?_
        refine k_i (rm := { frames := 1, cells := 0, slots := 0, locals := 48 }) (av := [.int (a4), .int 40, .int 200]) X hw (va_runS (As := [.int (a4), .int 40, .int 200]) (rest := []) (cfix X) (k_X11_isWithin l G cy κ S _ (a4) (a4_z) (40) (40) (200) (200) hO.1 hz_a4 ti_40 ti_200) (cwS 3 X.2.2.2.1 gX11_lot_X11_isWithin rfl rfl rfl (by decide +kernel) ⟨Nat.le_of_ble_eq_true rfl, Nat.le_of_ble_eq_true rfl⟩) (pre_S X hw _) rfl rfl hl.1 rfl (lv_room (Nat.le_of_ble_eq_true rfl)) dX11_lot_37 ⟨(by show 0 + 0 ≤ Phc S + 60; omega), (by show 0 + 0 ≤ Phs S + 600; omega)⟩) 0 0 (by show 0 + 0 ≤ 0; omega) (by show 0 + 0 ≤ 0; omega) (fun rr_31 S_32 H locs hp hw hfr hnw => ?_)
        obtain ⟨e2, hp⟩ := hp
        subst e2
        rcases hp with ⟨f_33, er_34⟩ | ⟨f_33, er_34⟩ <;> subst er_34
        · have z_b_35 := trivial
          refine lv_if_eq (tgt := 55) X.1 X.2.1 dX11_lot_40 (by decide) (fun c_36 => absurd c_36 (by decide)) (fun c_36 => ?_)
          refine lv_iload X.1 X.2.1 dX11_lot_43 (lv_at hl 5 rfl) ?_
          refine lv_iconst (v := 0) X.1 X.2.1 dX11_lot_45 (by decide) ?_
          refine lv_sipush (v := 200) X.1 X.2.1 dX11_lot_46 (by decide) ?_
          refine k_i (rm := { frames := 1, cells := 0, slots := 0, locals := 48 }) (av := [.int (a5), .int 0, .int 200]) X hw (va_runS (As := [.int (a5), .int 0, .int 200]) (rest := []) (cfix X) (k_X11_isWithin l G cy κ S _ (a5) (a5_z) (0) (0) (200) (200) hO.1 hz_a5 ti_0 ti_200) (cwS 3 X.2.2.2.1 gX11_lot_X11_isWithin rfl rfl rfl (by decide +kernel) ⟨Nat.le_of_ble_eq_true rfl, Nat.le_of_ble_eq_true rfl⟩) (pre_S X hw _) rfl rfl hl.1 rfl (lv_room (Nat.le_of_ble_eq_true rfl)) dX11_lot_49 ⟨(by show 0 + 0 ≤ Phc S + 60; omega), (by show 0 + 0 ≤ Phs S + 600; omega)⟩) 0 0 (by show 0 + 0 ≤ 0; omega) (by show 0 + 0 ≤ 0; omega) (fun rr_37 S_38 H locs hp hw hfr hnw => ?_)
          obtain ⟨e2, hp⟩ := hp
          subst e2
          rcases hp with ⟨f_39, er_40⟩ | ⟨f_39, er_40⟩ <;> subst er_40
          · have z_b_41 := trivial
            refine lv_if_ne (tgt := 57) X.1 X.2.1 dX11_lot_52 (by decide) (fun c_42 => ?_) (fun c_42 => absurd c_42 (by decide))
            refine lv_iconst (v := 0) X.1 X.2.1 dX11_lot_57 (by decide) ?_
            refine lv_istore (lv' := [(6, .int 0), (0, .ref x), (1, .int (a1)), (2, .int (a2)), (3, .int (a3)), (4, .int (a4)), (5, .int (a5))]) X.1 X.2.1 dX11_lot_58 hl (by decide) rfl (fun ls hl => ?_)
            have L_43 : ∀ (n : Nat) (T_45 : PS) (H : Heap) (locs : List Loc) (ls : Array Slot) (i6_44 : Int32) (i6_44_z : Int) (cc_57 nn_58 : Nat), ((a1_z - i6_44_z).toNat = n) → (Wd G cy (AS S s.heap.size) s.heap T_45 H locs) → (i6_44.toInt = i6_44_z) → (0 ≤ i6_44_z ∧ i6_44_z ≤ 60) → (At T_45 x 11) → (Og MLt S T_45) → (i6_44_z ≤ a1_z) → (NewC S T_45 q_5 (60 * v_1.toInt) i6_44_z v_1 a2 a3 a4 a5) → (pA T_45 q_9 = pA S q_9) → (pI T_45 1102 x = v_1) → (pR T_45 1100 x = some q_5) → (At T_45 q_5 36) → (pN T_45 q_5 = 600) → (pR T_45 1101 x = some q_9) → (At T_45 q_9 54) → (pN T_45 q_9 = 10) → (cc_57 + Phc T_45 ≤ Phc S + (i6_44_z).toNat) → (nn_58 + Phs T_45 ≤ Phs S + 10 * (i6_44_z).toNat) → (lv_has ls 7 [(6, .int (i6_44)), (0, .ref x), (1, .int (a1)), (2, .int (a2)), (3, .int (a3)), (4, .int (a4)), (5, .int (a5))]) → W p l e ({ frames := 4, cells := Phc S + 60, slots := Phs S + 600, locals := 192 }) s m [.ref x, .int (a1), .int (a2), .int (a3), .int (a4), .int (a5)].toArray below meth c H locs cc_57 nn_58 QQ (F0 m 60 ls []) := by
              intro n
              induction n using Nat.strongRecOn with
              | ind n ih =>
              intro T_45 H locs ls i6_44 i6_44_z cc_57 nn_58 hn hw hz_i6_44 hr_i6_44 ha_x_L_46 hO_T_45 iv_47 iv_48 iv_49 ik_50 ik_51 ik_52 ik_53 ik_54 ik_55 ik_56 hcc_59 hnn_60 hl
              have rg_61 : (-2147483648) ≤ i6_44_z ∧ i6_44_z ≤ 2147483647 := by rw [← hz_i6_44]; exact ⟨z_lo _, z_hi _⟩
              refine lv_iload X.1 X.2.1 dX11_lot_60 (lv_at hl 0 rfl) ?_
              refine lv_iload_n X.1 X.2.1 dX11_lot_62 rfl (lv_at hl 2 rfl) ?_
              refine lv_icmp_ge (tgt := 106) X.1 X.2.1 dX11_lot_63 (by decide) (fun c_62 => ?_) (fun c_62 => ?_)
              · have z_b_63 := trivial
                have k_64 : i6_44_z ≥ a1_z := z_le hz_a1 hz_i6_44 c_62
                refine lv_aload_n X.1 X.2.1 dX11_lot_106 rfl (lv_at hl 1 rfl) ?_
                refine r_getR (g := 1101) X hw ha_x_L_46 rfl 1 ik_54 (by decide) rfl inn_X11_lot_11 (by decide) (X.2.2.2.1 (.fieldLink RX11 15 "SilkMill" "lotSizes" "[I") (by decide +kernel)) rfl (gv_1101 _ _) dX11_lot_107 ?_
                refine lv_aload_n X.1 X.2.1 dX11_lot_110 rfl (lv_at hl 1 rfl) ?_
                refine r_getI (g := 1102) (x := v_1) X hw ha_x_L_46 rfl 2 ik_50 (by decide) rfl inn_X11_lot_11 (by decide) (X.2.2.2.1 (.fieldLink RX11 63 "SilkMill" "lots" "I") (by decide +kernel)) rfl (gv_1102 _ _) dX11_lot_111 ?_
                refine lv_iload_n X.1 X.2.1 dX11_lot_114 rfl (lv_at hl 2 rfl) ?_
                refine r_iast X hw ik_55 rfl (by rw [ik_56]; exact z_ix rfl (by omega) (by omega)) dX11_lot_115 (fun H locs hw => ?_)
                obtain ⟨S_65, eS_65⟩ : ∃ T, T = sA T_45 q_9 (upd (pA T_45 q_9) (Int32.toNatClampNeg (v_1)) (a1)) := ⟨_, rfl⟩
                rw [← eS_65] at hw
                have ph_66 : cc_57 + Phc S_65 ≤ Phc S + (i6_44_z).toNat := by rw [show Phc S_65 = Phc T_45 from Ph_sA eS_65]; exact hcc_59
                have ph_67 : nn_58 + Phs S_65 ≤ Phs S + 10 * (i6_44_z).toNat := by rw [show Phs S_65 = Phs T_45 from Ph_sA eS_65]; exact hnn_60
                clear hcc_59
                clear hnn_60
                have hO_68 : Og MLt S S_65 := hO_T_45.sA eS_65 ik_55 (by decide +kernel) (uA_54 hO_T_45.1 ik_55 (by omega) (by omega))
                have h_69 : pA S_65 q_9 (Int32.toNatClampNeg (v_1)) = a1 := tA_sAs eS_65
                have nc_70 : NewC S S_65 q_5 (60 * v_1.toInt) a1_z v_1 a2 a3 a4 a5 := NewC_sA (by rw [show a1_z = i6_44_z by omega]; exact iv_48) eS_65
                have pa_71 : pA S_65 q_9 = upd (pA S q_9) (Int32.toNatClampNeg (v_1)) (a1) := by rw [eS_65]; exact (if_pos rfl : pA (sA T_45 q_9 _) q_9 = _).trans (by rw [iv_49])
                refine lv_aload_n X.1 X.2.1 dX11_lot_116 rfl (lv_at hl 1 rfl) ?_
                refine lv_dup X.1 X.2.1 dX11_lot_117 rfl ?_
                have t_72 : At S_65 x 11 := tAt_sA eS_65 ha_x_L_46
                have t_73 : pI S_65 1102 x = v_1 := tI_sA eS_65 ik_50
                refine r_getI (g := 1102) (x := v_1) X hw t_72 rfl 2 t_73 (by decide) rfl inn_X11_lot_11 (by decide) (X.2.2.2.1 (.fieldLink RX11 63 "SilkMill" "lots" "I") (by decide +kernel)) rfl (gv_1102 _ _) dX11_lot_118 ?_
                refine lv_iconst (v := 1) X.1 X.2.1 dX11_lot_121 (by decide) ?_
                refine lv_iadd X.1 X.2.1 dX11_lot_122 ?_
                refine lv_topi (fun v_74 ev_74 => ?_)
                have z_75 : v_74.toInt = v_1.toInt + 1 := z_add ev_74 rfl ti_1 (by omega) (by omega)
                refine r_putI (v := v_74) X hw t_72 rfl 2 1102 tyX11 (by decide) rfl inn_X11_lot_11 tyX11_ok nmX11 (by decide) (X.2.2.2.1 (.fieldLink RX11 63 "SilkMill" "lots" "I") (by decide +kernel)) rfl (Or.inl rfl) rfl rfl (Nat.le_of_ble_eq_true rfl) (st_1102 _ _) dX11_lot_123 (fun H locs hw => ?_)
                obtain ⟨S_76, eS_76⟩ : ∃ T, T = sI S_65 1102 x (v_74) := ⟨_, rfl⟩
                rw [← eS_76] at hw
                have ph_77 : cc_57 + Phc S_76 ≤ Phc S + (i6_44_z).toNat := by rw [show Phc S_76 = Phc S_65 from Ph_sI eS_76 rfl rfl]; exact ph_66
                have ph_78 : nn_58 + Phs S_76 ≤ Phs S + 10 * (i6_44_z).toNat := by rw [show Phs S_76 = Phs S_65 from Ph_sI eS_76 rfl rfl]; exact ph_67
                clear ph_66
                clear ph_67
                have hO_79 : Og MLt S S_76 := hO_68.sI eS_76 (by decide +kernel) (uI_11_1102 hO_68.1 t_72 (by omega) (by omega))
                have h_80 : pI S_76 1102 x = v_74 := tI_sIs eS_76
                refine lv_aload_n X.1 X.2.1 dX11_lot_126 rfl (lv_at hl 1 rfl) ?_
                have t_81 : At S_76 x 11 := tAt_sI eS_76 t_72
                refine r_getI (g := 1102) (x := v_74) X hw t_81 rfl 2 h_80 (by decide) rfl inn_X11_lot_11 (by decide) (X.2.2.2.1 (.fieldLink RX11 63 "SilkMill" "lots" "I") (by decide +kernel)) rfl (gv_1102 _ _) dX11_lot_127 ?_
                refine lv_iconst (v := 1) X.1 X.2.1 dX11_lot_130 (by decide) ?_
                refine lv_isub X.1 X.2.1 dX11_lot_131 ?_
                refine lv_topi (fun v_82 ev_82 => ?_)
                have z_83 : v_82.toInt = v_74.toInt - 1 := z_sub ev_82 rfl ti_1 (by omega) (by omega)
                have pz_84 : (pI S_76 1102 x).toInt = v_74.toInt := (congrArg Int32.toInt h_80).trans rfl
                have nc_85 := NewC_sI nc_70 eS_76 (by decide)
                have pa_86 := (show pA S_76 q_9 = pA S_65 q_9 by rw [eS_76]; rfl).trans pa_71
                rw [hQQ]
                exact ret_gi X hw hr hlocks (by show cc_57 ≤ Phc S + 60; omega) (by show nn_58 ≤ Phs S + 600; omega) (by omega) (by omega) ⟨hO_79, ⟨z_lo _, z_hi _, Or.inl ⟨by omega, by omega, by omega⟩, fun _ ca lz h1 h2 => (by rw [h_6] at h1; cases h1; rw [h_10] at h2; cases h2; rw [ev_1]; exact ⟨nc_85, pa_86⟩), fun h => absurd (by omega) h⟩⟩ dX11_lot_132
              · have z_b_87 := trivial
                have k_88 : i6_44_z < a1_z := z_nle hz_a1 hz_i6_44 c_62
                refine lv_aload_n X.1 X.2.1 dX11_lot_66 rfl (lv_at hl 1 rfl) ?_
                refine r_getR (g := 1100) X hw ha_x_L_46 rfl 0 ik_51 (by decide) rfl inn_X11_lot_11 (by decide) (X.2.2.2.1 (.fieldLink RX11 11 "SilkMill" "cocoons" "[LSilkMill$Cocoon;") (by decide +kernel)) rfl (gv_1100 _ _) dX11_lot_67 ?_
                refine lv_aload_n X.1 X.2.1 dX11_lot_70 rfl (lv_at hl 1 rfl) ?_
                refine r_getI (g := 1102) (x := v_1) X hw ha_x_L_46 rfl 2 ik_50 (by decide) rfl inn_X11_lot_11 (by decide) (X.2.2.2.1 (.fieldLink RX11 63 "SilkMill" "lots" "I") (by decide +kernel)) rfl (gv_1102 _ _) dX11_lot_71 ?_
                refine lv_bipush (v := 60) X.1 X.2.1 dX11_lot_74 (by decide) ?_
                refine lv_imul X.1 X.2.1 dX11_lot_76 ?_
                refine lv_topi (fun v_89 ev_89 => ?_)
                have z_90 : v_89.toInt = v_1.toInt * 60 := z_mul ev_89 rfl ti_60 (by omega) (by omega)
                refine lv_iload X.1 X.2.1 dX11_lot_77 (lv_at hl 0 rfl) ?_
                refine lv_iadd X.1 X.2.1 dX11_lot_79 ?_
                refine lv_topi (fun v_91 ev_91 => ?_)
                have z_92 : v_91.toInt = v_89.toInt + i6_44_z := z_add ev_91 rfl hz_i6_44 (by omega) (by omega)
                have ph_94 : (cc_57 + 1) + Phc T_45 ≤ Phc S + ((i6_44_z).toNat + 1) := by omega
                have ph_95 : (nn_58 + 10) + Phs T_45 ≤ Phs S + (10 * (i6_44_z).toNat + 10) := by omega
                clear hcc_59
                clear hnn_60
                refine r_new X hw 180 0 (nn_58 + 10) (cc_57 + 1) rfl tyX0 (by decide) rfl inn_X11_lot_0 tyX0_ok (X.2.2.2.1 (.classLink RX11 9 RX0) (by decide +kernel)) (X.2.2.2.1 (.instantiable RX0 10) (by decide +kernel)) (X.2.2.2.1 (.initialized RX0) (by decide +kernel)) (zo_0 _) zd_0 (by show cc_57 + 1 ≤ (cc_57 + 1); omega) (by show nn_58 + 10 ≤ (nn_58 + 10); omega) (by show (cc_57 + 1) ≤ Phc S + 60; omega) (by show (nn_58 + 10) ≤ Phs S + 600; omega) dX11_lot_80 (fun q_93 H hq_93 hw => ?_)
                obtain ⟨S_96, eS_96⟩ : ∃ T, T = sO T_45 q_93 180 := ⟨_, rfl⟩
                rw [← eS_96] at hw
                have ph_97 : (cc_57 + 1) + Phc S_96 ≤ Phc S + ((i6_44_z).toNat + 1) := by rw [show Phc S_96 = Phc T_45 from Ph_sO hO_T_45.1 hq_93 eS_96 (by decide)]; exact ph_94
                have ph_98 : (nn_58 + 10) + Phs S_96 ≤ Phs S + (10 * (i6_44_z).toNat + 10) := by rw [show Phs S_96 = Phs T_45 from Ph_sO hO_T_45.1 hq_93 eS_96 (by decide)]; exact ph_95
                clear ph_94
                clear ph_95
                have hO_99 : Og MLt S S_96 := hO_T_45.sO hq_93 eS_96 (by decide +kernel)
                have hn0_q_93 : q_93 ∉ pL S := fun z => hq_93 (hO_T_45.fr.1 q_93 z).1
                have ha_100 : At S_96 q_93 180 := by rw [eS_96]; exact At_nO _ _ _
                have hzI_q_93 : ∀ g, pI S_96 g q_93 = 0 := fun g => by rw [eS_96]; exact pI_sO_new
                have hzR_q_93 : ∀ g, pR S_96 g q_93 = none := fun g => by rw [eS_96]; exact if_pos rfl
                refine lv_dup X.1 X.2.1 dX11_lot_83 rfl ?_
                refine lv_aload_n X.1 X.2.1 dX11_lot_84 rfl (lv_at hl 1 rfl) ?_
                have t_101 : At S_96 x 11 := by rw [eS_96]; exact At_sO ha_x_L_46 hq_93
                have t_102 : pI S_96 1102 x = v_1 := by rw [eS_96]; exact (pI_sO_ne (ne_of_new hq_93 ha_x_L_46.1)).trans ik_50
                refine r_getI (g := 1102) (x := v_1) X hw t_101 rfl 2 t_102 (by decide) rfl inn_X11_lot_11 (by decide) (X.2.2.2.1 (.fieldLink RX11 63 "SilkMill" "lots" "I") (by decide +kernel)) rfl (gv_1102 _ _) dX11_lot_85 ?_
                refine lv_iload X.1 X.2.1 dX11_lot_88 (lv_at hl 0 rfl) ?_
                refine lv_iload_n X.1 X.2.1 dX11_lot_90 rfl (lv_at hl 3 rfl) ?_
                refine lv_iload_n X.1 X.2.1 dX11_lot_91 rfl (lv_at hl 4 rfl) ?_
                refine lv_iload X.1 X.2.1 dX11_lot_92 (lv_at hl 5 rfl) ?_
                refine lv_iload X.1 X.2.1 dX11_lot_94 (lv_at hl 6 rfl) ?_
                refine k_v (rm := { frames := 3, cells := 0, slots := 0, locals := 144 }) (av := [.ref q_93, .int (v_1), .int (i6_44), .int (a2), .int (a3), .int (a4), .int (a5)]) X hw (va_runI (As := [.int (v_1), .int (i6_44), .int (a2), .int (a3), .int (a4), .int (a5)]) (rest := [.ref q_93, .int (v_91), .ref q_5]) (cfix X) (k_X0_init2 l G cy κ S_96 _ q_93 (v_1) (v_1.toInt) (i6_44) (i6_44_z) (a2) (a2_z) (a3) (a3_z) (a4) (a4_z) (a5) (a5_z) hO_99.1 ha_100 rfl hz_i6_44 hz_a2 hz_a3 hz_a4 hz_a5 hzI_q_93 hzR_q_93 (by omega) (by omega)) (cwI 6 X.2.2.2.1 gX11_lot_X0_init rfl rfl rfl (X.2.2.2.1 (.initialized RX0) (by decide +kernel)) (X.2.2.2.1 (.methodLink RX11 71 yX0_init) (by decide +kernel)) (X.2.2.2.1 (.instanceMethod yX0_init) (by decide +kernel)) rfl (by decide +kernel) ⟨Nat.le_of_ble_eq_true rfl, Nat.le_of_ble_eq_true rfl⟩) (pre_S X hw _) rfl rfl hl.1 rfl (lv_room (Nat.le_of_ble_eq_true rfl)) dX11_lot_96 ⟨(by show (cc_57 + 1) + 0 ≤ Phc S + 60; omega), (by show (nn_58 + 10) + 0 ≤ Phs S + 600; omega)⟩) (cc_57 + 1) (nn_58 + 10) (by show (cc_57 + 1) + 0 ≤ (cc_57 + 1); omega) (by show (nn_58 + 10) + 0 ≤ (nn_58 + 10); omega) (fun S_104 H locs hp hw hfr hnw => ?_)
                obtain ⟨hK_105, hg_106, ha_107, ph_108, ph_109, kx_110, kx_111⟩ := hp
                have ph_112 : (cc_57 + 1) + Phc S_104 ≤ Phc S + ((i6_44_z).toNat + 1) := by omega
                have ph_113 : (nn_58 + 10) + Phs S_104 ≤ Phs S + (10 * (i6_44_z).toNat + 10) := by omega
                clear ph_97
                clear ph_98
                clear ph_108
                clear ph_109
                have hO_114 : Og MLt S S_104 := Og_ctor2 hO_99 hn0_q_93 hK_105 hg_106
                have t_115 : At S_96 q_5 36 := by rw [eS_96]; exact At_sO ik_52 hq_93
                have t_116 : At S_104 q_5 36 := hK_105.at ha_100 t_115 (by decide)
                have t_117 : pN S_96 q_5 = 600 := by rw [eS_96, pN_sO]; exact ik_53
                have t_119 : At S_96 q_5 36 := by rw [eS_96]; exact At_sO ik_52 hq_93
                have t_118 : pN S_104 q_5 = 600 := ((hK_105 q_5 t_119.1).2 (At_ne t_119 ha_100 (by decide))).2.2.2.1.trans t_117
                clear t_117
                refine r_aast X hw t_116 rfl ha_107 rfl (by decide) (by decide) rfl rfl (by rw [t_118]; exact z_ix rfl (by omega) (by omega)) dX11_lot_99 (fun H locs hw => ?_)
                obtain ⟨S_120, eS_120⟩ : ∃ T, T = sB S_104 q_5 (va_up (pB S_104 q_5) (Int32.toNatClampNeg (v_91)) (some q_93)) := ⟨_, rfl⟩
                rw [← eS_120] at hw
                have ph_121 : (cc_57 + 1) + Phc S_120 ≤ Phc S + ((i6_44_z).toNat + 1) := by rw [show Phc S_120 = Phc S_104 from Ph_sB eS_120]; exact ph_112
                have ph_122 : (nn_58 + 10) + Phs S_120 ≤ Phs S + (10 * (i6_44_z).toNat + 10) := by rw [show Phs S_120 = Phs S_104 from Ph_sB eS_120]; exact ph_113
                clear ph_112
                clear ph_113
                have hO_123 : Og MLt S S_120 := hO_114.sB eS_120 t_116 (by decide +kernel) (uB_36 hO_114.1 t_116 (fun q hq => by cases hq; exact ha_107))
                have zn_125 := z_nat (x := v_91) rfl (by omega)
                have nc_124 : NewC S S_120 q_5 (60 * v_1.toInt) (i6_44_z + 1) v_1 a2 a3 a4 a5 := NewC_step iv_48 hq_93 eS_96 hK_105 eS_120 ik_52.1 (fun a h => (hO_T_45.fr.1 a h).1) (by omega) (by omega) (by omega) ha_107 hz_i6_44 kx_110 kx_111
                obtain ⟨x_126, ex_126⟩ : ∃ y : Int32, y = i6_44 + 1 := ⟨_, rfl⟩
                have z_127 : x_126.toInt = i6_44_z + 1 := z_add ex_126 hz_i6_44 ti_1 (by omega) (by omega)
                refine lv_iinc (v := x_126) (lv' := [(6, .int (x_126)), (0, .ref x), (1, .int (a1)), (2, .int (a2)), (3, .int (a3)), (4, .int (a4)), (5, .int (a5))]) X.1 X.2.1 dX11_lot_100 hl (k := 0) rfl (by rw [ex_126]; rfl) (by decide) rfl (fun ls hl => ?_)
                refine lv_goto (tgt := 60) X.1 X.2.1 dX11_lot_103 (by decide) ?_
                have t_128 : At S_104 x 11 := hK_105.at ha_100 t_101 (by decide)
                have t_129 : At S_120 x 11 := tAt_sB eS_120 t_128
                have bb_130 : pA S_96 q_9 = pA T_45 q_9 := by rw [eS_96]; rfl
                have t_132 : At S_96 q_9 54 := by rw [eS_96]; exact At_sO ik_55 hq_93
                have bb_131 : pA S_104 q_9 = pA T_45 q_9 := (show pA S_104 q_9 = pA S_96 q_9 from ((hK_105 q_9 t_132.1).2 (At_ne t_132 ha_100 (by decide))).2.2.2.2.1).trans bb_130
                have bb_133 : pA S_120 q_9 = pA T_45 q_9 := (show pA S_120 q_9 = pA S_104 q_9 from by rw [eS_120]; rfl).trans bb_131
                have t_134 : pI S_104 1102 x = v_1 := (((hK_105 x t_101.1).2 (At_ne t_101 ha_100 (by decide))).2.1 1102).trans t_102
                have t_135 : pI S_120 1102 x = v_1 := tI_sB eS_120 t_134
                have t_136 : pR S_96 1100 x = some q_5 := by rw [eS_96]; exact (pR_sO_ne (ne_of_new hq_93 ha_x_L_46.1)).trans ik_51
                have t_137 : pR S_104 1100 x = some q_5 := (((hK_105 x t_101.1).2 (At_ne t_101 ha_100 (by decide))).2.2.1 1100).trans t_136
                have t_138 : pR S_120 1100 x = some q_5 := tR_sB eS_120 t_137
                have t_139 : At S_120 q_5 36 := tAt_sB eS_120 t_116
                have t_140 : pN S_120 q_5 = 600 := tN_sB eS_120 t_118
                clear t_118
                have t_141 : pR S_96 1101 x = some q_9 := by rw [eS_96]; exact (pR_sO_ne (ne_of_new hq_93 ha_x_L_46.1)).trans ik_54
                have t_142 : pR S_104 1101 x = some q_9 := (((hK_105 x t_101.1).2 (At_ne t_101 ha_100 (by decide))).2.2.1 1101).trans t_141
                have t_143 : pR S_120 1101 x = some q_9 := tR_sB eS_120 t_142
                have t_144 : At S_104 q_9 54 := hK_105.at ha_100 t_132 (by decide)
                have t_145 : At S_120 q_9 54 := tAt_sB eS_120 t_144
                have t_146 : pN S_96 q_9 = 10 := by rw [eS_96, pN_sO]; exact ik_56
                have t_147 : pN S_104 q_9 = 10 := ((hK_105 q_9 t_132.1).2 (At_ne t_132 ha_100 (by decide))).2.2.2.1.trans t_146
                clear t_146
                have t_148 : pN S_120 q_9 = 10 := tN_sB eS_120 t_147
                clear t_147
                exact ih _ (by omega) _ _ _ _ (x_126) (x_126.toInt) ((cc_57 + 1)) ((nn_58 + 10)) rfl hw rfl (by omega) t_129 hO_123 (by omega) (by rw [show x_126.toInt = i6_44_z + 1 by omega]; exact nc_124) (bb_133.trans iv_49) t_135 t_138 t_139 t_140 t_143 t_145 t_148 (by omega) (by omega) (lv_sub hl [0, 1, 2, 3, 4, 5, 6] rfl)
            exact L_43 _ _ _ _ _ (0) (0) (0) (0) rfl hw ti_0 (by omega) ha_x hO (by omega) NewC_0 rfl ev_1 h_6 h_7 h_8 h_10 h_11 h_12 (by omega) (by omega) (lv_sub hl [0, 1, 2, 3, 4, 5, 6] rfl)
          · have z_b_149 := trivial
            refine lv_if_ne (tgt := 57) X.1 X.2.1 dX11_lot_52 (by decide) (fun c_150 => absurd c_150 (by decide)) (fun c_150 => ?_)
            refine lv_iconst (v := (-1)) X.1 X.2.1 dX11_lot_55 (by decide) ?_
            have pz_151 : (pI S 1102 x).toInt = v_1.toInt := (congrArg Int32.toInt ev_1).trans rfl
            rw [hQQ]
            exact ret_gi X hw hr hlocks (by show 0 ≤ Phc S + 60; omega) (by show 0 ≤ Phs S + 600; omega) (by omega) (by omega) ⟨hO, ⟨z_lo _, z_hi _, Or.inr ⟨by omega, by decide, by omega⟩, fun h => absurd h (by omega), fun _ => rfl⟩⟩ dX11_lot_56
        · have z_b_152 := trivial
          refine lv_if_eq (tgt := 55) X.1 X.2.1 dX11_lot_40 (by decide) (fun c_153 => ?_) (fun c_153 => absurd c_153 (by decide))
          refine lv_iconst (v := (-1)) X.1 X.2.1 dX11_lot_55 (by decide) ?_
          have pz_154 : (pI S 1102 x).toInt = v_1.toInt := (congrArg Int32.toInt ev_1).trans rfl
          rw [hQQ]
          exact ret_gi X hw hr hlocks (by show 0 ≤ Phc S + 60; omega) (by show 0 ≤ Phs S + 600; omega) (by omega) (by omega) ⟨hO, ⟨z_lo _, z_hi _, Or.inr ⟨by omega, by decide, by omega⟩, fun h => absurd h (by omega), fun _ => rfl⟩⟩ dX11_lot_56
      · have z_b_155 := trivial
        refine lv_if_eq (tgt := 55) X.1 X.2.1 dX11_lot_27 (by decide) (fun c_156 => ?_) (fun c_156 => absurd c_156 (by decide))
        refine lv_iconst (v := (-1)) X.1 X.2.1 dX11_lot_55 (by decide) ?_
        have pz_157 : (pI S 1102 x).toInt = v_1.toInt := (congrArg Int32.toInt ev_1).trans rfl
        rw [hQQ]
        exact ret_gi X hw hr hlocks (by show 0 ≤ Phc S + 60; omega) (by show 0 ≤ Phs S + 600; omega) (by omega) (by omega) ⟨hO, ⟨z_lo _, z_hi _, Or.inr ⟨by omega, by decide, by omega⟩, fun h => absurd h (by omega), fun _ => rfl⟩⟩ dX11_lot_56
    · have z_b_158 := trivial
      refine lv_if_eq (tgt := 55) X.1 X.2.1 dX11_lot_16 (by decide) (fun c_159 => ?_) (fun c_159 => absurd c_159 (by decide))
      refine lv_iconst (v := (-1)) X.1 X.2.1 dX11_lot_55 (by decide) ?_
      have pz_160 : (pI S 1102 x).toInt = v_1.toInt := (congrArg Int32.toInt ev_1).trans rfl
      rw [hQQ]
      exact ret_gi X hw hr hlocks (by show 0 ≤ Phc S + 60; omega) (by show 0 ≤ Phs S + 600; omega) (by omega) (by omega) ⟨hO, ⟨z_lo _, z_hi _, Or.inr ⟨by omega, by decide, by omega⟩, fun h => absurd h (by omega), fun _ => rfl⟩⟩ dX11_lot_56
set_option maxHeartbeats 4000000 in
set_option maxRecDepth 100000 in
theorem k_X12_lot2 (l : Launch) (G : va_G) (cy : Nat → ClassId) (κ : Nat → Nat) (S : PS) (sz : Nat) (x : Nat) (a1 : Int32) (a1_z : Int) (a2 : Int32) (a2_z : Int) (a3 : Int32) (a3_z : Int) (a4 : Int32) (a4_z : Int) (a5 : Int32) (a5_z : Int) (hG : GX S) (ha_x : At S x 12) (hz_a1 : a1.toInt = a1_z) (hz_a2 : a2.toInt = a2_z) (hz_a3 : a3.toInt = a3_z) (hz_a4 : a4.toInt = a4_z) (hz_a5 : a5.toInt = a5_z) (hp_0 : MI S x) : Ci l yX12_lot wsX12_lot ({ frames := 2, cells := 0, slots := 0, locals := 96 }) G cy κ S sz [.ref x, .int (a1), .int (a2), .int (a3), .int (a4), .int (a5)] (fun (r : Int32) (S9 : PS) => Ok M12t S S9 ∧ (MI S9 x ∧ ((((pI S 1201 x).toInt < 10 ∧ 1 ≤ a1_z ∧ a1_z ≤ 60 ∧ 20 ≤ a3_z ∧ a3_z ≤ 60 ∧ 40 ≤ a4_z ∧ a4_z ≤ 200 ∧ 0 ≤ a5_z ∧ a5_z ≤ 200) ∧ r.toInt = (pI S 1201 x).toInt ∧ (pI S9 1201 x).toInt = (pI S 1201 x).toInt + 1) ∨ (¬ (((pI S 1201 x).toInt < 10 ∧ 1 ≤ a1_z ∧ a1_z ≤ 60 ∧ 20 ≤ a3_z ∧ a3_z ≤ 60 ∧ 40 ≤ a4_z ∧ a4_z ≤ 200 ∧ 0 ≤ a5_z ∧ a5_z ≤ 200)) ∧ r.toInt = -1 ∧ (pI S9 1201 x).toInt = (pI S 1201 x).toInt)) ∧ (((pI S 1201 x).toInt < 10 ∧ 1 ≤ a1_z ∧ a1_z ≤ 60 ∧ 20 ≤ a3_z ∧ a3_z ≤ 60 ∧ 40 ≤ a4_z ∧ a4_z ≤ 200 ∧ 0 ≤ a5_z ∧ a5_z ≤ 200) → L12 S S9 x a1 a2 a3 a4 a5) ∧ (¬ ((pI S 1201 x).toInt < 10 ∧ 1 ≤ a1_z ∧ a1_z ≤ 60 ∧ 20 ≤ a3_z ∧ a3_z ≤ 60 ∧ 40 ≤ a4_z ∧ a4_z ≤ 200 ∧ 0 ≤ a5_z ∧ a5_z ≤ 200) → S12 S S9 x))) := by
  refine ent_m (cc := cX12_lot) (maxL := 6) (ret := (some .int)) (by decide) rfl (Nat.le_of_ble_eq_true rfl) ?_
  intro p e s m below meth c ls X hr hlocks hin hw hl hsz
  subst hsz
  have X : Cx p c cX12_lot 6 s [.ref x, .int (a1), .int (a2), .int (a3), .int (a4), .int (a5)].toArray wsX12_lot RX12 m G cy κ (AS S s.heap.size) := X
  have hl : lv_has ls 6 [(0, .ref x), (1, .int (a1)), (2, .int (a2)), (3, .int (a3)), (4, .int (a4)), (5, .int (a5))] := hl
  have rg_a1 : (-2147483648) ≤ a1_z ∧ a1_z ≤ 2147483647 := by rw [← hz_a1]; exact ⟨z_lo _, z_hi _⟩
  have rg_a2 : (-2147483648) ≤ a2_z ∧ a2_z ≤ 2147483647 := by rw [← hz_a2]; exact ⟨z_lo _, z_hi _⟩
  have rg_a3 : (-2147483648) ≤ a3_z ∧ a3_z ≤ 2147483647 := by rw [← hz_a3]; exact ⟨z_lo _, z_hi _⟩
  have rg_a4 : (-2147483648) ≤ a4_z ∧ a4_z ≤ 2147483647 := by rw [← hz_a4]; exact ⟨z_lo _, z_hi _⟩
  have rg_a5 : (-2147483648) ≤ a5_z ∧ a5_z ≤ 2147483647 := by rw [← hz_a5]; exact ⟨z_lo _, z_hi _⟩
  have hO : Ok M12t S S := Ok.rf hG
  obtain ⟨v_1, ev_1⟩ : ∃ v, pI S 1201 x = v := ⟨_, rfl⟩
  have rg_2 := gI_12_1201 hO.1 ha_x; rw [ev_1] at rg_2
  have pz_3 : (pI S 1201 x).toInt = v_1.toInt := by rw [ev_1]
  have pz_4 : (pI S 1201 x).toInt = v_1.toInt := (congrArg Int32.toInt ev_1).trans rfl
  refine lv_aload_n X.1 X.2.1 dX12_lot_0 rfl (lv_at hl 0 rfl) ?_
  refine lv_iconst (v := 0) X.1 X.2.1 dX12_lot_1 (by decide) ?_
  refine r_putI (v := 0) X hw ha_x rfl 0 1200 tyX12 (by decide) rfl inn_X12_lot_12 tyX12_ok nmX12 (by decide) (X.2.2.2.1 (.fieldLink RX12 161 "SilkMillModel" "thrown" "I") (by decide +kernel)) rfl (Or.inl rfl) rfl rfl (Nat.le_of_ble_eq_true rfl) (st_1200 _ _) dX12_lot_2 (fun H locs hw => ?_)
  obtain ⟨S_5, eS_5⟩ : ∃ T, T = sI S 1200 x (0) := ⟨_, rfl⟩
  rw [← eS_5] at hw
  have hO_6 : Ok M12t S S_5 := hO.sI eS_5 (by decide +kernel) (uI_12_1200 hO.1 ha_x)
  have h_7 : pI S_5 1200 x = 0 := tI_sIs eS_5
  refine lv_aload_n X.1 X.2.1 dX12_lot_5 rfl (lv_at hl 0 rfl) ?_
  have t_8 : At S_5 x 12 := tAt_sI eS_5 ha_x
  have t_9 : pI S_5 1201 x = v_1 := tI_sI eS_5 rfl ev_1
  refine r_getI (g := 1201) (x := v_1) X hw t_8 rfl 1 t_9 (by decide) rfl inn_X12_lot_12 (by decide) (X.2.2.2.1 (.fieldLink RX12 165 "SilkMillModel" "lots" "I") (by decide +kernel)) rfl (gv_1201 _ _) dX12_lot_6 ?_
  refine lv_bipush (v := 10) X.1 X.2.1 dX12_lot_9 (by decide) ?_
  refine lv_icmp_eq (tgt := 60) X.1 X.2.1 dX12_lot_11 (by decide) (fun c_10 => ?_) (fun c_10 => ?_)
  · have z_b_11 := trivial
    have k_12 : v_1.toInt = 10 := z_eq rfl ti_10 c_10
    refine lv_iconst (v := (-1)) X.1 X.2.1 dX12_lot_60 (by decide) ?_
    have mi_13 : MIe S_5 x (-1) := MIe_sI hp_0 hO.1 ha_x eS_5 (by decide +kernel)
    have pz_14 : (pI S_5 1201 x).toInt = v_1.toInt := (congrArg Int32.toInt t_9).trans rfl
    have zc_15 : mA S_5 x 1202 = mA S x 1202 := mA_sI eS_5
    have zc_16 : mA S_5 x 1203 = mA S x 1203 := mA_sI eS_5
    have zc_17 : mA S_5 x 1204 = mA S x 1204 := mA_sI eS_5
    have zc_18 : mA S_5 x 1205 = mA S x 1205 := mA_sI eS_5
    have zc_19 : mA S_5 x 1206 = mA S x 1206 := mA_sI eS_5
    exact ret_i X hw hr hlocks (Nat.le_of_ble_eq_true rfl) (Nat.le_of_ble_eq_true rfl) ⟨hO_6, ⟨mi_13, Or.inr ⟨by omega, by decide, by omega⟩, fun h => absurd h (by omega), fun _ => ⟨zc_15, zc_16, zc_17, zc_18, zc_19⟩⟩⟩ dX12_lot_61
  · have z_b_20 := trivial
    have k_21 : v_1.toInt ≠ 10 := z_ne rfl ti_10 c_10
    refine lv_iload_n X.1 X.2.1 dX12_lot_14 rfl (lv_at hl 1 rfl) ?_
    refine lv_iconst (v := 1) X.1 X.2.1 dX12_lot_15 (by decide) ?_
    refine lv_bipush (v := 60) X.1 X.2.1 dX12_lot_16 (by decide) ?_
    refine k_i (rm := { frames := 1, cells := 0, slots := 0, locals := 48 }) (av := [.int (a1), .int 1, .int 60]) X hw (va_runS (As := [.int (a1), .int 1, .int 60]) (rest := []) (cfix X) (k_X12_within l G cy κ S_5 _ (a1) (a1_z) (1) (1) (60) (60) hO_6.1 hz_a1 ti_1 ti_60) (cwS 3 X.2.2.2.1 gX12_lot_X12_within rfl rfl rfl (by decide +kernel) ⟨Nat.le_of_ble_eq_true rfl, Nat.le_of_ble_eq_true rfl⟩) (pre_S X hw _) rfl rfl hl.1 rfl (lv_room (Nat.le_of_ble_eq_true rfl)) dX12_lot_18 ⟨Nat.le_of_ble_eq_true rfl, Nat.le_of_ble_eq_true rfl⟩) 0 0 (Nat.le_of_ble_eq_true rfl) (Nat.le_of_ble_eq_true rfl) (fun rr_22 S_23 H locs hp hw hfr hnw => ?_)
    obtain ⟨e2, hp⟩ := hp
    subst e2
    rcases hp with ⟨f_24, er_25⟩ | ⟨f_24, er_25⟩ <;> subst er_25
    · have z_b_26 := trivial
      refine lv_if_eq (tgt := 60) X.1 X.2.1 dX12_lot_21 (by decide) (fun c_27 => absurd c_27 (by decide)) (fun c_27 => ?_)
      refine lv_iload_n X.1 X.2.1 dX12_lot_24 rfl (lv_at hl 3 rfl) ?_
      refine lv_bipush (v := 20) X.1 X.2.1 dX12_lot_25 (by decide) ?_
      refine lv_bipush (v := 60) X.1 X.2.1 dX12_lot_27 (by decide) ?_
      refine k_i (rm := { frames := 1, cells := 0, slots := 0, locals := 48 }) (av := [.int (a3), .int 20, .int 60]) X hw (va_runS (As := [.int (a3), .int 20, .int 60]) (rest := []) (cfix X) (k_X12_within l G cy κ S_5 _ (a3) (a3_z) (20) (20) (60) (60) hO_6.1 hz_a3 ti_20 ti_60) (cwS 3 X.2.2.2.1 gX12_lot_X12_within rfl rfl rfl (by decide +kernel) ⟨Nat.le_of_ble_eq_true rfl, Nat.le_of_ble_eq_true rfl⟩) (pre_S X hw _) rfl rfl hl.1 rfl (lv_room (Nat.le_of_ble_eq_true rfl)) dX12_lot_29 ⟨Nat.le_of_ble_eq_true rfl, Nat.le_of_ble_eq_true rfl⟩) 0 0 (Nat.le_of_ble_eq_true rfl) (Nat.le_of_ble_eq_true rfl) (fun rr_28 S_29 H locs hp hw hfr hnw => ?_)
      obtain ⟨e2, hp⟩ := hp
      subst e2
      rcases hp with ⟨f_30, er_31⟩ | ⟨f_30, er_31⟩ <;> subst er_31
      · have z_b_32 := trivial
        refine lv_if_eq (tgt := 60) X.1 X.2.1 dX12_lot_32 (by decide) (fun c_33 => absurd c_33 (by decide)) (fun c_33 => ?_)
        refine lv_iload X.1 X.2.1 dX12_lot_35 (lv_at hl 4 rfl) ?_
        refine lv_bipush (v := 40) X.1 X.2.1 dX12_lot_37 (by decide) ?_
        refine lv_sipush (v := 200) X.1 X.2.1 dX12_lot_39 (by decide) ?_
        refine k_i (rm := { frames := 1, cells := 0, slots := 0, locals := 48 }) (av := [.int (a4), .int 40, .int 200]) X hw (va_runS (As := [.int (a4), .int 40, .int 200]) (rest := []) (cfix X) (k_X12_within l G cy κ S_5 _ (a4) (a4_z) (40) (40) (200) (200) hO_6.1 hz_a4 ti_40 ti_200) (cwS 3 X.2.2.2.1 gX12_lot_X12_within rfl rfl rfl (by decide +kernel) ⟨Nat.le_of_ble_eq_true rfl, Nat.le_of_ble_eq_true rfl⟩) (pre_S X hw _) rfl rfl hl.1 rfl (lv_room (Nat.le_of_ble_eq_true rfl)) dX12_lot_42 ⟨Nat.le_of_ble_eq_true rfl, Nat.le_of_ble_eq_true rfl⟩) 0 0 (Nat.le_of_ble_eq_true rfl) (Nat.le_of_ble_eq_true rfl) (fun rr_34 S_35 H locs hp hw hfr hnw => ?_)
        obtain ⟨e2, hp⟩ := hp
        subst e2
        rcases hp with ⟨f_36, er_37⟩ | ⟨f_36, er_37⟩ <;> subst er_37
        · have z_b_38 := trivial
          refine lv_if_eq (tgt := 60) X.1 X.2.1 dX12_lot_45 (by decide) (fun c_39 => absurd c_39 (by decide)) (fun c_39 => ?_)
          refine lv_iload X.1 X.2.1 dX12_lot_48 (lv_at hl 5 rfl) ?_
          refine lv_iconst (v := 0) X.1 X.2.1 dX12_lot_50 (by decide) ?_
          refine lv_sipush (v := 200) X.1 X.2.1 dX12_lot_51 (by decide) ?_
          refine k_i (rm := { frames := 1, cells := 0, slots := 0, locals := 48 }) (av := [.int (a5), .int 0, .int 200]) X hw (va_runS (As := [.int (a5), .int 0, .int 200]) (rest := []) (cfix X) (k_X12_within l G cy κ S_5 _ (a5) (a5_z) (0) (0) (200) (200) hO_6.1 hz_a5 ti_0 ti_200) (cwS 3 X.2.2.2.1 gX12_lot_X12_within rfl rfl rfl (by decide +kernel) ⟨Nat.le_of_ble_eq_true rfl, Nat.le_of_ble_eq_true rfl⟩) (pre_S X hw _) rfl rfl hl.1 rfl (lv_room (Nat.le_of_ble_eq_true rfl)) dX12_lot_54 ⟨Nat.le_of_ble_eq_true rfl, Nat.le_of_ble_eq_true rfl⟩) 0 0 (Nat.le_of_ble_eq_true rfl) (Nat.le_of_ble_eq_true rfl) (fun rr_40 S_41 H locs hp hw hfr hnw => ?_)
          obtain ⟨e2, hp⟩ := hp
          subst e2
          rcases hp with ⟨f_42, er_43⟩ | ⟨f_42, er_43⟩ <;> subst er_43
          · have z_b_44 := trivial
            refine lv_if_ne (tgt := 62) X.1 X.2.1 dX12_lot_57 (by decide) (fun c_45 => ?_) (fun c_45 => absurd c_45 (by decide))
            refine lv_aload_n X.1 X.2.1 dX12_lot_62 rfl (lv_at hl 0 rfl) ?_
            obtain ⟨q_46, h_47, h_48, h_49⟩ := gQ_12_1202 hO_6.1 t_8
            refine r_getR (g := 1202) X hw t_8 rfl 2 h_47 (by decide) rfl inn_X12_lot_12 (by decide) (X.2.2.2.1 (.fieldLink RX12 7 "SilkMillModel" "lotMany" "[I") (by decide +kernel)) rfl (gv_1202 _ _) dX12_lot_63 ?_
            refine lv_aload_n X.1 X.2.1 dX12_lot_66 rfl (lv_at hl 0 rfl) ?_
            refine r_getI (g := 1201) (x := v_1) X hw t_8 rfl 1 t_9 (by decide) rfl inn_X12_lot_12 (by decide) (X.2.2.2.1 (.fieldLink RX12 165 "SilkMillModel" "lots" "I") (by decide +kernel)) rfl (gv_1201 _ _) dX12_lot_67 ?_
            refine lv_iload_n X.1 X.2.1 dX12_lot_70 rfl (lv_at hl 1 rfl) ?_
            refine r_iast X hw h_48 rfl (by rw [h_49]; exact z_ix rfl (by omega) (by omega)) dX12_lot_71 (fun H locs hw => ?_)
            obtain ⟨S_50, eS_50⟩ : ∃ T, T = sA S_5 q_46 (upd (pA S_5 q_46) (Int32.toNatClampNeg (v_1)) (a1)) := ⟨_, rfl⟩
            rw [← eS_50] at hw
            have hO_51 : Ok M12t S S_50 := hO_6.sA eS_50 h_48 (by decide +kernel) (uA_254 hO_6.1 h_48 (by omega) (by omega))
            have h_52 : pA S_50 q_46 (Int32.toNatClampNeg (v_1)) = a1 := tA_sAs eS_50
            have zc_53 : mA S_5 x 1202 = mA S x 1202 := mA_sI eS_5
            have t_54 : pR S_50 1202 x = some q_46 := tR_sA eS_50 h_47
            have t_55 : pR S_5 1202 x = some q_46 := by have h := t_54; rw [eS_50, pR_sA] at h; exact h
            have zm_56 : ∀ j, mA S_50 x 1202 j = if j = (pI S 1201 x).toInt.toNat then a1 else mA S x 1202 j := fun j => by rw [mA_sAs eS_50 t_55 j, zc_53, show Int32.toNatClampNeg (v_1) = (pI S 1201 x).toInt.toNat from by rw [z_nc rfl (by omega)]; omega]
            refine lv_aload_n X.1 X.2.1 dX12_lot_72 rfl (lv_at hl 0 rfl) ?_
            have t_57 : At S_50 x 12 := tAt_sA eS_50 t_8
            obtain ⟨q_58, h_59, h_60, h_61⟩ := gQ_12_1203 hO_51.1 t_57
            refine r_getR (g := 1203) X hw t_57 rfl 3 h_59 (by decide) rfl inn_X12_lot_12 (by decide) (X.2.2.2.1 (.fieldLink RX12 13 "SilkMillModel" "lotSeed" "[I") (by decide +kernel)) rfl (gv_1203 _ _) dX12_lot_73 ?_
            refine lv_aload_n X.1 X.2.1 dX12_lot_76 rfl (lv_at hl 0 rfl) ?_
            have t_62 : pI S_50 1201 x = v_1 := tI_sA eS_50 t_9
            refine r_getI (g := 1201) (x := v_1) X hw t_57 rfl 1 t_62 (by decide) rfl inn_X12_lot_12 (by decide) (X.2.2.2.1 (.fieldLink RX12 165 "SilkMillModel" "lots" "I") (by decide +kernel)) rfl (gv_1201 _ _) dX12_lot_77 ?_
            refine lv_iload_n X.1 X.2.1 dX12_lot_80 rfl (lv_at hl 2 rfl) ?_
            refine r_iast X hw h_60 rfl (by rw [h_61]; exact z_ix rfl (by omega) (by omega)) dX12_lot_81 (fun H locs hw => ?_)
            obtain ⟨S_63, eS_63⟩ : ∃ T, T = sA S_50 q_58 (upd (pA S_50 q_58) (Int32.toNatClampNeg (v_1)) (a2)) := ⟨_, rfl⟩
            rw [← eS_63] at hw
            have hO_64 : Ok M12t S S_63 := hO_51.sA eS_63 h_60 (by decide +kernel) (uA_274 hO_51.1 h_60)
            have h_65 : pA S_63 q_58 (Int32.toNatClampNeg (v_1)) = a2 := tA_sAs eS_63
            have zc_66 : mA S_5 x 1203 = mA S x 1203 := mA_sI eS_5
            have zc_67 : mA S_50 x 1203 = mA S x 1203 := (mA_sAn eS_50 (ex3 (gQ_12_1203 hO_6.1 t_8)) h_48 rfl).trans zc_66
            have t_68 : pR S_63 1203 x = some q_58 := tR_sA eS_63 h_59
            have t_69 : pR S_50 1203 x = some q_58 := by have h := t_68; rw [eS_63, pR_sA] at h; exact h
            have zm_70 : ∀ j, mA S_63 x 1203 j = if j = (pI S 1201 x).toInt.toNat then a2 else mA S x 1203 j := fun j => by rw [mA_sAs eS_63 t_69 j, zc_67, show Int32.toNatClampNeg (v_1) = (pI S 1201 x).toInt.toNat from by rw [z_nc rfl (by omega)]; omega]
            refine lv_aload_n X.1 X.2.1 dX12_lot_82 rfl (lv_at hl 0 rfl) ?_
            have t_71 : At S_63 x 12 := tAt_sA eS_63 t_57
            obtain ⟨q_72, h_73, h_74, h_75⟩ := gQ_12_1204 hO_64.1 t_71
            refine r_getR (g := 1204) X hw t_71 rfl 4 h_73 (by decide) rfl inn_X12_lot_12 (by decide) (X.2.2.2.1 (.fieldLink RX12 16 "SilkMillModel" "lotBase" "[I") (by decide +kernel)) rfl (gv_1204 _ _) dX12_lot_83 ?_
            refine lv_aload_n X.1 X.2.1 dX12_lot_86 rfl (lv_at hl 0 rfl) ?_
            have t_76 : pI S_63 1201 x = v_1 := tI_sA eS_63 t_62
            refine r_getI (g := 1201) (x := v_1) X hw t_71 rfl 1 t_76 (by decide) rfl inn_X12_lot_12 (by decide) (X.2.2.2.1 (.fieldLink RX12 165 "SilkMillModel" "lots" "I") (by decide +kernel)) rfl (gv_1201 _ _) dX12_lot_87 ?_
            refine lv_iload_n X.1 X.2.1 dX12_lot_90 rfl (lv_at hl 3 rfl) ?_
            refine r_iast X hw h_74 rfl (by rw [h_75]; exact z_ix rfl (by omega) (by omega)) dX12_lot_91 (fun H locs hw => ?_)
            obtain ⟨S_77, eS_77⟩ : ∃ T, T = sA S_63 q_72 (upd (pA S_63 q_72) (Int32.toNatClampNeg (v_1)) (a3)) := ⟨_, rfl⟩
            rw [← eS_77] at hw
            have hO_78 : Ok M12t S S_77 := hO_64.sA eS_77 h_74 (by decide +kernel) (uA_294 hO_64.1 h_74)
            have h_79 : pA S_77 q_72 (Int32.toNatClampNeg (v_1)) = a3 := tA_sAs eS_77
            have zc_80 : mA S_5 x 1204 = mA S x 1204 := mA_sI eS_5
            have zc_81 : mA S_50 x 1204 = mA S x 1204 := (mA_sAn eS_50 (ex3 (gQ_12_1204 hO_6.1 t_8)) h_48 rfl).trans zc_80
            have zc_82 : mA S_63 x 1204 = mA S x 1204 := (mA_sAn eS_63 (ex3 (gQ_12_1204 hO_51.1 t_57)) h_60 rfl).trans zc_81
            have t_83 : pR S_77 1204 x = some q_72 := tR_sA eS_77 h_73
            have t_84 : pR S_63 1204 x = some q_72 := by have h := t_83; rw [eS_77, pR_sA] at h; exact h
            have zm_85 : ∀ j, mA S_77 x 1204 j = if j = (pI S 1201 x).toInt.toNat then a3 else mA S x 1204 j := fun j => by rw [mA_sAs eS_77 t_84 j, zc_82, show Int32.toNatClampNeg (v_1) = (pI S 1201 x).toInt.toNat from by rw [z_nc rfl (by omega)]; omega]
            refine lv_aload_n X.1 X.2.1 dX12_lot_92 rfl (lv_at hl 0 rfl) ?_
            have t_86 : At S_77 x 12 := tAt_sA eS_77 t_71
            obtain ⟨q_87, h_88, h_89, h_90⟩ := gQ_12_1205 hO_78.1 t_86
            refine r_getR (g := 1205) X hw t_86 rfl 5 h_88 (by decide) rfl inn_X12_lot_12 (by decide) (X.2.2.2.1 (.fieldLink RX12 19 "SilkMillModel" "lotLong" "[I") (by decide +kernel)) rfl (gv_1205 _ _) dX12_lot_93 ?_
            refine lv_aload_n X.1 X.2.1 dX12_lot_96 rfl (lv_at hl 0 rfl) ?_
            have t_91 : pI S_77 1201 x = v_1 := tI_sA eS_77 t_76
            refine r_getI (g := 1201) (x := v_1) X hw t_86 rfl 1 t_91 (by decide) rfl inn_X12_lot_12 (by decide) (X.2.2.2.1 (.fieldLink RX12 165 "SilkMillModel" "lots" "I") (by decide +kernel)) rfl (gv_1201 _ _) dX12_lot_97 ?_
            refine lv_iload X.1 X.2.1 dX12_lot_100 (lv_at hl 4 rfl) ?_
            refine r_iast X hw h_89 rfl (by rw [h_90]; exact z_ix rfl (by omega) (by omega)) dX12_lot_102 (fun H locs hw => ?_)
            obtain ⟨S_92, eS_92⟩ : ∃ T, T = sA S_77 q_87 (upd (pA S_77 q_87) (Int32.toNatClampNeg (v_1)) (a4)) := ⟨_, rfl⟩
            rw [← eS_92] at hw
            have hO_93 : Ok M12t S S_92 := hO_78.sA eS_92 h_89 (by decide +kernel) (uA_314 hO_78.1 h_89 (by omega) (by omega))
            have h_94 : pA S_92 q_87 (Int32.toNatClampNeg (v_1)) = a4 := tA_sAs eS_92
            have zc_95 : mA S_5 x 1205 = mA S x 1205 := mA_sI eS_5
            have zc_96 : mA S_50 x 1205 = mA S x 1205 := (mA_sAn eS_50 (ex3 (gQ_12_1205 hO_6.1 t_8)) h_48 rfl).trans zc_95
            have zc_97 : mA S_63 x 1205 = mA S x 1205 := (mA_sAn eS_63 (ex3 (gQ_12_1205 hO_51.1 t_57)) h_60 rfl).trans zc_96
            have zc_98 : mA S_77 x 1205 = mA S x 1205 := (mA_sAn eS_77 (ex3 (gQ_12_1205 hO_64.1 t_71)) h_74 rfl).trans zc_97
            have t_99 : pR S_92 1205 x = some q_87 := tR_sA eS_92 h_88
            have t_100 : pR S_77 1205 x = some q_87 := by have h := t_99; rw [eS_92, pR_sA] at h; exact h
            have zm_101 : ∀ j, mA S_92 x 1205 j = if j = (pI S 1201 x).toInt.toNat then a4 else mA S x 1205 j := fun j => by rw [mA_sAs eS_92 t_100 j, zc_98, show Int32.toNatClampNeg (v_1) = (pI S 1201 x).toInt.toNat from by rw [z_nc rfl (by omega)]; omega]
            refine lv_aload_n X.1 X.2.1 dX12_lot_103 rfl (lv_at hl 0 rfl) ?_
            have t_102 : At S_92 x 12 := tAt_sA eS_92 t_86
            obtain ⟨q_103, h_104, h_105, h_106⟩ := gQ_12_1206 hO_93.1 t_102
            refine r_getR (g := 1206) X hw t_102 rfl 6 h_104 (by decide) rfl inn_X12_lot_12 (by decide) (X.2.2.2.1 (.fieldLink RX12 22 "SilkMillModel" "lotFrail" "[I") (by decide +kernel)) rfl (gv_1206 _ _) dX12_lot_104 ?_
            refine lv_aload_n X.1 X.2.1 dX12_lot_107 rfl (lv_at hl 0 rfl) ?_
            have t_107 : pI S_92 1201 x = v_1 := tI_sA eS_92 t_91
            refine r_getI (g := 1201) (x := v_1) X hw t_102 rfl 1 t_107 (by decide) rfl inn_X12_lot_12 (by decide) (X.2.2.2.1 (.fieldLink RX12 165 "SilkMillModel" "lots" "I") (by decide +kernel)) rfl (gv_1201 _ _) dX12_lot_108 ?_
            refine lv_iload X.1 X.2.1 dX12_lot_111 (lv_at hl 5 rfl) ?_
            refine r_iast X hw h_105 rfl (by rw [h_106]; exact z_ix rfl (by omega) (by omega)) dX12_lot_113 (fun H locs hw => ?_)
            obtain ⟨S_108, eS_108⟩ : ∃ T, T = sA S_92 q_103 (upd (pA S_92 q_103) (Int32.toNatClampNeg (v_1)) (a5)) := ⟨_, rfl⟩
            rw [← eS_108] at hw
            have hO_109 : Ok M12t S S_108 := hO_93.sA eS_108 h_105 (by decide +kernel) (uA_334 hO_93.1 h_105)
            have h_110 : pA S_108 q_103 (Int32.toNatClampNeg (v_1)) = a5 := tA_sAs eS_108
            have zc_111 : mA S_5 x 1206 = mA S x 1206 := mA_sI eS_5
            have zc_112 : mA S_50 x 1206 = mA S x 1206 := (mA_sAn eS_50 (ex3 (gQ_12_1206 hO_6.1 t_8)) h_48 rfl).trans zc_111
            have zc_113 : mA S_63 x 1206 = mA S x 1206 := (mA_sAn eS_63 (ex3 (gQ_12_1206 hO_51.1 t_57)) h_60 rfl).trans zc_112
            have zc_114 : mA S_77 x 1206 = mA S x 1206 := (mA_sAn eS_77 (ex3 (gQ_12_1206 hO_64.1 t_71)) h_74 rfl).trans zc_113
            have zc_115 : mA S_92 x 1206 = mA S x 1206 := (mA_sAn eS_92 (ex3 (gQ_12_1206 hO_78.1 t_86)) h_89 rfl).trans zc_114
            have t_116 : pR S_108 1206 x = some q_103 := tR_sA eS_108 h_104
            have t_117 : pR S_92 1206 x = some q_103 := by have h := t_116; rw [eS_108, pR_sA] at h; exact h
            have zm_118 : ∀ j, mA S_108 x 1206 j = if j = (pI S 1201 x).toInt.toNat then a5 else mA S x 1206 j := fun j => by rw [mA_sAs eS_108 t_117 j, zc_115, show Int32.toNatClampNeg (v_1) = (pI S 1201 x).toInt.toNat from by rw [z_nc rfl (by omega)]; omega]
            refine lv_aload_n X.1 X.2.1 dX12_lot_114 rfl (lv_at hl 0 rfl) ?_
            refine lv_dup X.1 X.2.1 dX12_lot_115 rfl ?_
            have t_119 : At S_108 x 12 := tAt_sA eS_108 t_102
            have t_120 : pI S_108 1201 x = v_1 := tI_sA eS_108 t_107
            refine r_getI (g := 1201) (x := v_1) X hw t_119 rfl 1 t_120 (by decide) rfl inn_X12_lot_12 (by decide) (X.2.2.2.1 (.fieldLink RX12 165 "SilkMillModel" "lots" "I") (by decide +kernel)) rfl (gv_1201 _ _) dX12_lot_116 ?_
            refine lv_iconst (v := 1) X.1 X.2.1 dX12_lot_119 (by decide) ?_
            refine lv_iadd X.1 X.2.1 dX12_lot_120 ?_
            refine lv_topi (fun v_121 ev_121 => ?_)
            have z_122 : v_121.toInt = v_1.toInt + 1 := z_add ev_121 rfl ti_1 (by omega) (by omega)
            refine r_putI (v := v_121) X hw t_119 rfl 1 1201 tyX12 (by decide) rfl inn_X12_lot_12 tyX12_ok nmX12 (by decide) (X.2.2.2.1 (.fieldLink RX12 165 "SilkMillModel" "lots" "I") (by decide +kernel)) rfl (Or.inl rfl) rfl rfl (Nat.le_of_ble_eq_true rfl) (st_1201 _ _) dX12_lot_121 (fun H locs hw => ?_)
            obtain ⟨S_123, eS_123⟩ : ∃ T, T = sI S_108 1201 x (v_121) := ⟨_, rfl⟩
            rw [← eS_123] at hw
            have hO_124 : Ok M12t S S_123 := hO_109.sI eS_123 (by decide +kernel) (uI_12_1201 hO_109.1 t_119 (by omega) (by omega))
            have h_125 : pI S_123 1201 x = v_121 := tI_sIs eS_123
            refine lv_aload_n X.1 X.2.1 dX12_lot_124 rfl (lv_at hl 0 rfl) ?_
            have t_126 : At S_123 x 12 := tAt_sI eS_123 t_119
            refine r_getI (g := 1201) (x := v_121) X hw t_126 rfl 1 h_125 (by decide) rfl inn_X12_lot_12 (by decide) (X.2.2.2.1 (.fieldLink RX12 165 "SilkMillModel" "lots" "I") (by decide +kernel)) rfl (gv_1201 _ _) dX12_lot_125 ?_
            refine lv_iconst (v := 1) X.1 X.2.1 dX12_lot_128 (by decide) ?_
            refine lv_isub X.1 X.2.1 dX12_lot_129 ?_
            refine lv_topi (fun v_127 ev_127 => ?_)
            have z_128 : v_127.toInt = (v_1.toInt + 1) - 1 := z_sub ev_127 z_122 ti_1 (by omega) (by omega)
            have zc_129 : mA S_5 x 1203 = mA S x 1203 := mA_sI eS_5
            have zc_130 : mA S_50 x 1203 = mA S x 1203 := (mA_sAn eS_50 (ex3 (gQ_12_1203 hO_6.1 t_8)) h_48 rfl).trans zc_129
            have zc_131 : mA S_77 x 1203 = mA S_63 x 1203 := mA_sAn eS_77 (ex3 (gQ_12_1203 hO_64.1 t_71)) h_74 rfl
            have zc_132 : mA S_92 x 1203 = mA S_63 x 1203 := (mA_sAn eS_92 (ex3 (gQ_12_1203 hO_78.1 t_86)) h_89 rfl).trans zc_131
            have zc_133 : mA S_108 x 1203 = mA S_63 x 1203 := (mA_sAn eS_108 (ex3 (gQ_12_1203 hO_93.1 t_102)) h_105 rfl).trans zc_132
            have zc_134 : mA S_123 x 1203 = mA S_63 x 1203 := (mA_sI eS_123).trans zc_133
            have zm_135 : ∀ j, mA S_123 x 1203 j = if j = (pI S 1201 x).toInt.toNat then a2 else mA S x 1203 j := fun j => by rw [zc_134]; exact zm_70 j
            have zc_136 : mA S_5 x 1205 = mA S x 1205 := mA_sI eS_5
            have zc_137 : mA S_50 x 1205 = mA S x 1205 := (mA_sAn eS_50 (ex3 (gQ_12_1205 hO_6.1 t_8)) h_48 rfl).trans zc_136
            have zc_138 : mA S_63 x 1205 = mA S x 1205 := (mA_sAn eS_63 (ex3 (gQ_12_1205 hO_51.1 t_57)) h_60 rfl).trans zc_137
            have zc_139 : mA S_77 x 1205 = mA S x 1205 := (mA_sAn eS_77 (ex3 (gQ_12_1205 hO_64.1 t_71)) h_74 rfl).trans zc_138
            have zc_140 : mA S_108 x 1205 = mA S_92 x 1205 := mA_sAn eS_108 (ex3 (gQ_12_1205 hO_93.1 t_102)) h_105 rfl
            have zc_141 : mA S_123 x 1205 = mA S_92 x 1205 := (mA_sI eS_123).trans zc_140
            have zm_142 : ∀ j, mA S_123 x 1205 j = if j = (pI S 1201 x).toInt.toNat then a4 else mA S x 1205 j := fun j => by rw [zc_141]; exact zm_101 j
            have pz_143 : (pI S_123 1201 x).toInt = (v_1.toInt + 1) := (congrArg Int32.toInt h_125).trans z_122
            have zc_144 : mA S_5 x 1202 = mA S x 1202 := mA_sI eS_5
            have zc_145 : mA S_63 x 1202 = mA S_50 x 1202 := mA_sAn eS_63 (ex3 (gQ_12_1202 hO_51.1 t_57)) h_60 rfl
            have zc_146 : mA S_77 x 1202 = mA S_50 x 1202 := (mA_sAn eS_77 (ex3 (gQ_12_1202 hO_64.1 t_71)) h_74 rfl).trans zc_145
            have zc_147 : mA S_92 x 1202 = mA S_50 x 1202 := (mA_sAn eS_92 (ex3 (gQ_12_1202 hO_78.1 t_86)) h_89 rfl).trans zc_146
            have zc_148 : mA S_108 x 1202 = mA S_50 x 1202 := (mA_sAn eS_108 (ex3 (gQ_12_1202 hO_93.1 t_102)) h_105 rfl).trans zc_147
            have zc_149 : mA S_123 x 1202 = mA S_50 x 1202 := (mA_sI eS_123).trans zc_148
            have zm_150 : ∀ j, mA S_123 x 1202 j = if j = (pI S 1201 x).toInt.toNat then a1 else mA S x 1202 j := fun j => by rw [zc_149]; exact zm_56 j
            have zm_151 : ∀ j, mA S_123 x 1203 j = if j = (pI S 1201 x).toInt.toNat then a2 else mA S x 1203 j := fun j => by rw [zc_134]; exact zm_70 j
            have zc_152 : mA S_5 x 1204 = mA S x 1204 := mA_sI eS_5
            have zc_153 : mA S_50 x 1204 = mA S x 1204 := (mA_sAn eS_50 (ex3 (gQ_12_1204 hO_6.1 t_8)) h_48 rfl).trans zc_152
            have zc_154 : mA S_63 x 1204 = mA S x 1204 := (mA_sAn eS_63 (ex3 (gQ_12_1204 hO_51.1 t_57)) h_60 rfl).trans zc_153
            have zc_155 : mA S_92 x 1204 = mA S_77 x 1204 := mA_sAn eS_92 (ex3 (gQ_12_1204 hO_78.1 t_86)) h_89 rfl
            have zc_156 : mA S_108 x 1204 = mA S_77 x 1204 := (mA_sAn eS_108 (ex3 (gQ_12_1204 hO_93.1 t_102)) h_105 rfl).trans zc_155
            have zc_157 : mA S_123 x 1204 = mA S_77 x 1204 := (mA_sI eS_123).trans zc_156
            have zm_158 : ∀ j, mA S_123 x 1204 j = if j = (pI S 1201 x).toInt.toNat then a3 else mA S x 1204 j := fun j => by rw [zc_157]; exact zm_85 j
            have zm_159 : ∀ j, mA S_123 x 1205 j = if j = (pI S 1201 x).toInt.toNat then a4 else mA S x 1205 j := fun j => by rw [zc_141]; exact zm_101 j
            have zc_160 : mA S_5 x 1206 = mA S x 1206 := mA_sI eS_5
            have zc_161 : mA S_50 x 1206 = mA S x 1206 := (mA_sAn eS_50 (ex3 (gQ_12_1206 hO_6.1 t_8)) h_48 rfl).trans zc_160
            have zc_162 : mA S_63 x 1206 = mA S x 1206 := (mA_sAn eS_63 (ex3 (gQ_12_1206 hO_51.1 t_57)) h_60 rfl).trans zc_161
            have zc_163 : mA S_77 x 1206 = mA S x 1206 := (mA_sAn eS_77 (ex3 (gQ_12_1206 hO_64.1 t_71)) h_74 rfl).trans zc_162
            have zc_164 : mA S_92 x 1206 = mA S x 1206 := (mA_sAn eS_92 (ex3 (gQ_12_1206 hO_78.1 t_86)) h_89 rfl).trans zc_163
            have zc_165 : mA S_123 x 1206 = mA S_108 x 1206 := mA_sI eS_123
            have zm_166 : ∀ j, mA S_123 x 1206 j = if j = (pI S 1201 x).toInt.toNat then a5 else mA S x 1206 j := fun j => by rw [zc_165]; exact zm_118 j
            exact ret_i X hw hr hlocks (Nat.le_of_ble_eq_true rfl) (Nat.le_of_ble_eq_true rfl) ⟨hO_124, ⟨(lot_MI hG hO_124.1 ha_x t_126 (hO_124.fr.mono (by decide +kernel)) hp_0 (by rw [h_125]; omega) zm_135 zm_142), Or.inl ⟨by omega, by have hzr := z_128; omega, by omega⟩, fun _ j => ⟨zm_150 j, zm_151 j, zm_158 j, zm_159 j, zm_166 j⟩, fun h => absurd (by omega) h⟩⟩ dX12_lot_130
          · have z_b_167 := trivial
            refine lv_if_ne (tgt := 62) X.1 X.2.1 dX12_lot_57 (by decide) (fun c_168 => absurd c_168 (by decide)) (fun c_168 => ?_)
            refine lv_iconst (v := (-1)) X.1 X.2.1 dX12_lot_60 (by decide) ?_
            have mi_169 : MIe S_5 x (-1) := MIe_sI hp_0 hO.1 ha_x eS_5 (by decide +kernel)
            have pz_170 : (pI S_5 1201 x).toInt = v_1.toInt := (congrArg Int32.toInt t_9).trans rfl
            have zc_171 : mA S_5 x 1202 = mA S x 1202 := mA_sI eS_5
            have zc_172 : mA S_5 x 1203 = mA S x 1203 := mA_sI eS_5
            have zc_173 : mA S_5 x 1204 = mA S x 1204 := mA_sI eS_5
            have zc_174 : mA S_5 x 1205 = mA S x 1205 := mA_sI eS_5
            have zc_175 : mA S_5 x 1206 = mA S x 1206 := mA_sI eS_5
            exact ret_i X hw hr hlocks (Nat.le_of_ble_eq_true rfl) (Nat.le_of_ble_eq_true rfl) ⟨hO_6, ⟨mi_169, Or.inr ⟨by omega, by decide, by omega⟩, fun h => absurd h (by omega), fun _ => ⟨zc_171, zc_172, zc_173, zc_174, zc_175⟩⟩⟩ dX12_lot_61
        · have z_b_176 := trivial
          refine lv_if_eq (tgt := 60) X.1 X.2.1 dX12_lot_45 (by decide) (fun c_177 => ?_) (fun c_177 => absurd c_177 (by decide))
          refine lv_iconst (v := (-1)) X.1 X.2.1 dX12_lot_60 (by decide) ?_
          have mi_178 : MIe S_5 x (-1) := MIe_sI hp_0 hO.1 ha_x eS_5 (by decide +kernel)
          have pz_179 : (pI S_5 1201 x).toInt = v_1.toInt := (congrArg Int32.toInt t_9).trans rfl
          have zc_180 : mA S_5 x 1202 = mA S x 1202 := mA_sI eS_5
          have zc_181 : mA S_5 x 1203 = mA S x 1203 := mA_sI eS_5
          have zc_182 : mA S_5 x 1204 = mA S x 1204 := mA_sI eS_5
          have zc_183 : mA S_5 x 1205 = mA S x 1205 := mA_sI eS_5
          have zc_184 : mA S_5 x 1206 = mA S x 1206 := mA_sI eS_5
          exact ret_i X hw hr hlocks (Nat.le_of_ble_eq_true rfl) (Nat.le_of_ble_eq_true rfl) ⟨hO_6, ⟨mi_178, Or.inr ⟨by omega, by decide, by omega⟩, fun h => absurd h (by omega), fun _ => ⟨zc_180, zc_181, zc_182, zc_183, zc_184⟩⟩⟩ dX12_lot_61
      · have z_b_185 := trivial
        refine lv_if_eq (tgt := 60) X.1 X.2.1 dX12_lot_32 (by decide) (fun c_186 => ?_) (fun c_186 => absurd c_186 (by decide))
        refine lv_iconst (v := (-1)) X.1 X.2.1 dX12_lot_60 (by decide) ?_
        have mi_187 : MIe S_5 x (-1) := MIe_sI hp_0 hO.1 ha_x eS_5 (by decide +kernel)
        have pz_188 : (pI S_5 1201 x).toInt = v_1.toInt := (congrArg Int32.toInt t_9).trans rfl
        have zc_189 : mA S_5 x 1202 = mA S x 1202 := mA_sI eS_5
        have zc_190 : mA S_5 x 1203 = mA S x 1203 := mA_sI eS_5
        have zc_191 : mA S_5 x 1204 = mA S x 1204 := mA_sI eS_5
        have zc_192 : mA S_5 x 1205 = mA S x 1205 := mA_sI eS_5
        have zc_193 : mA S_5 x 1206 = mA S x 1206 := mA_sI eS_5
        exact ret_i X hw hr hlocks (Nat.le_of_ble_eq_true rfl) (Nat.le_of_ble_eq_true rfl) ⟨hO_6, ⟨mi_187, Or.inr ⟨by omega, by decide, by omega⟩, fun h => absurd h (by omega), fun _ => ⟨zc_189, zc_190, zc_191, zc_192, zc_193⟩⟩⟩ dX12_lot_61
    · have z_b_194 := trivial
      refine lv_if_eq (tgt := 60) X.1 X.2.1 dX12_lot_21 (by decide) (fun c_195 => ?_) (fun c_195 => absurd c_195 (by decide))
      refine lv_iconst (v := (-1)) X.1 X.2.1 dX12_lot_60 (by decide) ?_
      have mi_196 : MIe S_5 x (-1) := MIe_sI hp_0 hO.1 ha_x eS_5 (by decide +kernel)
      have pz_197 : (pI S_5 1201 x).toInt = v_1.toInt := (congrArg Int32.toInt t_9).trans rfl
      have zc_198 : mA S_5 x 1202 = mA S x 1202 := mA_sI eS_5
      have zc_199 : mA S_5 x 1203 = mA S x 1203 := mA_sI eS_5
      have zc_200 : mA S_5 x 1204 = mA S x 1204 := mA_sI eS_5
      have zc_201 : mA S_5 x 1205 = mA S x 1205 := mA_sI eS_5
      have zc_202 : mA S_5 x 1206 = mA S x 1206 := mA_sI eS_5
      exact ret_i X hw hr hlocks (Nat.le_of_ble_eq_true rfl) (Nat.le_of_ble_eq_true rfl) ⟨hO_6, ⟨mi_196, Or.inr ⟨by omega, by decide, by omega⟩, fun h => absurd h (by omega), fun _ => ⟨zc_198, zc_199, zc_200, zc_201, zc_202⟩⟩⟩ dX12_lot_61
