theorem pL_sI {S : PS} {g a : Nat} {v : Int32} : pL (sI S g a v) = pL S := rfl
theorem pK_sI {S : PS} {g a : Nat} {v : Int32} : pK (sI S g a v) = pK S := rfl
theorem pR_sI {S : PS} {g a : Nat} {v : Int32} : pR (sI S g a v) = pR S := rfl
theorem pN_sI {S : PS} {g a : Nat} {v : Int32} : pN (sI S g a v) = pN S := rfl
theorem pA_sI {S : PS} {g a : Nat} {v : Int32} : pA (sI S g a v) = pA S := rfl
theorem pB_sI {S : PS} {g a : Nat} {v : Int32} : pB (sI S g a v) = pB S := rfl
theorem pL_sR {S : PS} {g a : Nat} {v : Option Nat} : pL (sR S g a v) = pL S := rfl
theorem pK_sR {S : PS} {g a : Nat} {v : Option Nat} : pK (sR S g a v) = pK S := rfl
theorem pI_sR {S : PS} {g a : Nat} {v : Option Nat} : pI (sR S g a v) = pI S := rfl
theorem pN_sR {S : PS} {g a : Nat} {v : Option Nat} : pN (sR S g a v) = pN S := rfl
theorem pA_sR {S : PS} {g a : Nat} {v : Option Nat} : pA (sR S g a v) = pA S := rfl
theorem pB_sR {S : PS} {g a : Nat} {v : Option Nat} : pB (sR S g a v) = pB S := rfl
theorem pL_sA {S : PS} {a : Nat} {f : Nat → Int32} : pL (sA S a f) = pL S := rfl
theorem pK_sA {S : PS} {a : Nat} {f : Nat → Int32} : pK (sA S a f) = pK S := rfl
theorem pI_sA {S : PS} {a : Nat} {f : Nat → Int32} : pI (sA S a f) = pI S := rfl
theorem pR_sA {S : PS} {a : Nat} {f : Nat → Int32} : pR (sA S a f) = pR S := rfl
theorem pN_sA {S : PS} {a : Nat} {f : Nat → Int32} : pN (sA S a f) = pN S := rfl
theorem pB_sA {S : PS} {a : Nat} {f : Nat → Int32} : pB (sA S a f) = pB S := rfl
theorem pL_sB {S : PS} {a : Nat} {f : Nat → Option Nat} : pL (sB S a f) = pL S := rfl
theorem pK_sB {S : PS} {a : Nat} {f : Nat → Option Nat} : pK (sB S a f) = pK S := rfl
theorem pI_sB {S : PS} {a : Nat} {f : Nat → Option Nat} : pI (sB S a f) = pI S := rfl
theorem pR_sB {S : PS} {a : Nat} {f : Nat → Option Nat} : pR (sB S a f) = pR S := rfl
theorem pN_sB {S : PS} {a : Nat} {f : Nat → Option Nat} : pN (sB S a f) = pN S := rfl
theorem pA_sB {S : PS} {a : Nat} {f : Nat → Option Nat} : pA (sB S a f) = pA S := rfl
theorem pI_sN {S : PS} {q k n : Nat} : pI (sN S q k n) = pI S := rfl
theorem pR_sN {S : PS} {q k n : Nat} : pR (sN S q k n) = pR S := rfl
theorem pN_sO {S : PS} {q k : Nat} : pN (sO S q k) = pN S := rfl
theorem pA_sO {S : PS} {q k : Nat} : pA (sO S q k) = pA S := rfl
theorem pB_sO {S : PS} {q k : Nat} : pB (sO S q k) = pB S := rfl
theorem pI_sI_nf {S : PS} {g a x y : Nat} {v : Int32} (h : x ≠ g) : pI (sI S g a v) x y = pI S x y := u2_nf _ _ h
theorem pI_sI_same {S : PS} {g a : Nat} {v : Int32} : pI (sI S g a v) g a = v := u2_same _ _ _ _
theorem pR_sR_nf {S : PS} {g a x y : Nat} {v : Option Nat} (h : x ≠ g) : pR (sR S g a v) x y = pR S x y := u2_nf _ _ h
theorem pR_sR_same {S : PS} {g a : Nat} {v : Option Nat} : pR (sR S g a v) g a = v := u2_same _ _ _ _
theorem pI_sO_ne {S : PS} {q k g a : Nat} (h : a ≠ q) : pI (sO S q k) g a = pI S g a := if_neg h
theorem pR_sO_ne {S : PS} {q k g a : Nat} (h : a ≠ q) : pR (sO S q k) g a = pR S g a := if_neg h
theorem pI_sO_new {S : PS} {q k g : Nat} : pI (sO S q k) g q = 0 := if_pos rfl
theorem pN_sN_ne {S : PS} {q k n a : Nat} (h : a ≠ q) : pN (sN S q k n) a = pN S a := if_neg h
theorem pN_sN_new {S : PS} {q k n : Nat} : pN (sN S q k n) q = n := if_pos rfl
theorem pA_sN_ne {S : PS} {q k n a : Nat} (h : a ≠ q) : pA (sN S q k n) a = pA S a := if_neg h
theorem pA_sN_new {S : PS} {q k n : Nat} : pA (sN S q k n) q = fun _ => 0 := if_pos rfl
theorem pA_sA_ne {S : PS} {b a : Nat} {f : Nat → Int32} (h : a ≠ b) : pA (sA S b f) a = pA S a := if_neg h
abbrev wi (v lo hi : Int32) : Prop := lo ≤ v ∧ v ≤ hi
theorem wi_vp {v hi : Int32} {n : Nat} (h : wi v 0 hi) (hn : hi.toInt < n) : vp_in v n := by
  have h1 := Int32.le_iff_toInt_le.mp h.1
  have h2 := Int32.le_iff_toInt_le.mp h.2
  have e1 : (0 : Int32).toInt = 0 := by decide
  exact vp_in_iff.mpr ⟨by omega, by omega⟩
def lotV (n b l f : Int32) : Int32 := if wi n 1 60 ∧ wi b 20 60 ∧ wi l 40 200 ∧ wi f 0 200 then 0 else -1
def potV (t f : Int32) : Int32 := if wi t 10 2000 ∧ wi f 1 50 then 0 else -1
def endV (n : Int32) : Int32 := if wi n 0 0 then n else -1
def takV (p k : Int32) : Int32 := if wi p 0 15 ∧ wi k 0 2 then -2 else -1
def priV (g v : Int32) : Int32 := if wi g 0 3 ∧ wi v 0 1000 then 1 else 0
def shvV (p k a : Int32) : Int32 := if wi p 0 15 ∧ (k = 1 ∨ k = 2 ∧ wi a 0 8) then 1 else 0
def cntV (w : Int32) : Int32 := if 0 ≤ w.toInt ∧ w.toInt ≤ 11 then 0 else -1
theorem wi_f1 {v lo hi : Int32} (h : v < lo) : ¬ wi v lo hi := fun q => absurd q.1 (Int32.not_le.mpr h)
theorem wi_f2 {v lo hi : Int32} (h : hi < v) : ¬ wi v lo hi := fun q => absurd q.2 (Int32.not_le.mpr h)
theorem wi_t {v lo hi : Int32} (h : ¬ v < lo) (h2 : ¬ hi < v) : wi v lo hi := ⟨Int32.not_lt.mp h, Int32.not_lt.mp h2⟩
theorem wi_nn (v : Int32) : ¬ wi v 0 (-1) := fun q => by
  have h1 := Int32.le_iff_toInt_le.mp q.1
  have h2 := Int32.le_iff_toInt_le.mp q.2
  have e1 : (0 : Int32).toInt = 0 := by decide
  have e2 : (-1 : Int32).toInt = -1 := by decide
  omega
theorem wi_00 {v : Int32} (h : wi v 0 0) : v = 0 := by
  have h1 := Int32.le_iff_toInt_le.mp h.1
  have h2 := Int32.le_iff_toInt_le.mp h.2
  have e1 : (0 : Int32).toInt = 0 := by decide
  exact Int32.toInt_inj.mp (by omega)
/-! ===== what a method leaves alone ===== -/
def Kp (S S' : PS) (P : Nat → Prop) : Prop := (∀ a ∈ pL S, a ∈ pL S' ∧ pK S' a = pK S a) ∧ ∀ a ∈ pL S, ¬ P a → (∀ g, pI S' g a = pI S g a) ∧ (∀ g, pR S' g a = pR S g a) ∧ pN S' a = pN S a ∧ pA S' a = pA S a ∧ pB S' a = pB S a
theorem Kp_rf (S : PS) (P : Nat → Prop) : Kp S S P := ⟨fun _ h => ⟨h, rfl⟩, fun _ h _ => ⟨fun _ => rfl, fun _ => rfl, rfl, rfl, rfl⟩⟩
theorem Kp_tr {S S1 S2 : PS} {P : Nat → Prop} (h : Kp S S1 P) (h2 : Kp S1 S2 P) : Kp S S2 P := ⟨fun a ha => ⟨(h2.1 a (h.1 a ha).1).1, ((h2.1 a (h.1 a ha).1).2).trans (h.1 a ha).2⟩, fun a ha hp => by
  obtain ⟨a3, a4, a5, a6, a7⟩ := h.2 a ha hp
  obtain ⟨b3, b4, b5, b6, b7⟩ := h2.2 a (h.1 a ha).1 hp
  exact ⟨fun g => (b3 g).trans (a3 g), fun g => (b4 g).trans (a4 g), b5.trans a5, b6.trans a6, b7.trans a7⟩⟩
theorem Kp_mono {S S1 : PS} {P P' : Nat → Prop} (h : Kp S S1 P) (hp : ∀ a, a ∈ pL S → P a → P' a) : Kp S S1 P' := ⟨h.1, fun a ha hn => h.2 a ha (fun q => hn (hp a ha q))⟩
theorem Kp_ne {S0 : PS} {P : Nat → Prop} {a o : Nat} (ha : a ∈ pL S0) (hp : ¬ P a) (ho : P o ∨ o ∉ pL S0) : a ≠ o := fun q => ho.elim (fun z => hp (q ▸ z)) (fun z => z (q ▸ ha))
theorem Kp_sI {S0 S : PS} {P : Nat → Prop} {g o : Nat} {v : Int32} (h : Kp S0 S P) (ho : P o ∨ o ∉ pL S0) : Kp S0 (sI S g o v) P := ⟨h.1, fun a ha hp => by
  obtain ⟨a3, a4, a5, a6, a7⟩ := h.2 a ha hp
  exact ⟨fun g' => (u2_ne _ _ (Kp_ne ha hp ho)).trans (a3 g'), a4, a5, a6, a7⟩⟩
theorem Kp_sR {S0 S : PS} {P : Nat → Prop} {g o : Nat} {v : Option Nat} (h : Kp S0 S P) (ho : P o ∨ o ∉ pL S0) : Kp S0 (sR S g o v) P := ⟨h.1, fun a ha hp => by
  obtain ⟨a3, a4, a5, a6, a7⟩ := h.2 a ha hp
  exact ⟨a3, fun g' => (u2_ne _ _ (Kp_ne ha hp ho)).trans (a4 g'), a5, a6, a7⟩⟩
theorem Kp_sA {S0 S : PS} {P : Nat → Prop} {o : Nat} {f : Nat → Int32} (h : Kp S0 S P) (ho : P o ∨ o ∉ pL S0) : Kp S0 (sA S o f) P := ⟨h.1, fun a ha hp => by
  obtain ⟨a3, a4, a5, a6, a7⟩ := h.2 a ha hp
  exact ⟨a3, a4, a5, (if_neg (Kp_ne ha hp ho)).trans a6, a7⟩⟩
theorem Kp_sB {S0 S : PS} {P : Nat → Prop} {o : Nat} {f : Nat → Option Nat} (h : Kp S0 S P) (ho : P o ∨ o ∉ pL S0) : Kp S0 (sB S o f) P := ⟨h.1, fun a ha hp => by
  obtain ⟨a3, a4, a5, a6, a7⟩ := h.2 a ha hp
  exact ⟨a3, a4, a5, a6, (if_neg (Kp_ne ha hp ho)).trans a7⟩⟩
theorem Kp_new {S0 S : PS} {P : Nat → Prop} {q : Nat} (h : Kp S0 S P) (hq : q ∉ pL S) : q ∉ pL S0 := fun z => hq (h.1 q z).1
theorem Kp_sO {S0 S : PS} {P : Nat → Prop} {q k : Nat} (h : Kp S0 S P) (hq : q ∉ pL S) : Kp S0 (sO S q k) P := ⟨fun a ha => ⟨List.mem_append_left _ (h.1 a ha).1, (if_neg (fun z : a = q => Kp_new h hq (z ▸ ha))).trans (h.1 a ha).2⟩, fun a ha hp => by
  obtain ⟨a3, a4, a5, a6, a7⟩ := h.2 a ha hp
  have hne : a ≠ q := fun z => Kp_new h hq (z ▸ ha)
  exact ⟨fun g' => (if_neg hne).trans (a3 g'), fun g' => (if_neg hne).trans (a4 g'), a5, a6, a7⟩⟩
theorem Kp_sN {S0 S : PS} {P : Nat → Prop} {q k n : Nat} (h : Kp S0 S P) (hq : q ∉ pL S) : Kp S0 (sN S q k n) P := ⟨fun a ha => ⟨List.mem_append_left _ (h.1 a ha).1, (if_neg (fun z : a = q => Kp_new h hq (z ▸ ha))).trans (h.1 a ha).2⟩, fun a ha hp => by
  obtain ⟨a3, a4, a5, a6, a7⟩ := h.2 a ha hp
  have hne : a ≠ q := fun z => Kp_new h hq (z ▸ ha)
  exact ⟨a3, a4, (if_neg hne).trans a5, (if_neg hne).trans a6, (if_neg hne).trans a7⟩⟩
theorem Kp_at {S S' : PS} {P : Nat → Prop} {a k : Nat} (h : Kp S S' P) (ha : At S a k) : At S' a k := ⟨(h.1 a ha.1).1, ((h.1 a ha.1).2).trans ha.2⟩
theorem Kp_call {S0 S S' : PS} {P : Nat → Prop} {q : Nat} (h : Kp S0 S P) (h2 : Kp S S' (fun a => a = q)) (ho : P q ∨ q ∉ pL S0) : Kp S0 S' P := ⟨fun a ha => ⟨(h2.1 a (h.1 a ha).1).1, ((h2.1 a (h.1 a ha).1).2).trans (h.1 a ha).2⟩, fun a ha hp => by
  obtain ⟨a3, a4, a5, a6, a7⟩ := h.2 a ha hp
  obtain ⟨b3, b4, b5, b6, b7⟩ := h2.2 a (h.1 a ha).1 (Kp_ne ha hp ho)
  exact ⟨fun g => (b3 g).trans (a3 g), fun g => (b4 g).trans (a4 g), b5.trans a5, b6.trans a6, b7.trans a7⟩⟩
/-- an array that a field holds -/
def Fa (S : PS) (m g k n : Nat) : Prop := ∃ q, pR S g m = some q ∧ At S q k ∧ pN S q = n
theorem Fa_keep {S S' : PS} {P : Nat → Prop} {m g k n : Nat} (h : Kp S S' P) (hm : m ∈ pL S) (hp : ¬ P m) (hq : ∀ q, At S q k → ¬ P q) (f : Fa S m g k n) : Fa S' m g k n := by
  obtain ⟨q, h1, h2, h3⟩ := f
  exact ⟨q, ((h.2 m hm hp).2.1 g).trans h1, Kp_at h h2, ((h.2 q h2.1 (hq q h2)).2.2.1).trans h3⟩
theorem Fa_new {S : PS} {m g q k n : Nat} (hm : m ≠ q) : Fa (sR (sN S q k n) g m (some q)) m g k n := ⟨q, u2_same _ _ _ _, At_sR (At_nN _ _ _ _), if_pos rfl⟩
theorem Fa_step {S : PS} {m g q k n g' k' n' : Nat} (hq : q ∉ pL S) (hg : g' ≠ g) (f : Fa S m g' k' n') : Fa (sR (sN S q k n) g m (some q)) m g' k' n' := by
  obtain ⟨q', h1, h2, h3⟩ := f
  exact ⟨q', (u2_nf _ _ hg).trans h1, At_sR (At_sN h2 hq), (if_neg (At_old h2 hq)).trans h3⟩
theorem Fa_sI {S : PS} {m g a g' k' n' : Nat} {v : Int32} (f : Fa S m g' k' n') : Fa (sI S g a v) m g' k' n' := f
/-! ===== fresh objects ===== -/
def PlF (S : PS) (pl : Nat) : Prop := At S pl 3 ∧ pI S 300 pl = (-1) ∧ pI S 301 pl = 0 ∧ Fa S pl 302 14 8
def TpF (S : PS) (t : Nat) : Prop := At S t 10 ∧ pI S 1000 t = 0 ∧ pI S 1002 t = (-1) ∧ Fa S t 1003 13 400
def MxF (S : PS) (t : Nat) : Prop := At S t 2
def StF (S : PS) (t : Nat) : Prop := At S t 8 ∧ (∀ g, g < 807 → pI S g t = 0) ∧ Fa S t 807 14 4 ∧ ∃ mx, pR S 812 t = some mx ∧ MxF S mx
def DrF (S : PS) (t : Nat) : Prop := At S t 1 ∧ pI S 101 t = 0
def FXi (S : PS) (x i : Nat) : Prop := At S x 11 ∧ pI S 1102 x = 0 ∧ pI S 1104 x = 0 ∧ pI S 1110 x = 0 ∧ Fa S x 1100 16 600 ∧ Fa S x 1101 14 10 ∧ Fa S x 1103 18 4 ∧ (∃ t, pR S 1105 x = some t ∧ TpF S t) ∧ (∃ t, pR S 1107 x = some t ∧ StF S t) ∧ (∃ t, pR S 1108 x = some t ∧ DrF S t) ∧ ∃ sh, pR S 1109 x = some sh ∧ At S sh 17 ∧ pN S sh = 16 ∧ ∀ k, k < i → ∃ pl, pB S sh k = some pl ∧ PlF S pl
def FX (S : PS) (x : Nat) : Prop := FXi S x 16
def marr : List (Nat × Nat × Nat) := [(1202, 14, 10), (1203, 14, 10), (1204, 14, 10), (1205, 14, 10), (1206, 14, 10), (1207, 14, 600), (1208, 14, 600), (1209, 14, 600), (1210, 14, 8), (1212, 14, 4), (1213, 14, 4), (1214, 14, 4), (1215, 14, 4), (1216, 14, 4), (1217, 14, 4), (1218, 14, 7200), (1219, 14, 12), (1220, 14, 5), (1221, 14, 60), (1222, 14, 60), (1223, 14, 60), (1224, 14, 240), (1225, 14, 240), (1226, 14, 240), (1227, 13, 400), (1235, 14, 13200), (1236, 14, 158400), (1237, 14, 4), (1239, 14, 41), (1240, 14, 40), (1241, 14, 40), (1242, 14, 40), (1243, 14, 40), (1244, 15, 40), (1248, 14, 4), (1252, 14, 5), (1253, 15, 16), (1254, 14, 16), (1255, 14, 16), (1256, 14, 16), (1257, 14, 128), (1258, 14, 14), (1259, 14, 14), (1260, 14, 14), (1261, 15, 40), (1263, 14, 40), (1264, 14, 40), (1265, 14, 40)]
def FM (S : PS) (m : Nat) : Prop := At S m 12 ∧ (∀ g, g ∈ [1201, 1211, 1228, 1238, 1245, 1246, 1251, 1262] → pI S g m = 0) ∧ pI S 1229 m = (-1) ∧ (∀ x ∈ marr, Fa S m x.1 x.2.1 x.2.2) ∧ (∀ q, pR S 1253 m = some q → ∀ j, pA S q j = 0) ∧ ∀ q, pR S 1239 m = some q → ∀ j, pA S q j = 0
theorem kne {S : PS} {a ka k : Nat} (ha : At S a ka) (hk : k ≠ ka) : ∀ q, At S q k → ¬ (q = a) := fun q hq e => hk (by rw [← hq.2, e, ha.2])
theorem TpF_keep {S S' : PS} {P : Nat → Prop} {t : Nat} (h : Kp S S' P) (h1 : ∀ q, At S q 10 → ¬ P q) (h2 : ∀ q, At S q 13 → ¬ P q) (f : TpF S t) : TpF S' t := ⟨Kp_at h f.1, ((h.2 t f.1.1 (h1 t f.1)).1 1000).trans f.2.1, ((h.2 t f.1.1 (h1 t f.1)).1 1002).trans f.2.2.1, Fa_keep h f.1.1 (h1 t f.1) h2 f.2.2.2⟩
theorem StF_keep {S S' : PS} {P : Nat → Prop} {t : Nat} (h : Kp S S' P) (h1 : ∀ q, At S q 8 → ¬ P q) (h2 : ∀ q, At S q 14 → ¬ P q) (f : StF S t) : StF S' t := by
  obtain ⟨f1, f2, f3, mx, f4, f5⟩ := f
  exact ⟨Kp_at h f1, fun g hg => ((h.2 t f1.1 (h1 t f1)).1 g).trans (f2 g hg), Fa_keep h f1.1 (h1 t f1) h2 f3, mx, ((h.2 t f1.1 (h1 t f1)).2.1 812).trans f4, Kp_at h f5⟩
theorem DrF_keep {S S' : PS} {P : Nat → Prop} {t : Nat} (h : Kp S S' P) (h1 : ∀ q, At S q 1 → ¬ P q) (f : DrF S t) : DrF S' t := ⟨Kp_at h f.1, ((h.2 t f.1.1 (h1 t f.1)).1 101).trans f.2⟩
theorem PlF_keep {S S' : PS} {P : Nat → Prop} {t : Nat} (h : Kp S S' P) (h1 : ∀ q, At S q 3 → ¬ P q) (h2 : ∀ q, At S q 14 → ¬ P q) (f : PlF S t) : PlF S' t := ⟨Kp_at h f.1, ((h.2 t f.1.1 (h1 t f.1)).1 300).trans f.2.1, ((h.2 t f.1.1 (h1 t f.1)).1 301).trans f.2.2.1, Fa_keep h f.1.1 (h1 t f.1) h2 f.2.2.2⟩
theorem FXi_new {S S' : PS} {x i : Nat} (h : Kp S S' (fun _ => False)) (f : FXi S x i) : FXi S' x i := by
  obtain ⟨f1, f2, f3, f4, f5, f6, f7, ⟨t1, g1, g2⟩, ⟨t2, g3, g4⟩, ⟨t3, g5, g6⟩, sh, g7, g8, g9, g10⟩ := f
  have z : ∀ k q, At S q k → ¬ (fun _ : Nat => False) q := fun _ _ _ w => w
  have hx := h.2 x f1.1 (fun w => w)
  have hs := h.2 sh g8.1 (fun w => w)
  refine ⟨Kp_at h f1, (hx.1 _).trans f2, (hx.1 _).trans f3, (hx.1 _).trans f4, Fa_keep h f1.1 (fun w => w) (z 16) f5, Fa_keep h f1.1 (fun w => w) (z 14) f6, Fa_keep h f1.1 (fun w => w) (z 18) f7, ⟨t1, (hx.2.1 _).trans g1, TpF_keep h (z 10) (z 13) g2⟩, ⟨t2, (hx.2.1 _).trans g3, StF_keep h (z 8) (z 14) g4⟩, ⟨t3, (hx.2.1 _).trans g5, DrF_keep h (z 1) g6⟩, sh, (hx.2.1 _).trans g7, Kp_at h g8, hs.2.2.1.trans g9, fun k hk => ?_⟩
  obtain ⟨pl, j1, j2⟩ := g10 k hk
  exact ⟨pl, (congrFun hs.2.2.2.2 k).trans j1, PlF_keep h (z 3) (z 14) j2⟩
theorem FXi_put {S : PS} {x i sh q : Nat} (f : FXi S x i) (hsh : pR S 1109 x = some sh) (hq : PlF S q) : FXi (sB S sh (va_up (pB S sh) i (some q))) x (i + 1) := by
  obtain ⟨f1, f2, f3, f4, f5, f6, f7, f8, f9, f10, sh', g7, g8, g9, g10⟩ := f
  rw [hsh] at g7
  cases g7
  refine ⟨f1, f2, f3, f4, f5, f6, f7, f8, f9, f10, sh, hsh, g8, g9, fun k hk => ?_⟩
  have e1 : pB (sB S sh (va_up (pB S sh) i (some q))) sh = va_up (pB S sh) i (some q) := if_pos rfl
  rw [e1]
  by_cases h : k = i
  · subst h
    exact ⟨q, if_pos rfl, hq⟩
  · obtain ⟨pl, j1, j2⟩ := g10 k (by omega)
    exact ⟨pl, (if_neg h).trans j1, j2⟩
theorem FXi_step {S S2 : PS} {x i sh q : Nat} (f : FXi S x i) (hq : q ∉ pL S) (hk : Kp (sO S q 3) S2 (fun a => a = q)) (hp : PlF S2 q) (hsh : pR S2 1109 x = some sh) : FXi (sB S2 sh (va_up (pB S2 sh) i (some q))) x (i + 1) :=
  FXi_put (FXi_new (Kp_call (Kp_sO (Kp_rf S _) hq) hk (Or.inr hq)) f) hsh hp
def FaA (S : PS) (m : Nat) (xs : List (Nat × Nat × Nat)) : Prop := ∀ x ∈ xs, Fa S m x.1 x.2.1 x.2.2
theorem FaA_nil (S : PS) (m : Nat) : FaA S m [] := fun x h => by cases h
theorem FaA_cons {S : PS} {m g k n : Nat} {xs : List (Nat × Nat × Nat)} (h : Fa S m g k n) (h2 : FaA S m xs) : FaA S m ((g, k, n) :: xs) := fun x hx => by
  rcases List.mem_cons.mp hx with e | e
  · rw [e]; exact h
  · exact h2 x e
theorem FaA_sN {S : PS} {m q k n : Nat} {xs : List (Nat × Nat × Nat)} (h : FaA S m xs) (hq : q ∉ pL S) : FaA (sN S q k n) m xs := fun x hx => by
  obtain ⟨q', h1, h2, h3⟩ := h x hx
  exact ⟨q', h1, At_sN h2 hq, (if_neg (At_old h2 hq)).trans h3⟩
theorem FaA_sR {S : PS} {m g : Nat} {v : Option Nat} {xs : List (Nat × Nat × Nat)} (h : FaA S m xs) (hg : xs.all (fun x => x.1 != g) = true) : FaA (sR S g m v) m xs := fun x hx => by
  obtain ⟨q', h1, h2, h3⟩ := h x hx
  have hne : x.1 ≠ g := by
    have := List.all_eq_true.mp hg x hx
    simpa using this
  exact ⟨q', (u2_nf _ _ hne).trans h1, h2, h3⟩
theorem lt16_le {v : Int32} (h : v < 16) : v ≤ 15 := by
  have := Int32.lt_iff_toInt_lt.mp h
  have e1 : (16 : Int32).toInt = 16 := by decide
  have e2 : (15 : Int32).toInt = 15 := by decide
  exact Int32.le_iff_toInt_le.mpr (by omega)
theorem le15_lt {v : Int32} (h : v ≤ 15) : v < 16 := by
  have := Int32.le_iff_toInt_le.mp h
  have e1 : (16 : Int32).toInt = 16 := by decide
  have e2 : (15 : Int32).toInt = 15 := by decide
  exact Int32.lt_iff_toInt_lt.mpr (by omega)
theorem vp_lt16 {v : Int32} {n : Nat} (h : vp_in v n) : v.toNatClampNeg < n := Nat.not_le.mp fun q => h (Or.inr q)
theorem pos_of {v : Int32} (h : (1 : Int32) ≤ v) : (0 : Int32) < v := by
  have := Int32.le_iff_toInt_le.mp h
  have e1 : (1 : Int32).toInt = 1 := by decide
  have e2 : (0 : Int32).toInt = 0 := by decide
  exact Int32.lt_iff_toInt_lt.mpr (by omega)
theorem wi_nat {v : Int32} (h : wi v 1 60) : ∃ N : Nat, N ≤ 60 ∧ v = nI N := by
  have h1 := Int32.le_iff_toInt_le.mp h.1
  have h2 := Int32.le_iff_toInt_le.mp h.2
  have e1 : (1 : Int32).toInt = 1 := by decide
  have e2 : (60 : Int32).toInt = 60 := by decide
  refine ⟨v.toInt.toNat, by omega, Int32.toInt_inj.mp ?_⟩
  rw [nI_toInt (by omega)]; omega
theorem vp_lot {v : Int32} {i : Nat} (e : v = 0 + nI i) (h : i < 600) : vp_in v 600 := by
  rw [e, Int32.zero_add]; exact vp_in_nI h (by omega)
theorem wi_nat8 {v : Int32} (h : wi v 0 8) : ∃ N : Nat, N ≤ 8 ∧ v = nI N := by
  have h1 := Int32.le_iff_toInt_le.mp h.1
  have h2 := Int32.le_iff_toInt_le.mp h.2
  have e1 : (0 : Int32).toInt = 0 := by decide
  have e2 : (8 : Int32).toInt = 8 := by decide
  refine ⟨v.toInt.toNat, by omega, Int32.toInt_inj.mp ?_⟩
  rw [nI_toInt (by omega)]; omega
theorem wi_nat15 {v : Int32} (h : wi v 0 15) : ∃ N : Nat, N ≤ 15 ∧ v = nI N := by
  have h1 := Int32.le_iff_toInt_le.mp h.1
  have h2 := Int32.le_iff_toInt_le.mp h.2
  have e1 : (0 : Int32).toInt = 0 := by decide
  have e2 : (15 : Int32).toInt = 15 := by decide
  refine ⟨v.toInt.toNat, by omega, Int32.toInt_inj.mp ?_⟩
  rw [nI_toInt (by omega)]; omega
theorem vp_w128 {a v w : Int32} {i : Nat} (h : wi a 0 15) (hi : i < 8) (e : w = v + nI i) (e2 : v = 8 * a) : vp_in w 128 := by
  obtain ⟨n, hn, ea⟩ := wi_nat15 h
  rw [e, e2, ea, show (8 : Int32) = nI 8 from rfl, pk_mul, nI_add]
  exact vp_in_nI (by omega) (by omega)
theorem one_of {k : Int32} (h : wi k 0 2) (h0 : ¬ k = 0) (h2 : ¬ k = 2) : k = 1 := by
  have h1 := Int32.le_iff_toInt_le.mp h.1
  have h3 := Int32.le_iff_toInt_le.mp h.2
  have e0 : (0 : Int32).toInt = 0 := by decide
  have e1 : (1 : Int32).toInt = 1 := by decide
  have e2 : (2 : Int32).toInt = 2 := by decide
  have n0 : k.toInt ≠ 0 := fun q => h0 (Int32.toInt_inj.mp (by rw [q]; rfl))
  have n2 : k.toInt ≠ 2 := fun q => h2 (Int32.toInt_inj.mp (by rw [q]; rfl))
  exact Int32.toInt_inj.mp (by omega)
theorem eq_of_nn {a b : Int32} (h : ¬ a ≠ b) : a = b := Classical.not_not.mp h
theorem FaA_sI {S : PS} {m g a : Nat} {v : Int32} {xs : List (Nat × Nat × Nat)} (h : FaA S m xs) : FaA (sI S g a v) m xs := fun x hx => h x hx
theorem FaA_sA {S : PS} {m a : Nat} {f : Nat → Int32} {xs : List (Nat × Nat × Nat)} (h : FaA S m xs) : FaA (sA S a f) m xs := fun x hx => h x hx
theorem FaA_sB {S : PS} {m a : Nat} {f : Nat → Option Nat} {xs : List (Nat × Nat × Nat)} (h : FaA S m xs) : FaA (sB S a f) m xs := fun x hx => h x hx
/-! ===== calls that throw: the class's, and the law's that catch ===== -/
def Zs (A : Nat → Prop) (U : State) (H : Heap) : Prop := vx_Zq Bundle.tN "UNASSIGNED_STACK" Bundle.steD A U H ∧ vx_Zq Bundle.tN "SUPPRESSED_SENTINEL" Bundle.listD A U H
def Px (G : va_G) (cy : Nat → ClassId) (S : PS) (sz : Nat) (k : Nat) (tx : String) (sa : Nat) : State → Prop := fun U => Pw G cy S sz U ∧ Zs (AS S sz) U U.heap ∧ vk_R RX11 k tx sa U
theorem px_blind {G : va_G} {cy : Nat → ClassId} {S : PS} {av : List Value} {sz k sa : Nat} {tx : String} : FrameBlind (va_Pc av (Px G cy S sz k tx sa)) := fun a U g mk q => by
  obtain ⟨q0, q1, ⟨z1, z2⟩, q3⟩ := q
  have b := (pw_blind (G := G) (cy := cy) (S := S) (av := av) (sz := sz)) a U g mk ⟨q0, q1⟩
  exact ⟨b.1, b.2, ⟨vx_Zq.moved (u := U) (U := U.calling g mk a) (Vm.Alike.refl U.vm) z1, vx_Zq.moved (u := U) (U := U.calling g mk a) (Vm.Alike.refl U.vm) z2⟩, vk_R.same (u := U) (U := U.calling g mk a) rfl q3⟩
section XROWS
variable {p : Program} {l : Launch} {e : Env} {R : Room} {s : State} {m : MethodId} {args : Array Value} {below : List Frame} {meth : Method} {c : Code} {H : Heap} {locs : List Loc} {cells slots : Nat} {Q : State → Prop}
variable {cc : ByteArray} {pc nL : Nat} {ls : Array Slot} {rest : List Value} {Ts : List Cond} {own ref : String} {G : va_G} {cy : Nat → ClassId} {A : Nat → Prop} {S : PS} {a k index sa : Nat} {tx : String}
theorem zs_at (X : Cx p c cc nL s args Ts own m G cy A) (hw : Wd G cy A s.heap S H locs) (hZ : Zs A s s.heap) {U : State} (hU : U.heap = H) (hW : s.WarmedH U.vm) : Zs (AS S H.size) U U.heap := by
  rw [hU]
  exact ⟨((hZ.1.kept (fun a h1 h2 => hw.2.2.2.1 a h1 h2)).narrow (as_in X hw)).moved hW.alike, ((hZ.2.kept (fun a h1 h2 => hw.2.2.2.1 a h1 h2)).narrow (as_in X hw)).moved hW.alike⟩
theorem px_of (X : Cx p c cc nL s args Ts own m G cy A) (hw : Wd G cy A s.heap S H locs) (hZ : Zs A s s.heap) (hR : vk_R RX11 k tx sa s) {U : State} (hU : U.heap = H) (hW : s.WarmedH U.vm) : Px G cy S H.size k tx sa U := ⟨pw_of X hw hU hW, zs_at X hw hZ hU hW, vk_R.warm hW hR⟩
theorem pre_SX (X : Cx p c cc nL s args Ts own m G cy A) (hw : Wd G cy A s.heap S H locs) (hZ : Zs A s s.heap) (hR : vk_R RX11 k tx sa s) (av : List Value) : PreS s H (va_Pc av (Px G cy S H.size k tx sa)) av := ⟨px_blind, fun U hU hW => ⟨rfl, px_of X hw hZ hR hU hW⟩⟩
theorem pre_VX (X : Cx p c cc nL s args Ts own m G cy A) (hw : Wd G cy A s.heap S H locs) (hZ : Zs A s s.heap) (hR : vk_R RX11 k tx sa s) (av : List Value) {b k' : Nat} (ha : At S b k') (hk : k' < 13) {q : vw_C} (hc : vwCl[k']? = some q) : PreV s H q.1 b (va_Pc (.ref b :: av) (Px G cy S H.size k tx sa)) av := by
  obtain ⟨n, hn⟩ := pl_get (cy := cy) ha.1
  rw [PF_O ha.2 hk] at hn
  exact ⟨px_blind, va_recv X.2.2.2.2.2.1 hw.1 hc hn, fun U hU hW => ⟨rfl, px_of X hw hZ hR hU hW⟩⟩
end XROWS
