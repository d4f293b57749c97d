def eR0 : List Nat := [500, 502]
/-! ===== which cocoons a run can touch: those in the cells A of its pot's rows ===== -/
def RH (A : Nat → Prop) (S : PS) (c : Nat) : Prop := ∃ q i, A q ∧ pB S q i = some c
def AO (A : Nat → Prop) (S : PS) : Prop := ∀ q, A q → At S q 16
def nzS (v : Int32) : Prop := v.toInt ≠ 0 ∧ v.toInt ≠ 5
def Tch (A : Nat → Prop) (S T : PS) : Prop := Ext S T ∧ (∀ c, RH A T c → RH A S c) ∧ ∀ c, At S c 0 → pI T 3 c = pI S 3 c ∨ (RH A S c ∧ nzS (pI T 3 c))
/-- a cocoon comes into a row -/
def AddC (A : Nat → Prop) (S T : PS) (c : Nat) : Prop := ∀ d, RH A T d → RH A S d ∨ d = c
/-- only one cocoon's stand may be another -/
def Sto (S T : PS) (c : Nat) : Prop := ∀ d, At S d 0 → pI T 3 d = pI S 3 d ∨ (d = c ∧ nzS (pI T 3 d))
def PIn (A : Nat → Prop) (S : PS) (x : Nat) : Prop := ∀ R q, (pR S 400 x = some R ∨ pR S 401 x = some R ∨ pR S 402 x = some R) → pR S 501 R = some q → A q
theorem AO_ext {A : Nat → Prop} {S T : PS} (h : Ext S T) (ho : AO A S) : AO A T := fun q hq => h.at (ho q hq)
theorem Tch_rf (A : Nat → Prop) (S : PS) : Tch A S S := ⟨Ext.rf S, fun _ h => h, fun _ _ => Or.inl rfl⟩
theorem Tch_to {A : Nat → Prop} {S T U : PS} (h : Tch A S T) (hE : Ext T U) (hB : ∀ q, A q → pB U q = pB T q) (hI : ∀ c, At T c 0 → pI U 3 c = pI T 3 c) : Tch A S U := ⟨h.1.trans hE, fun c ⟨q, i, h1, h2⟩ => h.2.1 c ⟨q, i, h1, by rw [← hB q h1]; exact h2⟩, fun c hc => by rw [hI c (h.1.at hc)]; exact h.2.2 c hc⟩
theorem Tch_sI {A : Nat → Prop} {S T U : PS} {g a : Nat} {v : Int32} (h : Tch A S T) (e : U = sI T g a v) (hg : 3 ≠ g) : Tch A S U := by
  subst e
  exact Tch_to h (Ext.rf T) (fun _ _ => rfl) (fun c _ => pI_sI_nf hg)
theorem Tch_s3 {A : Nat → Prop} {S T U : PS} {a : Nat} {v : Int32} (h : Tch A S T) (e : U = sI T 3 a v) (hr : RH A S a) (hv : nzS v) : Tch A S U := by
  subst e
  refine ⟨h.1, h.2.1, fun c hc => ?_⟩
  by_cases e : c = a
  · subst e; exact Or.inr ⟨hr, by rw [pI_sI_same]; exact hv⟩
  · rw [pI_sI_ne e]; exact h.2.2 c hc
theorem Tch_sR {A : Nat → Prop} {S T U : PS} {g a : Nat} {v : Option Nat} (h : Tch A S T) (e : U = sR T g a v) : Tch A S U := by
  subst e
  exact Tch_to h (Ext.rf T) (fun _ _ => rfl) (fun _ _ => rfl)
theorem Tch_sA {A : Nat → Prop} {S T U : PS} {a : Nat} {f : Nat → Int32} (h : Tch A S T) (e : U = sA T a f) : Tch A S U := by
  subst e
  exact Tch_to h (Ext.rf T) (fun _ _ => rfl) (fun _ _ => rfl)
theorem pB_up {S : PS} {b q n i c : Nat} {v : Option Nat} (h : pB (sB S b (va_up (pB S b) n v)) q i = some c) : pB S q i = some c ∨ v = some c := by
  by_cases e : q = b
  · subst e
    rw [show pB (sB S q (va_up (pB S q) n v)) q = va_up (pB S q) n v from if_pos rfl] at h
    unfold va_up at h
    split at h
    · exact Or.inr h
    · exact Or.inl h
  · rw [show pB (sB S b (va_up (pB S b) n v)) q = pB S q from if_neg e] at h
    exact Or.inl h
theorem Tch_sB {A : Nat → Prop} {S T U : PS} {b n c : Nat} (h : Tch A S T) (e : U = sB T b (va_up (pB T b) n (some c))) (hr : RH A S c) : Tch A S U := by
  subst e
  refine ⟨h.1, fun d ⟨q, i, h1, h2⟩ => ?_, h.2.2⟩
  rcases pB_up h2 with h3 | h3
  · exact h.2.1 d ⟨q, i, h1, h3⟩
  · cases h3; exact hr
theorem Tch_sBn {A : Nat → Prop} {S T U : PS} {b n : Nat} (h : Tch A S T) (e : U = sB T b (va_up (pB T b) n none)) : Tch A S U := by
  subst e
  refine ⟨h.1, fun d ⟨q, i, h1, h2⟩ => ?_, h.2.2⟩
  rcases pB_up h2 with h3 | h3
  · exact h.2.1 d ⟨q, i, h1, h3⟩
  · cases h3
theorem Tch_fr {A : Nat → Prop} {M : List Nat} {S T U : PS} (h : Tch A S T) (hF : Fr M T U) (ho : AO A S) (h3 : M.contains 3 = false) (h6 : M.contains 10016 = false) : Tch A S U := Tch_to h hF.1 (fun q hq => hF.B' (k := 16) h6 (h.1.at (ho q hq))) (fun c hc => hF.I' h3 hc rfl)
theorem Tch_tr {A : Nat → Prop} {S T U : PS} (h : Tch A S T) (h' : Tch A T U) : Tch A S U := ⟨h.1.trans h'.1, fun c hc => h.2.1 c (h'.2.1 c hc), fun c hc => by
  rcases h'.2.2 c (h.1.at hc) with e | ⟨e1, e2⟩
  · rw [e]; exact h.2.2 c hc
  · exact Or.inr ⟨h.2.1 c e1, e2⟩⟩
theorem Tch_add {A : Nat → Prop} {M : List Nat} {S T U : PS} {c : Nat} (h : Tch A S T) (hF : Fr M T U) (h3 : M.contains 3 = false) (ha : AddC A T U c) (hr : RH A S c) : Tch A S U := ⟨h.1.trans hF.1, fun d hd => by
  rcases ha d hd with e | e
  · exact h.2.1 d e
  · rw [e]; exact hr, fun d hd => by rw [hF.I' h3 (h.1.at hd) rfl]; exact h.2.2 d hd⟩
theorem Tch_sto {A : Nat → Prop} {M : List Nat} {S T U : PS} {c : Nat} (h : Tch A S T) (hF : Fr M T U) (ho : AO A S) (h6 : M.contains 10016 = false) (hs : Sto T U c) (hr : RH A S c) : Tch A S U := ⟨h.1.trans hF.1, fun d ⟨q, i, h1, h2⟩ => h.2.1 d ⟨q, i, h1, by rw [← hF.B' (k := 16) h6 (h.1.at (ho q h1))]; exact h2⟩, fun d hd => by
  rcases hs d (h.1.at hd) with e | ⟨e1, e2⟩
  · rw [e]; exact h.2.2 d hd
  · exact Or.inr ⟨by rw [e1]; exact hr, e2⟩⟩
theorem AddC_of {A : Nat → Prop} {S T U : PS} {b n c : Nat} (hB : ∀ q, A q → pB T q = pB S q) (e : U = sB T b (va_up (pB T b) n (some c))) : AddC A S U c := fun d ⟨q, i, h1, h2⟩ => by
  subst e
  rcases pB_up h2 with h3 | h3
  · exact Or.inl ⟨q, i, h1, by rw [← hB q h1]; exact h3⟩
  · cases h3; exact Or.inr rfl
theorem AddC_rf {A : Nat → Prop} {S : PS} {c : Nat} : AddC A S S c := fun _ h => Or.inl h
theorem AddC_sI {A : Nat → Prop} {S T U : PS} {g a c : Nat} {v : Int32} (h : AddC A S T c) (e : U = sI T g a v) : AddC A S U c := by
  subst e
  exact h
theorem Sto_rf (S : PS) (c : Nat) : Sto S S c := fun _ _ => Or.inl rfl
theorem Sto_sI {S T U : PS} {g a c : Nat} {v : Int32} (h : Sto S T c) (e : U = sI T g a v) (hg : 3 ≠ g) : Sto S U c := by
  subst e
  intro d hd
  rw [pI_sI_nf hg]; exact h d hd
theorem Sto_s3 {S T U : PS} {c : Nat} {v : Int32} (h : Sto S T c) (e : U = sI T 3 c v) (hv : nzS v) : Sto S U c := by
  subst e
  intro d hd
  by_cases q : d = c
  · subst q; exact Or.inr ⟨rfl, by rw [pI_sI_same]; exact hv⟩
  · rw [pI_sI_ne q]; exact h d hd
theorem RH_fr {A : Nat → Prop} {M : List Nat} {T U : PS} {c : Nat} (hF : Fr M T U) (ho : AO A T) (h6 : M.contains 10016 = false) (h : RH A T c) : RH A U c := by
  obtain ⟨q, i, h1, h2⟩ := h
  exact ⟨q, i, h1, by rw [hF.B' (k := 16) h6 (ho q h1)]; exact h2⟩
