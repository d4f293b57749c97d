/-! ===== pots: what ties class and reference ===== -/
def DC (S : PS) (x : Nat) : Nat → Prop := fun c => ∃ l i : Nat, (l : Int) < (pI S 1102 x).toInt ∧ (i : Int) < zA S x 1101 l ∧ mB S x 1100 (60 * l + i) = some c
def NuP (S : PS) (x : Nat) (ν : Nat → Nat) : Prop := ∀ l i c : Nat, (l : Int) < (pI S 1102 x).toInt → (i : Int) < zA S x 1101 l → mB S x 1100 (60 * l + i) = some c → ν c = 60 * l + i
def PlT (S : PS) (x mo : Nat) : Prop := ∀ l i c : Nat, (l : Int) < (pI S 1102 x).toInt → (i : Int) < zA S x 1101 l → mB S x 1100 (60 * l + i) = some c → zA S mo 1208 (60 * l + i) = (pI S 4 c).toInt
theorem dc_at {S : PS} {x : Nat} (hG : GX S) (hx : At S x 11) : ∀ c, DC S x c → At S c 0 := fun c ⟨l, i, _, _, h⟩ => mB_at hG hx h
theorem nu_inj {S : PS} {x : Nat} {ν : Nat → Nat} (hG : GX S) (hx : At S x 11) (h : NuP S x ν) : Inj ν (DC S x) := fun c d ⟨l, i, h1, h2, h3⟩ ⟨l', i', k1, k2, k3⟩ e => by
  have a := h l i c h1 h2 h3
  have b := h l' i' d k1 k2 k3
  have b1 := il60 hG hx l
  have b2 := il60 hG hx l'
  rw [a, b] at e
  have e1 : l = l' := by omega
  have e2 : i = i' := by omega
  subst e1
  subst e2
  rw [h3] at k3
  exact Option.some.inj k3
theorem nu_lt {S : PS} {x : Nat} {ν : Nat → Nat} {c : Nat} (hG : GX S) (hx : At S x 11) (h : NuP S x ν) (hc : DC S x c) : ν c < 600 := by
  obtain ⟨l, i, h1, h2, h3⟩ := hc
  have a := h l i c h1 h2 h3
  have b1 := il60 hG hx l
  have b2 := gI_11_1102 hG hx
  omega
/-! ===== strands among the ties ===== -/
def StO (S : PS) (P Q : Nat) : Prop := pR S 403 P ≠ pR S 403 Q ∧ ∀ G H, pR S 403 P = some G → pR S 403 Q = some H → pR S 900 G ≠ pR S 900 H ∧ pR S 901 G ≠ pR S 901 H
theorem StO_sy {S : PS} {P Q : Nat} (h : StO S P Q) : StO S Q P := ⟨fun e => h.1 e.symm, fun G H hG hH => ⟨fun e => (h.2 H G hH hG).1 e.symm, fun e => (h.2 H G hH hG).2 e.symm⟩⟩
theorem sg_at {S : PS} {P G : Nat} (hG : GX S) (hP : At S P 4) (h : pR S 403 P = some G) : At S G 29 := by
  obtain ⟨c, k1, k2⟩ := gQ_4_403 hG hP
  rw [k1] at h
  cases h
  exact k2
theorem StO_fr {M : List Nat} {S T : PS} {P Q : Nat} (hG : GX S) (hP : At S P 4) (hQ : At S Q 4) (hF : Fr M S T) (hM : ([403, 900, 901] : List Nat).all (fun g => !M.contains g) = true) (h : StO S P Q) : StO T P Q := by
  refine ⟨?_, fun G H h1 h2 => ?_⟩
  · rw [frR hF (g := 403) (allc hM (by decide)) hP.1, frR hF (g := 403) (allc hM (by decide)) hQ.1]
    exact h.1
  · rw [frR hF (g := 403) (allc hM (by decide)) hP.1] at h1
    rw [frR hF (g := 403) (allc hM (by decide)) hQ.1] at h2
    have a := sg_at hG hP h1
    have b := sg_at hG hQ h2
    rw [frR hF (g := 900) (allc hM (by decide)) a.1, frR hF (g := 900) (allc hM (by decide)) b.1, frR hF (g := 901) (allc hM (by decide)) a.1, frR hF (g := 901) (allc hM (by decide)) b.1]
    exact h.2 G H h1 h2
theorem mt_nu {S : PS} {D : Nat → Prop} {g : List Mt} {ν ν' : Nat → Nat} (h : MtD S D g) (e : ∀ c, D c → ν' c = ν c) : g.map (mtN ν') = g.map (mtN ν) := List.map_congr_left (fun m hm => List.map_congr_left (fun z hz => by
  show (ν' z.1, z.2) = (ν z.1, z.2)
  rw [e z.1 (h m hm z hz).1]))
theorem skN_nu {S : PS} {D : Nat → Prop} {K : Nat} {L : List Sk} {ν ν' : Nat → Nat} (h : SkV S D K L) (e : ∀ c, D c → ν' c = ν c) : L.map (skN ν') = L.map (skN ν) := List.map_congr_left (fun s hs => by
  obtain ⟨k, hk⟩ := List.mem_iff_getElem?.mp hs
  obtain ⟨q, -, g, f, -, -, -, h5, -⟩ := h.2 k s hk
  show (s.1, s.2.1, s.2.2.1, s.2.2.2.map (mtN ν')) = (s.1, s.2.1, s.2.2.1, s.2.2.2.map (mtN ν))
  rw [mt_nu h5.2.2.1 e])
def sk12 : List Nat := [1238, 1235, 1236, 1239, 1240, 1241, 1242, 10914, 10934, 10994, 11014, 11034, 11054]
theorem SkW_fr {M : List Nat} {S T : PS} {x : Nat} {L : List Sk} (hG : GX S) (hx : At S x 12) (hF : Fr M S T) (hM : sk12.all (fun g => !M.contains g) = true) (h : SkW S x L) : SkW T x L := SkW_n (congrArg Int32.toInt (hF.I' (g := 1238) (allc hM (by decide)) hx rfl)) ⟨zA_fr hF hx (ex3 (gQ_12_1235 hG hx)) (allc hM (by decide)) (allc hM (by decide)), zA_fr hF hx (ex3 (gQ_12_1236 hG hx)) (allc hM (by decide)) (allc hM (by decide)), zA_fr hF hx (ex3 (gQ_12_1239 hG hx)) (allc hM (by decide)) (allc hM (by decide)), zA_fr hF hx (ex3 (gQ_12_1240 hG hx)) (allc hM (by decide)) (allc hM (by decide)), zA_fr hF hx (ex3 (gQ_12_1241 hG hx)) (allc hM (by decide)) (allc hM (by decide)), zA_fr hF hx (ex3 (gQ_12_1242 hG hx)) (allc hM (by decide)) (allc hM (by decide))⟩ h
theorem StV_nil {S : PS} {D : Nat → Prop} {G : Nat} (hG : GX S) (hg : At S G 29) (h2 : pI S 902 G = 0) (h3 : pI S 903 G = 0) : StV S D G [] := by
  obtain ⟨f, f1, -⟩ := gQ_29_900 hG hg
  obtain ⟨e, e1, -⟩ := gQ_29_901 hG hg
  exact ⟨by rw [h2]; rfl, h3, fun m hm => absurd hm List.not_mem_nil, f, e, f1, e1, fun k m hk => by cases hk⟩
/-- what else ties class and reference -/
def EXdw (S : PS) (x K mo : Nat) : Prop := ∃ Dw, pR S 1108 x = some Dw ∧ pI S 101 Dw = pI S 1251 mo ∧ pI S 102 Dw = pI S 1249 mo ∧ pI S 103 Dw = pI S 1250 mo ∧ ∀ j : Nat, (j : Int) < (pI S 101 Dw).toInt → zA S Dw 100 j = zA S mo 1252 j
theorem dw_of {S : PS} {x K : Nat} (hG : GX S) (hx : At S x 11) (h : pR S 1108 x = some K) : At S K 1 := by
  obtain ⟨c, k1, k2⟩ := gQ_11_1108 hG hx
  rw [k1] at h
  cases h
  exact k2
theorem EXdw_fr {M : List Nat} {S T : PS} {x K mo : Nat} (hG : GX S) (hx : At S x 11) (hK : At S K 8) (hm : At S mo 12) (hF : Fr M S T) (hM : ([1108, 101, 102, 103, 100, 10074, 1249, 1250, 1251, 1252, 11254] : List Nat).all (fun g => !M.contains g) = true) (h : EXdw S x K mo) : EXdw T x K mo := by
  obtain ⟨Dw, h1, h2, h3, h4, h5⟩ := h
  have hD := dw_of hG hx h1
  have e1 : pI T 101 Dw = pI S 101 Dw := hF.I' (g := 101) (allc hM (by decide)) hD rfl
  refine ⟨Dw, hF.R' (allc hM (by decide)) hx h1, ?_, ?_, ?_, ?_⟩
  · rw [e1, hF.I' (g := 1251) (allc hM (by decide)) hm rfl]; exact h2
  · rw [hF.I' (g := 102) (allc hM (by decide)) hD rfl, hF.I' (g := 1249) (allc hM (by decide)) hm rfl]; exact h3
  · rw [hF.I' (g := 103) (allc hM (by decide)) hD rfl, hF.I' (g := 1250) (allc hM (by decide)) hm rfl]; exact h4
  · rw [e1, zA_frc hF hD (ex3 (gQ_1_100 hG hD)) (allc hM (by decide)) (allc hM (by decide)), zA_fr hF hm (ex3 (gQ_12_1252 hG hm)) (allc hM (by decide)) (allc hM (by decide))]
    exact h5
def exL : List Nat := [1108, 101, 102, 103, 100, 10074, 1249, 1250, 1251, 1252, 11254]
def ExT (S : PS) (x K mo : Nat) : Prop := EXdw S x K mo ∧ True
theorem ExT_fr {M : List Nat} {S T : PS} {x K mo : Nat} (hG : GX S) (hx : At S x 11) (hK : At S K 8) (hm : At S mo 12) (hF : Fr M S T) (hM : exL.all (fun g => !M.contains g) = true) (h : ExT S x K mo) : ExT T x K mo := ⟨EXdw_fr hG hx hK hm hF (sub_all hM (by decide)) h.1, trivial⟩
def exS : List Nat := [1108, 101, 102, 103, 100, 10074, 1249, 1250, 1251, 1252, 11254]
theorem ExT_le {M : List Nat} {S T : PS} {x K mo : Nat} (hG : GX S) (hx : At S x 11) (hK : At S K 8) (hm : At S mo 12) (hF : Fr M S T) (hM : exS.all (fun g => !M.contains g) = true) (hle : (pI S 800 K).toInt ≤ (pI T 800 K).toInt) (h : ExT S x K mo) : ExT T x K mo := ⟨EXdw_fr hG hx hK hm hF (sub_all hM (by decide)) h.1, trivial⟩
def exLdw : List Nat := []
theorem ExT_dw {M : List Nat} {S T : PS} {x K mo : Nat} (hG : GX S) (hx : At S x 11) (hK : At S K 8) (hm : At S mo 12) (hF : Fr M S T) (hM : exLdw.all (fun g => !M.contains g) = true) (hE : EXdw T x K mo) (h : ExT S x K mo) : ExT T x K mo := ⟨hE, trivial⟩
def skB : List Nat := skL ++ [800, 808, 10019, 902, 903] ++ sgL ++ sk12
def skA : List Nat := skB ++ exL
/-! the rows and programs of pots are their own -/
def rowG : List Nat := [400, 401, 402]
def RuO (S : PS) (ρ σ : Nat) : Prop := ρ ≠ σ ∧ ∀ g g', g ∈ ruG → g' ∈ ruG → ∀ a, pR S g ρ = some a → pR S g' σ ≠ some a
theorem RuO_sy {S : PS} {ρ σ : Nat} (h : RuO S ρ σ) : RuO S σ ρ := ⟨fun e => h.1 e.symm, fun g g' hg hg' a ha hb => h.2 g' g hg' hg a hb ha⟩
theorem RuO_to {S T : PS} {ρ σ : Nat} (h1 : ∀ g, g ∈ ruG → pR T g ρ = pR S g ρ) (h2 : ∀ g, g ∈ ruG → pR T g σ = pR S g σ) (h : RuO S ρ σ) : RuO T ρ σ := ⟨h.1, fun g g' hg hg' a ha => by
  rw [h1 g hg] at ha
  rw [h2 g' hg']
  exact h.2 g g' hg hg' a ha⟩
def POw (S : PS) (P Q : Nat) : Prop := P ≠ Q ∧ (∀ g g', g ∈ rowG → g' ∈ rowG → ∀ R R', pR S g P = some R → pR S g' Q = some R' → R ≠ R' ∧ pR S 501 R ≠ pR S 501 R') ∧ StO S P Q ∧ ∀ ρ σ, pR S 409 P = some ρ → pR S 409 Q = some σ → RuO S ρ σ
def OW (S : PS) (x : Nat) : Prop := (∀ p q P Q : Nat, (p : Int) < (pI S 1104 x).toInt → (q : Int) < (pI S 1104 x).toInt → p ≠ q → mB S x 1103 p = some P → mB S x 1103 q = some Q → POw S P Q) ∧ ∃ rh, pR S 1106 x = some rh ∧ RuD S rh ∧ ∀ p P ρ : Nat, (p : Int) < (pI S 1104 x).toInt → mB S x 1103 p = some P → pR S 409 P = some ρ → RuD S ρ ∧ RuO S ρ rh
def owL : List Nat := [400, 401, 402, 403, 409, 501, 601, 602, 603, 604, 605, 606, 900, 901]
theorem rowg {S : PS} {P R g : Nat} (hG : GX S) (hP : At S P 4) (hg : g ∈ rowG) (h : pR S g P = some R) : At S R 5 := by
  simp only [rowG, List.mem_cons, List.not_mem_nil, or_false] at hg
  rcases hg with e | e | e <;> subst e
  · exact row_at hG hP (Or.inl h)
  · exact row_at hG hP (Or.inr (Or.inl h))
  · exact row_at hG hP (Or.inr (Or.inr h))
theorem ow_c {M : List Nat} (hM : owL.all (fun g => !M.contains g) = true) {g : Nat} (hg : g ∈ rowG) : M.contains g = false := allc hM (by
  simp only [rowG, List.mem_cons, List.not_mem_nil, or_false] at hg
  rcases hg with e | e | e <;> subst e <;> decide)
theorem sp_at {S : PS} {x rh : Nat} (hG : GX S) (hx : At S x 11) (h : pR S 1106 x = some rh) : At S rh 6 := by
  obtain ⟨c, k1, k2⟩ := gQ_11_1106 hG hx
  rw [k1] at h
  cases h
  exact k2
theorem st_at {S : PS} {x K : Nat} (hG : GX S) (hx : At S x 11) (h : pR S 1107 x = some K) : At S K 8 := by
  obtain ⟨c, k1, k2⟩ := gQ_11_1107 hG hx
  rw [k1] at h
  cases h
  exact k2
theorem sd_at {S : PS} {P G : Nat} (hG : GX S) (hP : At S P 4) (h : pR S 403 P = some G) : At S G 29 := by
  obtain ⟨c, k1, k2⟩ := gQ_4_403 hG hP
  rw [k1] at h
  cases h
  exact k2
theorem POw_fr {M : List Nat} {S T : PS} {P Q : Nat} (hG : GX S) (hP : At S P 4) (hQ : At S Q 4) (hF : Fr M S T) (hM : owL.all (fun g => !M.contains g) = true) (h : POw S P Q) : POw T P Q := by
  obtain ⟨h1, h2, h3, h4⟩ := h
  refine ⟨h1, fun g g' hg hg' R R' hR hR' => ?_, ?_, fun ρ σ hρ hσ => ?_⟩
  · rw [frR hF (ow_c hM hg) hP.1] at hR
    rw [frR hF (ow_c hM hg') hQ.1] at hR'
    rw [frR hF (g := 501) (allc hM (by decide)) (rowg hG hP hg hR).1, frR hF (g := 501) (allc hM (by decide)) (rowg hG hQ hg' hR').1]
    exact h2 g g' hg hg' R R' hR hR'
  · exact StO_fr hG hP hQ hF (sub_all hM (by decide)) h3
  · rw [frR hF (g := 409) (allc hM (by decide)) hP.1] at hρ
    rw [frR hF (g := 409) (allc hM (by decide)) hQ.1] at hσ
    exact RuO_to (ru_pR hF (ru_at hG hP hρ) (sub_all hM (by decide))) (ru_pR hF (ru_at hG hQ hσ) (sub_all hM (by decide))) (h4 ρ σ hρ hσ)
theorem OW_fr {M : List Nat} {S T : PS} {x : Nat} (hG : GX S) (hx : At S x 11) (hF : Fr M S T) (hM : ([1104, 1103, 10018, 1106, 400, 401, 402, 403, 409, 501, 601, 602, 603, 604, 605, 606, 900, 901] : List Nat).all (fun g => !M.contains g) = true) (h : OW S x) : OW T x := by
  have eB : mB T x 1103 = mB S x 1103 := mB_frc hF hx (ex3 (gQ_11_1103 hG hx)) (allc hM (by decide)) (allc hM (by decide))
  have hM2 : owL.all (fun g => !M.contains g) = true := sub_all hM (by decide)
  have e4 : pI T 1104 x = pI S 1104 x := hF.I' (allc hM (by decide)) hx rfl
  obtain ⟨h1, rh, h2, h3, h4⟩ := h
  unfold OW
  rw [eB, e4]
  refine ⟨fun p q P Q a b c d e => POw_fr hG (pot_at hG hx d) (pot_at hG hx e) hF hM2 (h1 p q P Q a b c d e), rh, hF.R' (allc hM (by decide)) hx h2, RuD_fr hF (sp_at hG hx h2) (sub_all hM2 (by decide)) h3, fun p P ρ a b c => ?_⟩
  have hP := pot_at hG hx b
  rw [frR hF (g := 409) (allc hM (by decide)) hP.1] at c
  obtain ⟨k1, k2⟩ := h4 p P ρ a b c
  have hr := ru_at hG hP c
  exact ⟨RuD_fr hF hr (sub_all hM2 (by decide)) k1, RuO_to (ru_pR hF hr (sub_all hM2 (by decide))) (ru_pR hF (sp_at hG hx h2) (sub_all hM2 (by decide))) k2⟩
/-! a pot's own state, in both -/
def PV (S : PS) (D : Nat → Prop) (P R0 R1 R2 G : Nat) (A : Pt) : Prop := RowIs S R0 (qb A) 600 ∧ RowIs S R1 (qe A) 12 ∧ RowIs S R2 (ql A) 600 ∧ pI S 405 P = qst A ∧ pI S 406 P = qse A ∧ StV S D G (qg A) ∧ pI S 407 P = qdr A ∧ pI S 408 P = qtk A ∧ InD D A
def cA (S : PS) (A : Pt) (sk : List Sk) : Pt := pmk (qb A) (qe A) (ql A) (qst A) (qse A) (qg A) (fun c => pI S 4 c) (fun c => pI S 3 c) sk [] (qdr A) (qtk A)
def rnA (ν : Nat → Nat) (A : Pt) : Pt := pmk ((qb A).map ν) ((qe A).map ν) ((ql A).map ν) (qst A) (qse A) ((qg A).map (mtN ν)) (qpl A) (qsd A) [] [] (qdr A) (qtk A)
def cB (S : PS) (mo : Nat) (ν : Nat → Nat) (A : Pt) (sk : List Sk) : Pt := pmk ((qb A).map ν) ((qe A).map ν) ((ql A).map ν) (qst A) (qse A) ((qg A).map (mtN ν)) (fun n => mA S mo 1208 n) (fun n => mA S mo 1207 n) (sk.map (skN ν)) [] (qdr A) (qtk A)
theorem PV_to {S : PS} {D : Nat → Prop} {P R0 R1 R2 G K : Nat} {A : Pt} {sk : List Sk} (h : PV S D P R0 R1 R2 G A) (h8 : SkV S D K sk) : PotV S D P R0 R1 R2 G K (cA S A sk) := by
  obtain ⟨a0, a1, a2, a3, a4, a5, a6, a7, a8⟩ := h
  exact ⟨a0, a1, a2, a3, a4, a5, a6, a7, h8, fun c _ => ⟨rfl, rfl⟩, a8⟩
theorem PV_of {S : PS} {D : Nat → Prop} {P R0 R1 R2 G K : Nat} {A : Pt} (h : PotV S D P R0 R1 R2 G K A) : PV S D P R0 R1 R2 G A := by
  obtain ⟨a0, a1, a2, a3, a4, a5, a6, a7, -, -, a8⟩ := h
  exact ⟨a0, a1, a2, a3, a4, a5, a6, a7, a8⟩
theorem InD_to {D D' : Nat → Prop} {A : Pt} (hD : ∀ c, D c → D' c) (h : InD D A) : InD D' A := fun c hc => hD c (h c hc)
def pvL : List Nat := [500, 501, 502, 10016, 405, 406, 407, 408] ++ sgL
theorem PV_fr {M : List Nat} {S T : PS} {D D' : Nat → Prop} {P R0 R1 R2 G : Nat} {A : Pt} (hG : GX S) (hP : At S P 4) (hR : PotR S P R0 R1 R2 G) (hF : Fr M S T) (hM : pvL.all (fun g => !M.contains g) = true) (hD : ∀ c, D c → D' c) (h : PV S D P R0 R1 R2 G A) : PV T D' P R0 R1 R2 G A := by
  obtain ⟨a0, a1, a2, a3, a4, a5, a6, a7, a8⟩ := h
  obtain ⟨r0, r1, r2, r3, -⟩ := hR
  refine ⟨RowIs_fr hG (row_at hG hP (Or.inl r0)) hF (sub_all hM (by decide)) a0, RowIs_fr hG (row_at hG hP (Or.inr (Or.inl r1))) hF (sub_all hM (by decide)) a1, RowIs_fr hG (row_at hG hP (Or.inr (Or.inr r2))) hF (sub_all hM (by decide)) a2, ?_, ?_, ?_, ?_, ?_, InD_to hD a8⟩
  · rw [hF.I' (g := 405) (allc hM (by decide)) hP rfl]; exact a3
  · rw [hF.I' (g := 406) (allc hM (by decide)) hP rfl]; exact a4
  · exact StV_up hD (StV_fr hG (sd_at hG hP r3) hF (sub_all hM (by decide)) a5)
  · rw [hF.I' (g := 407) (allc hM (by decide)) hP rfl]; exact a6
  · rw [hF.I' (g := 408) (allc hM (by decide)) hP rfl]; exact a7
/-- another pot's step leaves it -/
theorem PV_X {S T : PS} {D D' : Nat → Prop} {P R0 R1 R2 G Q Q0 Q1 Q2 H : Nat} {A : Pt} (hG : GX S) (hP : At S P 4) (hQ : At S Q 4) (hR : PotR S P R0 R1 R2 G) (hR' : PotR S Q Q0 Q1 Q2 H) (ho : POw S P Q) (hX : PotX S T P R0 R1 R2 G) (hC : CoS S T) (hD : ∀ c, D c → D' c) (h : PV S D Q Q0 Q1 Q2 H A) : PV T D' Q Q0 Q1 Q2 H A := by
  obtain ⟨a0, a1, a2, a3, a4, a5, a6, a7, a8⟩ := h
  obtain ⟨r0, r1, r2, r3, -⟩ := hR
  obtain ⟨s0, s1, s2, s3, -⟩ := hR'
  obtain ⟨o1, o2, o3, -⟩ := ho
  obtain ⟨x1, x2, x3, x4⟩ := hX
  have row : ∀ g R L n, g ∈ rowG → pR S g Q = some R → RowIs S R L n → RowIs T R L n := fun g R L n hg hr hL => by
    have k0 := o2 400 g (by decide) hg R0 R r0 hr
    have k1 := o2 401 g (by decide) hg R1 R r1 hr
    have k2 := o2 402 g (by decide) hg R2 R r2 hr
    exact x2 R (rowg hG hQ hg hr) (fun e => k0.1 e.symm) (fun e => k1.1 e.symm) (fun e => k2.1 e.symm) (fun e => k0.2 e.symm) (fun e => k1.2 e.symm) (fun e => k2.2 e.symm) L n hL
  refine ⟨row 400 _ _ _ (by decide) s0 a0, row 401 _ _ _ (by decide) s1 a1, row 402 _ _ _ (by decide) s2 a2, ?_, ?_, ?_, ?_, ?_, InD_to hD a8⟩
  · rw [x3 Q hQ (fun e => o1 e.symm) 405 (by decide)]; exact a3
  · rw [x3 Q hQ (fun e => o1 e.symm) 406 (by decide)]; exact a4
  · exact StV_up hD (StV_X hG (sd_at hG hP r3) (sd_at hG hQ s3) x4 hC (fun e => o3.1 (by rw [r3, s3, e])) (o3.2 _ _ r3 s3) a5)
  · rw [x3 Q hQ (fun e => o1 e.symm) 407 (by decide)]; exact a6
  · rw [x3 Q hQ (fun e => o1 e.symm) 408 (by decide)]; exact a7
def pwH : List Nat := [1218, 1219, 1214, 1215, 1216, 1217, 1237, 1235, 1236]
def PW (S : PS) (x : Nat) (p : Int) (A : Pt) : Prop := RowR S x (3 * p + 0).toNat (qb A) ∧ RowR S x (3 * p + 1).toNat (qe A) ∧ RowR S x (3 * p + 2).toNat (ql A) ∧ zA S x 1215 p.toNat = (qst A).toInt ∧ zA S x 1214 p.toNat = (qse A).toInt ∧ GrW S x p.toNat (qg A) ∧ zA S x 1216 p.toNat = (qdr A).toInt ∧ zA S x 1217 p.toNat = (qtk A).toInt
theorem PW_of {S : PS} {x : Nat} {p : Int} {A : Pt} (h : PotW S x p A) : PW S x p A := by
  obtain ⟨a0, a1, a2, a3, a4, a5, a6, a7, -⟩ := h
  exact ⟨a0, a1, a2, a3, a4, a5, a6, a7⟩
theorem PW_to {S : PS} {mo : Nat} {p : Int} {A : Pt} {ν : Nat → Nat} {sk : List Sk} (h : PW S mo p (rnA ν A)) (h8 : SkW S mo (sk.map (skN ν))) : PotW S mo p (cB S mo ν A sk) := by
  obtain ⟨a0, a1, a2, a3, a4, a5, a6, a7⟩ := h
  refine ⟨a0, a1, a2, a3, a4, a5, a6, a7, ?_, fun c _ => ⟨?_, ?_⟩⟩
  · exact h8
  · rw [zA_eq]; rfl
  · rw [zA_eq]; rfl
theorem PW_ren {S : PS} {x : Nat} {p : Int} {A B : Pt} {ν : Nat → Nat} {D : Nat → Prop} (hR : Ren ν D A B) (h : PW S x p B) : PW S x p (rnA ν A) := by
  obtain ⟨a0, a1, a2, a3, a4, a5, a6, a7⟩ := h
  obtain ⟨h0, h1, h2, h3, h4, h5, -, -, -, h9, h10, -⟩ := hR
  rw [h0] at a0
  rw [h1] at a1
  rw [h2] at a2
  rw [h3] at a3
  rw [h4] at a4
  rw [h5] at a5
  rw [h9] at a6
  rw [h10] at a7
  exact ⟨a0, a1, a2, a3, a4, a5, a6, a7⟩
theorem PW_eq {S T : PS} {x : Nat} {p : Int} {A : Pt} (e : ∀ g, g ∈ pwH → zA T x g = zA S x g) (h : PW S x p A) : PW T x p A := by
  obtain ⟨a0, a1, a2, a3, a4, a5, a6, a7⟩ := h
  have e8 := e 1218 (by decide)
  have e9 := e 1219 (by decide)
  exact ⟨RowR_eq a0 e8 e9, RowR_eq a1 e8 e9, RowR_eq a2 e8 e9, by rw [e 1215 (by decide)]; exact a3, by rw [e 1214 (by decide)]; exact a4, GrW_eq (e 1235 (by decide)) (e 1236 (by decide)) (by rw [e 1237 (by decide)]) a5, by rw [e 1216 (by decide)]; exact a6, by rw [e 1217 (by decide)]; exact a7⟩
def pwL : List Nat := [1218, 1219, 1214, 1215, 1216, 1217, 1237, 10574, 10594, 10494, 10514, 10534, 10554, 10954, 1235, 1236, 10914, 10934]
theorem pw_same {M : List Nat} {S T : PS} {mo : Nat} (hG : GX S) (hm : At S mo 12) (hF : Fr M S T) (hM : pwL.all (fun g => !M.contains g) = true) : ∀ g, g ∈ pwH → zA T mo g = zA S mo g := fun g hg => by
  simp only [pwH, List.mem_cons, List.not_mem_nil, or_false] at hg
  rcases hg with e | e | e | e | e | e | e | e | e <;> subst e
  · exact zA_fr hF hm (ex3 (gQ_12_1218 hG hm)) (allc hM (by decide)) (allc hM (by decide))
  · exact zA_fr hF hm (ex3 (gQ_12_1219 hG hm)) (allc hM (by decide)) (allc hM (by decide))
  · exact zA_fr hF hm (ex3 (gQ_12_1214 hG hm)) (allc hM (by decide)) (allc hM (by decide))
  · exact zA_fr hF hm (ex3 (gQ_12_1215 hG hm)) (allc hM (by decide)) (allc hM (by decide))
  · exact zA_fr hF hm (ex3 (gQ_12_1216 hG hm)) (allc hM (by decide)) (allc hM (by decide))
  · exact zA_fr hF hm (ex3 (gQ_12_1217 hG hm)) (allc hM (by decide)) (allc hM (by decide))
  · exact zA_fr hF hm (ex3 (gQ_12_1237 hG hm)) (allc hM (by decide)) (allc hM (by decide))
  · exact zA_fr hF hm (ex3 (gQ_12_1235 hG hm)) (allc hM (by decide)) (allc hM (by decide))
  · exact zA_fr hF hm (ex3 (gQ_12_1236 hG hm)) (allc hM (by decide)) (allc hM (by decide))
theorem PW_X {S T : PS} {x p q : Nat} {A : Pt} (hX : PwX S T x (p : Int)) (hn : q ≠ p) (h : PW S x (q : Int) A) : PW T x (q : Int) A := by
  obtain ⟨a0, a1, a2, a3, a4, a5, a6, a7⟩ := h
  obtain ⟨x1, x2, x3⟩ := hX
  have hj : (q : Int).toNat ≠ (p : Int).toNat := by omega
  exact ⟨x1 _ _ (by omega) a0, x1 _ _ (by omega) a1, x1 _ _ (by omega) a2, by rw [x2 1215 (by decide) _ hj]; exact a3, by rw [x2 1214 (by decide) _ hj]; exact a4, x3 _ _ hj a5, by rw [x2 1216 (by decide) _ hj]; exact a6, by rw [x2 1217 (by decide) _ hj]; exact a7⟩
/-! the ties -/
def PT1 (S : PS) (x mo : Nat) (ν : Nat → Nat) (p P R0 R1 R2 G : Nat) (A : Pt) (R : List Ru) : Prop := mB S x 1103 p = some P ∧ PotR S P R0 R1 R2 G ∧ PV S (DC S x) P R0 R1 R2 G A ∧ RuS S P R ∧ PW S mo (p : Int) (rnA ν A) ∧ RuR S mo (p : Int) R ∧ (IvQ (pI S 411 P).toInt A ∧ 1 ≤ (pI S 411 P).toInt) ∧ pI S 410 P = Int32.ofInt (p : Int) ∧ pI S 404 P = mA S mo 1212 p ∧ pI S 411 P = mA S mo 1213 p
def PT (S : PS) (x mo : Nat) (ν : Nat → Nat) (p : Nat) : Prop := ∃ P R0 R1 R2 G A R, PT1 S x mo ν p P R0 R1 R2 G A R
def peG : List Nat := [1214, 1215, 1216, 1217, 1237, 1220]
def PE (S : PS) (mo p : Nat) : Prop := (∀ k : Nat, k < 3 → zA S mo 1219 (3 * p + k) = 0) ∧ ∀ g, g ∈ peG → zA S mo g p = 0
def TPw (S : PS) (x mo : Nat) (ν : Nat → Nat) (K : Nat) (sk : List Sk) : Prop := NuP S x ν ∧ pR S 1107 x = some K ∧ (SkV S (DC S x) K sk ∧ SkW S mo (sk.map (skN ν)) ∧ ExT S x K mo) ∧ PlT S x mo ∧ (∀ p : Nat, (p : Int) < (pI S 1104 x).toInt → PT S x mo ν p) ∧ (∀ p : Nat, (pI S 1104 x).toInt ≤ (p : Int) → p < 4 → PE S mo p) ∧ OW S x
def TP (S : PS) (x mo : Nat) : Prop := ∃ ν K sk, TPw S x mo ν K sk
theorem TP_wit {S : PS} {x mo : Nat} (h : TP S x mo) (p : Int) : ∃ ν K sk P R0 R1 R2 G A R, TPw S x mo ν K sk ∧ (0 ≤ p → p < (pI S 1104 x).toInt → PT1 S x mo ν p.toNat P R0 R1 R2 G A R) := by
  obtain ⟨ν, K, sk, hw⟩ := h
  by_cases c : 0 ≤ p ∧ p < (pI S 1104 x).toInt
  · obtain ⟨P, R0, R1, R2, G, A, R, hp⟩ := hw.2.2.2.2.1 p.toNat (by omega)
    exact ⟨ν, K, sk, P, R0, R1, R2, G, A, R, hw, fun _ _ => hp⟩
  · exact ⟨ν, K, sk, 0, 0, 0, 0, 0, pmk [] [] [] 0 0 [] (fun _ => 0) (fun _ => 0) [] [] 0 0, [], hw, fun a b => absurd ⟨a, b⟩ c⟩
theorem dc_to {M : List Nat} {S T : PS} {x : Nat} (hG : GX S) (hx : At S x 11) (hF : Fr M S T) (hM : szC.all (fun g => !M.contains g) = true) : ∀ c, DC S x c → DC T x c := fun c ⟨l, i, h1, h2, h3⟩ => by
  obtain ⟨a1, a2, a3⟩ := sz_same hG hx hF hM
  exact ⟨l, i, by rw [a1]; exact h1, by rw [a2]; exact h2, by rw [a3]; exact h3⟩
theorem NuP_to {M : List Nat} {S T : PS} {x : Nat} {ν : Nat → Nat} (hG : GX S) (hx : At S x 11) (hF : Fr M S T) (hM : szC.all (fun g => !M.contains g) = true) (h : NuP S x ν) : NuP T x ν := fun l i c h1 h2 h3 => by
  obtain ⟨a1, a2, a3⟩ := sz_same hG hx hF hM
  rw [a1] at h1
  rw [a2] at h2
  rw [a3] at h3
  exact h l i c h1 h2 h3
def pcL : List Nat := [1103, 10018, 400, 401, 402, 403, 501, 409, 600, 601, 602, 603, 604, 605, 606, 10034, 10134, 411, 410, 404]
def prL9 : List Nat := [1212, 1213, 10454, 10474, 1220, 1221, 1222, 1223, 1224, 1225, 1226, 10614, 10634, 10654, 10674, 10694, 10714, 10734]
theorem PT1_c {M : List Nat} {S T : PS} {x mo p P R0 R1 R2 G : Nat} {ν : Nat → Nat} {A B : Pt} {R : List Ru} (hG : GX S) (hx : At S x 11) (hm : At S mo 12) (hF : Fr M S T) (hM : pcL.all (fun g => !M.contains g) = true) (hM2 : prL9.all (fun g => !M.contains g) = true) (h : PT1 S x mo ν p P R0 R1 R2 G A R) (hV : PV T (DC T x) P R0 R1 R2 G B) (hW : PW T mo (p : Int) (rnA ν B)) (hI : IvQ (pI S 411 P).toInt B) : PT1 T x mo ν p P R0 R1 R2 G B R := by
  obtain ⟨a0, a1, -, a3, -, a5, ⟨-, a6⟩, a7, a8, a9⟩ := h
  have hP := pot_at hG hx a0
  have e1 : pI T 411 P = pI S 411 P := hF.I' (allc hM (by decide)) hP rfl
  refine ⟨?_, PotR_fr hG hP hF (sub_all hM (by decide)) a1, hV, RuS_fr hG hP hF (sub_all hM (by decide)) a3, hW, RuR_fr hG hm hF (sub_all hM2 (by decide)) a5, ?_, ?_, ?_, ?_⟩
  · rw [mB_frc hF hx (ex3 (gQ_11_1103 hG hx)) (allc hM (by decide)) (allc hM (by decide))]; exact a0
  · rw [e1]; exact ⟨hI, a6⟩
  · rw [hF.I' (g := 410) (allc hM (by decide)) hP rfl]; exact a7
  · rw [hF.I' (g := 404) (allc hM (by decide)) hP rfl, mA_fr (g := 1212) hF hm (ex3 (gQ_12_1212 hG hm)) (allc hM2 (by decide)) (allc hM2 (by decide))]; exact a8
  · rw [e1, mA_fr (g := 1213) hF hm (ex3 (gQ_12_1213 hG hm)) (allc hM2 (by decide)) (allc hM2 (by decide))]; exact a9
def ptL : List Nat := szC ++ pcL ++ prL9 ++ pvL ++ pwL
theorem PT1_fr {M : List Nat} {S T : PS} {x mo p P R0 R1 R2 G : Nat} {ν : Nat → Nat} {A : Pt} {R : List Ru} (hG : GX S) (hx : At S x 11) (hm : At S mo 12) (hF : Fr M S T) (hM : ptL.all (fun g => !M.contains g) = true) (h : PT1 S x mo ν p P R0 R1 R2 G A R) : PT1 T x mo ν p P R0 R1 R2 G A R := PT1_c hG hx hm hF (sub_all hM (by decide)) (sub_all hM (by decide)) h (PV_fr hG (pot_at hG hx h.1) h.2.1 hF (sub_all hM (by decide)) (dc_to hG hx hF (sub_all hM (by decide))) h.2.2.1) (PW_eq (pw_same hG hm hF (sub_all hM (by decide))) h.2.2.2.2.1) h.2.2.2.2.2.2.1.1
theorem PE_eq {S T : PS} {mo p : Nat} (e9 : zA T mo 1219 = zA S mo 1219) (e : ∀ g, g ∈ peG → zA T mo g = zA S mo g) (h : PE S mo p) : PE T mo p := ⟨fun k hk => by rw [e9]; exact h.1 k hk, fun g hg => by rw [e g hg]; exact h.2 g hg⟩
theorem pe_same {M : List Nat} {S T : PS} {mo : Nat} (hG : GX S) (hm : At S mo 12) (hF : Fr M S T) (hM : pwL.all (fun g => !M.contains g) = true) (h0 : M.contains 1220 = false) (h0' : M.contains 10614 = false) : ∀ g, g ∈ peG → zA T mo g = zA S mo g := fun g hg => by
  by_cases e : g = 1220
  · subst e
    exact zA_fr hF hm (ex3 (gQ_12_1220 hG hm)) h0 h0'
  · refine pw_same hG hm hF hM g ?_
    simp only [peG, List.mem_cons, List.not_mem_nil, or_false] at hg
    rcases hg with z | z | z | z | z | z <;> subst z
    · decide
    · decide
    · decide
    · decide
    · decide
    · exact absurd rfl e
def tpM : List Nat := szC ++ pcL ++ prL9 ++ pvL ++ pwL ++ [1104, 1106, 1107, 800, 1238, 4, 1208, 10374] ++ skB
def tpL : List Nat := tpM ++ exL
theorem PlT_fr {M : List Nat} {S T : PS} {x mo : Nat} (hG : GX S) (hx : At S x 11) (hm : At S mo 12) (hF : Fr M S T) (hM : ([1102, 1101, 10054, 1100, 10036, 4, 1208, 10374] : List Nat).all (fun g => !M.contains g) = true) (h : PlT S x mo) : PlT T x mo := fun l i c h1 h2 h3 => by
  obtain ⟨a1, a2, a3⟩ := sz_same hG hx hF (sub_all hM (by decide))
  rw [a1] at h1
  rw [a2] at h2
  rw [a3] at h3
  rw [zA_fr (g := 1208) hF hm (ex3 (gQ_12_1208 hG hm)) (allc hM (by decide)) (allc hM (by decide)), hF.I' (g := 4) (allc hM (by decide)) (mB_at hG hx h3) rfl]
  exact h l i c h1 h2 h3
theorem TPw_fx {M : List Nat} {S T : PS} {x mo K : Nat} {ν : Nat → Nat} {sk : List Sk} (hG : GX S) (hx : At S x 11) (hm : At S mo 12) (hF : Fr M S T) (hM : tpM.all (fun g => !M.contains g) = true) (hX : ExT T x K mo) (h : TPw S x mo ν K sk) : TPw T x mo ν K sk := by
  obtain ⟨h1, h2, ⟨h3, h4⟩, h5, h6, h7, h8⟩ := h
  have e4 : pI T 1104 x = pI S 1104 x := hF.I' (allc hM (by decide)) hx rfl
  refine ⟨NuP_to hG hx hF (sub_all hM (by decide)) h1, hF.R' (allc hM (by decide)) hx h2, ⟨?_, ?_⟩, PlT_fr hG hx hm hF (sub_all hM (by decide)) h5, fun p hp => ?_, fun p hp hq => ?_, OW_fr hG hx hF (sub_all hM (by decide)) h8⟩
  · exact SkV_up (dc_to hG hx hF (sub_all hM (by decide))) (SkV_fr hG (st_at hG hx h2) hF (sub_all hM (by decide)) h3)
  · exact ⟨SkW_fr hG hm hF (sub_all hM (by decide)) h4.1, hX⟩
  · rw [e4] at hp
    obtain ⟨P, R0, R1, R2, G, A, R, hp⟩ := h6 p hp
    exact ⟨P, R0, R1, R2, G, A, R, PT1_fr hG hx hm hF (sub_all hM (by decide)) hp⟩
  · rw [e4] at hp
    exact PE_eq (pw_same hG hm hF (sub_all hM (by decide)) 1219 (by decide)) (pe_same hG hm hF (sub_all hM (by decide)) (allc hM (by decide)) (allc hM (by decide))) (h7 p hp hq)
theorem TPw_fr {M : List Nat} {S T : PS} {x mo K : Nat} {ν : Nat → Nat} {sk : List Sk} (hG : GX S) (hx : At S x 11) (hm : At S mo 12) (hF : Fr M S T) (hM : tpL.all (fun g => !M.contains g) = true) (h : TPw S x mo ν K sk) : TPw T x mo ν K sk := TPw_fx hG hx hm hF (sub_all hM (fun g hg => List.mem_append_left _ hg)) (ExT_fr hG hx (st_at hG hx h.2.1) hm hF (sub_all hM (fun g hg => List.mem_append_right _ hg)) h.2.2.1.2.2) h
theorem TP_fr {M : List Nat} {S T : PS} {x mo : Nat} (hG : GX S) (hx : At S x 11) (hm : At S mo 12) (hF : Fr M S T) (hM : tpL.all (fun g => !M.contains g) = true) (h : TP S x mo) : TP T x mo := by
  obtain ⟨ν, K, sk, h⟩ := h
  exact ⟨ν, K, sk, TPw_fr hG hx hm hF hM h⟩
/-! ===== environments ===== -/
def EC (S : PS) (K P : Nat) : En := (fun c => pI S 2 c, fun c p => fcI (pI S 8 c) (pI S 2 c) p, fun c p => brI (pI S 7 c) (pI S 9 c) (pI S 1 c) p, pI S 801 K, pI S 410 P, pI S 404 P, pI S 411 P)
theorem EC_is (S : PS) (D : Nat → Prop) (P K : Nat) : EnC S D P K (EC S K P) := ⟨fun c _ => ⟨rfl, fun _ => rfl, fun _ => Iff.rfl⟩, rfl, rfl, rfl, rfl⟩
noncomputable def ER (S : PS) (mo p : Nat) : En := (fun n => Int32.ofInt (lenZ S mo (n : Int)), fun n q => fcI (bsI (mA S mo 1203 ((n : Int) / 60).toNat) (mA S mo 1204 ((n : Int) / 60).toNat) (Int32.ofInt ((n : Int) % 60))) (Int32.ofInt (lenZ S mo (n : Int))) q, fun n q => brI (mA S mo 1203 ((n : Int) / 60).toNat) (mA S mo 1206 ((n : Int) / 60).toNat) (Int32.ofInt ((n : Int) % 60)) q, pI S 1245 mo, Int32.ofInt (p : Int), mA S mo 1212 p, mA S mo 1213 p)
theorem oi_len {S : PS} {mo : Nat} (hG : GX S) (hm : At S mo 12) (c : Int) : (Int32.ofInt (lenZ S mo c)).toInt = lenZ S mo c := by
  have a := lenZ_ge S mo c
  have b := lenZ_le hG hm c
  rw [Int32.toInt_ofInt]
  exact bm_id (by omega) (by omega)
theorem div100 (a : Int32) : (a / 100).toInt < 2147483647 := by
  rw [Int32.toInt_div, show (100 : Int32).toInt = 100 by decide]
  have h1 := Int32.toInt_lt a
  have h2 := Int32.le_toInt a
  have h3 : a.toInt.tdiv 100 ≤ 21474836 ∧ -21474836 ≤ a.toInt.tdiv 100 := by
    rcases Int.le_total 0 a.toInt with h | h
    · rw [Int.tdiv_eq_ediv_of_nonneg h]; omega
    · have k := Int.tdiv_eq_ediv_of_nonneg (a := -a.toInt) (b := 100) (by omega)
      rw [Int.neg_tdiv] at k
      omega
  rw [bm_id (by omega) (by omega)]
  omega
theorem ER_is {S : PS} {mo p : Nat} (hG : GX S) (hm : At S mo 12) (th : mA S mo 1210 = thinF) (hp : p < 4) : EnR S mo (p : Int) (ER S mo p) := by
  refine ⟨fun c _ => ⟨oi_len hG hm _, fun q q0 q1 => ?_, fun q => Iff.rfl⟩, rfl, ?_, rfl, rfl⟩
  · have e : efn (ER S mo p) c q = bsI (mA S mo 1203 ((c : Int) / 60).toNat) (mA S mo 1204 ((c : Int) / 60).toNat) (Int32.ofInt ((c : Int) % 60)) * thinF (8 * q.toInt / lenZ S mo (c : Int)).toNat / 100 := by
      show fcI _ (Int32.ofInt (lenZ S mo (c : Int))) q = _
      unfold fcI
      rw [oi_len hG hm, if_pos ⟨q0, q1⟩]
    rw [e]
    refine ⟨?_, div100 _⟩
    rw [fnZ_eq, th]
    rfl
  · show (Int32.ofInt (p : Int)).toInt = (p : Int)
    rw [Int32.toInt_ofInt]
    exact bm_id (by omega) (by omega)
theorem reE {S : PS} {x mo p P K : Nat} {ν : Nat → Nat} (hG : GX S) (hx : At S x 11) (ct : CT S x mo) (hN : NuP S x ν) (hd : pI S 801 K = pI S 1245 mo) (h0 : pI S 410 P = Int32.ofInt (p : Int)) (h4 : pI S 404 P = mA S mo 1212 p) (h1 : pI S 411 P = mA S mo 1213 p) : ReE ν (DC S x) (EC S K P) (ER S mo p) := by
  refine ⟨fun c ⟨l, i, k1, k2, k3⟩ => ?_, hd.symm, h0.symm, h4.symm, h1.symm⟩
  have b1 := il60 hG hx l
  have b2 := gI_11_1102 hG hx
  obtain ⟨c', c1, -, -, c4, c5, c6, c7, c8⟩ := CT_get (l := (l : Int)) (i := (i : Int)) ct (by omega) k1 (by omega) k2 (by omega)
  rw [show (60 * (l : Int) + (i : Int)).toNat = 60 * l + i by omega, k3] at c1
  cases c1
  have eν : ((ν c : Nat) : Int) = 60 * (l : Int) + (i : Int) := by rw [hN l i c k1 k2 k3]; omega
  have el : Int32.ofInt (lenZ S mo ((ν c : Nat) : Int)) = pI S 2 c := by
    rw [eν, ← c5]
    exact Int32.ofInt_toInt _
  have e6 : ((ν c : Nat) : Int) / 60 = (l : Int) := by omega
  have e7 : ((ν c : Nat) : Int) % 60 = (i : Int) := by omega
  refine ⟨el, fun q => ?_, fun q => ?_⟩
  · show fcI (bsI (mA S mo 1203 (((ν c : Nat) : Int) / 60).toNat) (mA S mo 1204 (((ν c : Nat) : Int) / 60).toNat) (Int32.ofInt (((ν c : Nat) : Int) % 60))) (Int32.ofInt (lenZ S mo ((ν c : Nat) : Int))) q = fcI (pI S 8 c) (pI S 2 c) q
    rw [el, e6, e7, ← c7]
  · show brI (mA S mo 1203 (((ν c : Nat) : Int) / 60).toNat) (mA S mo 1206 (((ν c : Nat) : Int) / 60).toNat) (Int32.ofInt (((ν c : Nat) : Int) % 60)) q ↔ brI (pI S 7 c) (pI S 9 c) (pI S 1 c) q
    rw [e6, e7, ← c6, ← c8, ← c4]
theorem ren_cc {S : PS} {x mo : Nat} {ν : Nat → Nat} {A : Pt} {sk : List Sk} (hN : NuP S x ν) (hL : PlT S x mo) (hS : SZ S x mo) (hD : InD (DC S x) A) : Ren ν (DC S x) (cA S A sk) (cB S mo ν A sk) := by
  refine ⟨rfl, rfl, rfl, rfl, rfl, rfl, fun c ⟨l, i, h1, h2, h3⟩ => ?_, rfl, rfl, rfl, rfl, hD⟩
  have a := hL l i c h1 h2 h3
  have b : (pI S 3 c).toInt = zA S mo 1207 (60 * l + i) := hS l i h1 h2 c h3
  rw [zA_eq] at a b
  show mA S mo 1208 (ν c) = pI S 4 c ∧ mA S mo 1207 (ν c) = pI S 3 c
  rw [hN l i c h1 h2 h3]
  exact ⟨Int32.toInt_inj.mp a, Int32.toInt_inj.mp b.symm⟩
/-! what a call asks of the pot -/
theorem wit_A {S : PS} {x mo K P R0 R1 R2 G : Nat} {p : Int} {ν : Nat → Nat} {A : Pt} {R : List Ru} {sk : List Sk} (hw : TPw S x mo ν K sk) (hp : 0 ≤ p → p < (pI S 1104 x).toInt → PT1 S x mo ν p.toNat P R0 R1 R2 G A R) : ∀ Q, 0 ≤ p → p < (pI S 1104 x).toInt → mB S x 1103 p.toNat = some Q → PotA S (DC S x) Q R0 R1 R2 G K (cA S A sk) (EC S K P) R := fun Q h0 h1 hQ => by
  obtain ⟨a0, a1, a2, a3, -⟩ := hp h0 h1
  rw [hQ] at a0
  cases a0
  exact ⟨a1, PV_to a2 hw.2.2.1.1, EC_is S _ _ K, a3⟩
theorem PotW_fr {M : List Nat} {S T : PS} {x : Nat} {p : Int} {A : Pt} (hG : GX S) (hm : At S x 12) (hF : Fr M S T) (hM : ([1218, 1219, 1214, 1215, 1216, 1217, 1237, 10574, 10594, 10494, 10514, 10534, 10554, 10954, 1238, 1207, 1208, 10354, 10374, 1235, 1236, 10914, 10934, 1239, 1240, 1241, 1242, 10994, 11014, 11034, 11054] : List Nat).all (fun g => !M.contains g) = true) (h : PotW S x p A) : PotW T x p A := by
  have h9 := h.2.2.2.2.2.2.2.2
  obtain ⟨a0, a1, a2, a3, a4, a5, a6, a7⟩ := PW_eq (pw_same hG hm hF (sub_all hM (by decide))) (PW_of h)
  refine ⟨a0, a1, a2, a3, a4, a5, a6, a7, ?_, PlZ_eq h9.2 (zA_fr hF hm (ex3 (gQ_12_1208 hG hm)) (allc hM (by decide)) (allc hM (by decide))) (zA_fr hF hm (ex3 (gQ_12_1207 hG hm)) (allc hM (by decide)) (allc hM (by decide)))⟩
  exact SkW_fr hG hm hF (sub_all hM (by decide)) h9.1
def rfL : List Nat := [1218, 1219, 1214, 1215, 1216, 1217, 1237, 10574, 10594, 10494, 10514, 10534, 10554, 10954, 1238, 1207, 1208, 10354, 10374, 1235, 1236, 10914, 10934, 1239, 1240, 1241, 1242, 10994, 11014, 11034, 11054]
theorem wit_W {M : List Nat} {S T : PS} {x mo K P R0 R1 R2 G : Nat} {p : Int} {ν : Nat → Nat} {A : Pt} {R : List Ru} {sk : List Sk} (hG : GX S) (hm : At S mo 12) (hF : Fr M S T) (hM : ([1218, 1219, 1214, 1215, 1216, 1217, 1237, 10574, 10594, 10494, 10514, 10534, 10554, 10954, 1238, 1207, 1208, 10354, 10374, 1235, 1236, 10914, 10934, 1239, 1240, 1241, 1242, 10994, 11014, 11034, 11054] : List Nat).all (fun g => !M.contains g) = true) (h11 : M.contains 1211 = false) (tp : (pI S 1104 x).toInt = (pI S 1211 mo).toInt) (hw : TPw S x mo ν K sk) (hp : 0 ≤ p → p < (pI S 1104 x).toInt → PT1 S x mo ν p.toNat P R0 R1 R2 G A R) : 0 ≤ p → p < (pI T 1211 mo).toInt → PotW T mo p (cB S mo ν A sk) := fun h0 h1 => by
  rw [hF.I' (g := 1211) h11 hm rfl] at h1
  have h := (hp h0 (by omega)).2.2.2.2.1
  rw [Int.toNat_of_nonneg h0] at h
  exact PotW_fr hG hm hF hM (PW_to h hw.2.2.1.2.1)
theorem wit_B {M : List Nat} {S T : PS} {x mo K P R0 R1 R2 G : Nat} {p : Int} {ν : Nat → Nat} {A : Pt} {R : List Ru} {sk : List Sk} (hG : GX S) (hx : At S x 11) (hm : At S mo 12) (hF : Fr M S T) (hM : ([1218, 1219, 1214, 1215, 1216, 1217, 1237, 10574, 10594, 10494, 10514, 10534, 10554, 10954, 1238, 1207, 1208, 10354, 10374, 1235, 1236, 10914, 10934, 1239, 1240, 1241, 1242, 10994, 11014, 11034, 11054] : List Nat).all (fun g => !M.contains g) = true) (h11 : M.contains 1211 = false) (hM2 : enL.all (fun g => !M.contains g) = true) (hM3 : ruL.all (fun g => !M.contains g) = true) (th : mA S mo 1210 = thinF) (tp : (pI S 1104 x).toInt = (pI S 1211 mo).toInt) (hw : TPw S x mo ν K sk) (hp : 0 ≤ p → p < (pI S 1104 x).toInt → PT1 S x mo ν p.toNat P R0 R1 R2 G A R) : 0 ≤ p → p < (pI T 1211 mo).toInt → PwA T mo p (cB S mo ν A sk) (ER S mo p.toNat) R := fun h0 h1 => by
  have hW := wit_W hG hm hF hM h11 tp hw hp h0 h1
  rw [hF.I' (g := 1211) h11 hm rfl] at h1
  have b := gI_11_1104 hG hx
  obtain ⟨-, -, -, -, -, a5, ⟨a6, a7⟩, -, -, a9⟩ := hp h0 (by omega)
  have hE := ER_is (p := p.toNat) hG hm th (by omega)
  rw [Int.toNat_of_nonneg h0] at a5 hE
  refine ⟨hW, EnR_fr hG hm hF hM2 hE, RuR_fr hG hm hF hM3 a5, ?_, ?_⟩
  · show IvQ (mA S mo 1213 p.toNat).toInt _
    rw [← a9]
    exact iv_se (A := rnA ν A) rfl rfl (by
      refine ⟨fun z => a6.1 (List.map_eq_nil_iff.mp z), a6.2.1, a6.2.2⟩)
  · show 1 ≤ (mA S mo 1213 p.toNat).toInt
    rw [← a9]
    exact a7
/-! ===== a step of one pot ===== -/
def m2L : List Nat := szC ++ pcL ++ prL9 ++ pvL ++ [1104, 1106, 1107, 800, 3, 4, 2, 8] ++ skL ++ [808, 10019, 902, 903] ++ exL
def m1L : List Nat := szC ++ pcL ++ prL9 ++ pwL ++ [1104, 1106, 1107, 2, 8, 900, 901] ++ exL
theorem TP_step {M1 M2 : List Nat} {S1 S2 S3 : PS} {x mo K p P R0 R1 R2 G : Nat} {ν : Nat → Nat} {sk : List Sk} {A A' B' : Pt} {R : List Ru} (hG1 : GX S1) (hG2 : GX S2) (hx : At S1 x 11) (hm : At S1 mo 12) (hF1 : Fr M1 S1 S2) (hF2 : Fr M2 S2 S3) (hM1 : m1L.all (fun g => !M1.contains g) = true) (hM2 : m2L.all (fun g => !M2.contains g) = true) (hw : TPw S1 x mo ν K sk) (hp : (p : Int) < (pI S1 1104 x).toInt) (h : PT1 S1 x mo ν p P R0 R1 R2 G A R)
    (hV : PotV S2 (DC S1 x) P R0 R1 R2 G K A') (hX : PotX S1 S2 P R0 R1 R2 G) (hW : PotW S3 mo (p : Int) B') (hY : PwX S2 S3 mo (p : Int)) (hR : Ren ν (DC S1 x) A' B') (hI : IvQ (pI S1 411 P).toInt A') : TPw S3 x mo ν K (qsk A') ∧ SZ S3 x mo := by
  obtain ⟨h1, h2, hsk, h5, h6, h7, h8⟩ := hw
  have hx2 := hF1.at hx
  have hm2 := hF1.at hm
  have hP := pot_at hG1 hx h.1
  have e4 : pI S3 1104 x = pI S1 1104 x := (hF2.I' (allc hM2 (by decide)) hx2 rfl).trans (hF1.I' (allc hM1 (by decide)) hx rfl)
  have d12 := dc_to hG1 hx hF1 (sub_all hM1 (by decide))
  have d23 := dc_to hG2 hx2 hF2 (sub_all hM2 (by decide))
  obtain ⟨a1, a2, a3⟩ := sz_same hG1 hx hF1 (sub_all hM1 (by decide))
  obtain ⟨b1, b2, b3⟩ := sz_same hG2 hx2 hF2 (sub_all hM2 (by decide))
  have hK2 := hF1.R' (allc hM1 (by decide)) hx h2
  have hCo := hV.2.2.2.2.2.2.2.2.2.1
  have hPl := hW.2.2.2.2.2.2.2.2.2
  have key : ∀ l i c : Nat, (l : Int) < (pI S3 1102 x).toInt → (i : Int) < zA S3 x 1101 l → mB S3 x 1100 (60 * l + i) = some c → zA S3 mo 1208 (60 * l + i) = (pI S3 4 c).toInt ∧ zA S3 mo 1207 (60 * l + i) = (pI S3 3 c).toInt := fun l i c k1 k2 k3 => by
    rw [b1, a1] at k1
    rw [b2, a2] at k2
    rw [b3, a3] at k3
    have hc : DC S1 x c := ⟨l, i, k1, k2, k3⟩
    have hc0 := dc_at hG1 hx c hc
    have eν := h1 l i c k1 k2 k3
    obtain ⟨r4, r3⟩ := hR.2.2.2.2.2.2.1 c hc
    obtain ⟨c4, c3⟩ := hCo c hc
    have hlt := nu_lt hG1 hx h1 hc
    obtain ⟨z8, z7⟩ := hPl (ν c) hlt
    rw [eν] at z8 z7 r4 r3
    rw [hF2.I' (g := 4) (allc hM2 (by decide)) (hF1.at hc0) rfl, hF2.I' (g := 3) (allc hM2 (by decide)) (hF1.at hc0) rfl, z8, z7, r4, r3, c4, c3]
    exact ⟨rfl, rfl⟩
  refine ⟨⟨NuP_to hG2 hx2 hF2 (sub_all hM2 (by decide)) (NuP_to hG1 hx hF1 (sub_all hM1 (by decide)) h1), hF2.R' (allc hM2 (by decide)) hx2 hK2, ⟨?_, ?_⟩, fun l i c k1 k2 k3 => (key l i c k1 k2 k3).1, fun q hq => ?_, fun q hq hq4 => ?_, OW_fr hG2 hx2 hF2 (sub_all hM2 (by decide)) (OW_fr hG1 hx hF1 (sub_all hM1 (by decide)) h8)⟩, fun l i k1 k2 c k3 => ((key l i c k1 k2 k3).2).symm⟩
  · exact SkV_up (fun c hc => d23 c (d12 c hc)) (SkV_fr hG2 (st_at hG2 hx2 hK2) hF2 (sub_all hM2 (by decide)) hV.2.2.2.2.2.2.2.2.1)
  · refine ⟨?_, ExT_fr hG2 hx2 (hF1.at (st_at hG1 hx h2)) hm2 hF2 (sub_all hM2 (by decide)) (ExT_fr hG1 hx (st_at hG1 hx h2) hm hF1 (sub_all hM1 (by decide)) hsk.2.2)⟩
    rw [← hR.2.2.2.2.2.2.2.1]
    exact hW.2.2.2.2.2.2.2.2.1
  · rw [e4] at hq
    by_cases e : q = p
    · subst e
      refine ⟨P, R0, R1, R2, G, A', R, ?_⟩
      have hR2 := PotR_fr hG1 hP hF1 (sub_all hM1 (by decide)) h.2.1
      have v3 : PV S3 (DC S3 x) P R0 R1 R2 G A' := PV_fr hG2 (hF1.at hP) hR2 hF2 (sub_all hM2 (by decide)) (fun c hc => d23 c (d12 c hc)) (PV_of hV)
      have w3 : PW S3 mo (q : Int) (rnA ν A') := PW_ren hR (PW_of hW)
      obtain ⟨t0, t1, -, t3, -, t5, ⟨-, t6⟩, t7, t8, t9⟩ := h
      have mB2 : mB S2 x 1103 q = some P := by rw [mB_frc hF1 hx (ex3 (gQ_11_1103 hG1 hx)) (allc hM1 (by decide)) (allc hM1 (by decide))]; exact t0
      have e11 : pI S2 411 P = pI S1 411 P := hF1.I' (allc hM1 (by decide)) hP rfl
      have f11 : pI S3 411 P = pI S2 411 P := hF2.I' (allc hM2 (by decide)) (hF1.at hP) rfl
      refine ⟨?_, PotR_fr hG2 (hF1.at hP) hF2 (sub_all hM2 (by decide)) hR2, v3, RuS_fr hG2 (hF1.at hP) hF2 (sub_all hM2 (by decide)) (RuS_fr hG1 hP hF1 (sub_all hM1 (by decide)) t3), w3, RuR_fr hG2 hm2 hF2 (sub_all hM2 (by decide)) (RuR_fr hG1 hm hF1 (sub_all hM1 (by decide)) t5), ?_, ?_, ?_, ?_⟩
      · rw [mB_frc hF2 hx2 (ex3 (gQ_11_1103 hG2 hx2)) (allc hM2 (by decide)) (allc hM2 (by decide))]; exact mB2
      · rw [f11, e11]; exact ⟨hI, t6⟩
      · rw [hF2.I' (g := 410) (allc hM2 (by decide)) (hF1.at hP) rfl, hF1.I' (g := 410) (allc hM1 (by decide)) hP rfl]; exact t7
      · rw [hF2.I' (g := 404) (allc hM2 (by decide)) (hF1.at hP) rfl, hF1.I' (g := 404) (allc hM1 (by decide)) hP rfl, mA_fr (g := 1212) hF2 hm2 (ex3 (gQ_12_1212 hG2 hm2)) (allc hM2 (by decide)) (allc hM2 (by decide)), mA_fr (g := 1212) hF1 hm (ex3 (gQ_12_1212 hG1 hm)) (allc hM1 (by decide)) (allc hM1 (by decide))]; exact t8
      · rw [f11, e11, mA_fr (g := 1213) hF2 hm2 (ex3 (gQ_12_1213 hG2 hm2)) (allc hM2 (by decide)) (allc hM2 (by decide)), mA_fr (g := 1213) hF1 hm (ex3 (gQ_12_1213 hG1 hm)) (allc hM1 (by decide)) (allc hM1 (by decide))]; exact t9
    · obtain ⟨Q, Q0, Q1, Q2, H, C, RQ, hq1⟩ := h6 q hq
      have hQ := pot_at hG1 hx hq1.1
      have ho := h8.1 p q P Q hp hq (fun z => e z.symm) h.1 hq1.1
      have v2 : PV S2 (DC S2 x) Q Q0 Q1 Q2 H C := PV_X hG1 hP hQ h.2.1 hq1.2.1 ho hX (CoS_fr hF1 (sub_all hM1 (by decide))) d12 hq1.2.2.1
      have w2 : PW S2 mo (q : Int) (rnA ν C) := PW_eq (pw_same hG1 hm hF1 (sub_all hM1 (by decide))) hq1.2.2.2.2.1
      have p2 : PT1 S2 x mo ν q Q Q0 Q1 Q2 H C RQ := PT1_c hG1 hx hm hF1 (sub_all hM1 (by decide)) (sub_all hM1 (by decide)) hq1 v2 w2 hq1.2.2.2.2.2.2.1.1
      exact ⟨Q, Q0, Q1, Q2, H, C, RQ, PT1_c hG2 hx2 hm2 hF2 (sub_all hM2 (by decide)) (sub_all hM2 (by decide)) p2 (PV_fr hG2 (hF1.at hQ) p2.2.1 hF2 (sub_all hM2 (by decide)) d23 v2) (PW_X hY e w2) p2.2.2.2.2.2.2.1.1⟩
  · rw [e4] at hq
    have q2 : PE S2 mo q := PE_eq (pw_same hG1 hm hF1 (sub_all hM1 (by decide)) 1219 (by decide)) (pe_same hG1 hm hF1 (sub_all hM1 (by decide)) (allc hM1 (by decide)) (allc hM1 (by decide))) (h7 q hq hq4)
    refine ⟨fun k hk => ?_, fun g hg => ?_⟩
    · have r := hY.1 (3 * q + k) [] (by omega) ⟨q2.1 k hk, fun j c hj => by cases hj⟩
      exact r.1
    · by_cases e : g = 1220
      · subst e
        rw [zA_fr (g := 1220) hF2 hm2 (ex3 (gQ_12_1220 hG2 hm2)) (allc hM2 (by decide)) (allc hM2 (by decide))]
        exact q2.2 1220 (by decide)
      · rw [hY.2.1 g (by
          simp only [peG, List.mem_cons, List.not_mem_nil, or_false] at hg
          rcases hg with z | z | z | z | z | z <;> subst z
          · decide
          · decide
          · decide
          · decide
          · decide
          · exact absurd rfl e) q (by omega)]
        exact q2.2 g hg
/-! ===== run ===== -/
theorem TP_run {S1 S2 S3 : PS} {x mo K P R0 R1 R2 G : Nat} {p n : Int} {ν : Nat → Nat} {sk : List Sk} {A : Pt} {R : List Ru} {r1 r2 : Int32} (hG1 : GX S1) (hG2 : GX S2) (hx : At S1 x 11) (hm : At S1 mo 12) (hF1 : Fr eTI S1 S2) (hF2 : Fr MTK S2 S3) (ct : CT S1 x mo) (hPN : PN S1 x) (tp : (pI S1 1104 x).toInt = (pI S1 1211 mo).toInt) (hd : ∀ K, pR S1 1107 x = some K → pI S1 801 K = pI S1 1245 mo) (hS : SZ S1 x mo) (hw : TPw S1 x mo ν K sk) (hp : 0 ≤ p → p < (pI S1 1104 x).toInt → PT1 S1 x mo ν p.toNat P R0 R1 R2 G A R)
    (ha1 : PN S1 x → RunC S1 x p n → ∀ Q, mB S1 x 1103 p.toNat = some Q → PotV S2 (DC S1 x) Q R0 R1 R2 G K (runF (EC S1 K P) R n.toNat (cA S1 A sk)).1 ∧ PotX S1 S2 Q R0 R1 R2 G ∧ r1.toInt = (runF (EC S1 K P) R n.toNat (cA S1 A sk)).2) (ha2 : ¬ RunC S1 x p n → S2 = S1 ∧ r1.toInt = -1)
    (hb1 : 0 ≤ p ∧ p < (pI S2 1211 mo).toInt ∧ 0 ≤ n ∧ n ≤ 300 → r2.toInt = (runF (ER S1 mo p.toNat) R n.toNat (cB S1 mo ν A sk)).2 ∧ PotW S3 mo p (runF (ER S1 mo p.toNat) R n.toNat (cB S1 mo ν A sk)).1 ∧ PwX S2 S3 mo p) (hb2 : ¬ (0 ≤ p ∧ p < (pI S2 1211 mo).toInt ∧ 0 ≤ n ∧ n ≤ 300) → r2.toInt = -1 ∧ S3 = sI S2 1200 mo 0) : (TP S3 x mo ∧ SZ S3 x mo) ∧ r1.toInt = r2.toInt := by
  have hm2 := hF1.at hm
  have e11 : pI S2 1211 mo = pI S1 1211 mo := hF1.I' (by decide +kernel) hm rfl
  rw [e11, ← tp] at hb1 hb2
  by_cases c : RunC S1 x p n
  · obtain ⟨c1, c2, c3, c4⟩ := c
    have h := hp c1 c2
    obtain ⟨f1, f2, f3⟩ := ha1 hPN ⟨c1, c2, c3, c4⟩ P h.1
    obtain ⟨g1, g2, g3⟩ := hb1 ⟨c1, c2, c3, c4⟩
    have hI := nu_inj hG1 hx hw.1
    have hE := reE (K := K) (P := P) (p := p.toNat) hG1 hx ct hw.1 (hd K hw.2.1) h.2.2.2.2.2.2.2.1 h.2.2.2.2.2.2.2.2.1 h.2.2.2.2.2.2.2.2.2
    have hR0 := ren_cc (sk := sk) hw.1 hw.2.2.2.1 hS h.2.2.1.2.2.2.2.2.2.2.2
    obtain ⟨k1, k2⟩ := ren_run (R := R) hI hE hR0 n.toNat
    have iv := iv_run (E := EC S1 K P) (R := R) (A := cA S1 A sk) (show 0 < (pI S1 411 P).toInt by have := h.2.2.2.2.2.2.1.2; omega) h.2.2.2.2.2.2.1.1 n.toNat
    rw [← Int.toNat_of_nonneg c1] at g2 g3
    obtain ⟨t1, t2⟩ := TP_step hG1 hG2 hx hm hF1 hF2 (by decide +kernel) (by decide +kernel) hw (by omega) h f1 f2 g2 g3 k1 iv
    exact ⟨⟨⟨ν, K, _, t1⟩, t2⟩, by rw [f3, g1, k2]⟩
  · obtain ⟨f1, f2⟩ := ha2 c
    obtain ⟨g1, g2⟩ := hb2 (fun z => c z)
    subst f1
    refine ⟨⟨TP_fr (M := [1200]) hG1 hx hm (by rw [g2]; exact Fr_sI (by decide)) (by decide +kernel) ⟨ν, K, sk, hw⟩, ?_⟩, by rw [f2, g1]⟩
    subst g2
    exact hS
/-! ===== cut ===== -/
theorem cutR_ren {ν : Nat → Nat} {D : Nat → Prop} {A B : Pt} (h : Ren ν D A B) : cutR B = cutR A := by
  have h5 := h.2.2.2.2.2.1
  have h7 := h.2.2.2.2.2.2.2.1
  unfold cutR
  rw [h7, List.length_map]
  by_cases e : qg A = []
  · rw [if_pos e, if_pos (by rw [h5, e]; rfl)]
  · rw [if_neg e, if_neg (fun z => e (List.map_eq_nil_iff.mp (by rw [← h5]; exact z)))]
theorem TP_cut {S1 S2 S3 : PS} {x mo K P R0 R1 R2 G : Nat} {p : Int} {ν : Nat → Nat} {sk : List Sk} {A : Pt} {R : List Ru} {r1 r2 : Int32} (hG1 : GX S1) (hG2 : GX S2) (hx : At S1 x 11) (hm : At S1 mo 12) (hF1 : Fr eCU S1 S2) (hF2 : Fr MCU S2 S3) (ct : CT S1 x mo) (hPN : PN S1 x) (tp : (pI S1 1104 x).toInt = (pI S1 1211 mo).toInt) (hd : ∀ K, pR S1 1107 x = some K → pI S1 801 K = pI S1 1245 mo) (hS : SZ S1 x mo) (hw : TPw S1 x mo ν K sk) (hp : 0 ≤ p → p < (pI S1 1104 x).toInt → PT1 S1 x mo ν p.toNat P R0 R1 R2 G A R)
    (ha1 : PN S1 x → 0 ≤ p ∧ p < (pI S1 1104 x).toInt → ∀ Q, mB S1 x 1103 p.toNat = some Q → PotV S2 (DC S1 x) Q R0 R1 R2 G K (cutF (EC S1 K P) (cA S1 A sk)) ∧ PotX S1 S2 Q R0 R1 R2 G ∧ r1.toInt = cutR (cA S1 A sk)) (ha2 : PN S1 x → ¬ (0 ≤ p ∧ p < (pI S1 1104 x).toInt) → S2 = S1 ∧ r1.toInt = -1)
    (hb1 : 0 ≤ p ∧ p < (pI S2 1211 mo).toInt → PotW S3 mo p (cutF (ER S1 mo p.toNat) (cB S1 mo ν A sk)) ∧ r2.toInt = cutR (cB S1 mo ν A sk) ∧ PwX S2 S3 mo p) (hb2 : ¬ (0 ≤ p ∧ p < (pI S2 1211 mo).toInt) → r2.toInt = -1 ∧ S3 = sI S2 1200 mo 0) : (TP S3 x mo ∧ SZ S3 x mo) ∧ r1.toInt = r2.toInt := by
  have hm2 := hF1.at hm
  have e11 : pI S2 1211 mo = pI S1 1211 mo := hF1.I' (by decide +kernel) hm rfl
  rw [e11, ← tp] at hb1 hb2
  by_cases c : 0 ≤ p ∧ p < (pI S1 1104 x).toInt
  · have h := hp c.1 c.2
    obtain ⟨f1, f2, f3⟩ := ha1 hPN c P h.1
    obtain ⟨g2, g1, g3⟩ := hb1 c
    have hE := reE (K := K) (P := P) (p := p.toNat) hG1 hx ct hw.1 (hd K hw.2.1) h.2.2.2.2.2.2.2.1 h.2.2.2.2.2.2.2.2.1 h.2.2.2.2.2.2.2.2.2
    have hR0 := ren_cc (sk := sk) hw.1 hw.2.2.2.1 hS h.2.2.1.2.2.2.2.2.2.2.2
    have k1 := ren_cut hE hR0
    have iv := iv_cut (E := EC S1 K P) (A := cA S1 A sk) h.2.2.2.2.2.2.1.1
    rw [← Int.toNat_of_nonneg c.1] at g2 g3
    obtain ⟨t1, t2⟩ := TP_step hG1 hG2 hx hm hF1 hF2 (by decide +kernel) (by decide +kernel) hw (by omega) h f1 f2 g2 g3 k1 iv
    exact ⟨⟨⟨ν, K, _, t1⟩, t2⟩, by rw [f3, g1, cutR_ren hR0]⟩
  · obtain ⟨f1, f2⟩ := ha2 hPN c
    obtain ⟨g1, g2⟩ := hb2 c
    subst f1
    refine ⟨⟨TP_fr (M := [1200]) hG1 hx hm (by rw [g2]; exact Fr_sI (by decide)) (by decide +kernel) ⟨ν, K, sk, hw⟩, ?_⟩, by rw [f2, g1]⟩
    subst g2
    exact hS
/-! ===== fill ===== -/
theorem nu_coc {S : PS} {x : Nat} {ν : Nat → Nat} {l f : Int} (hN : NuP S x ν) (hf : 0 ≤ f) : ∀ n : Nat, (∀ j : Int, f ≤ j → j < f + (n : Int) → InC S x l j ∧ ∃ c, mB S x 1100 (60 * l + j).toNat = some c ∧ pI S 3 c = 0) → nuL l f n = (cocL S x l f n).map ν ∧ ∀ c, c ∈ cocL S x l f n → DC S x c
  | 0, _ => ⟨rfl, fun c hc => by cases hc⟩
  | n + 1, h => by
    obtain ⟨a, b⟩ := nu_coc hN hf n (fun j h1 h2 => h j h1 (by omega))
    obtain ⟨⟨i1, i2, i3, i4⟩, c, c1, -⟩ := h (f + (n : Int)) (by omega) (by omega)
    have e : (60 * l + (f + (n : Int))).toNat = 60 * l.toNat + (f + (n : Int)).toNat := by omega
    have eν : ν c = (60 * l + (f + (n : Int))).toNat := by
      rw [e]
      exact hN l.toNat (f + (n : Int)).toNat c (by omega) (by omega) (by rw [← e]; exact c1)
    rw [cocL_s c1]
    refine ⟨?_, fun d hd => ?_⟩
    · rw [nuL_s, a, List.map_append]
      show _ ++ [(60 * l + (f + (n : Int))).toNat] = _ ++ [ν c]
      rw [eν]
    · rcases List.mem_append.mp hd with z | z
      · exact b d z
      · rw [List.mem_singleton.mp z]
        exact ⟨l.toNat, (f + (n : Int)).toNat, by omega, by omega, by rw [← e]; exact c1⟩
theorem TP_fill {S1 S2 S3 : PS} {x mo K P R0 R1 R2 G : Nat} {p l f n : Int} {ν : Nat → Nat} {sk : List Sk} {A : Pt} {R : List Ru} {r1 r2 : Int32} (hG1 : GX S1) (hG2 : GX S2) (hx : At S1 x 11) (hm : At S1 mo 12) (hF1 : Fr eRC S1 S2) (hF2 : Fr MFI S2 S3) (ct : CT S1 x mo) (hPN : PN S1 x) (tl : (pI S1 1102 x).toInt = (pI S1 1201 mo).toInt) (tp : (pI S1 1104 x).toInt = (pI S1 1211 mo).toInt) (hS : SZ S1 x mo) (hw : TPw S1 x mo ν K sk) (hp : 0 ≤ p → p < (pI S1 1104 x).toInt → PT1 S1 x mo ν p.toNat P R0 R1 R2 G A R)
    (ha : ((FilC S1 x p l f n ∧ ∀ Q, mB S1 x 1103 p.toNat = some Q → PotV S2 (DC S1 x) Q R0 R1 R2 G K (filF (cA S1 A sk) (cocL S1 x l f n.toNat)) ∧ PotX S1 S2 Q R0 R1 R2 G) ∧ r1 = 1) ∨ (((PN S1 x → ¬ FilC S1 x p l f n) ∧ S2 = S1) ∧ r1 = 0))
    (hb : ((FilR S2 mo p l f n ∧ PotW S3 mo p (filF (cB S1 mo ν A sk) (nuL l f n.toNat)) ∧ PwX S2 S3 mo p) ∧ r2 = 1) ∨ ((¬ FilR S2 mo p l f n ∧ S3 = sI S2 1200 mo 0) ∧ r2 = 0)) : (TP S3 x mo ∧ SZ S3 x mo) ∧ r1 = r2 := by
  have hiff := FC_FR (p := p) (l := l) (f := f) (n := n) hG1 hx ct hS tl tp
  rw [← FilR_fr hG1 hm hF1 (by decide +kernel)] at hiff
  rcases ha with ⟨⟨ha1, ha2⟩, ha5⟩ | ⟨⟨ha1, ha2⟩, ha5⟩ <;> rcases hb with ⟨⟨hb1, hb2, hb3⟩, hb5⟩ | ⟨⟨hb1, hb2⟩, hb5⟩
  · obtain ⟨p1, p2, p3, p4, p5, p6⟩ := ha1
    have h := hp p1 p2
    obtain ⟨f1, f2⟩ := ha2 P h.1
    have hI := nu_inj hG1 hx hw.1
    have hR0 := ren_cc (sk := sk) hw.1 hw.2.2.2.1 hS h.2.2.1.2.2.2.2.2.2.2.2
    obtain ⟨q1, q2⟩ := nu_coc (l := l) (f := f) hw.1 p5 n.toNat (fun j h1 h2 => p6 j h1 (by omega))
    have k1 := ren_fil hI (L := cocL S1 x l f n.toNat) hR0 q2
    rw [q1] at hb2
    have iv := iv_fil (L := cocL S1 x l f n.toNat) (A := cA S1 A sk) h.2.2.2.2.2.2.1.1
    rw [← Int.toNat_of_nonneg p1] at hb2 hb3
    obtain ⟨t1, t2⟩ := TP_step hG1 hG2 hx hm hF1 hF2 (by decide +kernel) (by decide +kernel) hw (by omega) h f1 f2 hb2 hb3 k1 iv
    exact ⟨⟨⟨ν, K, _, t1⟩, t2⟩, ha5.trans hb5.symm⟩
  · exact absurd (hiff.mp ha1) hb1
  · exact absurd (hiff.mpr hb1) (ha1 hPN)
  · subst ha2
    refine ⟨⟨TP_fr (M := [1200]) hG1 hx hm (by rw [hb2]; exact Fr_sI (by decide)) (by decide +kernel) ⟨ν, K, sk, hw⟩, ?_⟩, ha5.trans hb5.symm⟩
    subst hb2
    exact hS
