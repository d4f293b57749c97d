/-! ===== stands and shelf: what ties class and reference ===== -/
def z05 (v : Int) : Int := v
theorem z05_0 {v w : Int} (h : z05 v = z05 w) (hw : w = 0) : v = 0 := by
  unfold z05 at h
  omega
theorem z05_5 {v w : Int} (h : z05 v = z05 w) (hw : w = 5) : v = 5 := by
  unfold z05 at h
  omega
def SZ (S : PS) (x mo : Nat) : Prop := ∀ l i : Nat, (l : Int) < (pI S 1102 x).toInt → (i : Int) < zA S x 1101 l → ∀ c, mB S x 1100 (60 * l + i) = some c → z05 (pI S 3 c).toInt = z05 (zA S mo 1207 (60 * l + i))
def RA (S : PS) (x : Nat) : Nat → Prop := fun q => ∃ p P R, ((p : Nat) : Int) < (pI S 1104 x).toInt ∧ mB S x 1103 p = some P ∧ (pR S 400 P = some R ∨ pR S 401 P = some R ∨ pR S 402 P = some R) ∧ pR S 501 R = some q
def IA (S : PS) (x : Nat) : Prop := ∀ c, RH (RA S x) S c → True
def Lai (S : PS) (x : Nat) (v : Int) (o : Option Nat) : Prop := ∃ l i q : Nat, v = ((60 * l + i : Nat) : Int) ∧ (l : Int) < (pI S 1102 x).toInt ∧ (i : Int) < zA S x 1101 l ∧ mB S x 1100 (60 * l + i) = some q ∧ o = some q
def STk (S : PS) (x mo k P : Nat) : Prop := mB S x 1109 k = some P ∧ At S P 3 ∧ (pI S 300 P).toInt = (if zA S mo 1253 k = 0 then -1 else zA S mo 1254 k) ∧ (zA S mo 1253 k ≠ 0 → 0 ≤ zA S mo 1254 k ∧ zA S mo 1254 k ≤ 2) ∧ (zA S mo 1253 k ≠ 0 → zA S mo 1254 k = 0 → Lai S x (zA S mo 1255 k) (pR S 303 P)) ∧ (zA S mo 1253 k ≠ 0 → zA S mo 1254 k = 2 → (pI S 301 P).toInt = zA S mo 1256 k)
def ST (S : PS) (x mo : Nat) : Prop := ∀ k, k < 16 → ∃ P, STk S x mo k P
def SD (S : PS) (x : Nat) : Prop := ∀ k k', k < 16 → k' < 16 → k ≠ k' → mB S x 1109 k ≠ mB S x 1109 k'
def TXs (S : PS) (x mo : Nat) : Prop := SZ S x mo ∧ IA S x ∧ ST S x mo ∧ SD S x
theorem pot_at {S : PS} {x p P : Nat} (hG : GX S) (hx : At S x 11) (h : mB S x 1103 p = some P) : At S P 4 := by
  obtain ⟨q, k1, k2, -⟩ := gQ_11_1103 hG hx
  rw [mB_eq k1] at h
  exact gEl_18 hG k2 p P h
theorem row_at {S : PS} {P R : Nat} (hG : GX S) (hP : At S P 4) (h : pR S 400 P = some R ∨ pR S 401 P = some R ∨ pR S 402 P = some R) : At S R 5 := by
  rcases h with z | z | z
  · obtain ⟨c, k1, k2⟩ := gQ_4_400 hG hP; rw [k1] at z; cases z; exact k2
  · obtain ⟨c, k1, k2⟩ := gQ_4_401 hG hP; rw [k1] at z; cases z; exact k2
  · obtain ⟨c, k1, k2⟩ := gQ_4_402 hG hP; rw [k1] at z; cases z; exact k2
theorem cel_at {S : PS} {R q : Nat} (hG : GX S) (hR : At S R 5) (h : pR S 501 R = some q) : At S q 16 := by
  obtain ⟨c, n, k1, k2, -⟩ := gRow hG hR
  rw [k1] at h
  cases h
  exact k2
theorem RA_at {S : PS} {x q : Nat} (hG : GX S) (hx : At S x 11) (h : RA S x q) : At S q 16 := by
  obtain ⟨p, P, R, -, h2, h3, h4⟩ := h
  exact cel_at hG (row_at hG (pot_at hG hx h2) h3) h4
theorem RA_AO {S : PS} {x : Nat} (hG : GX S) (hx : At S x 11) : AO (RA S x) S := fun _ h => RA_at hG hx h
theorem RA_PIn {S : PS} {x : Nat} {p : Int} : ∀ P, 0 ≤ p → p < (pI S 1104 x).toInt → mB S x 1103 p.toNat = some P → PIn (RA S x) S P := fun P h0 h3 hP R q h1 h2 => ⟨p.toNat, P, R, by omega, hP, h1, h2⟩
theorem frR {M : List Nat} {S T : PS} (hF : Fr M S T) {g : Nat} (h : M.contains g = false) {a : Nat} (ha : a ∈ pL S) : pR T g a = pR S g a := (hF.2.1 g (fun z => by rw [List.contains_iff_mem.mpr z] at h; cases h) a ha).2
def raL : List Nat := [1104, 1103, 10018, 400, 401, 402, 501]
theorem RA_eq {M : List Nat} {S T : PS} {x : Nat} (hG : GX S) (hx : At S x 11) (hF : Fr M S T) (hM : raL.all (fun g => !M.contains g) = true) : RA T x = RA S x := by
  have eB : mB T x 1103 = mB S x 1103 := mB_frc hF hx (ex3 (gQ_11_1103 hG hx)) (allc hM (by decide)) (allc hM (by decide))
  funext q
  apply propext
  constructor
  · rintro ⟨p, P, R, h1, h2, h3, h4⟩
    rw [hF.I' (g := 1104) (allc hM (by decide)) hx rfl] at h1
    rw [eB] at h2
    have hP := pot_at hG hx h2
    rw [frR hF (allc hM (by decide)) hP.1, frR hF (allc hM (by decide)) hP.1, frR hF (allc hM (by decide)) hP.1] at h3
    have hR := row_at hG hP h3
    rw [frR hF (allc hM (by decide)) hR.1] at h4
    exact ⟨p, P, R, h1, h2, h3, h4⟩
  · rintro ⟨p, P, R, h1, h2, h3, h4⟩
    have hP := pot_at hG hx h2
    have hR := row_at hG hP h3
    refine ⟨p, P, R, by rw [hF.I' (g := 1104) (allc hM (by decide)) hx rfl]; exact h1, by rw [eB]; exact h2, ?_, by rw [frR hF (allc hM (by decide)) hR.1]; exact h4⟩
    rw [frR hF (allc hM (by decide)) hP.1, frR hF (allc hM (by decide)) hP.1, frR hF (allc hM (by decide)) hP.1]
    exact h3
theorem RH_at {S : PS} {x c : Nat} (hG : GX S) (hx : At S x 11) (h : RH (RA S x) S c) : At S c 0 := by
  obtain ⟨q, i, h1, h2⟩ := h
  exact gEl_16 hG (RA_at hG hx h1) i c h2
theorem SZ_to {S T : PS} {x mo : Nat} (e1 : (pI T 1102 x).toInt = (pI S 1102 x).toInt) (e2 : zA T x 1101 = zA S x 1101) (e3 : mB T x 1100 = mB S x 1100) (hc : ∀ j c, mB S x 1100 j = some c → z05 (pI T 3 c).toInt = z05 (pI S 3 c).toInt) (hm : ∀ j, z05 (zA T mo 1207 j) = z05 (zA S mo 1207 j)) (h : SZ S x mo) : SZ T x mo := fun l i h1 h2 c h3 => by
  rw [e1] at h1
  rw [e2] at h2
  rw [e3] at h3
  rw [hc _ c h3, hm]
  exact h l i h1 h2 c h3
def szC : List Nat := [1102, 1101, 10054, 1100, 10036]
theorem sz_same {M : List Nat} {S T : PS} {x : Nat} (hG : GX S) (hx : At S x 11) (hF : Fr M S T) (hM : szC.all (fun g => !M.contains g) = true) : (pI T 1102 x).toInt = (pI S 1102 x).toInt ∧ zA T x 1101 = zA S x 1101 ∧ mB T x 1100 = mB S x 1100 := ⟨congrArg Int32.toInt (hF.I' (allc hM (by decide)) hx rfl), zA_of_mA (mA_frc hF hx (ex3 (gQ_11_1101 hG hx)) (allc hM (by decide)) (allc hM (by decide))), mB_frc hF hx (ex3 (gQ_11_1100 hG hx)) (allc hM (by decide)) (allc hM (by decide))⟩
def z7L : List Nat := [1207, 10354]
theorem z7_same {M : List Nat} {S T : PS} {mo : Nat} (hG : GX S) (hm : At S mo 12) (hF : Fr M S T) (hM : z7L.all (fun g => !M.contains g) = true) : zA T mo 1207 = zA S mo 1207 := zA_fr hF hm (ex3 (gQ_12_1207 hG hm)) (allc hM (by decide)) (allc hM (by decide))
theorem IA_fr {M : List Nat} {S T : PS} {x : Nat} (hG : GX S) (hx : At S x 11) (hF : Fr M S T) (hM : raL.all (fun g => !M.contains g) = true) (h3 : M.contains 3 = false) (h6 : M.contains 10016 = false) (h : IA S x) : IA T x := fun _ _ => trivial
def stL : List Nat := [1102, 1101, 10054, 1109, 10017, 300, 301, 303, 1100, 10036, 1253, 1254, 1255, 1256, 11275, 11294, 11314, 11334]
theorem shz_same {M : List Nat} {S T : PS} {mo : Nat} (hG : GX S) (hm : At S mo 12) (hF : Fr M S T) (hM : ([1253, 1254, 1255, 1256, 11275, 11294, 11314, 11334] : List Nat).all (fun g => !M.contains g) = true) : zA T mo 1253 = zA S mo 1253 ∧ zA T mo 1254 = zA S mo 1254 ∧ zA T mo 1255 = zA S mo 1255 ∧ zA T mo 1256 = zA S mo 1256 := ⟨zA_fr hF hm (ex3 (gQ_12_1253 hG hm)) (allc hM (by decide)) (allc hM (by decide)), zA_fr hF hm (ex3 (gQ_12_1254 hG hm)) (allc hM (by decide)) (allc hM (by decide)), zA_fr hF hm (ex3 (gQ_12_1255 hG hm)) (allc hM (by decide)) (allc hM (by decide)), zA_fr hF hm (ex3 (gQ_12_1256 hG hm)) (allc hM (by decide)) (allc hM (by decide))⟩
theorem sub_all {L L' M : List Nat} (hM : L.all (fun g => !M.contains g) = true) (hL : ∀ g ∈ L', g ∈ L) : L'.all (fun g => !M.contains g) = true := List.all_eq_true.mpr (fun g hg => List.all_eq_true.mp hM g (hL g hg))
theorem Lai_to {S T : PS} {x : Nat} (e1 : (pI T 1102 x).toInt = (pI S 1102 x).toInt) (e2 : zA T x 1101 = zA S x 1101) (e3 : mB T x 1100 = mB S x 1100) : ∀ v o, Lai S x v o → Lai T x v o := fun v o ⟨l, i, q, h1, h2, h3, h4, h5⟩ => ⟨l, i, q, h1, by rw [e1]; exact h2, by rw [e2]; exact h3, by rw [e3]; exact h4, h5⟩
theorem STk_to {S T : PS} {x mo k P : Nat} (e1 : mB T x 1109 k = mB S x 1109 k) (e2 : At T P 3) (e3 : pI T 300 P = pI S 300 P) (e9 : pI T 301 P = pI S 301 P) (e4 : pR T 303 P = pR S 303 P) (e5 : zA T mo 1253 k = zA S mo 1253 k) (e6 : zA T mo 1254 k = zA S mo 1254 k) (e7 : zA T mo 1255 k = zA S mo 1255 k) (e10 : zA T mo 1256 k = zA S mo 1256 k) (e8 : ∀ v o, Lai S x v o → Lai T x v o) (h : STk S x mo k P) : STk T x mo k P := by
  obtain ⟨a1, a2, a3, a4, a5, a6⟩ := h
  refine ⟨by rw [e1]; exact a1, e2, by rw [e3, e5, e6]; exact a3, by rw [e5, e6]; exact a4, ?_, by rw [e5, e6, e9, e10]; exact a6⟩
  rw [e5, e6, e7, e4]
  exact fun z1 z2 => e8 _ _ (a5 z1 z2)
theorem ST_fr {M : List Nat} {S T : PS} {x mo : Nat} (hG : GX S) (hx : At S x 11) (hm : At S mo 12) (hF : Fr M S T) (hM : stL.all (fun g => !M.contains g) = true) (h : ST S x mo) : ST T x mo := fun k hk => by
  obtain ⟨P, hP⟩ := h k hk
  obtain ⟨z3, z4, z5, z6⟩ := shz_same hG hm hF (sub_all hM (by decide))
  obtain ⟨q1, q2, q3⟩ := sz_same hG hx hF (sub_all hM (by decide))
  exact ⟨P, STk_to (congrFun (mB_frc hF hx (ex3 (gQ_11_1109 hG hx)) (allc hM (by decide)) (allc hM (by decide))) k) (hF.at hP.2.1) (hF.I' (allc hM (by decide)) hP.2.1 rfl) (hF.I' (allc hM (by decide)) hP.2.1 rfl) (frR hF (allc hM (by decide)) hP.2.1.1) (congrFun z3 k) (congrFun z4 k) (congrFun z5 k) (congrFun z6 k) (Lai_to q1 q2 q3) hP⟩
theorem SD_fr {M : List Nat} {S T : PS} {x : Nat} (hG : GX S) (hx : At S x 11) (hF : Fr M S T) (hM : ([1109, 10017] : List Nat).all (fun g => !M.contains g) = true) (h : SD S x) : SD T x := by
  unfold SD
  rw [mB_frc hF hx (ex3 (gQ_11_1109 hG hx)) (allc hM (by decide)) (allc hM (by decide))]
  exact h
def txLs : List Nat := [3, 10016] ++ szC ++ z7L ++ raL ++ stL
theorem TXs_fr {M : List Nat} {S S' : PS} {x mo : Nat} (hG : GX S) (hF : Fr M S S') (hx : At S x 11) (hm : At S mo 12) (hM : txLs.all (fun g => !M.contains g) = true) (h : TXs S x mo) : TXs S' x mo := by
  obtain ⟨h1, h2, h3, h4⟩ := h
  obtain ⟨a1, a2, a3⟩ := sz_same hG hx hF (sub_all hM (by decide))
  exact ⟨SZ_to a1 a2 a3 (fun j c hc => by rw [hF.I' (allc hM (by decide)) (mB_at hG hx hc) rfl]) (fun j => by rw [z7_same hG hm hF (sub_all hM (by decide))]) h1, IA_fr hG hx hF (sub_all hM (by decide)) (allc hM (by decide)) (allc hM (by decide)) h2, ST_fr hG hx hm hF (sub_all hM (by decide)) h3, SD_fr hG hx hF (sub_all hM (by decide)) h4⟩
theorem CT_inj {S : PS} {x mo l i l' i' c : Nat} (hG : GX S) (hx : At S x 11) (h : CT S x mo) (h1 : (l : Int) < (pI S 1102 x).toInt) (h2 : (i : Int) < zA S x 1101 l) (h1' : (l' : Int) < (pI S 1102 x).toInt) (h2' : (i' : Int) < zA S x 1101 l') (hc : mB S x 1100 (60 * l + i) = some c) (hc' : mB S x 1100 (60 * l' + i') = some c) : l = l' ∧ i = i' := by
  have hr := gI_11_1102 hG hx
  have b1 := il60 hG hx l
  have b2 := il60 hG hx l'
  rw [zA_eq] at h2 h2' b1 b2
  obtain ⟨d, d1, -, d3⟩ := (h l h1).2 i h2
  obtain ⟨d', d1', -, d3'⟩ := (h l' h1').2 i' h2'
  rw [hc] at d1; cases d1
  rw [hc'] at d1'; cases d1'
  have z : ∀ m : Nat, (m : Int) < 100 → (Int32.ofInt (m : Int)).toInt = (m : Int) := fun m hm => by
    rw [Int32.toInt_ofInt]; exact bm_id (by omega) (by omega)
  have e0 := congrArg Int32.toInt (d3.1.symm.trans d3'.1)
  have e1 := congrArg Int32.toInt (d3.2.1.symm.trans d3'.2.1)
  rw [z l (by omega), z l' (by omega)] at e0
  rw [z i (by omega), z i' (by omega)] at e1
  omega
/-! ===== fill ===== -/
theorem FC_FR {S : PS} {x mo : Nat} {p l f n : Int} (hG : GX S) (hx : At S x 11) (hc : CT S x mo) (hs : SZ S x mo) (hl : (pI S 1102 x).toInt = (pI S 1201 mo).toInt) (hp : (pI S 1104 x).toInt = (pI S 1211 mo).toInt) : FilC S x p l f n ↔ FilR S mo p l f n := by
  constructor
  · rintro ⟨p1, p2, p3, p4, p5, p6⟩
    obtain ⟨⟨i1, i2, -, -⟩, -⟩ := p6 f (by omega) (by omega)
    obtain ⟨⟨-, -, -, i4⟩, -⟩ := p6 (f + n - 1) (by omega) (by omega)
    have hm := CT_many hc i1 i2
    refine ⟨p1, by omega, i1, by omega, p3, p4, p5, by omega, fun j h1 h2 => ?_⟩
    obtain ⟨⟨j1, j2, j3, j4⟩, c, c1, c2⟩ := p6 j h1 h2
    have e : (60 * l + j).toNat = 60 * l.toNat + j.toNat := by omega
    rw [e] at c1 ⊢
    have z := hs l.toNat j.toNat (by omega) (by omega) c c1
    exact z05_0 z.symm (by rw [c2]; decide)
  · rintro ⟨p1, p2, p3, p4, p5, p6, p7, p8, p9⟩
    have hm := CT_many hc p3 (by omega)
    refine ⟨p1, by omega, p5, p6, p7, fun j h1 h2 => ?_⟩
    have b := il60 hG hx l.toNat
    have hin : InC S x l j := ⟨p3, by omega, by omega, by omega⟩
    obtain ⟨c, c1, -⟩ := CT_get hc p3 (by omega) (by omega) (by omega : j < zA S x 1101 l.toNat) (by omega)
    refine ⟨hin, c, c1, ?_⟩
    have e : (60 * l + j).toNat = 60 * l.toNat + j.toNat := by omega
    have z0 := p9 j h1 h2
    rw [e] at c1 z0
    have z := hs l.toNat j.toNat (by omega) (by omega) c c1
    exact Int32.toInt_inj.mp ((z05_0 z z0).trans (by decide))
theorem FilR_fr {M : List Nat} {S T : PS} {mo : Nat} {p l f n : Int} (hG : GX S) (hm : At S mo 12) (hF : Fr M S T) (hM : ([1211, 1201, 1202, 1207, 10254, 10354] : List Nat).all (fun g => !M.contains g) = true) : FilR T mo p l f n ↔ FilR S mo p l f n := by
  unfold FilR
  rw [hF.I' (g := 1211) (allc hM (by decide)) hm rfl, hF.I' (g := 1201) (allc hM (by decide)) hm rfl, zA_fr (g := 1202) hF hm (ex3 (gQ_12_1202 hG hm)) (allc hM (by decide)) (allc hM (by decide)), zA_fr (g := 1207) hF hm (ex3 (gQ_12_1207 hG hm)) (allc hM (by decide)) (allc hM (by decide))]
/-! ===== a lot ===== -/
theorem TXs_lot {S1 S2 S3 : PS} {x mo : Nat} {a1 a2 a3 a4 a5 : Int32} {a1_z : Int} (hG1 : GX S1) (hG2 : GX S2) (hx : At S1 x 11) (hm : At S1 mo 12) (hF1 : Fr MLt S1 S2) (hF2 : Fr M12t S2 S3) (hMI : MI S1 mo) (hl : (pI S1 1102 x).toInt = (pI S1 1201 mo).toInt) (h9 : (pI S2 1102 x).toInt = (pI S1 1102 x).toInt + 1) (hz : a1.toInt = a1_z) (hn : a1_z ≤ 60) (hlt : (pI S1 1102 x).toInt < 10)
    (hN : ∀ ca lz, pR S1 1100 x = some ca → pR S1 1101 x = some lz → NewC S1 S2 ca (60 * (pI S1 1102 x).toInt) a1_z (pI S1 1102 x) a2 a3 a4 a5 ∧ pA S2 lz = upd (pA S1 lz) (Int32.toNatClampNeg (pI S1 1102 x)) a1) (h : TXs S1 x mo) : TXs S3 x mo := by
  obtain ⟨h1, h2, h3, h4⟩ := h
  have hx2 := hF1.at hx
  have hm2 := hF1.at hm
  have hr := gI_11_1102 hG1 hx
  obtain ⟨ca, k1, k2, -⟩ := gQ_11_1100 hG1 hx
  obtain ⟨lz, k3, k4, -⟩ := gQ_11_1101 hG1 hx
  obtain ⟨⟨n1, n3⟩, n2⟩ := hN ca lz k1 k3
  have j1 : pR S2 1100 x = some ca := hF1.R' (by decide +kernel) hx k1
  have j3 : pR S2 1101 x = some lz := hF1.R' (by decide +kernel) hx k3
  obtain ⟨b1, b2, b3⟩ := sz_same hG2 hx2 hF2 (by decide +kernel)
  have z7 := z7_same hG1 hm hF1 (by decide +kernel)
  have z72 := z7_same hG2 hm2 hF2 (by decide +kernel)
  have i3 : ∀ c, At S2 c 0 → pI S3 3 c = pI S2 3 c := fun c hc => hF2.I' (by decide +kernel) hc rfl
  have i2 : ∀ c, At S1 c 0 → pI S2 3 c = pI S1 3 c := fun c hc => hF1.I' (by decide +kernel) hc rfl
  have zn := z_nat (x := pI S1 1102 x) rfl hr.1
  have eL : ∀ l : Nat, zA S2 x 1101 l = if l = Int32.toNatClampNeg (pI S1 1102 x) then a1_z else zA S1 x 1101 l := fun l => by
    rw [zA_eq, zA_eq, mA_eq j3, mA_eq k3, n2]
    unfold upd
    split
    · exact hz
    · rfl
  have eB : mB S2 x 1100 = pB S2 ca := mB_eq j1
  have eB1 : mB S1 x 1100 = pB S1 ca := mB_eq k1
  have ra3 : RA S3 x = RA S1 x := (RA_eq hG2 hx2 hF2 (by decide +kernel)).trans (RA_eq hG1 hx hF1 (by decide +kernel))
  obtain ⟨m3, m4, m5, m6⟩ := shz_same hG1 hm hF1 (by decide +kernel)
  have st2 : ST S2 x mo := fun k hk => by
    obtain ⟨P, hP⟩ := h3 k hk
    refine ⟨P, STk_to (congrFun (mB_frc hF1 hx (ex3 (gQ_11_1109 hG1 hx)) (by decide +kernel) (by decide +kernel)) k) (hF1.at hP.2.1) (hF1.I' (by decide +kernel) hP.2.1 rfl) (hF1.I' (by decide +kernel) hP.2.1 rfl) (frR hF1 (by decide +kernel) hP.2.1.1) (congrFun m3 k) (congrFun m4 k) (congrFun m5 k) (congrFun m6 k) (fun v o ⟨l, i, q, g1, g2, g3, g4, g5⟩ => ⟨l, i, q, g1, by omega, by rw [eL, if_neg (by omega)]; exact g3, ?_, g5⟩) hP⟩
    have b := il60 hG1 hx l
    rw [eB, n3 (60 * l + i) (Or.inl (by omega)), ← eB1]; exact g4
  refine ⟨fun l i q1 q2 c q3 => ?_, fun c hc => ?_, ST_fr hG2 hx2 hm2 hF2 (by decide +kernel) st2, SD_fr hG2 hx2 hF2 (by decide +kernel) (SD_fr hG1 hx hF1 (by decide +kernel) h4)⟩
  · rw [b1, h9] at q1
    rw [b2, eL] at q2
    rw [b3, eB] at q3
    rw [z72, z7]
    by_cases el : l = Int32.toNatClampNeg (pI S1 1102 x)
    · rw [if_pos el] at q2
      obtain ⟨d, d1, -, d3, -, d5⟩ := n1 i q2
      rw [show 60 * l + i = (60 * (pI S1 1102 x).toInt + (i : Int)).toNat by omega] at q3 ⊢
      rw [d1] at q3
      cases q3
      rw [i3 _ d3, d5.1, ((MI_1 hMI (c := 60 * (pI S1 1102 x).toInt + (i : Int)) (by omega) (by omega)).1 (by omega)).2]
      rfl
    · rw [if_neg el] at q2
      have b := il60 hG1 hx l
      rw [n3 (60 * l + i) (Or.inl (by omega)), ← eB1] at q3
      have hc0 := mB_at hG1 hx q3
      rw [i3 c (hF1.at hc0), i2 c hc0]
      exact h1 l i (by omega) q2 c q3
  · trivial
/-! ===== a pot ===== -/
theorem TXs_pot {S1 S2 : PS} {x mo P : Nat} (hG1 : GX S1) (hG2 : GX S2) (hx : At S1 x 11) (hm : At S1 mo 12) (hF1 : Fr ePT S1 S2) (h9 : (pI S2 1104 x).toInt = (pI S1 1104 x).toInt + 1) (hB : ∀ j, mB S2 x 1103 j = if j = (pI S1 1104 x).toInt.toNat then some P else mB S1 x 1103 j) (hP : At S2 P 4) (r0 : RowE S2 P 400) (r1 : RowE S2 P 401) (r2 : RowE S2 P 402) (h : TXs S1 x mo) : TXs S2 x mo := by
  obtain ⟨h1, h2, h3, h4⟩ := h
  obtain ⟨a1, a2, a3⟩ := sz_same hG1 hx hF1 (by decide +kernel)
  refine ⟨SZ_to a1 a2 a3 (fun j c hc => by rw [hF1.I' (by decide +kernel) (mB_at hG1 hx hc) rfl]) (fun j => by rw [z7_same hG1 hm hF1 (by decide +kernel)]) h1, fun c hc => ?_, ST_fr hG1 hx hm hF1 (by decide +kernel) h3, SD_fr hG1 hx hF1 (by decide +kernel) h4⟩
  trivial
/-! ===== the beginning ===== -/
theorem TXs_0 {S : PS} {x mo sh : Nat} (h2 : pI S 1102 x = 0) (h4 : pI S 1104 x = 0) (hs : pR S 1109 x = some sh) (hi : ShI S sh 16) (h5 : ∀ i, zA S mo 1253 i = 0) : TXs S x mo := by
  refine ⟨fun l i q1 => ?_, fun c hc => ?_, fun k hk => ?_, fun k k' hk hk' hkk => ?_⟩
  · rw [h2] at q1
    have e : (0 : Int32).toInt = 0 := by decide
    omega
  · trivial
  · obtain ⟨P, w, p1, p2, p3, -⟩ := hi.1 k (by omega)
    refine ⟨P, by rw [mB_eq hs]; exact p1, p2, ?_, fun z => absurd (h5 k) z, fun z => absurd (h5 k) z, fun z => absurd (h5 k) z⟩
    rw [h5 k, if_pos rfl, p3]
    decide
  · rw [mB_eq hs]; exact hi.2.1 k k' (by omega) (by omega) hkk
/-! ===== shelve ===== -/
def ShU (S T : PS) (P : Nat) (kk : Int) (sz : Int) (oq : Option Nat) : Prop := (∀ d, pI T 3 d = @ite Int32 (oq = some d) (Classical.propDecidable _) 5 (pI S 3 d)) ∧ (∀ P', P' ≠ P → pI T 300 P' = pI S 300 P' ∧ pI T 301 P' = pI S 301 P' ∧ pR T 303 P' = pR S 303 P') ∧ (pI T 300 P).toInt = kk ∧ (kk = 2 → (pI T 301 P).toInt = sz) ∧ ∀ q, oq = some q → pR T 303 P = some q
theorem pR_sR_ne {S : PS} {g a x y : Nat} {v : Option Nat} (h : y ≠ a) : pR (sR S g a v) x y = pR S x y := by
  show u2 (pR S) g a v x y = pR S x y
  exact u2_ne _ _ h
theorem ShE_U {S T : PS} {x P : Nat} {k : Int} {a b : Int32} {az bz : Int} (hz : a.toInt = az) (h : ShE S T x P k a az b bz) : (k = 0 ∧ InC S x az bz ∧ ∃ q, mB S x 1100 (60 * az + bz).toNat = some q ∧ pI S 3 q = 0 ∧ ShU S T P k az (some q)) ∨ ((k = 1 ∨ (k = 2 ∧ 0 ≤ az ∧ az ≤ 8)) ∧ ShU S T P k az none) := by
  rcases h with ⟨h1, h2, q, v, h3, h4, h5⟩ | ⟨h1, v, h5⟩ | ⟨h1, h2, h3, w, f, v, h4, h6, h5⟩
  · refine Or.inl ⟨h1, h2, q, h3, h4, fun d => ?_, fun P' hP => ?_, ?_, fun z => by omega, fun q' hq => ?_⟩
    · rw [h5, pI_sI_nf (by decide), pI_sI_nf (by decide), pI_sR]
      by_cases e : d = q
      · subst e; rw [if_pos rfl, pI_sI_same]
      · rw [if_neg (fun z => e (Option.some.inj z).symm), pI_sI_ne e]
    · rw [h5]
      exact ⟨by rw [pI_sI_nf (by decide), pI_sI_ne hP, pI_sR, pI_sI_nf (by decide)], by rw [pI_sI_nf (by decide), pI_sI_nf (by decide), pI_sR, pI_sI_nf (by decide)], by rw [pR_sI, pR_sI, pR_sR_ne hP, pR_sI]⟩
    · rw [h5, pI_sI_nf (by decide), pI_sI_same, h1]; decide
    · cases hq; rw [h5, pR_sI, pR_sI]; exact pR_sR_same
  · refine Or.inr ⟨Or.inl h1, fun d => ?_, fun P' hP => ?_, ?_, fun z => by omega, fun q' hq => by cases hq⟩
    · rw [if_neg (fun z => by cases z), h5, pI_sI_nf (by decide), pI_sI_nf (by decide), pI_sI_nf (by decide)]
    · rw [h5]
      exact ⟨by rw [pI_sI_nf (by decide), pI_sI_ne hP, pI_sI_nf (by decide)], by rw [pI_sI_nf (by decide), pI_sI_nf (by decide), pI_sI_nf (by decide)], by rw [pR_sI, pR_sI, pR_sI]⟩
    · rw [h5, pI_sI_nf (by decide), pI_sI_same, h1]; decide
  · refine Or.inr ⟨Or.inr ⟨h1, h2, h3⟩, fun d => ?_, fun P' hP => ?_, ?_, fun _ => ?_, fun q' hq => by cases hq⟩
    · rw [if_neg (fun z => by cases z), h5, pI_sI_nf (by decide), pI_sI_nf (by decide), pI_sI_nf (by decide), pI_sA]
    · rw [h5]
      exact ⟨by rw [pI_sI_nf (by decide), pI_sI_ne hP, pI_sI_nf (by decide), pI_sA], by rw [pI_sI_nf (by decide), pI_sI_nf (by decide), pI_sI_ne hP, pI_sA], by rw [pR_sI, pR_sI, pR_sI, pR_sA]⟩
    · rw [h5, pI_sI_nf (by decide), pI_sI_same, h1]; decide
    · rw [h5, pI_sI_nf (by decide), pI_sI_nf (by decide), pI_sI_same]; exact hz
theorem SH_iff {S : PS} {x mo P : Nat} {p k a b : Int} (hG : GX S) (hx : At S x 11) (hc : CT S x mo) (hs : SZ S x mo) (hl : (pI S 1102 x).toInt = (pI S 1201 mo).toInt) (h0 : 0 ≤ p) (h15 : p ≤ 15) (hP : STk S x mo p.toNat P) : ((pI S 300 P).toInt = -1 ∧ ShC S x k a b) ↔ ShR S mo p k a b := by
  obtain ⟨-, -, a3, a4, -⟩ := hP
  have hk : (pI S 300 P).toInt = -1 ↔ zA S mo 1253 p.toNat = 0 := by
    rw [a3]
    by_cases e : zA S mo 1253 p.toNat = 0
    · rw [if_pos e]; exact ⟨fun _ => e, fun _ => rfl⟩
    · rw [if_neg e]; have := a4 e; exact ⟨fun z => by omega, fun z => absurd z e⟩
  have hco : (InC S x a b ∧ ∃ q, mB S x 1100 (60 * a + b).toNat = some q ∧ pI S 3 q = 0) ↔ (0 ≤ a ∧ a < (pI S 1201 mo).toInt ∧ 0 ≤ b ∧ b < zA S mo 1202 a.toNat ∧ zA S mo 1207 (60 * a + b).toNat = 0) := by
    constructor
    · rintro ⟨⟨i1, i2, i3, i4⟩, q, q1, q2⟩
      have hm := CT_many hc i1 i2
      have e : (60 * a + b).toNat = 60 * a.toNat + b.toNat := by omega
      rw [e] at q1 ⊢
      have z := hs a.toNat b.toNat (by omega) (by omega) q q1
      exact ⟨i1, by omega, i3, by omega, z05_0 z.symm (by rw [q2]; decide)⟩
    · rintro ⟨i1, i2, i3, i4, i5⟩
      have hm := CT_many hc i1 (by omega)
      have bb := il60 hG hx a.toNat
      obtain ⟨c, c1, -⟩ := CT_get hc i1 (by omega) i3 (by omega) (by omega)
      refine ⟨⟨i1, by omega, i3, by omega⟩, c, c1, ?_⟩
      have e : (60 * a + b).toNat = 60 * a.toNat + b.toNat := by omega
      rw [e] at c1 i5
      exact Int32.toInt_inj.mp ((z05_0 (hs a.toNat b.toNat (by omega) (by omega) c c1) i5).trans (by decide))
  unfold ShC ShR
  rw [hk]
  constructor
  · rintro ⟨h1, h2⟩
    refine ⟨h0, h15, h1, ?_⟩
    rcases h2 with ⟨h3, h4⟩ | h3 | h3
    · exact Or.inl ⟨h3, hco.mp h4⟩
    · exact Or.inr (Or.inl h3)
    · exact Or.inr (Or.inr h3)
  · rintro ⟨-, -, h1, h2⟩
    refine ⟨h1, ?_⟩
    rcases h2 with ⟨h3, h4⟩ | h3 | h3
    · exact Or.inl ⟨h3, hco.mpr h4⟩
    · exact Or.inr (Or.inl h3)
    · exact Or.inr (Or.inr h3)
theorem ShR_fr {M : List Nat} {S T : PS} {mo : Nat} {p k a b : Int} (hG : GX S) (hm : At S mo 12) (hF : Fr M S T) (hM : ([1201, 1202, 1207, 1253, 10254, 10354, 11275] : List Nat).all (fun g => !M.contains g) = true) : ShR T mo p k a b ↔ ShR S mo p k a b := by
  unfold ShR
  rw [hF.I' (g := 1201) (allc hM (by decide)) hm rfl, zA_fr (g := 1202) hF hm (ex3 (gQ_12_1202 hG hm)) (allc hM (by decide)) (allc hM (by decide)), zA_fr (g := 1207) hF hm (ex3 (gQ_12_1207 hG hm)) (allc hM (by decide)) (allc hM (by decide)), zA_fr (g := 1253) hF hm (ex3 (gQ_12_1253 hG hm)) (allc hM (by decide)) (allc hM (by decide))]
theorem TXs_shelve {S1 S2 S3 : PS} {x mo : Nat} {p k : Int} {a b : Int32} {az bz : Int} {r1 r2 : Int32} (hG1 : GX S1) (hG2 : GX S2) (hx : At S1 x 11) (hm : At S1 mo 12) (hF1 : Fr eSH S1 S2) (hF2 : Fr MSH S2 S3) (hc : CT S1 x mo) (hl : (pI S1 1102 x).toInt = (pI S1 1201 mo).toInt) (hz : a.toInt = az)
    (ha : ((∃ P, (0 ≤ p ∧ p ≤ 15) ∧ mB S1 x 1109 p.toNat = some P ∧ (pI S1 300 P).toInt = -1 ∧ ShE S1 S2 x P k a az b bz) ∧ r1 = 1) ∨ ((S2 = S1 ∧ ∀ P, 0 ≤ p → p ≤ 15 → mB S1 x 1109 p.toNat = some P → ¬ ((pI S1 300 P).toInt = -1 ∧ ShC S1 x k az bz)) ∧ r1 = 0)) (hb : ((MI S3 mo ∧ ShR S2 mo p k az bz ∧ SE S2 S3 mo p k az bz) ∧ r2 = 1) ∨ ((MI S3 mo ∧ ¬ ShR S2 mo p k az bz ∧ zA S3 mo 1207 = zA S2 mo 1207 ∧ zA S3 mo 1253 = zA S2 mo 1253 ∧ zA S3 mo 1254 = zA S2 mo 1254 ∧ zA S3 mo 1255 = zA S2 mo 1255 ∧ zA S3 mo 1256 = zA S2 mo 1256) ∧ r2 = 0)) (h : TXs S1 x mo) : TXs S3 x mo ∧ r1 = r2 := by
  obtain ⟨h1, h2, h3, h4⟩ := h
  have hx2 := hF1.at hx
  have hm2 := hF1.at hm
  rw [ShR_fr hG1 hm hF1 (by decide +kernel)] at hb
  obtain ⟨a1, a2, a3⟩ := sz_same hG1 hx hF1 (by decide +kernel)
  obtain ⟨b1, b2, b3⟩ := sz_same hG2 hx2 hF2 (by decide +kernel)
  have z7 := z7_same hG1 hm hF1 (by decide +kernel)
  obtain ⟨m3, m4, m5, m6⟩ := shz_same hG1 hm hF1 (by decide +kernel)
  have i3 : ∀ c, At S2 c 0 → pI S3 3 c = pI S2 3 c := fun c hc => hF2.I' (by decide +kernel) hc rfl
  have ra3 : RA S3 x = RA S1 x := (RA_eq hG2 hx2 hF2 (by decide +kernel)).trans (RA_eq hG1 hx hF1 (by decide +kernel))
  have hB3 : ∀ c, RH (RA S3 x) S3 c → RH (RA S1 x) S1 c := fun c ⟨q, i, q1, q2⟩ => by
    rw [ra3] at q1
    have hq := RA_at hG1 hx q1
    rw [hF2.B' (k := 16) (by decide +kernel) (hF1.at hq), hF1.B' (k := 16) (by decide +kernel) hq] at q2
    exact ⟨q, i, q1, q2⟩
  have sh3 : mB S3 x 1109 = mB S1 x 1109 := (mB_frc hF2 hx2 (ex3 (gQ_11_1109 hG2 hx2)) (by decide +kernel) (by decide +kernel)).trans (mB_frc hF1 hx (ex3 (gQ_11_1109 hG1 hx)) (by decide +kernel) (by decide +kernel))
  have sd3 : SD S3 x := by unfold SD; rw [sh3]; exact h4
  rcases ha with ⟨⟨P, ⟨p0, p15⟩, hP, hk, hE⟩, ha5⟩ | ⟨⟨ha1, ha2⟩, ha5⟩
  · obtain ⟨P0, st0⟩ := h3 p.toNat (by omega)
    have eP : P0 = P := Option.some.inj (st0.1.symm.trans hP)
    subst eP
    have hiff := SH_iff (k := k) (a := az) (b := bz) hG1 hx hc h1 hl p0 p15 st0
    have hU := ShE_U hz hE
    have hC : ShC S1 x k az bz := by
      rcases hU with ⟨u1, u2, q, u3, u4, -⟩ | ⟨u1, -⟩
      · exact Or.inl ⟨u1, u2, q, u3, u4⟩
      · rcases u1 with u | u
        · exact Or.inr (Or.inl u)
        · exact Or.inr (Or.inr u)
    rcases hb with ⟨⟨-, hb1, e53, e54, e55, e7, e56⟩, hb3⟩ | ⟨⟨-, hb1, -⟩, -⟩
    rotate_left
    · exact absurd (hiff.mp ⟨hk, hC⟩) hb1
    refine ⟨⟨?_, ?_, ?_, sd3⟩, ha5.trans hb3.symm⟩
    · intro l i k1 k2 c k3
      rw [b1, a1] at k1
      rw [b2, a2] at k2
      rw [b3, a3] at k3
      have hc0 := mB_at hG1 hx k3
      rw [i3 c (hF1.at hc0), e7, z7]
      rcases hU with ⟨u1, ⟨g1, g2, g3, g4⟩, q, u3, u4, u5, -⟩ | ⟨u1, u5, -⟩
      · rw [u5, if_pos u1]
        have e : (60 * az + bz).toNat = 60 * az.toNat + bz.toNat := by omega
        by_cases ec : q = c
        · subst ec
          rw [if_pos rfl]
          rw [e] at u3
          have := CT_inj hG1 hx hc k1 k2 (by omega) (by omega) k3 u3
          rw [if_pos (by omega)]
          rfl
        · rw [if_neg (fun z => ec (Option.some.inj z))]
          rw [if_neg (fun z => ec (by rw [← z] at u3; rw [u3] at k3; exact Option.some.inj k3))]
          exact h1 l i k1 k2 c k3
      · rw [u5, if_neg (fun z => by cases z), if_neg (by omega)]
        exact h1 l i k1 k2 c k3
    · intro c hc3
      trivial
    · intro k' hk'
      obtain ⟨P', st'⟩ := h3 k' hk'
      have hAt := hF2.at (hF1.at st'.2.1)
      have f0 : pI S3 300 P' = pI S2 300 P' := hF2.I' (by decide +kernel) (hF1.at st'.2.1) rfl
      have f1 : pI S3 301 P' = pI S2 301 P' := hF2.I' (by decide +kernel) (hF1.at st'.2.1) rfl
      have f3 : pR S3 303 P' = pR S2 303 P' := frR hF2 (by decide +kernel) (hF1.at st'.2.1).1
      by_cases ek : k' = p.toNat
      · have eP' : P' = P0 := Option.some.inj (st'.1.symm.trans (by rw [ek]; exact hP))
        subst eP'
        have g53 : zA S3 mo 1253 k' = 1 := by rw [e53, if_pos ek]
        have g54 : zA S3 mo 1254 k' = k := by rw [e54, if_pos ek]
        have hkk : 0 ≤ k ∧ k ≤ 2 := by
          rcases hU with ⟨u1, -⟩ | ⟨u1 | ⟨u1, -⟩, -⟩ <;> omega
        refine ⟨P', by rw [sh3]; exact st'.1, hAt, ?_, fun _ => by rw [g54]; exact hkk, fun _ z => ?_, fun _ z => ?_⟩
        · rw [f0, g53, if_neg (by omega), g54]
          rcases hU with ⟨u1, -, q, -, -, -, -, u6, -⟩ | ⟨u1, -, -, u6, -⟩ <;> exact u6
        · rw [g54] at z
          rw [f3, e55, if_pos z, if_pos ek]
          rcases hU with ⟨u1, ⟨g1, g2, g3, g4⟩, q, u3, -, -, -, -, -, u7⟩ | ⟨u1 | ⟨u1, -⟩, -⟩
          · refine ⟨az.toNat, bz.toNat, q, by omega, by rw [b1, a1]; omega, by rw [b2, a2]; omega, ?_, u7 q rfl⟩
            rw [b3, a3, show 60 * az.toNat + bz.toNat = (60 * az + bz).toNat by omega]; exact u3
          · omega
          · omega
        · rw [g54] at z
          rw [f1, e56, if_pos z, if_pos ek]
          rcases hU with ⟨u1, -⟩ | ⟨u1, -, -, -, u7, -⟩
          · omega
          · exact u7 z
      · have hne : P' ≠ P0 := fun e => h4 k' p.toNat hk' (by omega) ek (by rw [st'.1, hP, e])
        have hs : pI S2 300 P' = pI S1 300 P' ∧ pI S2 301 P' = pI S1 301 P' ∧ pR S2 303 P' = pR S1 303 P' := by
          rcases hU with ⟨-, -, q, -, -, -, u6, -⟩ | ⟨-, -, u6, -⟩ <;> exact u6 P' hne
        refine ⟨P', STk_to (congrFun sh3 k') hAt (f0.trans hs.1) (f1.trans hs.2.1) (f3.trans hs.2.2) ?_ ?_ ?_ ?_ (Lai_to (b1.trans a1) (b2.trans a2) (b3.trans a3)) st'⟩
        · rw [e53, if_neg ek, m3]
        · rw [e54, if_neg ek, m4]
        · rw [e55, if_neg ek, if_neg ek, m5]; split <;> rfl
        · rw [e56, if_neg ek, m6]; split <;> rfl
  · subst ha1
    rcases hb with ⟨⟨-, hb1, -⟩, -⟩ | ⟨⟨-, hb1, e7, e53, e54, e55, e56⟩, hb3⟩
    · exfalso
      obtain ⟨P0, st0⟩ := h3 p.toNat (by have := hb1.2.1; have := hb1.1; omega)
      exact ha2 P0 hb1.1 hb1.2.1 st0.1 ((SH_iff hG1 hx hc h1 hl hb1.1 hb1.2.1 st0).mpr hb1)
    · refine ⟨⟨SZ_to b1 b2 b3 (fun j c hc => by rw [i3 c (mB_at hG1 hx hc)]) (fun j => by rw [e7]) h1, fun c hc3 => ?_, fun k' hk' => ?_, sd3⟩, ha5.trans hb3.symm⟩
      · trivial
      · obtain ⟨P', st'⟩ := h3 k' hk'
        exact ⟨P', STk_to (congrFun sh3 k') (hF2.at st'.2.1) (hF2.I' (by decide +kernel) st'.2.1 rfl) (hF2.I' (by decide +kernel) st'.2.1 rfl) (frR hF2 (by decide +kernel) st'.2.1.1) (by rw [e53]) (by rw [e54]) (by rw [e55]) (by rw [e56]) (Lai_to b1 b2 b3) st'⟩
/-! ===== take ===== -/
def TkU (S T : PS) (P : Nat) (oq : Option Nat) : Prop := (∀ d, pI T 3 d = @ite Int32 (oq = some d) (Classical.propDecidable _) 0 (pI S 3 d)) ∧ (∀ P', P' ≠ P → pI T 300 P' = pI S 300 P') ∧ pI T 300 P = -1 ∧ (∀ a, pI T 301 a = pI S 301 a) ∧ ∀ a, pR T 303 a = pR S 303 a
theorem TkU_0 {S T : PS} {x P : Nat} {v : Int32} (e : T = sI (sI S 1110 x v) 300 P (-1)) : TkU S T P none := by
  subst e
  refine ⟨fun d => ?_, fun P' hP => ?_, pI_sI_same, fun a => ?_, fun a => ?_⟩
  · rw [if_neg (fun z => by cases z), pI_sI_nf (by decide), pI_sI_nf (by decide)]
  · rw [pI_sI_ne hP, pI_sI_nf (by decide)]
  · rw [pI_sI_nf (by decide), pI_sI_nf (by decide)]
  · rw [pR_sI, pR_sI]
theorem TkU_1 {S T : PS} {x P q : Nat} {v : Int32} (e : T = sI (sI (sI S 1110 x v) 300 P (-1)) 3 q 0) : TkU S T P (some q) := by
  subst e
  refine ⟨fun d => ?_, fun P' hP => ?_, ?_, fun a => ?_, fun a => ?_⟩
  · by_cases e : d = q
    · subst e; rw [if_pos rfl, pI_sI_same]
    · rw [if_neg (fun z => e (Option.some.inj z).symm), pI_sI_ne e, pI_sI_nf (by decide), pI_sI_nf (by decide)]
  · rw [pI_sI_nf (by decide), pI_sI_ne hP, pI_sI_nf (by decide)]
  · rw [pI_sI_nf (by decide), pI_sI_same]
  · rw [pI_sI_nf (by decide), pI_sI_nf (by decide), pI_sI_nf (by decide)]
  · rw [pR_sI, pR_sI, pR_sI]
theorem TXs_taken {S1 S2 S3 : PS} {x mo P n : Nat} {oq : Option Nat} (hG1 : GX S1) (hG2 : GX S2) (hx : At S1 x 11) (hm : At S1 mo 12) (hF1 : Fr eTA S1 S2) (hF2 : Fr MSH S2 S3) (hc : CT S1 x mo) (hn : n < 16) (hP : STk S1 x mo n P) (hU : TkU S1 S2 P oq) (e53 : ∀ j, zA S3 mo 1253 j = if j = n then 0 else zA S2 mo 1253 j) (e54 : zA S3 mo 1254 = zA S2 mo 1254) (e55 : zA S3 mo 1255 = zA S2 mo 1255) (e56 : zA S3 mo 1256 = zA S2 mo 1256)
    (hq : (oq = none ∧ zA S3 mo 1207 = zA S2 mo 1207) ∨ ∃ q l i : Nat, oq = some q ∧ (l : Int) < (pI S1 1102 x).toInt ∧ (i : Int) < zA S1 x 1101 l ∧ mB S1 x 1100 (60 * l + i) = some q ∧ (pI S1 3 q).toInt = 5 ∧ ∀ j, zA S3 mo 1207 j = if j = 60 * l + i then 0 else zA S2 mo 1207 j) (h : TXs S1 x mo) : TXs S3 x mo := by
  obtain ⟨h1, h2, h3, h4⟩ := h
  have hx2 := hF1.at hx
  have hm2 := hF1.at hm
  obtain ⟨a1, a2, a3⟩ := sz_same hG1 hx hF1 (by decide +kernel)
  obtain ⟨b1, b2, b3⟩ := sz_same hG2 hx2 hF2 (by decide +kernel)
  have z7 := z7_same hG1 hm hF1 (by decide +kernel)
  obtain ⟨m3, m4, m5, m6⟩ := shz_same hG1 hm hF1 (by decide +kernel)
  have i3 : ∀ c, At S2 c 0 → pI S3 3 c = pI S2 3 c := fun c hc => hF2.I' (by decide +kernel) hc rfl
  have ra3 : RA S3 x = RA S1 x := (RA_eq hG2 hx2 hF2 (by decide +kernel)).trans (RA_eq hG1 hx hF1 (by decide +kernel))
  have hB3 : ∀ c, RH (RA S3 x) S3 c → RH (RA S1 x) S1 c := fun c ⟨q, i, q1, q2⟩ => by
    rw [ra3] at q1
    have hq := RA_at hG1 hx q1
    rw [hF2.B' (k := 16) (by decide +kernel) (hF1.at hq), hF1.B' (k := 16) (by decide +kernel) hq] at q2
    exact ⟨q, i, q1, q2⟩
  have sh3 : mB S3 x 1109 = mB S1 x 1109 := (mB_frc hF2 hx2 (ex3 (gQ_11_1109 hG2 hx2)) (by decide +kernel) (by decide +kernel)).trans (mB_frc hF1 hx (ex3 (gQ_11_1109 hG1 hx)) (by decide +kernel) (by decide +kernel))
  obtain ⟨u1, u2, u3, u4, u5⟩ := hU
  refine ⟨fun l i k1 k2 c k3 => ?_, fun c hc3 => ?_, fun k' hk' => ?_, by unfold SD; rw [sh3]; exact h4⟩
  · rw [b1, a1] at k1
    rw [b2, a2] at k2
    rw [b3, a3] at k3
    have hc0 := mB_at hG1 hx k3
    rw [i3 c (hF1.at hc0), u1]
    rcases hq with ⟨q1, q2⟩ | ⟨q, l0, i0, q1, q2, q3, q4, q5, q6⟩
    · rw [q1, if_neg (fun z => by cases z), q2, z7]; exact h1 l i k1 k2 c k3
    · rw [q1, q6, z7]
      by_cases ec : q = c
      · subst ec
        have := CT_inj hG1 hx hc k1 k2 q2 q3 k3 q4
        rw [if_pos rfl, if_pos (by omega)]; rfl
      · rw [if_neg (fun z => ec (Option.some.inj z)), if_neg (fun z => ec (by rw [← z] at q4; rw [q4] at k3; exact Option.some.inj k3))]
        exact h1 l i k1 k2 c k3
  · trivial
  · obtain ⟨P', st'⟩ := h3 k' hk'
    have hAt := hF2.at (hF1.at st'.2.1)
    have f0 : pI S3 300 P' = pI S2 300 P' := hF2.I' (by decide +kernel) (hF1.at st'.2.1) rfl
    have f1 : pI S3 301 P' = pI S1 301 P' := (hF2.I' (by decide +kernel) (hF1.at st'.2.1) rfl).trans (u4 P')
    have f3 : pR S3 303 P' = pR S1 303 P' := (frR hF2 (by decide +kernel) (hF1.at st'.2.1).1).trans (u5 P')
    by_cases ek : k' = n
    · have eP' : P' = P := Option.some.inj (st'.1.symm.trans (by rw [ek]; exact hP.1))
      subst eP'
      have g53 : zA S3 mo 1253 k' = 0 := by rw [e53, if_pos ek]
      refine ⟨P', by rw [sh3]; exact st'.1, hAt, ?_, fun z => absurd g53 z, fun z => absurd g53 z, fun z => absurd g53 z⟩
      rw [f0, u3, g53, if_pos rfl]; decide
    · have hne : P' ≠ P := fun e => h4 k' n hk' hn ek (by rw [st'.1, hP.1, e])
      exact ⟨P', STk_to (congrFun sh3 k') hAt (f0.trans (u2 P' hne)) f1 f3 (by rw [e53, if_neg ek, m3]) (by rw [e54, m4]) (by rw [e55, m5]) (by rw [e56, m6]) (Lai_to (b1.trans a1) (b2.trans a2) (b3.trans a3)) st'⟩
theorem TXs_same {S1 S3 : PS} {x mo : Nat} (hG1 : GX S1) (hx : At S1 x 11) (hm : At S1 mo 12) (hF2 : Fr MSH S1 S3) (e7 : zA S3 mo 1207 = zA S1 mo 1207) (e53 : zA S3 mo 1253 = zA S1 mo 1253) (e54 : zA S3 mo 1254 = zA S1 mo 1254) (e55 : zA S3 mo 1255 = zA S1 mo 1255) (e56 : zA S3 mo 1256 = zA S1 mo 1256) (h : TXs S1 x mo) : TXs S3 x mo := by
  obtain ⟨h1, h2, h3, h4⟩ := h
  obtain ⟨b1, b2, b3⟩ := sz_same hG1 hx hF2 (by decide +kernel)
  refine ⟨SZ_to b1 b2 b3 (fun j c hc => by rw [hF2.I' (by decide +kernel) (mB_at hG1 hx hc) rfl]) (fun j => by rw [e7]) h1, IA_fr hG1 hx hF2 (by decide +kernel) (by decide +kernel) (by decide +kernel) h2, fun k' hk' => ?_, SD_fr hG1 hx hF2 (by decide +kernel) h4⟩
  obtain ⟨P', st'⟩ := h3 k' hk'
  exact ⟨P', STk_to (congrFun (mB_frc hF2 hx (ex3 (gQ_11_1109 hG1 hx)) (by decide +kernel) (by decide +kernel)) k') (hF2.at st'.2.1) (hF2.I' (by decide +kernel) st'.2.1 rfl) (hF2.I' (by decide +kernel) st'.2.1 rfl) (frR hF2 (by decide +kernel) st'.2.1.1) (by rw [e53]) (by rw [e54]) (by rw [e55]) (by rw [e56]) (Lai_to b1 b2 b3) st'⟩
theorem TXs_take {S1 S2 S3 : PS} {x mo : Nat} {p k r1 r2 : Int} (hG1 : GX S1) (hG2 : GX S2) (hx : At S1 x 11) (hm : At S1 mo 12) (hF1 : Fr eTA S1 S2) (hF2 : Fr MTA S2 S3) (hc : CT S1 x mo) (hl : (pI S1 1102 x).toInt = (pI S1 1201 mo).toInt) (hMI : MI S1 mo)
    (ha1 : ¬ (0 ≤ p ∧ p ≤ 15 ∧ 0 ≤ k ∧ k ≤ 2) → r1 = -1 ∧ S2 = S1) (ha2 : 0 ≤ p ∧ p ≤ 15 ∧ 0 ≤ k ∧ k ≤ 2 → ∀ P, mB S1 x 1109 p.toNat = some P → TkO S1 S2 x P k r1)
    (hb1 : ¬ (0 ≤ p ∧ p ≤ 15 ∧ 0 ≤ k ∧ k ≤ 2) → r2 = -1 ∧ zA S3 mo 1207 = zA S2 mo 1207 ∧ zA S3 mo 1253 = zA S2 mo 1253) (hb2 : 0 ≤ p ∧ p ≤ 15 ∧ 0 ≤ k ∧ k ≤ 2 → TkR S2 S3 mo p k r2) (h : TXs S1 x mo) : TXs S3 x mo := by
  have hm2 := hF1.at hm
  have hF3 : Fr MSH S2 S3 := hF2.mono (by decide +kernel)
  have g54 : zA S3 mo 1254 = zA S2 mo 1254 := zA_fr hF2 hm2 (ex3 (gQ_12_1254 hG2 hm2)) (by decide +kernel) (by decide +kernel)
  have g55 : zA S3 mo 1255 = zA S2 mo 1255 := zA_fr hF2 hm2 (ex3 (gQ_12_1255 hG2 hm2)) (by decide +kernel) (by decide +kernel)
  have g56 : zA S3 mo 1256 = zA S2 mo 1256 := zA_fr hF2 hm2 (ex3 (gQ_12_1256 hG2 hm2)) (by decide +kernel) (by decide +kernel)
  by_cases c0 : 0 ≤ p ∧ p ≤ 15 ∧ 0 ≤ k ∧ k ≤ 2
  rotate_left
  · obtain ⟨-, e⟩ := ha1 c0
    subst e
    obtain ⟨-, e7, e53⟩ := hb1 c0
    exact TXs_same hG1 hx hm hF3 e7 e53 g54 g55 g56 h
  obtain ⟨P, st⟩ := h.2.2.1 p.toNat (by omega)
  have hO := ha2 c0 P st.1
  have hR := hb2 c0
  obtain ⟨m3, m4, m5, m6⟩ := shz_same hG1 hm hF1 (by decide +kernel)
  have hst := st
  obtain ⟨s1, s2, s3, s4, s5, s6⟩ := hst
  unfold TkR at hR
  rw [m3, m4, m5, m6] at hR
  by_cases z53 : zA S1 mo 1253 p.toNat = 0
  · rw [if_pos z53] at s3
    rcases hR with ⟨-, -, e7, e53⟩ | ⟨q, -⟩ | ⟨q, -⟩ | ⟨q, -⟩ | ⟨q, -⟩ | ⟨q, -⟩
    · have e : S2 = S1 := by
        rcases hO with ⟨-, -, e⟩ | ⟨q, -⟩ | ⟨q1, q2, -⟩ | ⟨q1, q2, -⟩ | ⟨q1, q2, -⟩ | ⟨q1, q2, -⟩
        · exact e
        · exact absurd s3 q
        · omega
        · omega
        · omega
        · omega
      subst e
      exact TXs_same hG1 hx hm hF3 e7 (e53.trans m3.symm) g54 g55 g56 h
    · exact absurd z53 q
    · exact absurd z53 q
    · exact absurd z53 q
    · exact absurd z53 q
    · exact absurd z53 q
  · rw [if_neg z53] at s3
    have hla := s4 z53
    rcases hR with ⟨q, -⟩ | ⟨-, n1, -, e7, e53⟩ | ⟨-, n1, n2, n3, -, e7, e53⟩ | ⟨-, n1, n2, n3, e7, e53⟩ | ⟨-, n1, n2, -, e7, e53⟩ | ⟨-, n1, n2, -, e7, e53⟩
    · exact absurd q z53
    · have e : S2 = S1 := by
        rcases hO with ⟨-, -, e⟩ | ⟨-, -, -, e⟩ | ⟨q1, -⟩ | ⟨q1, -⟩ | ⟨q1, -⟩ | ⟨q1, -⟩
        · exact e
        · exact e
        · omega
        · omega
        · omega
        · omega
      subst e
      exact TXs_same hG1 hx hm hF3 e7 (e53.trans m3.symm) g54 g55 g56 h
    · have w := s6 z53 (by omega)
      have e : S2 = S1 := by
        rcases hO with ⟨-, -, e⟩ | ⟨-, -, -, e⟩ | ⟨-, -, -, -, e⟩ | ⟨-, -, q1, -⟩ | ⟨-, q1, -⟩ | ⟨-, q1, -⟩
        · exact e
        · exact e
        · exact e
        · omega
        · omega
        · omega
      subst e
      exact TXs_same hG1 hx hm hF3 e7 (e53.trans m3.symm) g54 g55 g56 h
    · have w := s6 z53 (by omega)
      have hU : ∃ v, S2 = sI (sI S1 1110 x v) 300 P (-1) := by
        rcases hO with ⟨q1, -⟩ | ⟨-, q1, -⟩ | ⟨-, -, q1, -⟩ | ⟨-, -, -, e⟩ | ⟨-, q1, -⟩ | ⟨-, q1, -⟩
        · omega
        · omega
        · omega
        · exact e
        · omega
        · omega
      obtain ⟨v, e⟩ := hU
      exact TXs_taken hG1 hG2 hx hm hF1 hF3 hc (by omega) st (TkU_0 e) (fun j => by rw [e53 j, m3]) g54 g55 g56 (Or.inl ⟨rfl, e7⟩) h
    · have hU : ∃ v, S2 = sI (sI S1 1110 x v) 300 P (-1) := by
        rcases hO with ⟨q1, -⟩ | ⟨-, q1, -⟩ | ⟨-, q1, -⟩ | ⟨-, q1, -⟩ | ⟨-, -, -, e⟩ | ⟨-, q1, -⟩
        · omega
        · omega
        · omega
        · omega
        · exact e
        · omega
      obtain ⟨v, e⟩ := hU
      exact TXs_taken hG1 hG2 hx hm hF1 hF3 hc (by omega) st (TkU_0 e) (fun j => by rw [e53 j, m3]) g54 g55 g56 (Or.inl ⟨rfl, e7⟩) h
    · have hM := hMI.2.2.2.2.1.1 p.toNat (by omega) z53 (by omega)
      have r3 := s5 z53 (by omega)
      obtain ⟨d1, d2, d3⟩ := hM
      obtain ⟨l, i, q, g1, g2, g3, g4, g5⟩ := r3
      have hfree : ∃ q l i : Nat, pR S1 303 P = some q ∧ (l : Int) < (pI S1 1102 x).toInt ∧ (i : Int) < zA S1 x 1101 l ∧ mB S1 x 1100 (60 * l + i) = some q ∧ (pI S1 3 q).toInt = 5 ∧ (zA S1 mo 1255 p.toNat).toNat = 60 * l + i := by
        refine ⟨q, l, i, g5, g2, g3, g4, z05_5 (h.1 l i g2 g3 q g4) ?_, by omega⟩
        rw [show (zA S1 mo 1255 p.toNat).toNat = 60 * l + i by omega] at d3
        exact d3
      obtain ⟨q, l, i, q1, q2, q3, q4, q5, q6⟩ := hfree
      have hU : ∃ v, S2 = sI (sI (sI S1 1110 x v) 300 P (-1)) 3 q 0 := by
        rcases hO with ⟨q1', -⟩ | ⟨-, q1', -⟩ | ⟨-, q1', -⟩ | ⟨-, q1', -⟩ | ⟨-, q1', -⟩ | ⟨-, -, ⟨q1', -⟩ | ⟨q', v, w1, -, w2⟩⟩
        · omega
        · omega
        · omega
        · omega
        · omega
        · rw [q1] at q1'; cases q1'
        · rw [q1] at w1; cases w1; exact ⟨v, w2⟩
      obtain ⟨v, e⟩ := hU
      exact TXs_taken hG1 hG2 hx hm hF1 hF3 hc (by omega) st (TkU_1 e) (fun j => by rw [e53 j, m3]) g54 g55 g56 (Or.inr ⟨q, l, i, rfl, q2, q3, q4, q5, fun j => by rw [e7 j, q6]⟩) h
theorem ShI_mo {S2 S3 S4 : PS} {x mo sh : Nat} (hg : GX S2) (hx : At S2 x 11) (hs : pR S2 1109 x = some sh) (hmo : mo ∉ pL S2) (e3 : S3 = sO S2 mo 192) (ha3 : At S3 mo 192) (hK : Kq S3 S4 mo) (h : ShI S2 sh 16) : ShI S4 sh 16 := by
  obtain ⟨sh', k1, k2, -⟩ := gQ_11_1109 hg hx
  rw [hs] at k1
  cases k1
  have h3 : At S3 sh 17 := by rw [e3]; exact At_sO k2 hmo
  refine ShI_to (T := S3) (ShI_to h (by rw [e3]; rfl) (fun a ha => ⟨by rw [e3]; exact At_sO ha hmo, by rw [e3]; exact pI_sO_ne (ne_of_new hmo ha.1), by rw [e3]; exact pR_sO_ne (ne_of_new hmo ha.1)⟩) (fun a z => by rw [e3]; exact List.mem_append_left _ z)) ((hK sh h3.1).2 (At_ne h3 ha3 (by decide))).2.2.2.2.2 (fun a ha => ⟨Kq.at hK ha3 ha (by decide), ((hK a ha.1).2 (At_ne ha ha3 (by decide))).2.1 300, ((hK a ha.1).2 (At_ne ha ha3 (by decide))).2.2.1 302⟩) (fun a z => (hK a z).1)
