/-! ===== pieces among the ties ===== -/
def RwO (S : PS) (P : Nat) : Prop := ∀ (g R : Nat) (L : List Nat) (n c : Nat), g ∈ rowG → pR S g P = some R → RowIs S R L n → c ∈ L → pI S 5 c = pI S 410 P ∧ nz5 (pI S 3 c)
def PgQ (S : PS) (x mo : Nat) (ν : Nat → Nat) (p P G : Nat) (g : List Mt) : Prop := GrW S mo p (g.map (mtN ν)) ∧ (∀ m, m ∈ g → ∀ z, z ∈ m → DC S x z.1 ∧ pI S 5 z.1 = pI S 410 P ∧ nz5 (pI S 3 z.1)) ∧ DsO S G ∧ PieV S G g ∧ LpZ S g
def SkQ (S : PS) (x mo : Nat) (ν : Nat → Nat) (K : Nat) : Prop := ∀ k o b : Nat, (k : Int) < (pI S 800 K).toInt → mB S K 808 k = some o → pR S 703 o = some b → ∃ g, GsW S mo k (g.map (mtN ν)) ∧ (∀ m, m ∈ g → ∀ z, z ∈ m → DC S x z.1) ∧ PieV S b g
def PcO (S : PS) (x : Nat) : Prop := ∀ p q P Q G H : Nat, (p : Int) < (pI S 1104 x).toInt → (q : Int) < (pI S 1104 x).toInt → p ≠ q → mB S x 1103 p = some P → mB S x 1103 q = some Q → pR S 403 P = some G → pR S 403 Q = some H → ∀ g g', g ∈ pcG → g' ∈ pcG → pR S g G ≠ pR S g' H
def PcT (S : PS) (x mo : Nat) : Prop := ∀ ν, NuP S x ν → (∀ K, pR S 1107 x = some K → SkQ S x mo ν K) ∧ (∀ p P G : Nat, (p : Int) < (pI S 1104 x).toInt → mB S x 1103 p = some P → pR S 403 P = some G → RwO S P ∧ ∃ g, PgQ S x mo ν p P G g) ∧ PcO S x
def pctN : List Nat := [1107, 800, 808, 10019, 703, 1104, 1103, 10018, 403, 400, 401, 402, 500, 501, 502, 10016, 410, 5, 0, 1, 6, 904, 905, 906, 907, 908, 10014, 11654, 1235, 1236, 1237, 1239, 10914, 10934, 10954, 10994]
def pctL : List Nat := szC ++ pctN
def pctM : List Nat := pctL ++ [3]
def skqL : List Nat := [800, 808, 10019, 703, 0, 1, 6, 904, 905, 906, 907, 908, 10014, 11654, 1235, 1236, 1239, 10914, 10934, 10994]
theorem NuP_bk {M : List Nat} {S T : PS} {x : Nat} {ν : Nat → Nat} (hG : GX S) (hx : At S x 11) (hF : Fr M S T) (hM : szC.all (fun g => !M.contains g) = true) (h : NuP T x ν) : NuP S x ν := fun l i c h1 h2 h3 => by
  obtain ⟨a1, a2, a3⟩ := sz_same hG hx hF hM
  exact h l i c (by rw [a1]; exact h1) (by rw [a2]; exact h2) (by rw [a3]; exact h3)
theorem rw_g {S : PS} {P g R : Nat} (hG : GX S) (hP : At S P 4) (hg : g ∈ rowG) (h : pR S g P = some R) : At S R 5 := by
  simp only [rowG, List.mem_cons, List.not_mem_nil, or_false] at hg
  rcases hg with e | e | e <;> subst e
  · exact row_at hG hP (Or.inl h)
  · exact row_at hG hP (Or.inr (Or.inl h))
  · exact row_at hG hP (Or.inr (Or.inr h))
theorem mt_fr3 {M : List Nat} {S T : PS} {mo m : Nat} {t : Mt} (hG : GX S) (hm : At S mo 12) (hF : Fr M S T) (hM : ([1235, 1236, 10914, 10934] : List Nat).all (fun g => !M.contains g) = true) (h : MtR S mo m t) : MtR T mo m t := MtR_eq (zA_fr hF hm (ex3 (gQ_12_1235 hG hm)) (allc hM (by decide)) (allc hM (by decide))) (zA_fr hF hm (ex3 (gQ_12_1236 hG hm)) (allc hM (by decide)) (allc hM (by decide))) h
theorem GsW_fr {M : List Nat} {S T : PS} {mo k : Nat} {g : List Mt} (hG : GX S) (hm : At S mo 12) (hF : Fr M S T) (hM : ([1235, 1236, 10914, 10934, 1239, 10994] : List Nat).all (fun g => !M.contains g) = true) (h : GsW S mo k g) : GsW T mo k g := by
  have e : zA T mo 1239 = zA S mo 1239 := zA_fr hF hm (ex3 (gQ_12_1239 hG hm)) (allc hM (by decide)) (allc hM (by decide))
  unfold GsW
  rw [e]
  exact ⟨h.1, fun j t hj => mt_fr3 hG hm hF (sub_all hM (by decide)) (h.2 j t hj)⟩
theorem GrW_fr {M : List Nat} {S T : PS} {mo p : Nat} {g : List Mt} (hG : GX S) (hm : At S mo 12) (hF : Fr M S T) (hM : ([1235, 1236, 10914, 10934, 1237, 10954] : List Nat).all (fun g => !M.contains g) = true) (h : GrW S mo p g) : GrW T mo p g := GrW_eq (zA_fr hF hm (ex3 (gQ_12_1235 hG hm)) (allc hM (by decide)) (allc hM (by decide))) (zA_fr hF hm (ex3 (gQ_12_1236 hG hm)) (allc hM (by decide)) (allc hM (by decide))) (congrFun (zA_fr hF hm (ex3 (gQ_12_1237 hG hm)) (allc hM (by decide)) (allc hM (by decide))) p) h
def pieL : List Nat := [0, 1, 6, 904, 905, 906, 907, 908, 10014, 11654]
theorem pie_pk {M : List Nat} (hM : pieL.all (fun g => !M.contains g) = true) {g : Nat} (hg : g ∈ pcG) : M.contains g = false := allc hM (by
  simp only [pcG, List.mem_cons, List.not_mem_nil, or_false] at hg
  simp only [pieL, List.mem_cons, List.not_mem_nil, or_false]
  omega)
theorem cd_fr {M : List Nat} {S T : PS} {c : Nat} (hF : Fr M S T) (h0 : M.contains 0 = false) (h1 : M.contains 1 = false) (hc : At S c 0) : cdS T c = cdS S c := by
  unfold cdS
  rw [hF.I' (g := 0) h0 hc rfl, hF.I' (g := 1) h1 hc rfl]
theorem PieV_fr {M : List Nat} {S T : PS} {q : Nat} {g : List Mt} (hG : GX S) (hq : At S q 9 ∨ At S q 29) (hg : MtA S g) (hF : Fr M S T) (hM : pieL.all (fun g => !M.contains g) = true) (h : PieV S q g) : PieV T q g := PieV_to (hq.elim (fun z => hF.I' (g := 904) (allc hM (by decide)) z rfl) (fun z => hF.I' (g := 904) (allc hM (by decide)) z rfl)) (fun k hk => mA_rw (frR hF (pie_pk hM hk) (hq.elim (fun z => z.1) (fun z => z.1))) (fun b hb => hq.elim (fun z => hF.A' (allc hM (by decide)) (pc_ar9 hG z hk hb)) (fun z => hF.A' (allc hM (by decide)) (pc_ar hG z hk hb)))) (fun i p hp => cd_fr hF (allc hM (by decide)) (allc hM (by decide)) (pc_at hg hp)) h
theorem LpZ_fr {M : List Nat} {S T : PS} {g : List Mt} (hg : MtA S g) (hF : Fr M S T) (h6 : M.contains 6 = false) (h : LpZ S g) : LpZ T g := fun i p hp hl => by
  rw [hF.I' (g := 6) h6 (pc_at hg hp) rfl]
  exact h i p hp hl
theorem SkQ_fr {M : List Nat} {S T : PS} {x mo K : Nat} {ν : Nat → Nat} (hG : GX S) (hx : At S x 11) (hm : At S mo 12) (hK : At S K 8) (hF : Fr M S T) (hM : skqL.all (fun g => !M.contains g) = true) (hd : ∀ c, DC S x c → DC T x c) (h : SkQ S x mo ν K) : SkQ T x mo ν K := fun k o b h1 h2 h3 => by
  rw [hF.I' (g := 800) (allc hM (by decide)) hK rfl] at h1
  rw [mB_frc hF hK (ex3 (gQ_8_808 hG hK)) (allc hM (by decide)) (allc hM (by decide))] at h2
  have ho := sk_at hG hK h2
  rw [frR hF (g := 703) (allc hM (by decide)) ho.1] at h3
  obtain ⟨g, k1, k2, k3⟩ := h k o b h1 h2 h3
  exact ⟨g, GsW_fr hG hm hF (sub_all hM (by decide)) k1, fun m hm' z hz => hd _ (k2 m hm' z hz), PieV_fr hG (Or.inl (sk_str hG ho h3)) (fun m hm' z hz => dc_at hG hx _ (k2 m hm' z hz)) hF (sub_all hM (by decide)) k3⟩
theorem RwO_fr {M : List Nat} {S T : PS} {P : Nat} (hG : GX S) (hP : At S P 4) (hF : Fr M S T) (hM : ([400, 401, 402, 500, 501, 502, 10016, 5, 410] : List Nat).all (fun g => !M.contains g) = true) (h3 : ∀ c, At S c 0 → nz5 (pI S 3 c) → nz5 (pI T 3 c)) (h : RwO S P) : RwO T P := fun g R L n c hg hR hL hc => by
  have hk : M.contains g = false := allc hM (by
    simp only [rowG, List.mem_cons, List.not_mem_nil, or_false] at hg
    simp only [List.mem_cons, List.not_mem_nil, or_false]
    omega)
  rw [frR hF hk hP.1] at hR
  have hR5 := rw_g hG hP hg hR
  have hL' := RowIs_bk hG hR5 hF (sub_all hM (by decide)) hL
  have hc0 := row_el hG hR5 hL' hc
  obtain ⟨a, b⟩ := h g R L n c hg hR hL' hc
  rw [hF.I' (g := 5) (allc hM (by decide)) hc0 rfl, hF.I' (g := 410) (allc hM (by decide)) hP rfl]
  exact ⟨a, h3 c hc0 b⟩
theorem PcT_g {M : List Nat} {S T : PS} {x mo : Nat} (hG : GX S) (hx : At S x 11) (hm : At S mo 12) (hF : Fr M S T) (hM : pctN.all (fun g => !M.contains g) = true) (hd : ∀ c, DC S x c → DC T x c) (hn : ∀ ν, NuP T x ν → NuP S x ν) (h3 : ∀ c, At S c 0 → nz5 (pI S 3 c) → nz5 (pI T 3 c)) (h : PcT S x mo) : PcT T x mo := fun ν hν => by
  obtain ⟨h1, h2, h4⟩ := h ν (hn ν hν)
  have e4 : pI T 1104 x = pI S 1104 x := hF.I' (allc hM (by decide)) hx rfl
  have eB : mB T x 1103 = mB S x 1103 := mB_frc hF hx (ex3 (gQ_11_1103 hG hx)) (allc hM (by decide)) (allc hM (by decide))
  refine ⟨fun K hK => ?_, fun p P G hp hP hq => ?_, fun p q P Q G H hp hq hne hP hQ hg hh g g' kg kg' => ?_⟩
  · rw [frR hF (g := 1107) (allc hM (by decide)) hx.1] at hK
    exact SkQ_fr hG hx hm (st_at hG hx hK) hF (sub_all hM (by decide)) hd (h1 K hK)
  · rw [e4] at hp
    rw [eB] at hP
    have hP4 := pot_at hG hx hP
    rw [frR hF (g := 403) (allc hM (by decide)) hP4.1] at hq
    obtain ⟨a, g, b1, b2, b3, b4, b5⟩ := h2 p P G hp hP hq
    have hG9 := sd_at hG hP4 hq
    have ha : MtA S g := fun m hm' z hz => dc_at hG hx _ (b2 m hm' z hz).1
    refine ⟨RwO_fr hG hP4 hF (sub_all hM (by decide)) h3 a, g, GrW_fr hG hm hF (sub_all hM (by decide)) b1, fun m hm' z hz => ?_, DsO_to (fun k hk => frR hF (pie_pk (sub_all hM (by decide)) hk) hG9.1) b3, PieV_fr hG (Or.inr hG9) ha hF (sub_all hM (by decide)) b4, LpZ_fr ha hF (allc hM (by decide)) b5⟩
    obtain ⟨c1, c2, c3⟩ := b2 m hm' z hz
    have hc0 := ha m hm' z hz
    rw [hF.I' (g := 5) (allc hM (by decide)) hc0 rfl, hF.I' (g := 410) (allc hM (by decide)) hP4 rfl]
    exact ⟨hd _ c1, c2, h3 _ hc0 c3⟩
  · rw [e4] at hp hq
    rw [eB] at hP hQ
    have hP4 := pot_at hG hx hP
    have hQ4 := pot_at hG hx hQ
    rw [frR hF (g := 403) (allc hM (by decide)) hP4.1] at hg
    rw [frR hF (g := 403) (allc hM (by decide)) hQ4.1] at hh
    rw [frR hF (pie_pk (sub_all hM (by decide)) kg) (sd_at hG hP4 hg).1, frR hF (pie_pk (sub_all hM (by decide)) kg') (sd_at hG hQ4 hh).1]
    exact h4 p q P Q G H hp hq hne hP hQ hg hh g g' kg kg'
theorem PcT_f3 {M : List Nat} {S T : PS} {x mo : Nat} (hG : GX S) (hx : At S x 11) (hm : At S mo 12) (hF : Fr M S T) (hM : pctL.all (fun g => !M.contains g) = true) (h3 : ∀ c, At S c 0 → nz5 (pI S 3 c) → nz5 (pI T 3 c)) (h : PcT S x mo) : PcT T x mo := PcT_g hG hx hm hF (sub_all hM (by decide)) (dc_to hG hx hF (sub_all hM (by decide))) (fun ν hν => NuP_bk hG hx hF (sub_all hM (by decide)) hν) h3 h
theorem PcT_fr {M : List Nat} {S T : PS} {x mo : Nat} (hG : GX S) (hx : At S x 11) (hm : At S mo 12) (hF : Fr M S T) (hM : pctM.all (fun g => !M.contains g) = true) (h : PcT S x mo) : PcT T x mo := PcT_f3 hG hx hm hF (sub_all hM (by decide)) (fun c hc z => by
  rw [hF.I' (g := 3) (allc hM (by decide)) hc rfl]
  exact z) h
theorem PcT_0 {S : PS} {x mo : Nat} (h4 : pI S 1104 x = 0) (h8 : ∀ K, pR S 1107 x = some K → pI S 800 K = 0) : PcT S x mo := fun ν _ => by
  have e0 : (0 : Int32).toInt = 0 := by decide
  have n4 : ∀ l : Nat, ¬ (l : Int) < (pI S 1104 x).toInt := fun l z => by rw [h4, e0] at z; omega
  exact ⟨fun K hK k o b z => by rw [h8 K hK, e0] at z; omega, fun p P G hp => absurd hp (n4 p), fun p q P Q G H hp => absurd hp (n4 p)⟩
/-- the skeins' pieces, as the ties have them -/
theorem skp_of {S : PS} {x mo K : Nat} {ν : Nat → Nat} {sk : List Sk} (hG : GX S) (hx : At S x 11) (hN : NuP S x ν) (hV : SkV S (DC S x) K sk) (hW : SkW S mo (sk.map (skN ν))) (hQ : SkQ S x mo ν K) : SkP S K sk := fun k s hs => by
  obtain ⟨o, j1, b, f, j2, j3, j4, j5, -⟩ := hV.2 k s hs
  have hl := (List.getElem?_eq_some_iff.mp hs).1
  have h8 := hV.1
  obtain ⟨g, k1, k2, k3⟩ := hQ k o b (by omega) j1 j2
  have hr := hW.2 k (skN ν s) (by rw [List.getElem?_map, hs]; rfl)
  have eg : g = s.2.2.2 := gN_u (nu_inj hG hx hN) k2 (fun m hm z hz => (j5.2.2.1 m hm z hz).1) (gs_u k1 ⟨hr.2.1, hr.2.2⟩)
  rw [eg] at k2 k3
  exact ⟨o, b, j1, j2, k3, fun m hm z hz => dc_at hG hx _ (k2 m hm z hz)⟩
def pc1L : List Nat := szC ++ [1107, 1104, 1103, 10018, 403, 400, 401, 402, 501, 410, 5, 0, 1, 703, 1235, 1236, 1237, 10914, 10934, 10954]
def pc2L : List Nat := szC ++ [1107, 800, 808, 10019, 703, 1104, 1103, 10018, 403, 400, 401, 402, 500, 501, 502, 10016, 410, 5, 3, 0, 1, 6, 904, 905, 906, 907, 908, 10014, 11654]
/-- a pot's step: the class's, then the reference's -/
theorem pc_step {M1 M2 : List Nat} {S1 S2 S3 : PS} {x mo K p P R0 R1 R2 G : Nat} {ν : Nat → Nat} {sk : List Sk} {A A' B' : Pt} {R : List Ru} (hG1 : GX S1) (hG2 : GX S2) (hx : At S1 x 11) (hm : At S1 mo 12) (hF1 : Fr M1 S1 S2) (hF2 : Fr M2 S2 S3) (hM1 : pc1L.all (fun g => !M1.contains g) = true) (hM2 : pc2L.all (fun g => !M2.contains g) = true) (ct : CT S1 x mo) (hMI : MI S1 mo) (hGR : GR S1 mo) (hw : TPw S1 x mo ν K sk) (hp : (p : Int) < (pI S1 1104 x).toInt) (h : PT1 S1 x mo ν p P R0 R1 R2 G A R)
    (hV : PotV S2 (DC S1 x) P R0 R1 R2 G K A') (hX : PotX S1 S2 P R0 R1 R2 G) (hPz : PzT S1 S2 (DC S1 x) G K (cA S1 A sk) A') (hSt : StA (cA S1 A sk) A') (hW : PotW S3 mo (p : Int) B') (hY : PwX S2 S3 mo (p : Int)) (hR : Ren ν (DC S1 x) A' B') (h0 : PcT S1 x mo) : PcT S3 x mo := fun ν' hν3 => by
  have hx2 := hF1.at hx
  have hm2 := hF1.at hm
  have hν1 := NuP_bk hG1 hx hF1 (sub_all hM1 (by decide)) (NuP_bk hG2 hx2 hF2 (sub_all hM2 (by decide)) hν3)
  obtain ⟨hN1, hK1, hsk, -, hpots, -, hOW⟩ := hw
  obtain ⟨s1, s2, s3⟩ := h0 ν hN1
  have eν : ∀ c, DC S1 x c → ν' c = ν c := fun c ⟨l, i, k1, k2, k3⟩ => (hν1 l i c k1 k2 k3).trans (hN1 l i c k1 k2 k3).symm
  have hI := nu_inj hG1 hx hN1
  have d12 := dc_to hG1 hx hF1 (sub_all hM1 (by decide))
  have d23 := dc_to hG2 hx2 hF2 (sub_all hM2 (by decide))
  have hp4 : p < 4 := by
    have := gI_11_1104 hG1 hx
    omega
  have hP := pot_at hG1 hx h.1
  have hr3 := h.2.1.2.2.2.1
  have hGs := sd_at hG1 hP hr3
  have hKs := st_at hG1 hx hK1
  obtain ⟨rwP, g, g1, g2, g3, g4, g5⟩ := s2 p P G hp h.1 hr3
  have hMt := h.2.2.1.2.2.2.2.2.1.2.2.1
  have hPW := h.2.2.2.2.1
  have hGr : GrW S1 mo p ((qg A).map (mtN ν)) := by
    have z := hPW.2.2.2.2.2.1
    rw [Int.toNat_natCast] at z
    exact z
  have eg : g = qg A := gN_u hI (fun m hm' z hz => (g2 m hm' z hz).1) (fun m hm' z hz => (hMt m hm' z hz).1) (gr_u g1 hGr)
  subst eg
  have hInD : InD (DC S1 x) A := h.2.2.1.2.2.2.2.2.2.2.2
  have hmemD : ∀ c, 0 < cnA A c → DC S1 x c := fun c z => by
    unfold cnA at z
    rcases Nat.eq_zero_or_pos ((qb A).count c) with y | y
    · rcases Nat.eq_zero_or_pos ((qe A).count c) with w | w
      · exact hInD c (Or.inr (Or.inr (List.count_pos_iff.mp (by omega))))
      · exact hInD c (Or.inr (Or.inl (List.count_pos_iff.mp w)))
    · exact hInD c (Or.inl (List.count_pos_iff.mp y))
  have hW1 : PzW S1 (DC S1 x) G K (cA S1 A sk) := by
    refine ⟨⟨g3, cd_inj hG1 hx ct, dc_at hG1 hx, fun m hm' => ⟨?_, fun z hz => (g2 m hm' z hz).1⟩, fun c => ⟨cn_of hMI hp4 hPW c, hmemD c⟩, skp_of hG1 hx hN1 hsk.1 hsk.2.1 (s1 K hK1)⟩, g4, g5⟩
    obtain ⟨k, hk0⟩ := List.mem_iff_getElem?.mp hm'
    have hk : (qg A)[k]? = some m := hk0
    have z := MtR_w hG1 hm (hGr.2 k (mtN ν m) (by rw [List.getElem?_map, hk]; rfl))
    have e : (mtN ν m).length = m.length := List.length_map ..
    omega
  have hlen : (qg (cA S1 A sk)).length < 300 := by
    have z1 := hGr.1
    have z2 := hGR p hp4
    rw [List.length_map] at z1
    show (qg A).length < 300
    omega
  obtain ⟨⟨z1, z5, z6⟩, -, zX, zc⟩ := hPz hW1 hlen
  obtain ⟨x1, x2, x3, x4, x5⟩ := zX
  obtain ⟨y1, -, -, y4, y5, y6⟩ := z1
  have hCo := hV.2.2.2.2.2.2.2.2.2.1
  have hGs2 := x1 G 29 hGs
  have hKs2 := x1 K 8 hKs
  have hRw : ∀ c, 0 < cnA A c → pI S1 5 c = pI S1 410 P ∧ nz5 (pI S1 3 c) := fun c z => by
    have hv := h.2.2.1
    unfold cnA at z
    rcases Nat.eq_zero_or_pos ((qb A).count c) with y | y
    · rcases Nat.eq_zero_or_pos ((qe A).count c) with w | w
      · exact rwP 402 R2 _ _ c (by decide) h.2.1.2.2.1 hv.2.2.1 (List.count_pos_iff.mp (by omega))
      · exact rwP 401 R1 _ _ c (by decide) h.2.1.2.1 hv.2.1 (List.count_pos_iff.mp w)
    · exact rwP 400 R0 _ _ c (by decide) h.2.1.1 hv.1 (List.count_pos_iff.mp y)
  have hin : ∀ c, InA A c → DC S1 x c ∧ pI S1 5 c = pI S1 410 P ∧ nz5 (pI S1 3 c) := fun c z => by
    rcases z with z | ⟨m, hm', hi⟩
    · exact ⟨hmemD c z, hRw c z⟩
    · obtain ⟨y, hy, ey⟩ := inB_i.mp hi
      rw [← ey]
      exact g2 m hm' y hy
  have f5 : ∀ c, At S1 c 0 → pI S3 5 c = pI S1 5 c := fun c hc => (hF2.I' (g := 5) (allc hM2 (by decide)) (hF1.at hc) rfl).trans (hF1.I' (g := 5) (allc hM1 (by decide)) hc rfl)
  have f410 : ∀ Q, At S1 Q 4 → pI S3 410 Q = pI S1 410 Q := fun Q hQ => (hF2.I' (g := 410) (allc hM2 (by decide)) (hF1.at hQ) rfl).trans (hF1.I' (g := 410) (allc hM1 (by decide)) hQ rfl)
  have f3 : ∀ c, DC S1 x c → nz5 (pI S1 3 c) → nz5 (pI S3 3 c) := fun c hc z => by
    rw [hF2.I' (g := 3) (allc hM2 (by decide)) (hF1.at (dc_at hG1 hx c hc)) rfl, (hCo c hc).2]
    exact hSt.2 c z
  have hnew : ∀ c, InA A' c → DC S1 x c ∧ pI S3 5 c = pI S3 410 P ∧ nz5 (pI S3 3 c) := fun c z => by
    obtain ⟨a1, a2, a3⟩ := hin c (hSt.1 c z)
    rw [f5 c (dc_at hG1 hx c a1), f410 P hP]
    exact ⟨a1, a2, f3 c a1 a3⟩
  have e4 : pI S3 1104 x = pI S1 1104 x := (hF2.I' (allc hM2 (by decide)) hx2 rfl).trans (hF1.I' (allc hM1 (by decide)) hx rfl)
  have eB : mB S3 x 1103 = mB S1 x 1103 := (mB_frc hF2 hx2 (ex3 (gQ_11_1103 hG2 hx2)) (allc hM2 (by decide)) (allc hM2 (by decide))).trans (mB_frc hF1 hx (ex3 (gQ_11_1103 hG1 hx)) (allc hM1 (by decide)) (allc hM1 (by decide)))
  have e403 : ∀ Q, At S1 Q 4 → pR S3 403 Q = pR S1 403 Q := fun Q hQ => (frR hF2 (g := 403) (allc hM2 (by decide)) (hF1.at hQ).1).trans (frR hF1 (g := 403) (allc hM1 (by decide)) hQ.1)
  have erow : ∀ g Q, g ∈ rowG → At S1 Q 4 → pR S3 g Q = pR S1 g Q := fun g Q hg hQ => by
    have k2 : M2.contains g = false := allc hM2 (by
      simp only [rowG, List.mem_cons, List.not_mem_nil, or_false] at hg
      simp only [pc2L, szC, List.mem_append, List.mem_cons, List.not_mem_nil, or_false]
      omega)
    have k1 : M1.contains g = false := allc hM1 (by
      simp only [rowG, List.mem_cons, List.not_mem_nil, or_false] at hg
      simp only [pc1L, szC, List.mem_append, List.mem_cons, List.not_mem_nil, or_false]
      omega)
    exact (frR hF2 k2 (hF1.at hQ).1).trans (frR hF1 k1 hQ.1)
  have epc : ∀ g b, g ∈ pcG → At S2 b 29 → pR S3 g b = pR S2 g b := fun g b hg hb => frR hF2 (pie_pk (sub_all hM2 (by decide)) hg) hb.1
  have cd12 : ∀ c, At S1 c 0 → cdS S2 c = cdS S1 c := fun c hc => cd_fr hF1 (allc hM1 (by decide)) (allc hM1 (by decide)) hc
  -- another pot: its cocoons are not in this one's rows
  have hoth : ∀ q Q H : Nat, (q : Int) < (pI S1 1104 x).toInt → q ≠ p → mB S1 x 1103 q = some Q → pR S1 403 Q = some H → H ≠ G ∧ pI S1 410 Q ≠ pI S1 410 P := fun q Q H hq hn hQ hH => by
    obtain ⟨Q', Q0, Q1, Q2, H', C, RQ, hq1⟩ := hpots q hq
    have e1 : Q' = Q := Option.some.inj (hq1.1.symm.trans hQ)
    subst e1
    have ow := hOW.1 p q P Q' hp hq (fun z => hn z.symm) h.1 hq1.1
    refine ⟨fun z => ow.2.2.1.1 (by rw [hr3, hH, z]), fun z => hn ?_⟩
    rw [hq1.2.2.2.2.2.2.2.1, h.2.2.2.2.2.2.2.1] at z
    have b1 := gI_11_1104 hG1 hx
    have z1 := congrArg Int32.toInt z
    have t4 : ∀ k : Nat, k < 4 → (Int32.ofInt (k : Int)).toInt = (k : Int) := fun k hk => by
      rw [Int32.toInt_ofInt]
      exact bm_id (by omega) (by omega)
    rw [t4 q (by omega), t4 p hp4] at z1
    omega
  refine ⟨fun K' hK' => ?_, fun q Q H hq hQ hH => ?_, fun q q' Q Q' H H' hq hq' hn hQ hQ' hH hH' k k' hk hk' => ?_⟩
  · rw [frR hF2 (g := 1107) (allc hM2 (by decide)) hx2.1, frR hF1 (g := 1107) (allc hM1 (by decide)) hx.1, hK1] at hK'
    cases hK'
    intro k o b k1 k2 k3
    have hSV := hV.2.2.2.2.2.2.2.2.1
    rw [hF2.I' (g := 800) (allc hM2 (by decide)) hKs2 rfl, hSV.1] at k1
    rw [mB_frc hF2 hKs2 (ex3 (gQ_8_808 hG2 hKs2)) (allc hM2 (by decide)) (allc hM2 (by decide))] at k2
    have ho2 := sk_at hG2 hKs2 k2
    rw [frR hF2 (g := 703) (allc hM2 (by decide)) ho2.1] at k3
    obtain ⟨s, hs⟩ : ∃ s, (qsk A')[k]? = some s := ⟨_, List.getElem?_eq_getElem (by omega)⟩
    obtain ⟨o', b', j1, j2, j3, j4⟩ := y6 k s hs
    rw [k2] at j1
    cases j1
    rw [k3] at j2
    cases j2
    obtain ⟨o2, i1, b2, f2, i2, i3, i4, i5, -⟩ := hSV.2 k s hs
    have hD := i5.2.2.1
    refine ⟨s.2.2.2, ?_, fun m hm' z hz => d23 _ (d12 _ (hD m hm' z hz).1), PieV_fr hG2 (Or.inl (sk_str hG2 ho2 k3)) j4 hF2 (sub_all hM2 (by decide)) j3⟩
    rw [gN_nu (fun m hm' z hz => (hD m hm' z hz).1) eν]
    have hr := hW.2.2.2.2.2.2.2.2.1.2 k (skN ν s) (by rw [hR.2.2.2.2.2.2.2.1, List.getElem?_map, hs]; rfl)
    exact ⟨hr.2.1, hr.2.2⟩
  · rw [e4] at hq
    rw [eB] at hQ
    have hQ4 := pot_at hG1 hx hQ
    rw [e403 Q hQ4] at hH
    have hH9 := sd_at hG1 hQ4 hH
    by_cases e : q = p
    · subst e
      rw [h.1] at hQ
      cases hQ
      rw [hr3] at hH
      cases hH
      have hPR2 := PotR_fr hG1 hP hF1 (sub_all hM1 (by decide)) h.2.1
      refine ⟨fun k Rr L n c hk hRr hL hc => ?_, qg A', ?_, fun m hm' z hz => ?_, DsO_to (fun k hk => epc k G hk hGs2) y1, PieV_fr hG2 (Or.inr hGs2) (fun m hm' z hz => hF1.at (dc_at hG1 hx _ ((y4 m hm').2 z hz))) hF2 (sub_all hM2 (by decide)) z5, LpZ_fr (fun m hm' z hz => hF1.at (dc_at hG1 hx _ ((y4 m hm').2 z hz))) hF2 (allc hM2 (by decide)) z6⟩
      · rw [erow k P hk hP] at hRr
        have hR5 : At S2 Rr 5 := hF1.at (rw_g hG1 hP hk hRr)
        have hL2 := RowIs_bk hG2 hR5 hF2 (sub_all hM2 (by decide)) hL
        refine (hnew c (Or.inl ?_)).2
        simp only [rowG, List.mem_cons, List.not_mem_nil, or_false] at hk
        unfold cnA
        rcases hk with z | z | z <;> subst z
        · rw [h.2.1.1] at hRr
          cases hRr
          rw [row_u hL2 hV.1] at hc
          have := List.count_pos_iff.mpr hc
          omega
        · rw [h.2.1.2.1] at hRr
          cases hRr
          rw [row_u hL2 hV.2.1] at hc
          have := List.count_pos_iff.mpr hc
          omega
        · rw [h.2.1.2.2.1] at hRr
          cases hRr
          rw [row_u hL2 hV.2.2.1] at hc
          have := List.count_pos_iff.mpr hc
          omega
      · rw [gN_nu (fun m hm' z hz => (y4 m hm').2 z hz) eν, ← hR.2.2.2.2.2.1]
        have z := hW.2.2.2.2.2.1
        rw [Int.toNat_natCast] at z
        exact z
      · obtain ⟨a1, a2⟩ := hnew z.1 (Or.inr ⟨m, hm', inB_i.mpr ⟨z, hz, rfl⟩⟩)
        exact ⟨d23 _ (d12 _ a1), a2⟩
    · obtain ⟨hHG, h410⟩ := hoth q Q H hq e hQ hH
      obtain ⟨rwQ, gq, b1, b2, b3, b4, b5⟩ := s2 q Q H hq hQ hH
      obtain ⟨Q', Q0, Q1, Q2, H', C, RQ, hq1⟩ := hpots q hq
      have e1 : Q' = Q := Option.some.inj (hq1.1.symm.trans hQ)
      subst e1
      have ha1 : MtA S1 gq := fun m hm' z hz => dc_at hG1 hx _ (b2 m hm' z hz).1
      have ow := hOW.1 p q P Q' hp hq (fun z => e z.symm) h.1 hq1.1
      have hH2 := x1 H 29 hH9
      have hpcH := (x3 H (Or.inr ⟨hH9, hHG⟩)).2
      have hPie : PieV S2 H gq := PieV_to (x3 H (Or.inr ⟨hH9, hHG⟩)).1 (fun k hk => mA_rw (hpcH k hk) (fun b hb => x4 b (pc_ar hG1 hH9 hk hb) (fun k' hk' z => s3 q p Q' P H G hq hp e hQ h.1 hH hr3 k k' hk hk' (by rw [hb, z])))) (fun i pc hpc => cd12 _ (pc_at ha1 hpc)) b4
      have hLp : LpZ S2 gq := fun i pc hpc hl => by
        obtain ⟨t, w1, w2⟩ := pcs_in hpc
        obtain ⟨z, w3, w4⟩ := inB_i.mp w2
        have hno : ¬ 0 < cnA A pc.1 := fun y => h410 (by
          rw [← (hRw pc.1 y).1, ← w4]
          exact (b2 t (List.mem_of_getElem? w1) z w3).2.1.symm)
        rw [x2 pc.1 (pc_at ha1 hpc) hno]
        exact b5 i pc hpc hl
      refine ⟨fun k Rr L n c hk hRr hL hc => ?_, gq, ?_, fun m hm' z hz => ?_, DsO_to (fun k hk => (epc k H hk hH2).trans (hpcH k hk)) b3, PieV_fr hG2 (Or.inr hH2) (fun m hm' z hz => hF1.at (ha1 m hm' z hz)) hF2 (sub_all hM2 (by decide)) hPie, LpZ_fr (fun m hm' z hz => hF1.at (ha1 m hm' z hz)) hF2 (allc hM2 (by decide)) hLp⟩
      · rw [erow k Q' hk hQ4] at hRr
        have hR5 := rw_g hG1 hQ4 hk hRr
        have hL2 := RowIs_bk hG2 (hF1.at hR5) hF2 (sub_all hM2 (by decide)) hL
        have nR : ∀ j S', j ∈ rowG → pR S1 j P = some S' → Rr ≠ S' ∧ pR S1 501 Rr ≠ pR S1 501 S' := fun j S' hj hS' => by
          obtain ⟨n1, n2⟩ := ow.2.1 j k hj hk S' Rr hS' hRr
          exact ⟨fun z => n1 z.symm, fun z => n2 z.symm⟩
        have keep : ∀ L0 n0, RowIs S1 Rr L0 n0 → RowIs S2 Rr L0 n0 := fun L0 n0 hL0 => hX.2.1 Rr hR5 (nR 400 R0 (by decide) h.2.1.1).1 (nR 401 R1 (by decide) h.2.1.2.1).1 (nR 402 R2 (by decide) h.2.1.2.2.1).1 (nR 400 R0 (by decide) h.2.1.1).2 (nR 401 R1 (by decide) h.2.1.2.1).2 (nR 402 R2 (by decide) h.2.1.2.2.1).2 L0 n0 hL0
        have hvq := hq1.2.2.1
        have fin : ∀ L0 n0, RowIs S1 Rr L0 n0 → (∀ d, d ∈ L0 → DC S1 x d) → pI S3 5 c = pI S3 410 Q' ∧ nz5 (pI S3 3 c) := fun L0 n0 hL0 hd0 => by
          have hc1 : c ∈ L0 := by
            rw [← row_u hL2 (keep L0 n0 hL0)]
            exact hc
          obtain ⟨a1, a2⟩ := rwQ k Rr L0 n0 c hk hRr hL0 hc1
          have hcD := hd0 c hc1
          rw [f5 c (dc_at hG1 hx c hcD), f410 Q' hQ4]
          exact ⟨a1, f3 c hcD a2⟩
        simp only [rowG, List.mem_cons, List.not_mem_nil, or_false] at hk
        have hInQ : InD (DC S1 x) C := hvq.2.2.2.2.2.2.2.2
        rcases hk with z | z | z <;> subst z
        · rw [hq1.2.1.1] at hRr
          cases hRr
          exact fin _ _ hvq.1 (fun d hd => hInQ d (Or.inl hd))
        · rw [hq1.2.1.2.1] at hRr
          cases hRr
          exact fin _ _ hvq.2.1 (fun d hd => hInQ d (Or.inr (Or.inl hd)))
        · rw [hq1.2.1.2.2.1] at hRr
          cases hRr
          exact fin _ _ hvq.2.2.1 (fun d hd => hInQ d (Or.inr (Or.inr hd)))
      · rw [gN_nu (fun m hm' z hz => (b2 m hm' z hz).1) eν]
        exact hY.2.2 q _ (by rw [Int.toNat_natCast]; exact e) (GrW_fr hG1 hm hF1 (sub_all hM1 (by decide)) b1)
      · obtain ⟨a1, a2, a3⟩ := b2 m hm' z hz
        rw [f5 _ (dc_at hG1 hx _ a1), f410 Q' hQ4]
        exact ⟨d23 _ (d12 _ a1), a2, f3 _ a1 a3⟩
  · rw [e4] at hq hq'
    rw [eB] at hQ hQ'
    have hQ4 := pot_at hG1 hx hQ
    have hQ4' := pot_at hG1 hx hQ'
    rw [e403 Q hQ4] at hH
    rw [e403 Q' hQ4'] at hH'
    have hH9 := sd_at hG1 hQ4 hH
    have hH9' := sd_at hG1 hQ4' hH'
    rw [epc k H hk (x1 H 29 hH9), epc k' H' hk' (x1 H' 29 hH9')]
    by_cases e : q = p
    · subst e
      rw [h.1] at hQ
      cases hQ
      rw [hr3] at hH
      cases hH
      have hne := (hoth q' Q' H' hq' (fun z => hn z.symm) hQ' hH').1
      rw [(x3 H' (Or.inr ⟨hH9', hne⟩)).2 k' hk']
      rcases x5 k hk with w | ⟨a, w1, w2⟩
      · rw [w]
        exact s3 q q' P Q' G H' hq hq' hn h.1 hQ' hr3 hH' k k' hk hk'
      · rw [w1]
        exact fun z => w2 (pc_ar hG1 hH9' hk' z.symm).1
    · have hne := (hoth q Q H hq e hQ hH).1
      rw [(x3 H (Or.inr ⟨hH9, hne⟩)).2 k hk]
      by_cases e' : q' = p
      · subst e'
        rw [h.1] at hQ'
        cases hQ'
        rw [hr3] at hH'
        cases hH'
        rcases x5 k' hk' with w | ⟨a, w1, w2⟩
        · rw [w]
          exact s3 q q' Q P H G hq hq' hn hQ h.1 hH hr3 k k' hk hk'
        · rw [w1]
          exact fun z => w2 (pc_ar hG1 hH9 hk z).1
      · have hne' := (hoth q' Q' H' hq' e' hQ' hH').1
        rw [(x3 H' (Or.inr ⟨hH9', hne'⟩)).2 k' hk']
        exact s3 q q' Q Q' H H' hq hq' hn hQ hQ' hH hH' k k' hk hk'
/-! ===== pieces: a pot is filled ===== -/
def pc3L : List Nat := szC ++ [1107, 1104, 1103, 10018, 403, 400, 401, 402, 501, 410] ++ skqL ++ [1237, 10954]
theorem pc_fill {M1 M2 : List Nat} {S1 S2 S3 : PS} {x mo K p P R0 R1 R2 G : Nat} {l f n : Int} {ν : Nat → Nat} {sk : List Sk} {A : Pt} {R : List Ru} (hG1 : GX S1) (hG2 : GX S2) (hx : At S1 x 11) (hm : At S1 mo 12) (hF1 : Fr M1 S1 S2) (hF2 : Fr M2 S2 S3) (hM1 : pc3L.all (fun g => !M1.contains g) = true) (hM2 : (pc3L ++ [500, 502, 10016, 5, 3]).all (fun g => !M2.contains g) = true) (hw : TPw S1 x mo ν K sk) (hp : (p : Int) < (pI S1 1104 x).toInt) (h : PT1 S1 x mo ν p P R0 R1 R2 G A R)
    (hch : ∀ j : Int, f ≤ j → j < f + n → InC S1 x l j ∧ ∃ c, mB S1 x 1100 (60 * l + j).toNat = some c ∧ pI S1 3 c = 0) (hV : PotV S2 (DC S1 x) P R0 R1 R2 G K (filF (cA S1 A sk) (cocL S1 x l f n.toNat))) (hX : PotX S1 S2 P R0 R1 R2 G) (ha3 : ∀ d, At S1 d 0 → (∀ j : Int, f ≤ j → j < f + n → mB S1 x 1100 (60 * l + j).toNat ≠ some d) → pI S2 5 d = pI S1 5 d) (ha4 : ∀ j : Int, f ≤ j → j < f + n → ∀ d, mB S1 x 1100 (60 * l + j).toNat = some d → pI S2 5 d = pI S1 410 P) (h0 : PcT S1 x mo) : PcT S3 x mo := fun ν' hν3 => by
  have hx2 := hF1.at hx
  have hm2 := hF1.at hm
  have hν1 := NuP_bk hG1 hx hF1 (sub_all hM1 (by decide)) (NuP_bk hG2 hx2 hF2 (sub_all hM2 (by decide)) hν3)
  obtain ⟨hN1, hK1, hsk, -, hpots, -, hOW⟩ := hw
  obtain ⟨s1, s2, s3⟩ := h0 ν' hν1
  have d12 := dc_to hG1 hx hF1 (sub_all hM1 (by decide))
  have d23 := dc_to hG2 hx2 hF2 (sub_all hM2 (by decide))
  have hP := pot_at hG1 hx h.1
  have hCo := hV.2.2.2.2.2.2.2.2.2.1
  obtain ⟨i1, i2, i3, -⟩ := fil_in (L := cocL S1 x l f n.toNat) (A := cA S1 A sk)
  have f5 : ∀ c, At S1 c 0 → nz5 (pI S1 3 c) → pI S3 5 c = pI S1 5 c := fun c hc z => by
    rw [hF2.I' (g := 5) (allc hM2 (by decide)) (hF1.at hc) rfl]
    refine ha3 c hc (fun j j1 j2 hj => ?_)
    obtain ⟨-, c', k1, k2⟩ := hch j j1 j2
    rw [hj] at k1
    cases k1
    rw [k2] at z
    exact z.1 (by decide)
  have f3 : ∀ c, DC S1 x c → nz5 (pI S1 3 c) → nz5 (pI S3 3 c) := fun c hc z => by
    rw [hF2.I' (g := 3) (allc hM2 (by decide)) (hF1.at (dc_at hG1 hx c hc)) rfl, (hCo c hc).2]
    exact i2 c z
  have f410 : ∀ Q, At S1 Q 4 → pI S3 410 Q = pI S1 410 Q := fun Q hQ => (hF2.I' (g := 410) (allc hM2 (by decide)) (hF1.at hQ) rfl).trans (hF1.I' (g := 410) (allc hM1 (by decide)) hQ rfl)
  have e4 : pI S3 1104 x = pI S1 1104 x := (hF2.I' (allc hM2 (by decide)) hx2 rfl).trans (hF1.I' (allc hM1 (by decide)) hx rfl)
  have eB : mB S3 x 1103 = mB S1 x 1103 := (mB_frc hF2 hx2 (ex3 (gQ_11_1103 hG2 hx2)) (allc hM2 (by decide)) (allc hM2 (by decide))).trans (mB_frc hF1 hx (ex3 (gQ_11_1103 hG1 hx)) (allc hM1 (by decide)) (allc hM1 (by decide)))
  have e403 : ∀ Q, At S1 Q 4 → pR S3 403 Q = pR S1 403 Q := fun Q hQ => (frR hF2 (g := 403) (allc hM2 (by decide)) (hF1.at hQ).1).trans (frR hF1 (g := 403) (allc hM1 (by decide)) hQ.1)
  have erow : ∀ g Q, g ∈ rowG → At S1 Q 4 → pR S3 g Q = pR S1 g Q := fun g Q hg hQ => by
    have k0 : g ∈ ([400, 401, 402] : List Nat) := hg
    have k2 : M2.contains g = false := allc (sub_all (L' := [400, 401, 402]) hM2 (by decide)) k0
    have k1 : M1.contains g = false := allc (sub_all (L' := [400, 401, 402]) hM1 (by decide)) k0
    exact (frR hF2 k2 (hF1.at hQ).1).trans (frR hF1 k1 hQ.1)
  have epc : ∀ g b, g ∈ pcG → At S1 b 29 → pR S3 g b = pR S1 g b := fun g b hg hb => (frR hF2 (pie_pk (sub_all hM2 (by decide)) hg) (hF1.at hb).1).trans (frR hF1 (pie_pk (sub_all hM1 (by decide)) hg) hb.1)
  refine ⟨fun K' hK' => ?_, fun q Q H hq hQ hH => ?_, fun q q' Q Q' H H' hq hq' hn hQ hQ' hH hH' k k' hk hk' => ?_⟩
  · rw [frR hF2 (g := 1107) (allc hM2 (by decide)) hx2.1, frR hF1 (g := 1107) (allc hM1 (by decide)) hx.1] at hK'
    have hK4 := st_at hG1 hx hK'
    exact SkQ_fr hG2 hx2 hm2 (hF1.at hK4) hF2 (sub_all hM2 (by decide)) d23 (SkQ_fr hG1 hx hm hK4 hF1 (sub_all hM1 (by decide)) d12 (s1 K' hK'))
  · rw [e4] at hq
    rw [eB] at hQ
    have hQ4 := pot_at hG1 hx hQ
    rw [e403 Q hQ4] at hH
    have hH9 := sd_at hG1 hQ4 hH
    obtain ⟨rwQ, gq, b1, b2, b3, b4, b5⟩ := s2 q Q H hq hQ hH
    have ha1 : MtA S1 gq := fun m hm' z hz => dc_at hG1 hx _ (b2 m hm' z hz).1
    have ha2 : MtA S2 gq := fun m hm' z hz => hF1.at (ha1 m hm' z hz)
    refine ⟨fun k Rr L n' c hk hRr hL hc => ?_, gq, GrW_fr hG2 hm2 hF2 (sub_all hM2 (by decide)) (GrW_fr hG1 hm hF1 (sub_all hM1 (by decide)) b1), fun m hm' z hz => ?_, DsO_to (fun k hk => epc k H hk hH9) b3, PieV_fr hG2 (Or.inr (hF1.at hH9)) ha2 hF2 (sub_all hM2 (by decide)) (PieV_fr hG1 (Or.inr hH9) ha1 hF1 (sub_all hM1 (by decide)) b4), LpZ_fr ha2 hF2 (allc hM2 (by decide)) (LpZ_fr ha1 hF1 (allc hM1 (by decide)) b5)⟩
    · rw [erow k Q hk hQ4] at hRr
      have hR5 := rw_g hG1 hQ4 hk hRr
      have hL2 := RowIs_bk hG2 (hF1.at hR5) hF2 (sub_all hM2 (by decide)) hL
      by_cases e : q = p
      · subst e
        rw [h.1] at hQ
        cases hQ
        have hin : InA (filF (cA S1 A sk) (cocL S1 x l f n.toNat)) c := by
          refine Or.inl ?_
          simp only [rowG, List.mem_cons, List.not_mem_nil, or_false] at hk
          unfold cnA
          rcases hk with z | z | z <;> subst z
          · rw [h.2.1.1] at hRr
            cases hRr
            rw [row_u hL2 hV.1] at hc
            have := List.count_pos_iff.mpr hc
            omega
          · rw [h.2.1.2.1] at hRr
            cases hRr
            rw [row_u hL2 hV.2.1] at hc
            have := List.count_pos_iff.mpr hc
            omega
          · rw [h.2.1.2.2.1] at hRr
            cases hRr
            rw [row_u hL2 hV.2.2.1] at hc
            have := List.count_pos_iff.mpr hc
            omega
        have hcD : DC S1 x c := by
          have hInD := hV.2.2.2.2.2.2.2.2.2.2
          simp only [rowG, List.mem_cons, List.not_mem_nil, or_false] at hk
          rcases hk with z | z | z <;> subst z
          · rw [h.2.1.1] at hRr
            cases hRr
            rw [row_u hL2 hV.1] at hc
            exact hInD c (Or.inl hc)
          · rw [h.2.1.2.1] at hRr
            cases hRr
            rw [row_u hL2 hV.2.1] at hc
            exact hInD c (Or.inr (Or.inl hc))
          · rw [h.2.1.2.2.1] at hRr
            cases hRr
            rw [row_u hL2 hV.2.2.1] at hc
            exact hInD c (Or.inr (Or.inr hc))
        have hc0 := dc_at hG1 hx c hcD
        rcases i1 c hin with w | w
        · have hold : pI S1 5 c = pI S1 410 P ∧ nz5 (pI S1 3 c) := by
            rcases w with w | ⟨m, hm', hi⟩
            · have hv := h.2.2.1
              have w' : 0 < cnA A c := w
              unfold cnA at w'
              rcases Nat.eq_zero_or_pos ((qb A).count c) with y | y
              · rcases Nat.eq_zero_or_pos ((qe A).count c) with u | u
                · exact rwQ 402 R2 _ _ c (by decide) h.2.1.2.2.1 hv.2.2.1 (List.count_pos_iff.mp (by omega))
                · exact rwQ 401 R1 _ _ c (by decide) h.2.1.2.1 hv.2.1 (List.count_pos_iff.mp u)
              · exact rwQ 400 R0 _ _ c (by decide) h.2.1.1 hv.1 (List.count_pos_iff.mp y)
            · have hI := nu_inj hG1 hx hN1
              have eν : ∀ c, DC S1 x c → ν' c = ν c := fun c ⟨l, i, k1, k2, k3⟩ => (hν1 l i c k1 k2 k3).trans (hN1 l i c k1 k2 k3).symm
              have hMt := h.2.2.1.2.2.2.2.2.1.2.2.1
              have hGr : GrW S1 mo q ((qg A).map (mtN ν)) := by
                have z := h.2.2.2.2.1.2.2.2.2.2.1
                rw [Int.toNat_natCast] at z
                exact z
              rw [gN_nu (fun m hm' z hz => (b2 m hm' z hz).1) eν] at b1
              have eg : gq = qg A := gN_u hI (fun m hm' z hz => (b2 m hm' z hz).1) (fun m hm' z hz => (hMt m hm' z hz).1) (gr_u b1 hGr)
              obtain ⟨y, hy, ey⟩ := inB_i.mp hi
              rw [← ey]
              exact (b2 m (by rw [eg]; exact hm') y hy).2
          rw [f5 c hc0 hold.2, f410 P hP]
          exact ⟨hold.1, f3 c hcD hold.2⟩
        · obtain ⟨j, hj, ej⟩ := List.mem_map.mp w
          have hj' := List.mem_range.mp hj
          obtain ⟨-, c', k1, -⟩ := hch (f + (j : Int)) (by omega) (by omega)
          have ec : c = c' := by
            rw [← ej, k1]
            rfl
          refine ⟨?_, ?_⟩
          · rw [hF2.I' (g := 5) (allc hM2 (by decide)) (hF1.at hc0) rfl, f410 P hP]
            exact ha4 (f + (j : Int)) (by omega) (by omega) c (by rw [k1, ec])
          · rw [hF2.I' (g := 3) (allc hM2 (by decide)) (hF1.at hc0) rfl, (hCo c hcD).2]
            exact i3 c w
      · obtain ⟨Q', Q0, Q1, Q2, H', C, RQ, hq1⟩ := hpots q hq
        have e1 : Q' = Q := Option.some.inj (hq1.1.symm.trans hQ)
        subst e1
        have ow := hOW.1 p q P Q' hp hq (fun z => e z.symm) h.1 hq1.1
        have nR : ∀ j S', j ∈ rowG → pR S1 j P = some S' → Rr ≠ S' ∧ pR S1 501 Rr ≠ pR S1 501 S' := fun j S' hj hS' => by
          obtain ⟨n1, n2⟩ := ow.2.1 j k hj hk S' Rr hS' hRr
          exact ⟨fun z => n1 z.symm, fun z => n2 z.symm⟩
        have keep : ∀ L0 n0, RowIs S1 Rr L0 n0 → RowIs S2 Rr L0 n0 := fun L0 n0 hL0 => hX.2.1 Rr hR5 (nR 400 R0 (by decide) h.2.1.1).1 (nR 401 R1 (by decide) h.2.1.2.1).1 (nR 402 R2 (by decide) h.2.1.2.2.1).1 (nR 400 R0 (by decide) h.2.1.1).2 (nR 401 R1 (by decide) h.2.1.2.1).2 (nR 402 R2 (by decide) h.2.1.2.2.1).2 L0 n0 hL0
        have hvq := hq1.2.2.1
        have fin : ∀ L0 n0, RowIs S1 Rr L0 n0 → (∀ d, d ∈ L0 → DC S1 x d) → pI S3 5 c = pI S3 410 Q' ∧ nz5 (pI S3 3 c) := fun L0 n0 hL0 hd0 => by
          have hc1 : c ∈ L0 := by
            rw [← row_u hL2 (keep L0 n0 hL0)]
            exact hc
          obtain ⟨a1, a2⟩ := rwQ k Rr L0 n0 c hk hRr hL0 hc1
          have hcD := hd0 c hc1
          rw [f5 c (dc_at hG1 hx c hcD) a2, f410 Q' hQ4]
          exact ⟨a1, f3 c hcD a2⟩
        have hInQ : InD (DC S1 x) C := hvq.2.2.2.2.2.2.2.2
        simp only [rowG, List.mem_cons, List.not_mem_nil, or_false] at hk
        rcases hk with z | z | z <;> subst z
        · rw [hq1.2.1.1] at hRr
          cases hRr
          exact fin _ _ hvq.1 (fun d hd => hInQ d (Or.inl hd))
        · rw [hq1.2.1.2.1] at hRr
          cases hRr
          exact fin _ _ hvq.2.1 (fun d hd => hInQ d (Or.inr (Or.inl hd)))
        · rw [hq1.2.1.2.2.1] at hRr
          cases hRr
          exact fin _ _ hvq.2.2.1 (fun d hd => hInQ d (Or.inr (Or.inr hd)))
    · obtain ⟨a1, a2, a3⟩ := b2 m hm' z hz
      rw [f5 _ (dc_at hG1 hx _ a1) a3, f410 Q hQ4]
      exact ⟨d23 _ (d12 _ a1), a2, f3 _ a1 a3⟩
  · rw [e4] at hq hq'
    rw [eB] at hQ hQ'
    have hQ4 := pot_at hG1 hx hQ
    have hQ4' := pot_at hG1 hx hQ'
    rw [e403 Q hQ4] at hH
    rw [e403 Q' hQ4'] at hH'
    rw [epc k H hk (sd_at hG1 hQ4 hH), epc k' H' hk' (sd_at hG1 hQ4' hH')]
    exact s3 q q' Q Q' H H' hq hq' hn hQ hQ' hH hH' k k' hk hk'
/-! ===== pieces: a lot, a pot, the shelves ===== -/
theorem pc_lot {S1 S2 S3 : PS} {x mo : Nat} {a1 a2 a3 a4 a5 : Int32} {a1_z : Int} (hG1 : GX S1) (hG2 : GX S2) (hx : At S1 x 11) (hm : At S1 mo 12) (hF1 : Fr MLt S1 S2) (hF2 : Fr M12t S2 S3) (h9 : (pI S2 1102 x).toInt = (pI S1 1102 x).toInt + 1) (hN : ∀ ca lz, pR S1 1100 x = some ca → pR S1 1101 x = some lz → NewC S1 S2 ca (60 * (pI S1 1102 x).toInt) a1_z (pI S1 1102 x) a2 a3 a4 a5 ∧ pA S2 lz = upd (pA S1 lz) (Int32.toNatClampNeg (pI S1 1102 x)) a1) (h : PcT S1 x mo) : PcT S3 x mo := by
  have hr := gI_11_1102 hG1 hx
  obtain ⟨ca, k1, k2, -⟩ := gQ_11_1100 hG1 hx
  obtain ⟨lz, k3, k4, -⟩ := gQ_11_1101 hG1 hx
  obtain ⟨⟨n1, n3⟩, n2⟩ := hN ca lz k1 k3
  have j1 : pR S2 1100 x = some ca := hF1.R' (by decide +kernel) hx k1
  have j3 : pR S2 1101 x = some lz := hF1.R' (by decide +kernel) hx k3
  have zn := z_nat (x := pI S1 1102 x) rfl hr.1
  have old : ∀ l i c : Nat, (l : Int) < (pI S1 1102 x).toInt → (i : Int) < zA S1 x 1101 l → mB S1 x 1100 (60 * l + i) = some c → (l : Int) < (pI S2 1102 x).toInt ∧ (i : Int) < zA S2 x 1101 l ∧ mB S2 x 1100 (60 * l + i) = some c := fun l i c q1 q2 q3 => by
    have b := il60 hG1 hx l
    refine ⟨by omega, ?_, ?_⟩
    · rw [zA_eq, mA_eq j3, n2, upd_if, if_neg (by omega), ← mA_eq k3, ← zA_eq]
      exact q2
    · rw [mB_eq j1, n3 (60 * l + i) (Or.inl (by omega)), ← mB_eq k1]
      exact q3
  exact PcT_fr hG2 (hF1.at hx) (hF1.at hm) hF2 (by decide +kernel) (PcT_g hG1 hx hm hF1 (by decide +kernel) (fun c ⟨l, i, q1, q2, q3⟩ => by
    obtain ⟨p1, p2, p3⟩ := old l i c q1 q2 q3
    exact ⟨l, i, p1, p2, p3⟩) (fun ν hν l i c q1 q2 q3 => by
    obtain ⟨p1, p2, p3⟩ := old l i c q1 q2 q3
    exact hν l i c p1 p2 p3) (fun c hc z => by
    rw [hF1.I' (g := 3) (by decide +kernel) hc rfl]
    exact z) h)
