/-! ===== skeins whose words change ===== -/
def tpN : List Nat := szC ++ pcL ++ prL9 ++ pvL ++ pwL ++ [1104, 1106, 1107, 4, 1208, 10374] ++ sgL ++ [1235, 1236, 10914, 10934]
theorem TPw_sk {M : List Nat} {S T : PS} {x mo K : Nat} {ν : Nat → Nat} {sk sk' : List Sk} (hG : GX S) (hx : At S x 11) (hm : At S mo 12) (hF : Fr M S T) (hM : tpN.all (fun g => !M.contains g) = true) (hV : SkV T (DC T x) K sk') (hW : SkW T mo (sk'.map (skN ν))) (hX : ExT T x K mo) (h : TPw S x mo ν K sk) : TPw T x mo ν K sk' := by
  obtain ⟨h1, h2, -, h5, h6, h7, h8⟩ := h
  have e4 : pI T 1104 x = pI S 1104 x := hF.I' (allc hM (by decide)) hx rfl
  refine ⟨NuP_to hG hx hF (sub_all hM (by decide)) h1, hF.R' (allc hM (by decide)) hx h2, ⟨hV, hW, hX⟩, PlT_fr hG hx hm hF (sub_all hM (by decide)) h5, fun p hp => ?_, fun p hp hq => ?_, OW_fr hG hx hF (sub_all hM (by decide)) h8⟩
  · rw [e4] at hp
    obtain ⟨P, R0, R1, R2, G, A, R, hp⟩ := h6 p hp
    exact ⟨P, R0, R1, R2, G, A, R, PT1_fr hG hx hm hF (sub_all hM (by decide)) hp⟩
  · rw [e4] at hp
    exact PE_eq (pw_same hG hm hF (sub_all hM (by decide)) 1219 (by decide)) (pe_same hG hm hF (sub_all hM (by decide)) (allc hM (by decide)) (allc hM (by decide))) (h7 p hp hq)
theorem SkV_fl {M : List Nat} {S T : PS} {D : Nat → Prop} {K k q : Nat} {L : List Sk} {s : Sk} {u : Int32 × Int32 × Int32} (hG : GX S) (hK : At S K 8) (hF : Fr M S T) (hM : (skK ++ [800, 808, 10019, 902, 903]).all (fun g => !M.contains g) = true) (hk : L[k]? = some s) (hq : mB S K 808 k = some q) (h7 : pI T 707 q = u.1) (h8 : pI T 708 q = u.2.1) (h9 : pI T 709 q = u.2.2) (ho : ∀ b, At S b 7 → b ≠ q → pI T 707 b = pI S 707 b ∧ pI T 708 b = pI S 708 b ∧ pI T 709 b = pI S 709 b) (h : SkV S D K L) : SkV T D K (L.set k ((s.1.1, u), s.2)) := by
  have eB : mB T K 808 = mB S K 808 := mB_frc hF hK (ex3 (gQ_8_808 hG hK)) (allc hM (by decide)) (allc hM (by decide))
  have e8 : pI T 800 K = pI S 800 K := hF.I' (g := 800) (allc hM (by decide)) hK rfl
  have hs : ∀ g, At S g 9 → pI T 902 g = pI S 902 g ∧ pI T 903 g = pI S 903 g := fun g hg => ⟨hF.I' (g := 902) (allc hM (by decide)) hg rfl, hF.I' (g := 903) (allc hM (by decide)) hg rfl⟩
  have hD : ∀ (i q' : Nat) (z : Sk), SkO S D K i q' z → ∀ j : Nat, (j : Int) < (pI T 800 K).toInt → mB T K 808 j = some q' → j = i := fun i q' z hz j hj hm => sk_dst hz j (by rw [← e8]; exact hj) (by rw [← eB]; exact hm)
  have hlt := (List.getElem?_eq_some_iff.mp hk).1
  have hl := h.1
  refine ⟨by rw [e8, List.length_set]; exact hl, fun j y hj => ?_⟩
  rw [List.getElem?_set] at hj
  by_cases e : k = j
  · subst e
    rw [if_pos rfl, if_pos hlt] at hj
    cases hj
    obtain ⟨q', h1, h2⟩ := h.2 k s hk
    rw [hq] at h1
    cases h1
    exact ⟨q, by rw [eB]; exact hq, SkO_fl hG (sk_at hG hK hq) hF (sub_all hM (by decide)) hs (hD _ _ _ h2) h7 h8 h9 h2⟩
  · rw [if_neg e] at hj
    obtain ⟨q', h1, h2⟩ := h.2 j y hj
    have hn : q' ≠ q := fun z => e (sk_dst h2 k (by omega) (by rw [z]; exact hq))
    obtain ⟨o7, o8, o9⟩ := ho q' (sk_at hG hK h1) hn
    have h3 := h2
    obtain ⟨g, f, -, -, ⟨⟨-, d7, d8, d9⟩, -⟩, -⟩ := h3
    exact ⟨q', by rw [eB]; exact h1, SkO_fl (u := y.1.2) hG (sk_at hG hK h1) hF (sub_all hM (by decide)) hs (hD _ _ _ h2) (o7.trans d7) (o8.trans d8) (o9.trans d9) h2⟩
theorem SkW_fl {S T : PS} {x k : Nat} {L : List Sk} {s : Sk} {u : Int32 × Int32 × Int32} (h8 : (pI T 1238 x).toInt = (pI S 1238 x).toInt) (e5 : zA T x 1235 = zA S x 1235) (e6 : zA T x 1236 = zA S x 1236) (e9 : zA T x 1239 = zA S x 1239) (e0 : zA T x 1240 = zA S x 1240) (e1 : zA T x 1241 = zA S x 1241) (e2 : zA T x 1242 = zA S x 1242) (hk : L[k]? = some s) (f3 : gO T x k = u.1.toInt) (f4 : zA T x 1244 k = u.2.1.toInt) (ho : ∀ j, j ≠ k → gO T x j = gO S x j ∧ zA T x 1244 j = zA S x 1244 j) (h : SkW S x L) : SkW T x (L.set k ((s.1.1, u), s.2)) := by
  have hlt := (List.getElem?_eq_some_iff.mp hk).1
  refine ⟨by rw [h8, List.length_set]; exact h.1, fun j y hj => ?_⟩
  rw [List.getElem?_set] at hj
  by_cases e : k = j
  · subst e
    rw [if_pos rfl, if_pos hlt] at hj
    cases hj
    obtain ⟨⟨⟨a1, -, -⟩, a2, a3⟩, a4, a5⟩ := h.2 k s hk
    exact ⟨⟨⟨by rw [e0]; exact a1, f3, f4⟩, by rw [e1]; exact a2, by rw [e2]; exact a3⟩, by rw [e9]; exact a4, fun i t hi => by rw [e9]; exact MtR_eq e5 e6 (a5 i t hi)⟩
  · rw [if_neg e] at hj
    obtain ⟨⟨⟨a1, a6, a7⟩, a2, a3⟩, a4, a5⟩ := h.2 j y hj
    obtain ⟨o1, o2⟩ := ho j (fun z => e z.symm)
    exact ⟨⟨⟨by rw [e0]; exact a1, o1.trans a6, o2.trans a7⟩, by rw [e1]; exact a2, by rw [e2]; exact a3⟩, by rw [e9]; exact a4, fun i t hi => by rw [e9]; exact MtR_eq e5 e6 (a5 i t hi)⟩
theorem grF_ge (v : Int32) : 0 ≤ grF v := by
  unfold grF
  split
  · decide
  · split
    · decide
    · split <;> decide
/-! ===== grading ===== -/
theorem gd_eq {S : PS} {x mo K k : Nat} {ν : Nat → Nat} {sk : List Sk} {s : Sk} {sd : Int32} {d : Int} (hG : GX S) (hx : At S x 11) (hmo : At S mo 12) (ct : CT S x mo) (th : mA S mo 1210 = thinF) (hMI : MI S mo) (hw : TPw S x mo ν K sk) (hk : sk[k]? = some s) (h0 : 0 < (s.2.2.2.length : Int)) : gdO (mtZ S mo) (skN ν s) sd d = gdO (mtS S) s sd d ∧ gdL (skN ν s) sd d = gdL s sd d ∧ gdB (skN ν s) d = gdB s d := by
  have h1' : (sk.map (skN ν))[k]? = some (skN ν s) := by rw [List.getElem?_map, hk]; rfl
  obtain ⟨q, hq, g, f, j2, -, -, hv, -⟩ := hw.2.2.1.1.2 _ _ hk
  obtain ⟨-, c2, c3⟩ := hw.2.2.1.2.1.2 _ _ h1'
  have hl : ((skN ν s).2.2.2.length : Int) = (s.2.2.2.length : Int) := by
    show (((s.2.2.2.map (mtN ν)).length : Nat) : Int) = _
    rw [List.length_map]
  have hK := st_at hG hx hw.2.1
  have hg := sk_str hG (sk_at hG hK hq) j2
  have r9 := gI_9_902 hG hg
  have e9 := hv.1
  have eL : gdL (skN ν s) sd d = gdL s sd d := by unfold gdL; rw [hl]
  refine ⟨?_, eL, by unfold gdB; rw [hl]⟩
  unfold gdO
  rw [eL]
  refine ofF_eq (fun m hm => ?_)
  have hi := dr_in h0 (by omega) _ m hm
  obtain ⟨t, ht⟩ : ∃ t, s.2.2.2[m.toNat]? = some t := ⟨_, List.getElem?_eq_getElem (by omega)⟩
  have ht' : (skN ν s).2.2.2[m.toNat]? = some (mtN ν t) := by
    show (s.2.2.2.map (mtN ν))[m.toNat]? = _
    rw [List.getElem?_map, ht]
    rfl
  show mtZ S mo (mtG (skN ν s).2.2.2 m) = mtS S (mtG s.2.2.2 m)
  rw [mtG_eq ht, mtG_eq ht']
  have z1 := z1239 hG hmo k
  have z2 := z1239 hG hmo (k + 1)
  have hlt := (List.getElem?_eq_some_iff.mp ht').1
  exact mt_eq hG hx hmo ct th hMI hw.1 (fun z hz => (hv.2.2.1 t (List.mem_of_getElem? ht) z hz).1) (by omega) (c3 _ _ ht')
theorem GrI_nu {sk : List Sk} {ν : Nat → Nat} {k d : Int} (h : GrI (sk.map (skN ν)) k d) : GrI sk k d := by
  obtain ⟨s, h0, h1, h2, h3, h4⟩ := h
  rw [List.getElem?_map] at h1
  cases e : sk[k.toNat]? with
  | none => rw [e] at h1; cases h1
  | some s0 =>
    rw [e] at h1
    cases h1
    have h4' : d ≤ (((s0.2.2.2.map (mtN ν)).length : Nat) : Int) := h4
    rw [List.length_map] at h4'
    exact ⟨s0, h0, e, h2, h3, h4'⟩
def MGG : List Nat := eGR ++ Mgr
theorem TX_grade {S1 S2 S3 : PS} {x mo K Dw : Nat} {ν : Nat → Nat} {sk : List Sk} {k d : Int} {sd r1 r2 : Int32} (hG1 : GX S1) (hG2 : GX S2) (hx : At S1 x 11) (hm : At S1 mo 12) (hF1 : Fr eGR S1 S2) (hF2 : Fr Mgr S2 S3) (ct : CT S1 x mo) (th : mA S1 mo 1210 = thinF) (hMI : MI S1 mo) (hDw : pR S1 1108 x = some Dw) (hw : TPw S1 x mo ν K sk)
    (a1 : ∀ s, 0 ≤ k → sk[k.toNat]? = some s → 1 ≤ d → d ≤ 5 → d ≤ (s.2.2.2.length : Int) → GrC S1 S2 K Dw k s sd d r1) (a2 : ¬ GrI sk k d → r1.toInt = -1 ∧ S2 = S1) (b1 : ∀ s, 0 ≤ k → (sk.map (skN ν))[k.toNat]? = some s → 1 ≤ d → d ≤ 5 → d ≤ (s.2.2.2.length : Int) → GrR S2 S3 mo k s sd d r2) (b2 : ¬ GrI (sk.map (skN ν)) k d → r2.toInt = -1 ∧ S3 = sI S2 1200 mo 0) (h : TX S1 x mo) : TX S3 x mo ∧ r1.toInt = r2.toInt := by
  by_cases c : GrI sk k d
  · obtain ⟨s, k0, hk, d1, d5, dl⟩ := c
    have hk' : (sk.map (skN ν))[k.toNat]? = some (skN ν s) := by rw [List.getElem?_map, hk]; rfl
    obtain ⟨A1, ⟨A2, A3, A4, A5⟩, A6⟩ := a1 s k0 hk d1 d5 dl
    obtain ⟨B1, ⟨B2, B3, B4, B5⟩, B6⟩ := b1 (skN ν s) k0 hk' d1 d5 (by show d ≤ (((s.2.2.2.map (mtN ν)).length : Nat) : Int); rw [List.length_map]; exact dl)
    have hE := gd_eq (sd := sd) (d := d) hG1 hx hm ct th hMI hw hk (by omega)
    have eZ : mtZ S2 mo = mtZ S1 mo := funext (fun t => mtZ_eq (fnZ_fr hG1 hm hF1 (by decide +kernel)))
    rw [eZ, hE.1] at B1 B3
    rw [hE.2.2] at B4
    rw [hE.2.1] at B5
    have hF : Fr MGG S1 S3 := (hF1.mono (by decide +kernel)).trans (hF2.mono (by decide +kernel))
    have hK := st_at hG1 hx hw.2.1
    have hD := dw_at hG1 hx hDw
    have hX : ExT S3 x K mo := ExT_fr hG1 hx hK hm hF (by decide +kernel) hw.2.2.1.2.2
    have er : r1 = r2 := Int32.toInt_inj.mp (by rw [A1, B1])
    obtain ⟨q, hq, hso⟩ := hw.2.2.1.1.2 k.toNat s hk
    have hq7 := sk_at hG1 hK hq
    obtain ⟨A7, A8⟩ := A6 q hq
    have hso2 := hso
    obtain ⟨-, -, -, -, ⟨⟨-, d7, d8, d9⟩, -⟩, -⟩ := hso2
    have hm2 := hF1.at hm
    have v2 : SkV S2 (DC S1 x) K (sk.set k.toNat ((s.1.1, r1, s.1.2.2), s.2)) := SkV_fl (u := (r1, s.1.2.2)) hG1 hK hF1 (by decide +kernel) hk hq A7 (hF1.I' (g := 708) (by decide +kernel) hq7 d8) (hF1.I' (g := 709) (by decide +kernel) hq7 d9) (fun b hb hn => ⟨A8 b hb hn, hF1.I' (g := 708) (by decide +kernel) hb rfl, hF1.I' (g := 709) (by decide +kernel) hb rfl⟩) hw.2.2.1.1
    have v3 : SkV S3 (DC S3 x) K (sk.set k.toNat ((s.1.1, r1, s.1.2.2), s.2)) := SkV_up (dc_to hG1 hx hF (by decide +kernel)) (SkV_fr hG2 (hF1.at hK) hF2 (by decide +kernel) v2)
    have w2 : SkW S2 mo (sk.map (skN ν)) := SkW_fr hG1 hm hF1 (by decide +kernel) hw.2.2.1.2.1
    have g3 : gO S3 mo k.toNat = r1.toInt := by
      have z := B6 k.toNat
      rw [if_pos rfl] at z
      have n := grF_ge (gdO (mtS S1) s sd d)
      unfold gO
      rw [z, if_neg (by omega), er]
    have z4 : zA S3 mo 1244 = zA S2 mo 1244 := zA_fr hF2 hm2 (ex3 (gQ_12_1244 hG2 hm2)) (by decide +kernel) (by decide +kernel)
    have hr4 := (w2.2 k.toNat (skN ν s) hk').1.1.2.2
    have w3 : SkW S3 mo ((sk.map (skN ν)).set k.toNat (((skN ν s).1.1, r1, (skN ν s).1.2.2), (skN ν s).2)) := SkW_fl (u := (r1, (skN ν s).1.2.2)) (congrArg Int32.toInt (hF2.I' (g := 1238) (by decide +kernel) hm2 rfl)) (zA_fr hF2 hm2 (ex3 (gQ_12_1235 hG2 hm2)) (by decide +kernel) (by decide +kernel)) (zA_fr hF2 hm2 (ex3 (gQ_12_1236 hG2 hm2)) (by decide +kernel) (by decide +kernel)) (zA_fr hF2 hm2 (ex3 (gQ_12_1239 hG2 hm2)) (by decide +kernel) (by decide +kernel)) (zA_fr hF2 hm2 (ex3 (gQ_12_1240 hG2 hm2)) (by decide +kernel) (by decide +kernel)) (zA_fr hF2 hm2 (ex3 (gQ_12_1241 hG2 hm2)) (by decide +kernel) (by decide +kernel)) (zA_fr hF2 hm2 (ex3 (gQ_12_1242 hG2 hm2)) (by decide +kernel) (by decide +kernel)) hk' g3 (by rw [z4]; exact hr4) (fun j hj => ⟨gO_eq (by rw [B6 j, if_neg hj]), by rw [z4]⟩) w2
    have em : (sk.set k.toNat ((s.1.1, r1, s.1.2.2), s.2)).map (skN ν) = (sk.map (skN ν)).set k.toNat (((skN ν s).1.1, r1, (skN ν s).1.2.2), (skN ν s).2) := by
      rw [List.map_set]
      rfl
    exact ⟨⟨TXs_fr hG1 hF hx hm (by decide +kernel) h.1, TXt_fr hG1 hF hx hm (by decide +kernel) h.2.1, ν, K, _, TPw_sk hG1 hx hm hF (by decide +kernel) v3 (by rw [em]; exact w3) hX hw⟩, by rw [A1, B1]⟩
  · obtain ⟨r, e⟩ := a2 c
    obtain ⟨r', e'⟩ := b2 (fun h => c (GrI_nu h))
    subst e
    exact ⟨TX_fr (M := [1200]) hG1 (by rw [e']; exact Fr_sI (by decide)) hx hm (by decide +kernel) h, by rw [r, r']⟩
