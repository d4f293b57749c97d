/-! ===== grading ===== -/
theorem gd_eq {S : PS} {x mo K k : Nat} {ν : Nat → Nat} {sk : List Sk} {s : Sk} {sd : Int32} {d : Int} (hG : GX S) (hx : At S x 11) (hmo : At S mo 12) (ct : CT S x mo) (th : mA S mo 1210 = thinF) (hMI : MI S mo) (hw : TPw S x mo ν K sk) (hk : sk[k]? = some s) (h0 : 0 < (s.2.2.2.length : Int)) : gdO (mtZ S mo) (skN ν s) sd d = gdO (mtS S) s sd d ∧ gdL (skN ν s) sd d = gdL s sd d ∧ gdB (skN ν s) d = gdB s d := by
  have h1' : (sk.map (skN ν))[k]? = some (skN ν s) := by rw [List.getElem?_map, hk]; rfl
  obtain ⟨q, hq, g, f, j2, -, -, hv, -⟩ := hw.2.2.1.1.2 _ _ hk
  obtain ⟨-, c2, c3⟩ := hw.2.2.1.2.1.2 _ _ h1'
  have hl : ((skN ν s).2.2.2.length : Int) = (s.2.2.2.length : Int) := by
    show (((s.2.2.2.map (mtN ν)).length : Nat) : Int) = _
    rw [List.length_map]
  have hK := st_at hG hx hw.2.1
  have hg := sk_str hG (sk_at hG hK hq) j2
  have r9 := gI_9_902 hG hg
  have e9 := hv.1
  have eL : gdL (skN ν s) sd d = gdL s sd d := by unfold gdL; rw [hl]
  refine ⟨?_, eL, by unfold gdB; rw [hl]⟩
  unfold gdO
  rw [eL]
  refine ofF_eq (fun m hm => ?_)
  have hi := dr_in h0 (by omega) _ m hm
  obtain ⟨t, ht⟩ : ∃ t, s.2.2.2[m.toNat]? = some t := ⟨_, List.getElem?_eq_getElem (by omega)⟩
  have ht' : (skN ν s).2.2.2[m.toNat]? = some (mtN ν t) := by
    show (s.2.2.2.map (mtN ν))[m.toNat]? = _
    rw [List.getElem?_map, ht]
    rfl
  show mtZ S mo (mtG (skN ν s).2.2.2 m) = mtS S (mtG s.2.2.2 m)
  rw [mtG_eq ht, mtG_eq ht']
  have z1 := z1239 hG hmo k
  have z2 := z1239 hG hmo (k + 1)
  have hlt := (List.getElem?_eq_some_iff.mp ht').1
  exact mt_eq hG hx hmo ct th hMI hw.1 (fun z hz => (hv.2.2.1 t (List.mem_of_getElem? ht) z hz).1) (by omega) (c3 _ _ ht')
theorem GrI_nu {sk : List Sk} {ν : Nat → Nat} {k d : Int} (h : GrI (sk.map (skN ν)) k d) : GrI sk k d := by
  obtain ⟨s, h0, h1, h2, h3, h4⟩ := h
  rw [List.getElem?_map] at h1
  cases e : sk[k.toNat]? with
  | none => rw [e] at h1; cases h1
  | some s0 =>
    rw [e] at h1
    cases h1
    have h4' : d ≤ (((s0.2.2.2.map (mtN ν)).length : Nat) : Int) := h4
    rw [List.length_map] at h4'
    exact ⟨s0, h0, e, h2, h3, h4'⟩
def MGG : List Nat := eGR ++ Mgr
theorem TX_grade {S1 S2 S3 : PS} {x mo K Dw : Nat} {ν : Nat → Nat} {sk : List Sk} {k d : Int} {sd r1 r2 : Int32} (hG1 : GX S1) (hG2 : GX S2) (hx : At S1 x 11) (hm : At S1 mo 12) (hF1 : Fr eGR S1 S2) (hF2 : Fr Mgr S2 S3) (ct : CT S1 x mo) (th : mA S1 mo 1210 = thinF) (hMI : MI S1 mo) (hDw : pR S1 1108 x = some Dw) (hw : TPw S1 x mo ν K sk)
    (a1 : ∀ s, 0 ≤ k → sk[k.toNat]? = some s → 1 ≤ d → d ≤ 5 → d ≤ (s.2.2.2.length : Int) → GrC S1 S2 K Dw k s sd d r1) (a2 : ¬ GrI sk k d → r1.toInt = -1 ∧ S2 = S1) (b1 : ∀ s, 0 ≤ k → (sk.map (skN ν))[k.toNat]? = some s → 1 ≤ d → d ≤ 5 → d ≤ (s.2.2.2.length : Int) → GrR S2 S3 mo k s sd d r2) (b2 : ¬ GrI (sk.map (skN ν)) k d → r2.toInt = -1 ∧ S3 = sI S2 1200 mo 0) (h : TX S1 x mo) : TX S3 x mo ∧ r1.toInt = r2.toInt := by
  by_cases c : GrI sk k d
  · obtain ⟨s, k0, hk, d1, d5, dl⟩ := c
    have hk' : (sk.map (skN ν))[k.toNat]? = some (skN ν s) := by rw [List.getElem?_map, hk]; rfl
    obtain ⟨A1, ⟨A2, A3, A4, A5⟩, A6⟩ := a1 s k0 hk d1 d5 dl
    obtain ⟨B1, ⟨B2, B3, B4, B5⟩, B6⟩ := b1 (skN ν s) k0 hk' d1 d5 (by show d ≤ (((s.2.2.2.map (mtN ν)).length : Nat) : Int); rw [List.length_map]; exact dl)
    have hE := gd_eq (sd := sd) (d := d) hG1 hx hm ct th hMI hw hk (by omega)
    have eZ : mtZ S2 mo = mtZ S1 mo := funext (fun t => mtZ_eq (fnZ_fr hG1 hm hF1 (by decide +kernel)))
    rw [eZ, hE.1] at B1 B3
    rw [hE.2.2] at B4
    rw [hE.2.1] at B5
    have hF : Fr MGG S1 S3 := (hF1.mono (by decide +kernel)).trans (hF2.mono (by decide +kernel))
    have hK := st_at hG1 hx hw.2.1
    have hD := dw_at hG1 hx hDw
    have f1 : pI S3 101 Dw = pI S2 101 Dw := hF2.I' (g := 101) (by decide +kernel) (hF1.at hD) rfl
    have f2 : pI S3 102 Dw = pI S2 102 Dw := hF2.I' (g := 102) (by decide +kernel) (hF1.at hD) rfl
    have f3 : pI S3 103 Dw = pI S2 103 Dw := hF2.I' (g := 103) (by decide +kernel) (hF1.at hD) rfl
    have f4 : zA S3 Dw 100 = zA S2 Dw 100 := zA_frc hF2 (hF1.at hD) (ex3 (gQ_1_100 hG2 (hF1.at hD))) (by decide +kernel) (by decide +kernel)
    have hW : EXdw S3 x K mo := ⟨Dw, hF.R' (by decide +kernel) hx hDw, Int32.toInt_inj.mp (by rw [f1, A2, B2]), by rw [f2, A3, B3], Int32.toInt_inj.mp (by rw [f3, A4, B4]), fun j hj => by
      rw [f1, A2] at hj
      rw [f4]
      exact lkZ_pt (A5.trans B5.symm) j hj⟩
    have hX : ExT S3 x K mo := ExT_dw hG1 hx hK hm hF (by decide +kernel) hW hw.2.2.1.2.2
    exact ⟨⟨TXs_fr hG1 hF hx hm (by decide +kernel) h.1, TXt_fr hG1 hF hx hm (by decide +kernel) h.2.1, ν, K, sk, TPw_fx hG1 hx hm hF (by decide +kernel) hX hw⟩, by rw [A1, B1]⟩
  · obtain ⟨r, e⟩ := a2 c
    obtain ⟨r', e'⟩ := b2 (fun h => c (GrI_nu h))
    subst e
    exact ⟨TX_fr (M := [1200]) hG1 (by rw [e']; exact Fr_sI (by decide)) hx hm (by decide +kernel) h, by rw [r, r']⟩
/-! ===== what was drawn ===== -/
theorem dwF_eq {n o b k : Int} {f g : Nat → Int} (h : ∀ j : Nat, (j : Int) < n → f j = g j) : dwF n o b f k = dwF n o b g k := by
  unfold dwF
  by_cases c : n = 0 ∨ k < 0 ∨ n + 2 ≤ k
  · rw [if_pos c, if_pos c]
  · rw [if_neg c, if_neg c]
    by_cases c0 : k = 0
    · rw [if_pos c0, if_pos c0]
    · rw [if_neg c0, if_neg c0]
      by_cases c1 : k = 1
      · rw [if_pos c1, if_pos c1]
      · rw [if_neg c1, if_neg c1]
        exact h _ (by omega)
theorem rq_drawn {S : PS} {x mo K Dw : Nat} {k : Int} {r1 r2 : Int32} (hE : EXdw S x K mo) (hD : pR S 1108 x = some Dw) (a : r1.toInt = dwF (pI S 101 Dw).toInt (pI S 102 Dw).toInt (pI S 103 Dw).toInt (zA S Dw 100) k) (b : r2.toInt = dwF (pI S 1251 mo).toInt (pI S 1249 mo).toInt (pI S 1250 mo).toInt (zA S mo 1252) k) : r1.toInt = r2.toInt := by
  obtain ⟨D, h1, h2, h3, h4, h5⟩ := hE
  rw [hD] at h1
  cases h1
  rw [a, b, ← h2, ← h3, ← h4]
  exact dwF_eq h5
