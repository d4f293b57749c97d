/-! ===== a piece ===== -/
theorem inB_nu {ν : Nat → Nat} {D : Nat → Prop} (hI : Inj ν D) {c : Nat} (hc : D c) {t : Mt} (ht : ∀ z, z ∈ t → D z.1) : inB (ν c) (mtN ν t) = inB c t := by
  cases e : inB c t with
  | true =>
    obtain ⟨z, h1, h2⟩ := inB_i.mp e
    exact inB_i.mpr ⟨(ν z.1, z.2), List.mem_map.mpr ⟨z, h1, rfl⟩, by rw [← h2]⟩
  | false =>
    cases e' : inB (ν c) (mtN ν t) with
    | false => rfl
    | true =>
      obtain ⟨y, h1, h2⟩ := inB_i.mp e'
      obtain ⟨z, h3, h4⟩ := List.mem_map.mp h1
      rw [← h4] at h2
      have h5 : inB c t = true := inB_i.mpr ⟨z, h3, hI _ _ (ht z h3) hc h2⟩
      rw [e] at h5
      cases h5
theorem pcR_nu {ν : Nat → Nat} {D : Nat → Prop} (hI : Inj ν D) : ∀ (g : List Mt) (n : Nat) (pm : Mt), (∀ m, m ∈ g → ∀ z, z ∈ m → D z.1) → (∀ z, z ∈ pm → D z.1) → pcR n (mtN ν pm) (g.map (mtN ν)) = (pcR n pm g).map (fun p => (ν p.1, p.2))
  | [], _, _, _, _ => rfl
  | m :: r, n, pm, hg, hp => by
    have hm := hg m List.mem_cons_self
    have ih := pcR_nu hI r (n + 1) m (fun y hy => hg y (List.mem_cons_of_mem _ hy)) hm
    have e : (mtN ν m).filter (fun z => !inB z.1 (mtN ν pm)) = mtN ν (m.filter (fun z => !inB z.1 pm)) := by
      show (m.map (fun u => (ν u.1, u.2))).filter _ = (m.filter _).map (fun u => (ν u.1, u.2))
      rw [List.filter_map]
      congr 1
      refine List.filter_congr (fun z hz => ?_)
      show (!inB (ν z.1) (mtN ν pm)) = !inB z.1 pm
      rw [inB_nu hI (hm z hz) hp]
    show ((mtN ν m).filter (fun z => !inB z.1 (mtN ν pm))).map (fun z => (z.1, n, z.2)) ++ pcR (n + 1) (mtN ν m) (r.map (mtN ν)) = ((m.filter (fun z => !inB z.1 pm)).map (fun z => (z.1, n, z.2)) ++ pcR (n + 1) m r).map (fun p => (ν p.1, p.2))
    rw [e, ih, List.map_append]
    congr 1
    show ((m.filter (fun z => !inB z.1 pm)).map (fun u => (ν u.1, u.2))).map (fun z => (z.1, n, z.2)) = ((m.filter (fun z => !inB z.1 pm)).map (fun z => (z.1, n, z.2))).map (fun p => (ν p.1, p.2))
    rw [List.map_map, List.map_map]
    rfl
theorem pcs_nu {ν : Nat → Nat} {D : Nat → Prop} (hI : Inj ν D) {g : List Mt} (hg : ∀ m, m ∈ g → ∀ z, z ∈ m → D z.1) : pcs (g.map (mtN ν)) = (pcs g).map (fun p => (ν p.1, p.2)) := pcR_nu hI g 0 [] hg (fun z hz => absurd hz List.not_mem_nil)
theorem run_nu {ν : Nat → Nat} {D : Nat → Prop} (hI : Inj ν D) {c : Nat} (hc : D c) : ∀ {L : List Mt}, (∀ m, m ∈ L → ∀ z, z ∈ m → D z.1) → runN (ν c) (L.map (mtN ν)) = runN c L
  | [], _ => rfl
  | m :: r, h => by
    show (if inB (ν c) (mtN ν m) = true then runN (ν c) (r.map (mtN ν)) + 1 else 0) = (if inB c m = true then runN c r + 1 else 0)
    rw [inB_nu hI hc (h m List.mem_cons_self), run_nu hI hc (fun y hy => h y (List.mem_cons_of_mem _ hy))]
theorem ru_nu {ν : Nat → Nat} {D : Nat → Prop} (hI : Inj ν D) {c m : Nat} (hc : D c) {g : List Mt} (hg : ∀ y, y ∈ g → ∀ z, z ∈ y → D z.1) : ruN (g.map (mtN ν)) (ν c) m = ruN g c m := by
  unfold ruN
  rw [← List.map_drop]
  exact run_nu hI hc (fun y hy => hg y (List.mem_of_mem_drop hy))
theorem rq_piece {S : PS} {x mo K : Nat} {ν : Nat → Nat} {sk : List Sk} {k i w : Int} {r1 r2 : Int32} (hG : GX S) (hx : At S x 11) (ct : CT S x mo) (hw : TPw S x mo ν K sk) (a1 : ∀ s p, 0 ≤ k → sk[k.toNat]? = some s → 0 ≤ i → (pcs s.2.2.2)[i.toNat]? = some p → PcC S s.2.2.2 p r1 w) (a2 : ¬ PcI sk k i w → r1.toInt = -1) (b1 : ∀ s p, 0 ≤ k → (sk.map (skN ν))[k.toNat]? = some s → 0 ≤ i → (pcs s.2.2.2)[i.toNat]? = some p → 0 ≤ w → w ≤ 4 → r2.toInt = toF s.2.2.2 p w) (b2 : ¬ PcI (sk.map (skN ν)) k i w → r2.toInt = -1) : r1.toInt = r2.toInt := by
  have hI := nu_inj hG hx hw.1
  have hD : ∀ s, sk[k.toNat]? = some s → ∀ m, m ∈ s.2.2.2 → ∀ z, z ∈ m → DC S x z.1 := fun s hs m hm z hz => by
    obtain ⟨q, -, g, f, -, -, -, hv, -⟩ := hw.2.2.1.1.2 _ _ hs
    exact (hv.2.2.1 m hm z hz).1
  by_cases h : PcI sk k i w
  · obtain ⟨s, p, h0, h1, h2, h3, h4, h5⟩ := h
    have hg := hD s h1
    have h1' : (sk.map (skN ν))[k.toNat]? = some (skN ν s) := by rw [List.getElem?_map, h1]; rfl
    have h3' : (pcs (skN ν s).2.2.2)[i.toNat]? = some (ν p.1, p.2) := by
      show (pcs (s.2.2.2.map (mtN ν)))[i.toNat]? = _
      rw [pcs_nu hI hg, List.getElem?_map, h3]
      rfl
    obtain ⟨c0, c1, c2, c3, c4⟩ := a1 s p h0 h1 h2 h3
    rw [b1 _ _ h0 h1' h2 h3' h4 h5]
    obtain ⟨t, y1, y2⟩ := pcs_in h3
    obtain ⟨z, y3, y4⟩ := inB_i.mp y2
    have hc : DC S x p.1 := by
      rw [← y4]
      exact hg t (List.mem_of_getElem? y1) z y3
    obtain ⟨l, j, k1, k2, k3⟩ := id hc
    have b60 := il60 hG hx l
    have hr := gI_11_1102 hG hx
    have eν := hw.1 l j p.1 k1 k2 k3
    obtain ⟨c', d1, -, d3, d4, -⟩ := CT_get (l := (l : Int)) (i := (j : Int)) ct (by omega) k1 (by omega) (by rw [Int.toNat_natCast]; exact k2) (by omega)
    rw [show (60 * (l : Int) + (j : Int)).toNat = 60 * l + j by omega, k3] at d1
    cases d1
    have t0 : (pI S 0 p.1).toInt = (l : Int) := by
      rw [d3, Int32.toInt_ofInt]
      exact bm_id (by omega) (by omega)
    have t1 : (pI S 1 p.1).toInt = (j : Int) := by
      rw [d4, Int32.toInt_ofInt]
      exact bm_id (by omega) (by omega)
    have t2 : (pI S 0 p.1 * 100).toInt = (l : Int) * 100 := z_mul rfl t0 (show (100 : Int32).toInt = 100 by decide) (by omega) (by omega)
    have t3 : (cdS S p.1).toInt = (l : Int) * 100 + (j : Int) := z_add rfl t2 t1 (by omega) (by omega)
    have t4 : (cdS S p.1 / 100).toInt = ((l : Int) * 100 + (j : Int)) / 100 := z_div rfl t3 (show (100 : Int32).toInt = 100 by decide) (by omega) (by omega)
    have t5 : (cdS S p.1 - cdS S p.1 / 100 * 100).toInt = ((l : Int) * 100 + (j : Int)) % 100 := z_rem rfl t3 (show (100 : Int32).toInt = 100 by decide) (by omega) (by omega)
    show r1.toInt = toF (s.2.2.2.map (mtN ν)) (ν p.1, p.2) w
    unfold toF
    show r1.toInt = if w = 0 then ((ν p.1 : Nat) : Int) / 60 else if w = 1 then ((ν p.1 : Nat) : Int) % 60 else if w = 2 then (p.2.1 : Int) else if w = 4 then p.2.2.toInt else (ruN (s.2.2.2.map (mtN ν)) (ν p.1) p.2.1 : Int)
    rw [ru_nu hI hc hg, eν]
    by_cases e0 : w = 0
    · rw [if_pos e0, c0 e0, t4]
      omega
    · rw [if_neg e0]
      by_cases e1 : w = 1
      · rw [if_pos e1, c1 e1, t5]
        omega
      · rw [if_neg e1]
        by_cases e2 : w = 2
        · rw [if_pos e2, c2 e2]
        · rw [if_neg e2]
          by_cases e4 : w = 4
          · rw [if_pos e4, c4 e4]
          · rw [if_neg e4, c3 (by omega)]
  · rw [a2 h, b2 (fun h' => h (by
      obtain ⟨s, p, h0, h1, h2, h3, h4, h5⟩ := h'
      rw [List.getElem?_map] at h1
      cases e : sk[k.toNat]? with
      | none => rw [e] at h1; cases h1
      | some s0 =>
        rw [e] at h1
        cases h1
        have h3' : (pcs (s0.2.2.2.map (mtN ν)))[i.toNat]? = some p := h3
        rw [pcs_nu hI (hD s0 e), List.getElem?_map] at h3'
        cases e' : (pcs s0.2.2.2)[i.toNat]? with
        | none => rw [e'] at h3'; cases h3'
        | some p0 => exact ⟨s0, p0, h0, e, h2, e', h4, h5⟩))]
