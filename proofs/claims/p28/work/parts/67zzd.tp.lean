/-! ===== a price ===== -/
def MPRc : List Nat := ePR ++ Mpr
theorem TX_price {S1 S2 S3 : PS} {x mo : Nat} {g v : Int} {r1 r2 : Int32} (hG1 : GX S1) (hG2 : GX S2) (hx : At S1 x 11) (hm : At S1 mo 12) (hF1 : Fr ePR S1 S2) (hF2 : Fr Mpr S2 S3)
    (ha : (((0 ≤ g ∧ g ≤ 3 ∧ 0 ≤ v ∧ v ≤ 1000) ∧ ∀ K, pR S1 1107 x = some K → ∀ j, zA S2 K 807 j = if j = g.toNat then v else zA S1 K 807 j) ∧ r1 = 1) ∨ ((¬ (0 ≤ g ∧ g ≤ 3 ∧ 0 ≤ v ∧ v ≤ 1000) ∧ S2 = S1) ∧ r1 = 0)) (hb : (((0 ≤ g ∧ g ≤ 3 ∧ 0 ≤ v ∧ v ≤ 1000) ∧ ∀ j, zA S3 mo 1248 j = if j = g.toNat then v else zA S2 mo 1248 j) ∧ r2 = 1) ∨ ((¬ (0 ≤ g ∧ g ≤ 3 ∧ 0 ≤ v ∧ v ≤ 1000) ∧ S3 = sI S2 1200 mo 0) ∧ r2 = 0)) (h : TX S1 x mo) : TX S3 x mo := by
  rcases ha with ⟨⟨a1, a2⟩, -⟩ | ⟨⟨a1, a2⟩, -⟩ <;> rcases hb with ⟨⟨b1, b2⟩, -⟩ | ⟨⟨b1, b2⟩, -⟩
  · have hF : Fr MPRc S1 S3 := (hF1.mono (by decide +kernel)).trans (hF2.mono (by decide +kernel))
    obtain ⟨ν, K, sk, hw⟩ := h.2.2
    have hK := st_at hG1 hx hw.2.1
    have hK2 := hF1.at hK
    have f7 : zA S3 K 807 = zA S2 K 807 := zA_frc hF2 hK2 (ex3 (gQ_8_807 hG2 hK2)) (by decide +kernel) (by decide +kernel)
    have g8 : zA S2 mo 1248 = zA S1 mo 1248 := zA_fr hF1 hm (ex3 (gQ_12_1248 hG1 hm)) (by decide +kernel) (by decide +kernel)
    have x0 : EXpr S1 x K mo := hw.2.2.1.2.2.1
    have hE : EXpr S3 x K mo := fun j hj => by
      rw [f7, a2 K hw.2.1 j, b2 j, g8]
      by_cases z : j = g.toNat
      · rw [if_pos z, if_pos z]
      · rw [if_neg z, if_neg z]
        exact x0 j hj
    exact ⟨TXs_fr hG1 hF hx hm (by decide +kernel) h.1, TXt_fr hG1 hF hx hm (by decide +kernel) h.2.1, ν, K, sk, TPw_fx hG1 hx hm hF (by decide +kernel) (ExT_pr hG1 hx hK hm hF (by decide +kernel) hE hw.2.2.1.2.2) hw⟩
  · exact absurd a1 b1
  · exact absurd b1 a1
  · subst a2
    exact TX_fr (M := [1200]) hG1 (by rw [b2]; exact Fr_sI (by decide)) hx hm (by decide +kernel) h
/-! ===== silk and prices alike ===== -/
theorem siZ_eq {S : PS} {x mo K k : Nat} {ν : Nat → Nat} {sk : List Sk} {s : Sk} (hG : GX S) (hx : At S x 11) (hm : At S mo 12) (ct : CT S x mo) (th : mA S mo 1210 = thinF) (hMI : MI S mo) (hw : TPw S x mo ν K sk) (hk : sk[k]? = some s) : siZ S mo (skN ν s).2.2.2 = siS S s.2.2.2 := by
  have h1' : (sk.map (skN ν))[k]? = some (skN ν s) := by rw [List.getElem?_map, hk]; rfl
  obtain ⟨q, hq, g, f, j2, -, -, hv, -⟩ := hw.2.2.1.1.2 _ _ hk
  obtain ⟨-, c2, c3⟩ := hw.2.2.1.2.1.2 _ _ h1'
  have z1 := z1239 hG hm k
  have z2 := z1239 hG hm (k + 1)
  show ((s.2.2.2.map (mtN ν)).foldl (fun a m => a + mtZ S mo m) 0) = s.2.2.2.foldl (fun a m => a + mtS S m) 0
  rw [List.foldl_map]
  refine flx (fun b t ht => ?_)
  show b + mtZ S mo (mtN ν t) = b + mtS S t
  obtain ⟨j, hj⟩ := List.mem_iff_getElem?.mp ht
  have ht' : (skN ν s).2.2.2[j]? = some (mtN ν t) := by
    show (s.2.2.2.map (mtN ν))[j]? = _
    rw [List.getElem?_map, hj]
    rfl
  have hlt := (List.getElem?_eq_some_iff.mp ht').1
  rw [mt_eq hG hx hm ct th hMI hw.1 (fun z hz => (hv.2.2.1 t ht z hz).1) (by omega) (c3 _ _ ht')]
theorem gI_lt (v : Int32) : gI v < 4 := by
  unfold gI
  split
  · omega
  · decide
