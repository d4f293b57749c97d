/-! ===== a price ===== -/
def MPRc : List Nat := ePR ++ Mpr
theorem TX_price {S1 S2 S3 : PS} {x mo : Nat} {g v : Int} {r1 r2 : Int32} (hG1 : GX S1) (hG2 : GX S2) (hx : At S1 x 11) (hm : At S1 mo 12) (hF1 : Fr ePR S1 S2) (hF2 : Fr Mpr S2 S3)
    (ha : (((0 ≤ g ∧ g ≤ 3 ∧ 0 ≤ v ∧ v ≤ 1000) ∧ ∀ K, pR S1 1107 x = some K → ∀ j, zA S2 K 807 j = if j = g.toNat then v else zA S1 K 807 j) ∧ r1 = 1) ∨ ((¬ (0 ≤ g ∧ g ≤ 3 ∧ 0 ≤ v ∧ v ≤ 1000) ∧ S2 = S1) ∧ r1 = 0)) (hb : (((0 ≤ g ∧ g ≤ 3 ∧ 0 ≤ v ∧ v ≤ 1000) ∧ ∀ j, zA S3 mo 1248 j = if j = g.toNat then v else zA S2 mo 1248 j) ∧ r2 = 1) ∨ ((¬ (0 ≤ g ∧ g ≤ 3 ∧ 0 ≤ v ∧ v ≤ 1000) ∧ S3 = sI S2 1200 mo 0) ∧ r2 = 0)) (h : TX S1 x mo) : TX S3 x mo := by
  rcases ha with ⟨⟨a1, a2⟩, -⟩ | ⟨⟨a1, a2⟩, -⟩ <;> rcases hb with ⟨⟨b1, b2⟩, -⟩ | ⟨⟨b1, b2⟩, -⟩
  · have hF : Fr MPRc S1 S3 := (hF1.mono (by decide +kernel)).trans (hF2.mono (by decide +kernel))
    obtain ⟨ν, K, sk, hw⟩ := h.2.2
    have hK := st_at hG1 hx hw.2.1
    have hK2 := hF1.at hK
    have f7 : zA S3 K 807 = zA S2 K 807 := zA_frc hF2 hK2 (ex3 (gQ_8_807 hG2 hK2)) (by decide +kernel) (by decide +kernel)
    have g8 : zA S2 mo 1248 = zA S1 mo 1248 := zA_fr hF1 hm (ex3 (gQ_12_1248 hG1 hm)) (by decide +kernel) (by decide +kernel)
    have x0 : EXpr S1 x K mo := hw.2.2.1.2.2.2.1
    have hE : EXpr S3 x K mo := fun j hj => by
      rw [f7, a2 K hw.2.1 j, b2 j, g8]
      by_cases z : j = g.toNat
      · rw [if_pos z, if_pos z]
      · rw [if_neg z, if_neg z]
        exact x0 j hj
    exact ⟨TXs_fr hG1 hF hx hm (by decide +kernel) h.1, TXt_fr hG1 hF hx hm (by decide +kernel) h.2.1, ν, K, sk, TPw_fx hG1 hx hm hF (by decide +kernel) (ExT_pr hG1 hx hK hm hF (by decide +kernel) hE hw.2.2.1.2.2) hw⟩
  · exact absurd a1 b1
  · exact absurd b1 a1
  · subst a2
    exact TX_fr (M := [1200]) hG1 (by rw [b2]; exact Fr_sI (by decide)) hx hm (by decide +kernel) h
/-! ===== silk and prices alike ===== -/
theorem siZ_eq {S : PS} {x mo K k : Nat} {ν : Nat → Nat} {sk : List Sk} {s : Sk} (hG : GX S) (hx : At S x 11) (hm : At S mo 12) (ct : CT S x mo) (th : mA S mo 1210 = thinF) (hMI : MI S mo) (hw : TPw S x mo ν K sk) (hk : sk[k]? = some s) : siZ S mo (skN ν s).2.2.2 = siS S s.2.2.2 := by
  have h1' : (sk.map (skN ν))[k]? = some (skN ν s) := by rw [List.getElem?_map, hk]; rfl
  obtain ⟨q, hq, g, f, j2, -, -, hv, -⟩ := hw.2.2.1.1.2 _ _ hk
  obtain ⟨-, c2, c3⟩ := hw.2.2.1.2.1.2 _ _ h1'
  have z1 := z1239 hG hm k
  have z2 := z1239 hG hm (k + 1)
  show ((s.2.2.2.map (mtN ν)).foldl (fun a m => a + mtZ S mo m) 0) = s.2.2.2.foldl (fun a m => a + mtS S m) 0
  rw [List.foldl_map]
  refine flx (fun b t ht => ?_)
  show b + mtZ S mo (mtN ν t) = b + mtS S t
  obtain ⟨j, hj⟩ := List.mem_iff_getElem?.mp ht
  have ht' : (skN ν s).2.2.2[j]? = some (mtN ν t) := by
    show (s.2.2.2.map (mtN ν))[j]? = _
    rw [List.getElem?_map, hj]
    rfl
  have hlt := (List.getElem?_eq_some_iff.mp ht').1
  rw [mt_eq hG hx hm ct th hMI hw.1 (fun z hz => (hv.2.2.1 t ht z hz).1) (by omega) (c3 _ _ ht')]
theorem gI_lt (v : Int32) : gI v < 4 := by
  unfold gI
  split
  · omega
  · decide
/-! ===== pay ===== -/
theorem py_sum {S : PS} {x mo K : Nat} {ν : Nat → Nat} {sk : List Sk} {p a : Int} (hG : GX S) (hx : At S x 11) (hm : At S mo 12) (ct : CT S x mo) (th : mA S mo 1210 = thinF) (hMI : MI S mo) (hw : TPw S x mo ν K sk) (hp : EXpr S x K mo) (hg : ∀ s, s ∈ sk → gI s.1.2.1 < 4) : pyS (siZ S mo) (mA S mo 1248) p a (sk.map (skN ν)) = pyS (siS S) (mA S K 807) p a sk := by
  unfold pyS
  rw [List.foldl_map]
  refine flx (fun b s hs => ?_)
  obtain ⟨k, hk⟩ := List.mem_iff_getElem?.mp hs
  have e1 := siZ_eq hG hx hm ct th hMI hw hk
  have e2 := hp (gI s.1.2.1) (hg s hs)
  rw [zA_eq, zA_eq] at e2
  show (if s.1.1.toInt = p ∧ s.2.1.toInt = a then b + pcI (siZ S mo (skN ν s).2.2.2) (mA S mo 1248 (gI s.1.2.1)) else b) = _
  rw [e1, ← Int32.toInt_inj.mp e2]
theorem pyC_nu {sk : List Sk} {ν : Nat → Nat} {p a k : Int} : pyC (sk.map (skN ν)) p a k ↔ pyC sk p a k := by
  constructor
  · rintro ⟨s, h0, h1, h2⟩
    rw [List.getElem?_map] at h1
    cases e : sk[k.toNat]? with
    | none => rw [e] at h1; cases h1
    | some s0 =>
      rw [e] at h1
      cases h1
      exact ⟨s0, h0, e, h2⟩
  · rintro ⟨s, h0, h1, h2⟩
    exact ⟨skN ν s, h0, by rw [List.getElem?_map, h1]; rfl, h2⟩
theorem py_flt {L M : List Sk} {fs fd fa gs gd ga : Nat → Int} {p a k : Int} {b : Int32} (hC : ∀ i, pyC M p a i ↔ pyC L p a i) : ∀ n : Nat, (∀ f : Nat, f < n → fs f = gs f ∧ fd f = gd f ∧ fa f = ga f) → pyF M gs gd ga p a k b n = pyF L fs fd fa p a k b n
  | 0, _ => rfl
  | n + 1, h => by
    obtain ⟨h1, h2, h3⟩ := h n (Nat.lt_succ_self n)
    have ih := py_flt (b := b) (k := k) hC n (fun f hf => h f (Nat.lt_succ_of_lt hf))
    by_cases c : pyC L p a (fs n) ∧ fd n ≤ k
    · rw [pyF_y c.1 c.2, pyF_y (by rw [← h1]; exact (hC _).mpr c.1) (by rw [← h2]; exact c.2), ih, h3]
    · rw [pyF_n c, pyF_n (fun z => c ⟨by rw [h1]; exact (hC _).mp z.1, by rw [h2]; exact z.2⟩), ih]
theorem fl_pre {S : PS} {x mo K : Nat} {ν : Nat → Nat} {sk : List Sk} (hw : TPw S x mo ν K sk) (hf : EXfl S x K mo) : ∀ f : Nat, (f : Int) < (pI S 1262 mo).toInt → 0 ≤ zA S mo 1263 f ∧ zA S mo 1263 f < ((sk.map (skN ν)).length : Int) := fun f h => by
  have h1 := hf.1
  obtain ⟨⟨k1, -, -⟩, k4, k5⟩ := hf.2 f (by omega)
  have hl := hw.2.2.1.1.1
  rw [List.length_map]
  omega
theorem rq_pay {S : PS} {x mo K : Nat} {ν : Nat → Nat} {sk : List Sk} {p a k : Int} {r1 r2 : Int32} (hG : GX S) (hx : At S x 11) (hm : At S mo 12) (ct : CT S x mo) (th : mA S mo 1210 = thinF) (hMI : MI S mo) (hPN : PN S x) (tp : (pI S 1104 x).toInt = (pI S 1211 mo).toInt) (hd : ∀ K, pR S 1107 x = some K → pI S 801 K = pI S 1245 mo) (hw : TPw S x mo ν K sk) (hp : EXpr S x K mo) (hf : EXfl S x K mo)
    (a1 : ((0 ≤ p ∧ p < (pI S 1104 x).toInt) ∧ (0 ≤ a ∧ a ≤ (pI S 801 K).toInt) ∧ 0 ≤ k ∧ k ≤ (pI S 801 K).toInt) → PN S x → r1 = pyF sk (zA S K 809) (zA S K 810) (zA S K 811) p a k (pyS (siS S) (mA S K 807) p a sk) (pI S 806 K).toInt.toNat) (a2 : PN S x → ¬ ((0 ≤ p ∧ p < (pI S 1104 x).toInt) ∧ (0 ≤ a ∧ a ≤ (pI S 801 K).toInt) ∧ 0 ≤ k ∧ k ≤ (pI S 801 K).toInt) → r1.toInt = 0)
    (b1 : ((0 ≤ p ∧ p < (pI S 1211 mo).toInt) ∧ (0 ≤ a ∧ a ≤ (pI S 1245 mo).toInt) ∧ 0 ≤ k ∧ k ≤ (pI S 1245 mo).toInt) → r2 = pyF (sk.map (skN ν)) (zA S mo 1263) (zA S mo 1265) (zA S mo 1264) p a k (pyS (siZ S mo) (mA S mo 1248) p a (sk.map (skN ν))) (pI S 1262 mo).toInt.toNat) (b2 : ¬ ((0 ≤ p ∧ p < (pI S 1211 mo).toInt) ∧ (0 ≤ a ∧ a ≤ (pI S 1245 mo).toInt) ∧ 0 ≤ k ∧ k ≤ (pI S 1245 mo).toInt) → r2.toInt = 0) : r1.toInt = r2.toInt := by
  rw [← tp, ← hd K hw.2.1] at b1 b2
  by_cases c : (0 ≤ p ∧ p < (pI S 1104 x).toInt) ∧ (0 ≤ a ∧ a ≤ (pI S 801 K).toInt) ∧ 0 ≤ k ∧ k ≤ (pI S 801 K).toInt
  · rw [a1 c hPN, b1 c, ← hf.1, py_sum hG hx hm ct th hMI hw hp (fun s _ => gI_lt _), py_flt (L := sk) (fs := zA S K 809) (fd := zA S K 810) (fa := zA S K 811) (fun i => pyC_nu) _ (fun f hff => by
      obtain ⟨⟨k1, k2, k3⟩, -⟩ := hf.2 f (by omega)
      exact ⟨k1, k2, k3⟩)]
  · rw [a2 hPN c, b2 c]
