/-! ===== in ===== -/
theorem pw_row {S : PS} {mo : Nat} {p k : Int} {A : Pt} {ν : Nat → Nat} (h : PW S mo p (rnA ν A)) (h0 : 0 ≤ k) (h2 : k ≤ 2) : RowR S mo (3 * p + k).toNat ((inL A k).map ν) := by
  rcases (show k = 0 ∨ k = 1 ∨ k = 2 by omega) with z | z | z <;> subst z
  · rw [inL_0]; exact h.1
  · rw [inL_1]; exact h.2.1
  · rw [inL_2]; exact h.2.2.1
theorem IX_IZ {S : PS} {x mo P R0 R1 R2 G : Nat} {ν : Nat → Nat} {sk : List Sk} {A : Pt} {R : List Ru} {p k i : Int} (tp : (pI S 1104 x).toInt = (pI S 1211 mo).toInt) (hp : 0 ≤ p → p < (pI S 1104 x).toInt → PT1 S x mo ν p.toNat P R0 R1 R2 G A R) : InX S x (cA S A sk) p k i ↔ InZ S mo p k i := by
  have e : inL (cA S A sk) k = inL A k := rfl
  unfold InX InZ
  rw [← tp, e]
  constructor
  · intro h
    obtain ⟨⟨a, b⟩, ⟨c, d⟩, f, g⟩ := h
    have w := pw_row (hp a b).2.2.2.2.1 c d
    rw [Int.toNat_of_nonneg a] at w
    have w1 := w.1
    rw [List.length_map] at w1
    exact ⟨a, b, c, d, f, by omega⟩
  · intro h
    obtain ⟨a, b, c, d, f, g⟩ := h
    have w := pw_row (hp a b).2.2.2.2.1 c d
    rw [Int.toNat_of_nonneg a] at w
    have w1 := w.1
    rw [List.length_map] at w1
    exact ⟨⟨a, b⟩, ⟨c, d⟩, f, by omega⟩
theorem in_val {S : PS} {x mo K P R0 R1 R2 G : Nat} {ν : Nat → Nat} {sk : List Sk} {A : Pt} {R : List Ru} {p k i : Int} {v : Int32} (hG : GX S) (hx : At S x 11) (ct : CT S x mo) (hw : TPw S x mo ν K sk) (hp : 0 ≤ p → p < (pI S 1104 x).toInt → PT1 S x mo ν p.toNat P R0 R1 R2 G A R) (h : InX S x (cA S A sk) p k i) (hv : InV S (cA S A sk) k i v) : v.toInt = inZ S mo p k i := by
  obtain ⟨⟨a, b⟩, ⟨c, d⟩, f, g⟩ := h
  obtain ⟨q, q1, q2⟩ := hv
  have q1 : (inL A k)[i.toNat]? = some q := q1
  have hq := hp a b
  have w := pw_row hq.2.2.2.2.1 c d
  rw [Int.toNat_of_nonneg a] at w
  have w2 := w.2 i.toNat (ν q) (by rw [List.getElem?_map, q1]; rfl)
  have hm : q ∈ inL A k := List.mem_of_getElem? q1
  have hD : DC S x q := hq.2.2.1.2.2.2.2.2.2.2.2 q (by
    rcases (show k = 0 ∨ k = 1 ∨ k = 2 by omega) with z | z | z <;> subst z
    · rw [inL_0] at hm; exact Or.inl hm
    · rw [inL_1] at hm; exact Or.inr (Or.inl hm)
    · rw [inL_2] at hm; exact Or.inr (Or.inr hm))
  obtain ⟨l, j, g1, g2, g3⟩ := hD
  have bb := il60 hG hx l
  have hr := gI_11_1102 hG hx
  have eν := hw.1 l j q g1 g2 g3
  obtain ⟨c', k1, k2, k3, k4, -⟩ := CT_get (l := (l : Int)) (i := (j : Int)) ct (by omega) g1 (by omega) (by rw [Int.toNat_natCast]; exact g2) (by omega)
  rw [show (60 * (l : Int) + (j : Int)).toNat = 60 * l + j by omega, g3] at k1
  cases k1
  have z : ∀ m : Nat, (m : Int) < 100 → (Int32.ofInt (m : Int)).toInt = (m : Int) := fun m hm => by
    rw [Int32.toInt_ofInt]; exact bm_id (by omega) (by omega)
  have t0 : (pI S 0 q).toInt = (l : Int) := by rw [k3]; exact z l (by omega)
  have t1 : (pI S 1 q).toInt = (j : Int) := by rw [k4]; exact z j (by omega)
  have t2 : (pI S 0 q * 100).toInt = (l : Int) * 100 := z_mul rfl t0 (show (100 : Int32).toInt = 100 by decide) (by omega) (by omega)
  have t3 : (pI S 0 q * 100 + pI S 1 q).toInt = (l : Int) * 100 + (j : Int) := z_add rfl t2 t1 (by omega) (by omega)
  unfold inZ
  rw [show (600 * (3 * p + k) + i).toNat = 600 * (3 * p + k).toNat + i.toNat by omega, w2, eν, q2, t3]
  omega
