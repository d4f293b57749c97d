theorem up_rng {f g h : Nat → Int} {a k v : Int} {n : Nat} (hs : ∀ j : Nat, g j = if j = n then v else f j) (hf : ∀ j : Nat, f j = if a ≤ (j : Int) ∧ (j : Int) < k then v else h j) (hn : (n : Int) = k) (ha : a ≤ k) : ∀ j : Nat, g j = if a ≤ (j : Int) ∧ (j : Int) < k + 1 then v else h j := fun j => by
  rw [hs j, hf j]
  by_cases e : j = n
  · rw [if_pos e, if_pos (by omega)]
  · rw [if_neg e]
    by_cases e2 : a ≤ (j : Int) ∧ (j : Int) < k
    · rw [if_pos e2, if_pos (by omega)]
    · rw [if_neg e2, if_neg (by omega)]
def FilR (S : PS) (x : Nat) (p l f n : Int) : Prop := 0 ≤ p ∧ p < (pI S 1211 x).toInt ∧ 0 ≤ l ∧ l < (pI S 1201 x).toInt ∧ 1 ≤ n ∧ n ≤ 60 ∧ 0 ≤ f ∧ f + n ≤ zA S x 1202 l.toNat ∧ ∀ j : Int, f ≤ j → j < f + n → zA S x 1207 (60 * l + j).toNat = 0
