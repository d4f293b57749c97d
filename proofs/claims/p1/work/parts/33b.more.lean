theorem pI_sI_ne {S : PS} {g a x y : Nat} {v : Int32} (h : y ≠ a) : pI (sI S g a v) x y = pI S x y := u2_ne _ _ h
