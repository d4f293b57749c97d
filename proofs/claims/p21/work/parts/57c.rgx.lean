def MCt : List Nat := [1229, 1230, 1231, 1232, 1233, 1234, 10674, 10694, 10714, 10734]
/-! ===== the contents of rules: the reference ===== -/
/-- a rule's relation: the class keeps the sign, the reference its number -/
def relC (r : Int32) : Int32 := if r = 60 then 0 else if r = 61 then 1 else 2
theorem relC_0 {r : Int32} (h : r.toInt = 60) : relC r = 0 := if_pos (Int32.toInt_inj.mp (h.trans (by decide)))
theorem relC_1 {r : Int32} (h : r.toInt = 61) : relC r = 1 := by
  unfold relC
  rw [if_neg (fun z => by rw [z] at h; exact absurd h (by decide)), if_pos (Int32.toInt_inj.mp (h.trans (by decide)))]
theorem relC_2 {r : Int32} (h : r.toInt = 62) : relC r = 2 := by
  unfold relC
  rw [if_neg (fun z => by rw [z] at h; exact absurd h (by decide)), if_neg (fun z => by rw [z] at h; exact absurd h (by decide))]
def CnR (S : PS) (x i : Nat) (C : List Cn) : Prop := zA S x 1223 i = (C.length : Int) ∧ ∀ j c, C[j]? = some c → zA S x 1224 (4 * i + j) = c.1.toInt ∧ zA S x 1225 (4 * i + j) = (relC c.2.1).toInt ∧ zA S x 1226 (4 * i + j) = c.2.2.toInt
def RxN (S : PS) (x i : Nat) (r : Ru) : Prop := zA S x 1221 i = r.1.toInt ∧ zA S x 1222 i = r.2.1.toInt ∧ CnR S x i r.2.2
/-- the rules that are being read lie from 48 on -/
def RrIs (S : PS) (x : Nat) (R : List Ru) : Prop := ∀ k r, R[k]? = some r → RxN S x (48 + k) r
def RrC (S : PS) (x : Nat) (R : List Ru) (C : List Cn) : Prop := RrIs S x R ∧ CnR S x (48 + R.length) C
def rgG : List Nat := [1221, 1222, 1223, 1224, 1225, 1226]
theorem CnR_to {S T : PS} {x i : Nat} {C : List Cn} (hA : ∀ g, g ∈ rgG → zA T x g = zA S x g) (h : CnR S x i C) : CnR T x i C := by
  unfold CnR
  rw [hA 1223 (by decide), hA 1224 (by decide), hA 1225 (by decide), hA 1226 (by decide)]
  exact h
theorem RxN_to {S T : PS} {x i : Nat} {r : Ru} (hA : ∀ g, g ∈ rgG → zA T x g = zA S x g) (h : RxN S x i r) : RxN T x i r := ⟨by rw [hA 1221 (by decide)]; exact h.1, by rw [hA 1222 (by decide)]; exact h.2.1, CnR_to hA h.2.2⟩
theorem RrIs_to {S T : PS} {x : Nat} {R : List Ru} (hA : ∀ g, g ∈ rgG → zA T x g = zA S x g) (h : RrIs S x R) : RrIs T x R := fun k r hk => RxN_to hA (h k r hk)
theorem RrC_to {S T : PS} {x : Nat} {R : List Ru} {C : List Cn} (hA : ∀ g, g ∈ rgG → zA T x g = zA S x g) (h : RrC S x R C) : RrC T x R C := ⟨RrIs_to hA h.1, CnR_to hA h.2⟩
def rgM : List Nat := [1221, 1222, 1223, 1224, 1225, 1226, 10634, 10654, 10674, 10694, 10714, 10734]
theorem rg_zA {M : List Nat} {S T : PS} {x : Nat} (hG : GX S) (hx : At S x 12) (hF : Fr M S T) (hM : rgM.all (fun g => !M.contains g) = true) : ∀ g, g ∈ rgG → zA T x g = zA S x g := fun g hg => by
  have hg2 : g = 1221 ∨ g = 1222 ∨ g = 1223 ∨ g = 1224 ∨ g = 1225 ∨ g = 1226 := by
    revert hg
    simp only [rgG, List.mem_cons, List.not_mem_nil, or_false]
    exact fun h => h
  rcases hg2 with z | z | z | z | z | z <;> subst z
  · exact zA_fr hF hx (ex3 (gQ_12_1221 hG hx)) (allc hM (by decide)) (allc hM (by decide))
  · exact zA_fr hF hx (ex3 (gQ_12_1222 hG hx)) (allc hM (by decide)) (allc hM (by decide))
  · exact zA_fr hF hx (ex3 (gQ_12_1223 hG hx)) (allc hM (by decide)) (allc hM (by decide))
  · exact zA_fr hF hx (ex3 (gQ_12_1224 hG hx)) (allc hM (by decide)) (allc hM (by decide))
  · exact zA_fr hF hx (ex3 (gQ_12_1225 hG hx)) (allc hM (by decide)) (allc hM (by decide))
  · exact zA_fr hF hx (ex3 (gQ_12_1226 hG hx)) (allc hM (by decide)) (allc hM (by decide))
/-- the rules of the pots are left as they are -/
def RrL (S T : PS) (x : Nat) : Prop := (∀ j, j < 48 → zA T x 1221 j = zA S x 1221 j ∧ zA T x 1222 j = zA S x 1222 j ∧ zA T x 1223 j = zA S x 1223 j) ∧ (∀ j, j < 192 → zA T x 1224 j = zA S x 1224 j ∧ zA T x 1225 j = zA S x 1225 j ∧ zA T x 1226 j = zA S x 1226 j) ∧ ∀ j, j < 4 → zA T x 1220 j = zA S x 1220 j
theorem RrL_rf (S : PS) (x : Nat) : RrL S S x := ⟨fun _ _ => ⟨rfl, rfl, rfl⟩, fun _ _ => ⟨rfl, rfl, rfl⟩, fun _ _ => rfl⟩
theorem RrL_tr {S T U : PS} {x : Nat} (h : RrL S T x) (h' : RrL T U x) : RrL S U x := ⟨fun j hj => ⟨(h'.1 j hj).1.trans (h.1 j hj).1, (h'.1 j hj).2.1.trans (h.1 j hj).2.1, (h'.1 j hj).2.2.trans (h.1 j hj).2.2⟩, fun j hj => ⟨(h'.2.1 j hj).1.trans (h.2.1 j hj).1, (h'.2.1 j hj).2.1.trans (h.2.1 j hj).2.1, (h'.2.1 j hj).2.2.trans (h.2.1 j hj).2.2⟩, fun j hj => (h'.2.2 j hj).trans (h.2.2 j hj)⟩
theorem RrL_to {S T U : PS} {x : Nat} (h : RrL S T x) (hA : ∀ g, g ∈ rgG → zA U x g = zA T x g) (h0 : zA U x 1220 = zA T x 1220) : RrL S U x := by
  refine RrL_tr h ⟨fun j _ => ?_, fun j _ => ?_, fun j _ => by rw [h0]⟩
  · rw [hA 1221 (by decide), hA 1222 (by decide), hA 1223 (by decide)]; exact ⟨rfl, rfl, rfl⟩
  · rw [hA 1224 (by decide), hA 1225 (by decide), hA 1226 (by decide)]; exact ⟨rfl, rfl, rfl⟩
/-- rows of rules, cell by cell: what one store changes -/
def CeX (S T : PS) (x g n : Nat) (v : Int) : Prop := (∀ j, zA T x g j = if j = n then v else zA S x g j) ∧ ∀ h, h ∈ rgG → h ≠ g → zA T x h = zA S x h
theorem RrL_ce {S T U : PS} {x g n : Nat} {v : Int} (h : RrL S T x) (hc : CeX T U x g n v) (h0 : zA U x 1220 = zA T x 1220) (hn : (g = 1221 ∨ g = 1222 ∨ g = 1223) ∧ 48 ≤ n ∨ (g = 1224 ∨ g = 1225 ∨ g = 1226) ∧ 192 ≤ n) : RrL S U x := by
  have key : ∀ k j, k ∈ rgG → (k = g → j ≠ n) → zA U x k j = zA T x k j := fun k j hk hj => by
    by_cases e : k = g
    · subst e
      rw [hc.1 j, if_neg (hj rfl)]
    · rw [hc.2 k hk e]
  refine RrL_tr h ⟨fun j hj => ⟨key 1221 j (by decide) (fun e => by omega), key 1222 j (by decide) (fun e => by omega), key 1223 j (by decide) (fun e => by omega)⟩, fun j hj => ⟨key 1224 j (by decide) (fun e => by omega), key 1225 j (by decide) (fun e => by omega), key 1226 j (by decide) (fun e => by omega)⟩, fun j _ => by rw [h0]⟩
theorem CnR_len {S : PS} {x i : Nat} {C : List Cn} (hG : GX S) (hx : At S x 12) (h : CnR S x i C) : C.length ≤ 4 := by
  have := (z1223 hG hx i).2
  have := h.1
  omega
theorem CnR_ce {S T : PS} {x g n i : Nat} {v : Int} {C : List Cn} (hC : C.length ≤ 4) (hc : CeX S T x g n v) (hn : (g = 1221 ∨ g = 1222) ∨ g = 1223 ∧ n ≠ i ∨ (g = 1224 ∨ g = 1225 ∨ g = 1226) ∧ (n < 4 * i ∨ 4 * i + C.length ≤ n)) (h : CnR S x i C) : CnR T x i C := by
  have key : ∀ k j, k ∈ rgG → (k = g → j ≠ n) → zA T x k j = zA S x k j := fun k j hk hj => by
    by_cases e : k = g
    · subst e
      rw [hc.1 j, if_neg (hj rfl)]
    · rw [hc.2 k hk e]
  refine ⟨by rw [key 1223 i (by decide) (fun e => by omega)]; exact h.1, fun j c hj => ?_⟩
  have hl := (List.getElem?_eq_some_iff.mp hj).1
  rw [key 1224 _ (by decide) (fun e => by omega), key 1225 _ (by decide) (fun e => by omega), key 1226 _ (by decide) (fun e => by omega)]
  exact h.2 j c hj
theorem RxN_ce {S T : PS} {x g n i : Nat} {v : Int} {r : Ru} (hG : GX S) (hx : At S x 12) (hc : CeX S T x g n v) (hn : (g = 1221 ∨ g = 1222 ∨ g = 1223) ∧ n ≠ i ∨ (g = 1224 ∨ g = 1225 ∨ g = 1226) ∧ (n < 4 * i ∨ 4 * i + 4 ≤ n)) (h : RxN S x i r) : RxN T x i r := by
  have key : ∀ k j, k ∈ rgG → (k = g → j ≠ n) → zA T x k j = zA S x k j := fun k j hk hj => by
    by_cases e : k = g
    · subst e
      rw [hc.1 j, if_neg (hj rfl)]
    · rw [hc.2 k hk e]
  have hl := CnR_len hG hx h.2.2
  exact ⟨by rw [key 1221 i (by decide) (fun e => by omega)]; exact h.1, by rw [key 1222 i (by decide) (fun e => by omega)]; exact h.2.1, CnR_ce hl hc (by omega) h.2.2⟩
theorem RrIs_ce {S T : PS} {x g n m : Nat} {v : Int} {R : List Ru} (hG : GX S) (hx : At S x 12) (hc : CeX S T x g n v) (hm : R.length ≤ m) (hn : (g = 1221 ∨ g = 1222 ∨ g = 1223) ∧ (n < 48 ∨ 48 + m ≤ n) ∨ (g = 1224 ∨ g = 1225 ∨ g = 1226) ∧ (n < 192 ∨ 192 + 4 * m ≤ n)) (h : RrIs S x R) : RrIs T x R := fun k r hk => by
  have hl := (List.getElem?_eq_some_iff.mp hk).1
  exact RxN_ce hG hx hc (by omega) (h k r hk)
/-- a rule is begun -/
theorem RrC_open {S T : PS} {x n : Nat} {R : List Ru} (hG : GX S) (hx : At S x 12) (hc : CeX S T x 1223 n 0) (hn : n = 48 + R.length) (h : RrIs S x R) : RrC T x R [] := ⟨RrIs_ce hG hx hc (Nat.le_refl _) (Or.inl ⟨Or.inr (Or.inr rfl), Or.inr (by omega)⟩) h, by rw [hc.1, if_pos hn.symm]; rfl, fun j c hj => by cases hj⟩
/-- a condition comes: its field, its relation, its number, then the count -/
theorem RrC_add {S T : PS} {x i k : Nat} {a b d m : Int} {R : List Ru} {C : List Cn} {c : Cn} (hG : GX S) (hx : At S x 12) (h : RrC S x R C) (hi : i = 48 + R.length) (hk : k = 4 * i + C.length) (e1 : zA T x 1221 = zA S x 1221) (e2 : zA T x 1222 = zA S x 1222) (e3 : ∀ j, zA T x 1223 j = if j = i then m else zA S x 1223 j) (e4 : ∀ j, zA T x 1224 j = if j = k then a else zA S x 1224 j) (e5 : ∀ j, zA T x 1225 j = if j = k then b else zA S x 1225 j) (e6 : ∀ j, zA T x 1226 j = if j = k then d else zA S x 1226 j) (ha : a = c.1.toInt) (hb : b = (relC c.2.1).toInt) (hd : d = c.2.2.toInt) (hm : m = (C.length : Int) + 1) : RrC T x R (C ++ [c]) := by
  refine ⟨fun j r hj => ?_, ?_, fun j e hj => ?_⟩
  · have hl := (List.getElem?_eq_some_iff.mp hj).1
    obtain ⟨h1, h2, h3⟩ := h.1 j r hj
    have h4 := CnR_len hG hx h3
    refine ⟨by rw [e1]; exact h1, by rw [e2]; exact h2, by rw [e3, if_neg (by omega)]; exact h3.1, fun l e hl2 => ?_⟩
    have hl3 := (List.getElem?_eq_some_iff.mp hl2).1
    rw [e4, e5, e6, if_neg (by omega), if_neg (by omega), if_neg (by omega)]
    exact h3.2 l e hl2
  · rw [e3, if_pos hi.symm, hm, List.length_append]
    rfl
  · by_cases z : j = C.length
    · subst z
      rw [List.getElem?_append_right (Nat.le_refl _), Nat.sub_self] at hj
      cases hj
      rw [e4, e5, e6, if_pos (by omega), if_pos (by omega), if_pos (by omega)]
      exact ⟨ha, hb, hd⟩
    · have hjl : j < C.length := by
        have := (List.getElem?_eq_some_iff.mp hj).1
        rw [List.length_append] at this
        have h3 : j < C.length + 1 := this
        omega
      rw [List.getElem?_append_left hjl] at hj
      rw [e4, e5, e6, if_neg (by omega), if_neg (by omega), if_neg (by omega)]
      exact h.2.2 j e hj
/-- a rule is closed: its act, its amount -/
theorem RrC_close {S T : PS} {x i : Nat} {a m : Int} {R : List Ru} {C : List Cn} {b d : Int32} (h : RrC S x R C) (hi : i = 48 + R.length) (e1 : ∀ j, zA T x 1221 j = if j = i then a else zA S x 1221 j) (e2 : ∀ j, zA T x 1222 j = if j = i then m else zA S x 1222 j) (e3 : zA T x 1223 = zA S x 1223) (e4 : zA T x 1224 = zA S x 1224) (e5 : zA T x 1225 = zA S x 1225) (e6 : zA T x 1226 = zA S x 1226) (ha : a = b.toInt) (hm : m = d.toInt) : RrIs T x (R ++ [(b, d, C)]) := fun j r hj => by
  have hc : ∀ k L, CnR S x k L → CnR T x k L := fun k L hL => by
    unfold CnR
    rw [e3, e4, e5, e6]
    exact hL
  by_cases z : j = R.length
  · subst z
    rw [List.getElem?_append_right (Nat.le_refl _), Nat.sub_self] at hj
    cases hj
    exact ⟨by rw [e1, if_pos hi.symm]; exact ha, by rw [e2, if_pos hi.symm]; exact hm, hc _ _ h.2⟩
  · have hjl : j < R.length := by
      have := (List.getElem?_eq_some_iff.mp hj).1
      rw [List.length_append] at this
      have h3 : j < R.length + 1 := this
      omega
    rw [List.getElem?_append_left hjl] at hj
    obtain ⟨h1, h2, h3⟩ := h.1 j r hj
    exact ⟨by rw [e1, if_neg (by omega)]; exact h1, by rw [e2, if_neg (by omega)]; exact h2, hc _ _ h3⟩
/-- what is still to come behind a condition: t is the token behind it -/
noncomputable def ceL (B : Nat → Int) (n j : Nat) (t : Tk) : List Cn := cit (sgT B t 58) [] (csL B n j (nxT B n t))
theorem csL_ce {B : Nat → Int} {n j : Nat} {t : Tk} : csL B n (j + 1) t = cdV B n t :: ceL B n j (nx3 B n t) := rfl
theorem ceL_y {B : Nat → Int} {n j : Nat} {t : Tk} (h : sgT B t 58) : ceL B n j t = [] := cit_y h
theorem ceL_n {B : Nat → Int} {n j : Nat} {t : Tk} (h : ¬ sgT B t 58) : ceL B n j t = csL B n j (nxT B n t) := cit_n h
/-- the relation, as the reference keeps it -/
noncomputable def reZ (B : Nat → Int) (t : Tk) : Int := cit (sgT B t 60) 0 (cit (sgT B t 61) 1 2)
theorem reZ_0 {B : Nat → Int} {t : Tk} (h : sgT B t 60) : reZ B t = 0 := cit_y h
theorem reZ_1 {B : Nat → Int} {t : Tk} (h : ¬ sgT B t 60) (h2 : sgT B t 61) : reZ B t = 1 := (cit_n h).trans (cit_y h2)
theorem reZ_2 {B : Nat → Int} {t : Tk} (h : ¬ sgT B t 60) (h2 : ¬ sgT B t 61) : reZ B t = 2 := (cit_n h).trans (cit_n h2)
theorem reZ_rel {B : Nat → Int} {t : Tk} (h : sgT B t 60 ∨ sgT B t 61 ∨ sgT B t 62) : reZ B t = (relC (Int32.ofInt (B t.2.1))).toInt := by
  have z : ∀ v : Int, v = 60 ∨ v = 61 ∨ v = 62 → (Int32.ofInt v).toInt = v := fun v hv => by
    rcases hv with e | e | e <;> subst e <;> decide
  rcases h with h | h | h
  · rw [reZ_0 h, relC_0 (by rw [h.2]; exact z 60 (by omega))]
    decide
  · rw [reZ_1 (fun q => by have := h.2; have := q.2; omega) h, relC_1 (by rw [h.2]; exact z 61 (by omega))]
    decide
  · rw [reZ_2 (fun q => by have := h.2; have := q.2; omega) (fun q => by have := h.2; have := q.2; omega), relC_2 (by rw [h.2]; exact z 62 (by omega))]
    decide
theorem rg_k {S : PS} {x : Nat} (hG : GX S) (hx : At S x 12) : ∀ g, g ∈ rgG → ∃ q, pR S g x = some q ∧ At S q (14 + 20 * (g - 1190)) := fun g hg => by
  have hg2 : g = 1221 ∨ g = 1222 ∨ g = 1223 ∨ g = 1224 ∨ g = 1225 ∨ g = 1226 := by
    revert hg
    simp only [rgG, List.mem_cons, List.not_mem_nil, or_false]
    exact fun h => h
  rcases hg2 with z | z | z | z | z | z <;> subst z
  · exact ex3 (gQ_12_1221 hG hx)
  · exact ex3 (gQ_12_1222 hG hx)
  · exact ex3 (gQ_12_1223 hG hx)
  · exact ex3 (gQ_12_1224 hG hx)
  · exact ex3 (gQ_12_1225 hG hx)
  · exact ex3 (gQ_12_1226 hG hx)
theorem rg_sAo {S T : PS} {x q k0 : Nat} {f : Nat → Int32} (hG : GX S) (hx : At S x 12) (e : T = sA S q f) (hq : At S q k0) (hk : ∀ g, g ∈ rgG → 14 + 20 * (g - 1190) ≠ k0) : ∀ g, g ∈ rgG → zA T x g = zA S x g := fun g hg => by
  obtain ⟨p, k1, k2⟩ := rg_k hG hx g hg
  exact zA_of_mA (mA_sAx (fun z => by rw [k1] at z; exact At_ne k2 hq (hk g hg) (Option.some.inj z)) e)
theorem CeX_mk {S T : PS} {x g n q : Nat} {v : Int} {f : Nat → Int32} (hG : GX S) (hx : At S x 12) (e : T = sA S q f) (hq : At S q (14 + 20 * (g - 1190))) (hg : g ∈ rgG) (h1 : ∀ j, zA T x g j = if j = n then v else zA S x g j) : CeX S T x g n v := ⟨h1, fun k hk hn => by
  obtain ⟨p, k1, k2⟩ := rg_k hG hx k hk
  refine zA_of_mA (mA_sAx (fun z => ?_) e)
  rw [k1] at z
  refine At_ne k2 hq (fun y => hn ?_) (Option.some.inj z)
  have a1 : k = 1221 ∨ k = 1222 ∨ k = 1223 ∨ k = 1224 ∨ k = 1225 ∨ k = 1226 := by
    revert hk
    simp only [rgG, List.mem_cons, List.not_mem_nil, or_false]
    exact fun h => h
  have a2 : g = 1221 ∨ g = 1222 ∨ g = 1223 ∨ g = 1224 ∨ g = 1225 ∨ g = 1226 := by
    revert hg
    simp only [rgG, List.mem_cons, List.not_mem_nil, or_false]
    exact fun h => h
  omega⟩
theorem RrC_ce2 {S T : PS} {x g n : Nat} {v : Int} {R : List Ru} {C : List Cn} (hG : GX S) (hx : At S x 12) (hg : g = 1221 ∨ g = 1222) (hc : CeX S T x g n v) (hn : n = 48 + R.length) (h : RrC S x R C) : RrC T x R C ∧ zA T x g (48 + R.length) = v := ⟨⟨RrIs_ce hG hx hc (Nat.le_refl _) (by omega) h.1, CnR_ce (CnR_len hG hx h.2) hc (by omega) h.2⟩, by rw [hc.1, if_pos hn.symm]⟩
theorem RrC_end {S : PS} {x : Nat} {R : List Ru} {C : List Cn} {b d : Int32} (h : RrC S x R C) (h1 : zA S x 1221 (48 + R.length) = b.toInt) (h2 : zA S x 1222 (48 + R.length) = d.toInt) : RrIs S x (R ++ [(b, d, C)]) := fun j r hj => by
  by_cases z : j = R.length
  · subst z
    rw [List.getElem?_append_right (Nat.le_refl _), Nat.sub_self] at hj
    cases hj
    exact ⟨h1, h2, h.2⟩
  · have hjl : j < R.length := by
      have := (List.getElem?_eq_some_iff.mp hj).1
      rw [List.length_append] at this
      have h3 : j < R.length + 1 := this
      omega
    rw [List.getElem?_append_left hjl] at hj
    exact h.1 j r hj
theorem cs_0 {B : Nat → Int} {n : Nat} {t : Tk} : csL B n 4 t = ([] ++ [cdV B n t]) ++ ceL B n (4 - (([] : List Cn) ++ [cdV B n t]).length) (nx3 B n t) := rfl
theorem cs_s {B : Nat → Int} {n : Nat} {t : Tk} {C N : List Cn} (h : N = C ++ ceL B n (4 - C.length) t) (hs : ¬ sgT B t 58) (hl : C.length < 4) : N = (C ++ [cdV B n (nxT B n t)]) ++ ceL B n (4 - (C ++ [cdV B n (nxT B n t)]).length) (nx3 B n (nxT B n t)) := by
  rw [h, ceL_n hs, show 4 - C.length = (3 - C.length) + 1 by omega, csL_ce, List.length_append, List.append_assoc, show 4 - (C.length + [cdV B n (nxT B n t)].length) = 3 - C.length from (by show 4 - (C.length + 1) = 3 - C.length; omega)]
  rfl
theorem cs_e {B : Nat → Int} {n : Nat} {t : Tk} {C N : List Cn} (h : N = C ++ ceL B n (4 - C.length) t) (hs : sgT B t 58) : N = C := by
  rw [h, ceL_y hs, List.append_nil]
/-! ===== the rules come to a pot ===== -/
/-- k rules of the pot p are copied; of the next one its head and j conditions, where w is 1 -/
def CpI (S T : PS) (x p : Nat) (R : List Ru) (k j w : Nat) : Prop := RrIs T x R ∧ (∀ i r, i < k → R[i]? = some r → RxN T x (12 * p + i) r) ∧ (w = 1 → ∀ r, R[k]? = some r → zA T x 1221 (12 * p + k) = r.1.toInt ∧ zA T x 1222 (12 * p + k) = r.2.1.toInt ∧ zA T x 1223 (12 * p + k) = (r.2.2.length : Int) ∧ ∀ i c, i < j → r.2.2[i]? = some c → zA T x 1224 (4 * (12 * p + k) + i) = c.1.toInt ∧ zA T x 1225 (4 * (12 * p + k) + i) = (relC c.2.1).toInt ∧ zA T x 1226 (4 * (12 * p + k) + i) = c.2.2.toInt) ∧ (∀ i, i < 48 → ¬ (12 * p ≤ i ∧ i < 12 * p + 12) → zA T x 1221 i = zA S x 1221 i ∧ zA T x 1222 i = zA S x 1222 i ∧ zA T x 1223 i = zA S x 1223 i) ∧ ∀ i, i < 192 → ¬ (48 * p ≤ i ∧ i < 48 * p + 48) → zA T x 1224 i = zA S x 1224 i ∧ zA T x 1225 i = zA S x 1225 i ∧ zA T x 1226 i = zA S x 1226 i

set_option maxHeartbeats 4000000 in
set_option maxRecDepth 100000 in
theorem k_X12_condition6 (l : Launch) (G : va_G) (cy : Nat → ClassId) (κ : Nat → Nat) (S : PS) (sz : Nat) (x : Nat) (a1 : Int32) (a1_z : Int) (t0 : Tk) (Rl : List Ru) (Cl : List Cn) (hG : GX S) (ha_x : At S x 12) (hz_a1 : a1.toInt = a1_z) (hp_0 : RGB (rB S x) (pI S 1228 x).toInt.toNat S x t0) (hp_1 : (pI S 1230 x).toInt = 0) (hp_2 : 48 ≤ a1_z) (hp_3 : a1_z ≤ 59) (hp_4 : RrC S x Rl Cl) (hp_5 : a1_z = 48 + (Rl.length : Int)) : Ci l yX12_condition wsX12_condition ({ frames := 6, cells := 0, slots := 0, locals := 288 }) G cy κ S sz [.ref x, .int (a1)] (fun (r : Int32) (S9 : PS) => Ok MCt S S9 ∧ (((cOk (rB S x) (pI S 1228 x).toInt.toNat t0 ∧ RGB (rB S x) (pI S 1228 x).toInt.toNat S9 x (nx3 (rB S x) (pI S 1228 x).toInt.toNat t0) ∧ (pI S9 1230 x).toInt = 0 ∧ zA S x 1223 a1_z.toNat ≤ 3 ∧ zA S9 x 1223 a1_z.toNat = zA S x 1223 a1_z.toNat + 1 ∧ RrC S9 x Rl (Cl ++ [cdV (rB S x) (pI S 1228 x).toInt.toNat t0]) ∧ RrL S S9 x) ∧ r = 1) ∨ (((((whF (rB S x) t0 FLs 0 = -1 ∧ (pI S9 1230 x).toInt = 1) ∨ (whF (rB S x) t0 FLs 0 ≠ -1 ∧ zA S x 1223 a1_z.toNat = 4 ∧ (pI S9 1230 x).toInt = 2) ∨ (zA S x 1223 a1_z.toNat ≠ 4 ∧ ¬ cOk (rB S x) (pI S 1228 x).toInt.toNat t0 ∧ (pI S9 1230 x).toInt = 1))) ∧ RrL S S9 x) ∧ r = 0))) := by
  refine ent_m (cc := cX12_condition) (maxL := 4) (ret := (some .boolean)) (by decide) rfl (Nat.le_of_ble_eq_true rfl) ?_
  intro p e s m below meth c ls X hr hlocks hin hw hl hsz
  subst hsz
  have X : Cx p c cX12_condition 4 s [.ref x, .int (a1)].toArray wsX12_condition RX12 m G cy κ (AS S s.heap.size) := X
  have hl : lv_has ls 4 [(0, .ref x), (1, .int (a1))] := hl
  have rg_a1 : (-2147483648) ≤ a1_z ∧ a1_z ≤ 2147483647 := by rw [← hz_a1]; exact ⟨z_lo _, z_hi _⟩
  have hO : Ok MCt S S := Ok.rf hG
  generalize hQQ : MQ below _ _ _ _ _ _ = QQ
  replace hQQ := hQQ.symm
  have hok := hdI (RGB_ok hG ha_x hp_0)
  have hok1 : t0.2.1 ≤ t0.2.2 ∧ t0.2.2 ≤ 400 := ⟨(hdE hok).1, (hdE hok).2.1⟩
  obtain ⟨v_1, ev_1⟩ : ∃ v, pI S 1230 x = v := ⟨_, rfl⟩
  have rg_3 := And.intro (z_lo v_1) (z_hi v_1)
  have pz_4 : (pI S 1230 x).toInt = v_1.toInt := by rw [ev_1]
  have pz_5 : (pI S 1230 x).toInt = v_1.toInt := (congrArg Int32.toInt ev_1).trans rfl
  obtain ⟨v_6, ev_6⟩ : ∃ v, pI S 1231 x = v := ⟨_, rfl⟩
  have rg_8 := And.intro (z_lo v_6) (z_hi v_6)
  have pz_9 : (pI S 1231 x).toInt = v_6.toInt := by rw [ev_6]
  have pz_10 : (pI S 1231 x).toInt = v_6.toInt := (congrArg Int32.toInt ev_6).trans rfl
  have htk1 := hp_0.1.1
  have hcl : zA S x 1223 a1_z.toNat = (Cl.length : Int) := by have h := hp_4.2.1; rw [show 48 + Rl.length = a1_z.toNat by omega] at h; exact h
  refine lv_aload_n X.1 X.2.1 dX12_condition_0 rfl (lv_at hl 0 rfl) ?_
  refine va_ldcS (q := κ (100 + 17)) X.1 X.2.1 X.2.2.2.2.1 (show vk_R RX12 252 "fine ends basket lost made thin day " (κ (100 + 17)) s from (X.2.2.2.2.2.2.2.2.2.2.2.2.2.2 17 (by decide)).1) dX12_condition_1 ?_
  have pz_11 : (pI S 1230 x).toInt = v_1.toInt := (congrArg Int32.toInt ev_1).trans rfl
  refine k_i (rm := { frames := 5, cells := 0, slots := 0, locals := 240 }) (av := [.ref x, .ref (κ (100 + 17))]) X hw (va_runV (As := [.ref (κ (100 + 17))]) (rest := []) (cfix X) (k_X12_which2 l G cy κ S _ x 17 t0 hO.1 ha_x (by decide) hp_0.1 (by first | assumption | omega) (by first | assumption | omega) (by first | assumption | omega) (by decide)) (cwV 1 X.2.2.2.1 gX12_condition_X12_which rfl rfl rfl (by decide +kernel) ⟨Nat.le_of_ble_eq_true rfl, Nat.le_of_ble_eq_true rfl⟩) (pre_V X hw _ ha_x rfl (by decide) rfl) rfl rfl hl.1 rfl (lv_room (Nat.le_of_ble_eq_true rfl)) dX12_condition_3 ⟨Nat.le_of_ble_eq_true rfl, Nat.le_of_ble_eq_true rfl⟩) 0 0 (Nat.le_of_ble_eq_true rfl) (Nat.le_of_ble_eq_true rfl) (fun rr_12 S_13 H locs hp hw hfr hnw => ?_)
  obtain ⟨e2, hp⟩ := hp
  subst e2
  obtain ⟨wh_14, wh_15, wh_16⟩ := hp
  rw [show wI 17 = FLs from rfl] at wh_16
  refine lv_istore_n (lv' := [(2, .int (rr_12)), (0, .ref x), (1, .int (a1))]) X.1 X.2.1 dX12_condition_6 rfl hl (by decide) rfl (fun ls hl => ?_)
  refine lv_iload_n X.1 X.2.1 dX12_condition_7 rfl (lv_at hl 0 rfl) ?_
  refine lv_iconst (v := (-1)) X.1 X.2.1 dX12_condition_8 (by decide) ?_
  refine lv_icmp_ne (tgt := 18) X.1 X.2.1 dX12_condition_9 (by decide) (fun c_17 => ?_) (fun c_17 => ?_)
  · have z_b_18 := trivial
    have k_19 : rr_12.toInt ≠ (-1) := z_ne rfl ti_m1 c_17
    refine lv_aload_n X.1 X.2.1 dX12_condition_18 rfl (lv_at hl 1 rfl) ?_
    obtain ⟨q_20, h_21, h_22, h_23⟩ := gQ_12_1223 hO.1 ha_x
    refine r_getR (g := 1223) X hw ha_x rfl 23 h_21 (by decide) rfl inn_X12_condition_12 (by decide) (X.2.2.2.1 (.fieldLink RX12 70 "SilkMillModel" "conditions" "[I") (by decide +kernel)) rfl (gv_1223 _ _) dX12_condition_19 ?_
    refine lv_iload_n X.1 X.2.1 dX12_condition_22 rfl (lv_at hl 2 rfl) ?_
    refine r_iald X hw h_22 rfl (by rw [h_23]; exact z_ix hz_a1 (by omega) (by omega)) dX12_condition_23 ?_
    refine lv_topi (fun v_24 ev_24 => ?_)
    have z_25 := gE_674 hO.1 h_22 (Int32.toNatClampNeg (a1)); rw [← ev_24] at z_25
    have ev_24 := ev_24.symm
    have zf_26 : zA S x 1223 (a1_z).toNat = v_24.toInt := (zA_of h_21 hz_a1 (by omega) ev_24)
    refine lv_iconst (v := 4) X.1 X.2.1 dX12_condition_24 (by decide) ?_
    refine lv_icmp_ne (tgt := 34) X.1 X.2.1 dX12_condition_25 (by decide) (fun c_27 => ?_) (fun c_27 => ?_)
    · have z_b_28 := trivial
      have k_29 : v_24.toInt ≠ 4 := z_ne rfl ti_4 c_27
      refine lv_iconst (v := 4) X.1 X.2.1 dX12_condition_34 (by decide) ?_
      refine lv_iload_n X.1 X.2.1 dX12_condition_35 rfl (lv_at hl 2 rfl) ?_
      refine lv_imul X.1 X.2.1 dX12_condition_36 ?_
      refine lv_topi (fun v_30 ev_30 => ?_)
      have z_31 : v_30.toInt = 4 * a1_z := z_mul ev_30 ti_4 hz_a1 (by omega) (by omega)
      refine lv_aload_n X.1 X.2.1 dX12_condition_37 rfl (lv_at hl 1 rfl) ?_
      refine r_getR (g := 1223) X hw ha_x rfl 23 h_21 (by decide) rfl inn_X12_condition_12 (by decide) (X.2.2.2.1 (.fieldLink RX12 70 "SilkMillModel" "conditions" "[I") (by decide +kernel)) rfl (gv_1223 _ _) dX12_condition_38 ?_
      refine lv_iload_n X.1 X.2.1 dX12_condition_41 rfl (lv_at hl 2 rfl) ?_
      refine r_iald X hw h_22 rfl (by rw [h_23]; exact z_ix hz_a1 (by omega) (by omega)) dX12_condition_42 ?_
      rw [ev_24]
      refine lv_iadd X.1 X.2.1 dX12_condition_43 ?_
      refine lv_topi (fun v_32 ev_32 => ?_)
      have z_33 : v_32.toInt = (4 * a1_z) + v_24.toInt := z_add ev_32 z_31 rfl (by omega) (by omega)
      refine lv_istore_n (lv' := [(3, .int (v_32)), (2, .int (rr_12)), (0, .ref x), (1, .int (a1))]) X.1 X.2.1 dX12_condition_44 rfl hl (by decide) rfl (fun ls hl => ?_)
      refine lv_aload_n X.1 X.2.1 dX12_condition_45 rfl (lv_at hl 2 rfl) ?_
      have ok_34 := hdI (RGB_ok hG ha_x hp_0)
      have ok_35 : (t0).2.1 ≤ (t0).2.2 ∧ (t0).2.2 ≤ 400 := ⟨(hdE ok_34).1, (hdE ok_34).2.1⟩
      obtain ⟨v_36, ev_36⟩ : ∃ v, pI S 1233 x = v := ⟨_, rfl⟩
      have rg_37 := gI_12_1233 hO.1 ha_x; rw [ev_36] at rg_37
      have pz_38 : (pI S 1233 x).toInt = v_36.toInt := by rw [ev_36]
      have pz_39 : (pI S 1233 x).toInt = v_36.toInt := (congrArg Int32.toInt ev_36).trans rfl
      refine k_v (rm := { frames := 2, cells := 0, slots := 0, locals := 96 }) (av := [.ref x]) X hw (va_runV (As := []) (rest := []) (cfix X) (k_X12_token2 l G cy κ S _ x hO.1 ha_x) (cwV 0 X.2.2.2.1 gX12_condition_X12_token rfl rfl rfl (by decide +kernel) ⟨Nat.le_of_ble_eq_true rfl, Nat.le_of_ble_eq_true rfl⟩) (pre_V X hw _ ha_x rfl (by decide) rfl) rfl rfl hl.1 rfl (lv_room (Nat.le_of_ble_eq_true rfl)) dX12_condition_46 ⟨Nat.le_of_ble_eq_true rfl, Nat.le_of_ble_eq_true rfl⟩) 0 0 (Nat.le_of_ble_eq_true rfl) (Nat.le_of_ble_eq_true rfl) (fun S_41 H locs hp hw hfr hnw => ?_)
      obtain ⟨hk_42, hp⟩ := hp
      have hO_43 : Ok MCt S S_41 := hO.call hk_42 (by decide +kernel)
      have rg_44 : RGB (rB S x) (pI S 1228 x).toInt.toNat S_41 x (nxT (rB S x) (pI S 1228 x).toInt.toNat t0) := RGB_adv hp_0 rfl rfl (by omega) hp
      have ok_45 := hdI (RGB_ok hG ha_x rg_44)
      have ok_46 : ((nxT (rB S x) (pI S 1228 x).toInt.toNat t0)).2.1 ≤ ((nxT (rB S x) (pI S 1228 x).toInt.toNat t0)).2.2 ∧ ((nxT (rB S x) (pI S 1228 x).toInt.toNat t0)).2.2 ≤ 400 := ⟨(hdE ok_45).1, (hdE ok_45).2.1⟩
      refine lv_aload_n X.1 X.2.1 dX12_condition_49 rfl (lv_at hl 2 rfl) ?_
      have t_47 : At S_41 x 12 := hk_42.fr.at ha_x
      obtain ⟨q_48, h_49, h_50, h_51⟩ := gQ_12_1224 hO_43.1 t_47
      refine r_getR (g := 1224) X hw t_47 rfl 24 h_49 (by decide) rfl inn_X12_condition_12 (by decide) (X.2.2.2.1 (.fieldLink RX12 73 "SilkMillModel" "field" "[I") (by decide +kernel)) rfl (gv_1224 _ _) dX12_condition_50 ?_
      refine lv_iload_n X.1 X.2.1 dX12_condition_53 rfl (lv_at hl 0 rfl) ?_
      refine lv_iload_n X.1 X.2.1 dX12_condition_54 rfl (lv_at hl 1 rfl) ?_
      refine r_iast X hw h_50 rfl (by rw [h_51]; exact z_ix z_33 (by omega) (by omega)) dX12_condition_55 (fun H locs hw => ?_)
      obtain ⟨S_52, eS_52⟩ : ∃ T, T = sA S_41 q_48 (upd (pA S_41 q_48) (Int32.toNatClampNeg (v_32)) (rr_12)) := ⟨_, rfl⟩
      rw [← eS_52] at hw
      have hO_53 : Ok MCt S S_52 := hO_43.sA eS_52 h_50 (by decide +kernel) (uA_694 hO_43.1 h_50)
      have h_54 : pA S_52 q_48 (Int32.toNatClampNeg (v_32)) = rr_12 := tA_sAs eS_52
      have t_55 : pR S_52 1224 x = some q_48 := tR_sA eS_52 h_49
      have t_57 : pR S_41 1224 x = some q_48 := by have h := t_55; rw [eS_52, pR_sA] at h; exact h
      have zs_56 : ∀ j, zA S_52 x 1224 j = if j = (((4 * a1_z) + v_24.toInt)).toNat then rr_12.toInt else zA S_41 x 1224 j := by have h := zA_sAs eS_52 t_57 rfl; rw [z_nc z_33 (by omega)] at h; exact h
      have ce_58 : CeX S_41 S_52 x 1224 (((4 * a1_z) + v_24.toInt)).toNat (rr_12.toInt) := CeX_mk hO_43.1 t_47 eS_52 h_50 (by decide) zs_56
      have zc_59 : zA S_41 x 1224 = zA S x 1224 := zA_fr hk_42.fr ha_x (ex3 (gQ_12_1224 hO.1 ha_x)) (by decide +kernel) (by decide +kernel)
      have t_61 : pR S_41 1224 x = some q_48 := by have h := t_55; rw [eS_52, pR_sA] at h; exact h
      have zs_60 : ∀ j, zA S_52 x 1224 j = if j = (((4 * a1_z) + v_24.toInt)).toNat then rr_12.toInt else zA S_41 x 1224 j := by have h := zA_sAs eS_52 t_61 rfl; rw [z_nc z_33 (by omega)] at h; exact h
      have zs_62 : ∀ j, zA S_52 x 1224 j = if j = (((4 * a1_z) + v_24.toInt)).toNat then rr_12.toInt else zA S x 1224 j := fun j => by rw [zs_60 j, zc_59]
      have zc_66 : zA S_41 x 1223 = zA S x 1223 := zA_fr hk_42.fr ha_x (ex3 (gQ_12_1223 hO.1 ha_x)) (by decide +kernel) (by decide +kernel)
      have zc_67 : zA S_52 x 1223 = zA S x 1223 := (zA_sAn eS_52 (ex3 (gQ_12_1223 hO_43.1 t_47)) h_50 rfl).trans zc_66
      have zc_69 : zA S_41 x 1220 = zA S x 1220 := zA_fr hk_42.fr ha_x (ex3 (gQ_12_1220 hO.1 ha_x)) (by decide +kernel) (by decide +kernel)
      have zc_70 : zA S_52 x 1220 = zA S x 1220 := (zA_sAn eS_52 (ex3 (gQ_12_1220 hO_43.1 t_47)) h_50 rfl).trans zc_69
      have zc_72 : zA S_41 x 1221 = zA S x 1221 := zA_fr hk_42.fr ha_x (ex3 (gQ_12_1221 hO.1 ha_x)) (by decide +kernel) (by decide +kernel)
      have zc_73 : zA S_52 x 1221 = zA S x 1221 := (zA_sAn eS_52 (ex3 (gQ_12_1221 hO_43.1 t_47)) h_50 rfl).trans zc_72
      have zc_75 : zA S_41 x 1222 = zA S x 1222 := zA_fr hk_42.fr ha_x (ex3 (gQ_12_1222 hO.1 ha_x)) (by decide +kernel) (by decide +kernel)
      have zc_76 : zA S_52 x 1222 = zA S x 1222 := (zA_sAn eS_52 (ex3 (gQ_12_1222 hO_43.1 t_47)) h_50 rfl).trans zc_75
      have zc_78 : zA S_41 x 1226 = zA S x 1226 := zA_fr hk_42.fr ha_x (ex3 (gQ_12_1226 hO.1 ha_x)) (by decide +kernel) (by decide +kernel)
      have zc_79 : zA S_52 x 1226 = zA S x 1226 := (zA_sAn eS_52 (ex3 (gQ_12_1226 hO_43.1 t_47)) h_50 rfl).trans zc_78
      have L_63 : ∀ (T_64 : PS) (H : Heap) (locs : List Loc) (ls : Array Slot) , (Wd G cy (AS S s.heap.size) s.heap T_64 H locs) → (At T_64 x 12) → (Ok MCt S T_64) → (zA T_64 x 1223 = zA S x 1223) → (zA T_64 x 1220 = zA S x 1220) → (zA T_64 x 1221 = zA S x 1221) → (zA T_64 x 1222 = zA S x 1222) → (zA T_64 x 1226 = zA S x 1226) → (RGB (rB S x) (pI S 1228 x).toInt.toNat T_64 x (nxT (rB S x) (pI S 1228 x).toInt.toNat t0)) → ((pI T_64 1230 x).toInt = 0) → ((∀ j, zA T_64 x 1224 j = if j = (((4 * a1_z) + v_24.toInt)).toNat then rr_12.toInt else zA S x 1224 j)) → ((∀ j, zA T_64 x 1225 j = if j = (((4 * a1_z) + v_24.toInt)).toNat then reZ (rB S x) (nxT (rB S x) (pI S 1228 x).toInt.toNat t0) else zA S x 1225 j)) → (RrL S T_64 x) → (lv_has ls 4 [(3, .int (v_32)), (2, .int (rr_12)), (0, .ref x), (1, .int (a1))]) → W p l e ({ frames := 6, cells := 0, slots := 0, locals := 288 }) s m [.ref x, .int (a1)].toArray below meth c H locs 0 0 QQ (F0 m 91 ls []) := by
        intro T_64 H locs ls  hw ha_x_L_65 hO_T_64 zk_68 zk_71 zk_74 zk_77 zk_80 iv_81 iv_82 iv_83 iv_84 iv_85 hl
        obtain ⟨v_86, ev_86⟩ : ∃ v, pI T_64 1230 x = v := ⟨_, rfl⟩
        have rg_88 := And.intro (z_lo v_86) (z_hi v_86)
        have pz_89 : (pI T_64 1230 x).toInt = v_86.toInt := by rw [ev_86]
        have pz_90 : (pI T_64 1230 x).toInt = v_86.toInt := (congrArg Int32.toInt ev_86).trans rfl
        have ok_91 := hdI (RGB_ok hG ha_x iv_81)
        have ok_92 : ((nxT (rB S x) (pI S 1228 x).toInt.toNat t0)).2.1 ≤ ((nxT (rB S x) (pI S 1228 x).toInt.toNat t0)).2.2 ∧ ((nxT (rB S x) (pI S 1228 x).toInt.toNat t0)).2.2 ≤ 400 := ⟨(hdE ok_91).1, (hdE ok_91).2.1⟩
        have pz_93 : (pI T_64 1230 x).toInt = v_86.toInt := (congrArg Int32.toInt ev_86).trans rfl
        refine lv_aload_n X.1 X.2.1 dX12_condition_91 rfl (lv_at hl 2 rfl) ?_
        refine lv_ldcwS (q := κ (100 + 18)) X.1 X.2.1 X.2.2.2.2.1 (show vk_R RX12 258 "<" (κ (100 + 18)) s from (X.2.2.2.2.2.2.2.2.2.2.2.2.2.2 18 (by decide)).1) dX12_condition_92 ?_
        have pz_94 : (pI T_64 1230 x).toInt = v_86.toInt := (congrArg Int32.toInt ev_86).trans rfl
        refine k_i (rm := { frames := 5, cells := 0, slots := 0, locals := 240 }) (av := [.ref x, .ref (κ (100 + 18))]) X hw (va_runV (As := [.ref (κ (100 + 18))]) (rest := []) (cfix X) (k_X12_is2 l G cy κ T_64 _ x 18 (nxT (rB S x) (pI S 1228 x).toInt.toNat t0) hO_T_64.1 ha_x_L_65 (by decide) iv_81.1 (by first | assumption | omega) (by first | assumption | omega)) (cwV 1 X.2.2.2.1 gX12_condition_X12_is rfl rfl rfl (by decide +kernel) ⟨Nat.le_of_ble_eq_true rfl, Nat.le_of_ble_eq_true rfl⟩) (pre_V X hw _ ha_x_L_65 rfl (by decide) rfl) rfl rfl hl.1 rfl (lv_room (Nat.le_of_ble_eq_true rfl)) dX12_condition_95 ⟨Nat.le_of_ble_eq_true rfl, Nat.le_of_ble_eq_true rfl⟩) 0 0 (Nat.le_of_ble_eq_true rfl) (Nat.le_of_ble_eq_true rfl) (fun rr_95 S_96 H locs hp hw hfr hnw => ?_)
        obtain ⟨e2, hp⟩ := hp
        subst e2
        rcases hp with ⟨f_97, er_98⟩ | ⟨f_97, er_98⟩ <;> subst er_98
        · have z_b_99 := trivial
          rw [rB_fr hG ha_x hO_T_64.fr (by decide +kernel)] at f_97
          refine lv_if_ne (tgt := 127) X.1 X.2.1 dX12_condition_98 (by decide) (fun c_100 => ?_) (fun c_100 => absurd c_100 (by decide))
          refine lv_aload_n X.1 X.2.1 dX12_condition_127 rfl (lv_at hl 2 rfl) ?_
          have ok_101 := hdI (RGB_ok hG ha_x iv_81)
          have ok_102 : ((nxT (rB S x) (pI S 1228 x).toInt.toNat t0)).2.1 ≤ ((nxT (rB S x) (pI S 1228 x).toInt.toNat t0)).2.2 ∧ ((nxT (rB S x) (pI S 1228 x).toInt.toNat t0)).2.2 ≤ 400 := ⟨(hdE ok_101).1, (hdE ok_101).2.1⟩
          obtain ⟨v_103, ev_103⟩ : ∃ v, pI T_64 1233 x = v := ⟨_, rfl⟩
          have rg_104 := gI_12_1233 hO_T_64.1 ha_x_L_65; rw [ev_103] at rg_104
          have pz_105 : (pI T_64 1233 x).toInt = v_103.toInt := by rw [ev_103]
          have pz_106 : (pI T_64 1233 x).toInt = v_103.toInt := (congrArg Int32.toInt ev_103).trans rfl
          refine k_v (rm := { frames := 2, cells := 0, slots := 0, locals := 96 }) (av := [.ref x]) X hw (va_runV (As := []) (rest := []) (cfix X) (k_X12_token2 l G cy κ T_64 _ x hO_T_64.1 ha_x_L_65) (cwV 0 X.2.2.2.1 gX12_condition_X12_token rfl rfl rfl (by decide +kernel) ⟨Nat.le_of_ble_eq_true rfl, Nat.le_of_ble_eq_true rfl⟩) (pre_V X hw _ ha_x_L_65 rfl (by decide) rfl) rfl rfl hl.1 rfl (lv_room (Nat.le_of_ble_eq_true rfl)) dX12_condition_128 ⟨Nat.le_of_ble_eq_true rfl, Nat.le_of_ble_eq_true rfl⟩) 0 0 (Nat.le_of_ble_eq_true rfl) (Nat.le_of_ble_eq_true rfl) (fun S_108 H locs hp hw hfr hnw => ?_)
          obtain ⟨hk_109, hp⟩ := hp
          have hO_110 : Ok MCt S S_108 := hO_T_64.call hk_109 (by decide +kernel)
          have rg_111 : RGB (rB S x) (pI S 1228 x).toInt.toNat S_108 x (nxT (rB S x) (pI S 1228 x).toInt.toNat (nxT (rB S x) (pI S 1228 x).toInt.toNat t0)) := RGB_adv iv_81 (rB_fr hG ha_x hO_T_64.fr (by decide +kernel)) (by rw [hO_T_64.fr.I' (g := 1228) (by decide +kernel) ha_x rfl]) (by omega) hp
          have ok_112 := hdI (RGB_ok hG ha_x rg_111)
          have ok_113 : ((nxT (rB S x) (pI S 1228 x).toInt.toNat (nxT (rB S x) (pI S 1228 x).toInt.toNat t0))).2.1 ≤ ((nxT (rB S x) (pI S 1228 x).toInt.toNat (nxT (rB S x) (pI S 1228 x).toInt.toNat t0))).2.2 ∧ ((nxT (rB S x) (pI S 1228 x).toInt.toNat (nxT (rB S x) (pI S 1228 x).toInt.toNat t0))).2.2 ≤ 400 := ⟨(hdE ok_112).1, (hdE ok_112).2.1⟩
          refine lv_aload_n X.1 X.2.1 dX12_condition_131 rfl (lv_at hl 2 rfl) ?_
          have t_114 : At S_108 x 12 := hk_109.fr.at ha_x_L_65
          obtain ⟨q_115, h_116, h_117, h_118⟩ := gQ_12_1226 hO_110.1 t_114
          refine r_getR (g := 1226) X hw t_114 rfl 26 h_116 (by decide) rfl inn_X12_condition_12 (by decide) (X.2.2.2.1 (.fieldLink RX12 79 "SilkMillModel" "than" "[I") (by decide +kernel)) rfl (gv_1226 _ _) dX12_condition_132 ?_
          refine lv_iload_n X.1 X.2.1 dX12_condition_135 rfl (lv_at hl 0 rfl) ?_
          refine lv_aload_n X.1 X.2.1 dX12_condition_136 rfl (lv_at hl 2 rfl) ?_
          have t_119 : pI S_108 1230 x = v_86 := hk_109.fr.I' (by decide +kernel) ha_x_L_65 ev_86
          have pz_120 : (pI S_108 1230 x).toInt = v_86.toInt := (congrArg Int32.toInt t_119).trans rfl
          refine k_i (rm := { frames := 3, cells := 0, slots := 0, locals := 144 }) (av := [.ref x]) X hw (va_runV (As := []) (rest := [.int (v_32), .ref q_115]) (cfix X) (k_X12_number2 l G cy κ S_108 _ x (nxT (rB S x) (pI S 1228 x).toInt.toNat (nxT (rB S x) (pI S 1228 x).toInt.toNat t0)) hO_110.1 t_114 (by rw [rB_fr hG ha_x hO_110.fr (by decide +kernel), hO_110.fr.I' (g := 1228) (by decide +kernel) ha_x rfl]; exact rg_111)) (cwV 0 X.2.2.2.1 gX12_condition_X12_number rfl rfl rfl (by decide +kernel) ⟨Nat.le_of_ble_eq_true rfl, Nat.le_of_ble_eq_true rfl⟩) (pre_V X hw _ t_114 rfl (by decide) rfl) rfl rfl hl.1 rfl (lv_room (Nat.le_of_ble_eq_true rfl)) dX12_condition_137 ⟨Nat.le_of_ble_eq_true rfl, Nat.le_of_ble_eq_true rfl⟩) 0 0 (Nat.le_of_ble_eq_true rfl) (Nat.le_of_ble_eq_true rfl) (fun rr_121 S_122 H locs hp hw hfr hnw => ?_)
          obtain ⟨hk_123, hp⟩ := hp
          have hO_124 : Ok MCt S S_122 := hO_110.call hk_123 (by decide +kernel)
          obtain ⟨nm_125, nm_126, nm_127, nm_128⟩ := hp
          rw [rB_fr hG ha_x hO_110.fr (by decide +kernel), hO_110.fr.I' (g := 1228) (by decide +kernel) ha_x rfl] at nm_127
          rw [rB_fr hG ha_x hO_110.fr (by decide +kernel), hO_110.fr.I' (g := 1228) (by decide +kernel) ha_x rfl] at nm_128
          by_cases hd_129 : (nxT (rB S x) (pI S 1228 x).toInt.toNat (nxT (rB S x) (pI S 1228 x).toInt.toNat t0)).1 = 2
          · have nq_130 := nm_127 hd_129
            have nfk_131 := nq_130.2.2
            obtain ⟨v_133, ev_133⟩ : ∃ v, pI S_122 1230 x = v := ⟨_, rfl⟩
            have rg_135 := And.intro (z_lo v_133) (z_hi v_133)
            have pz_136 : (pI S_122 1230 x).toInt = v_133.toInt := by rw [ev_133]
            have pz_137 : (pI S_122 1230 x).toInt = v_133.toInt := (congrArg Int32.toInt ev_133).trans rfl
            have ok_138 := hdI (RGB_ok hG ha_x nq_130.2.1)
            have ok_139 : ((nxT (rB S x) (pI S 1228 x).toInt.toNat (nxT (rB S x) (pI S 1228 x).toInt.toNat (nxT (rB S x) (pI S 1228 x).toInt.toNat t0)))).2.1 ≤ ((nxT (rB S x) (pI S 1228 x).toInt.toNat (nxT (rB S x) (pI S 1228 x).toInt.toNat (nxT (rB S x) (pI S 1228 x).toInt.toNat t0)))).2.2 ∧ ((nxT (rB S x) (pI S 1228 x).toInt.toNat (nxT (rB S x) (pI S 1228 x).toInt.toNat (nxT (rB S x) (pI S 1228 x).toInt.toNat t0)))).2.2 ≤ 400 := ⟨(hdE ok_138).1, (hdE ok_138).2.1⟩
            have t_140 : At S_122 q_115 734 := hk_123.fr.at h_117
            have t_141 : pN S_122 q_115 = 240 := hk_123.fr.N h_117 h_118
            clear h_118
            refine r_iast X hw t_140 rfl (by rw [t_141]; exact z_ix z_33 (by omega) (by omega)) dX12_condition_140 (fun H locs hw => ?_)
            obtain ⟨S_142, eS_142⟩ : ∃ T, T = sA S_122 q_115 (upd (pA S_122 q_115) (Int32.toNatClampNeg (v_32)) (rr_121)) := ⟨_, rfl⟩
            rw [← eS_142] at hw
            have hO_143 : Ok MCt S S_142 := hO_124.sA eS_142 t_140 (by decide +kernel) (uA_734 hO_124.1 t_140)
            have h_144 : pA S_142 q_115 (Int32.toNatClampNeg (v_32)) = rr_121 := tA_sAs eS_142
            have t_145 : pR S_122 1226 x = some q_115 := hk_123.fr.R' (by decide +kernel) t_114 h_116
            have t_146 : pR S_142 1226 x = some q_115 := tR_sA eS_142 t_145
            have t_148 : pR S_122 1226 x = some q_115 := by have h := t_146; rw [eS_142, pR_sA] at h; exact h
            have zs_147 : ∀ j, zA S_142 x 1226 j = if j = (((4 * a1_z) + v_24.toInt)).toNat then rr_121.toInt else zA S_122 x 1226 j := by have h := zA_sAs eS_142 t_148 rfl; rw [z_nc z_33 (by omega)] at h; exact h
            have t_150 : At S_122 x 12 := hk_123.fr.at t_114
            have ce_149 : CeX S_122 S_142 x 1226 (((4 * a1_z) + v_24.toInt)).toNat (rr_121.toInt) := CeX_mk hO_124.1 t_150 eS_142 t_140 (by decide) zs_147
            have zc_151 : zA S_108 x 1226 = zA S x 1226 := (zA_fr hk_109.fr ha_x_L_65 (ex3 (gQ_12_1226 hO_T_64.1 ha_x_L_65)) (by decide +kernel) (by decide +kernel)).trans zk_80
            have zc_152 : zA S_122 x 1226 = zA S x 1226 := (zA_fr hk_123.fr t_114 (ex3 (gQ_12_1226 hO_110.1 t_114)) (by decide +kernel) (by decide +kernel)).trans zc_151
            have t_154 : pR S_122 1226 x = some q_115 := by have h := t_146; rw [eS_142, pR_sA] at h; exact h
            have zs_153 : ∀ j, zA S_142 x 1226 j = if j = (((4 * a1_z) + v_24.toInt)).toNat then rr_121.toInt else zA S_122 x 1226 j := by have h := zA_sAs eS_142 t_154 rfl; rw [z_nc z_33 (by omega)] at h; exact h
            have zs_155 : ∀ j, zA S_142 x 1226 j = if j = (((4 * a1_z) + v_24.toInt)).toNat then rr_121.toInt else zA S x 1226 j := fun j => by rw [zs_153 j, zc_152]
            refine lv_aload_n X.1 X.2.1 dX12_condition_141 rfl (lv_at hl 2 rfl) ?_
            have t_156 : At S_142 x 12 := tAt_sA eS_142 t_150
            obtain ⟨q_157, h_158, h_159, h_160⟩ := gQ_12_1223 hO_143.1 t_156
            refine r_getR (g := 1223) X hw t_156 rfl 23 h_158 (by decide) rfl inn_X12_condition_12 (by decide) (X.2.2.2.1 (.fieldLink RX12 70 "SilkMillModel" "conditions" "[I") (by decide +kernel)) rfl (gv_1223 _ _) dX12_condition_142 ?_
            have zc_161 : zA S_108 x 1223 = zA S x 1223 := (zA_fr hk_109.fr ha_x_L_65 (ex3 (gQ_12_1223 hO_T_64.1 ha_x_L_65)) (by decide +kernel) (by decide +kernel)).trans zk_68
            have zc_162 : zA S_122 x 1223 = zA S x 1223 := (zA_fr hk_123.fr t_114 (ex3 (gQ_12_1223 hO_110.1 t_114)) (by decide +kernel) (by decide +kernel)).trans zc_161
            have zc_163 : zA S_142 x 1223 = zA S x 1223 := (zA_sAn eS_142 (ex3 (gQ_12_1223 hO_124.1 t_150)) t_140 rfl).trans zc_162
            have zz_164 := congrFun zc_163 a1_z.toNat
            refine lv_iload_n X.1 X.2.1 dX12_condition_145 rfl (lv_at hl 3 rfl) ?_
            refine lv_dup2_11 X.1 X.2.1 dX12_condition_146 rfl rfl ?_
            refine r_iald X hw h_159 rfl (by rw [h_160]; exact z_ix hz_a1 (by omega) (by omega)) dX12_condition_147 ?_
            refine lv_topi (fun v_165 ev_165 => ?_)
            have z_166 := gE_674 hO_143.1 h_159 (Int32.toNatClampNeg (a1)); rw [← ev_165] at z_166
            have ev_165 := ev_165.symm
            have zf_167 : zA S_142 x 1223 (a1_z).toNat = v_165.toInt := (zA_of h_158 hz_a1 (by omega) ev_165)
            refine lv_iconst (v := 1) X.1 X.2.1 dX12_condition_148 (by decide) ?_
            refine lv_iadd X.1 X.2.1 dX12_condition_149 ?_
            refine lv_topi (fun v_168 ev_168 => ?_)
            have z_169 : v_168.toInt = v_165.toInt + 1 := z_add ev_168 rfl ti_1 (by omega) (by omega)
            refine r_iast X hw h_159 rfl (by rw [h_160]; exact z_ix hz_a1 (by omega) (by omega)) dX12_condition_150 (fun H locs hw => ?_)
            obtain ⟨S_170, eS_170⟩ : ∃ T, T = sA S_142 q_157 (upd (pA S_142 q_157) (Int32.toNatClampNeg (a1)) (v_168)) := ⟨_, rfl⟩
            rw [← eS_170] at hw
            have hO_171 : Ok MCt S S_170 := hO_143.sA eS_170 h_159 (by decide +kernel) (uA_674 hO_143.1 h_159 (by omega) (by omega))
            have h_172 : pA S_170 q_157 (Int32.toNatClampNeg (a1)) = v_168 := tA_sAs eS_170
            have t_173 : pR S_170 1223 x = some q_157 := tR_sA eS_170 h_158
            have t_175 : pR S_142 1223 x = some q_157 := by have h := t_173; rw [eS_170, pR_sA] at h; exact h
            have zs_174 : ∀ j, zA S_170 x 1223 j = if j = (a1_z).toNat then (v_165.toInt + 1) else zA S_142 x 1223 j := by have h := zA_sAs eS_170 t_175 z_169; rw [z_nc hz_a1 (by omega)] at h; exact h
            have zs_176 := zs_174 (a1_z).toNat; rw [if_pos rfl] at zs_176
            have t_178 : pR S_142 1223 x = some q_157 := by have h := t_173; rw [eS_170, pR_sA] at h; exact h
            have zs_177 : ∀ j, zA S_170 x 1223 j = if j = (a1_z).toNat then (v_165.toInt + 1) else zA S_142 x 1223 j := by have h := zA_sAs eS_170 t_178 z_169; rw [z_nc hz_a1 (by omega)] at h; exact h
            have ce_179 : CeX S_142 S_170 x 1223 (a1_z).toNat ((v_165.toInt + 1)) := CeX_mk hO_143.1 t_156 eS_170 h_159 (by decide) zs_177
            have t_181 : pR S_142 1223 x = some q_157 := by have h := t_173; rw [eS_170, pR_sA] at h; exact h
            have zs_180 : ∀ j, zA S_170 x 1223 j = if j = (a1_z).toNat then (v_165.toInt + 1) else zA S_142 x 1223 j := by have h := zA_sAs eS_170 t_181 z_169; rw [z_nc hz_a1 (by omega)] at h; exact h
            have zs_182 : ∀ j, zA S_170 x 1223 j = if j = (a1_z).toNat then (v_165.toInt + 1) else zA S x 1223 j := fun j => by rw [zs_180 j, zc_163]
            refine lv_aload_n X.1 X.2.1 dX12_condition_151 rfl (lv_at hl 2 rfl) ?_
            have t_183 : At S_170 x 12 := tAt_sA eS_170 t_156
            have t_184 : pI S_142 1230 x = v_133 := tI_sA eS_142 ev_133
            have t_185 : pI S_170 1230 x = v_133 := tI_sA eS_170 t_184
            refine r_getI (g := 1230) (x := v_133) X hw t_183 rfl 30 t_185 (by decide) rfl inn_X12_condition_12 (by decide) (X.2.2.2.1 (.fieldLink RX12 229 "SilkMillModel" "faultKind" "I") (by decide +kernel)) rfl (gv_1230 _ _) dX12_condition_152 ?_
            refine lv_if_ne (tgt := 162) X.1 X.2.1 dX12_condition_155 (by decide) (fun c_186 => ?_) (fun c_186 => ?_)
            · have z_b_187 := trivial
              have k_188 : v_133.toInt ≠ 0 := z_ne rfl ti_0 c_186
              refine lv_iconst (v := 0) X.1 X.2.1 dX12_condition_162 (by decide) ?_
              have pz_189 : (pI S_170 1230 x).toInt = v_133.toInt := (congrArg Int32.toInt t_185).trans rfl
              rw [hQQ]
              exact ret_z X hw hr hlocks (Nat.le_of_ble_eq_true rfl) (Nat.le_of_ble_eq_true rfl) (by decide) ⟨hO_171, (by exfalso; omega)⟩ dX12_condition_163
            · have z_b_190 := trivial
              have k_191 : v_133.toInt = 0 := z_eq rfl ti_0 c_186
              refine lv_iconst (v := 1) X.1 X.2.1 dX12_condition_158 (by decide) ?_
              refine lv_goto (tgt := 163) X.1 X.2.1 dX12_condition_159 (by decide) ?_
              have pz_192 : (pI S_170 1230 x).toInt = v_133.toInt := (congrArg Int32.toInt t_185).trans rfl
              have rg_193 := RGB_sA nq_130.2.1 eS_142
              have rg_194 := RGB_sA rg_193 eS_170
              have rrl_195 : RrL S S_108 x := RrL_to iv_85 (rg_zA hO_T_64.1 ha_x_L_65 hk_109.fr (by decide +kernel)) (zA_fr hk_109.fr ha_x_L_65 (ex3 (gQ_12_1220 hO_T_64.1 ha_x_L_65)) (by decide +kernel) (by decide +kernel))
              have rrl_196 : RrL S S_122 x := RrL_to rrl_195 (rg_zA hO_110.1 t_114 hk_123.fr (by decide +kernel)) (zA_fr hk_123.fr t_114 (ex3 (gQ_12_1220 hO_110.1 t_114)) (by decide +kernel) (by decide +kernel))
              have rrl_197 : RrL S S_142 x := RrL_ce rrl_196 ce_149 (zA_sAn eS_142 (ex3 (gQ_12_1220 hO_124.1 t_150)) t_140 rfl) (by omega)
              have rrl_198 : RrL S S_170 x := RrL_ce rrl_197 ce_179 (zA_sAn eS_170 (ex3 (gQ_12_1220 hO_143.1 t_156)) h_159 rfl) (by omega)
              have zc_199 : zA S_108 x 1221 = zA S x 1221 := (zA_fr hk_109.fr ha_x_L_65 (ex3 (gQ_12_1221 hO_T_64.1 ha_x_L_65)) (by decide +kernel) (by decide +kernel)).trans zk_74
              have zc_200 : zA S_122 x 1221 = zA S x 1221 := (zA_fr hk_123.fr t_114 (ex3 (gQ_12_1221 hO_110.1 t_114)) (by decide +kernel) (by decide +kernel)).trans zc_199
              have zc_201 : zA S_142 x 1221 = zA S x 1221 := (zA_sAn eS_142 (ex3 (gQ_12_1221 hO_124.1 t_150)) t_140 rfl).trans zc_200
              have zc_202 : zA S_170 x 1221 = zA S x 1221 := (zA_sAn eS_170 (ex3 (gQ_12_1221 hO_143.1 t_156)) h_159 rfl).trans zc_201
              have zc_203 : zA S_108 x 1222 = zA S x 1222 := (zA_fr hk_109.fr ha_x_L_65 (ex3 (gQ_12_1222 hO_T_64.1 ha_x_L_65)) (by decide +kernel) (by decide +kernel)).trans zk_77
              have zc_204 : zA S_122 x 1222 = zA S x 1222 := (zA_fr hk_123.fr t_114 (ex3 (gQ_12_1222 hO_110.1 t_114)) (by decide +kernel) (by decide +kernel)).trans zc_203
              have zc_205 : zA S_142 x 1222 = zA S x 1222 := (zA_sAn eS_142 (ex3 (gQ_12_1222 hO_124.1 t_150)) t_140 rfl).trans zc_204
              have zc_206 : zA S_170 x 1222 = zA S x 1222 := (zA_sAn eS_170 (ex3 (gQ_12_1222 hO_143.1 t_156)) h_159 rfl).trans zc_205
              have zc_207 : zA S_108 x 1226 = zA S x 1226 := (zA_fr hk_109.fr ha_x_L_65 (ex3 (gQ_12_1226 hO_T_64.1 ha_x_L_65)) (by decide +kernel) (by decide +kernel)).trans zk_80
              have zc_208 : zA S_122 x 1226 = zA S x 1226 := (zA_fr hk_123.fr t_114 (ex3 (gQ_12_1226 hO_110.1 t_114)) (by decide +kernel) (by decide +kernel)).trans zc_207
              have zc_209 : zA S_170 x 1226 = zA S_142 x 1226 := zA_sAn eS_170 (ex3 (gQ_12_1226 hO_143.1 t_156)) h_159 rfl
              have zc_210 : zA S_108 x 1224 = zA T_64 x 1224 := zA_fr hk_109.fr ha_x_L_65 (ex3 (gQ_12_1224 hO_T_64.1 ha_x_L_65)) (by decide +kernel) (by decide +kernel)
              have zc_211 : zA S_122 x 1224 = zA T_64 x 1224 := (zA_fr hk_123.fr t_114 (ex3 (gQ_12_1224 hO_110.1 t_114)) (by decide +kernel) (by decide +kernel)).trans zc_210
              have zc_212 : zA S_142 x 1224 = zA T_64 x 1224 := (zA_sAn eS_142 (ex3 (gQ_12_1224 hO_124.1 t_150)) t_140 rfl).trans zc_211
              have zc_213 : zA S_170 x 1224 = zA T_64 x 1224 := (zA_sAn eS_170 (ex3 (gQ_12_1224 hO_143.1 t_156)) h_159 rfl).trans zc_212
              have zc_214 : zA S_108 x 1225 = zA T_64 x 1225 := zA_fr hk_109.fr ha_x_L_65 (ex3 (gQ_12_1225 hO_T_64.1 ha_x_L_65)) (by decide +kernel) (by decide +kernel)
              have zc_215 : zA S_122 x 1225 = zA T_64 x 1225 := (zA_fr hk_123.fr t_114 (ex3 (gQ_12_1225 hO_110.1 t_114)) (by decide +kernel) (by decide +kernel)).trans zc_214
              have zc_216 : zA S_142 x 1225 = zA T_64 x 1225 := (zA_sAn eS_142 (ex3 (gQ_12_1225 hO_124.1 t_150)) t_140 rfl).trans zc_215
              have zc_217 : zA S_170 x 1225 = zA T_64 x 1225 := (zA_sAn eS_170 (ex3 (gQ_12_1225 hO_143.1 t_156)) h_159 rfl).trans zc_216
              have rc_218 : RrC S_170 x Rl (Cl ++ [cdV (rB S x) (pI S 1228 x).toInt.toNat t0]) := RrC_add (i := a1_z.toNat) (k := (((4 * a1_z) + v_24.toInt)).toNat) hG ha_x hp_4 (by omega) (by omega) zc_202 zc_206 (fun j => zs_182 j) (fun j => by rw [zc_213, iv_83 j]) (fun j => by rw [zc_217, iv_84 j]) (fun j => by rw [zc_209, zs_155 j]) (by show _ = (Int32.ofInt (whF (rB S x) t0 FLs 0)).toInt; rw [← wh_16, Int32.ofInt_toInt]) (reZ_rel (Or.inl ((isR_lt iv_81).mp f_97.2))) (by show _ = (Int32.ofInt (numF (rB S x) (nxT (rB S x) (pI S 1228 x).toInt.toNat (nxT (rB S x) (pI S 1228 x).toInt.toNat t0)).2.1 ((nxT (rB S x) (pI S 1228 x).toInt.toNat (nxT (rB S x) (pI S 1228 x).toInt.toNat t0)).2.2 - (nxT (rB S x) (pI S 1228 x).toInt.toNat (nxT (rB S x) (pI S 1228 x).toInt.toNat t0)).2.1))).toInt; rw [← nq_130.1, Int32.ofInt_toInt]) (by omega)
              rw [hQQ]
              exact ret_z X hw hr hlocks (Nat.le_of_ble_eq_true rfl) (Nat.le_of_ble_eq_true rfl) (by decide) ⟨hO_171, Or.inl ⟨⟨⟨by omega, Or.inl ((isR_lt iv_81).mp f_97.2), hd_129⟩, rg_194, by omega, by omega, by omega, rc_218, rrl_198⟩, rfl⟩⟩ dX12_condition_163
          · have nq_219 := nm_128 hd_129
            have nfk_220 := nq_219.2
            obtain ⟨v_222, ev_222⟩ : ∃ v, pI S_122 1230 x = v := ⟨_, rfl⟩
            have rg_224 := And.intro (z_lo v_222) (z_hi v_222)
            have pz_225 : (pI S_122 1230 x).toInt = v_222.toInt := by rw [ev_222]
            have pz_226 : (pI S_122 1230 x).toInt = v_222.toInt := (congrArg Int32.toInt ev_222).trans rfl
            have ok_227 := hdI (RGB_ok hG ha_x nq_219.1)
            have ok_228 : ((nxT (rB S x) (pI S 1228 x).toInt.toNat (nxT (rB S x) (pI S 1228 x).toInt.toNat t0))).2.1 ≤ ((nxT (rB S x) (pI S 1228 x).toInt.toNat (nxT (rB S x) (pI S 1228 x).toInt.toNat t0))).2.2 ∧ ((nxT (rB S x) (pI S 1228 x).toInt.toNat (nxT (rB S x) (pI S 1228 x).toInt.toNat t0))).2.2 ≤ 400 := ⟨(hdE ok_227).1, (hdE ok_227).2.1⟩
            have t_229 : At S_122 q_115 734 := hk_123.fr.at h_117
            have t_230 : pN S_122 q_115 = 240 := hk_123.fr.N h_117 h_118
            clear h_118
            refine r_iast X hw t_229 rfl (by rw [t_230]; exact z_ix z_33 (by omega) (by omega)) dX12_condition_140 (fun H locs hw => ?_)
            obtain ⟨S_231, eS_231⟩ : ∃ T, T = sA S_122 q_115 (upd (pA S_122 q_115) (Int32.toNatClampNeg (v_32)) (rr_121)) := ⟨_, rfl⟩
            rw [← eS_231] at hw
            have hO_232 : Ok MCt S S_231 := hO_124.sA eS_231 t_229 (by decide +kernel) (uA_734 hO_124.1 t_229)
            have h_233 : pA S_231 q_115 (Int32.toNatClampNeg (v_32)) = rr_121 := tA_sAs eS_231
            have t_234 : pR S_122 1226 x = some q_115 := hk_123.fr.R' (by decide +kernel) t_114 h_116
            have t_235 : pR S_231 1226 x = some q_115 := tR_sA eS_231 t_234
            have t_237 : pR S_122 1226 x = some q_115 := by have h := t_235; rw [eS_231, pR_sA] at h; exact h
            have zs_236 : ∀ j, zA S_231 x 1226 j = if j = (((4 * a1_z) + v_24.toInt)).toNat then rr_121.toInt else zA S_122 x 1226 j := by have h := zA_sAs eS_231 t_237 rfl; rw [z_nc z_33 (by omega)] at h; exact h
            have t_239 : At S_122 x 12 := hk_123.fr.at t_114
            have ce_238 : CeX S_122 S_231 x 1226 (((4 * a1_z) + v_24.toInt)).toNat (rr_121.toInt) := CeX_mk hO_124.1 t_239 eS_231 t_229 (by decide) zs_236
            have zc_240 : zA S_108 x 1226 = zA S x 1226 := (zA_fr hk_109.fr ha_x_L_65 (ex3 (gQ_12_1226 hO_T_64.1 ha_x_L_65)) (by decide +kernel) (by decide +kernel)).trans zk_80
            have zc_241 : zA S_122 x 1226 = zA S x 1226 := (zA_fr hk_123.fr t_114 (ex3 (gQ_12_1226 hO_110.1 t_114)) (by decide +kernel) (by decide +kernel)).trans zc_240
            have t_243 : pR S_122 1226 x = some q_115 := by have h := t_235; rw [eS_231, pR_sA] at h; exact h
            have zs_242 : ∀ j, zA S_231 x 1226 j = if j = (((4 * a1_z) + v_24.toInt)).toNat then rr_121.toInt else zA S_122 x 1226 j := by have h := zA_sAs eS_231 t_243 rfl; rw [z_nc z_33 (by omega)] at h; exact h
            have zs_244 : ∀ j, zA S_231 x 1226 j = if j = (((4 * a1_z) + v_24.toInt)).toNat then rr_121.toInt else zA S x 1226 j := fun j => by rw [zs_242 j, zc_241]
            refine lv_aload_n X.1 X.2.1 dX12_condition_141 rfl (lv_at hl 2 rfl) ?_
            have t_245 : At S_231 x 12 := tAt_sA eS_231 t_239
            obtain ⟨q_246, h_247, h_248, h_249⟩ := gQ_12_1223 hO_232.1 t_245
            refine r_getR (g := 1223) X hw t_245 rfl 23 h_247 (by decide) rfl inn_X12_condition_12 (by decide) (X.2.2.2.1 (.fieldLink RX12 70 "SilkMillModel" "conditions" "[I") (by decide +kernel)) rfl (gv_1223 _ _) dX12_condition_142 ?_
            have zc_250 : zA S_108 x 1223 = zA S x 1223 := (zA_fr hk_109.fr ha_x_L_65 (ex3 (gQ_12_1223 hO_T_64.1 ha_x_L_65)) (by decide +kernel) (by decide +kernel)).trans zk_68
            have zc_251 : zA S_122 x 1223 = zA S x 1223 := (zA_fr hk_123.fr t_114 (ex3 (gQ_12_1223 hO_110.1 t_114)) (by decide +kernel) (by decide +kernel)).trans zc_250
            have zc_252 : zA S_231 x 1223 = zA S x 1223 := (zA_sAn eS_231 (ex3 (gQ_12_1223 hO_124.1 t_239)) t_229 rfl).trans zc_251
            have zz_253 := congrFun zc_252 a1_z.toNat
            refine lv_iload_n X.1 X.2.1 dX12_condition_145 rfl (lv_at hl 3 rfl) ?_
            refine lv_dup2_11 X.1 X.2.1 dX12_condition_146 rfl rfl ?_
            refine r_iald X hw h_248 rfl (by rw [h_249]; exact z_ix hz_a1 (by omega) (by omega)) dX12_condition_147 ?_
            refine lv_topi (fun v_254 ev_254 => ?_)
            have z_255 := gE_674 hO_232.1 h_248 (Int32.toNatClampNeg (a1)); rw [← ev_254] at z_255
            have ev_254 := ev_254.symm
            have zf_256 : zA S_231 x 1223 (a1_z).toNat = v_254.toInt := (zA_of h_247 hz_a1 (by omega) ev_254)
            refine lv_iconst (v := 1) X.1 X.2.1 dX12_condition_148 (by decide) ?_
            refine lv_iadd X.1 X.2.1 dX12_condition_149 ?_
            refine lv_topi (fun v_257 ev_257 => ?_)
            have z_258 : v_257.toInt = v_254.toInt + 1 := z_add ev_257 rfl ti_1 (by omega) (by omega)
            refine r_iast X hw h_248 rfl (by rw [h_249]; exact z_ix hz_a1 (by omega) (by omega)) dX12_condition_150 (fun H locs hw => ?_)
            obtain ⟨S_259, eS_259⟩ : ∃ T, T = sA S_231 q_246 (upd (pA S_231 q_246) (Int32.toNatClampNeg (a1)) (v_257)) := ⟨_, rfl⟩
            rw [← eS_259] at hw
            have hO_260 : Ok MCt S S_259 := hO_232.sA eS_259 h_248 (by decide +kernel) (uA_674 hO_232.1 h_248 (by omega) (by omega))
            have h_261 : pA S_259 q_246 (Int32.toNatClampNeg (a1)) = v_257 := tA_sAs eS_259
            have t_262 : pR S_259 1223 x = some q_246 := tR_sA eS_259 h_247
            have t_264 : pR S_231 1223 x = some q_246 := by have h := t_262; rw [eS_259, pR_sA] at h; exact h
            have zs_263 : ∀ j, zA S_259 x 1223 j = if j = (a1_z).toNat then (v_254.toInt + 1) else zA S_231 x 1223 j := by have h := zA_sAs eS_259 t_264 z_258; rw [z_nc hz_a1 (by omega)] at h; exact h
            have zs_265 := zs_263 (a1_z).toNat; rw [if_pos rfl] at zs_265
            have t_267 : pR S_231 1223 x = some q_246 := by have h := t_262; rw [eS_259, pR_sA] at h; exact h
            have zs_266 : ∀ j, zA S_259 x 1223 j = if j = (a1_z).toNat then (v_254.toInt + 1) else zA S_231 x 1223 j := by have h := zA_sAs eS_259 t_267 z_258; rw [z_nc hz_a1 (by omega)] at h; exact h
            have ce_268 : CeX S_231 S_259 x 1223 (a1_z).toNat ((v_254.toInt + 1)) := CeX_mk hO_232.1 t_245 eS_259 h_248 (by decide) zs_266
            have t_270 : pR S_231 1223 x = some q_246 := by have h := t_262; rw [eS_259, pR_sA] at h; exact h
            have zs_269 : ∀ j, zA S_259 x 1223 j = if j = (a1_z).toNat then (v_254.toInt + 1) else zA S_231 x 1223 j := by have h := zA_sAs eS_259 t_270 z_258; rw [z_nc hz_a1 (by omega)] at h; exact h
            have zs_271 : ∀ j, zA S_259 x 1223 j = if j = (a1_z).toNat then (v_254.toInt + 1) else zA S x 1223 j := fun j => by rw [zs_269 j, zc_252]
            refine lv_aload_n X.1 X.2.1 dX12_condition_151 rfl (lv_at hl 2 rfl) ?_
            have t_272 : At S_259 x 12 := tAt_sA eS_259 t_245
            have t_273 : pI S_231 1230 x = v_222 := tI_sA eS_231 ev_222
            have t_274 : pI S_259 1230 x = v_222 := tI_sA eS_259 t_273
            refine r_getI (g := 1230) (x := v_222) X hw t_272 rfl 30 t_274 (by decide) rfl inn_X12_condition_12 (by decide) (X.2.2.2.1 (.fieldLink RX12 229 "SilkMillModel" "faultKind" "I") (by decide +kernel)) rfl (gv_1230 _ _) dX12_condition_152 ?_
            refine lv_if_ne (tgt := 162) X.1 X.2.1 dX12_condition_155 (by decide) (fun c_275 => ?_) (fun c_275 => ?_)
            · have z_b_276 := trivial
              have k_277 : v_222.toInt ≠ 0 := z_ne rfl ti_0 c_275
              refine lv_iconst (v := 0) X.1 X.2.1 dX12_condition_162 (by decide) ?_
              have pz_278 : (pI S_259 1230 x).toInt = v_222.toInt := (congrArg Int32.toInt t_274).trans rfl
              have rrl_279 : RrL S S_108 x := RrL_to iv_85 (rg_zA hO_T_64.1 ha_x_L_65 hk_109.fr (by decide +kernel)) (zA_fr hk_109.fr ha_x_L_65 (ex3 (gQ_12_1220 hO_T_64.1 ha_x_L_65)) (by decide +kernel) (by decide +kernel))
              have rrl_280 : RrL S S_122 x := RrL_to rrl_279 (rg_zA hO_110.1 t_114 hk_123.fr (by decide +kernel)) (zA_fr hk_123.fr t_114 (ex3 (gQ_12_1220 hO_110.1 t_114)) (by decide +kernel) (by decide +kernel))
              have rrl_281 : RrL S S_231 x := RrL_ce rrl_280 ce_238 (zA_sAn eS_231 (ex3 (gQ_12_1220 hO_124.1 t_239)) t_229 rfl) (by omega)
              have rrl_282 : RrL S S_259 x := RrL_ce rrl_281 ce_268 (zA_sAn eS_259 (ex3 (gQ_12_1220 hO_232.1 t_245)) h_248 rfl) (by omega)
              rw [hQQ]
              exact ret_z X hw hr hlocks (Nat.le_of_ble_eq_true rfl) (Nat.le_of_ble_eq_true rfl) (by decide) ⟨hO_260, Or.inr ⟨⟨Or.inr (Or.inr ⟨by omega, fun h => hd_129 h.2.2, by omega⟩), rrl_282⟩, rfl⟩⟩ dX12_condition_163
            · have z_b_283 := trivial
              have k_284 : v_222.toInt = 0 := z_eq rfl ti_0 c_275
              refine lv_iconst (v := 1) X.1 X.2.1 dX12_condition_158 (by decide) ?_
              refine lv_goto (tgt := 163) X.1 X.2.1 dX12_condition_159 (by decide) ?_
              have pz_285 : (pI S_259 1230 x).toInt = v_222.toInt := (congrArg Int32.toInt t_274).trans rfl
              rw [hQQ]
              exact ret_z X hw hr hlocks (Nat.le_of_ble_eq_true rfl) (Nat.le_of_ble_eq_true rfl) (by decide) ⟨hO_260, (by exfalso; omega)⟩ dX12_condition_163
        · have z_b_286 := trivial
          rw [rB_fr hG ha_x hO_T_64.fr (by decide +kernel)] at f_97
          refine lv_if_ne (tgt := 127) X.1 X.2.1 dX12_condition_98 (by decide) (fun c_287 => absurd c_287 (by decide)) (fun c_287 => ?_)
          refine lv_aload_n X.1 X.2.1 dX12_condition_101 rfl (lv_at hl 2 rfl) ?_
          refine lv_ldcwS (q := κ (100 + 19)) X.1 X.2.1 X.2.2.2.2.1 (show vk_R RX12 260 "=" (κ (100 + 19)) s from (X.2.2.2.2.2.2.2.2.2.2.2.2.2.2 19 (by decide)).1) dX12_condition_102 ?_
          have pz_288 : (pI T_64 1230 x).toInt = v_86.toInt := (congrArg Int32.toInt ev_86).trans rfl
          refine k_i (rm := { frames := 5, cells := 0, slots := 0, locals := 240 }) (av := [.ref x, .ref (κ (100 + 19))]) X hw (va_runV (As := [.ref (κ (100 + 19))]) (rest := []) (cfix X) (k_X12_is2 l G cy κ T_64 _ x 19 (nxT (rB S x) (pI S 1228 x).toInt.toNat t0) hO_T_64.1 ha_x_L_65 (by decide) iv_81.1 (by first | assumption | omega) (by first | assumption | omega)) (cwV 1 X.2.2.2.1 gX12_condition_X12_is rfl rfl rfl (by decide +kernel) ⟨Nat.le_of_ble_eq_true rfl, Nat.le_of_ble_eq_true rfl⟩) (pre_V X hw _ ha_x_L_65 rfl (by decide) rfl) rfl rfl hl.1 rfl (lv_room (Nat.le_of_ble_eq_true rfl)) dX12_condition_105 ⟨Nat.le_of_ble_eq_true rfl, Nat.le_of_ble_eq_true rfl⟩) 0 0 (Nat.le_of_ble_eq_true rfl) (Nat.le_of_ble_eq_true rfl) (fun rr_289 S_290 H locs hp hw hfr hnw => ?_)
          obtain ⟨e2, hp⟩ := hp
          subst e2
          rcases hp with ⟨f_291, er_292⟩ | ⟨f_291, er_292⟩ <;> subst er_292
          · have z_b_293 := trivial
            rw [rB_fr hG ha_x hO_T_64.fr (by decide +kernel)] at f_291
            refine lv_if_ne (tgt := 127) X.1 X.2.1 dX12_condition_108 (by decide) (fun c_294 => ?_) (fun c_294 => absurd c_294 (by decide))
            refine lv_aload_n X.1 X.2.1 dX12_condition_127 rfl (lv_at hl 2 rfl) ?_
            have ok_295 := hdI (RGB_ok hG ha_x iv_81)
            have ok_296 : ((nxT (rB S x) (pI S 1228 x).toInt.toNat t0)).2.1 ≤ ((nxT (rB S x) (pI S 1228 x).toInt.toNat t0)).2.2 ∧ ((nxT (rB S x) (pI S 1228 x).toInt.toNat t0)).2.2 ≤ 400 := ⟨(hdE ok_295).1, (hdE ok_295).2.1⟩
            obtain ⟨v_297, ev_297⟩ : ∃ v, pI T_64 1233 x = v := ⟨_, rfl⟩
            have rg_298 := gI_12_1233 hO_T_64.1 ha_x_L_65; rw [ev_297] at rg_298
            have pz_299 : (pI T_64 1233 x).toInt = v_297.toInt := by rw [ev_297]
            have pz_300 : (pI T_64 1233 x).toInt = v_297.toInt := (congrArg Int32.toInt ev_297).trans rfl
            refine k_v (rm := { frames := 2, cells := 0, slots := 0, locals := 96 }) (av := [.ref x]) X hw (va_runV (As := []) (rest := []) (cfix X) (k_X12_token2 l G cy κ T_64 _ x hO_T_64.1 ha_x_L_65) (cwV 0 X.2.2.2.1 gX12_condition_X12_token rfl rfl rfl (by decide +kernel) ⟨Nat.le_of_ble_eq_true rfl, Nat.le_of_ble_eq_true rfl⟩) (pre_V X hw _ ha_x_L_65 rfl (by decide) rfl) rfl rfl hl.1 rfl (lv_room (Nat.le_of_ble_eq_true rfl)) dX12_condition_128 ⟨Nat.le_of_ble_eq_true rfl, Nat.le_of_ble_eq_true rfl⟩) 0 0 (Nat.le_of_ble_eq_true rfl) (Nat.le_of_ble_eq_true rfl) (fun S_302 H locs hp hw hfr hnw => ?_)
            obtain ⟨hk_303, hp⟩ := hp
            have hO_304 : Ok MCt S S_302 := hO_T_64.call hk_303 (by decide +kernel)
            have rg_305 : RGB (rB S x) (pI S 1228 x).toInt.toNat S_302 x (nxT (rB S x) (pI S 1228 x).toInt.toNat (nxT (rB S x) (pI S 1228 x).toInt.toNat t0)) := RGB_adv iv_81 (rB_fr hG ha_x hO_T_64.fr (by decide +kernel)) (by rw [hO_T_64.fr.I' (g := 1228) (by decide +kernel) ha_x rfl]) (by omega) hp
            have ok_306 := hdI (RGB_ok hG ha_x rg_305)
            have ok_307 : ((nxT (rB S x) (pI S 1228 x).toInt.toNat (nxT (rB S x) (pI S 1228 x).toInt.toNat t0))).2.1 ≤ ((nxT (rB S x) (pI S 1228 x).toInt.toNat (nxT (rB S x) (pI S 1228 x).toInt.toNat t0))).2.2 ∧ ((nxT (rB S x) (pI S 1228 x).toInt.toNat (nxT (rB S x) (pI S 1228 x).toInt.toNat t0))).2.2 ≤ 400 := ⟨(hdE ok_306).1, (hdE ok_306).2.1⟩
            refine lv_aload_n X.1 X.2.1 dX12_condition_131 rfl (lv_at hl 2 rfl) ?_
            have t_308 : At S_302 x 12 := hk_303.fr.at ha_x_L_65
            obtain ⟨q_309, h_310, h_311, h_312⟩ := gQ_12_1226 hO_304.1 t_308
            refine r_getR (g := 1226) X hw t_308 rfl 26 h_310 (by decide) rfl inn_X12_condition_12 (by decide) (X.2.2.2.1 (.fieldLink RX12 79 "SilkMillModel" "than" "[I") (by decide +kernel)) rfl (gv_1226 _ _) dX12_condition_132 ?_
            refine lv_iload_n X.1 X.2.1 dX12_condition_135 rfl (lv_at hl 0 rfl) ?_
            refine lv_aload_n X.1 X.2.1 dX12_condition_136 rfl (lv_at hl 2 rfl) ?_
            have t_313 : pI S_302 1230 x = v_86 := hk_303.fr.I' (by decide +kernel) ha_x_L_65 ev_86
            have pz_314 : (pI S_302 1230 x).toInt = v_86.toInt := (congrArg Int32.toInt t_313).trans rfl
            refine k_i (rm := { frames := 3, cells := 0, slots := 0, locals := 144 }) (av := [.ref x]) X hw (va_runV (As := []) (rest := [.int (v_32), .ref q_309]) (cfix X) (k_X12_number2 l G cy κ S_302 _ x (nxT (rB S x) (pI S 1228 x).toInt.toNat (nxT (rB S x) (pI S 1228 x).toInt.toNat t0)) hO_304.1 t_308 (by rw [rB_fr hG ha_x hO_304.fr (by decide +kernel), hO_304.fr.I' (g := 1228) (by decide +kernel) ha_x rfl]; exact rg_305)) (cwV 0 X.2.2.2.1 gX12_condition_X12_number rfl rfl rfl (by decide +kernel) ⟨Nat.le_of_ble_eq_true rfl, Nat.le_of_ble_eq_true rfl⟩) (pre_V X hw _ t_308 rfl (by decide) rfl) rfl rfl hl.1 rfl (lv_room (Nat.le_of_ble_eq_true rfl)) dX12_condition_137 ⟨Nat.le_of_ble_eq_true rfl, Nat.le_of_ble_eq_true rfl⟩) 0 0 (Nat.le_of_ble_eq_true rfl) (Nat.le_of_ble_eq_true rfl) (fun rr_315 S_316 H locs hp hw hfr hnw => ?_)
            obtain ⟨hk_317, hp⟩ := hp
            have hO_318 : Ok MCt S S_316 := hO_304.call hk_317 (by decide +kernel)
            obtain ⟨nm_319, nm_320, nm_321, nm_322⟩ := hp
            rw [rB_fr hG ha_x hO_304.fr (by decide +kernel), hO_304.fr.I' (g := 1228) (by decide +kernel) ha_x rfl] at nm_321
            rw [rB_fr hG ha_x hO_304.fr (by decide +kernel), hO_304.fr.I' (g := 1228) (by decide +kernel) ha_x rfl] at nm_322
            by_cases hd_323 : (nxT (rB S x) (pI S 1228 x).toInt.toNat (nxT (rB S x) (pI S 1228 x).toInt.toNat t0)).1 = 2
            · have nq_324 := nm_321 hd_323
              have nfk_325 := nq_324.2.2
              obtain ⟨v_327, ev_327⟩ : ∃ v, pI S_316 1230 x = v := ⟨_, rfl⟩
              have rg_329 := And.intro (z_lo v_327) (z_hi v_327)
              have pz_330 : (pI S_316 1230 x).toInt = v_327.toInt := by rw [ev_327]
              have pz_331 : (pI S_316 1230 x).toInt = v_327.toInt := (congrArg Int32.toInt ev_327).trans rfl
              have ok_332 := hdI (RGB_ok hG ha_x nq_324.2.1)
              have ok_333 : ((nxT (rB S x) (pI S 1228 x).toInt.toNat (nxT (rB S x) (pI S 1228 x).toInt.toNat (nxT (rB S x) (pI S 1228 x).toInt.toNat t0)))).2.1 ≤ ((nxT (rB S x) (pI S 1228 x).toInt.toNat (nxT (rB S x) (pI S 1228 x).toInt.toNat (nxT (rB S x) (pI S 1228 x).toInt.toNat t0)))).2.2 ∧ ((nxT (rB S x) (pI S 1228 x).toInt.toNat (nxT (rB S x) (pI S 1228 x).toInt.toNat (nxT (rB S x) (pI S 1228 x).toInt.toNat t0)))).2.2 ≤ 400 := ⟨(hdE ok_332).1, (hdE ok_332).2.1⟩
              have t_334 : At S_316 q_309 734 := hk_317.fr.at h_311
              have t_335 : pN S_316 q_309 = 240 := hk_317.fr.N h_311 h_312
              clear h_312
              refine r_iast X hw t_334 rfl (by rw [t_335]; exact z_ix z_33 (by omega) (by omega)) dX12_condition_140 (fun H locs hw => ?_)
              obtain ⟨S_336, eS_336⟩ : ∃ T, T = sA S_316 q_309 (upd (pA S_316 q_309) (Int32.toNatClampNeg (v_32)) (rr_315)) := ⟨_, rfl⟩
              rw [← eS_336] at hw
              have hO_337 : Ok MCt S S_336 := hO_318.sA eS_336 t_334 (by decide +kernel) (uA_734 hO_318.1 t_334)
              have h_338 : pA S_336 q_309 (Int32.toNatClampNeg (v_32)) = rr_315 := tA_sAs eS_336
              have t_339 : pR S_316 1226 x = some q_309 := hk_317.fr.R' (by decide +kernel) t_308 h_310
              have t_340 : pR S_336 1226 x = some q_309 := tR_sA eS_336 t_339
              have t_342 : pR S_316 1226 x = some q_309 := by have h := t_340; rw [eS_336, pR_sA] at h; exact h
              have zs_341 : ∀ j, zA S_336 x 1226 j = if j = (((4 * a1_z) + v_24.toInt)).toNat then rr_315.toInt else zA S_316 x 1226 j := by have h := zA_sAs eS_336 t_342 rfl; rw [z_nc z_33 (by omega)] at h; exact h
              have t_344 : At S_316 x 12 := hk_317.fr.at t_308
              have ce_343 : CeX S_316 S_336 x 1226 (((4 * a1_z) + v_24.toInt)).toNat (rr_315.toInt) := CeX_mk hO_318.1 t_344 eS_336 t_334 (by decide) zs_341
              have zc_345 : zA S_302 x 1226 = zA S x 1226 := (zA_fr hk_303.fr ha_x_L_65 (ex3 (gQ_12_1226 hO_T_64.1 ha_x_L_65)) (by decide +kernel) (by decide +kernel)).trans zk_80
              have zc_346 : zA S_316 x 1226 = zA S x 1226 := (zA_fr hk_317.fr t_308 (ex3 (gQ_12_1226 hO_304.1 t_308)) (by decide +kernel) (by decide +kernel)).trans zc_345
              have t_348 : pR S_316 1226 x = some q_309 := by have h := t_340; rw [eS_336, pR_sA] at h; exact h
              have zs_347 : ∀ j, zA S_336 x 1226 j = if j = (((4 * a1_z) + v_24.toInt)).toNat then rr_315.toInt else zA S_316 x 1226 j := by have h := zA_sAs eS_336 t_348 rfl; rw [z_nc z_33 (by omega)] at h; exact h
              have zs_349 : ∀ j, zA S_336 x 1226 j = if j = (((4 * a1_z) + v_24.toInt)).toNat then rr_315.toInt else zA S x 1226 j := fun j => by rw [zs_347 j, zc_346]
              refine lv_aload_n X.1 X.2.1 dX12_condition_141 rfl (lv_at hl 2 rfl) ?_
              have t_350 : At S_336 x 12 := tAt_sA eS_336 t_344
              obtain ⟨q_351, h_352, h_353, h_354⟩ := gQ_12_1223 hO_337.1 t_350
              refine r_getR (g := 1223) X hw t_350 rfl 23 h_352 (by decide) rfl inn_X12_condition_12 (by decide) (X.2.2.2.1 (.fieldLink RX12 70 "SilkMillModel" "conditions" "[I") (by decide +kernel)) rfl (gv_1223 _ _) dX12_condition_142 ?_
              have zc_355 : zA S_302 x 1223 = zA S x 1223 := (zA_fr hk_303.fr ha_x_L_65 (ex3 (gQ_12_1223 hO_T_64.1 ha_x_L_65)) (by decide +kernel) (by decide +kernel)).trans zk_68
              have zc_356 : zA S_316 x 1223 = zA S x 1223 := (zA_fr hk_317.fr t_308 (ex3 (gQ_12_1223 hO_304.1 t_308)) (by decide +kernel) (by decide +kernel)).trans zc_355
              have zc_357 : zA S_336 x 1223 = zA S x 1223 := (zA_sAn eS_336 (ex3 (gQ_12_1223 hO_318.1 t_344)) t_334 rfl).trans zc_356
              have zz_358 := congrFun zc_357 a1_z.toNat
              refine lv_iload_n X.1 X.2.1 dX12_condition_145 rfl (lv_at hl 3 rfl) ?_
              refine lv_dup2_11 X.1 X.2.1 dX12_condition_146 rfl rfl ?_
              refine r_iald X hw h_353 rfl (by rw [h_354]; exact z_ix hz_a1 (by omega) (by omega)) dX12_condition_147 ?_
              refine lv_topi (fun v_359 ev_359 => ?_)
              have z_360 := gE_674 hO_337.1 h_353 (Int32.toNatClampNeg (a1)); rw [← ev_359] at z_360
              have ev_359 := ev_359.symm
              have zf_361 : zA S_336 x 1223 (a1_z).toNat = v_359.toInt := (zA_of h_352 hz_a1 (by omega) ev_359)
              refine lv_iconst (v := 1) X.1 X.2.1 dX12_condition_148 (by decide) ?_
              refine lv_iadd X.1 X.2.1 dX12_condition_149 ?_
              refine lv_topi (fun v_362 ev_362 => ?_)
              have z_363 : v_362.toInt = v_359.toInt + 1 := z_add ev_362 rfl ti_1 (by omega) (by omega)
              refine r_iast X hw h_353 rfl (by rw [h_354]; exact z_ix hz_a1 (by omega) (by omega)) dX12_condition_150 (fun H locs hw => ?_)
              obtain ⟨S_364, eS_364⟩ : ∃ T, T = sA S_336 q_351 (upd (pA S_336 q_351) (Int32.toNatClampNeg (a1)) (v_362)) := ⟨_, rfl⟩
              rw [← eS_364] at hw
              have hO_365 : Ok MCt S S_364 := hO_337.sA eS_364 h_353 (by decide +kernel) (uA_674 hO_337.1 h_353 (by omega) (by omega))
              have h_366 : pA S_364 q_351 (Int32.toNatClampNeg (a1)) = v_362 := tA_sAs eS_364
              have t_367 : pR S_364 1223 x = some q_351 := tR_sA eS_364 h_352
              have t_369 : pR S_336 1223 x = some q_351 := by have h := t_367; rw [eS_364, pR_sA] at h; exact h
              have zs_368 : ∀ j, zA S_364 x 1223 j = if j = (a1_z).toNat then (v_359.toInt + 1) else zA S_336 x 1223 j := by have h := zA_sAs eS_364 t_369 z_363; rw [z_nc hz_a1 (by omega)] at h; exact h
              have zs_370 := zs_368 (a1_z).toNat; rw [if_pos rfl] at zs_370
              have t_372 : pR S_336 1223 x = some q_351 := by have h := t_367; rw [eS_364, pR_sA] at h; exact h
              have zs_371 : ∀ j, zA S_364 x 1223 j = if j = (a1_z).toNat then (v_359.toInt + 1) else zA S_336 x 1223 j := by have h := zA_sAs eS_364 t_372 z_363; rw [z_nc hz_a1 (by omega)] at h; exact h
              have ce_373 : CeX S_336 S_364 x 1223 (a1_z).toNat ((v_359.toInt + 1)) := CeX_mk hO_337.1 t_350 eS_364 h_353 (by decide) zs_371
              have t_375 : pR S_336 1223 x = some q_351 := by have h := t_367; rw [eS_364, pR_sA] at h; exact h
              have zs_374 : ∀ j, zA S_364 x 1223 j = if j = (a1_z).toNat then (v_359.toInt + 1) else zA S_336 x 1223 j := by have h := zA_sAs eS_364 t_375 z_363; rw [z_nc hz_a1 (by omega)] at h; exact h
              have zs_376 : ∀ j, zA S_364 x 1223 j = if j = (a1_z).toNat then (v_359.toInt + 1) else zA S x 1223 j := fun j => by rw [zs_374 j, zc_357]
              refine lv_aload_n X.1 X.2.1 dX12_condition_151 rfl (lv_at hl 2 rfl) ?_
              have t_377 : At S_364 x 12 := tAt_sA eS_364 t_350
              have t_378 : pI S_336 1230 x = v_327 := tI_sA eS_336 ev_327
              have t_379 : pI S_364 1230 x = v_327 := tI_sA eS_364 t_378
              refine r_getI (g := 1230) (x := v_327) X hw t_377 rfl 30 t_379 (by decide) rfl inn_X12_condition_12 (by decide) (X.2.2.2.1 (.fieldLink RX12 229 "SilkMillModel" "faultKind" "I") (by decide +kernel)) rfl (gv_1230 _ _) dX12_condition_152 ?_
              refine lv_if_ne (tgt := 162) X.1 X.2.1 dX12_condition_155 (by decide) (fun c_380 => ?_) (fun c_380 => ?_)
              · have z_b_381 := trivial
                have k_382 : v_327.toInt ≠ 0 := z_ne rfl ti_0 c_380
                refine lv_iconst (v := 0) X.1 X.2.1 dX12_condition_162 (by decide) ?_
                have pz_383 : (pI S_364 1230 x).toInt = v_327.toInt := (congrArg Int32.toInt t_379).trans rfl
                rw [hQQ]
                exact ret_z X hw hr hlocks (Nat.le_of_ble_eq_true rfl) (Nat.le_of_ble_eq_true rfl) (by decide) ⟨hO_365, (by exfalso; omega)⟩ dX12_condition_163
              · have z_b_384 := trivial
                have k_385 : v_327.toInt = 0 := z_eq rfl ti_0 c_380
                refine lv_iconst (v := 1) X.1 X.2.1 dX12_condition_158 (by decide) ?_
                refine lv_goto (tgt := 163) X.1 X.2.1 dX12_condition_159 (by decide) ?_
                have pz_386 : (pI S_364 1230 x).toInt = v_327.toInt := (congrArg Int32.toInt t_379).trans rfl
                have rg_387 := RGB_sA nq_324.2.1 eS_336
                have rg_388 := RGB_sA rg_387 eS_364
                have rrl_389 : RrL S S_302 x := RrL_to iv_85 (rg_zA hO_T_64.1 ha_x_L_65 hk_303.fr (by decide +kernel)) (zA_fr hk_303.fr ha_x_L_65 (ex3 (gQ_12_1220 hO_T_64.1 ha_x_L_65)) (by decide +kernel) (by decide +kernel))
                have rrl_390 : RrL S S_316 x := RrL_to rrl_389 (rg_zA hO_304.1 t_308 hk_317.fr (by decide +kernel)) (zA_fr hk_317.fr t_308 (ex3 (gQ_12_1220 hO_304.1 t_308)) (by decide +kernel) (by decide +kernel))
                have rrl_391 : RrL S S_336 x := RrL_ce rrl_390 ce_343 (zA_sAn eS_336 (ex3 (gQ_12_1220 hO_318.1 t_344)) t_334 rfl) (by omega)
                have rrl_392 : RrL S S_364 x := RrL_ce rrl_391 ce_373 (zA_sAn eS_364 (ex3 (gQ_12_1220 hO_337.1 t_350)) h_353 rfl) (by omega)
                have zc_393 : zA S_302 x 1221 = zA S x 1221 := (zA_fr hk_303.fr ha_x_L_65 (ex3 (gQ_12_1221 hO_T_64.1 ha_x_L_65)) (by decide +kernel) (by decide +kernel)).trans zk_74
                have zc_394 : zA S_316 x 1221 = zA S x 1221 := (zA_fr hk_317.fr t_308 (ex3 (gQ_12_1221 hO_304.1 t_308)) (by decide +kernel) (by decide +kernel)).trans zc_393
                have zc_395 : zA S_336 x 1221 = zA S x 1221 := (zA_sAn eS_336 (ex3 (gQ_12_1221 hO_318.1 t_344)) t_334 rfl).trans zc_394
                have zc_396 : zA S_364 x 1221 = zA S x 1221 := (zA_sAn eS_364 (ex3 (gQ_12_1221 hO_337.1 t_350)) h_353 rfl).trans zc_395
                have zc_397 : zA S_302 x 1222 = zA S x 1222 := (zA_fr hk_303.fr ha_x_L_65 (ex3 (gQ_12_1222 hO_T_64.1 ha_x_L_65)) (by decide +kernel) (by decide +kernel)).trans zk_77
                have zc_398 : zA S_316 x 1222 = zA S x 1222 := (zA_fr hk_317.fr t_308 (ex3 (gQ_12_1222 hO_304.1 t_308)) (by decide +kernel) (by decide +kernel)).trans zc_397
                have zc_399 : zA S_336 x 1222 = zA S x 1222 := (zA_sAn eS_336 (ex3 (gQ_12_1222 hO_318.1 t_344)) t_334 rfl).trans zc_398
                have zc_400 : zA S_364 x 1222 = zA S x 1222 := (zA_sAn eS_364 (ex3 (gQ_12_1222 hO_337.1 t_350)) h_353 rfl).trans zc_399
                have zc_401 : zA S_302 x 1226 = zA S x 1226 := (zA_fr hk_303.fr ha_x_L_65 (ex3 (gQ_12_1226 hO_T_64.1 ha_x_L_65)) (by decide +kernel) (by decide +kernel)).trans zk_80
                have zc_402 : zA S_316 x 1226 = zA S x 1226 := (zA_fr hk_317.fr t_308 (ex3 (gQ_12_1226 hO_304.1 t_308)) (by decide +kernel) (by decide +kernel)).trans zc_401
                have zc_403 : zA S_364 x 1226 = zA S_336 x 1226 := zA_sAn eS_364 (ex3 (gQ_12_1226 hO_337.1 t_350)) h_353 rfl
                have zc_404 : zA S_302 x 1224 = zA T_64 x 1224 := zA_fr hk_303.fr ha_x_L_65 (ex3 (gQ_12_1224 hO_T_64.1 ha_x_L_65)) (by decide +kernel) (by decide +kernel)
                have zc_405 : zA S_316 x 1224 = zA T_64 x 1224 := (zA_fr hk_317.fr t_308 (ex3 (gQ_12_1224 hO_304.1 t_308)) (by decide +kernel) (by decide +kernel)).trans zc_404
                have zc_406 : zA S_336 x 1224 = zA T_64 x 1224 := (zA_sAn eS_336 (ex3 (gQ_12_1224 hO_318.1 t_344)) t_334 rfl).trans zc_405
                have zc_407 : zA S_364 x 1224 = zA T_64 x 1224 := (zA_sAn eS_364 (ex3 (gQ_12_1224 hO_337.1 t_350)) h_353 rfl).trans zc_406
                have zc_408 : zA S_302 x 1225 = zA T_64 x 1225 := zA_fr hk_303.fr ha_x_L_65 (ex3 (gQ_12_1225 hO_T_64.1 ha_x_L_65)) (by decide +kernel) (by decide +kernel)
                have zc_409 : zA S_316 x 1225 = zA T_64 x 1225 := (zA_fr hk_317.fr t_308 (ex3 (gQ_12_1225 hO_304.1 t_308)) (by decide +kernel) (by decide +kernel)).trans zc_408
                have zc_410 : zA S_336 x 1225 = zA T_64 x 1225 := (zA_sAn eS_336 (ex3 (gQ_12_1225 hO_318.1 t_344)) t_334 rfl).trans zc_409
                have zc_411 : zA S_364 x 1225 = zA T_64 x 1225 := (zA_sAn eS_364 (ex3 (gQ_12_1225 hO_337.1 t_350)) h_353 rfl).trans zc_410
                have rc_412 : RrC S_364 x Rl (Cl ++ [cdV (rB S x) (pI S 1228 x).toInt.toNat t0]) := RrC_add (i := a1_z.toNat) (k := (((4 * a1_z) + v_24.toInt)).toNat) hG ha_x hp_4 (by omega) (by omega) zc_396 zc_400 (fun j => zs_376 j) (fun j => by rw [zc_407, iv_83 j]) (fun j => by rw [zc_411, iv_84 j]) (fun j => by rw [zc_403, zs_349 j]) (by show _ = (Int32.ofInt (whF (rB S x) t0 FLs 0)).toInt; rw [← wh_16, Int32.ofInt_toInt]) (reZ_rel (Or.inr (Or.inl ((isR_eq iv_81).mp f_291.2)))) (by show _ = (Int32.ofInt (numF (rB S x) (nxT (rB S x) (pI S 1228 x).toInt.toNat (nxT (rB S x) (pI S 1228 x).toInt.toNat t0)).2.1 ((nxT (rB S x) (pI S 1228 x).toInt.toNat (nxT (rB S x) (pI S 1228 x).toInt.toNat t0)).2.2 - (nxT (rB S x) (pI S 1228 x).toInt.toNat (nxT (rB S x) (pI S 1228 x).toInt.toNat t0)).2.1))).toInt; rw [← nq_324.1, Int32.ofInt_toInt]) (by omega)
                rw [hQQ]
                exact ret_z X hw hr hlocks (Nat.le_of_ble_eq_true rfl) (Nat.le_of_ble_eq_true rfl) (by decide) ⟨hO_365, Or.inl ⟨⟨⟨by omega, Or.inr (Or.inl ((isR_eq iv_81).mp f_291.2)), hd_323⟩, rg_388, by omega, by omega, by omega, rc_412, rrl_392⟩, rfl⟩⟩ dX12_condition_163
            · have nq_413 := nm_322 hd_323
              have nfk_414 := nq_413.2
              obtain ⟨v_416, ev_416⟩ : ∃ v, pI S_316 1230 x = v := ⟨_, rfl⟩
              have rg_418 := And.intro (z_lo v_416) (z_hi v_416)
              have pz_419 : (pI S_316 1230 x).toInt = v_416.toInt := by rw [ev_416]
              have pz_420 : (pI S_316 1230 x).toInt = v_416.toInt := (congrArg Int32.toInt ev_416).trans rfl
              have ok_421 := hdI (RGB_ok hG ha_x nq_413.1)
              have ok_422 : ((nxT (rB S x) (pI S 1228 x).toInt.toNat (nxT (rB S x) (pI S 1228 x).toInt.toNat t0))).2.1 ≤ ((nxT (rB S x) (pI S 1228 x).toInt.toNat (nxT (rB S x) (pI S 1228 x).toInt.toNat t0))).2.2 ∧ ((nxT (rB S x) (pI S 1228 x).toInt.toNat (nxT (rB S x) (pI S 1228 x).toInt.toNat t0))).2.2 ≤ 400 := ⟨(hdE ok_421).1, (hdE ok_421).2.1⟩
              have t_423 : At S_316 q_309 734 := hk_317.fr.at h_311
              have t_424 : pN S_316 q_309 = 240 := hk_317.fr.N h_311 h_312
              clear h_312
              refine r_iast X hw t_423 rfl (by rw [t_424]; exact z_ix z_33 (by omega) (by omega)) dX12_condition_140 (fun H locs hw => ?_)
              obtain ⟨S_425, eS_425⟩ : ∃ T, T = sA S_316 q_309 (upd (pA S_316 q_309) (Int32.toNatClampNeg (v_32)) (rr_315)) := ⟨_, rfl⟩
              rw [← eS_425] at hw
              have hO_426 : Ok MCt S S_425 := hO_318.sA eS_425 t_423 (by decide +kernel) (uA_734 hO_318.1 t_423)
              have h_427 : pA S_425 q_309 (Int32.toNatClampNeg (v_32)) = rr_315 := tA_sAs eS_425
              have t_428 : pR S_316 1226 x = some q_309 := hk_317.fr.R' (by decide +kernel) t_308 h_310
              have t_429 : pR S_425 1226 x = some q_309 := tR_sA eS_425 t_428
              have t_431 : pR S_316 1226 x = some q_309 := by have h := t_429; rw [eS_425, pR_sA] at h; exact h
              have zs_430 : ∀ j, zA S_425 x 1226 j = if j = (((4 * a1_z) + v_24.toInt)).toNat then rr_315.toInt else zA S_316 x 1226 j := by have h := zA_sAs eS_425 t_431 rfl; rw [z_nc z_33 (by omega)] at h; exact h
              have t_433 : At S_316 x 12 := hk_317.fr.at t_308
              have ce_432 : CeX S_316 S_425 x 1226 (((4 * a1_z) + v_24.toInt)).toNat (rr_315.toInt) := CeX_mk hO_318.1 t_433 eS_425 t_423 (by decide) zs_430
              have zc_434 : zA S_302 x 1226 = zA S x 1226 := (zA_fr hk_303.fr ha_x_L_65 (ex3 (gQ_12_1226 hO_T_64.1 ha_x_L_65)) (by decide +kernel) (by decide +kernel)).trans zk_80
              have zc_435 : zA S_316 x 1226 = zA S x 1226 := (zA_fr hk_317.fr t_308 (ex3 (gQ_12_1226 hO_304.1 t_308)) (by decide +kernel) (by decide +kernel)).trans zc_434
              have t_437 : pR S_316 1226 x = some q_309 := by have h := t_429; rw [eS_425, pR_sA] at h; exact h
              have zs_436 : ∀ j, zA S_425 x 1226 j = if j = (((4 * a1_z) + v_24.toInt)).toNat then rr_315.toInt else zA S_316 x 1226 j := by have h := zA_sAs eS_425 t_437 rfl; rw [z_nc z_33 (by omega)] at h; exact h
              have zs_438 : ∀ j, zA S_425 x 1226 j = if j = (((4 * a1_z) + v_24.toInt)).toNat then rr_315.toInt else zA S x 1226 j := fun j => by rw [zs_436 j, zc_435]
              refine lv_aload_n X.1 X.2.1 dX12_condition_141 rfl (lv_at hl 2 rfl) ?_
              have t_439 : At S_425 x 12 := tAt_sA eS_425 t_433
              obtain ⟨q_440, h_441, h_442, h_443⟩ := gQ_12_1223 hO_426.1 t_439
              refine r_getR (g := 1223) X hw t_439 rfl 23 h_441 (by decide) rfl inn_X12_condition_12 (by decide) (X.2.2.2.1 (.fieldLink RX12 70 "SilkMillModel" "conditions" "[I") (by decide +kernel)) rfl (gv_1223 _ _) dX12_condition_142 ?_
              have zc_444 : zA S_302 x 1223 = zA S x 1223 := (zA_fr hk_303.fr ha_x_L_65 (ex3 (gQ_12_1223 hO_T_64.1 ha_x_L_65)) (by decide +kernel) (by decide +kernel)).trans zk_68
              have zc_445 : zA S_316 x 1223 = zA S x 1223 := (zA_fr hk_317.fr t_308 (ex3 (gQ_12_1223 hO_304.1 t_308)) (by decide +kernel) (by decide +kernel)).trans zc_444
              have zc_446 : zA S_425 x 1223 = zA S x 1223 := (zA_sAn eS_425 (ex3 (gQ_12_1223 hO_318.1 t_433)) t_423 rfl).trans zc_445
              have zz_447 := congrFun zc_446 a1_z.toNat
              refine lv_iload_n X.1 X.2.1 dX12_condition_145 rfl (lv_at hl 3 rfl) ?_
              refine lv_dup2_11 X.1 X.2.1 dX12_condition_146 rfl rfl ?_
              refine r_iald X hw h_442 rfl (by rw [h_443]; exact z_ix hz_a1 (by omega) (by omega)) dX12_condition_147 ?_
              refine lv_topi (fun v_448 ev_448 => ?_)
              have z_449 := gE_674 hO_426.1 h_442 (Int32.toNatClampNeg (a1)); rw [← ev_448] at z_449
              have ev_448 := ev_448.symm
              have zf_450 : zA S_425 x 1223 (a1_z).toNat = v_448.toInt := (zA_of h_441 hz_a1 (by omega) ev_448)
              refine lv_iconst (v := 1) X.1 X.2.1 dX12_condition_148 (by decide) ?_
              refine lv_iadd X.1 X.2.1 dX12_condition_149 ?_
              refine lv_topi (fun v_451 ev_451 => ?_)
              have z_452 : v_451.toInt = v_448.toInt + 1 := z_add ev_451 rfl ti_1 (by omega) (by omega)
              refine r_iast X hw h_442 rfl (by rw [h_443]; exact z_ix hz_a1 (by omega) (by omega)) dX12_condition_150 (fun H locs hw => ?_)
              obtain ⟨S_453, eS_453⟩ : ∃ T, T = sA S_425 q_440 (upd (pA S_425 q_440) (Int32.toNatClampNeg (a1)) (v_451)) := ⟨_, rfl⟩
              rw [← eS_453] at hw
              have hO_454 : Ok MCt S S_453 := hO_426.sA eS_453 h_442 (by decide +kernel) (uA_674 hO_426.1 h_442 (by omega) (by omega))
              have h_455 : pA S_453 q_440 (Int32.toNatClampNeg (a1)) = v_451 := tA_sAs eS_453
              have t_456 : pR S_453 1223 x = some q_440 := tR_sA eS_453 h_441
              have t_458 : pR S_425 1223 x = some q_440 := by have h := t_456; rw [eS_453, pR_sA] at h; exact h
              have zs_457 : ∀ j, zA S_453 x 1223 j = if j = (a1_z).toNat then (v_448.toInt + 1) else zA S_425 x 1223 j := by have h := zA_sAs eS_453 t_458 z_452; rw [z_nc hz_a1 (by omega)] at h; exact h
              have zs_459 := zs_457 (a1_z).toNat; rw [if_pos rfl] at zs_459
              have t_461 : pR S_425 1223 x = some q_440 := by have h := t_456; rw [eS_453, pR_sA] at h; exact h
              have zs_460 : ∀ j, zA S_453 x 1223 j = if j = (a1_z).toNat then (v_448.toInt + 1) else zA S_425 x 1223 j := by have h := zA_sAs eS_453 t_461 z_452; rw [z_nc hz_a1 (by omega)] at h; exact h
              have ce_462 : CeX S_425 S_453 x 1223 (a1_z).toNat ((v_448.toInt + 1)) := CeX_mk hO_426.1 t_439 eS_453 h_442 (by decide) zs_460
              have t_464 : pR S_425 1223 x = some q_440 := by have h := t_456; rw [eS_453, pR_sA] at h; exact h
              have zs_463 : ∀ j, zA S_453 x 1223 j = if j = (a1_z).toNat then (v_448.toInt + 1) else zA S_425 x 1223 j := by have h := zA_sAs eS_453 t_464 z_452; rw [z_nc hz_a1 (by omega)] at h; exact h
              have zs_465 : ∀ j, zA S_453 x 1223 j = if j = (a1_z).toNat then (v_448.toInt + 1) else zA S x 1223 j := fun j => by rw [zs_463 j, zc_446]
              refine lv_aload_n X.1 X.2.1 dX12_condition_151 rfl (lv_at hl 2 rfl) ?_
              have t_466 : At S_453 x 12 := tAt_sA eS_453 t_439
              have t_467 : pI S_425 1230 x = v_416 := tI_sA eS_425 ev_416
              have t_468 : pI S_453 1230 x = v_416 := tI_sA eS_453 t_467
              refine r_getI (g := 1230) (x := v_416) X hw t_466 rfl 30 t_468 (by decide) rfl inn_X12_condition_12 (by decide) (X.2.2.2.1 (.fieldLink RX12 229 "SilkMillModel" "faultKind" "I") (by decide +kernel)) rfl (gv_1230 _ _) dX12_condition_152 ?_
              refine lv_if_ne (tgt := 162) X.1 X.2.1 dX12_condition_155 (by decide) (fun c_469 => ?_) (fun c_469 => ?_)
              · have z_b_470 := trivial
                have k_471 : v_416.toInt ≠ 0 := z_ne rfl ti_0 c_469
                refine lv_iconst (v := 0) X.1 X.2.1 dX12_condition_162 (by decide) ?_
                have pz_472 : (pI S_453 1230 x).toInt = v_416.toInt := (congrArg Int32.toInt t_468).trans rfl
                have rrl_473 : RrL S S_302 x := RrL_to iv_85 (rg_zA hO_T_64.1 ha_x_L_65 hk_303.fr (by decide +kernel)) (zA_fr hk_303.fr ha_x_L_65 (ex3 (gQ_12_1220 hO_T_64.1 ha_x_L_65)) (by decide +kernel) (by decide +kernel))
                have rrl_474 : RrL S S_316 x := RrL_to rrl_473 (rg_zA hO_304.1 t_308 hk_317.fr (by decide +kernel)) (zA_fr hk_317.fr t_308 (ex3 (gQ_12_1220 hO_304.1 t_308)) (by decide +kernel) (by decide +kernel))
                have rrl_475 : RrL S S_425 x := RrL_ce rrl_474 ce_432 (zA_sAn eS_425 (ex3 (gQ_12_1220 hO_318.1 t_433)) t_423 rfl) (by omega)
                have rrl_476 : RrL S S_453 x := RrL_ce rrl_475 ce_462 (zA_sAn eS_453 (ex3 (gQ_12_1220 hO_426.1 t_439)) h_442 rfl) (by omega)
                rw [hQQ]
                exact ret_z X hw hr hlocks (Nat.le_of_ble_eq_true rfl) (Nat.le_of_ble_eq_true rfl) (by decide) ⟨hO_454, Or.inr ⟨⟨Or.inr (Or.inr ⟨by omega, fun h => hd_323 h.2.2, by omega⟩), rrl_476⟩, rfl⟩⟩ dX12_condition_163
              · have z_b_477 := trivial
                have k_478 : v_416.toInt = 0 := z_eq rfl ti_0 c_469
                refine lv_iconst (v := 1) X.1 X.2.1 dX12_condition_158 (by decide) ?_
                refine lv_goto (tgt := 163) X.1 X.2.1 dX12_condition_159 (by decide) ?_
                have pz_479 : (pI S_453 1230 x).toInt = v_416.toInt := (congrArg Int32.toInt t_468).trans rfl
                rw [hQQ]
                exact ret_z X hw hr hlocks (Nat.le_of_ble_eq_true rfl) (Nat.le_of_ble_eq_true rfl) (by decide) ⟨hO_454, (by exfalso; omega)⟩ dX12_condition_163
          · have z_b_480 := trivial
            rw [rB_fr hG ha_x hO_T_64.fr (by decide +kernel)] at f_291
            refine lv_if_ne (tgt := 127) X.1 X.2.1 dX12_condition_108 (by decide) (fun c_481 => absurd c_481 (by decide)) (fun c_481 => ?_)
            refine lv_aload_n X.1 X.2.1 dX12_condition_111 rfl (lv_at hl 2 rfl) ?_
            refine lv_ldcwS (q := κ (100 + 20)) X.1 X.2.1 X.2.2.2.2.1 (show vk_R RX12 262 ">" (κ (100 + 20)) s from (X.2.2.2.2.2.2.2.2.2.2.2.2.2.2 20 (by decide)).1) dX12_condition_112 ?_
            have pz_482 : (pI T_64 1230 x).toInt = v_86.toInt := (congrArg Int32.toInt ev_86).trans rfl
            refine k_i (rm := { frames := 5, cells := 0, slots := 0, locals := 240 }) (av := [.ref x, .ref (κ (100 + 20))]) X hw (va_runV (As := [.ref (κ (100 + 20))]) (rest := []) (cfix X) (k_X12_is2 l G cy κ T_64 _ x 20 (nxT (rB S x) (pI S 1228 x).toInt.toNat t0) hO_T_64.1 ha_x_L_65 (by decide) iv_81.1 (by first | assumption | omega) (by first | assumption | omega)) (cwV 1 X.2.2.2.1 gX12_condition_X12_is rfl rfl rfl (by decide +kernel) ⟨Nat.le_of_ble_eq_true rfl, Nat.le_of_ble_eq_true rfl⟩) (pre_V X hw _ ha_x_L_65 rfl (by decide) rfl) rfl rfl hl.1 rfl (lv_room (Nat.le_of_ble_eq_true rfl)) dX12_condition_115 ⟨Nat.le_of_ble_eq_true rfl, Nat.le_of_ble_eq_true rfl⟩) 0 0 (Nat.le_of_ble_eq_true rfl) (Nat.le_of_ble_eq_true rfl) (fun rr_483 S_484 H locs hp hw hfr hnw => ?_)
            obtain ⟨e2, hp⟩ := hp
            subst e2
            rcases hp with ⟨f_485, er_486⟩ | ⟨f_485, er_486⟩ <;> subst er_486
            · have z_b_487 := trivial
              rw [rB_fr hG ha_x hO_T_64.fr (by decide +kernel)] at f_485
              refine lv_if_ne (tgt := 127) X.1 X.2.1 dX12_condition_118 (by decide) (fun c_488 => ?_) (fun c_488 => absurd c_488 (by decide))
              refine lv_aload_n X.1 X.2.1 dX12_condition_127 rfl (lv_at hl 2 rfl) ?_
              have ok_489 := hdI (RGB_ok hG ha_x iv_81)
              have ok_490 : ((nxT (rB S x) (pI S 1228 x).toInt.toNat t0)).2.1 ≤ ((nxT (rB S x) (pI S 1228 x).toInt.toNat t0)).2.2 ∧ ((nxT (rB S x) (pI S 1228 x).toInt.toNat t0)).2.2 ≤ 400 := ⟨(hdE ok_489).1, (hdE ok_489).2.1⟩
              obtain ⟨v_491, ev_491⟩ : ∃ v, pI T_64 1233 x = v := ⟨_, rfl⟩
              have rg_492 := gI_12_1233 hO_T_64.1 ha_x_L_65; rw [ev_491] at rg_492
              have pz_493 : (pI T_64 1233 x).toInt = v_491.toInt := by rw [ev_491]
              have pz_494 : (pI T_64 1233 x).toInt = v_491.toInt := (congrArg Int32.toInt ev_491).trans rfl
              refine k_v (rm := { frames := 2, cells := 0, slots := 0, locals := 96 }) (av := [.ref x]) X hw (va_runV (As := []) (rest := []) (cfix X) (k_X12_token2 l G cy κ T_64 _ x hO_T_64.1 ha_x_L_65) (cwV 0 X.2.2.2.1 gX12_condition_X12_token rfl rfl rfl (by decide +kernel) ⟨Nat.le_of_ble_eq_true rfl, Nat.le_of_ble_eq_true rfl⟩) (pre_V X hw _ ha_x_L_65 rfl (by decide) rfl) rfl rfl hl.1 rfl (lv_room (Nat.le_of_ble_eq_true rfl)) dX12_condition_128 ⟨Nat.le_of_ble_eq_true rfl, Nat.le_of_ble_eq_true rfl⟩) 0 0 (Nat.le_of_ble_eq_true rfl) (Nat.le_of_ble_eq_true rfl) (fun S_496 H locs hp hw hfr hnw => ?_)
              obtain ⟨hk_497, hp⟩ := hp
              have hO_498 : Ok MCt S S_496 := hO_T_64.call hk_497 (by decide +kernel)
              have rg_499 : RGB (rB S x) (pI S 1228 x).toInt.toNat S_496 x (nxT (rB S x) (pI S 1228 x).toInt.toNat (nxT (rB S x) (pI S 1228 x).toInt.toNat t0)) := RGB_adv iv_81 (rB_fr hG ha_x hO_T_64.fr (by decide +kernel)) (by rw [hO_T_64.fr.I' (g := 1228) (by decide +kernel) ha_x rfl]) (by omega) hp
              have ok_500 := hdI (RGB_ok hG ha_x rg_499)
              have ok_501 : ((nxT (rB S x) (pI S 1228 x).toInt.toNat (nxT (rB S x) (pI S 1228 x).toInt.toNat t0))).2.1 ≤ ((nxT (rB S x) (pI S 1228 x).toInt.toNat (nxT (rB S x) (pI S 1228 x).toInt.toNat t0))).2.2 ∧ ((nxT (rB S x) (pI S 1228 x).toInt.toNat (nxT (rB S x) (pI S 1228 x).toInt.toNat t0))).2.2 ≤ 400 := ⟨(hdE ok_500).1, (hdE ok_500).2.1⟩
              refine lv_aload_n X.1 X.2.1 dX12_condition_131 rfl (lv_at hl 2 rfl) ?_
              have t_502 : At S_496 x 12 := hk_497.fr.at ha_x_L_65
              obtain ⟨q_503, h_504, h_505, h_506⟩ := gQ_12_1226 hO_498.1 t_502
              refine r_getR (g := 1226) X hw t_502 rfl 26 h_504 (by decide) rfl inn_X12_condition_12 (by decide) (X.2.2.2.1 (.fieldLink RX12 79 "SilkMillModel" "than" "[I") (by decide +kernel)) rfl (gv_1226 _ _) dX12_condition_132 ?_
              refine lv_iload_n X.1 X.2.1 dX12_condition_135 rfl (lv_at hl 0 rfl) ?_
              refine lv_aload_n X.1 X.2.1 dX12_condition_136 rfl (lv_at hl 2 rfl) ?_
              have t_507 : pI S_496 1230 x = v_86 := hk_497.fr.I' (by decide +kernel) ha_x_L_65 ev_86
              have pz_508 : (pI S_496 1230 x).toInt = v_86.toInt := (congrArg Int32.toInt t_507).trans rfl
              refine k_i (rm := { frames := 3, cells := 0, slots := 0, locals := 144 }) (av := [.ref x]) X hw (va_runV (As := []) (rest := [.int (v_32), .ref q_503]) (cfix X) (k_X12_number2 l G cy κ S_496 _ x (nxT (rB S x) (pI S 1228 x).toInt.toNat (nxT (rB S x) (pI S 1228 x).toInt.toNat t0)) hO_498.1 t_502 (by rw [rB_fr hG ha_x hO_498.fr (by decide +kernel), hO_498.fr.I' (g := 1228) (by decide +kernel) ha_x rfl]; exact rg_499)) (cwV 0 X.2.2.2.1 gX12_condition_X12_number rfl rfl rfl (by decide +kernel) ⟨Nat.le_of_ble_eq_true rfl, Nat.le_of_ble_eq_true rfl⟩) (pre_V X hw _ t_502 rfl (by decide) rfl) rfl rfl hl.1 rfl (lv_room (Nat.le_of_ble_eq_true rfl)) dX12_condition_137 ⟨Nat.le_of_ble_eq_true rfl, Nat.le_of_ble_eq_true rfl⟩) 0 0 (Nat.le_of_ble_eq_true rfl) (Nat.le_of_ble_eq_true rfl) (fun rr_509 S_510 H locs hp hw hfr hnw => ?_)
              obtain ⟨hk_511, hp⟩ := hp
              have hO_512 : Ok MCt S S_510 := hO_498.call hk_511 (by decide +kernel)
              obtain ⟨nm_513, nm_514, nm_515, nm_516⟩ := hp
              rw [rB_fr hG ha_x hO_498.fr (by decide +kernel), hO_498.fr.I' (g := 1228) (by decide +kernel) ha_x rfl] at nm_515
              rw [rB_fr hG ha_x hO_498.fr (by decide +kernel), hO_498.fr.I' (g := 1228) (by decide +kernel) ha_x rfl] at nm_516
              by_cases hd_517 : (nxT (rB S x) (pI S 1228 x).toInt.toNat (nxT (rB S x) (pI S 1228 x).toInt.toNat t0)).1 = 2
              · have nq_518 := nm_515 hd_517
                have nfk_519 := nq_518.2.2
                obtain ⟨v_521, ev_521⟩ : ∃ v, pI S_510 1230 x = v := ⟨_, rfl⟩
                have rg_523 := And.intro (z_lo v_521) (z_hi v_521)
                have pz_524 : (pI S_510 1230 x).toInt = v_521.toInt := by rw [ev_521]
                have pz_525 : (pI S_510 1230 x).toInt = v_521.toInt := (congrArg Int32.toInt ev_521).trans rfl
                have ok_526 := hdI (RGB_ok hG ha_x nq_518.2.1)
                have ok_527 : ((nxT (rB S x) (pI S 1228 x).toInt.toNat (nxT (rB S x) (pI S 1228 x).toInt.toNat (nxT (rB S x) (pI S 1228 x).toInt.toNat t0)))).2.1 ≤ ((nxT (rB S x) (pI S 1228 x).toInt.toNat (nxT (rB S x) (pI S 1228 x).toInt.toNat (nxT (rB S x) (pI S 1228 x).toInt.toNat t0)))).2.2 ∧ ((nxT (rB S x) (pI S 1228 x).toInt.toNat (nxT (rB S x) (pI S 1228 x).toInt.toNat (nxT (rB S x) (pI S 1228 x).toInt.toNat t0)))).2.2 ≤ 400 := ⟨(hdE ok_526).1, (hdE ok_526).2.1⟩
                have t_528 : At S_510 q_503 734 := hk_511.fr.at h_505
                have t_529 : pN S_510 q_503 = 240 := hk_511.fr.N h_505 h_506
                clear h_506
                refine r_iast X hw t_528 rfl (by rw [t_529]; exact z_ix z_33 (by omega) (by omega)) dX12_condition_140 (fun H locs hw => ?_)
                obtain ⟨S_530, eS_530⟩ : ∃ T, T = sA S_510 q_503 (upd (pA S_510 q_503) (Int32.toNatClampNeg (v_32)) (rr_509)) := ⟨_, rfl⟩
                rw [← eS_530] at hw
                have hO_531 : Ok MCt S S_530 := hO_512.sA eS_530 t_528 (by decide +kernel) (uA_734 hO_512.1 t_528)
                have h_532 : pA S_530 q_503 (Int32.toNatClampNeg (v_32)) = rr_509 := tA_sAs eS_530
                have t_533 : pR S_510 1226 x = some q_503 := hk_511.fr.R' (by decide +kernel) t_502 h_504
                have t_534 : pR S_530 1226 x = some q_503 := tR_sA eS_530 t_533
                have t_536 : pR S_510 1226 x = some q_503 := by have h := t_534; rw [eS_530, pR_sA] at h; exact h
                have zs_535 : ∀ j, zA S_530 x 1226 j = if j = (((4 * a1_z) + v_24.toInt)).toNat then rr_509.toInt else zA S_510 x 1226 j := by have h := zA_sAs eS_530 t_536 rfl; rw [z_nc z_33 (by omega)] at h; exact h
                have t_538 : At S_510 x 12 := hk_511.fr.at t_502
                have ce_537 : CeX S_510 S_530 x 1226 (((4 * a1_z) + v_24.toInt)).toNat (rr_509.toInt) := CeX_mk hO_512.1 t_538 eS_530 t_528 (by decide) zs_535
                have zc_539 : zA S_496 x 1226 = zA S x 1226 := (zA_fr hk_497.fr ha_x_L_65 (ex3 (gQ_12_1226 hO_T_64.1 ha_x_L_65)) (by decide +kernel) (by decide +kernel)).trans zk_80
                have zc_540 : zA S_510 x 1226 = zA S x 1226 := (zA_fr hk_511.fr t_502 (ex3 (gQ_12_1226 hO_498.1 t_502)) (by decide +kernel) (by decide +kernel)).trans zc_539
                have t_542 : pR S_510 1226 x = some q_503 := by have h := t_534; rw [eS_530, pR_sA] at h; exact h
                have zs_541 : ∀ j, zA S_530 x 1226 j = if j = (((4 * a1_z) + v_24.toInt)).toNat then rr_509.toInt else zA S_510 x 1226 j := by have h := zA_sAs eS_530 t_542 rfl; rw [z_nc z_33 (by omega)] at h; exact h
                have zs_543 : ∀ j, zA S_530 x 1226 j = if j = (((4 * a1_z) + v_24.toInt)).toNat then rr_509.toInt else zA S x 1226 j := fun j => by rw [zs_541 j, zc_540]
                refine lv_aload_n X.1 X.2.1 dX12_condition_141 rfl (lv_at hl 2 rfl) ?_
                have t_544 : At S_530 x 12 := tAt_sA eS_530 t_538
                obtain ⟨q_545, h_546, h_547, h_548⟩ := gQ_12_1223 hO_531.1 t_544
                refine r_getR (g := 1223) X hw t_544 rfl 23 h_546 (by decide) rfl inn_X12_condition_12 (by decide) (X.2.2.2.1 (.fieldLink RX12 70 "SilkMillModel" "conditions" "[I") (by decide +kernel)) rfl (gv_1223 _ _) dX12_condition_142 ?_
                have zc_549 : zA S_496 x 1223 = zA S x 1223 := (zA_fr hk_497.fr ha_x_L_65 (ex3 (gQ_12_1223 hO_T_64.1 ha_x_L_65)) (by decide +kernel) (by decide +kernel)).trans zk_68
                have zc_550 : zA S_510 x 1223 = zA S x 1223 := (zA_fr hk_511.fr t_502 (ex3 (gQ_12_1223 hO_498.1 t_502)) (by decide +kernel) (by decide +kernel)).trans zc_549
                have zc_551 : zA S_530 x 1223 = zA S x 1223 := (zA_sAn eS_530 (ex3 (gQ_12_1223 hO_512.1 t_538)) t_528 rfl).trans zc_550
                have zz_552 := congrFun zc_551 a1_z.toNat
                refine lv_iload_n X.1 X.2.1 dX12_condition_145 rfl (lv_at hl 3 rfl) ?_
                refine lv_dup2_11 X.1 X.2.1 dX12_condition_146 rfl rfl ?_
                refine r_iald X hw h_547 rfl (by rw [h_548]; exact z_ix hz_a1 (by omega) (by omega)) dX12_condition_147 ?_
                refine lv_topi (fun v_553 ev_553 => ?_)
                have z_554 := gE_674 hO_531.1 h_547 (Int32.toNatClampNeg (a1)); rw [← ev_553] at z_554
                have ev_553 := ev_553.symm
                have zf_555 : zA S_530 x 1223 (a1_z).toNat = v_553.toInt := (zA_of h_546 hz_a1 (by omega) ev_553)
                refine lv_iconst (v := 1) X.1 X.2.1 dX12_condition_148 (by decide) ?_
                refine lv_iadd X.1 X.2.1 dX12_condition_149 ?_
                refine lv_topi (fun v_556 ev_556 => ?_)
                have z_557 : v_556.toInt = v_553.toInt + 1 := z_add ev_556 rfl ti_1 (by omega) (by omega)
                refine r_iast X hw h_547 rfl (by rw [h_548]; exact z_ix hz_a1 (by omega) (by omega)) dX12_condition_150 (fun H locs hw => ?_)
                obtain ⟨S_558, eS_558⟩ : ∃ T, T = sA S_530 q_545 (upd (pA S_530 q_545) (Int32.toNatClampNeg (a1)) (v_556)) := ⟨_, rfl⟩
                rw [← eS_558] at hw
                have hO_559 : Ok MCt S S_558 := hO_531.sA eS_558 h_547 (by decide +kernel) (uA_674 hO_531.1 h_547 (by omega) (by omega))
                have h_560 : pA S_558 q_545 (Int32.toNatClampNeg (a1)) = v_556 := tA_sAs eS_558
                have t_561 : pR S_558 1223 x = some q_545 := tR_sA eS_558 h_546
                have t_563 : pR S_530 1223 x = some q_545 := by have h := t_561; rw [eS_558, pR_sA] at h; exact h
                have zs_562 : ∀ j, zA S_558 x 1223 j = if j = (a1_z).toNat then (v_553.toInt + 1) else zA S_530 x 1223 j := by have h := zA_sAs eS_558 t_563 z_557; rw [z_nc hz_a1 (by omega)] at h; exact h
                have zs_564 := zs_562 (a1_z).toNat; rw [if_pos rfl] at zs_564
                have t_566 : pR S_530 1223 x = some q_545 := by have h := t_561; rw [eS_558, pR_sA] at h; exact h
                have zs_565 : ∀ j, zA S_558 x 1223 j = if j = (a1_z).toNat then (v_553.toInt + 1) else zA S_530 x 1223 j := by have h := zA_sAs eS_558 t_566 z_557; rw [z_nc hz_a1 (by omega)] at h; exact h
                have ce_567 : CeX S_530 S_558 x 1223 (a1_z).toNat ((v_553.toInt + 1)) := CeX_mk hO_531.1 t_544 eS_558 h_547 (by decide) zs_565
                have t_569 : pR S_530 1223 x = some q_545 := by have h := t_561; rw [eS_558, pR_sA] at h; exact h
                have zs_568 : ∀ j, zA S_558 x 1223 j = if j = (a1_z).toNat then (v_553.toInt + 1) else zA S_530 x 1223 j := by have h := zA_sAs eS_558 t_569 z_557; rw [z_nc hz_a1 (by omega)] at h; exact h
                have zs_570 : ∀ j, zA S_558 x 1223 j = if j = (a1_z).toNat then (v_553.toInt + 1) else zA S x 1223 j := fun j => by rw [zs_568 j, zc_551]
                refine lv_aload_n X.1 X.2.1 dX12_condition_151 rfl (lv_at hl 2 rfl) ?_
                have t_571 : At S_558 x 12 := tAt_sA eS_558 t_544
                have t_572 : pI S_530 1230 x = v_521 := tI_sA eS_530 ev_521
                have t_573 : pI S_558 1230 x = v_521 := tI_sA eS_558 t_572
                refine r_getI (g := 1230) (x := v_521) X hw t_571 rfl 30 t_573 (by decide) rfl inn_X12_condition_12 (by decide) (X.2.2.2.1 (.fieldLink RX12 229 "SilkMillModel" "faultKind" "I") (by decide +kernel)) rfl (gv_1230 _ _) dX12_condition_152 ?_
                refine lv_if_ne (tgt := 162) X.1 X.2.1 dX12_condition_155 (by decide) (fun c_574 => ?_) (fun c_574 => ?_)
                · have z_b_575 := trivial
                  have k_576 : v_521.toInt ≠ 0 := z_ne rfl ti_0 c_574
                  refine lv_iconst (v := 0) X.1 X.2.1 dX12_condition_162 (by decide) ?_
                  have pz_577 : (pI S_558 1230 x).toInt = v_521.toInt := (congrArg Int32.toInt t_573).trans rfl
                  rw [hQQ]
                  exact ret_z X hw hr hlocks (Nat.le_of_ble_eq_true rfl) (Nat.le_of_ble_eq_true rfl) (by decide) ⟨hO_559, (by exfalso; omega)⟩ dX12_condition_163
                · have z_b_578 := trivial
                  have k_579 : v_521.toInt = 0 := z_eq rfl ti_0 c_574
                  refine lv_iconst (v := 1) X.1 X.2.1 dX12_condition_158 (by decide) ?_
                  refine lv_goto (tgt := 163) X.1 X.2.1 dX12_condition_159 (by decide) ?_
                  have pz_580 : (pI S_558 1230 x).toInt = v_521.toInt := (congrArg Int32.toInt t_573).trans rfl
                  have rg_581 := RGB_sA nq_518.2.1 eS_530
                  have rg_582 := RGB_sA rg_581 eS_558
                  have rrl_583 : RrL S S_496 x := RrL_to iv_85 (rg_zA hO_T_64.1 ha_x_L_65 hk_497.fr (by decide +kernel)) (zA_fr hk_497.fr ha_x_L_65 (ex3 (gQ_12_1220 hO_T_64.1 ha_x_L_65)) (by decide +kernel) (by decide +kernel))
                  have rrl_584 : RrL S S_510 x := RrL_to rrl_583 (rg_zA hO_498.1 t_502 hk_511.fr (by decide +kernel)) (zA_fr hk_511.fr t_502 (ex3 (gQ_12_1220 hO_498.1 t_502)) (by decide +kernel) (by decide +kernel))
                  have rrl_585 : RrL S S_530 x := RrL_ce rrl_584 ce_537 (zA_sAn eS_530 (ex3 (gQ_12_1220 hO_512.1 t_538)) t_528 rfl) (by omega)
                  have rrl_586 : RrL S S_558 x := RrL_ce rrl_585 ce_567 (zA_sAn eS_558 (ex3 (gQ_12_1220 hO_531.1 t_544)) h_547 rfl) (by omega)
                  have zc_587 : zA S_496 x 1221 = zA S x 1221 := (zA_fr hk_497.fr ha_x_L_65 (ex3 (gQ_12_1221 hO_T_64.1 ha_x_L_65)) (by decide +kernel) (by decide +kernel)).trans zk_74
                  have zc_588 : zA S_510 x 1221 = zA S x 1221 := (zA_fr hk_511.fr t_502 (ex3 (gQ_12_1221 hO_498.1 t_502)) (by decide +kernel) (by decide +kernel)).trans zc_587
                  have zc_589 : zA S_530 x 1221 = zA S x 1221 := (zA_sAn eS_530 (ex3 (gQ_12_1221 hO_512.1 t_538)) t_528 rfl).trans zc_588
                  have zc_590 : zA S_558 x 1221 = zA S x 1221 := (zA_sAn eS_558 (ex3 (gQ_12_1221 hO_531.1 t_544)) h_547 rfl).trans zc_589
                  have zc_591 : zA S_496 x 1222 = zA S x 1222 := (zA_fr hk_497.fr ha_x_L_65 (ex3 (gQ_12_1222 hO_T_64.1 ha_x_L_65)) (by decide +kernel) (by decide +kernel)).trans zk_77
                  have zc_592 : zA S_510 x 1222 = zA S x 1222 := (zA_fr hk_511.fr t_502 (ex3 (gQ_12_1222 hO_498.1 t_502)) (by decide +kernel) (by decide +kernel)).trans zc_591
                  have zc_593 : zA S_530 x 1222 = zA S x 1222 := (zA_sAn eS_530 (ex3 (gQ_12_1222 hO_512.1 t_538)) t_528 rfl).trans zc_592
                  have zc_594 : zA S_558 x 1222 = zA S x 1222 := (zA_sAn eS_558 (ex3 (gQ_12_1222 hO_531.1 t_544)) h_547 rfl).trans zc_593
                  have zc_595 : zA S_496 x 1226 = zA S x 1226 := (zA_fr hk_497.fr ha_x_L_65 (ex3 (gQ_12_1226 hO_T_64.1 ha_x_L_65)) (by decide +kernel) (by decide +kernel)).trans zk_80
                  have zc_596 : zA S_510 x 1226 = zA S x 1226 := (zA_fr hk_511.fr t_502 (ex3 (gQ_12_1226 hO_498.1 t_502)) (by decide +kernel) (by decide +kernel)).trans zc_595
                  have zc_597 : zA S_558 x 1226 = zA S_530 x 1226 := zA_sAn eS_558 (ex3 (gQ_12_1226 hO_531.1 t_544)) h_547 rfl
                  have zc_598 : zA S_496 x 1224 = zA T_64 x 1224 := zA_fr hk_497.fr ha_x_L_65 (ex3 (gQ_12_1224 hO_T_64.1 ha_x_L_65)) (by decide +kernel) (by decide +kernel)
                  have zc_599 : zA S_510 x 1224 = zA T_64 x 1224 := (zA_fr hk_511.fr t_502 (ex3 (gQ_12_1224 hO_498.1 t_502)) (by decide +kernel) (by decide +kernel)).trans zc_598
                  have zc_600 : zA S_530 x 1224 = zA T_64 x 1224 := (zA_sAn eS_530 (ex3 (gQ_12_1224 hO_512.1 t_538)) t_528 rfl).trans zc_599
                  have zc_601 : zA S_558 x 1224 = zA T_64 x 1224 := (zA_sAn eS_558 (ex3 (gQ_12_1224 hO_531.1 t_544)) h_547 rfl).trans zc_600
                  have zc_602 : zA S_496 x 1225 = zA T_64 x 1225 := zA_fr hk_497.fr ha_x_L_65 (ex3 (gQ_12_1225 hO_T_64.1 ha_x_L_65)) (by decide +kernel) (by decide +kernel)
                  have zc_603 : zA S_510 x 1225 = zA T_64 x 1225 := (zA_fr hk_511.fr t_502 (ex3 (gQ_12_1225 hO_498.1 t_502)) (by decide +kernel) (by decide +kernel)).trans zc_602
                  have zc_604 : zA S_530 x 1225 = zA T_64 x 1225 := (zA_sAn eS_530 (ex3 (gQ_12_1225 hO_512.1 t_538)) t_528 rfl).trans zc_603
                  have zc_605 : zA S_558 x 1225 = zA T_64 x 1225 := (zA_sAn eS_558 (ex3 (gQ_12_1225 hO_531.1 t_544)) h_547 rfl).trans zc_604
                  have rc_606 : RrC S_558 x Rl (Cl ++ [cdV (rB S x) (pI S 1228 x).toInt.toNat t0]) := RrC_add (i := a1_z.toNat) (k := (((4 * a1_z) + v_24.toInt)).toNat) hG ha_x hp_4 (by omega) (by omega) zc_590 zc_594 (fun j => zs_570 j) (fun j => by rw [zc_601, iv_83 j]) (fun j => by rw [zc_605, iv_84 j]) (fun j => by rw [zc_597, zs_543 j]) (by show _ = (Int32.ofInt (whF (rB S x) t0 FLs 0)).toInt; rw [← wh_16, Int32.ofInt_toInt]) (reZ_rel (Or.inr (Or.inr ((isR_gt iv_81).mp f_485.2)))) (by show _ = (Int32.ofInt (numF (rB S x) (nxT (rB S x) (pI S 1228 x).toInt.toNat (nxT (rB S x) (pI S 1228 x).toInt.toNat t0)).2.1 ((nxT (rB S x) (pI S 1228 x).toInt.toNat (nxT (rB S x) (pI S 1228 x).toInt.toNat t0)).2.2 - (nxT (rB S x) (pI S 1228 x).toInt.toNat (nxT (rB S x) (pI S 1228 x).toInt.toNat t0)).2.1))).toInt; rw [← nq_518.1, Int32.ofInt_toInt]) (by omega)
                  rw [hQQ]
                  exact ret_z X hw hr hlocks (Nat.le_of_ble_eq_true rfl) (Nat.le_of_ble_eq_true rfl) (by decide) ⟨hO_559, Or.inl ⟨⟨⟨by omega, Or.inr (Or.inr ((isR_gt iv_81).mp f_485.2)), hd_517⟩, rg_582, by omega, by omega, by omega, rc_606, rrl_586⟩, rfl⟩⟩ dX12_condition_163
              · have nq_607 := nm_516 hd_517
                have nfk_608 := nq_607.2
                obtain ⟨v_610, ev_610⟩ : ∃ v, pI S_510 1230 x = v := ⟨_, rfl⟩
                have rg_612 := And.intro (z_lo v_610) (z_hi v_610)
                have pz_613 : (pI S_510 1230 x).toInt = v_610.toInt := by rw [ev_610]
                have pz_614 : (pI S_510 1230 x).toInt = v_610.toInt := (congrArg Int32.toInt ev_610).trans rfl
                have ok_615 := hdI (RGB_ok hG ha_x nq_607.1)
                have ok_616 : ((nxT (rB S x) (pI S 1228 x).toInt.toNat (nxT (rB S x) (pI S 1228 x).toInt.toNat t0))).2.1 ≤ ((nxT (rB S x) (pI S 1228 x).toInt.toNat (nxT (rB S x) (pI S 1228 x).toInt.toNat t0))).2.2 ∧ ((nxT (rB S x) (pI S 1228 x).toInt.toNat (nxT (rB S x) (pI S 1228 x).toInt.toNat t0))).2.2 ≤ 400 := ⟨(hdE ok_615).1, (hdE ok_615).2.1⟩
                have t_617 : At S_510 q_503 734 := hk_511.fr.at h_505
                have t_618 : pN S_510 q_503 = 240 := hk_511.fr.N h_505 h_506
                clear h_506
                refine r_iast X hw t_617 rfl (by rw [t_618]; exact z_ix z_33 (by omega) (by omega)) dX12_condition_140 (fun H locs hw => ?_)
                obtain ⟨S_619, eS_619⟩ : ∃ T, T = sA S_510 q_503 (upd (pA S_510 q_503) (Int32.toNatClampNeg (v_32)) (rr_509)) := ⟨_, rfl⟩
                rw [← eS_619] at hw
                have hO_620 : Ok MCt S S_619 := hO_512.sA eS_619 t_617 (by decide +kernel) (uA_734 hO_512.1 t_617)
                have h_621 : pA S_619 q_503 (Int32.toNatClampNeg (v_32)) = rr_509 := tA_sAs eS_619
                have t_622 : pR S_510 1226 x = some q_503 := hk_511.fr.R' (by decide +kernel) t_502 h_504
                have t_623 : pR S_619 1226 x = some q_503 := tR_sA eS_619 t_622
                have t_625 : pR S_510 1226 x = some q_503 := by have h := t_623; rw [eS_619, pR_sA] at h; exact h
                have zs_624 : ∀ j, zA S_619 x 1226 j = if j = (((4 * a1_z) + v_24.toInt)).toNat then rr_509.toInt else zA S_510 x 1226 j := by have h := zA_sAs eS_619 t_625 rfl; rw [z_nc z_33 (by omega)] at h; exact h
                have t_627 : At S_510 x 12 := hk_511.fr.at t_502
                have ce_626 : CeX S_510 S_619 x 1226 (((4 * a1_z) + v_24.toInt)).toNat (rr_509.toInt) := CeX_mk hO_512.1 t_627 eS_619 t_617 (by decide) zs_624
                have zc_628 : zA S_496 x 1226 = zA S x 1226 := (zA_fr hk_497.fr ha_x_L_65 (ex3 (gQ_12_1226 hO_T_64.1 ha_x_L_65)) (by decide +kernel) (by decide +kernel)).trans zk_80
                have zc_629 : zA S_510 x 1226 = zA S x 1226 := (zA_fr hk_511.fr t_502 (ex3 (gQ_12_1226 hO_498.1 t_502)) (by decide +kernel) (by decide +kernel)).trans zc_628
                have t_631 : pR S_510 1226 x = some q_503 := by have h := t_623; rw [eS_619, pR_sA] at h; exact h
                have zs_630 : ∀ j, zA S_619 x 1226 j = if j = (((4 * a1_z) + v_24.toInt)).toNat then rr_509.toInt else zA S_510 x 1226 j := by have h := zA_sAs eS_619 t_631 rfl; rw [z_nc z_33 (by omega)] at h; exact h
                have zs_632 : ∀ j, zA S_619 x 1226 j = if j = (((4 * a1_z) + v_24.toInt)).toNat then rr_509.toInt else zA S x 1226 j := fun j => by rw [zs_630 j, zc_629]
                refine lv_aload_n X.1 X.2.1 dX12_condition_141 rfl (lv_at hl 2 rfl) ?_
                have t_633 : At S_619 x 12 := tAt_sA eS_619 t_627
                obtain ⟨q_634, h_635, h_636, h_637⟩ := gQ_12_1223 hO_620.1 t_633
                refine r_getR (g := 1223) X hw t_633 rfl 23 h_635 (by decide) rfl inn_X12_condition_12 (by decide) (X.2.2.2.1 (.fieldLink RX12 70 "SilkMillModel" "conditions" "[I") (by decide +kernel)) rfl (gv_1223 _ _) dX12_condition_142 ?_
                have zc_638 : zA S_496 x 1223 = zA S x 1223 := (zA_fr hk_497.fr ha_x_L_65 (ex3 (gQ_12_1223 hO_T_64.1 ha_x_L_65)) (by decide +kernel) (by decide +kernel)).trans zk_68
                have zc_639 : zA S_510 x 1223 = zA S x 1223 := (zA_fr hk_511.fr t_502 (ex3 (gQ_12_1223 hO_498.1 t_502)) (by decide +kernel) (by decide +kernel)).trans zc_638
                have zc_640 : zA S_619 x 1223 = zA S x 1223 := (zA_sAn eS_619 (ex3 (gQ_12_1223 hO_512.1 t_627)) t_617 rfl).trans zc_639
                have zz_641 := congrFun zc_640 a1_z.toNat
                refine lv_iload_n X.1 X.2.1 dX12_condition_145 rfl (lv_at hl 3 rfl) ?_
                refine lv_dup2_11 X.1 X.2.1 dX12_condition_146 rfl rfl ?_
                refine r_iald X hw h_636 rfl (by rw [h_637]; exact z_ix hz_a1 (by omega) (by omega)) dX12_condition_147 ?_
                refine lv_topi (fun v_642 ev_642 => ?_)
                have z_643 := gE_674 hO_620.1 h_636 (Int32.toNatClampNeg (a1)); rw [← ev_642] at z_643
                have ev_642 := ev_642.symm
                have zf_644 : zA S_619 x 1223 (a1_z).toNat = v_642.toInt := (zA_of h_635 hz_a1 (by omega) ev_642)
                refine lv_iconst (v := 1) X.1 X.2.1 dX12_condition_148 (by decide) ?_
                refine lv_iadd X.1 X.2.1 dX12_condition_149 ?_
                refine lv_topi (fun v_645 ev_645 => ?_)
                have z_646 : v_645.toInt = v_642.toInt + 1 := z_add ev_645 rfl ti_1 (by omega) (by omega)
                refine r_iast X hw h_636 rfl (by rw [h_637]; exact z_ix hz_a1 (by omega) (by omega)) dX12_condition_150 (fun H locs hw => ?_)
                obtain ⟨S_647, eS_647⟩ : ∃ T, T = sA S_619 q_634 (upd (pA S_619 q_634) (Int32.toNatClampNeg (a1)) (v_645)) := ⟨_, rfl⟩
                rw [← eS_647] at hw
                have hO_648 : Ok MCt S S_647 := hO_620.sA eS_647 h_636 (by decide +kernel) (uA_674 hO_620.1 h_636 (by omega) (by omega))
                have h_649 : pA S_647 q_634 (Int32.toNatClampNeg (a1)) = v_645 := tA_sAs eS_647
                have t_650 : pR S_647 1223 x = some q_634 := tR_sA eS_647 h_635
                have t_652 : pR S_619 1223 x = some q_634 := by have h := t_650; rw [eS_647, pR_sA] at h; exact h
                have zs_651 : ∀ j, zA S_647 x 1223 j = if j = (a1_z).toNat then (v_642.toInt + 1) else zA S_619 x 1223 j := by have h := zA_sAs eS_647 t_652 z_646; rw [z_nc hz_a1 (by omega)] at h; exact h
                have zs_653 := zs_651 (a1_z).toNat; rw [if_pos rfl] at zs_653
                have t_655 : pR S_619 1223 x = some q_634 := by have h := t_650; rw [eS_647, pR_sA] at h; exact h
                have zs_654 : ∀ j, zA S_647 x 1223 j = if j = (a1_z).toNat then (v_642.toInt + 1) else zA S_619 x 1223 j := by have h := zA_sAs eS_647 t_655 z_646; rw [z_nc hz_a1 (by omega)] at h; exact h
                have ce_656 : CeX S_619 S_647 x 1223 (a1_z).toNat ((v_642.toInt + 1)) := CeX_mk hO_620.1 t_633 eS_647 h_636 (by decide) zs_654
                have t_658 : pR S_619 1223 x = some q_634 := by have h := t_650; rw [eS_647, pR_sA] at h; exact h
                have zs_657 : ∀ j, zA S_647 x 1223 j = if j = (a1_z).toNat then (v_642.toInt + 1) else zA S_619 x 1223 j := by have h := zA_sAs eS_647 t_658 z_646; rw [z_nc hz_a1 (by omega)] at h; exact h
                have zs_659 : ∀ j, zA S_647 x 1223 j = if j = (a1_z).toNat then (v_642.toInt + 1) else zA S x 1223 j := fun j => by rw [zs_657 j, zc_640]
                refine lv_aload_n X.1 X.2.1 dX12_condition_151 rfl (lv_at hl 2 rfl) ?_
                have t_660 : At S_647 x 12 := tAt_sA eS_647 t_633
                have t_661 : pI S_619 1230 x = v_610 := tI_sA eS_619 ev_610
                have t_662 : pI S_647 1230 x = v_610 := tI_sA eS_647 t_661
                refine r_getI (g := 1230) (x := v_610) X hw t_660 rfl 30 t_662 (by decide) rfl inn_X12_condition_12 (by decide) (X.2.2.2.1 (.fieldLink RX12 229 "SilkMillModel" "faultKind" "I") (by decide +kernel)) rfl (gv_1230 _ _) dX12_condition_152 ?_
                refine lv_if_ne (tgt := 162) X.1 X.2.1 dX12_condition_155 (by decide) (fun c_663 => ?_) (fun c_663 => ?_)
                · have z_b_664 := trivial
                  have k_665 : v_610.toInt ≠ 0 := z_ne rfl ti_0 c_663
                  refine lv_iconst (v := 0) X.1 X.2.1 dX12_condition_162 (by decide) ?_
                  have pz_666 : (pI S_647 1230 x).toInt = v_610.toInt := (congrArg Int32.toInt t_662).trans rfl
                  have rrl_667 : RrL S S_496 x := RrL_to iv_85 (rg_zA hO_T_64.1 ha_x_L_65 hk_497.fr (by decide +kernel)) (zA_fr hk_497.fr ha_x_L_65 (ex3 (gQ_12_1220 hO_T_64.1 ha_x_L_65)) (by decide +kernel) (by decide +kernel))
                  have rrl_668 : RrL S S_510 x := RrL_to rrl_667 (rg_zA hO_498.1 t_502 hk_511.fr (by decide +kernel)) (zA_fr hk_511.fr t_502 (ex3 (gQ_12_1220 hO_498.1 t_502)) (by decide +kernel) (by decide +kernel))
                  have rrl_669 : RrL S S_619 x := RrL_ce rrl_668 ce_626 (zA_sAn eS_619 (ex3 (gQ_12_1220 hO_512.1 t_627)) t_617 rfl) (by omega)
                  have rrl_670 : RrL S S_647 x := RrL_ce rrl_669 ce_656 (zA_sAn eS_647 (ex3 (gQ_12_1220 hO_620.1 t_633)) h_636 rfl) (by omega)
                  rw [hQQ]
                  exact ret_z X hw hr hlocks (Nat.le_of_ble_eq_true rfl) (Nat.le_of_ble_eq_true rfl) (by decide) ⟨hO_648, Or.inr ⟨⟨Or.inr (Or.inr ⟨by omega, fun h => hd_517 h.2.2, by omega⟩), rrl_670⟩, rfl⟩⟩ dX12_condition_163
                · have z_b_671 := trivial
                  have k_672 : v_610.toInt = 0 := z_eq rfl ti_0 c_663
                  refine lv_iconst (v := 1) X.1 X.2.1 dX12_condition_158 (by decide) ?_
                  refine lv_goto (tgt := 163) X.1 X.2.1 dX12_condition_159 (by decide) ?_
                  have pz_673 : (pI S_647 1230 x).toInt = v_610.toInt := (congrArg Int32.toInt t_662).trans rfl
                  rw [hQQ]
                  exact ret_z X hw hr hlocks (Nat.le_of_ble_eq_true rfl) (Nat.le_of_ble_eq_true rfl) (by decide) ⟨hO_648, (by exfalso; omega)⟩ dX12_condition_163
            · have z_b_674 := trivial
              rw [rB_fr hG ha_x hO_T_64.fr (by decide +kernel)] at f_485
              refine lv_if_ne (tgt := 127) X.1 X.2.1 dX12_condition_118 (by decide) (fun c_675 => absurd c_675 (by decide)) (fun c_675 => ?_)
              refine lv_aload_n X.1 X.2.1 dX12_condition_121 rfl (lv_at hl 2 rfl) ?_
              refine lv_iconst (v := 1) X.1 X.2.1 dX12_condition_122 (by decide) ?_
              refine k_i (rm := { frames := 1, cells := 0, slots := 0, locals := 48 }) (av := [.ref x, .int 1]) X hw (va_runV (As := [.int 1]) (rest := []) (cfix X) (k_X12_wrong2 l G cy κ T_64 _ x (1) (1) hO_T_64.1 ha_x_L_65 ti_1) (cwV 1 X.2.2.2.1 gX12_condition_X12_wrong rfl rfl rfl (by decide +kernel) ⟨Nat.le_of_ble_eq_true rfl, Nat.le_of_ble_eq_true rfl⟩) (pre_V X hw _ ha_x_L_65 rfl (by decide) rfl) rfl rfl hl.1 rfl (lv_room (Nat.le_of_ble_eq_true rfl)) dX12_condition_123 ⟨Nat.le_of_ble_eq_true rfl, Nat.le_of_ble_eq_true rfl⟩) 0 0 (Nat.le_of_ble_eq_true rfl) (Nat.le_of_ble_eq_true rfl) (fun rr_676 S_677 H locs hp hw hfr hnw => ?_)
              obtain ⟨hk_678, hp⟩ := hp
              have hO_679 : Ok MCt S S_677 := hO_T_64.call hk_678 (by decide +kernel)
              rcases hp with ⟨f_680, er_681⟩ | ⟨f_680, er_681⟩ <;> subst er_681
              · have z_b_682 := trivial
                exact f_680.elim
              · have z_b_683 := trivial
                obtain ⟨v_685, ev_685⟩ : ∃ v, pI S_677 1230 x = v := ⟨_, rfl⟩
                have rg_687 := And.intro (z_lo v_685) (z_hi v_685)
                have pz_688 : (pI S_677 1230 x).toInt = v_685.toInt := by rw [ev_685]
                have pz_689 : (pI S_677 1230 x).toInt = v_685.toInt := (congrArg Int32.toInt ev_685).trans rfl
                have rrl_690 : RrL S S_677 x := RrL_to iv_85 (rg_zA hO_T_64.1 ha_x_L_65 hk_678.fr (by decide +kernel)) (zA_fr hk_678.fr ha_x_L_65 (ex3 (gQ_12_1220 hO_T_64.1 ha_x_L_65)) (by decide +kernel) (by decide +kernel))
                rw [hQQ]
                exact ret_z X hw hr hlocks (Nat.le_of_ble_eq_true rfl) (Nat.le_of_ble_eq_true rfl) (by decide) ⟨hO_679, Or.inr ⟨⟨Or.inr (Or.inr ⟨by omega, fun h => by rcases h.2.1 with h | h | h; exact f_97 ⟨by omega, (isR_lt iv_81).mpr h⟩; exact f_291 ⟨by omega, (isR_eq iv_81).mpr h⟩; exact f_485 ⟨by omega, (isR_gt iv_81).mpr h⟩, by omega⟩), rrl_690⟩, rfl⟩⟩ dX12_condition_126
      refine lv_aload_n X.1 X.2.1 dX12_condition_56 rfl (lv_at hl 2 rfl) ?_
      have t_691 : At S_52 x 12 := tAt_sA eS_52 t_47
      obtain ⟨q_692, h_693, h_694, h_695⟩ := gQ_12_1225 hO_53.1 t_691
      refine r_getR (g := 1225) X hw t_691 rfl 25 h_693 (by decide) rfl inn_X12_condition_12 (by decide) (X.2.2.2.1 (.fieldLink RX12 76 "SilkMillModel" "rel" "[I") (by decide +kernel)) rfl (gv_1225 _ _) dX12_condition_57 ?_
      refine lv_iload_n X.1 X.2.1 dX12_condition_60 rfl (lv_at hl 0 rfl) ?_
      refine lv_aload_n X.1 X.2.1 dX12_condition_61 rfl (lv_at hl 2 rfl) ?_
      refine lv_ldcwS (q := κ (100 + 18)) X.1 X.2.1 X.2.2.2.2.1 (show vk_R RX12 258 "<" (κ (100 + 18)) s from (X.2.2.2.2.2.2.2.2.2.2.2.2.2.2 18 (by decide)).1) dX12_condition_62 ?_
      have rg_696 := RGB_sA rg_44 eS_52
      have t_697 : pI S_41 1230 x = v_1 := hk_42.fr.I' (by decide +kernel) ha_x ev_1
      have t_698 : pI S_52 1230 x = v_1 := tI_sA eS_52 t_697
      have pz_699 : (pI S_52 1230 x).toInt = v_1.toInt := (congrArg Int32.toInt t_698).trans rfl
      refine k_i (rm := { frames := 5, cells := 0, slots := 0, locals := 240 }) (av := [.ref x, .ref (κ (100 + 18))]) X hw (va_runV (As := [.ref (κ (100 + 18))]) (rest := [.int (v_32), .ref q_692]) (cfix X) (k_X12_is2 l G cy κ S_52 _ x 18 (nxT (rB S x) (pI S 1228 x).toInt.toNat t0) hO_53.1 t_691 (by decide) rg_696.1 (by first | assumption | omega) (by first | assumption | omega)) (cwV 1 X.2.2.2.1 gX12_condition_X12_is rfl rfl rfl (by decide +kernel) ⟨Nat.le_of_ble_eq_true rfl, Nat.le_of_ble_eq_true rfl⟩) (pre_V X hw _ t_691 rfl (by decide) rfl) rfl rfl hl.1 rfl (lv_room (Nat.le_of_ble_eq_true rfl)) dX12_condition_65 ⟨Nat.le_of_ble_eq_true rfl, Nat.le_of_ble_eq_true rfl⟩) 0 0 (Nat.le_of_ble_eq_true rfl) (Nat.le_of_ble_eq_true rfl) (fun rr_700 S_701 H locs hp hw hfr hnw => ?_)
      obtain ⟨e2, hp⟩ := hp
      subst e2
      rcases hp with ⟨f_702, er_703⟩ | ⟨f_702, er_703⟩ <;> subst er_703
      · have z_b_704 := trivial
        rw [rB_fr hG ha_x hO_53.fr (by decide +kernel)] at f_702
        refine lv_if_eq (tgt := 75) X.1 X.2.1 dX12_condition_68 (by decide) (fun c_705 => absurd c_705 (by decide)) (fun c_705 => ?_)
        refine lv_iconst (v := 0) X.1 X.2.1 dX12_condition_71 (by decide) ?_
        refine lv_goto (tgt := 90) X.1 X.2.1 dX12_condition_72 (by decide) ?_
        refine r_iast X hw h_694 rfl (by rw [h_695]; exact z_ix z_33 (by omega) (by omega)) dX12_condition_90 (fun H locs hw => ?_)
        obtain ⟨S_706, eS_706⟩ : ∃ T, T = sA S_52 q_692 (upd (pA S_52 q_692) (Int32.toNatClampNeg (v_32)) (0)) := ⟨_, rfl⟩
        rw [← eS_706] at hw
        have hO_707 : Ok MCt S S_706 := hO_53.sA eS_706 h_694 (by decide +kernel) (uA_714 hO_53.1 h_694)
        have h_708 : pA S_706 q_692 (Int32.toNatClampNeg (v_32)) = 0 := tA_sAs eS_706
        have t_709 : pR S_706 1225 x = some q_692 := tR_sA eS_706 h_693
        have t_711 : pR S_52 1225 x = some q_692 := by have h := t_709; rw [eS_706, pR_sA] at h; exact h
        have zs_710 : ∀ j, zA S_706 x 1225 j = if j = (((4 * a1_z) + v_24.toInt)).toNat then 0 else zA S_52 x 1225 j := by have h := zA_sAs eS_706 t_711 ti_0; rw [z_nc z_33 (by omega)] at h; exact h
        have ce_712 : CeX S_52 S_706 x 1225 (((4 * a1_z) + v_24.toInt)).toNat (0) := CeX_mk hO_53.1 t_691 eS_706 h_694 (by decide) zs_710
        have zc_713 : zA S_41 x 1225 = zA S x 1225 := zA_fr hk_42.fr ha_x (ex3 (gQ_12_1225 hO.1 ha_x)) (by decide +kernel) (by decide +kernel)
        have zc_714 : zA S_52 x 1225 = zA S x 1225 := (zA_sAn eS_52 (ex3 (gQ_12_1225 hO_43.1 t_47)) h_50 rfl).trans zc_713
        have t_716 : pR S_52 1225 x = some q_692 := by have h := t_709; rw [eS_706, pR_sA] at h; exact h
        have zs_715 : ∀ j, zA S_706 x 1225 j = if j = (((4 * a1_z) + v_24.toInt)).toNat then 0 else zA S_52 x 1225 j := by have h := zA_sAs eS_706 t_716 ti_0; rw [z_nc z_33 (by omega)] at h; exact h
        have zs_717 : ∀ j, zA S_706 x 1225 j = if j = (((4 * a1_z) + v_24.toInt)).toNat then 0 else zA S x 1225 j := fun j => by rw [zs_715 j, zc_714]
        have t_718 : pI S_706 1230 x = v_1 := tI_sA eS_706 t_698
        have pz_719 : (pI S_706 1230 x).toInt = v_1.toInt := (congrArg Int32.toInt t_718).trans rfl
        have t_720 : At S_706 x 12 := tAt_sA eS_706 t_691
        have zc_721 : zA S_706 x 1223 = zA S x 1223 := (zA_sAn eS_706 (ex3 (gQ_12_1223 hO_53.1 t_691)) h_694 rfl).trans zc_67
        have zc_722 : zA S_706 x 1220 = zA S x 1220 := (zA_sAn eS_706 (ex3 (gQ_12_1220 hO_53.1 t_691)) h_694 rfl).trans zc_70
        have zc_723 : zA S_706 x 1221 = zA S x 1221 := (zA_sAn eS_706 (ex3 (gQ_12_1221 hO_53.1 t_691)) h_694 rfl).trans zc_73
        have zc_724 : zA S_706 x 1222 = zA S x 1222 := (zA_sAn eS_706 (ex3 (gQ_12_1222 hO_53.1 t_691)) h_694 rfl).trans zc_76
        have zc_725 : zA S_706 x 1226 = zA S x 1226 := (zA_sAn eS_706 (ex3 (gQ_12_1226 hO_53.1 t_691)) h_694 rfl).trans zc_79
        have rg_726 := RGB_sA rg_696 eS_706
        have zc_727 : zA S_41 x 1224 = zA S x 1224 := zA_fr hk_42.fr ha_x (ex3 (gQ_12_1224 hO.1 ha_x)) (by decide +kernel) (by decide +kernel)
        have zc_728 : zA S_706 x 1224 = zA S_52 x 1224 := zA_sAn eS_706 (ex3 (gQ_12_1224 hO_53.1 t_691)) h_694 rfl
        have rrl_729 : RrL S S_41 x := RrL_to (RrL_rf S x) (rg_zA hO.1 ha_x hk_42.fr (by decide +kernel)) (zA_fr hk_42.fr ha_x (ex3 (gQ_12_1220 hO.1 ha_x)) (by decide +kernel) (by decide +kernel))
        have rrl_730 : RrL S S_52 x := RrL_ce rrl_729 ce_58 (zA_sAn eS_52 (ex3 (gQ_12_1220 hO_43.1 t_47)) h_50 rfl) (by omega)
        have rrl_731 : RrL S S_706 x := RrL_ce rrl_730 ce_712 (zA_sAn eS_706 (ex3 (gQ_12_1220 hO_53.1 t_691)) h_694 rfl) (by omega)
        exact L_63 _ _ _ _  hw t_720 hO_707 zc_721 zc_722 zc_723 zc_724 zc_725 rg_726 (by omega) (fun j => by rw [zc_728, zs_62 j]) (fun j => by rw [zs_717 j, reZ_0 ((isR_lt rg_726).mp f_702.2)]) rrl_731 (lv_sub hl [0, 1, 2, 3] rfl)
      · have z_b_732 := trivial
        rw [rB_fr hG ha_x hO_53.fr (by decide +kernel)] at f_702
        refine lv_if_eq (tgt := 75) X.1 X.2.1 dX12_condition_68 (by decide) (fun c_733 => ?_) (fun c_733 => absurd c_733 (by decide))
        refine lv_aload_n X.1 X.2.1 dX12_condition_75 rfl (lv_at hl 2 rfl) ?_
        refine lv_ldcwS (q := κ (100 + 19)) X.1 X.2.1 X.2.2.2.2.1 (show vk_R RX12 260 "=" (κ (100 + 19)) s from (X.2.2.2.2.2.2.2.2.2.2.2.2.2.2 19 (by decide)).1) dX12_condition_76 ?_
        have pz_734 : (pI S_52 1230 x).toInt = v_1.toInt := (congrArg Int32.toInt t_698).trans rfl
        refine k_i (rm := { frames := 5, cells := 0, slots := 0, locals := 240 }) (av := [.ref x, .ref (κ (100 + 19))]) X hw (va_runV (As := [.ref (κ (100 + 19))]) (rest := [.int (v_32), .ref q_692]) (cfix X) (k_X12_is2 l G cy κ S_52 _ x 19 (nxT (rB S x) (pI S 1228 x).toInt.toNat t0) hO_53.1 t_691 (by decide) rg_696.1 (by first | assumption | omega) (by first | assumption | omega)) (cwV 1 X.2.2.2.1 gX12_condition_X12_is rfl rfl rfl (by decide +kernel) ⟨Nat.le_of_ble_eq_true rfl, Nat.le_of_ble_eq_true rfl⟩) (pre_V X hw _ t_691 rfl (by decide) rfl) rfl rfl hl.1 rfl (lv_room (Nat.le_of_ble_eq_true rfl)) dX12_condition_79 ⟨Nat.le_of_ble_eq_true rfl, Nat.le_of_ble_eq_true rfl⟩) 0 0 (Nat.le_of_ble_eq_true rfl) (Nat.le_of_ble_eq_true rfl) (fun rr_735 S_736 H locs hp hw hfr hnw => ?_)
        obtain ⟨e2, hp⟩ := hp
        subst e2
        rcases hp with ⟨f_737, er_738⟩ | ⟨f_737, er_738⟩ <;> subst er_738
        · have z_b_739 := trivial
          rw [rB_fr hG ha_x hO_53.fr (by decide +kernel)] at f_737
          refine lv_if_eq (tgt := 89) X.1 X.2.1 dX12_condition_82 (by decide) (fun c_740 => absurd c_740 (by decide)) (fun c_740 => ?_)
          refine lv_iconst (v := 1) X.1 X.2.1 dX12_condition_85 (by decide) ?_
          refine lv_goto (tgt := 90) X.1 X.2.1 dX12_condition_86 (by decide) ?_
          refine r_iast X hw h_694 rfl (by rw [h_695]; exact z_ix z_33 (by omega) (by omega)) dX12_condition_90 (fun H locs hw => ?_)
          obtain ⟨S_741, eS_741⟩ : ∃ T, T = sA S_52 q_692 (upd (pA S_52 q_692) (Int32.toNatClampNeg (v_32)) (1)) := ⟨_, rfl⟩
          rw [← eS_741] at hw
          have hO_742 : Ok MCt S S_741 := hO_53.sA eS_741 h_694 (by decide +kernel) (uA_714 hO_53.1 h_694)
          have h_743 : pA S_741 q_692 (Int32.toNatClampNeg (v_32)) = 1 := tA_sAs eS_741
          have t_744 : pR S_741 1225 x = some q_692 := tR_sA eS_741 h_693
          have t_746 : pR S_52 1225 x = some q_692 := by have h := t_744; rw [eS_741, pR_sA] at h; exact h
          have zs_745 : ∀ j, zA S_741 x 1225 j = if j = (((4 * a1_z) + v_24.toInt)).toNat then 1 else zA S_52 x 1225 j := by have h := zA_sAs eS_741 t_746 ti_1; rw [z_nc z_33 (by omega)] at h; exact h
          have ce_747 : CeX S_52 S_741 x 1225 (((4 * a1_z) + v_24.toInt)).toNat (1) := CeX_mk hO_53.1 t_691 eS_741 h_694 (by decide) zs_745
          have zc_748 : zA S_41 x 1225 = zA S x 1225 := zA_fr hk_42.fr ha_x (ex3 (gQ_12_1225 hO.1 ha_x)) (by decide +kernel) (by decide +kernel)
          have zc_749 : zA S_52 x 1225 = zA S x 1225 := (zA_sAn eS_52 (ex3 (gQ_12_1225 hO_43.1 t_47)) h_50 rfl).trans zc_748
          have t_751 : pR S_52 1225 x = some q_692 := by have h := t_744; rw [eS_741, pR_sA] at h; exact h
          have zs_750 : ∀ j, zA S_741 x 1225 j = if j = (((4 * a1_z) + v_24.toInt)).toNat then 1 else zA S_52 x 1225 j := by have h := zA_sAs eS_741 t_751 ti_1; rw [z_nc z_33 (by omega)] at h; exact h
          have zs_752 : ∀ j, zA S_741 x 1225 j = if j = (((4 * a1_z) + v_24.toInt)).toNat then 1 else zA S x 1225 j := fun j => by rw [zs_750 j, zc_749]
          have t_753 : pI S_741 1230 x = v_1 := tI_sA eS_741 t_698
          have pz_754 : (pI S_741 1230 x).toInt = v_1.toInt := (congrArg Int32.toInt t_753).trans rfl
          have t_755 : At S_741 x 12 := tAt_sA eS_741 t_691
          have zc_756 : zA S_741 x 1223 = zA S x 1223 := (zA_sAn eS_741 (ex3 (gQ_12_1223 hO_53.1 t_691)) h_694 rfl).trans zc_67
          have zc_757 : zA S_741 x 1220 = zA S x 1220 := (zA_sAn eS_741 (ex3 (gQ_12_1220 hO_53.1 t_691)) h_694 rfl).trans zc_70
          have zc_758 : zA S_741 x 1221 = zA S x 1221 := (zA_sAn eS_741 (ex3 (gQ_12_1221 hO_53.1 t_691)) h_694 rfl).trans zc_73
          have zc_759 : zA S_741 x 1222 = zA S x 1222 := (zA_sAn eS_741 (ex3 (gQ_12_1222 hO_53.1 t_691)) h_694 rfl).trans zc_76
          have zc_760 : zA S_741 x 1226 = zA S x 1226 := (zA_sAn eS_741 (ex3 (gQ_12_1226 hO_53.1 t_691)) h_694 rfl).trans zc_79
          have rg_761 := RGB_sA rg_696 eS_741
          have zc_762 : zA S_41 x 1224 = zA S x 1224 := zA_fr hk_42.fr ha_x (ex3 (gQ_12_1224 hO.1 ha_x)) (by decide +kernel) (by decide +kernel)
          have zc_763 : zA S_741 x 1224 = zA S_52 x 1224 := zA_sAn eS_741 (ex3 (gQ_12_1224 hO_53.1 t_691)) h_694 rfl
          have rrl_764 : RrL S S_41 x := RrL_to (RrL_rf S x) (rg_zA hO.1 ha_x hk_42.fr (by decide +kernel)) (zA_fr hk_42.fr ha_x (ex3 (gQ_12_1220 hO.1 ha_x)) (by decide +kernel) (by decide +kernel))
          have rrl_765 : RrL S S_52 x := RrL_ce rrl_764 ce_58 (zA_sAn eS_52 (ex3 (gQ_12_1220 hO_43.1 t_47)) h_50 rfl) (by omega)
          have rrl_766 : RrL S S_741 x := RrL_ce rrl_765 ce_747 (zA_sAn eS_741 (ex3 (gQ_12_1220 hO_53.1 t_691)) h_694 rfl) (by omega)
          exact L_63 _ _ _ _  hw t_755 hO_742 zc_756 zc_757 zc_758 zc_759 zc_760 rg_761 (by omega) (fun j => by rw [zc_763, zs_62 j]) (fun j => by rw [zs_752 j, reZ_1 (fun h => f_702 ⟨by omega, (isR_lt rg_761).mpr h⟩) ((isR_eq rg_761).mp f_737.2)]) rrl_766 (lv_sub hl [0, 1, 2, 3] rfl)
        · have z_b_767 := trivial
          rw [rB_fr hG ha_x hO_53.fr (by decide +kernel)] at f_737
          refine lv_if_eq (tgt := 89) X.1 X.2.1 dX12_condition_82 (by decide) (fun c_768 => ?_) (fun c_768 => absurd c_768 (by decide))
          refine lv_iconst (v := 2) X.1 X.2.1 dX12_condition_89 (by decide) ?_
          refine r_iast X hw h_694 rfl (by rw [h_695]; exact z_ix z_33 (by omega) (by omega)) dX12_condition_90 (fun H locs hw => ?_)
          obtain ⟨S_769, eS_769⟩ : ∃ T, T = sA S_52 q_692 (upd (pA S_52 q_692) (Int32.toNatClampNeg (v_32)) (2)) := ⟨_, rfl⟩
          rw [← eS_769] at hw
          have hO_770 : Ok MCt S S_769 := hO_53.sA eS_769 h_694 (by decide +kernel) (uA_714 hO_53.1 h_694)
          have h_771 : pA S_769 q_692 (Int32.toNatClampNeg (v_32)) = 2 := tA_sAs eS_769
          have t_772 : pR S_769 1225 x = some q_692 := tR_sA eS_769 h_693
          have t_774 : pR S_52 1225 x = some q_692 := by have h := t_772; rw [eS_769, pR_sA] at h; exact h
          have zs_773 : ∀ j, zA S_769 x 1225 j = if j = (((4 * a1_z) + v_24.toInt)).toNat then 2 else zA S_52 x 1225 j := by have h := zA_sAs eS_769 t_774 ti_2; rw [z_nc z_33 (by omega)] at h; exact h
          have ce_775 : CeX S_52 S_769 x 1225 (((4 * a1_z) + v_24.toInt)).toNat (2) := CeX_mk hO_53.1 t_691 eS_769 h_694 (by decide) zs_773
          have zc_776 : zA S_41 x 1225 = zA S x 1225 := zA_fr hk_42.fr ha_x (ex3 (gQ_12_1225 hO.1 ha_x)) (by decide +kernel) (by decide +kernel)
          have zc_777 : zA S_52 x 1225 = zA S x 1225 := (zA_sAn eS_52 (ex3 (gQ_12_1225 hO_43.1 t_47)) h_50 rfl).trans zc_776
          have t_779 : pR S_52 1225 x = some q_692 := by have h := t_772; rw [eS_769, pR_sA] at h; exact h
          have zs_778 : ∀ j, zA S_769 x 1225 j = if j = (((4 * a1_z) + v_24.toInt)).toNat then 2 else zA S_52 x 1225 j := by have h := zA_sAs eS_769 t_779 ti_2; rw [z_nc z_33 (by omega)] at h; exact h
          have zs_780 : ∀ j, zA S_769 x 1225 j = if j = (((4 * a1_z) + v_24.toInt)).toNat then 2 else zA S x 1225 j := fun j => by rw [zs_778 j, zc_777]
          have t_781 : pI S_769 1230 x = v_1 := tI_sA eS_769 t_698
          have pz_782 : (pI S_769 1230 x).toInt = v_1.toInt := (congrArg Int32.toInt t_781).trans rfl
          have t_783 : At S_769 x 12 := tAt_sA eS_769 t_691
          have zc_784 : zA S_769 x 1223 = zA S x 1223 := (zA_sAn eS_769 (ex3 (gQ_12_1223 hO_53.1 t_691)) h_694 rfl).trans zc_67
          have zc_785 : zA S_769 x 1220 = zA S x 1220 := (zA_sAn eS_769 (ex3 (gQ_12_1220 hO_53.1 t_691)) h_694 rfl).trans zc_70
          have zc_786 : zA S_769 x 1221 = zA S x 1221 := (zA_sAn eS_769 (ex3 (gQ_12_1221 hO_53.1 t_691)) h_694 rfl).trans zc_73
          have zc_787 : zA S_769 x 1222 = zA S x 1222 := (zA_sAn eS_769 (ex3 (gQ_12_1222 hO_53.1 t_691)) h_694 rfl).trans zc_76
          have zc_788 : zA S_769 x 1226 = zA S x 1226 := (zA_sAn eS_769 (ex3 (gQ_12_1226 hO_53.1 t_691)) h_694 rfl).trans zc_79
          have rg_789 := RGB_sA rg_696 eS_769
          have zc_790 : zA S_41 x 1224 = zA S x 1224 := zA_fr hk_42.fr ha_x (ex3 (gQ_12_1224 hO.1 ha_x)) (by decide +kernel) (by decide +kernel)
          have zc_791 : zA S_769 x 1224 = zA S_52 x 1224 := zA_sAn eS_769 (ex3 (gQ_12_1224 hO_53.1 t_691)) h_694 rfl
          have rrl_792 : RrL S S_41 x := RrL_to (RrL_rf S x) (rg_zA hO.1 ha_x hk_42.fr (by decide +kernel)) (zA_fr hk_42.fr ha_x (ex3 (gQ_12_1220 hO.1 ha_x)) (by decide +kernel) (by decide +kernel))
          have rrl_793 : RrL S S_52 x := RrL_ce rrl_792 ce_58 (zA_sAn eS_52 (ex3 (gQ_12_1220 hO_43.1 t_47)) h_50 rfl) (by omega)
          have rrl_794 : RrL S S_769 x := RrL_ce rrl_793 ce_775 (zA_sAn eS_769 (ex3 (gQ_12_1220 hO_53.1 t_691)) h_694 rfl) (by omega)
          exact L_63 _ _ _ _  hw t_783 hO_770 zc_784 zc_785 zc_786 zc_787 zc_788 rg_789 (by omega) (fun j => by rw [zc_791, zs_62 j]) (fun j => by rw [zs_780 j, reZ_2 (fun h => f_702 ⟨by omega, (isR_lt rg_789).mpr h⟩) (fun h => f_737 ⟨by omega, (isR_eq rg_789).mpr h⟩)]) rrl_794 (lv_sub hl [0, 1, 2, 3] rfl)
    · have z_b_795 := trivial
      have k_796 : v_24.toInt = 4 := z_eq rfl ti_4 c_27
      refine lv_aload_n X.1 X.2.1 dX12_condition_28 rfl (lv_at hl 1 rfl) ?_
      refine lv_iconst (v := 2) X.1 X.2.1 dX12_condition_29 (by decide) ?_
      have pz_797 : (pI S 1230 x).toInt = v_1.toInt := (congrArg Int32.toInt ev_1).trans rfl
      refine k_i (rm := { frames := 1, cells := 0, slots := 0, locals := 48 }) (av := [.ref x, .int 2]) X hw (va_runV (As := [.int 2]) (rest := []) (cfix X) (k_X12_wrong2 l G cy κ S _ x (2) (2) hO.1 ha_x ti_2) (cwV 1 X.2.2.2.1 gX12_condition_X12_wrong rfl rfl rfl (by decide +kernel) ⟨Nat.le_of_ble_eq_true rfl, Nat.le_of_ble_eq_true rfl⟩) (pre_V X hw _ ha_x rfl (by decide) rfl) rfl rfl hl.1 rfl (lv_room (Nat.le_of_ble_eq_true rfl)) dX12_condition_30 ⟨Nat.le_of_ble_eq_true rfl, Nat.le_of_ble_eq_true rfl⟩) 0 0 (Nat.le_of_ble_eq_true rfl) (Nat.le_of_ble_eq_true rfl) (fun rr_798 S_799 H locs hp hw hfr hnw => ?_)
      obtain ⟨hk_800, hp⟩ := hp
      have hO_801 : Ok MCt S S_799 := hO.call hk_800 (by decide +kernel)
      rcases hp with ⟨f_802, er_803⟩ | ⟨f_802, er_803⟩ <;> subst er_803
      · have z_b_804 := trivial
        exact f_802.elim
      · have z_b_805 := trivial
        obtain ⟨v_807, ev_807⟩ : ∃ v, pI S_799 1230 x = v := ⟨_, rfl⟩
        have rg_809 := And.intro (z_lo v_807) (z_hi v_807)
        have pz_810 : (pI S_799 1230 x).toInt = v_807.toInt := by rw [ev_807]
        have pz_811 : (pI S_799 1230 x).toInt = v_807.toInt := (congrArg Int32.toInt ev_807).trans rfl
        have rrl_812 : RrL S S_799 x := RrL_to (RrL_rf S x) (rg_zA hO.1 ha_x hk_800.fr (by decide +kernel)) (zA_fr hk_800.fr ha_x (ex3 (gQ_12_1220 hO.1 ha_x)) (by decide +kernel) (by decide +kernel))
        rw [hQQ]
        exact ret_z X hw hr hlocks (Nat.le_of_ble_eq_true rfl) (Nat.le_of_ble_eq_true rfl) (by decide) ⟨hO_801, Or.inr ⟨⟨Or.inr (Or.inl ⟨by omega, by omega, by omega⟩), rrl_812⟩, rfl⟩⟩ dX12_condition_33
  · have z_b_813 := trivial
    have k_814 : rr_12.toInt = (-1) := z_eq rfl ti_m1 c_17
    refine lv_aload_n X.1 X.2.1 dX12_condition_12 rfl (lv_at hl 1 rfl) ?_
    refine lv_iconst (v := 1) X.1 X.2.1 dX12_condition_13 (by decide) ?_
    have pz_815 : (pI S 1230 x).toInt = v_1.toInt := (congrArg Int32.toInt ev_1).trans rfl
    refine k_i (rm := { frames := 1, cells := 0, slots := 0, locals := 48 }) (av := [.ref x, .int 1]) X hw (va_runV (As := [.int 1]) (rest := []) (cfix X) (k_X12_wrong2 l G cy κ S _ x (1) (1) hO.1 ha_x ti_1) (cwV 1 X.2.2.2.1 gX12_condition_X12_wrong rfl rfl rfl (by decide +kernel) ⟨Nat.le_of_ble_eq_true rfl, Nat.le_of_ble_eq_true rfl⟩) (pre_V X hw _ ha_x rfl (by decide) rfl) rfl rfl hl.1 rfl (lv_room (Nat.le_of_ble_eq_true rfl)) dX12_condition_14 ⟨Nat.le_of_ble_eq_true rfl, Nat.le_of_ble_eq_true rfl⟩) 0 0 (Nat.le_of_ble_eq_true rfl) (Nat.le_of_ble_eq_true rfl) (fun rr_816 S_817 H locs hp hw hfr hnw => ?_)
    obtain ⟨hk_818, hp⟩ := hp
    have hO_819 : Ok MCt S S_817 := hO.call hk_818 (by decide +kernel)
    rcases hp with ⟨f_820, er_821⟩ | ⟨f_820, er_821⟩ <;> subst er_821
    · have z_b_822 := trivial
      exact f_820.elim
    · have z_b_823 := trivial
      obtain ⟨v_825, ev_825⟩ : ∃ v, pI S_817 1230 x = v := ⟨_, rfl⟩
      have rg_827 := And.intro (z_lo v_825) (z_hi v_825)
      have pz_828 : (pI S_817 1230 x).toInt = v_825.toInt := by rw [ev_825]
      have pz_829 : (pI S_817 1230 x).toInt = v_825.toInt := (congrArg Int32.toInt ev_825).trans rfl
      have rrl_830 : RrL S S_817 x := RrL_to (RrL_rf S x) (rg_zA hO.1 ha_x hk_818.fr (by decide +kernel)) (zA_fr hk_818.fr ha_x (ex3 (gQ_12_1220 hO.1 ha_x)) (by decide +kernel) (by decide +kernel))
      rw [hQQ]
      exact ret_z X hw hr hlocks (Nat.le_of_ble_eq_true rfl) (Nat.le_of_ble_eq_true rfl) (by decide) ⟨hO_819, Or.inr ⟨⟨Or.inl ⟨by omega, by omega⟩, rrl_830⟩, rfl⟩⟩ dX12_condition_17
