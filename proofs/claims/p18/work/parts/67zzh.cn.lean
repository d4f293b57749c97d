noncomputable def siZ (S : PS) (x : Nat) (g : List Mt) : Int32 := g.foldl (fun a m => a + mtZ S x m) 0
theorem siZ_s {S : PS} {x k : Nat} {g : List Mt} {t : Mt} (h : g[k]? = some t) : siZ S x (g.take (k + 1)) = siZ S x (g.take k) + mtZ S x t := by
  unfold siZ
  rw [List.take_succ, h, List.foldl_append]
  rfl
theorem siZ_to {S T : PS} {x : Nat} (h : fnZ T x = fnZ S x) : siZ T x = siZ S x := by
  funext g
  unfold siZ
  congr 1
  funext a m
  rw [mtZ_eq h]
/-! ===== waste, the reference ===== -/
def WsT (S T : PS) (x : Nat) (E : En) (A B : Pt) : Prop := pI T 1246 x + wsE E (qws A) = pI S 1246 x + wsE E (qws B)
theorem WsT_rf (S : PS) (x : Nat) (E : En) (A : Pt) : WsT S S x E A A := rfl
theorem WsT_tr {S T U : PS} {x : Nat} {E : En} {A B C : Pt} (h : WsT S T x E A B) (h' : WsT T U x E B C) : WsT S U x E A C := cn_tr h h'
theorem WsT_f {S T U : PS} {x : Nat} {E : En} {A B : Pt} (h : WsT S T x E A B) (e : pI U 1246 x = pI T 1246 x) : WsT S U x E A B := by
  unfold WsT at h ⊢
  rw [e]
  exact h
theorem WsT_q {S T : PS} {x : Nat} {E : En} {A B C : Pt} (h : WsT S T x E A B) (e : qws C = qws B) : WsT S T x E A C := by
  unfold WsT at h ⊢
  rw [e]
  exact h
theorem WsT_e {S T : PS} {x : Nat} {E : En} {A B C : Pt} (h : WsT S T x E A B) (e : C = B) : WsT S T x E A C := by
  rw [e]
  exact h
theorem fet_ws {A : Pt} : qws (fetF A) = qws A := by
  cases e : ql A with
  | nil => exact (congrArg qws (fetF_n e)).trans rfl
  | cons c t => exact (congrArg qws (fetF_c e)).trans rfl
theorem sea_ws {E : En} {A : Pt} : qws (seaF E A) = qws A := by
  by_cases h : ql A = []
  · exact congrArg qws (seaF_n h)
  · by_cases h2 : (qse A + 1).toInt < (efind E).toInt
    · exact (congrArg qws (seaF_w h h2)).trans rfl
    · exact (congrArg qws (seaF_f h h2)).trans (fet_ws.trans rfl)
theorem cas_ws {A : Pt} : qws (casF A) = qws A := by
  cases e : qb A with
  | nil => exact congrArg qws (casF_n (Or.inl e))
  | cons c t =>
    by_cases h : (qe A).length < 12
    · exact (congrArg qws (casF_c e h)).trans rfl
    · exact congrArg qws (casF_n (Or.inr h))
theorem dro_ws {E : En} {A : Pt} : qws (droF E A) = qws A := by
  by_cases h0 : 0 ≤ thiF E A ∧ thiF E A < ((qe A).length : Int)
  · obtain ⟨c, hc⟩ : ∃ c, (qe A)[(thiF E A).toNat]? = some c := ⟨_, List.getElem?_eq_getElem (by omega)⟩
    exact (congrArg qws (droF_c h0.1 hc)).trans rfl
  · exact congrArg qws (droF_n h0)
theorem fnd_ws {A : Pt} : qws (fndF A) = qws A := by
  by_cases h : ql A = []
  · exact congrArg qws (fndF_n h)
  · exact (congrArg qws (fndF_c h)).trans fet_ws
theorem thr_ws {A : Pt} : qws (throF A) = qws A := by
  cases e : (qb A)[(qb A).length - 1]? with
  | none =>
    have h : throF A = A := by
      unfold throF
      rw [e]
    exact congrArg qws h
  | some c => exact (congrArg qws (throF_c e)).trans rfl
theorem act_ws {E : En} {a m : Int32} {A : Pt} (h : a ≠ 4) : qws (actF E a m A) = qws A := by
  unfold actF
  by_cases h0 : a = 0
  · rw [if_pos h0]
    exact cas_ws
  rw [if_neg h0]
  by_cases h1 : a = 1
  · rw [if_pos h1]
    exact dro_ws
  rw [if_neg h1]
  by_cases h2 : a = 2
  · rw [if_pos h2]
    exact fnd_ws
  rw [if_neg h2]
  by_cases h3 : a = 3
  · rw [if_pos h3]
    exact thr_ws
  rw [if_neg h3, if_neg h]
  rfl
theorem endK_ws {E : En} {A : Pt} {c : Nat} : qws (endK E A c) = qws A := by
  by_cases h2 : sdV E A c = 2
  · exact (congrArg qws (endK_2 h2)).trans rfl
  · by_cases h3 : sdV E A c = 3
    · exact (congrArg qws (endK_3 h3)).trans rfl
    · exact (congrArg qws (endK_n h2 h3)).trans rfl
theorem fol_ws {E : En} : ∀ {L : List Nat} {A : Pt}, qws (folF E L A) = qws A
  | [], _ => rfl
  | c :: t, A => by
    show qws (folF E t (endK E A c)) = qws A
    exact fol_ws.trans endK_ws
theorem z1236 {S : PS} {x : Nat} (hG : GX S) (hx : At S x 12) (j : Nat) : 0 ≤ zA S x 1236 j ∧ zA S x 1236 j ≤ 599999 := by
  obtain ⟨q, k1, k2, -⟩ := gQ_12_1236 hG hx
  rw [zA_eq, mA_eq k1]
  exact gE_934 hG k2 j
theorem mt_ZE {S : PS} {x m : Nat} {p : Int} {E : En} {t : Mt} (hG : GX S) (hx : At S x 12) (hMI : MI S x) (hE : EnR S x p E) (hm2 : m < 13200) (hR : MtR S x m t) : mtZ S x t = mtE E t := by
  unfold mtZ mtE
  refine flx (fun b z hz => ?_)
  show b + Int32.ofInt (fnZ S x (z.1 : Int) z.2.toInt) = b + efn E z.1 z.2
  obtain ⟨k, hk⟩ := List.mem_iff_getElem?.mp hz
  have hw := MtR_w hG hx hR
  have hkl := (List.getElem?_eq_some_iff.mp hk).1
  obtain ⟨a1, a2, a3⟩ := hR.2 k z hk
  have h6 := MI_6 hMI (j := ((12 * m + k : Nat) : Int)) (by omega) (by omega)
  have hr := z1236 hG hx (12 * m + k)
  rw [a1] at hr
  rw [Int.toNat_natCast, a1] at h6
  have hdv : (1000 * (z.1 : Int) + z.2.toInt) / 1000 = (z.1 : Int) := by omega
  have hmd : (1000 * (z.1 : Int) + z.2.toInt) % 1000 = z.2.toInt := by omega
  rw [hdv, hmd] at h6
  have hge := lenZ_ge S x (z.1 : Int)
  have h1 := ((hE.1 z.1 (by omega)).2.1 z.2 a2 (by omega)).1
  rw [← h1, Int32.ofInt_toInt]
theorem si_ZE {S : PS} {x m : Nat} {p : Int} {E : En} {g : List Mt} (hG : GX S) (hx : At S x 12) (hMI : MI S x) (hE : EnR S x p E) (hm2 : m + g.length ≤ 13200) (hR : ∀ (j : Nat) (t : Mt), g[j]? = some t → MtR S x (m + j) t) : siZ S x g = siE E g := by
  unfold siZ siE
  refine flx (fun b t ht => ?_)
  obtain ⟨j, hj⟩ := List.mem_iff_getElem?.mp ht
  have := (List.getElem?_eq_some_iff.mp hj).1
  show b + mtZ S x t = b + mtE E t
  rw [mt_ZE hG hx hMI hE (by omega) (hR j t hj)]
/-- a cut: what is too much is waste -/
def CuW (S T : PS) (x : Nat) (p : Int) (g : List Mt) : Prop := ((zA S x 1237 p.toNat = 0 ∨ (pI S 1238 x).toInt < 40) → pI T 1246 x = pI S 1246 x) ∧ (zA S x 1237 p.toNat ≠ 0 → ¬ (pI S 1238 x).toInt < 40 → pI T 1246 x = pI S 1246 x + siZ S x g)
theorem WsT_cut {S T : PS} {x : Nat} {p : Int} {A : Pt} {E : En} (hG : GX S) (hx : At S x 12) (hp0 : 0 ≤ p) (hp3 : p ≤ 3) (hMI : MI S x) (hE : EnR S x p E) (hg : GrW S x p.toNat (qg A)) (hl : (qg A).length ≤ 300) (hk : SkW S x (qsk A)) (hc : CuW S T x p (qg A)) : WsT S T x E A (cutF E A) := by
  unfold WsT
  have k1 := hk.1
  have g1 := hg.1
  by_cases h : qg A = []
  · rw [cutF_n h, hc.1 (Or.inl (by rw [g1, h]; rfl))]
  · have hl1 : (qg A).length ≠ 0 := fun z => h (List.eq_nil_of_length_eq_zero z)
    by_cases h2 : (qsk A).length < 40
    · rw [cutF_k h h2, hc.1 (Or.inr (by omega))]
      rfl
    · have e := hc.2 (by omega) (by omega)
      rw [si_ZE hG hx hMI hE (m := 12000 + 300 * p.toNat) (by omega) hg.2] at e
      rw [cutF_w h h2, e]
      show _ = pI S 1246 x + wsE E (qws A ++ [qg A])
      rw [show wsE E (qws A ++ [qg A]) = wsE E (qws A) + siE E (qg A) from fo_app, i3, Int32.add_assoc]
