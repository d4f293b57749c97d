/-! ===== a metre ===== -/
theorem fn_nu {S : PS} {x mo c : Nat} {ν : Nat → Nat} {q : Int32} (hG : GX S) (hx : At S x 11) (hm : At S mo 12) (ct : CT S x mo) (th : mA S mo 1210 = thinF) (hN : NuP S x ν) (hc : DC S x c) (q0 : 0 ≤ q.toInt) (q1 : q.toInt < lenZ S mo ((ν c : Nat) : Int)) : Int32.ofInt (fnZ S mo ((ν c : Nat) : Int) q.toInt) = fvP S c q := by
  obtain ⟨l, i, k1, k2, k3⟩ := hc
  have b1 := il60 hG hx l
  have b2 := gI_11_1102 hG hx
  obtain ⟨c', c1, -, -, c4, c5, c6, c7, c8⟩ := CT_get (l := (l : Int)) (i := (i : Int)) ct (by omega) k1 (by omega) k2 (by omega)
  rw [show (60 * (l : Int) + (i : Int)).toNat = 60 * l + i by omega, k3] at c1
  cases c1
  have eν : ((ν c : Nat) : Int) = 60 * (l : Int) + (i : Int) := by rw [hN l i c k1 k2 k3]; omega
  have el : Int32.ofInt (lenZ S mo ((ν c : Nat) : Int)) = pI S 2 c := by
    rw [eν, ← c5]
    exact Int32.ofInt_toInt _
  have e6 : ((ν c : Nat) : Int) / 60 = (l : Int) := by omega
  have e7 : ((ν c : Nat) : Int) % 60 = (i : Int) := by omega
  have hE := (ER_is (p := 0) hG hm th (by decide)).1 (ν c) (by omega)
  have h1 := (hE.2.1 q q0 q1).1
  rw [← h1, Int32.ofInt_toInt]
  show fcI (bsI (mA S mo 1203 (((ν c : Nat) : Int) / 60).toNat) (mA S mo 1204 (((ν c : Nat) : Int) / 60).toNat) (Int32.ofInt (((ν c : Nat) : Int) % 60))) (Int32.ofInt (lenZ S mo ((ν c : Nat) : Int))) q = fcI (pI S 8 c) (pI S 2 c) q
  rw [el, e6, e7, ← c7]
theorem mt_eq {S : PS} {x mo m : Nat} {ν : Nat → Nat} {t : Mt} (hG : GX S) (hx : At S x 11) (hm : At S mo 12) (ct : CT S x mo) (th : mA S mo 1210 = thinF) (hMI : MI S mo) (hN : NuP S x ν) (hD : ∀ z, z ∈ t → DC S x z.1) (hm2 : m < 13200) (hR : MtR S mo m (mtN ν t)) : mtZ S mo (mtN ν t) = mtS S t := by
  unfold mtZ mtS mtN
  rw [List.foldl_map]
  refine flx (fun b z hz => ?_)
  show b + Int32.ofInt (fnZ S mo ((ν z.1 : Nat) : Int) z.2.toInt) = b + fvP S z.1 z.2
  obtain ⟨k, hk⟩ := List.mem_iff_getElem?.mp hz
  have hw := MtR_w hG hm hR
  have hkl := (List.getElem?_eq_some_iff.mp hk).1
  have hl2 : (mtN ν t).length = t.length := List.length_map ..
  obtain ⟨a1, a2, a3⟩ := hR.2 k (ν z.1, z.2) (by show (t.map (fun u => (ν u.1, u.2)))[k]? = _; rw [List.getElem?_map, hk]; rfl)
  have h6 := MI_6 hMI (j := ((12 * m + k : Nat) : Int)) (by omega) (by omega)
  rw [Int.toNat_natCast, a1] at h6
  have a1' : (1000 * (((ν z.1, z.2) : Nat × Int32).1 : Int) + ((ν z.1, z.2) : Nat × Int32).2.toInt) = 1000 * ((ν z.1 : Nat) : Int) + z.2.toInt := rfl
  rw [a1'] at h6
  have hq0 : 0 ≤ z.2.toInt := a2
  have hq1 : z.2.toInt < 1000 := a3
  have hdv : (1000 * ((ν z.1 : Nat) : Int) + z.2.toInt) / 1000 = ((ν z.1 : Nat) : Int) := by omega
  have hmd : (1000 * ((ν z.1 : Nat) : Int) + z.2.toInt) % 1000 = z.2.toInt := by omega
  rw [hdv, hmd] at h6
  have hge := lenZ_ge S mo ((ν z.1 : Nat) : Int)
  rw [fn_nu hG hx hm ct th hN (hD z hz) hq0 (by omega)]
