/-! ===== a metre ===== -/
theorem fn_nu {S : PS} {x mo c : Nat} {ν : Nat → Nat} {q : Int32} (hG : GX S) (hx : At S x 11) (hm : At S mo 12) (ct : CT S x mo) (th : mA S mo 1210 = thinF) (hN : NuP S x ν) (hc : DC S x c) (q0 : 0 ≤ q.toInt) (q1 : q.toInt < lenZ S mo ((ν c : Nat) : Int)) : Int32.ofInt (fnZ S mo ((ν c : Nat) : Int) q.toInt) = fvP S c q := by
  obtain ⟨l, i, k1, k2, k3⟩ := hc
  have b1 := il60 hG hx l
  have b2 := gI_11_1102 hG hx
  obtain ⟨c', c1, -, -, c4, c5, c6, c7, c8⟩ := CT_get (l := (l : Int)) (i := (i : Int)) ct (by omega) k1 (by omega) k2 (by omega)
  rw [show (60 * (l : Int) + (i : Int)).toNat = 60 * l + i by omega, k3] at c1
  cases c1
  have eν : ((ν c : Nat) : Int) = 60 * (l : Int) + (i : Int) := by rw [hN l i c k1 k2 k3]; omega
  have el : Int32.ofInt (lenZ S mo ((ν c : Nat) : Int)) = pI S 2 c := by
    rw [eν, ← c5]
    exact Int32.ofInt_toInt _
  have e6 : ((ν c : Nat) : Int) / 60 = (l : Int) := by omega
  have e7 : ((ν c : Nat) : Int) % 60 = (i : Int) := by omega
  have hE := (ER_is (p := 0) hG hm th (by decide)).1 (ν c) (by omega)
  have h1 := (hE.2.1 q q0 q1).1
  rw [← h1, Int32.ofInt_toInt]
  show fcI (bsI (mA S mo 1203 (((ν c : Nat) : Int) / 60).toNat) (mA S mo 1204 (((ν c : Nat) : Int) / 60).toNat) (Int32.ofInt (((ν c : Nat) : Int) % 60))) (Int32.ofInt (lenZ S mo ((ν c : Nat) : Int))) q = fcI (pI S 8 c) (pI S 2 c) q
  rw [el, e6, e7, ← c7]
theorem mt_eq {S : PS} {x mo m : Nat} {ν : Nat → Nat} {t : Mt} (hG : GX S) (hx : At S x 11) (hm : At S mo 12) (ct : CT S x mo) (th : mA S mo 1210 = thinF) (hMI : MI S mo) (hN : NuP S x ν) (hD : ∀ z, z ∈ t → DC S x z.1) (hm2 : m < 13200) (hR : MtR S mo m (mtN ν t)) : mtZ S mo (mtN ν t) = mtS S t := by
  unfold mtZ mtS mtN
  rw [List.foldl_map]
  refine flx (fun b z hz => ?_)
  show b + Int32.ofInt (fnZ S mo ((ν z.1 : Nat) : Int) z.2.toInt) = b + fvP S z.1 z.2
  obtain ⟨k, hk⟩ := List.mem_iff_getElem?.mp hz
  have hw := MtR_w hG hm hR
  have hkl := (List.getElem?_eq_some_iff.mp hk).1
  have hl2 : (mtN ν t).length = t.length := List.length_map ..
  obtain ⟨a1, a2, a3⟩ := hR.2 k (ν z.1, z.2) (by show (t.map (fun u => (ν u.1, u.2)))[k]? = _; rw [List.getElem?_map, hk]; rfl)
  have h6 := MI_6 hMI (j := ((12 * m + k : Nat) : Int)) (by omega) (by omega)
  rw [Int.toNat_natCast, a1] at h6
  have a1' : (1000 * (((ν z.1, z.2) : Nat × Int32).1 : Int) + ((ν z.1, z.2) : Nat × Int32).2.toInt) = 1000 * ((ν z.1 : Nat) : Int) + z.2.toInt := rfl
  rw [a1'] at h6
  have hq0 : 0 ≤ z.2.toInt := a2
  have hq1 : z.2.toInt < 1000 := a3
  have hdv : (1000 * ((ν z.1 : Nat) : Int) + z.2.toInt) / 1000 = ((ν z.1 : Nat) : Int) := by omega
  have hmd : (1000 * ((ν z.1 : Nat) : Int) + z.2.toInt) % 1000 = z.2.toInt := by omega
  rw [hdv, hmd] at h6
  have hge := lenZ_ge S mo ((ν z.1 : Nat) : Int)
  rw [fn_nu hG hx hm ct th hN (hD z hz) hq0 (by omega)]
/-! ===== a fault is told, with its words ===== -/
def MFF : List Nat := eFA ++ Mfa
theorem sk_len {S : PS} {x mo K : Nat} {ν : Nat → Nat} {sk : List Sk} (hw : TPw S x mo ν K sk) : (pI S 800 K).toInt = (pI S 1238 mo).toInt := by
  rw [hw.2.2.1.1.1, hw.2.2.1.2.1.1, List.length_map]
theorem TX_fault {S1 S2 S3 : PS} {x mo K : Nat} {ν : Nat → Nat} {sk : List Sk} {k a : Int} {r1 r2 : Int32} (hG1 : GX S1) (hG2 : GX S2) (hx : At S1 x 11) (hm : At S1 mo 12) (hF1 : Fr eFA S1 S2) (hF2 : Fr Mfa S2 S3) (hd : ∀ K, pR S1 1107 x = some K → pI S1 801 K = pI S1 1245 mo) (hw : TPw S1 x mo ν K sk)
    (ha : ((((0 ≤ k ∧ k < (pI S1 800 K).toInt) ∧ 1 ≤ a ∧ a ≤ 10000 ∧ (pI S1 806 K).toInt < 40) ∧ FlC S1 S2 K k a) ∧ r1 = 1) ∨ (((SN S1 K → ¬ ((0 ≤ k ∧ k < (pI S1 800 K).toInt) ∧ 1 ≤ a ∧ a ≤ 10000 ∧ (pI S1 806 K).toInt < 40)) ∧ S2 = S1) ∧ r1 = 0)) (hb : ((((0 ≤ k ∧ k < (pI S2 1238 mo).toInt) ∧ 1 ≤ a ∧ a ≤ 10000 ∧ (pI S2 1262 mo).toInt < 40) ∧ FlR S2 S3 mo k a) ∧ r2 = 1) ∨ ((¬ ((0 ≤ k ∧ k < (pI S2 1238 mo).toInt) ∧ 1 ≤ a ∧ a ≤ 10000 ∧ (pI S2 1262 mo).toInt < 40) ∧ S3 = sI S2 1200 mo 0) ∧ r2 = 0)) (h : TX S1 x mo) : TX S3 x mo ∧ r1 = r2 := by
  have hK := st_at hG1 hx hw.2.1
  have hK2 := hF1.at hK
  have hm2 := hF1.at hm
  have l0 := sk_len hw
  have x0 : EXfl S1 x K mo := hw.2.2.1.2.2.1
  have e8 : pI S2 1238 mo = pI S1 1238 mo := hF1.I' (by decide +kernel) hm rfl
  have e2 : pI S2 1262 mo = pI S1 1262 mo := hF1.I' (by decide +kernel) hm rfl
  have e6 : pI S3 806 K = pI S2 806 K := hF2.I' (by decide +kernel) hK2 rfl
  rw [e8, e2, ← l0, ← x0.1] at hb
  rcases ha with ⟨⟨a1, a2⟩, a3⟩ | ⟨⟨a1, a2⟩, a3⟩ <;> rcases hb with ⟨⟨b1, b2⟩, b3⟩ | ⟨⟨b1, b2⟩, b3⟩
  · have hF : Fr MFF S1 S3 := (hF1.mono (by decide +kernel)).trans (hF2.mono (by decide +kernel))
    obtain ⟨A0, A9, A10, A11⟩ := a2
    obtain ⟨B0, B9, B10, B11⟩ := b2
    have k8 : pI S3 800 K = pI S1 800 K := hF.I' (g := 800) (by decide +kernel) hK rfl
    have e5 : pI S2 1245 mo = pI S1 801 K := (hF1.I' (g := 1245) (by decide +kernel) hm rfl).trans (hd K hw.2.1).symm
    have f9 : zA S3 K 809 = zA S2 K 809 := zA_frc hF2 hK2 (ex3 (gQ_8_809 hG2 hK2)) (by decide +kernel) (by decide +kernel)
    have f10 : zA S3 K 810 = zA S2 K 810 := zA_frc hF2 hK2 (ex3 (gQ_8_810 hG2 hK2)) (by decide +kernel) (by decide +kernel)
    have f11 : zA S3 K 811 = zA S2 K 811 := zA_frc hF2 hK2 (ex3 (gQ_8_811 hG2 hK2)) (by decide +kernel) (by decide +kernel)
    have g3 : zA S2 mo 1263 = zA S1 mo 1263 := zA_fr hF1 hm (ex3 (gQ_12_1263 hG1 hm)) (by decide +kernel) (by decide +kernel)
    have g4 : zA S2 mo 1264 = zA S1 mo 1264 := zA_fr hF1 hm (ex3 (gQ_12_1264 hG1 hm)) (by decide +kernel) (by decide +kernel)
    have g5 : zA S2 mo 1265 = zA S1 mo 1265 := zA_fr hF1 hm (ex3 (gQ_12_1265 hG1 hm)) (by decide +kernel) (by decide +kernel)
    have n2 : (pI S2 1262 mo).toInt = (pI S1 806 K).toInt := by rw [e2]; exact x0.1.symm
    rw [n2] at B0 B9 B10 B11
    rw [e5] at B10
    have hE : EXfl S3 x K mo := by
      refine ⟨by rw [e6, A0, B0], fun f hf => ?_⟩
      rw [e6, A0] at hf
      have A9 := A9 f
      have A10 := A10 f
      have A11 := A11 f
      have B9 := B9 f
      have B10 := B10 f
      have B11 := B11 f
      rw [f9, f10, f11, k8]
      by_cases z : f = (pI S1 806 K).toInt.toNat
      · rw [if_pos z] at A9 A10 A11 B9 B10 B11
        rw [A9, A10, A11, B9, B10, B11]
        exact ⟨⟨rfl, rfl, rfl⟩, a1.1.1, a1.1.2⟩
      · rw [if_neg z] at A9 A10 A11 B9 B10 B11
        rw [A9, A10, A11, B9, B10, B11, g3, g4, g5]
        exact x0.2 f (by omega)
    exact ⟨⟨TXs_fr hG1 hF hx hm (by decide +kernel) h.1, TXt_fr hG1 hF hx hm (by decide +kernel) h.2.1, ν, K, sk, TPw_fx hG1 hx hm hF (by decide +kernel) (ExT_fl hG1 hx hK hm hF (by decide +kernel) hE hw.2.2.1.2.2) hw⟩, a3.trans b3.symm⟩
  · exact absurd a1 b1
  · exact absurd b1 (a1 (SN_of hw.2.2.1.1))
  · subst a2
    exact ⟨TX_fr (M := [1200]) hG1 (by rw [b2]; exact Fr_sI (by decide)) hx hm (by decide +kernel) h, a3.trans b3.symm⟩
