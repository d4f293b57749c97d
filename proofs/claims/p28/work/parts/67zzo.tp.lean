/-! ===== a mix ===== -/
theorem mtD_get {S : PS} {g : List Mt} {k : Nat} {t : Mt} (h : g[k]? = some t) : mtD S g k = mtS S t := by
  unfold mtD
  rw [List.getD_eq_getElem?_getD, h]
  rfl
theorem mtE_eq {S : PS} {x mo K k : Nat} {ν : Nat → Nat} {sk : List Sk} {s : Sk} (hG : GX S) (hx : At S x 11) (hm : At S mo 12) (ct : CT S x mo) (th : mA S mo 1210 = thinF) (hMI : MI S mo) (hw : TPw S x mo ν K sk) (hk : sk[k]? = some s) : ∀ j, j < s.2.2.2.length → mtE S mo (skN ν s).2.2.2 j = mtD S s.2.2.2 j := fun j hj => by
  have h1' : (sk.map (skN ν))[k]? = some (skN ν s) := by rw [List.getElem?_map, hk]; rfl
  obtain ⟨q, hq, g, f, j2, -, -, hv, -⟩ := hw.2.2.1.1.2 _ _ hk
  obtain ⟨-, c2, c3⟩ := hw.2.2.1.2.1.2 _ _ h1'
  have z1 := z1239 hG hm k
  have z2 := z1239 hG hm (k + 1)
  obtain ⟨t, ht⟩ : ∃ t, s.2.2.2[j]? = some t := ⟨_, List.getElem?_eq_getElem hj⟩
  have ht' : (skN ν s).2.2.2[j]? = some (mtN ν t) := by
    show (s.2.2.2.map (mtN ν))[j]? = _
    rw [List.getElem?_map, ht]
    rfl
  have hlt := (List.getElem?_eq_some_iff.mp ht').1
  rw [mtE_of ht', mt_eq hG hx hm ct th hMI hw.1 (fun z hz => (hv.2.2.1 t (List.mem_of_getElem? ht) z hz).1) (by omega) (c3 _ _ ht')]
  exact (mtD_get ht).symm
theorem wd_of {S : PS} {x mo K : Nat} {ν : Nat → Nat} {sk : List Sk} (hG : GX S) (hm : At S mo 12) (hw : TPw S x mo ν K sk) : WdB sk := fun s hs m hms => by
  obtain ⟨k, hk⟩ := List.mem_iff_getElem?.mp hs
  obtain ⟨j, hj⟩ := List.mem_iff_getElem?.mp hms
  have h1' : (sk.map (skN ν))[k]? = some (skN ν s) := by rw [List.getElem?_map, hk]; rfl
  have ht' : (skN ν s).2.2.2[j]? = some (mtN ν m) := by
    show (s.2.2.2.map (mtN ν))[j]? = _
    rw [List.getElem?_map, hj]
    rfl
  have h := MtR_w hG hm ((hw.2.2.1.2.1.2 _ _ h1').2.2 j _ ht')
  have e : (mtN ν m).length = m.length := List.length_map ..
  omega
theorem ne_of {S : PS} {x mo K : Nat} {ν : Nat → Nat} {sk : List Sk} (hw : TPw S x mo ν K sk) (he : EXmx S x K mo) : NeB sk ∧ NeB (sk.map (skN ν)) := by
  have h1 : NeB sk := fun s hs => by
    obtain ⟨k, hk⟩ := List.mem_iff_getElem?.mp hs
    obtain ⟨q, hq, g, f, j2, -, -, hv, -⟩ := hw.2.2.1.1.2 _ _ hk
    have l := hw.2.2.1.1.1
    have hl := (List.getElem?_eq_some_iff.mp hk).1
    have b := (he.1 k q (by omega) hq).2 g j2
    have e := hv.1
    omega
  refine ⟨h1, fun s hs => ?_⟩
  obtain ⟨s0, h0, e⟩ := List.mem_map.mp hs
  subst e
  have e : (skN ν s0).2.2.2.length = s0.2.2.2.length := List.length_map ..
  have := h1 s0 h0
  omega
theorem lo_eq {S : PS} {x mo K k : Nat} {ν : Nat → Nat} {sk : List Sk} {s : Sk} (hG : GX S) (hx : At S x 11) (hm : At S mo 12) (ct : CT S x mo) (th : mA S mo 1210 = thinF) (hMI : MI S mo) (hw : TPw S x mo ν K sk) (hk : sk[k]? = some s) (h0 : 0 < (s.2.2.2.length : Int)) : loZ S mo (skN ν s).2.2.2 = loG S s.2.2.2 ∧ hiZ S mo (skN ν s).2.2.2 = hiG S s.2.2.2 := by
  have e := mtE_eq hG hx hm ct th hMI hw hk
  have hl : (skN ν s).2.2.2.length = s.2.2.2.length := List.length_map ..
  obtain ⟨t, ht⟩ : ∃ t, s.2.2.2[0]? = some t := ⟨_, List.getElem?_eq_getElem (by omega)⟩
  have b := (sk_mt hG (st_at hG hx hw.2.1) hw.2.2.1.1 (wd_of hG hm hw) hk).2 t (List.mem_of_getElem? ht)
  obtain ⟨n, hn⟩ : ∃ n, s.2.2.2.length = n + 1 := ⟨s.2.2.2.length - 1, by omega⟩
  unfold loZ hiZ loG hiG
  rw [hl, hn, mi_lo, ma_hi (by rw [e 0 (by omega), mtD_get ht]; exact b.1)]
  exact ⟨loN_eq _ (fun j hj => e j (by omega)), hiN_eq _ (fun j hj => e j (by omega))⟩
theorem of_eq {S : PS} {x mo K : Nat} {ν : Nat → Nat} {sk : List Sk} {a b : Int} (hG : GX S) (hx : At S x 11) (hm : At S mo 12) (ct : CT S x mo) (th : mA S mo 1210 = thinF) (hMI : MI S mo) (hw : TPw S x mo ν K sk) (hp : EXpr S x K mo) (he : EXmx S x K mo) : ∀ n, n ≤ sk.length → ofN (siZ S mo) (mA S mo 1248) (loZ S mo) (hiZ S mo) a b (sk.map (skN ν)) n = ofN (siS S) (mA S K 807) (loG S) (hiG S) a b sk n
  | 0, _ => rfl
  | n + 1, h => by
    have ih := of_eq (a := a) (b := b) hG hx hm ct th hMI hw hp he n (by omega)
    obtain ⟨s, hs⟩ : ∃ s, sk[n]? = some s := ⟨_, List.getElem?_eq_getElem (by omega)⟩
    have hs' : (sk.map (skN ν))[n]? = some (skN ν s) := by rw [List.getElem?_map, hs]; rfl
    obtain ⟨e1, e2⟩ := lo_eq hG hx hm ct th hMI hw hs ((ne_of hw he).1 s (List.mem_of_getElem? hs))
    have e3 := siZ_eq hG hx hm ct th hMI hw hs
    have e4 : mA S mo 1248 (gI s.1.2.1) = mA S K 807 (gI s.1.2.1) := by
      have z := hp (gI s.1.2.1) (gI_lt _)
      rw [zA_eq, zA_eq] at z
      exact (Int32.toInt_inj.mp z).symm
    have eo : okM (loZ S mo) (hiZ S mo) a b (skN ν s) ↔ okM (loG S) (hiG S) a b s := by
      unfold okM
      rw [e1, e2]
      exact Iff.rfl
    rw [ofN_s hs', ofN_s hs, ih]
    by_cases c : okM (loG S) (hiG S) a b s ∧ (ofN (siS S) (mA S K 807) (loG S) (hiG S) a b sk n).length < 14
    · rw [if_pos c, if_pos ⟨eo.mpr c.1, c.2⟩]
      show _ ++ [((n : Int), siZ S mo (skN ν s).2.2.2, pcI (siZ S mo (skN ν s).2.2.2) (mA S mo 1248 (gI s.1.2.1)))] = _
      rw [e3, e4]
    · rw [if_neg c, if_neg (fun z => c ⟨eo.mp z.1, z.2⟩)]
theorem ofR_b {S T : PS} {x mo K : Nat} {ν : Nat → Nat} {sk : List Sk} {a b : Int} (hG : GX S) (hx : At S x 11) (hm : At S mo 12) (hF : Fr eMI S T) (ct : CT S x mo) (th : mA S mo 1210 = thinF) (hMI : MI S mo) (hw : TPw S x mo ν K sk) (hp : EXpr S x K mo) (he : EXmx S x K mo) : OfB (ofN (siZ T mo) (mA T mo 1248) (loZ T mo) (hiZ T mo) a b (sk.map (skN ν)) (sk.map (skN ν)).length) := by
  have hlz := loZ_to (fnZ_fr hG hm hF (by decide +kernel))
  rw [hlz.1, hlz.2.1, hlz.2.2, mA_fr hF hm (ex3 (gQ_12_1248 hG hm)) (by decide +kernel) (by decide +kernel), List.length_map, of_eq hG hx hm ct th hMI hw hp he sk.length (Nat.le_refl _)]
  exact ofC_b hG (st_at hG hx hw.2.1) hw.2.2.1.1 (wd_of hG hm hw)
noncomputable def mxF (O : List OfT) (u : Nat) (sell : Int) (k : Nat) (s : Sk) : Sk := ((s.1.1, s.1.2.1, soI s.1.2.2.1 (chI O u k) sell, chI O u k), s.2)
def MXX : List Nat := eMI ++ Mmi
theorem TX_mix {S1 S2 S3 : PS} {x mo K : Nat} {ν : Nat → Nat} {sk : List Sk} {w lo hi sell : Int} {r1 r2 : Int32} (hG1 : GX S1) (hG2 : GX S2) (hx : At S1 x 11) (hm : At S1 mo 12) (hF1 : Fr eMI S1 S2) (hF2 : Fr Mmi S2 S3) (ct : CT S1 x mo) (th : mA S1 mo 1210 = thinF) (hMI : MI S1 mo) (hw : TPw S1 x mo ν K sk)
    (a1 : w < 1 → r1.toInt = -1 ∧ S2 = S1) (a2 : 1 ≤ w → MxC S1 S2 K (ofN (siS S1) (mA S1 K 807) (loG S1) (hiG S1) lo hi sk sk.length) w sell r1) (b1 : w < 1 → r2.toInt = -1 ∧ zA S3 mo 1244 = zA S2 mo 1244 ∧ zA S3 mo 1261 = zA S2 mo 1261) (b2 : 1 ≤ w → MxR S2 S3 mo (ofN (siZ S2 mo) (mA S2 mo 1248) (loZ S2 mo) (hiZ S2 mo) lo hi (sk.map (skN ν)) (sk.map (skN ν)).length) w sell r2) (h : TX S1 x mo) : TX S3 x mo ∧ r1.toInt = r2.toInt := by
  have hK := st_at hG1 hx hw.2.1
  have hK2 := hF1.at hK
  have hm2 := hF1.at hm
  have hF : Fr MXX S1 S3 := (hF1.mono (by decide +kernel)).trans (hF2.mono (by decide +kernel))
  have xp : EXpr S1 x K mo := hw.2.2.1.2.2.1
  have xm : EXmx S1 x K mo := hw.2.2.1.2.2.2.1
  have hlz := loZ_to (fnZ_fr hG1 hm hF1 (by decide +kernel))
  have e48 : mA S2 mo 1248 = mA S1 mo 1248 := mA_fr hF1 hm (ex3 (gQ_12_1248 hG1 hm)) (by decide +kernel) (by decide +kernel)
  have g44 : zA S2 mo 1244 = zA S1 mo 1244 := zA_fr hF1 hm (ex3 (gQ_12_1244 hG1 hm)) (by decide +kernel) (by decide +kernel)
  have g61 : zA S2 mo 1261 = zA S1 mo 1261 := zA_fr hF1 hm (ex3 (gQ_12_1261 hG1 hm)) (by decide +kernel) (by decide +kernel)
  have k8 : pI S3 800 K = pI S1 800 K := hF.I' (g := 800) (by decide +kernel) hK rfl
  have kB : mB S3 K 808 = mB S1 K 808 := mB_frc hF hK (ex3 (gQ_8_808 hG1 hK)) (by decide +kernel) (by decide +kernel)
  have eO : ofN (siZ S2 mo) (mA S2 mo 1248) (loZ S2 mo) (hiZ S2 mo) lo hi (sk.map (skN ν)) (sk.map (skN ν)).length = ofN (siS S1) (mA S1 K 807) (loG S1) (hiG S1) lo hi sk sk.length := by
    rw [hlz.1, hlz.2.1, hlz.2.2, e48, List.length_map]
    exact of_eq hG1 hx hm ct th hMI hw xp xm sk.length (Nat.le_refl _)
  rw [eO] at b2
  have hOi := (ofN_in (w := siS S1) (pr := mA S1 K 807) (lo := loG S1) (hi := hiG S1) (a := lo) (b := hi) (L := sk) sk.length (Nat.le_refl _)).2.2
  generalize ofN (siS S1) (mA S1 K 807) (loG S1) (hiG S1) lo hi sk sk.length = O at a2 b2 hOi
  have l0 := hw.2.2.1.1.1
  have w2 : SkW S2 mo (sk.map (skN ν)) := SkW_fr hG1 hm hF1 (by decide +kernel) hw.2.2.1.2.1
  have f902 : ∀ q g : Nat, At S1 q 7 → pR S3 703 q = some g → pR S1 703 q = some g ∧ pI S3 902 g = pI S1 902 g := fun q g hq hg => by
    obtain ⟨c, k1, k2⟩ := gQ_7_703 hG1 hq
    have e3 : pR S3 703 q = some c := hF.R' (by decide +kernel) hq k1
    rw [e3] at hg
    cases hg
    exact ⟨k1, hF.I' (g := 902) (by decide +kernel) k2 rfl⟩
  have same : Fr eMX S1 S2 → zA S3 mo 1244 = zA S2 mo 1244 → zA S3 mo 1261 = zA S2 mo 1261 → TX S3 x mo := fun hX h44 h61 => by
    have v3 : SkV S3 (DC S3 x) K sk := SkV_up (dc_to hG1 hx hF (by decide +kernel)) (SkV_fr hG2 hK2 hF2 (by decide +kernel) (SkV_fr hG1 hK hX (by decide +kernel) hw.2.2.1.1))
    have w3 : SkW S3 mo (sk.map (skN ν)) := SkW_m hG2 hm2 hF2 h44 w2
    have hE : EXmx S3 x K mo := by
      refine ⟨fun k q hk hq => ?_, fun k hk h4 => ?_⟩
      · rw [k8] at hk
        rw [kB] at hq
        have hq7 := sk_at hG1 hK hq
        obtain ⟨a, b⟩ := xm.1 k q hk hq
        have e9 : pI S3 709 q = pI S1 709 q := (hF2.I' (g := 709) (by decide +kernel) (hF1.at hq7) rfl).trans (hX.I' (g := 709) (by decide +kernel) hq7 rfl)
        refine ⟨by rw [e9, h61, g61]; exact a, fun g hg => ?_⟩
        obtain ⟨k1, k2⟩ := f902 q g hq7 hg
        rw [k2]
        exact b g k1
      · rw [k8] at hk
        rw [h61, g61]
        exact xm.2 k hk h4
    exact ⟨TXs_fr hG1 hF hx hm (by decide +kernel) h.1, TXt_fr hG1 hF hx hm (by decide +kernel) h.2.1, ν, K, sk, TPw_sk hG1 hx hm hF (by decide +kernel) v3 w3 (ExT_mx hG1 hx hK hm hF (by decide +kernel) hE hw.2.2.1.2.2) hw⟩
  by_cases c : w < 1
  · obtain ⟨p1, p2⟩ := a1 c
    obtain ⟨q1, q2, q3⟩ := b1 c
    exact ⟨same (by rw [p2]; exact (Fr.rf _).mono (by decide +kernel)) q2 q3, by rw [p1, q1]⟩
  · obtain ⟨p1, p2⟩ := a2 (by omega)
    obtain ⟨q1, q2⟩ := b2 (by omega)
    cases ho : opt (O.map itI) w with
    | none =>
      obtain ⟨p3, p4⟩ := p1 ho
      obtain ⟨q3, q4, q5⟩ := q1 ho
      exact ⟨same p4 q4 q5, by rw [p3, q3]⟩
    | some y =>
      obtain ⟨p3, p4, -⟩ := p2 y ho
      obtain ⟨q3, q4, q5⟩ := q2 y ho
      rw [List.take_length] at q4 q5
      have hget : ∀ (k : Nat) (t : Sk), (sk.mapIdx (mxF O y.2 sell))[k]? = some t → ∃ s, sk[k]? = some s ∧ t = mxF O y.2 sell k s := fun k t ht => by
        rw [List.getElem?_mapIdx] at ht
        cases e : sk[k]? with
        | none => rw [e] at ht; cases ht
        | some s =>
          rw [e] at ht
          cases ht
          exact ⟨s, rfl, rfl⟩
      have v2 : SkV S2 (DC S1 x) K (sk.mapIdx (mxF O y.2 sell)) := by
        have eB : mB S2 K 808 = mB S1 K 808 := mB_frc hF1 hK (ex3 (gQ_8_808 hG1 hK)) (by decide +kernel) (by decide +kernel)
        have e8 : pI S2 800 K = pI S1 800 K := hF1.I' (g := 800) (by decide +kernel) hK rfl
        refine ⟨by rw [e8, List.length_mapIdx]; exact l0, fun k t ht => ?_⟩
        obtain ⟨s, hs, e⟩ := hget k t ht
        subst e
        have hl := (List.getElem?_eq_some_iff.mp hs).1
        obtain ⟨q, hq, hso⟩ := hw.2.2.1.1.2 k s hs
        obtain ⟨m9, m8⟩ := p4 k q (by omega) hq
        have hso2 := hso
        obtain ⟨-, -, -, -, ⟨⟨-, d7, d8, -⟩, -⟩, -⟩ := hso2
        rw [d8] at m8
        exact ⟨q, by rw [eB]; exact hq, SkO_fl (u := (s.1.2.1, soI s.1.2.2.1 (chI O y.2 k) sell, chI O y.2 k)) hG1 (sk_at hG1 hK hq) hF1 (by decide +kernel) (fun g hg => ⟨hF1.I' (g := 902) (by decide +kernel) hg rfl, hF1.I' (g := 903) (by decide +kernel) hg rfl⟩) (fun j hj hmj => sk_dst hso j (by rw [← e8]; exact hj) (by rw [← eB]; exact hmj)) (hF1.I' (g := 707) (by decide +kernel) (sk_at hG1 hK hq) d7) m8 m9 hso⟩
      have v3 : SkV S3 (DC S3 x) K (sk.mapIdx (mxF O y.2 sell)) := SkV_up (dc_to hG1 hx hF (by decide +kernel)) (SkV_fr hG2 hK2 hF2 (by decide +kernel) v2)
      have w3 : SkW S3 mo ((sk.mapIdx (mxF O y.2 sell)).map (skN ν)) := by
        have n8 : (pI S3 1238 mo).toInt = (pI S2 1238 mo).toInt := congrArg Int32.toInt (hF2.I' (g := 1238) (by decide +kernel) hm2 rfl)
        have r5 : zA S3 mo 1235 = zA S2 mo 1235 := zA_fr hF2 hm2 (ex3 (gQ_12_1235 hG2 hm2)) (by decide +kernel) (by decide +kernel)
        have r6 : zA S3 mo 1236 = zA S2 mo 1236 := zA_fr hF2 hm2 (ex3 (gQ_12_1236 hG2 hm2)) (by decide +kernel) (by decide +kernel)
        have r9 : zA S3 mo 1239 = zA S2 mo 1239 := zA_fr hF2 hm2 (ex3 (gQ_12_1239 hG2 hm2)) (by decide +kernel) (by decide +kernel)
        have r0 : zA S3 mo 1240 = zA S2 mo 1240 := zA_fr hF2 hm2 (ex3 (gQ_12_1240 hG2 hm2)) (by decide +kernel) (by decide +kernel)
        have r1' : zA S3 mo 1241 = zA S2 mo 1241 := zA_fr hF2 hm2 (ex3 (gQ_12_1241 hG2 hm2)) (by decide +kernel) (by decide +kernel)
        have r2' : zA S3 mo 1242 = zA S2 mo 1242 := zA_fr hF2 hm2 (ex3 (gQ_12_1242 hG2 hm2)) (by decide +kernel) (by decide +kernel)
        have r3 : zA S3 mo 1243 = zA S2 mo 1243 := zA_fr hF2 hm2 (ex3 (gQ_12_1243 hG2 hm2)) (by decide +kernel) (by decide +kernel)
        refine ⟨by rw [n8, w2.1, List.length_map, List.length_map, List.length_mapIdx], fun k t ht => ?_⟩
        rw [List.getElem?_map] at ht
        cases e0 : (sk.mapIdx (mxF O y.2 sell))[k]? with
        | none => rw [e0] at ht; cases ht
        | some t0 =>
          rw [e0] at ht
          obtain ⟨s, hs, e⟩ := hget k t0 e0
          subst e
          cases ht
          have hs' : (sk.map (skN ν))[k]? = some (skN ν s) := by rw [List.getElem?_map, hs]; rfl
          obtain ⟨⟨⟨c1, c2, c3⟩, c4, c5⟩, c6, c7⟩ := w2.2 k _ hs'
          obtain ⟨q, hq, hso⟩ := hw.2.2.1.1.2 k s hs
          obtain ⟨-, -, -, -, ⟨⟨-, -, d8, -⟩, -⟩, -⟩ := hso
          have rg := gI_7_708 hG1 (sk_at hG1 hK hq)
          rw [d8] at rg
          have c3' : zA S2 mo 1244 k = s.1.2.2.1.toInt := c3
          have so : zA S3 mo 1244 k = (soI s.1.2.2.1 (chI O y.2 k) sell).toInt := by
            obtain ⟨m1, m2⟩ := q5 k
            by_cases z : ChB O y.2 k ∧ sell ≠ 0
            · rw [m1 z, soI_y (Or.inr ⟨by rw [chI_y z.1]; decide, z.2⟩)]
              decide
            · rw [m2 z, c3']
              by_cases v : s.1.2.2.1 = 0
              · rw [soI_n (fun y => by
                  rcases y with y | ⟨y1, y2⟩
                  · exact y v
                  · exact z ⟨Classical.byContradiction (fun n => y1 (chI_n n)), y2⟩), v]
              · rw [soI_y (Or.inl v)]
                have e1 : (1 : Int32).toInt = 1 := by decide
                have n0 : s.1.2.2.1.toInt ≠ 0 := fun y => v (z_eq0 y)
                omega
          refine ⟨⟨⟨by rw [r0]; exact c1, (gO_eq (congrFun r3 k)).trans c2, so⟩, by rw [r1']; exact c4, by rw [r2']; exact c5⟩, by rw [r9]; exact c6, fun j m hj => by rw [r9]; exact MtR_eq r5 r6 (c7 j m hj)⟩
      have hE : EXmx S3 x K mo := by
        refine ⟨fun k q hk hq => ?_, fun k hk h4 => ?_⟩
        · rw [k8] at hk
          rw [kB] at hq
          have hq7 := sk_at hG1 hK hq
          have h40 := (gI_8_800 hG1 hK).2
          obtain ⟨a, b⟩ := xm.1 k q hk hq
          have e9 : pI S3 709 q = pI S2 709 q := hF2.I' (g := 709) (by decide +kernel) (hF1.at hq7) rfl
          refine ⟨by rw [e9, (p4 k q hk hq).1, q4 k (by omega)], fun g hg => ?_⟩
          obtain ⟨k1, k2⟩ := f902 q g hq7 hg
          rw [k2]
          exact b g k1
        · rw [k8] at hk
          rw [q4 k h4, chI_n (fun ⟨i, t, ht, e, _⟩ => by
            have z := (hOi t (List.mem_of_getElem? ht)).1.2
            omega)]
          decide
      exact ⟨⟨TXs_fr hG1 hF hx hm (by decide +kernel) h.1, TXt_fr hG1 hF hx hm (by decide +kernel) h.2.1, ν, K, _, TPw_sk hG1 hx hm hF (by decide +kernel) v3 w3 (ExT_mx hG1 hx hK hm hF (by decide +kernel) hE hw.2.2.1.2.2) hw⟩, by rw [p3, q3]⟩
theorem rq_mixed {S : PS} {x mo K : Nat} {ν : Nat → Nat} {sk : List Sk} {k : Int} {r1 r2 : Int32} (hw : TPw S x mo ν K sk) (he : EXmx S x K mo) (a : (MxI sk k ∧ r1 = 1) ∨ (¬ MxI sk k ∧ r1 = 0)) (b : ((0 ≤ k ∧ k < (pI S 1238 mo).toInt ∧ zA S mo 1261 k.toNat ≠ 0) ∧ r2 = 1) ∨ (¬ (0 ≤ k ∧ k < (pI S 1238 mo).toInt ∧ zA S mo 1261 k.toNat ≠ 0) ∧ r2 = 0)) : r1 = r2 := by
  have l0 := hw.2.2.1.1.1
  have l1 := hw.2.2.1.2.1.1
  rw [List.length_map] at l1
  have e : MxI sk k ↔ (0 ≤ k ∧ k < (pI S 1238 mo).toInt ∧ zA S mo 1261 k.toNat ≠ 0) := by
    constructor
    · rintro ⟨s, h0, hs, h9⟩
      have hl := (List.getElem?_eq_some_iff.mp hs).1
      obtain ⟨q, hq, -, -, -, -, ⟨⟨-, -, -, d9⟩, -⟩, -⟩ := hw.2.2.1.1.2 _ _ hs
      refine ⟨h0, by omega, ?_⟩
      rw [← (he.1 k.toNat q (by omega) hq).1, d9]
      exact fun z => h9 (z_eq0 z)
    · rintro ⟨h0, h1, h9⟩
      obtain ⟨s, hs⟩ : ∃ s, sk[k.toNat]? = some s := ⟨_, List.getElem?_eq_getElem (by omega)⟩
      obtain ⟨q, hq, -, -, -, -, ⟨⟨-, -, -, d9⟩, -⟩, -⟩ := hw.2.2.1.1.2 _ _ hs
      refine ⟨s, h0, hs, fun z => h9 ?_⟩
      rw [← (he.1 k.toNat q (by omega) hq).1, d9, z]
      decide
  rw [← e] at b
  rcases a with ⟨a1, a2⟩ | ⟨a1, a2⟩ <;> rcases b with ⟨b1, b2⟩ | ⟨b1, b2⟩
  · rw [a2, b2]
  · exact absurd a1 b1
  · exact absurd b1 a1
  · rw [a2, b2]
