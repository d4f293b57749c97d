/-! ===== the reference's mix ===== -/
noncomputable def mtE (S : PS) (x : Nat) (g : List Mt) (k : Nat) : Int32 := mtZ S x (g.getD k [])
theorem mtE_of {S : PS} {x k : Nat} {g : List Mt} {t : Mt} (h : g[k]? = some t) : mtE S x g k = mtZ S x t := by
  unfold mtE
  rw [List.getD_eq_getElem?_getD, h]
  rfl
def miN (f : Nat → Int32) (a : Int32) : Nat → Int32
  | 0 => a
  | k + 1 => if f k < miN f a k then f k else miN f a k
def maN (f : Nat → Int32) (a : Int32) : Nat → Int32
  | 0 => a
  | k + 1 => if maN f a k < f k then f k else maN f a k
theorem mi_lo {f : Nat → Int32} : ∀ k : Nat, miN f (f 0) (k + 1) = loN f (k + 1)
  | 0 => by
    show (if f 0 < f 0 then f 0 else f 0) = (if f 0 < 2147483647 then f 0 else 2147483647)
    rw [if_neg (by rw [Int32.lt_iff_toInt_lt]; omega)]
    by_cases c : f 0 < 2147483647
    · rw [if_pos c]
    · rw [if_neg c]
      rw [Int32.lt_iff_toInt_lt] at c
      have h := z_hi (f 0)
      have e : (2147483647 : Int32).toInt = 2147483647 := by decide
      exact Int32.toInt_inj.mp (by omega)
  | k + 1 => by
    show (if f (k + 1) < miN f (f 0) (k + 1) then f (k + 1) else miN f (f 0) (k + 1)) = (if f (k + 1) < loN f (k + 1) then f (k + 1) else loN f (k + 1))
    rw [mi_lo k]
theorem ma_hi {f : Nat → Int32} (h : 0 ≤ (f 0).toInt) : ∀ k : Nat, maN f (f 0) (k + 1) = hiN f (k + 1)
  | 0 => by
    show (if f 0 < f 0 then f 0 else f 0) = (if 0 < f 0 then f 0 else 0)
    rw [if_neg (by rw [Int32.lt_iff_toInt_lt]; omega)]
    have e : (0 : Int32).toInt = 0 := by decide
    by_cases c : 0 < f 0
    · rw [if_pos c]
    · rw [if_neg c]
      rw [Int32.lt_iff_toInt_lt] at c
      exact Int32.toInt_inj.mp (by omega)
  | k + 1 => by
    show (if maN f (f 0) (k + 1) < f (k + 1) then f (k + 1) else maN f (f 0) (k + 1)) = (if hiN f (k + 1) < f (k + 1) then f (k + 1) else hiN f (k + 1))
    rw [ma_hi h k]
noncomputable def loZ (S : PS) (x : Nat) (g : List Mt) : Int32 := miN (mtE S x g) (mtE S x g 0) g.length
noncomputable def hiZ (S : PS) (x : Nat) (g : List Mt) : Int32 := maN (mtE S x g) (mtE S x g 0) g.length
theorem ofN_full {w : List Mt → Int32} {pr : Nat → Int32} {lo hi : List Mt → Int32} {a b : Int} {L : List Sk} {k : Nat} (h : ¬ (ofN w pr lo hi a b L k).length < 14) : ∀ d : Nat, k + d ≤ L.length → ofN w pr lo hi a b L (k + d) = ofN w pr lo hi a b L k
  | 0, _ => rfl
  | d + 1, hd => by
    have ih := ofN_full h d (by omega)
    obtain ⟨s, hs⟩ : ∃ s, L[k + d]? = some s := ⟨_, List.getElem?_eq_getElem (by omega)⟩
    show ofN w pr lo hi a b L (k + d + 1) = _
    rw [ofN_n hs (fun z => h (by rw [← ih]; exact z.2)), ih]
def OfR (T : PS) (x : Nat) (O : List OfT) : Prop := ∀ (i : Nat) (t : OfT), O[i]? = some t → zA T x 1258 i = t.1 ∧ zA T x 1259 i = t.2.1.toInt ∧ zA T x 1260 i = t.2.2.toInt
theorem OfR_add {S T : PS} {x : Nat} {O : List OfT} {k : Int} {b c : Int32} (h : OfR S x O) (f8 : ∀ j, zA T x 1258 j = if j = O.length then k else zA S x 1258 j) (f9 : ∀ j, zA T x 1259 j = if j = O.length then b.toInt else zA S x 1259 j) (f0 : ∀ j, zA T x 1260 j = if j = O.length then c.toInt else zA S x 1260 j) : OfR T x (O ++ [(k, b, c)]) := fun i t hi => by
  rw [f8, f9, f0]
  by_cases e : i = O.length
  · rw [e, List.getElem?_append_right (Nat.le_refl _), Nat.sub_self] at hi
    have hi' : some ((k, b, c) : OfT) = some t := hi
    cases hi'
    rw [if_pos e, if_pos e, if_pos e]
    exact ⟨rfl, rfl, rfl⟩
  · have hlt := (List.getElem?_eq_some_iff.mp hi).1
    rw [List.length_append] at hlt
    have hlt' : i < O.length + 1 := hlt
    rw [List.getElem?_append_left (by omega)] at hi
    rw [if_neg e, if_neg e, if_neg e]
    exact h i t hi
theorem OfR_eq {S T : PS} {x : Nat} {O : List OfT} (e8 : zA T x 1258 = zA S x 1258) (e9 : zA T x 1259 = zA S x 1259) (e0 : zA T x 1260 = zA S x 1260) (h : OfR S x O) : OfR T x O := fun i t hi => by
  rw [e8, e9, e0]
  exact h i t hi
theorem SkW_m {S T : PS} {x : Nat} {L : List Sk} (hG : GX S) (hx : At S x 12) (hF : Fr Mmi S T) (h4 : zA T x 1244 = zA S x 1244) (h : SkW S x L) : SkW T x L := SkW_n (congrArg Int32.toInt (hF.I' (g := 1238) (by decide +kernel) hx rfl)) ⟨zA_fr hF hx (ex3 (gQ_12_1235 hG hx)) (by decide +kernel) (by decide +kernel), zA_fr hF hx (ex3 (gQ_12_1236 hG hx)) (by decide +kernel) (by decide +kernel), zA_fr hF hx (ex3 (gQ_12_1239 hG hx)) (by decide +kernel) (by decide +kernel), zA_fr hF hx (ex3 (gQ_12_1240 hG hx)) (by decide +kernel) (by decide +kernel), zA_fr hF hx (ex3 (gQ_12_1241 hG hx)) (by decide +kernel) (by decide +kernel), zA_fr hF hx (ex3 (gQ_12_1242 hG hx)) (by decide +kernel) (by decide +kernel), zA_fr hF hx (ex3 (gQ_12_1243 hG hx)) (by decide +kernel) (by decide +kernel), h4⟩ h
theorem loZ_to {S T : PS} {x : Nat} (h : fnZ T x = fnZ S x) : loZ T x = loZ S x ∧ hiZ T x = hiZ S x ∧ siZ T x = siZ S x := by
  have e : mtZ T x = mtZ S x := funext (fun t => mtZ_eq h)
  have e2 : mtE T x = mtE S x := by
    funext g k
    unfold mtE
    rw [e]
  refine ⟨?_, ?_, siZ_to h⟩
  · funext g
    unfold loZ
    rw [e2]
  · funext g
    unfold hiZ
    rw [e2]
def NeB (L : List Sk) : Prop := ∀ s, s ∈ L → 0 < (s.2.2.2.length : Int)
/-- what the reference marks, i of the offered done -/
def MkR (S T : PS) (x : Nat) (O : List OfT) (u : Nat) (sell : Int) (i : Nat) : Prop := (∀ j : Nat, j < 40 → zA T x 1261 j = (chI (O.take i) u j).toInt) ∧ ∀ j : Nat, (ChB (O.take i) u j ∧ sell ≠ 0 → zA T x 1244 j = 1) ∧ (¬ (ChB (O.take i) u j ∧ sell ≠ 0) → zA T x 1244 j = zA S x 1244 j)
theorem ch_0 {u : Nat} {k : Int} {O : List OfT} : ¬ ChB (O.take 0) u k := fun ⟨i, t, h, _⟩ => by
  rw [List.take_zero] at h
  cases h
theorem ch_s {O : List OfT} {u i : Nat} {t : OfT} {k : Int} (h : O[i]? = some t) : ChB (O.take (i + 1)) u k ↔ ChB (O.take i) u k ∨ (u / 2 ^ i % 2 = 1 ∧ t.1 = k) := by
  have hlt := (List.getElem?_eq_some_iff.mp h).1
  constructor
  · rintro ⟨j, s, hj, e, b⟩
    have hl := (List.getElem?_eq_some_iff.mp hj).1
    rw [List.length_take] at hl
    by_cases c : j = i
    · subst c
      rw [List.getElem?_take_of_lt (by omega), h] at hj
      cases hj
      exact Or.inr ⟨b, e⟩
    · rw [List.getElem?_take_of_lt (by omega)] at hj
      exact Or.inl ⟨j, s, by rw [List.getElem?_take_of_lt (by omega)]; exact hj, e, b⟩
  · rintro (⟨j, s, hj, e, b⟩ | ⟨b, e⟩)
    · have hl := (List.getElem?_eq_some_iff.mp hj).1
      rw [List.length_take] at hl
      rw [List.getElem?_take_of_lt (by omega)] at hj
      exact ⟨j, s, by rw [List.getElem?_take_of_lt (by omega)]; exact hj, e, b⟩
    · exact ⟨i, t, by rw [List.getElem?_take_of_lt (by omega)]; exact h, e, b⟩
theorem MkR_0 {S T : PS} {x u : Nat} {O : List OfT} {sell : Int} (h1 : ∀ j : Nat, j < 40 → zA T x 1261 j = 0) (h2 : zA T x 1244 = zA S x 1244) : MkR S T x O u sell 0 := ⟨fun j hj => by rw [h1 j hj, chI_n ch_0]; decide, fun j => ⟨fun z => absurd z.1 ch_0, fun _ => congrFun h2 j⟩⟩
theorem MkR_n {S T : PS} {x u i : Nat} {O : List OfT} {t : OfT} {sell : Int} (h : O[i]? = some t) (hb : ¬ u / 2 ^ i % 2 = 1) (hm : MkR S T x O u sell i) : MkR S T x O u sell (i + 1) := by
  have e : ∀ k : Int, ChB (O.take (i + 1)) u k ↔ ChB (O.take i) u k := fun k => (ch_s h).trans ⟨fun z => z.resolve_right (fun y => hb y.1), Or.inl⟩
  refine ⟨fun j hj => ?_, fun j => ?_⟩
  · rw [hm.1 j hj]
    by_cases c : ChB (O.take i) u j
    · rw [chI_y c, chI_y ((e j).mpr c)]
    · rw [chI_n c, chI_n (fun z => c ((e j).mp z))]
  · rw [e j]
    exact hm.2 j
theorem MkR_y {S T U : PS} {x u i : Nat} {O : List OfT} {t : OfT} {sell : Int} (h : O[i]? = some t) (h0 : 0 ≤ t.1) (hb : u / 2 ^ i % 2 = 1) (f1 : ∀ j, zA U x 1261 j = if j = t.1.toNat then 1 else zA T x 1261 j) (f4 : (sell ≠ 0 → ∀ j, zA U x 1244 j = if j = t.1.toNat then 1 else zA T x 1244 j) ∧ (¬ sell ≠ 0 → zA U x 1244 = zA T x 1244)) (hm : MkR S T x O u sell i) : MkR S U x O u sell (i + 1) := by
  refine ⟨fun j hj => ?_, fun j => ?_⟩
  · rw [f1 j]
    by_cases c : j = t.1.toNat
    · rw [if_pos c, chI_y ((ch_s h).mpr (Or.inr ⟨hb, by omega⟩))]
      decide
    · rw [if_neg c, hm.1 j hj]
      by_cases d : ChB (O.take i) u j
      · rw [chI_y d, chI_y ((ch_s h).mpr (Or.inl d))]
      · rw [chI_n d, chI_n (fun z => ((ch_s h).mp z).elim d (fun y => c (by omega)))]
  · obtain ⟨m1, m2⟩ := hm.2 j
    by_cases s : sell ≠ 0
    · have f := f4.1 s j
      by_cases c : j = t.1.toNat
      · rw [if_pos c] at f
        exact ⟨fun _ => f, fun z => absurd ⟨(ch_s h).mpr (Or.inr ⟨hb, by omega⟩), s⟩ z⟩
      · rw [if_neg c] at f
        rw [f]
        refine ⟨fun z => m1 ⟨((ch_s h).mp z.1).elim id (fun y => absurd (show j = t.1.toNat by omega) c), s⟩, fun z => m2 (fun y => z ⟨(ch_s h).mpr (Or.inl y.1), s⟩)⟩
    · rw [congrFun (f4.2 s) j]
      exact ⟨fun z => absurd z.2 s, fun _ => m2 (fun y => s y.2)⟩
def MxR (S T : PS) (x : Nat) (O : List OfT) (w sell : Int) (r : Int32) : Prop := (opt (O.map itI) w = none → r.toInt = -1 ∧ zA T x 1244 = zA S x 1244 ∧ zA T x 1261 = zA S x 1261) ∧ ∀ y, opt (O.map itI) w = some y → r.toInt = y.1 ∧ MkR S T x O y.2 sell O.length
theorem sum_st {O : List OfT} {i s : Nat} {t : OfT} (h : O[i]? = some t) : (∀ f : It → Int, s / 2 ^ i % 2 = 1 → sumB f ((O.map itI).take (i + 1)) s = sumB f ((O.map itI).take i) s + f (itI t)) ∧ ∀ f : It → Int, ¬ s / 2 ^ i % 2 = 1 → sumB f ((O.map itI).take (i + 1)) s = sumB f ((O.map itI).take i) s := by
  have h' : (O.map itI)[i]? = some (itI t) := by rw [List.getElem?_map, h]; rfl
  refine ⟨fun f c => ?_, fun f c => ?_⟩
  · rw [sumB_t f _ i s _ h', if_pos c]
  · rw [sumB_t f _ i s _ h', if_neg c]
    omega
theorem sum_in {O : List OfT} (hb : OfB O) (h14 : O.length ≤ 14) (i s : Nat) : (0 ≤ sumB wIt ((O.map itI).take i) s ∧ sumB wIt ((O.map itI).take i) s ≤ 1000000000) ∧ 0 ≤ sumB pIt ((O.map itI).take i) s ∧ sumB pIt ((O.map itI).take i) s ≤ 1000000000 := by
  rw [← List.map_take]
  have hb' : OfB (O.take i) := fun t ht => hb t (List.mem_of_mem_take ht)
  have n := sum_nn _ s (nn_of hb')
  have k := tot_b _ hb'
  rw [List.length_take] at k
  omega

set_option maxHeartbeats 4000000 in
set_option maxRecDepth 100000 in
theorem k_X12_least8 (l : Launch) (G : va_G) (cy : Nat → ClassId) (κ : Nat → Nat) (S : PS) (sz : Nat) (x : Nat) (a1 : Int32) (a1_z : Int) (a2 : Int32) (a2_z : Int) (sQ : Sk) (hG : GX S) (ha_x : At S x 12) (hz_a1 : a1.toInt = a1_z) (hz_a2 : a2.toInt = a2_z) (hp_0 : 0 ≤ a1_z) (hp_1 : a1_z ≤ 39) (hp_2 : a1_z < (pI S 1238 x).toInt) (hp_3 : MI S x) (hp_4 : SkR S x a1_z.toNat sQ) (hp_5 : 0 < (sQ.2.2.2.length : Int)) : Ci l yX12_least wsX12_least ({ frames := 5, cells := 0, slots := 0, locals := 240 }) G cy κ S sz [.ref x, .int (a1), .int (a2)] (fun (r : Int32) (S9 : PS) => S = S9 ∧ (-2147483648 ≤ r.toInt ∧ r.toInt ≤ 2147483647 ∧ (a2_z = 0 → r = loZ S x sQ.2.2.2) ∧ (a2_z ≠ 0 → r = hiZ S x sQ.2.2.2))) := by
  refine ent_m (cc := cX12_least) (maxL := 5) (ret := (some .int)) (by decide) rfl (Nat.le_of_ble_eq_true rfl) ?_
  intro p e s m below meth c ls X hr hlocks hin hw hl hsz
  subst hsz
  have X : Cx p c cX12_least 5 s [.ref x, .int (a1), .int (a2)].toArray wsX12_least RX12 m G cy κ (AS S s.heap.size) := X
  have hl : lv_has ls 5 [(0, .ref x), (1, .int (a1)), (2, .int (a2))] := hl
  have rg_a1 : (-2147483648) ≤ a1_z ∧ a1_z ≤ 2147483647 := by rw [← hz_a1]; exact ⟨z_lo _, z_hi _⟩
  have rg_a2 : (-2147483648) ≤ a2_z ∧ a2_z ≤ 2147483647 := by rw [← hz_a2]; exact ⟨z_lo _, z_hi _⟩
  generalize hQQ : MQ below _ _ _ _ _ _ = QQ
  replace hQQ := hQQ.symm
  have hsl := hp_4.2.1
  have hsn : zA S x 1239 (a1_z + 1).toNat = zA S x 1239 (a1_z.toNat + 1) := by rw [show (a1_z + 1).toNat = a1_z.toNat + 1 by omega]
  have hz39 := z1239 hG ha_x a1_z.toNat
  have hz40 := z1239 hG ha_x (a1_z.toNat + 1)
  refine lv_aload_n X.1 X.2.1 dX12_least_0 rfl (lv_at hl 0 rfl) ?_
  refine lv_aload_n X.1 X.2.1 dX12_least_1 rfl (lv_at hl 0 rfl) ?_
  obtain ⟨q_1, h_2, h_3, h_4⟩ := gQ_12_1239 hG ha_x
  refine r_getR (g := 1239) X hw ha_x rfl 39 h_2 (by decide) rfl inn_X12_least_12 (by decide) (X.2.2.2.1 (.fieldLink RX12 100 "SilkMillModel" "firstMetre" "[I") (by decide +kernel)) rfl (gv_1239 _ _) dX12_least_2 ?_
  refine lv_iload_n X.1 X.2.1 dX12_least_5 rfl (lv_at hl 1 rfl) ?_
  refine r_iald X hw h_3 rfl (by rw [h_4]; exact z_ix hz_a1 (by omega) (by omega)) dX12_least_6 ?_
  refine lv_topi (fun v_5 ev_5 => ?_)
  have z_6 := gE_994 hG h_3 (Int32.toNatClampNeg (a1)); rw [← ev_5] at z_6
  have ev_5 := ev_5.symm
  have zf_7 : zA S x 1239 (a1_z).toNat = v_5.toInt := (zA_of h_2 hz_a1 (by omega) ev_5)
  obtain ⟨t_8, ht_9⟩ : ∃ t, sQ.2.2.2[0]? = some t := ⟨_, List.getElem?_eq_getElem (by omega)⟩
  refine k_i (rm := { frames := 4, cells := 0, slots := 0, locals := 192 }) (av := [.ref x, .int (v_5)]) X hw (va_runV (As := [.int (v_5)]) (rest := []) (cfix X) (k_X12_fineAt7 l G cy κ S _ x (v_5) (v_5.toInt) t_8 hG ha_x rfl (by omega) (by omega) hp_3 (by rw [show (v_5.toInt).toNat = (zA S x 1239 a1_z.toNat).toNat + 0 by omega]; exact hp_4.2.2 _ _ ht_9)) (cwV 1 X.2.2.2.1 gX12_least_X12_fineAt rfl rfl rfl (by decide +kernel) ⟨Nat.le_of_ble_eq_true rfl, Nat.le_of_ble_eq_true rfl⟩) (pre_V X hw _ ha_x rfl (by decide) rfl) rfl rfl hl.1 rfl (lv_room (Nat.le_of_ble_eq_true rfl)) dX12_least_7 ⟨Nat.le_of_ble_eq_true rfl, Nat.le_of_ble_eq_true rfl⟩) 0 0 (Nat.le_of_ble_eq_true rfl) (Nat.le_of_ble_eq_true rfl) (fun rr_10 S_11 H locs hp hw hfr hnw => ?_)
  obtain ⟨e2, hp⟩ := hp
  subst e2
  obtain ⟨le_12, le_13, le_14⟩ := hp
  have lf_15 : rr_10 = (mtE S x sQ.2.2.2) 0 := by rw [mtE_of ht_9]; exact le_14
  have rg_16 := And.intro (z_lo rr_10) (z_hi rr_10)
  refine lv_istore_n (lv' := [(3, .int (rr_10)), (0, .ref x), (1, .int (a1)), (2, .int (a2))]) X.1 X.2.1 dX12_least_10 rfl hl (by decide) rfl (fun ls hl => ?_)
  refine lv_aload_n X.1 X.2.1 dX12_least_11 rfl (lv_at hl 1 rfl) ?_
  refine r_getR (g := 1239) X hw ha_x rfl 39 h_2 (by decide) rfl inn_X12_least_12 (by decide) (X.2.2.2.1 (.fieldLink RX12 100 "SilkMillModel" "firstMetre" "[I") (by decide +kernel)) rfl (gv_1239 _ _) dX12_least_12 ?_
  refine lv_iload_n X.1 X.2.1 dX12_least_15 rfl (lv_at hl 2 rfl) ?_
  refine r_iald X hw h_3 rfl (by rw [h_4]; exact z_ix hz_a1 (by omega) (by omega)) dX12_least_16 ?_
  rw [ev_5]
  refine lv_istore (lv' := [(4, .int (v_5)), (3, .int (rr_10)), (0, .ref x), (1, .int (a1)), (2, .int (a2))]) X.1 X.2.1 dX12_least_17 hl (by decide) rfl (fun ls hl => ?_)
  have L_17 : ∀ (n : Nat) (H : Heap) (locs : List Loc) (ls : Array Slot) (i3_18 : Int32) (i3_18_z : Int) (i4_19 : Int32) (i4_19_z : Int), ((12000 - i4_19_z).toNat = n) → (Wd G cy (AS S s.heap.size) s.heap S H locs) → (i3_18.toInt = i3_18_z) → (i4_19.toInt = i4_19_z) → (0 ≤ i4_19_z ∧ i4_19_z ≤ 12000) → ((a2_z = 0 → (i3_18) = miN (mtE S x sQ.2.2.2) ((mtE S x sQ.2.2.2) 0) (i4_19_z - zA S x 1239 a1_z.toNat).toNat)) → ((a2_z ≠ 0 → (i3_18) = maN (mtE S x sQ.2.2.2) ((mtE S x sQ.2.2.2) 0) (i4_19_z - zA S x 1239 a1_z.toNat).toNat)) → (zA S x 1239 a1_z.toNat ≤ i4_19_z) → (i4_19_z ≤ zA S x 1239 a1_z.toNat + (sQ.2.2.2.length : Int)) → (lv_has ls 5 [(3, .int (i3_18)), (4, .int (i4_19)), (0, .ref x), (1, .int (a1)), (2, .int (a2))]) → W p l e ({ frames := 5, cells := 0, slots := 0, locals := 240 }) s m [.ref x, .int (a1), .int (a2)].toArray below meth c H locs 0 0 QQ (F0 m 19 ls []) := by
    intro n
    induction n using Nat.strongRecOn with
    | ind n ih_L_17 =>
    intro H locs ls i3_18 i3_18_z i4_19 i4_19_z hn hw hz_i3_18 hz_i4_19 hr_i4_19 iv_20 iv_21 iv_22 iv_23 hl
    have rg_24 : (-2147483648) ≤ i3_18_z ∧ i3_18_z ≤ 2147483647 := by rw [← hz_i3_18]; exact ⟨z_lo _, z_hi _⟩
    have rg_25 : (-2147483648) ≤ i4_19_z ∧ i4_19_z ≤ 2147483647 := by rw [← hz_i4_19]; exact ⟨z_lo _, z_hi _⟩
    refine lv_iload X.1 X.2.1 dX12_least_19 (lv_at hl 1 rfl) ?_
    refine lv_aload_n X.1 X.2.1 dX12_least_21 rfl (lv_at hl 2 rfl) ?_
    refine r_getR (g := 1239) X hw ha_x rfl 39 h_2 (by decide) rfl inn_X12_least_12 (by decide) (X.2.2.2.1 (.fieldLink RX12 100 "SilkMillModel" "firstMetre" "[I") (by decide +kernel)) rfl (gv_1239 _ _) dX12_least_22 ?_
    refine lv_iload_n X.1 X.2.1 dX12_least_25 rfl (lv_at hl 3 rfl) ?_
    refine lv_iconst (v := 1) X.1 X.2.1 dX12_least_26 (by decide) ?_
    refine lv_iadd X.1 X.2.1 dX12_least_27 ?_
    refine lv_topi (fun v_26 ev_26 => ?_)
    have z_27 : v_26.toInt = a1_z + 1 := z_add ev_26 hz_a1 ti_1 (by omega) (by omega)
    refine r_iald X hw h_3 rfl (by rw [h_4]; exact z_ix z_27 (by omega) (by omega)) dX12_least_28 ?_
    refine lv_topi (fun v_28 ev_28 => ?_)
    have z_29 := gE_994 hG h_3 (Int32.toNatClampNeg (v_26)); rw [← ev_28] at z_29
    have ev_28 := ev_28.symm
    have zf_30 : zA S x 1239 ((a1_z + 1)).toNat = v_28.toInt := (zA_of h_2 z_27 (by omega) ev_28)
    refine lv_icmp_ge (tgt := 66) X.1 X.2.1 dX12_least_29 (by decide) (fun c_31 => ?_) (fun c_31 => ?_)
    · have z_b_32 := trivial
      have k_33 : i4_19_z ≥ v_28.toInt := z_le rfl hz_i4_19 c_31
      refine lv_iload_n X.1 X.2.1 dX12_least_66 rfl (lv_at hl 0 rfl) ?_
      rw [hQQ]
      exact ret_i X hw hr hlocks (Nat.le_of_ble_eq_true rfl) (Nat.le_of_ble_eq_true rfl) ⟨rfl, ⟨z_lo _, z_hi _, fun h => (by unfold loZ; rw [iv_20 h, show (i4_19_z - zA S x 1239 a1_z.toNat).toNat = sQ.2.2.2.length by omega]), fun h => (by unfold hiZ; rw [iv_21 h, show (i4_19_z - zA S x 1239 a1_z.toNat).toNat = sQ.2.2.2.length by omega])⟩⟩ dX12_least_67
    · have z_b_34 := trivial
      have k_35 : i4_19_z < v_28.toInt := z_nle rfl hz_i4_19 c_31
      refine lv_iload_n X.1 X.2.1 dX12_least_32 rfl (lv_at hl 4 rfl) ?_
      refine lv_if_eq (tgt := 49) X.1 X.2.1 dX12_least_33 (by decide) (fun c_36 => ?_) (fun c_36 => ?_)
      · have z_b_37 := trivial
        have k_38 : a2_z = 0 := z_eq hz_a2 ti_0 c_36
        refine lv_iload_n X.1 X.2.1 dX12_least_49 rfl (lv_at hl 0 rfl) ?_
        refine lv_aload_n X.1 X.2.1 dX12_least_50 rfl (lv_at hl 2 rfl) ?_
        refine lv_iload X.1 X.2.1 dX12_least_51 (lv_at hl 1 rfl) ?_
        obtain ⟨t_39, ht_40⟩ : ∃ t, sQ.2.2.2[(i4_19_z - zA S x 1239 a1_z.toNat).toNat]? = some t := ⟨_, List.getElem?_eq_getElem (by omega)⟩
        refine k_i (rm := { frames := 4, cells := 0, slots := 0, locals := 192 }) (av := [.ref x, .int (i4_19)]) X hw (va_runV (As := [.int (i4_19)]) (rest := [.int (i3_18)]) (cfix X) (k_X12_fineAt7 l G cy κ S _ x (i4_19) (i4_19_z) t_39 hG ha_x hz_i4_19 (by omega) (by omega) hp_3 (by rw [show (i4_19_z).toNat = (zA S x 1239 a1_z.toNat).toNat + (i4_19_z - zA S x 1239 a1_z.toNat).toNat by omega]; exact hp_4.2.2 _ _ ht_40)) (cwV 1 X.2.2.2.1 gX12_least_X12_fineAt rfl rfl rfl (by decide +kernel) ⟨Nat.le_of_ble_eq_true rfl, Nat.le_of_ble_eq_true rfl⟩) (pre_V X hw _ ha_x rfl (by decide) rfl) rfl rfl hl.1 rfl (lv_room (Nat.le_of_ble_eq_true rfl)) dX12_least_53 ⟨Nat.le_of_ble_eq_true rfl, Nat.le_of_ble_eq_true rfl⟩) 0 0 (Nat.le_of_ble_eq_true rfl) (Nat.le_of_ble_eq_true rfl) (fun rr_41 S_42 H locs hp hw hfr hnw => ?_)
        obtain ⟨e2, hp⟩ := hp
        subst e2
        obtain ⟨le_43, le_44, le_45⟩ := hp
        have lf_46 : rr_41 = (mtE S x sQ.2.2.2) (i4_19_z - zA S x 1239 a1_z.toNat).toNat := by rw [mtE_of ht_40]; exact le_45
        have rg_47 := And.intro (z_lo rr_41) (z_hi rr_41)
        refine va_mmin X.1 X.2.1 (X.2.2.1.trans hl.1.symm) X.2.2.2.2.1 (X.2.2.2.1 (.methodLink RX12 344 Lib.Math.min.name) (by decide +kernel)) (X.2.2.2.1 (.static Lib.Math.min.name) (by decide +kernel)) (X.2.2.2.1 (.initialized "java/lang/Math") (by decide +kernel)) (X.2.2.2.1 (.code Lib.Math.min.name Lib.Math.min.code 2 (some .int)) (by decide +kernel)) (Nat.le_of_ble_eq_true rfl) (Nat.le_of_ble_eq_true rfl) (Nat.le_of_ble_eq_true rfl) (Nat.le_of_ble_eq_true rfl) dX12_least_56 ?_
        refine lv_topi (fun v_48 ev_48 => ?_)
        have z_49 := z_min ev_48 hz_i3_18 rfl
        refine lv_istore_n (lv' := [(3, .int (v_48)), (4, .int (i4_19)), (0, .ref x), (1, .int (a1)), (2, .int (a2))]) X.1 X.2.1 dX12_least_59 rfl hl (by decide) rfl (fun ls hl => ?_)
        obtain ⟨x_50, ex_50⟩ : ∃ y : Int32, y = i4_19 + 1 := ⟨_, rfl⟩
        have z_51 : x_50.toInt = i4_19_z + 1 := z_add ex_50 hz_i4_19 ti_1 (by omega) (by omega)
        refine lv_iinc (v := x_50) (lv' := [(4, .int (x_50)), (3, .int (v_48)), (0, .ref x), (1, .int (a1)), (2, .int (a2))]) X.1 X.2.1 dX12_least_60 hl (k := 1) rfl (by rw [ex_50]; rfl) (by decide) rfl (fun ls hl => ?_)
        refine lv_goto (tgt := 19) X.1 X.2.1 dX12_least_63 (by decide) ?_
        exact ih_L_17 _ (by omega) _ _ _ (v_48) (v_48.toInt) (x_50) (x_50.toInt) rfl hw rfl rfl (by omega) (fun h => by rw [show (x_50.toInt - zA S x 1239 a1_z.toNat).toNat = (i4_19_z - zA S x 1239 a1_z.toNat).toNat + 1 by omega, show miN (mtE S x sQ.2.2.2) ((mtE S x sQ.2.2.2) 0) ((i4_19_z - zA S x 1239 a1_z.toNat).toNat + 1) = if (mtE S x sQ.2.2.2) (i4_19_z - zA S x 1239 a1_z.toNat).toNat < miN (mtE S x sQ.2.2.2) ((mtE S x sQ.2.2.2) 0) (i4_19_z - zA S x 1239 a1_z.toNat).toNat then (mtE S x sQ.2.2.2) (i4_19_z - zA S x 1239 a1_z.toNat).toNat else miN (mtE S x sQ.2.2.2) ((mtE S x sQ.2.2.2) 0) (i4_19_z - zA S x 1239 a1_z.toNat).toNat from rfl, ← lf_46, ← iv_20 h]; exact ev_48) (fun h => by exfalso; omega) (by omega) (by omega) (lv_sub hl [1, 0, 2, 3, 4] rfl)
      · have z_b_52 := trivial
        have k_53 : a2_z ≠ 0 := z_ne hz_a2 ti_0 c_36
        refine lv_iload_n X.1 X.2.1 dX12_least_36 rfl (lv_at hl 0 rfl) ?_
        refine lv_aload_n X.1 X.2.1 dX12_least_37 rfl (lv_at hl 2 rfl) ?_
        refine lv_iload X.1 X.2.1 dX12_least_38 (lv_at hl 1 rfl) ?_
        obtain ⟨t_54, ht_55⟩ : ∃ t, sQ.2.2.2[(i4_19_z - zA S x 1239 a1_z.toNat).toNat]? = some t := ⟨_, List.getElem?_eq_getElem (by omega)⟩
        refine k_i (rm := { frames := 4, cells := 0, slots := 0, locals := 192 }) (av := [.ref x, .int (i4_19)]) X hw (va_runV (As := [.int (i4_19)]) (rest := [.int (i3_18)]) (cfix X) (k_X12_fineAt7 l G cy κ S _ x (i4_19) (i4_19_z) t_54 hG ha_x hz_i4_19 (by omega) (by omega) hp_3 (by rw [show (i4_19_z).toNat = (zA S x 1239 a1_z.toNat).toNat + (i4_19_z - zA S x 1239 a1_z.toNat).toNat by omega]; exact hp_4.2.2 _ _ ht_55)) (cwV 1 X.2.2.2.1 gX12_least_X12_fineAt rfl rfl rfl (by decide +kernel) ⟨Nat.le_of_ble_eq_true rfl, Nat.le_of_ble_eq_true rfl⟩) (pre_V X hw _ ha_x rfl (by decide) rfl) rfl rfl hl.1 rfl (lv_room (Nat.le_of_ble_eq_true rfl)) dX12_least_40 ⟨Nat.le_of_ble_eq_true rfl, Nat.le_of_ble_eq_true rfl⟩) 0 0 (Nat.le_of_ble_eq_true rfl) (Nat.le_of_ble_eq_true rfl) (fun rr_56 S_57 H locs hp hw hfr hnw => ?_)
        obtain ⟨e2, hp⟩ := hp
        subst e2
        obtain ⟨le_58, le_59, le_60⟩ := hp
        have lf_61 : rr_56 = (mtE S x sQ.2.2.2) (i4_19_z - zA S x 1239 a1_z.toNat).toNat := by rw [mtE_of ht_55]; exact le_60
        have rg_62 := And.intro (z_lo rr_56) (z_hi rr_56)
        refine va_mmax X.1 X.2.1 (X.2.2.1.trans hl.1.symm) X.2.2.2.2.1 (X.2.2.2.1 (.methodLink RX12 339 Lib.Math.max.name) (by decide +kernel)) (X.2.2.2.1 (.static Lib.Math.max.name) (by decide +kernel)) (X.2.2.2.1 (.initialized "java/lang/Math") (by decide +kernel)) (X.2.2.2.1 (.code Lib.Math.max.name Lib.Math.max.code 2 (some .int)) (by decide +kernel)) (Nat.le_of_ble_eq_true rfl) (Nat.le_of_ble_eq_true rfl) (Nat.le_of_ble_eq_true rfl) (Nat.le_of_ble_eq_true rfl) dX12_least_43 ?_
        refine lv_topi (fun v_63 ev_63 => ?_)
        have z_64 := z_max ev_63 hz_i3_18 rfl
        refine lv_goto (tgt := 59) X.1 X.2.1 dX12_least_46 (by decide) ?_
        refine lv_istore_n (lv' := [(3, .int (v_63)), (4, .int (i4_19)), (0, .ref x), (1, .int (a1)), (2, .int (a2))]) X.1 X.2.1 dX12_least_59 rfl hl (by decide) rfl (fun ls hl => ?_)
        obtain ⟨x_65, ex_65⟩ : ∃ y : Int32, y = i4_19 + 1 := ⟨_, rfl⟩
        have z_66 : x_65.toInt = i4_19_z + 1 := z_add ex_65 hz_i4_19 ti_1 (by omega) (by omega)
        refine lv_iinc (v := x_65) (lv' := [(4, .int (x_65)), (3, .int (v_63)), (0, .ref x), (1, .int (a1)), (2, .int (a2))]) X.1 X.2.1 dX12_least_60 hl (k := 1) rfl (by rw [ex_65]; rfl) (by decide) rfl (fun ls hl => ?_)
        refine lv_goto (tgt := 19) X.1 X.2.1 dX12_least_63 (by decide) ?_
        exact ih_L_17 _ (by omega) _ _ _ (v_63) (v_63.toInt) (x_65) (x_65.toInt) rfl hw rfl rfl (by omega) (fun h => by exfalso; omega) (fun h => by rw [show (x_65.toInt - zA S x 1239 a1_z.toNat).toNat = (i4_19_z - zA S x 1239 a1_z.toNat).toNat + 1 by omega, show maN (mtE S x sQ.2.2.2) ((mtE S x sQ.2.2.2) 0) ((i4_19_z - zA S x 1239 a1_z.toNat).toNat + 1) = if maN (mtE S x sQ.2.2.2) ((mtE S x sQ.2.2.2) 0) (i4_19_z - zA S x 1239 a1_z.toNat).toNat < (mtE S x sQ.2.2.2) (i4_19_z - zA S x 1239 a1_z.toNat).toNat then (mtE S x sQ.2.2.2) (i4_19_z - zA S x 1239 a1_z.toNat).toNat else maN (mtE S x sQ.2.2.2) ((mtE S x sQ.2.2.2) 0) (i4_19_z - zA S x 1239 a1_z.toNat).toNat from rfl, ← lf_61, ← iv_21 h]; exact ev_63) (by omega) (by omega) (lv_sub hl [1, 0, 2, 3, 4] rfl)
  exact L_17 _ _ _ _ (rr_10) (rr_10.toInt) (v_5) (v_5.toInt) rfl hw rfl rfl (by omega) (fun _ => by rw [show (v_5.toInt - zA S x 1239 a1_z.toNat).toNat = 0 by omega]; exact lf_15) (fun _ => by rw [show (v_5.toInt - zA S x 1239 a1_z.toNat).toNat = 0 by omega]; exact lf_15) (by omega) (by omega) (lv_sub hl [1, 0, 2, 3, 4] rfl)
set_option maxHeartbeats 4000000 in
set_option maxRecDepth 100000 in
theorem k_X12_mix8 (l : Launch) (G : va_G) (cy : Nat → ClassId) (κ : Nat → Nat) (S : PS) (sz : Nat) (x : Nat) (a1 : Int32) (a1_z : Int) (a2 : Int32) (a2_z : Int) (a3 : Int32) (a3_z : Int) (a4 : Int32) (a4_z : Int) (Ls : List Sk) (hG : GX S) (ha_x : At S x 12) (hz_a1 : a1.toInt = a1_z) (hz_a2 : a2.toInt = a2_z) (hz_a3 : a3.toInt = a3_z) (hz_a4 : a4.toInt = a4_z) (hp_0 : MI S x) (hp_1 : SkW S x Ls) (hp_2 : NeB Ls) (hp_3 : OfB (ofN (siZ S x) (mA S x 1248) (loZ S x) (hiZ S x) a2_z a3_z Ls Ls.length)) : Ci l yX12_mix wsX12_mix ({ frames := 8, cells := 0, slots := 0, locals := 384 }) G cy κ S sz [.ref x, .int (a1), .int (a2), .int (a3), .int (a4)] (fun (r : Int32) (S9 : PS) => Ok Mmi S S9 ∧ (-2147483648 ≤ r.toInt ∧ r.toInt ≤ 2147483647 ∧ (a1_z < 1 → r.toInt = -1 ∧ zA S9 x 1244 = zA S x 1244 ∧ zA S9 x 1261 = zA S x 1261) ∧ (1 ≤ a1_z → MxR S S9 x (ofN (siZ S x) (mA S x 1248) (loZ S x) (hiZ S x) a2_z a3_z Ls Ls.length) a1_z a4_z r))) := by
  refine ent_m (cc := cX12_mix) (maxL := 13) (ret := (some .int)) (by decide) rfl (Nat.le_of_ble_eq_true rfl) ?_
  intro p e s m below meth c ls X hr hlocks hin hw hl hsz
  subst hsz
  have X : Cx p c cX12_mix 13 s [.ref x, .int (a1), .int (a2), .int (a3), .int (a4)].toArray wsX12_mix RX12 m G cy κ (AS S s.heap.size) := X
  have hl : lv_has ls 13 [(0, .ref x), (1, .int (a1)), (2, .int (a2)), (3, .int (a3)), (4, .int (a4))] := hl
  have rg_a1 : (-2147483648) ≤ a1_z ∧ a1_z ≤ 2147483647 := by rw [← hz_a1]; exact ⟨z_lo _, z_hi _⟩
  have rg_a2 : (-2147483648) ≤ a2_z ∧ a2_z ≤ 2147483647 := by rw [← hz_a2]; exact ⟨z_lo _, z_hi _⟩
  have rg_a3 : (-2147483648) ≤ a3_z ∧ a3_z ≤ 2147483647 := by rw [← hz_a3]; exact ⟨z_lo _, z_hi _⟩
  have rg_a4 : (-2147483648) ≤ a4_z ∧ a4_z ≤ 2147483647 := by rw [← hz_a4]; exact ⟨z_lo _, z_hi _⟩
  have hO : Ok Mmi S S := Ok.rf hG
  generalize hQQ : MQ below _ _ _ _ _ _ = QQ
  replace hQQ := hQQ.symm
  obtain ⟨v_1, ev_1⟩ : ∃ v, pI S 1238 x = v := ⟨_, rfl⟩
  have rg_2 := gI_12_1238 hO.1 ha_x; rw [ev_1] at rg_2
  have pz_3 : (pI S 1238 x).toInt = v_1.toInt := by rw [ev_1]
  have pz_4 : (pI S 1238 x).toInt = v_1.toInt := (congrArg Int32.toInt ev_1).trans rfl
  refine lv_aload_n X.1 X.2.1 dX12_mix_0 rfl (lv_at hl 0 rfl) ?_
  refine lv_iconst (v := 0) X.1 X.2.1 dX12_mix_1 (by decide) ?_
  refine r_putI (v := 0) X hw ha_x rfl 0 1200 tyX12 (by decide) rfl inn_X12_mix_12 tyX12_ok nmX12 (by decide) (X.2.2.2.1 (.fieldLink RX12 161 "SilkMillModel" "thrown" "I") (by decide +kernel)) rfl (Or.inl rfl) rfl rfl (Nat.le_of_ble_eq_true rfl) (st_1200 _ _) dX12_mix_2 (fun H locs hw => ?_)
  obtain ⟨S_5, eS_5⟩ : ∃ T, T = sI S 1200 x (0) := ⟨_, rfl⟩
  rw [← eS_5] at hw
  have hO_6 : Ok Mmi S S_5 := hO.sI eS_5 (by decide +kernel) (uI_12_1200 hO.1 ha_x)
  have h_7 : pI S_5 1200 x = 0 := tI_sIs eS_5
  have t_8 : pI S_5 1238 x = v_1 := tI_sI eS_5 rfl ev_1
  have pz_9 : (pI S_5 1238 x).toInt = v_1.toInt := (congrArg Int32.toInt t_8).trans rfl
  have hkl := hp_1.1
  have hOin := ofN_in (w := siZ S x) (pr := mA S x 1248) (lo := loZ S x) (hi := hiZ S x) (a := a2_z) (b := a3_z) Ls.length (Nat.le_refl _)
  have L_10 : ∀ (n : Nat) (T_15 : PS) (H : Heap) (locs : List Loc) (ls : Array Slot) (i5_11 : Int32) (i5_11_z : Int) (i6_12 : Int32) (i6_12_z : Int) (i7_13 : Int32) (i7_13_z : Int) (i8_14 : Int32) (i8_14_z : Int), ((14 - i8_14_z).toNat = n) → (Wd G cy (AS S s.heap.size) s.heap T_15 H locs) → (i5_11.toInt = i5_11_z) → (0 ≤ i5_11_z ∧ i5_11_z ≤ 14) → (i6_12.toInt = i6_12_z) → (0 ≤ i6_12_z ∧ i6_12_z ≤ 2147483647) → (i7_13.toInt = i7_13_z) → (i8_14.toInt = i8_14_z) → (0 ≤ i8_14_z ∧ i8_14_z ≤ 14) → (At T_15 x 12) → (Ok Mmi S T_15) → (i5_11_z = ((ofN (siZ S x) (mA S x 1248) (loZ S x) (hiZ S x) a2_z a3_z Ls Ls.length).length : Int)) → (opt ((ofN (siZ S x) (mA S x 1248) (loZ S x) (hiZ S x) a2_z a3_z Ls Ls.length).map itI) a1_z = some (i7_13_z, (i6_12_z).toNat)) → (i6_12_z < 16384) → (OfR T_15 x (ofN (siZ S x) (mA S x 1248) (loZ S x) (hiZ S x) a2_z a3_z Ls Ls.length)) → (MkR S T_15 x (ofN (siZ S x) (mA S x 1248) (loZ S x) (hiZ S x) a2_z a3_z Ls Ls.length) (i6_12_z).toNat a4_z (i8_14_z).toNat) → (i8_14_z ≤ i5_11_z) → (1 ≤ a1_z) → (lv_has ls 13 [(5, .int (i5_11)), (6, .int (i6_12)), (7, .int (i7_13)), (8, .int (i8_14)), (0, .ref x), (1, .int (a1)), (2, .int (a2)), (3, .int (a3)), (4, .int (a4))]) → W p l e ({ frames := 8, cells := 0, slots := 0, locals := 384 }) s m [.ref x, .int (a1), .int (a2), .int (a3), .int (a4)].toArray below meth c H locs 0 0 QQ (F0 m 299 ls []) := by
    intro n
    induction n using Nat.strongRecOn with
    | ind n ih_L_10 =>
    intro T_15 H locs ls i5_11 i5_11_z i6_12 i6_12_z i7_13 i7_13_z i8_14 i8_14_z hn hw hz_i5_11 hr_i5_11 hz_i6_12 hr_i6_12 hz_i7_13 hz_i8_14 hr_i8_14 ha_x_L_16 hO_T_15 iv_17 iv_18 iv_19 iv_20 iv_21 iv_22 iv_23 hl
    have rg_24 : (-2147483648) ≤ i5_11_z ∧ i5_11_z ≤ 2147483647 := by rw [← hz_i5_11]; exact ⟨z_lo _, z_hi _⟩
    have rg_25 : (-2147483648) ≤ i6_12_z ∧ i6_12_z ≤ 2147483647 := by rw [← hz_i6_12]; exact ⟨z_lo _, z_hi _⟩
    have rg_26 : (-2147483648) ≤ i7_13_z ∧ i7_13_z ≤ 2147483647 := by rw [← hz_i7_13]; exact ⟨z_lo _, z_hi _⟩
    have rg_27 : (-2147483648) ≤ i8_14_z ∧ i8_14_z ≤ 2147483647 := by rw [← hz_i8_14]; exact ⟨z_lo _, z_hi _⟩
    refine lv_iload X.1 X.2.1 dX12_mix_299 (lv_at hl 3 rfl) ?_
    refine lv_iload X.1 X.2.1 dX12_mix_301 (lv_at hl 0 rfl) ?_
    refine lv_icmp_ge (tgt := 356) X.1 X.2.1 dX12_mix_303 (by decide) (fun c_28 => ?_) (fun c_28 => ?_)
    · have z_b_29 := trivial
      have k_30 : i8_14_z ≥ i5_11_z := z_le hz_i5_11 hz_i8_14 c_28
      refine lv_iload X.1 X.2.1 dX12_mix_356 (lv_at hl 2 rfl) ?_
      rw [hQQ]
      exact ret_i X hw hr hlocks (Nat.le_of_ble_eq_true rfl) (Nat.le_of_ble_eq_true rfl) ⟨hO_T_15, ⟨z_lo _, z_hi _, fun h => (by exfalso; omega), fun _ => ⟨fun h => (by rw [iv_18] at h; cases h), fun y hy => (by rw [iv_18] at hy; cases hy; exact ⟨hz_i7_13, by have h := iv_21; rw [show (i8_14_z).toNat = (ofN (siZ S x) (mA S x 1248) (loZ S x) (hiZ S x) a2_z a3_z Ls Ls.length).length by omega] at h; exact h⟩)⟩⟩⟩ dX12_mix_358
    · have z_b_31 := trivial
      have k_32 : i8_14_z < i5_11_z := z_nle hz_i5_11 hz_i8_14 c_28
      refine lv_iload X.1 X.2.1 dX12_mix_306 (lv_at hl 1 rfl) ?_
      refine lv_iload X.1 X.2.1 dX12_mix_308 (lv_at hl 3 rfl) ?_
      refine lv_ishr X.1 X.2.1 dX12_mix_310 ?_
      refine lv_topi (fun v_33 ev_33 => ?_)
      have rg_34 := And.intro (z_lo v_33) (z_hi v_33)
      refine lv_iconst (v := 1) X.1 X.2.1 dX12_mix_311 (by decide) ?_
      refine lv_iand X.1 X.2.1 dX12_mix_312 ?_
      refine lv_topi (fun v_35 ev_35 => ?_)
      have z_36 : 0 ≤ v_35.toInt ∧ v_35.toInt ≤ 1 := z_and1 ev_35
      have bt_37 : v_35.toInt = 1 ↔ (i6_12_z).toNat / 2 ^ (i8_14_z).toNat % 2 = 1 := z_bit1 ev_33 ev_35 (hz_i6_12.trans (by omega)) (hz_i8_14.trans (by omega)) (by omega)
      refine lv_if_ne (tgt := 319) X.1 X.2.1 dX12_mix_313 (by decide) (fun c_38 => ?_) (fun c_38 => ?_)
      · have z_b_39 := trivial
        have k_40 : v_35.toInt ≠ 0 := z_ne rfl ti_0 c_38
        refine lv_aload_n X.1 X.2.1 dX12_mix_319 rfl (lv_at hl 4 rfl) ?_
        obtain ⟨q_41, h_42, h_43, h_44⟩ := gQ_12_1261 hO_T_15.1 ha_x_L_16
        refine r_getR (g := 1261) X hw ha_x_L_16 rfl 61 h_42 (by decide) rfl inn_X12_mix_12 (by decide) (X.2.2.2.1 (.fieldLink RX12 149 "SilkMillModel" "isMixed" "[Z") (by decide +kernel)) rfl (gv_1261 _ _) dX12_mix_320 ?_
        refine lv_aload_n X.1 X.2.1 dX12_mix_323 rfl (lv_at hl 4 rfl) ?_
        obtain ⟨q_45, h_46, h_47, h_48⟩ := gQ_12_1258 hO_T_15.1 ha_x_L_16
        refine r_getR (g := 1258) X hw ha_x_L_16 rfl 58 h_46 (by decide) rfl inn_X12_mix_12 (by decide) (X.2.2.2.1 (.fieldLink RX12 140 "SilkMillModel" "asked" "[I") (by decide +kernel)) rfl (gv_1258 _ _) dX12_mix_324 ?_
        refine lv_iload X.1 X.2.1 dX12_mix_327 (lv_at hl 3 rfl) ?_
        refine r_iald X hw h_47 rfl (by rw [h_48]; exact z_ix hz_i8_14 (by omega) (by omega)) dX12_mix_329 ?_
        refine lv_topi (fun v_49 ev_49 => ?_)
        have z_50 := gE_1374 hO_T_15.1 h_47 (Int32.toNatClampNeg (i8_14)); rw [← ev_49] at z_50
        have ev_49 := ev_49.symm
        have zf_51 : zA T_15 x 1258 (i8_14_z).toNat = v_49.toInt := (zA_of h_46 hz_i8_14 (by omega) ev_49)
        refine lv_iconst (v := 1) X.1 X.2.1 dX12_mix_330 (by decide) ?_
        refine r_zast X hw h_43 rfl (by rw [h_44]; exact z_ix rfl (by omega) (by omega)) dX12_mix_331 (fun H locs hw => ?_)
        obtain ⟨S_52, eS_52⟩ : ∃ T, T = sA T_15 q_41 (upd (pA T_15 q_41) (Int32.toNatClampNeg (v_49)) (vp_nar .boolean (1))) := ⟨_, rfl⟩
        rw [← eS_52] at hw
        have hO_53 : Ok Mmi S S_52 := hO_T_15.sA eS_52 h_43 (by decide +kernel) (uA_1435 hO_T_15.1 h_43)
        have t_54 : pR S_52 1261 x = some q_41 := tR_sA eS_52 h_42
        have t_56 : pR T_15 1261 x = some q_41 := by have h := t_54; rw [eS_52, pR_sA] at h; exact h
        have zs_55 : ∀ j, zA S_52 x 1261 j = if j = (v_49.toInt).toNat then 1 else zA T_15 x 1261 j := by have h := zA_sAs eS_52 t_56 nar1; rw [z_nc rfl (by omega)] at h; exact h
        refine lv_iload X.1 X.2.1 dX12_mix_332 (lv_at hl 8 rfl) ?_
        refine lv_if_eq (tgt := 350) X.1 X.2.1 dX12_mix_334 (by decide) (fun c_57 => ?_) (fun c_57 => ?_)
        · have z_b_58 := trivial
          have k_59 : a4_z = 0 := z_eq hz_a4 ti_0 c_57
          obtain ⟨x_60, ex_60⟩ : ∃ y : Int32, y = i8_14 + 1 := ⟨_, rfl⟩
          have z_61 : x_60.toInt = i8_14_z + 1 := z_add ex_60 hz_i8_14 ti_1 (by omega) (by omega)
          refine lv_iinc (v := x_60) (lv' := [(8, .int (x_60)), (5, .int (i5_11)), (6, .int (i6_12)), (7, .int (i7_13)), (0, .ref x), (1, .int (a1)), (2, .int (a2)), (3, .int (a3)), (4, .int (a4))]) X.1 X.2.1 dX12_mix_350 hl (k := 3) rfl (by rw [ex_60]; rfl) (by decide) rfl (fun ls hl => ?_)
          refine lv_goto (tgt := 299) X.1 X.2.1 dX12_mix_353 (by decide) ?_
          have t_62 : At S_52 x 12 := tAt_sA eS_52 ha_x_L_16
          have zc_63 : zA S_52 x 1258 = zA T_15 x 1258 := zA_sAn eS_52 (ex3 (gQ_12_1258 hO_T_15.1 ha_x_L_16)) h_43 rfl
          have zc_64 : zA S_52 x 1259 = zA T_15 x 1259 := zA_sAn eS_52 (ex3 (gQ_12_1259 hO_T_15.1 ha_x_L_16)) h_43 rfl
          have zc_65 : zA S_52 x 1260 = zA T_15 x 1260 := zA_sAn eS_52 (ex3 (gQ_12_1260 hO_T_15.1 ha_x_L_16)) h_43 rfl
          have zc_66 : zA S_52 x 1244 = zA T_15 x 1244 := zA_sAn eS_52 (ex3 (gQ_12_1244 hO_T_15.1 ha_x_L_16)) h_43 rfl
          exact ih_L_10 _ (by omega) _ _ _ _ (i5_11) (i5_11_z) (i6_12) (i6_12_z) (i7_13) (i7_13_z) (x_60) (x_60.toInt) rfl hw hz_i5_11 (by omega) hz_i6_12 (by omega) hz_i7_13 rfl (by omega) t_62 hO_53 iv_17 iv_18 iv_19 (OfR_eq zc_63 zc_64 zc_65 iv_20) (by obtain ⟨t, ht⟩ : ∃ t, (ofN (siZ S x) (mA S x 1248) (loZ S x) (hiZ S x) a2_z a3_z Ls Ls.length)[(i8_14_z).toNat]? = some t := ⟨_, List.getElem?_eq_getElem (by omega)⟩; have m := iv_20 _ _ ht; have hp := (hOin.2.2 t (List.mem_of_getElem? ht)).1; rw [show (x_60.toInt).toNat = (i8_14_z).toNat + 1 by omega]; exact MkR_y ht hp.1 (bt_37.mp (by omega)) (fun j => by rw [zs_55 j, show (v_49.toInt).toNat = t.1.toNat by omega]) ⟨fun z => absurd z (by omega), fun _ => zc_66⟩ iv_21) (by omega) (by omega) (lv_sub hl [1, 2, 3, 0, 4, 5, 6, 7, 8] rfl)
        · have z_b_67 := trivial
          have k_68 : a4_z ≠ 0 := z_ne hz_a4 ti_0 c_57
          refine lv_aload_n X.1 X.2.1 dX12_mix_337 rfl (lv_at hl 4 rfl) ?_
          have t_69 : At S_52 x 12 := tAt_sA eS_52 ha_x_L_16
          obtain ⟨q_70, h_71, h_72, h_73⟩ := gQ_12_1244 hO_53.1 t_69
          refine r_getR (g := 1244) X hw t_69 rfl 44 h_71 (by decide) rfl inn_X12_mix_12 (by decide) (X.2.2.2.1 (.fieldLink RX12 115 "SilkMillModel" "isSold" "[Z") (by decide +kernel)) rfl (gv_1244 _ _) dX12_mix_338 ?_
          refine lv_aload_n X.1 X.2.1 dX12_mix_341 rfl (lv_at hl 4 rfl) ?_
          have t_74 : pR S_52 1258 x = some q_45 := tR_sA eS_52 h_46
          refine r_getR (g := 1258) X hw t_69 rfl 58 t_74 (by decide) rfl inn_X12_mix_12 (by decide) (X.2.2.2.1 (.fieldLink RX12 140 "SilkMillModel" "asked" "[I") (by decide +kernel)) rfl (gv_1258 _ _) dX12_mix_342 ?_
          refine lv_iload X.1 X.2.1 dX12_mix_345 (lv_at hl 3 rfl) ?_
          have t_75 : At S_52 q_45 1374 := tAt_sA eS_52 h_47
          have t_76 : pN S_52 q_45 = 14 := tN_sA eS_52 h_48
          clear h_48
          refine r_iald X hw t_75 rfl (by rw [t_76]; exact z_ix hz_i8_14 (by omega) (by omega)) dX12_mix_347 ?_
          have t_77 : pA S_52 q_45 (Int32.toNatClampNeg (i8_14)) = v_49 := tA_sA eS_52 (At_ne h_47 h_43 (by decide)) ev_49
          rw [t_77]
          refine lv_iconst (v := 1) X.1 X.2.1 dX12_mix_348 (by decide) ?_
          refine r_zast X hw h_72 rfl (by rw [h_73]; exact z_ix rfl (by omega) (by omega)) dX12_mix_349 (fun H locs hw => ?_)
          obtain ⟨S_78, eS_78⟩ : ∃ T, T = sA S_52 q_70 (upd (pA S_52 q_70) (Int32.toNatClampNeg (v_49)) (vp_nar .boolean (1))) := ⟨_, rfl⟩
          rw [← eS_78] at hw
          have hO_79 : Ok Mmi S S_78 := hO_53.sA eS_78 h_72 (by decide +kernel) (uA_1095 hO_53.1 h_72)
          have zc_80 : zA S_52 x 1244 = zA T_15 x 1244 := zA_sAn eS_52 (ex3 (gQ_12_1244 hO_T_15.1 ha_x_L_16)) h_43 rfl
          have t_81 : pR S_78 1244 x = some q_70 := tR_sA eS_78 h_71
          have t_83 : pR S_52 1244 x = some q_70 := by have h := t_81; rw [eS_78, pR_sA] at h; exact h
          have zs_82 : ∀ j, zA S_78 x 1244 j = if j = (v_49.toInt).toNat then 1 else zA S_52 x 1244 j := by have h := zA_sAs eS_78 t_83 nar1; rw [z_nc rfl (by omega)] at h; exact h
          have zs_84 : ∀ j, zA S_78 x 1244 j = if j = (v_49.toInt).toNat then 1 else zA T_15 x 1244 j := fun j => by rw [zs_82 j, zc_80]
          obtain ⟨x_85, ex_85⟩ : ∃ y : Int32, y = i8_14 + 1 := ⟨_, rfl⟩
          have z_86 : x_85.toInt = i8_14_z + 1 := z_add ex_85 hz_i8_14 ti_1 (by omega) (by omega)
          refine lv_iinc (v := x_85) (lv' := [(8, .int (x_85)), (5, .int (i5_11)), (6, .int (i6_12)), (7, .int (i7_13)), (0, .ref x), (1, .int (a1)), (2, .int (a2)), (3, .int (a3)), (4, .int (a4))]) X.1 X.2.1 dX12_mix_350 hl (k := 3) rfl (by rw [ex_85]; rfl) (by decide) rfl (fun ls hl => ?_)
          refine lv_goto (tgt := 299) X.1 X.2.1 dX12_mix_353 (by decide) ?_
          have t_87 : At S_78 x 12 := tAt_sA eS_78 t_69
          have zc_88 : zA S_52 x 1258 = zA T_15 x 1258 := zA_sAn eS_52 (ex3 (gQ_12_1258 hO_T_15.1 ha_x_L_16)) h_43 rfl
          have zc_89 : zA S_78 x 1258 = zA T_15 x 1258 := (zA_sAn eS_78 (ex3 (gQ_12_1258 hO_53.1 t_69)) h_72 rfl).trans zc_88
          have zc_90 : zA S_52 x 1259 = zA T_15 x 1259 := zA_sAn eS_52 (ex3 (gQ_12_1259 hO_T_15.1 ha_x_L_16)) h_43 rfl
          have zc_91 : zA S_78 x 1259 = zA T_15 x 1259 := (zA_sAn eS_78 (ex3 (gQ_12_1259 hO_53.1 t_69)) h_72 rfl).trans zc_90
          have zc_92 : zA S_52 x 1260 = zA T_15 x 1260 := zA_sAn eS_52 (ex3 (gQ_12_1260 hO_T_15.1 ha_x_L_16)) h_43 rfl
          have zc_93 : zA S_78 x 1260 = zA T_15 x 1260 := (zA_sAn eS_78 (ex3 (gQ_12_1260 hO_53.1 t_69)) h_72 rfl).trans zc_92
          have zc_94 : zA S_78 x 1261 = zA S_52 x 1261 := zA_sAn eS_78 (ex3 (gQ_12_1261 hO_53.1 t_69)) h_72 rfl
          have zs_95 : ∀ j, zA S_78 x 1261 j = if j = (v_49.toInt).toNat then 1 else zA T_15 x 1261 j := fun j => by rw [zc_94]; exact zs_55 j
          have zc_96 : zA S_52 x 1244 = zA T_15 x 1244 := zA_sAn eS_52 (ex3 (gQ_12_1244 hO_T_15.1 ha_x_L_16)) h_43 rfl
          exact ih_L_10 _ (by omega) _ _ _ _ (i5_11) (i5_11_z) (i6_12) (i6_12_z) (i7_13) (i7_13_z) (x_85) (x_85.toInt) rfl hw hz_i5_11 (by omega) hz_i6_12 (by omega) hz_i7_13 rfl (by omega) t_87 hO_79 iv_17 iv_18 iv_19 (OfR_eq zc_89 zc_91 zc_93 iv_20) (by obtain ⟨t, ht⟩ : ∃ t, (ofN (siZ S x) (mA S x 1248) (loZ S x) (hiZ S x) a2_z a3_z Ls Ls.length)[(i8_14_z).toNat]? = some t := ⟨_, List.getElem?_eq_getElem (by omega)⟩; have m := iv_20 _ _ ht; have hp := (hOin.2.2 t (List.mem_of_getElem? ht)).1; rw [show (x_85.toInt).toNat = (i8_14_z).toNat + 1 by omega]; exact MkR_y ht hp.1 (bt_37.mp (by omega)) (fun j => by rw [zs_95 j, show (v_49.toInt).toNat = t.1.toNat by omega]) ⟨fun _ j => (by rw [zs_84 j, show (v_49.toInt).toNat = t.1.toNat by omega]), fun z => absurd (by omega) z⟩ iv_21) (by omega) (by omega) (lv_sub hl [1, 2, 3, 0, 4, 5, 6, 7, 8] rfl)
      · have z_b_97 := trivial
        have k_98 : v_35.toInt = 0 := z_eq rfl ti_0 c_38
        refine lv_goto (tgt := 350) X.1 X.2.1 dX12_mix_316 (by decide) ?_
        obtain ⟨x_99, ex_99⟩ : ∃ y : Int32, y = i8_14 + 1 := ⟨_, rfl⟩
        have z_100 : x_99.toInt = i8_14_z + 1 := z_add ex_99 hz_i8_14 ti_1 (by omega) (by omega)
        refine lv_iinc (v := x_99) (lv' := [(8, .int (x_99)), (5, .int (i5_11)), (6, .int (i6_12)), (7, .int (i7_13)), (0, .ref x), (1, .int (a1)), (2, .int (a2)), (3, .int (a3)), (4, .int (a4))]) X.1 X.2.1 dX12_mix_350 hl (k := 3) rfl (by rw [ex_99]; rfl) (by decide) rfl (fun ls hl => ?_)
        refine lv_goto (tgt := 299) X.1 X.2.1 dX12_mix_353 (by decide) ?_
        exact ih_L_10 _ (by omega) _ _ _ _ (i5_11) (i5_11_z) (i6_12) (i6_12_z) (i7_13) (i7_13_z) (x_99) (x_99.toInt) rfl hw hz_i5_11 (by omega) hz_i6_12 (by omega) hz_i7_13 rfl (by omega) ha_x_L_16 hO_T_15 iv_17 iv_18 iv_19 (OfR_eq rfl rfl rfl iv_20) (by obtain ⟨t, ht⟩ : ∃ t, (ofN (siZ S x) (mA S x 1248) (loZ S x) (hiZ S x) a2_z a3_z Ls Ls.length)[(i8_14_z).toNat]? = some t := ⟨_, List.getElem?_eq_getElem (by omega)⟩; rw [show (x_99.toInt).toNat = (i8_14_z).toNat + 1 by omega]; exact MkR_n ht (fun z => absurd (bt_37.mpr z) (by omega)) iv_21) (by omega) (by omega) (lv_sub hl [1, 2, 3, 0, 4, 5, 6, 7, 8] rfl)
  have zc_108 : zA S_5 x 1244 = zA S x 1244 := zA_sI eS_5
  have L_101 : ∀ (n : Nat) (T_106 : PS) (H : Heap) (locs : List Loc) (ls : Array Slot) (i5_102 : Int32) (i5_102_z : Int) (i6_103 : Int32) (i6_103_z : Int) (i7_104 : Int32) (i7_104_z : Int) (i8_105 : Int32) (i8_105_z : Int), ((40 - i8_105_z).toNat = n) → (Wd G cy (AS S s.heap.size) s.heap T_106 H locs) → (i5_102.toInt = i5_102_z) → (0 ≤ i5_102_z ∧ i5_102_z ≤ 14) → (i6_103.toInt = i6_103_z) → (0 ≤ i6_103_z ∧ i6_103_z ≤ 2147483647) → (i7_104.toInt = i7_104_z) → (i8_105.toInt = i8_105_z) → (0 ≤ i8_105_z ∧ i8_105_z ≤ 40) → (At T_106 x 12) → (Ok Mmi S T_106) → (zA T_106 x 1244 = zA S x 1244) → (i5_102_z = ((ofN (siZ S x) (mA S x 1248) (loZ S x) (hiZ S x) a2_z a3_z Ls Ls.length).length : Int)) → (opt ((ofN (siZ S x) (mA S x 1248) (loZ S x) (hiZ S x) a2_z a3_z Ls Ls.length).map itI) a1_z = some (i7_104_z, (i6_103_z).toNat)) → (i6_103_z < 16384) → (OfR T_106 x (ofN (siZ S x) (mA S x 1248) (loZ S x) (hiZ S x) a2_z a3_z Ls Ls.length)) → ((∀ j : Nat, (j : Int) < i8_105_z → zA T_106 x 1261 j = 0)) → (1 ≤ a1_z) → (lv_has ls 13 [(5, .int (i5_102)), (6, .int (i6_103)), (7, .int (i7_104)), (8, .int (i8_105)), (0, .ref x), (1, .int (a1)), (2, .int (a2)), (3, .int (a3)), (4, .int (a4))]) → W p l e ({ frames := 8, cells := 0, slots := 0, locals := 384 }) s m [.ref x, .int (a1), .int (a2), .int (a3), .int (a4)].toArray below meth c H locs 0 0 QQ (F0 m 275 ls []) := by
    intro n
    induction n using Nat.strongRecOn with
    | ind n ih_L_101 =>
    intro T_106 H locs ls i5_102 i5_102_z i6_103 i6_103_z i7_104 i7_104_z i8_105 i8_105_z hn hw hz_i5_102 hr_i5_102 hz_i6_103 hr_i6_103 hz_i7_104 hz_i8_105 hr_i8_105 ha_x_L_107 hO_T_106 zk_109 iv_110 iv_111 iv_112 iv_113 iv_114 iv_115 hl
    have rg_116 : (-2147483648) ≤ i5_102_z ∧ i5_102_z ≤ 2147483647 := by rw [← hz_i5_102]; exact ⟨z_lo _, z_hi _⟩
    have rg_117 : (-2147483648) ≤ i6_103_z ∧ i6_103_z ≤ 2147483647 := by rw [← hz_i6_103]; exact ⟨z_lo _, z_hi _⟩
    have rg_118 : (-2147483648) ≤ i7_104_z ∧ i7_104_z ≤ 2147483647 := by rw [← hz_i7_104]; exact ⟨z_lo _, z_hi _⟩
    have rg_119 : (-2147483648) ≤ i8_105_z ∧ i8_105_z ≤ 2147483647 := by rw [← hz_i8_105]; exact ⟨z_lo _, z_hi _⟩
    refine lv_iload X.1 X.2.1 dX12_mix_275 (lv_at hl 3 rfl) ?_
    refine lv_bipush (v := 40) X.1 X.2.1 dX12_mix_277 (by decide) ?_
    refine lv_icmp_ge (tgt := 296) X.1 X.2.1 dX12_mix_279 (by decide) (fun c_120 => ?_) (fun c_120 => ?_)
    · have z_b_121 := trivial
      have k_122 : i8_105_z ≥ 40 := z_le ti_40 hz_i8_105 c_120
      refine lv_iconst (v := 0) X.1 X.2.1 dX12_mix_296 (by decide) ?_
      refine lv_istore (lv' := [(8, .int 0), (5, .int (i5_102)), (6, .int (i6_103)), (7, .int (i7_104)), (0, .ref x), (1, .int (a1)), (2, .int (a2)), (3, .int (a3)), (4, .int (a4))]) X.1 X.2.1 dX12_mix_297 hl (by decide) rfl (fun ls hl => ?_)
      exact L_10 _ _ _ _ _ (i5_102) (i5_102_z) (i6_103) (i6_103_z) (i7_104) (i7_104_z) (0) (0) rfl hw hz_i5_102 (by omega) hz_i6_103 (by omega) hz_i7_104 ti_0 (by omega) ha_x_L_107 hO_T_106 iv_110 iv_111 iv_112 (OfR_eq rfl rfl rfl iv_113) (MkR_0 (fun j hj => iv_114 j (by omega)) zk_109) (by omega) (by omega) (lv_sub hl [1, 2, 3, 0, 4, 5, 6, 7, 8] rfl)
    · have z_b_123 := trivial
      have k_124 : i8_105_z < 40 := z_nle ti_40 hz_i8_105 c_120
      refine lv_aload_n X.1 X.2.1 dX12_mix_282 rfl (lv_at hl 4 rfl) ?_
      obtain ⟨q_125, h_126, h_127, h_128⟩ := gQ_12_1261 hO_T_106.1 ha_x_L_107
      refine r_getR (g := 1261) X hw ha_x_L_107 rfl 61 h_126 (by decide) rfl inn_X12_mix_12 (by decide) (X.2.2.2.1 (.fieldLink RX12 149 "SilkMillModel" "isMixed" "[Z") (by decide +kernel)) rfl (gv_1261 _ _) dX12_mix_283 ?_
      refine lv_iload X.1 X.2.1 dX12_mix_286 (lv_at hl 3 rfl) ?_
      refine lv_iconst (v := 0) X.1 X.2.1 dX12_mix_288 (by decide) ?_
      refine r_zast X hw h_127 rfl (by rw [h_128]; exact z_ix hz_i8_105 (by omega) (by omega)) dX12_mix_289 (fun H locs hw => ?_)
      obtain ⟨S_129, eS_129⟩ : ∃ T, T = sA T_106 q_125 (upd (pA T_106 q_125) (Int32.toNatClampNeg (i8_105)) (vp_nar .boolean (0))) := ⟨_, rfl⟩
      rw [← eS_129] at hw
      have hO_130 : Ok Mmi S S_129 := hO_T_106.sA eS_129 h_127 (by decide +kernel) (uA_1435 hO_T_106.1 h_127)
      have t_131 : pR S_129 1261 x = some q_125 := tR_sA eS_129 h_126
      have t_133 : pR T_106 1261 x = some q_125 := by have h := t_131; rw [eS_129, pR_sA] at h; exact h
      have zs_132 : ∀ j, zA S_129 x 1261 j = if j = (i8_105_z).toNat then 0 else zA T_106 x 1261 j := by have h := zA_sAs eS_129 t_133 nar0; rw [z_nc hz_i8_105 (by omega)] at h; exact h
      obtain ⟨x_134, ex_134⟩ : ∃ y : Int32, y = i8_105 + 1 := ⟨_, rfl⟩
      have z_135 : x_134.toInt = i8_105_z + 1 := z_add ex_134 hz_i8_105 ti_1 (by omega) (by omega)
      refine lv_iinc (v := x_134) (lv' := [(8, .int (x_134)), (5, .int (i5_102)), (6, .int (i6_103)), (7, .int (i7_104)), (0, .ref x), (1, .int (a1)), (2, .int (a2)), (3, .int (a3)), (4, .int (a4))]) X.1 X.2.1 dX12_mix_290 hl (k := 3) rfl (by rw [ex_134]; rfl) (by decide) rfl (fun ls hl => ?_)
      refine lv_goto (tgt := 275) X.1 X.2.1 dX12_mix_293 (by decide) ?_
      have t_136 : At S_129 x 12 := tAt_sA eS_129 ha_x_L_107
      have zc_137 : zA S_129 x 1244 = zA S x 1244 := (zA_sAn eS_129 (ex3 (gQ_12_1244 hO_T_106.1 ha_x_L_107)) h_127 rfl).trans zk_109
      have zc_138 : zA S_129 x 1258 = zA T_106 x 1258 := zA_sAn eS_129 (ex3 (gQ_12_1258 hO_T_106.1 ha_x_L_107)) h_127 rfl
      have zc_139 : zA S_129 x 1259 = zA T_106 x 1259 := zA_sAn eS_129 (ex3 (gQ_12_1259 hO_T_106.1 ha_x_L_107)) h_127 rfl
      have zc_140 : zA S_129 x 1260 = zA T_106 x 1260 := zA_sAn eS_129 (ex3 (gQ_12_1260 hO_T_106.1 ha_x_L_107)) h_127 rfl
      exact ih_L_101 _ (by omega) _ _ _ _ (i5_102) (i5_102_z) (i6_103) (i6_103_z) (i7_104) (i7_104_z) (x_134) (x_134.toInt) rfl hw hz_i5_102 (by omega) hz_i6_103 (by omega) hz_i7_104 rfl (by omega) t_136 hO_130 zc_137 iv_110 iv_111 iv_112 (OfR_eq zc_138 zc_139 zc_140 iv_113) (fun j hj => by rw [zs_132 j]; exact if c : j = (i8_105_z).toNat then (if_pos c) else ((if_neg c).trans (iv_114 j (by omega)))) (by omega) (lv_sub hl [1, 2, 3, 0, 4, 5, 6, 7, 8] rfl)
  have zc_149 : zA S_5 x 1261 = zA S x 1261 := zA_sI eS_5
  have L_141 : ∀ (n : Nat) (T_146 : PS) (H : Heap) (locs : List Loc) (ls : Array Slot) (i5_142 : Int32) (i5_142_z : Int) (i6_143 : Int32) (i6_143_z : Int) (i7_144 : Int32) (i7_144_z : Int) (i8_145 : Int32) (i8_145_z : Int), ((2147483647 - i8_145_z).toNat = n) → (Wd G cy (AS S s.heap.size) s.heap T_146 H locs) → (i5_142.toInt = i5_142_z) → (0 ≤ i5_142_z ∧ i5_142_z ≤ 14) → (i6_143.toInt = i6_143_z) → (0 ≤ i6_143_z ∧ i6_143_z ≤ 2147483647) → (i7_144.toInt = i7_144_z) → (i8_145.toInt = i8_145_z) → (1 ≤ i8_145_z ∧ i8_145_z ≤ 2147483647) → (At T_146 x 12) → (Ok Mmi S T_146) → (zA T_146 x 1244 = zA S x 1244) → (zA T_146 x 1261 = zA S x 1261) → ((1 ≤ a1_z → OfR T_146 x (ofN (siZ S x) (mA S x 1248) (loZ S x) (hiZ S x) a2_z a3_z Ls Ls.length))) → ((1 ≤ a1_z → i5_142_z = ((ofN (siZ S x) (mA S x 1248) (loZ S x) (hiZ S x) a2_z a3_z Ls Ls.length).length : Int))) → ((a1_z < 1 → i5_142_z = 0)) → ((1 ≤ a1_z → Enm ((ofN (siZ S x) (mA S x 1248) (loZ S x) (hiZ S x) a2_z a3_z Ls Ls.length).map itI) a1_z (i8_145_z).toNat i7_144_z (i6_143_z).toNat)) → ((a1_z < 1 → i7_144_z = -1)) → (0 ≤ i6_143_z) → (i8_145_z ≤ ((2 ^ (i5_142_z).toNat : Nat) : Int)) → (lv_has ls 13 [(5, .int (i5_142)), (6, .int (i6_143)), (7, .int (i7_144)), (8, .int (i8_145)), (0, .ref x), (1, .int (a1)), (2, .int (a2)), (3, .int (a3)), (4, .int (a4))]) → W p l e ({ frames := 8, cells := 0, slots := 0, locals := 384 }) s m [.ref x, .int (a1), .int (a2), .int (a3), .int (a4)].toArray below meth c H locs 0 0 QQ (F0 m 119 ls []) := by
    intro n
    induction n using Nat.strongRecOn with
    | ind n ih_L_141 =>
    intro T_146 H locs ls i5_142 i5_142_z i6_143 i6_143_z i7_144 i7_144_z i8_145 i8_145_z hn hw hz_i5_142 hr_i5_142 hz_i6_143 hr_i6_143 hz_i7_144 hz_i8_145 hr_i8_145 ha_x_L_147 hO_T_146 zk_148 zk_150 iv_151 iv_152 iv_153 iv_154 iv_155 iv_156 iv_157 hl
    have rg_158 : (-2147483648) ≤ i5_142_z ∧ i5_142_z ≤ 2147483647 := by rw [← hz_i5_142]; exact ⟨z_lo _, z_hi _⟩
    have rg_159 : (-2147483648) ≤ i6_143_z ∧ i6_143_z ≤ 2147483647 := by rw [← hz_i6_143]; exact ⟨z_lo _, z_hi _⟩
    have rg_160 : (-2147483648) ≤ i7_144_z ∧ i7_144_z ≤ 2147483647 := by rw [← hz_i7_144]; exact ⟨z_lo _, z_hi _⟩
    have rg_161 : (-2147483648) ≤ i8_145_z ∧ i8_145_z ≤ 2147483647 := by rw [← hz_i8_145]; exact ⟨z_lo _, z_hi _⟩
    refine lv_iload X.1 X.2.1 dX12_mix_119 (lv_at hl 3 rfl) ?_
    refine lv_iconst (v := 1) X.1 X.2.1 dX12_mix_121 (by decide) ?_
    refine lv_iload X.1 X.2.1 dX12_mix_122 (lv_at hl 0 rfl) ?_
    refine lv_ishl X.1 X.2.1 dX12_mix_124 ?_
    refine lv_topi (fun v_162 ev_162 => ?_)
    have rg_163 := And.intro (z_lo v_162) (z_hi v_162)
    have sh_164 : v_162.toInt = ((2 ^ (i5_142_z).toNat : Nat) : Int) := z_shl ev_162 (hz_i5_142.trans (by omega)) (by omega)
    refine lv_icmp_ge (tgt := 264) X.1 X.2.1 dX12_mix_125 (by decide) (fun c_165 => ?_) (fun c_165 => ?_)
    · have z_b_166 := trivial
      have k_167 : i8_145_z ≥ v_162.toInt := z_le rfl hz_i8_145 c_165
      refine lv_iload X.1 X.2.1 dX12_mix_264 (lv_at hl 2 rfl) ?_
      refine lv_iconst (v := (-1)) X.1 X.2.1 dX12_mix_266 (by decide) ?_
      refine lv_icmp_ne (tgt := 272) X.1 X.2.1 dX12_mix_267 (by decide) (fun c_168 => ?_) (fun c_168 => ?_)
      · have z_b_169 := trivial
        have k_170 : i7_144_z ≠ (-1) := z_ne hz_i7_144 ti_m1 c_168
        have hw1 : 1 ≤ a1_z := by
          refine Classical.byContradiction (fun c => ?_)
          have k := iv_155 (by omega)
          omega
        have k_173 := iv_152 hw1
        have sh_171 := sh_164
        rw [show (i5_142_z).toNat = ((ofN (siZ S x) (mA S x 1248) (loZ S x) (hiZ S x) a2_z a3_z Ls Ls.length).map itI).length by rw [List.length_map]; omega] at sh_171
        have en_172 := iv_154 hw1
        rw [show (i8_145_z).toNat = 2 ^ ((ofN (siZ S x) (mA S x 1248) (loZ S x) (hiZ S x) a2_z a3_z Ls Ls.length).map itI).length by omega] at en_172
        have op_174 : opt ((ofN (siZ S x) (mA S x 1248) (loZ S x) (hiZ S x) a2_z a3_z Ls Ls.length).map itI) a1_z = some (i7_144_z, (i6_143_z).toNat) := by
          rcases enm_end en_172 with ⟨h, -⟩ | ⟨-, h⟩
          · omega
          · exact h
        have bs_175 := ((opt_bs _ _).1 _ op_174).1
        have p2_176 : 2 ^ ((ofN (siZ S x) (mA S x 1248) (loZ S x) (hiZ S x) a2_z a3_z Ls Ls.length).map itI).length ≤ 2 ^ 14 := Nat.pow_le_pow_right (by omega) (by rw [List.length_map]; exact hOin.1)
        refine lv_iconst (v := 0) X.1 X.2.1 dX12_mix_272 (by decide) ?_
        refine lv_istore (lv' := [(8, .int 0), (5, .int (i5_142)), (6, .int (i6_143)), (7, .int (i7_144)), (0, .ref x), (1, .int (a1)), (2, .int (a2)), (3, .int (a3)), (4, .int (a4))]) X.1 X.2.1 dX12_mix_273 hl (by decide) rfl (fun ls hl => ?_)
        exact L_101 _ _ _ _ _ (i5_142) (i5_142_z) (i6_143) (i6_143_z) (i7_144) (i7_144_z) (0) (0) rfl hw hz_i5_142 (by omega) hz_i6_143 (by omega) hz_i7_144 ti_0 (by omega) ha_x_L_147 hO_T_146 zk_148 (by have k := iv_152 hw1; omega) op_174 (by have h1 : (i6_143_z).toNat < 2 ^ ((ofN (siZ S x) (mA S x 1248) (loZ S x) (hiZ S x) a2_z a3_z Ls Ls.length).map itI).length := bs_175; have h2 : (2 : Nat) ^ 14 = 16384 := (by decide); omega) (iv_151 hw1) (fun j hj => absurd hj (by omega)) (by omega) (lv_sub hl [1, 2, 3, 0, 4, 5, 6, 7, 8] rfl)
      · have z_b_177 := trivial
        have k_178 : i7_144_z = (-1) := z_eq hz_i7_144 ti_m1 c_168
        refine lv_iconst (v := (-1)) X.1 X.2.1 dX12_mix_270 (by decide) ?_
        rw [hQQ]
        exact ret_i X hw hr hlocks (Nat.le_of_ble_eq_true rfl) (Nat.le_of_ble_eq_true rfl) ⟨hO_T_146, ⟨z_lo _, z_hi _, fun _ => ⟨by decide, zk_148, zk_150⟩, fun h1 => ⟨fun _ => ⟨by decide, zk_148, zk_150⟩, fun y hy => (by rcases enm_end (by have h := iv_154 h1; have k := iv_152 h1; have sh := sh_164; rw [show (i5_142_z).toNat = ((ofN (siZ S x) (mA S x 1248) (loZ S x) (hiZ S x) a2_z a3_z Ls Ls.length).map itI).length by rw [List.length_map]; omega] at sh; rw [show (i8_145_z).toNat = 2 ^ ((ofN (siZ S x) (mA S x 1248) (loZ S x) (hiZ S x) a2_z a3_z Ls Ls.length).map itI).length by omega] at h; exact h) with ⟨-, h⟩ | ⟨h, -⟩ <;> first | (rw [h] at hy; cases hy) | (exfalso; omega))⟩⟩⟩ dX12_mix_271
    · have z_b_179 := trivial
      have k_180 : i8_145_z < v_162.toInt := z_nle rfl hz_i8_145 c_165
      refine lv_iconst (v := 0) X.1 X.2.1 dX12_mix_128 (by decide) ?_
      refine lv_istore (lv' := [(9, .int 0), (5, .int (i5_142)), (6, .int (i6_143)), (7, .int (i7_144)), (8, .int (i8_145)), (0, .ref x), (1, .int (a1)), (2, .int (a2)), (3, .int (a3)), (4, .int (a4))]) X.1 X.2.1 dX12_mix_129 hl (by decide) rfl (fun ls hl => ?_)
      refine lv_iconst (v := 0) X.1 X.2.1 dX12_mix_131 (by decide) ?_
      refine lv_istore (lv' := [(10, .int 0), (9, .int 0), (5, .int (i5_142)), (6, .int (i6_143)), (7, .int (i7_144)), (8, .int (i8_145)), (0, .ref x), (1, .int (a1)), (2, .int (a2)), (3, .int (a3)), (4, .int (a4))]) X.1 X.2.1 dX12_mix_132 hl (by decide) rfl (fun ls hl => ?_)
      refine lv_iconst (v := 0) X.1 X.2.1 dX12_mix_134 (by decide) ?_
      refine lv_istore (lv' := [(11, .int 0), (10, .int 0), (9, .int 0), (5, .int (i5_142)), (6, .int (i6_143)), (7, .int (i7_144)), (8, .int (i8_145)), (0, .ref x), (1, .int (a1)), (2, .int (a2)), (3, .int (a3)), (4, .int (a4))]) X.1 X.2.1 dX12_mix_135 hl (by decide) rfl (fun ls hl => ?_)
      have L_181 : ∀ (n : Nat) (H : Heap) (locs : List Loc) (ls : Array Slot) (i9_182 : Int32) (i9_182_z : Int) (i10_183 : Int32) (i10_183_z : Int) (i11_184 : Int32) (i11_184_z : Int), ((14 - i11_184_z).toNat = n) → (Wd G cy (AS S s.heap.size) s.heap T_146 H locs) → (i9_182.toInt = i9_182_z) → ((-2147483648) ≤ i9_182_z ∧ i9_182_z ≤ 2147483647) → (i10_183.toInt = i10_183_z) → ((-2147483648) ≤ i10_183_z ∧ i10_183_z ≤ 2147483647) → (i11_184.toInt = i11_184_z) → (0 ≤ i11_184_z ∧ i11_184_z ≤ 14) → ((1 ≤ a1_z → i9_182_z = sumB wIt (((ofN (siZ S x) (mA S x 1248) (loZ S x) (hiZ S x) a2_z a3_z Ls Ls.length).map itI).take (i11_184_z).toNat) (i8_145_z).toNat)) → ((1 ≤ a1_z → i10_183_z = sumB pIt (((ofN (siZ S x) (mA S x 1248) (loZ S x) (hiZ S x) a2_z a3_z Ls Ls.length).map itI).take (i11_184_z).toNat) (i8_145_z).toNat)) → (i11_184_z ≤ i5_142_z) → (lv_has ls 13 [(9, .int (i9_182)), (10, .int (i10_183)), (11, .int (i11_184)), (5, .int (i5_142)), (6, .int (i6_143)), (7, .int (i7_144)), (8, .int (i8_145)), (0, .ref x), (1, .int (a1)), (2, .int (a2)), (3, .int (a3)), (4, .int (a4))]) → W p l e ({ frames := 8, cells := 0, slots := 0, locals := 384 }) s m [.ref x, .int (a1), .int (a2), .int (a3), .int (a4)].toArray below meth c H locs 0 0 QQ (F0 m 137 ls []) := by
        intro n
        induction n using Nat.strongRecOn with
        | ind n ih_L_181 =>
        intro H locs ls i9_182 i9_182_z i10_183 i10_183_z i11_184 i11_184_z hn hw hz_i9_182 hr_i9_182 hz_i10_183 hr_i10_183 hz_i11_184 hr_i11_184 iv_185 iv_186 iv_187 hl
        have rg_188 : (-2147483648) ≤ i9_182_z ∧ i9_182_z ≤ 2147483647 := by rw [← hz_i9_182]; exact ⟨z_lo _, z_hi _⟩
        have rg_189 : (-2147483648) ≤ i10_183_z ∧ i10_183_z ≤ 2147483647 := by rw [← hz_i10_183]; exact ⟨z_lo _, z_hi _⟩
        have rg_190 : (-2147483648) ≤ i11_184_z ∧ i11_184_z ≤ 2147483647 := by rw [← hz_i11_184]; exact ⟨z_lo _, z_hi _⟩
        refine lv_iload X.1 X.2.1 dX12_mix_137 (lv_at hl 2 rfl) ?_
        refine lv_iload X.1 X.2.1 dX12_mix_139 (lv_at hl 3 rfl) ?_
        refine lv_icmp_ge (tgt := 187) X.1 X.2.1 dX12_mix_141 (by decide) (fun c_191 => ?_) (fun c_191 => ?_)
        · have z_b_192 := trivial
          have k_193 : i11_184_z ≥ i5_142_z := z_le hz_i5_142 hz_i11_184 c_191
          have sw_194 : 1 ≤ a1_z → i9_182_z = sumB wIt ((ofN (siZ S x) (mA S x 1248) (loZ S x) (hiZ S x) a2_z a3_z Ls Ls.length).map itI) (i8_145_z).toNat := fun h => by have e := iv_185 h; have k := iv_152 h; rw [show (i11_184_z).toNat = ((ofN (siZ S x) (mA S x 1248) (loZ S x) (hiZ S x) a2_z a3_z Ls Ls.length).map itI).length by rw [List.length_map]; omega, List.take_length] at e; exact e
          have sp_195 : 1 ≤ a1_z → i10_183_z = sumB pIt ((ofN (siZ S x) (mA S x 1248) (loZ S x) (hiZ S x) a2_z a3_z Ls Ls.length).map itI) (i8_145_z).toNat := fun h => by have e := iv_186 h; have k := iv_152 h; rw [show (i11_184_z).toNat = ((ofN (siZ S x) (mA S x 1248) (loZ S x) (hiZ S x) a2_z a3_z Ls Ls.length).map itI).length by rw [List.length_map]; omega, List.take_length] at e; exact e
          refine lv_iload X.1 X.2.1 dX12_mix_187 (lv_at hl 0 rfl) ?_
          refine lv_iload_n X.1 X.2.1 dX12_mix_189 rfl (lv_at hl 8 rfl) ?_
          refine lv_icmp_ge (tgt := 196) X.1 X.2.1 dX12_mix_190 (by decide) (fun c_196 => ?_) (fun c_196 => ?_)
          · have z_b_197 := trivial
            have k_198 : i9_182_z ≥ a1_z := z_le hz_a1 hz_i9_182 c_196
            refine lv_iload X.1 X.2.1 dX12_mix_196 (lv_at hl 6 rfl) ?_
            refine lv_iload X.1 X.2.1 dX12_mix_198 (lv_at hl 4 rfl) ?_
            refine lv_ixor X.1 X.2.1 dX12_mix_200 ?_
            refine lv_topi (fun v_199 ev_199 => ?_)
            have rg_200 := And.intro (z_lo v_199) (z_hi v_199)
            refine lv_istore (lv' := [(11, .int (v_199)), (9, .int (i9_182)), (10, .int (i10_183)), (5, .int (i5_142)), (6, .int (i6_143)), (7, .int (i7_144)), (8, .int (i8_145)), (0, .ref x), (1, .int (a1)), (2, .int (a2)), (3, .int (a3)), (4, .int (a4))]) X.1 X.2.1 dX12_mix_201 hl (by decide) rfl (fun ls hl => ?_)
            refine lv_iload X.1 X.2.1 dX12_mix_203 (lv_at hl 6 rfl) ?_
            refine lv_iload X.1 X.2.1 dX12_mix_205 (lv_at hl 0 rfl) ?_
            refine lv_iand X.1 X.2.1 dX12_mix_207 ?_
            refine lv_topi (fun v_201 ev_201 => ?_)
            have rg_202 := And.intro (z_lo v_201) (z_hi v_201)
            refine lv_iload X.1 X.2.1 dX12_mix_208 (lv_at hl 0 rfl) ?_
            refine lv_ineg X.1 X.2.1 dX12_mix_210 ?_
            refine lv_topi (fun v_203 ev_203 => ?_)
            have rg_204 := And.intro (z_lo v_203) (z_hi v_203)
            refine lv_iand X.1 X.2.1 dX12_mix_211 ?_
            refine lv_topi (fun v_205 ev_205 => ?_)
            have rg_206 := And.intro (z_lo v_205) (z_hi v_205)
            have fl_207 : 1 ≤ a1_z → (v_205.toInt ≠ 0 ↔ lexB ((ofN (siZ S x) (mA S x 1248) (loZ S x) (hiZ S x) a2_z a3_z Ls Ls.length).map itI).length (i8_145_z).toNat (i6_143_z).toNat) := fun h => by
              have k := iv_152 h
              have sh := sh_164
              rw [show (i5_142_z).toNat = ((ofN (siZ S x) (mA S x 1248) (loZ S x) (hiZ S x) a2_z a3_z Ls Ls.length).map itI).length by rw [List.length_map]; omega] at sh
              have hu : (i6_143_z).toNat < (i8_145_z).toNat := by
                rcases iv_154 h with ⟨-, h2, -⟩ | ⟨-, h2, -⟩ <;> omega
              have f := i_first (n := ((ofN (siZ S x) (mA S x 1248) (loZ S x) (hiZ S x) a2_z a3_z Ls Ls.length).map itI).length) (hz_i8_145.trans (show i8_145_z = ((i8_145_z).toNat : Int) by omega)) (hz_i6_143.trans (show i6_143_z = ((i6_143_z).toNat : Int) by omega)) (by omega) (by omega) (by rw [List.length_map]; have := hOin.1; omega)
              rw [show (i8_145 &&& (i8_145 ^^^ i6_143)) &&& -(i8_145 ^^^ i6_143) = v_205 by rw [ev_205, ev_201, ev_203, ev_199]] at f
              exact ⟨fun z => f.mp (fun y => z (by rw [y]; decide)), fun z y => f.mpr z (z_eq0 y)⟩
            refine lv_if_eq (tgt := 219) X.1 X.2.1 dX12_mix_212 (by decide) (fun c_208 => ?_) (fun c_208 => ?_)
            · have z_b_209 := trivial
              have k_210 : v_205.toInt = 0 := z_eq rfl ti_0 c_208
              refine lv_iconst (v := 0) X.1 X.2.1 dX12_mix_219 (by decide) ?_
              refine lv_istore (lv' := [(12, .int 0), (11, .int (v_199)), (9, .int (i9_182)), (10, .int (i10_183)), (5, .int (i5_142)), (6, .int (i6_143)), (7, .int (i7_144)), (8, .int (i8_145)), (0, .ref x), (1, .int (a1)), (2, .int (a2)), (3, .int (a3)), (4, .int (a4))]) X.1 X.2.1 dX12_mix_220 hl (by decide) rfl (fun ls hl => ?_)
              refine lv_iload X.1 X.2.1 dX12_mix_222 (lv_at hl 6 rfl) ?_
              refine lv_iconst (v := (-1)) X.1 X.2.1 dX12_mix_224 (by decide) ?_
              refine lv_icmp_eq (tgt := 250) X.1 X.2.1 dX12_mix_225 (by decide) (fun c_211 => ?_) (fun c_211 => ?_)
              · have z_b_212 := trivial
                have k_213 : i7_144_z = (-1) := z_eq hz_i7_144 ti_m1 c_211
                refine lv_iload X.1 X.2.1 dX12_mix_250 (lv_at hl 7 rfl) ?_
                refine lv_istore (lv' := [(6, .int (i8_145)), (12, .int 0), (11, .int (v_199)), (9, .int (i9_182)), (10, .int (i10_183)), (5, .int (i5_142)), (7, .int (i7_144)), (8, .int (i8_145)), (0, .ref x), (1, .int (a1)), (2, .int (a2)), (3, .int (a3)), (4, .int (a4))]) X.1 X.2.1 dX12_mix_252 hl (by decide) rfl (fun ls hl => ?_)
                refine lv_iload X.1 X.2.1 dX12_mix_254 (lv_at hl 4 rfl) ?_
                refine lv_istore (lv' := [(7, .int (i10_183)), (6, .int (i8_145)), (12, .int 0), (11, .int (v_199)), (9, .int (i9_182)), (10, .int (i10_183)), (5, .int (i5_142)), (8, .int (i8_145)), (0, .ref x), (1, .int (a1)), (2, .int (a2)), (3, .int (a3)), (4, .int (a4))]) X.1 X.2.1 dX12_mix_256 hl (by decide) rfl (fun ls hl => ?_)
                obtain ⟨x_214, ex_214⟩ : ∃ y : Int32, y = i8_145 + 1 := ⟨_, rfl⟩
                have z_215 : x_214.toInt = i8_145_z + 1 := z_add ex_214 hz_i8_145 ti_1 (by omega) (by omega)
                refine lv_iinc (v := x_214) (lv' := [(8, .int (x_214)), (7, .int (i10_183)), (6, .int (i8_145)), (12, .int 0), (11, .int (v_199)), (9, .int (i9_182)), (10, .int (i10_183)), (5, .int (i5_142)), (0, .ref x), (1, .int (a1)), (2, .int (a2)), (3, .int (a3)), (4, .int (a4))]) X.1 X.2.1 dX12_mix_258 hl (k := 7) rfl (by rw [ex_214]; rfl) (by decide) rfl (fun ls hl => ?_)
                refine lv_goto (tgt := 119) X.1 X.2.1 dX12_mix_261 (by decide) ?_
                exact ih_L_141 _ (by omega) _ _ _ _ (i5_142) (i5_142_z) (i8_145) (i8_145_z) (i10_183) (i10_183_z) (x_214) (x_214.toInt) rfl hw hz_i5_142 (by omega) hz_i8_145 (by omega) hz_i10_183 rfl (by omega) ha_x_L_147 hO_T_146 zk_148 zk_150 iv_151 iv_152 iv_153 (fun h => by have k := sp_195 h; have t := enm_ta (nn_of hp_3) (iv_154 h) (by have k := sw_194 h; omega) (Or.inl (by omega)); rw [← k] at t; rw [show (x_214.toInt).toNat = (i8_145_z).toNat + 1 by omega]; exact t) (fun h => by exfalso; have sh := sh_164; rw [show (i5_142_z).toNat = 0 by have k := iv_153 (by omega); omega] at sh; omega) (by omega) (by have sh := sh_164; omega) (lv_sub hl [7, 2, 1, 0, 8, 9, 10, 11, 12] rfl)
              · have z_b_216 := trivial
                have k_217 : i7_144_z ≠ (-1) := z_ne hz_i7_144 ti_m1 c_211
                refine lv_iload X.1 X.2.1 dX12_mix_228 (lv_at hl 3 rfl) ?_
                refine lv_iload X.1 X.2.1 dX12_mix_230 (lv_at hl 6 rfl) ?_
                refine lv_icmp_gt (tgt := 258) X.1 X.2.1 dX12_mix_232 (by decide) (fun c_218 => ?_) (fun c_218 => ?_)
                · have z_b_219 := trivial
                  have k_220 : i10_183_z > i7_144_z := z_lt hz_i7_144 hz_i10_183 c_218
                  obtain ⟨x_221, ex_221⟩ : ∃ y : Int32, y = i8_145 + 1 := ⟨_, rfl⟩
                  have z_222 : x_221.toInt = i8_145_z + 1 := z_add ex_221 hz_i8_145 ti_1 (by omega) (by omega)
                  refine lv_iinc (v := x_221) (lv' := [(8, .int (x_221)), (12, .int 0), (11, .int (v_199)), (9, .int (i9_182)), (10, .int (i10_183)), (5, .int (i5_142)), (6, .int (i6_143)), (7, .int (i7_144)), (0, .ref x), (1, .int (a1)), (2, .int (a2)), (3, .int (a3)), (4, .int (a4))]) X.1 X.2.1 dX12_mix_258 hl (k := 7) rfl (by rw [ex_221]; rfl) (by decide) rfl (fun ls hl => ?_)
                  refine lv_goto (tgt := 119) X.1 X.2.1 dX12_mix_261 (by decide) ?_
                  exact ih_L_141 _ (by omega) _ _ _ _ (i5_142) (i5_142_z) (i6_143) (i6_143_z) (i7_144) (i7_144_z) (x_221) (x_221.toInt) rfl hw hz_i5_142 (by omega) hz_i6_143 (by omega) hz_i7_144 rfl (by omega) ha_x_L_147 hO_T_146 zk_148 zk_150 iv_151 iv_152 iv_153 (fun h => by rw [show (x_221.toInt).toNat = (i8_145_z).toNat + 1 by omega]; exact enm_ke (by rw [List.length_map]; have k := iv_152 h; have sh := sh_164; rw [show (i5_142_z).toNat = (ofN (siZ S x) (mA S x 1248) (loZ S x) (hiZ S x) a2_z a3_z Ls Ls.length).length by omega] at sh; omega) (iv_154 h) (by omega) (Or.inl (by have k := sp_195 h; omega))) (fun h => by exfalso; have sh := sh_164; rw [show (i5_142_z).toNat = 0 by have k := iv_153 (by omega); omega] at sh; omega) (by omega) (by have sh := sh_164; omega) (lv_sub hl [5, 6, 7, 0, 8, 9, 10, 11, 12] rfl)
                · have z_b_223 := trivial
                  have k_224 : i10_183_z ≤ i7_144_z := z_nlt hz_i7_144 hz_i10_183 c_218
                  refine lv_iload X.1 X.2.1 dX12_mix_235 (lv_at hl 3 rfl) ?_
                  refine lv_iload X.1 X.2.1 dX12_mix_237 (lv_at hl 6 rfl) ?_
                  refine lv_icmp_ne (tgt := 250) X.1 X.2.1 dX12_mix_239 (by decide) (fun c_225 => ?_) (fun c_225 => ?_)
                  · have z_b_226 := trivial
                    have k_227 : i10_183_z ≠ i7_144_z := z_ne hz_i10_183 hz_i7_144 c_225
                    refine lv_iload X.1 X.2.1 dX12_mix_250 (lv_at hl 7 rfl) ?_
                    refine lv_istore (lv' := [(6, .int (i8_145)), (12, .int 0), (11, .int (v_199)), (9, .int (i9_182)), (10, .int (i10_183)), (5, .int (i5_142)), (7, .int (i7_144)), (8, .int (i8_145)), (0, .ref x), (1, .int (a1)), (2, .int (a2)), (3, .int (a3)), (4, .int (a4))]) X.1 X.2.1 dX12_mix_252 hl (by decide) rfl (fun ls hl => ?_)
                    refine lv_iload X.1 X.2.1 dX12_mix_254 (lv_at hl 4 rfl) ?_
                    refine lv_istore (lv' := [(7, .int (i10_183)), (6, .int (i8_145)), (12, .int 0), (11, .int (v_199)), (9, .int (i9_182)), (10, .int (i10_183)), (5, .int (i5_142)), (8, .int (i8_145)), (0, .ref x), (1, .int (a1)), (2, .int (a2)), (3, .int (a3)), (4, .int (a4))]) X.1 X.2.1 dX12_mix_256 hl (by decide) rfl (fun ls hl => ?_)
                    obtain ⟨x_228, ex_228⟩ : ∃ y : Int32, y = i8_145 + 1 := ⟨_, rfl⟩
                    have z_229 : x_228.toInt = i8_145_z + 1 := z_add ex_228 hz_i8_145 ti_1 (by omega) (by omega)
                    refine lv_iinc (v := x_228) (lv' := [(8, .int (x_228)), (7, .int (i10_183)), (6, .int (i8_145)), (12, .int 0), (11, .int (v_199)), (9, .int (i9_182)), (10, .int (i10_183)), (5, .int (i5_142)), (0, .ref x), (1, .int (a1)), (2, .int (a2)), (3, .int (a3)), (4, .int (a4))]) X.1 X.2.1 dX12_mix_258 hl (k := 7) rfl (by rw [ex_228]; rfl) (by decide) rfl (fun ls hl => ?_)
                    refine lv_goto (tgt := 119) X.1 X.2.1 dX12_mix_261 (by decide) ?_
                    exact ih_L_141 _ (by omega) _ _ _ _ (i5_142) (i5_142_z) (i8_145) (i8_145_z) (i10_183) (i10_183_z) (x_228) (x_228.toInt) rfl hw hz_i5_142 (by omega) hz_i8_145 (by omega) hz_i10_183 rfl (by omega) ha_x_L_147 hO_T_146 zk_148 zk_150 iv_151 iv_152 iv_153 (fun h => by have k := sp_195 h; have t := enm_ta (nn_of hp_3) (iv_154 h) (by have k := sw_194 h; omega) (Or.inr (Or.inl (by have k := sp_195 h; omega))); rw [← k] at t; rw [show (x_228.toInt).toNat = (i8_145_z).toNat + 1 by omega]; exact t) (fun h => by exfalso; have sh := sh_164; rw [show (i5_142_z).toNat = 0 by have k := iv_153 (by omega); omega] at sh; omega) (by omega) (by have sh := sh_164; omega) (lv_sub hl [7, 2, 1, 0, 8, 9, 10, 11, 12] rfl)
                  · have z_b_230 := trivial
                    have k_231 : i10_183_z = i7_144_z := z_eq hz_i10_183 hz_i7_144 c_225
                    refine lv_iload X.1 X.2.1 dX12_mix_242 (lv_at hl 0 rfl) ?_
                    refine lv_if_ne (tgt := 250) X.1 X.2.1 dX12_mix_244 (by decide) (fun c_232 => absurd c_232 (by decide)) (fun c_232 => ?_)
                    refine lv_goto (tgt := 258) X.1 X.2.1 dX12_mix_247 (by decide) ?_
                    obtain ⟨x_233, ex_233⟩ : ∃ y : Int32, y = i8_145 + 1 := ⟨_, rfl⟩
                    have z_234 : x_233.toInt = i8_145_z + 1 := z_add ex_233 hz_i8_145 ti_1 (by omega) (by omega)
                    refine lv_iinc (v := x_233) (lv' := [(8, .int (x_233)), (12, .int 0), (11, .int (v_199)), (9, .int (i9_182)), (10, .int (i10_183)), (5, .int (i5_142)), (6, .int (i6_143)), (7, .int (i7_144)), (0, .ref x), (1, .int (a1)), (2, .int (a2)), (3, .int (a3)), (4, .int (a4))]) X.1 X.2.1 dX12_mix_258 hl (k := 7) rfl (by rw [ex_233]; rfl) (by decide) rfl (fun ls hl => ?_)
                    refine lv_goto (tgt := 119) X.1 X.2.1 dX12_mix_261 (by decide) ?_
                    exact ih_L_141 _ (by omega) _ _ _ _ (i5_142) (i5_142_z) (i6_143) (i6_143_z) (i7_144) (i7_144_z) (x_233) (x_233.toInt) rfl hw hz_i5_142 (by omega) hz_i6_143 (by omega) hz_i7_144 rfl (by omega) ha_x_L_147 hO_T_146 zk_148 zk_150 iv_151 iv_152 iv_153 (fun h => by rw [show (x_233.toInt).toNat = (i8_145_z).toNat + 1 by omega]; exact enm_ke (by rw [List.length_map]; have k := iv_152 h; have sh := sh_164; rw [show (i5_142_z).toNat = (ofN (siZ S x) (mA S x 1248) (loZ S x) (hiZ S x) a2_z a3_z Ls Ls.length).length by omega] at sh; omega) (iv_154 h) (by omega) (Or.inr ⟨by have k := sp_195 h; omega, fun z => absurd ((fl_207 h).mpr z) (by omega)⟩)) (fun h => by exfalso; have sh := sh_164; rw [show (i5_142_z).toNat = 0 by have k := iv_153 (by omega); omega] at sh; omega) (by omega) (by have sh := sh_164; omega) (lv_sub hl [5, 6, 7, 0, 8, 9, 10, 11, 12] rfl)
            · have z_b_235 := trivial
              have k_236 : v_205.toInt ≠ 0 := z_ne rfl ti_0 c_208
              refine lv_iconst (v := 1) X.1 X.2.1 dX12_mix_215 (by decide) ?_
              refine lv_goto (tgt := 220) X.1 X.2.1 dX12_mix_216 (by decide) ?_
              refine lv_istore (lv' := [(12, .int 1), (11, .int (v_199)), (9, .int (i9_182)), (10, .int (i10_183)), (5, .int (i5_142)), (6, .int (i6_143)), (7, .int (i7_144)), (8, .int (i8_145)), (0, .ref x), (1, .int (a1)), (2, .int (a2)), (3, .int (a3)), (4, .int (a4))]) X.1 X.2.1 dX12_mix_220 hl (by decide) rfl (fun ls hl => ?_)
              refine lv_iload X.1 X.2.1 dX12_mix_222 (lv_at hl 6 rfl) ?_
              refine lv_iconst (v := (-1)) X.1 X.2.1 dX12_mix_224 (by decide) ?_
              refine lv_icmp_eq (tgt := 250) X.1 X.2.1 dX12_mix_225 (by decide) (fun c_237 => ?_) (fun c_237 => ?_)
              · have z_b_238 := trivial
                have k_239 : i7_144_z = (-1) := z_eq hz_i7_144 ti_m1 c_237
                refine lv_iload X.1 X.2.1 dX12_mix_250 (lv_at hl 7 rfl) ?_
                refine lv_istore (lv' := [(6, .int (i8_145)), (12, .int 1), (11, .int (v_199)), (9, .int (i9_182)), (10, .int (i10_183)), (5, .int (i5_142)), (7, .int (i7_144)), (8, .int (i8_145)), (0, .ref x), (1, .int (a1)), (2, .int (a2)), (3, .int (a3)), (4, .int (a4))]) X.1 X.2.1 dX12_mix_252 hl (by decide) rfl (fun ls hl => ?_)
                refine lv_iload X.1 X.2.1 dX12_mix_254 (lv_at hl 4 rfl) ?_
                refine lv_istore (lv' := [(7, .int (i10_183)), (6, .int (i8_145)), (12, .int 1), (11, .int (v_199)), (9, .int (i9_182)), (10, .int (i10_183)), (5, .int (i5_142)), (8, .int (i8_145)), (0, .ref x), (1, .int (a1)), (2, .int (a2)), (3, .int (a3)), (4, .int (a4))]) X.1 X.2.1 dX12_mix_256 hl (by decide) rfl (fun ls hl => ?_)
                obtain ⟨x_240, ex_240⟩ : ∃ y : Int32, y = i8_145 + 1 := ⟨_, rfl⟩
                have z_241 : x_240.toInt = i8_145_z + 1 := z_add ex_240 hz_i8_145 ti_1 (by omega) (by omega)
                refine lv_iinc (v := x_240) (lv' := [(8, .int (x_240)), (7, .int (i10_183)), (6, .int (i8_145)), (12, .int 1), (11, .int (v_199)), (9, .int (i9_182)), (10, .int (i10_183)), (5, .int (i5_142)), (0, .ref x), (1, .int (a1)), (2, .int (a2)), (3, .int (a3)), (4, .int (a4))]) X.1 X.2.1 dX12_mix_258 hl (k := 7) rfl (by rw [ex_240]; rfl) (by decide) rfl (fun ls hl => ?_)
                refine lv_goto (tgt := 119) X.1 X.2.1 dX12_mix_261 (by decide) ?_
                exact ih_L_141 _ (by omega) _ _ _ _ (i5_142) (i5_142_z) (i8_145) (i8_145_z) (i10_183) (i10_183_z) (x_240) (x_240.toInt) rfl hw hz_i5_142 (by omega) hz_i8_145 (by omega) hz_i10_183 rfl (by omega) ha_x_L_147 hO_T_146 zk_148 zk_150 iv_151 iv_152 iv_153 (fun h => by have k := sp_195 h; have t := enm_ta (nn_of hp_3) (iv_154 h) (by have k := sw_194 h; omega) (Or.inl (by omega)); rw [← k] at t; rw [show (x_240.toInt).toNat = (i8_145_z).toNat + 1 by omega]; exact t) (fun h => by exfalso; have sh := sh_164; rw [show (i5_142_z).toNat = 0 by have k := iv_153 (by omega); omega] at sh; omega) (by omega) (by have sh := sh_164; omega) (lv_sub hl [7, 2, 1, 0, 8, 9, 10, 11, 12] rfl)
              · have z_b_242 := trivial
                have k_243 : i7_144_z ≠ (-1) := z_ne hz_i7_144 ti_m1 c_237
                refine lv_iload X.1 X.2.1 dX12_mix_228 (lv_at hl 3 rfl) ?_
                refine lv_iload X.1 X.2.1 dX12_mix_230 (lv_at hl 6 rfl) ?_
                refine lv_icmp_gt (tgt := 258) X.1 X.2.1 dX12_mix_232 (by decide) (fun c_244 => ?_) (fun c_244 => ?_)
                · have z_b_245 := trivial
                  have k_246 : i10_183_z > i7_144_z := z_lt hz_i7_144 hz_i10_183 c_244
                  obtain ⟨x_247, ex_247⟩ : ∃ y : Int32, y = i8_145 + 1 := ⟨_, rfl⟩
                  have z_248 : x_247.toInt = i8_145_z + 1 := z_add ex_247 hz_i8_145 ti_1 (by omega) (by omega)
                  refine lv_iinc (v := x_247) (lv' := [(8, .int (x_247)), (12, .int 1), (11, .int (v_199)), (9, .int (i9_182)), (10, .int (i10_183)), (5, .int (i5_142)), (6, .int (i6_143)), (7, .int (i7_144)), (0, .ref x), (1, .int (a1)), (2, .int (a2)), (3, .int (a3)), (4, .int (a4))]) X.1 X.2.1 dX12_mix_258 hl (k := 7) rfl (by rw [ex_247]; rfl) (by decide) rfl (fun ls hl => ?_)
                  refine lv_goto (tgt := 119) X.1 X.2.1 dX12_mix_261 (by decide) ?_
                  exact ih_L_141 _ (by omega) _ _ _ _ (i5_142) (i5_142_z) (i6_143) (i6_143_z) (i7_144) (i7_144_z) (x_247) (x_247.toInt) rfl hw hz_i5_142 (by omega) hz_i6_143 (by omega) hz_i7_144 rfl (by omega) ha_x_L_147 hO_T_146 zk_148 zk_150 iv_151 iv_152 iv_153 (fun h => by rw [show (x_247.toInt).toNat = (i8_145_z).toNat + 1 by omega]; exact enm_ke (by rw [List.length_map]; have k := iv_152 h; have sh := sh_164; rw [show (i5_142_z).toNat = (ofN (siZ S x) (mA S x 1248) (loZ S x) (hiZ S x) a2_z a3_z Ls Ls.length).length by omega] at sh; omega) (iv_154 h) (by omega) (Or.inl (by have k := sp_195 h; omega))) (fun h => by exfalso; have sh := sh_164; rw [show (i5_142_z).toNat = 0 by have k := iv_153 (by omega); omega] at sh; omega) (by omega) (by have sh := sh_164; omega) (lv_sub hl [5, 6, 7, 0, 8, 9, 10, 11, 12] rfl)
                · have z_b_249 := trivial
                  have k_250 : i10_183_z ≤ i7_144_z := z_nlt hz_i7_144 hz_i10_183 c_244
                  refine lv_iload X.1 X.2.1 dX12_mix_235 (lv_at hl 3 rfl) ?_
                  refine lv_iload X.1 X.2.1 dX12_mix_237 (lv_at hl 6 rfl) ?_
                  refine lv_icmp_ne (tgt := 250) X.1 X.2.1 dX12_mix_239 (by decide) (fun c_251 => ?_) (fun c_251 => ?_)
                  · have z_b_252 := trivial
                    have k_253 : i10_183_z ≠ i7_144_z := z_ne hz_i10_183 hz_i7_144 c_251
                    refine lv_iload X.1 X.2.1 dX12_mix_250 (lv_at hl 7 rfl) ?_
                    refine lv_istore (lv' := [(6, .int (i8_145)), (12, .int 1), (11, .int (v_199)), (9, .int (i9_182)), (10, .int (i10_183)), (5, .int (i5_142)), (7, .int (i7_144)), (8, .int (i8_145)), (0, .ref x), (1, .int (a1)), (2, .int (a2)), (3, .int (a3)), (4, .int (a4))]) X.1 X.2.1 dX12_mix_252 hl (by decide) rfl (fun ls hl => ?_)
                    refine lv_iload X.1 X.2.1 dX12_mix_254 (lv_at hl 4 rfl) ?_
                    refine lv_istore (lv' := [(7, .int (i10_183)), (6, .int (i8_145)), (12, .int 1), (11, .int (v_199)), (9, .int (i9_182)), (10, .int (i10_183)), (5, .int (i5_142)), (8, .int (i8_145)), (0, .ref x), (1, .int (a1)), (2, .int (a2)), (3, .int (a3)), (4, .int (a4))]) X.1 X.2.1 dX12_mix_256 hl (by decide) rfl (fun ls hl => ?_)
                    obtain ⟨x_254, ex_254⟩ : ∃ y : Int32, y = i8_145 + 1 := ⟨_, rfl⟩
                    have z_255 : x_254.toInt = i8_145_z + 1 := z_add ex_254 hz_i8_145 ti_1 (by omega) (by omega)
                    refine lv_iinc (v := x_254) (lv' := [(8, .int (x_254)), (7, .int (i10_183)), (6, .int (i8_145)), (12, .int 1), (11, .int (v_199)), (9, .int (i9_182)), (10, .int (i10_183)), (5, .int (i5_142)), (0, .ref x), (1, .int (a1)), (2, .int (a2)), (3, .int (a3)), (4, .int (a4))]) X.1 X.2.1 dX12_mix_258 hl (k := 7) rfl (by rw [ex_254]; rfl) (by decide) rfl (fun ls hl => ?_)
                    refine lv_goto (tgt := 119) X.1 X.2.1 dX12_mix_261 (by decide) ?_
                    exact ih_L_141 _ (by omega) _ _ _ _ (i5_142) (i5_142_z) (i8_145) (i8_145_z) (i10_183) (i10_183_z) (x_254) (x_254.toInt) rfl hw hz_i5_142 (by omega) hz_i8_145 (by omega) hz_i10_183 rfl (by omega) ha_x_L_147 hO_T_146 zk_148 zk_150 iv_151 iv_152 iv_153 (fun h => by have k := sp_195 h; have t := enm_ta (nn_of hp_3) (iv_154 h) (by have k := sw_194 h; omega) (Or.inr (Or.inl (by have k := sp_195 h; omega))); rw [← k] at t; rw [show (x_254.toInt).toNat = (i8_145_z).toNat + 1 by omega]; exact t) (fun h => by exfalso; have sh := sh_164; rw [show (i5_142_z).toNat = 0 by have k := iv_153 (by omega); omega] at sh; omega) (by omega) (by have sh := sh_164; omega) (lv_sub hl [7, 2, 1, 0, 8, 9, 10, 11, 12] rfl)
                  · have z_b_256 := trivial
                    have k_257 : i10_183_z = i7_144_z := z_eq hz_i10_183 hz_i7_144 c_251
                    refine lv_iload X.1 X.2.1 dX12_mix_242 (lv_at hl 0 rfl) ?_
                    refine lv_if_ne (tgt := 250) X.1 X.2.1 dX12_mix_244 (by decide) (fun c_258 => ?_) (fun c_258 => absurd c_258 (by decide))
                    refine lv_iload X.1 X.2.1 dX12_mix_250 (lv_at hl 7 rfl) ?_
                    refine lv_istore (lv' := [(6, .int (i8_145)), (12, .int 1), (11, .int (v_199)), (9, .int (i9_182)), (10, .int (i10_183)), (5, .int (i5_142)), (7, .int (i7_144)), (8, .int (i8_145)), (0, .ref x), (1, .int (a1)), (2, .int (a2)), (3, .int (a3)), (4, .int (a4))]) X.1 X.2.1 dX12_mix_252 hl (by decide) rfl (fun ls hl => ?_)
                    refine lv_iload X.1 X.2.1 dX12_mix_254 (lv_at hl 4 rfl) ?_
                    refine lv_istore (lv' := [(7, .int (i10_183)), (6, .int (i8_145)), (12, .int 1), (11, .int (v_199)), (9, .int (i9_182)), (10, .int (i10_183)), (5, .int (i5_142)), (8, .int (i8_145)), (0, .ref x), (1, .int (a1)), (2, .int (a2)), (3, .int (a3)), (4, .int (a4))]) X.1 X.2.1 dX12_mix_256 hl (by decide) rfl (fun ls hl => ?_)
                    obtain ⟨x_259, ex_259⟩ : ∃ y : Int32, y = i8_145 + 1 := ⟨_, rfl⟩
                    have z_260 : x_259.toInt = i8_145_z + 1 := z_add ex_259 hz_i8_145 ti_1 (by omega) (by omega)
                    refine lv_iinc (v := x_259) (lv' := [(8, .int (x_259)), (7, .int (i10_183)), (6, .int (i8_145)), (12, .int 1), (11, .int (v_199)), (9, .int (i9_182)), (10, .int (i10_183)), (5, .int (i5_142)), (0, .ref x), (1, .int (a1)), (2, .int (a2)), (3, .int (a3)), (4, .int (a4))]) X.1 X.2.1 dX12_mix_258 hl (k := 7) rfl (by rw [ex_259]; rfl) (by decide) rfl (fun ls hl => ?_)
                    refine lv_goto (tgt := 119) X.1 X.2.1 dX12_mix_261 (by decide) ?_
                    exact ih_L_141 _ (by omega) _ _ _ _ (i5_142) (i5_142_z) (i8_145) (i8_145_z) (i10_183) (i10_183_z) (x_259) (x_259.toInt) rfl hw hz_i5_142 (by omega) hz_i8_145 (by omega) hz_i10_183 rfl (by omega) ha_x_L_147 hO_T_146 zk_148 zk_150 iv_151 iv_152 iv_153 (fun h => by have k := sp_195 h; have t := enm_ta (nn_of hp_3) (iv_154 h) (by have k := sw_194 h; omega) (Or.inr (Or.inr ⟨by have k := sp_195 h; omega, (fl_207 h).mp (by omega)⟩)); rw [← k] at t; rw [show (x_259.toInt).toNat = (i8_145_z).toNat + 1 by omega]; exact t) (fun h => by exfalso; have sh := sh_164; rw [show (i5_142_z).toNat = 0 by have k := iv_153 (by omega); omega] at sh; omega) (by omega) (by have sh := sh_164; omega) (lv_sub hl [7, 2, 1, 0, 8, 9, 10, 11, 12] rfl)
          · have z_b_261 := trivial
            have k_262 : i9_182_z < a1_z := z_nle hz_a1 hz_i9_182 c_196
            refine lv_goto (tgt := 258) X.1 X.2.1 dX12_mix_193 (by decide) ?_
            obtain ⟨x_263, ex_263⟩ : ∃ y : Int32, y = i8_145 + 1 := ⟨_, rfl⟩
            have z_264 : x_263.toInt = i8_145_z + 1 := z_add ex_263 hz_i8_145 ti_1 (by omega) (by omega)
            refine lv_iinc (v := x_263) (lv' := [(8, .int (x_263)), (9, .int (i9_182)), (10, .int (i10_183)), (11, .int (i11_184)), (5, .int (i5_142)), (6, .int (i6_143)), (7, .int (i7_144)), (0, .ref x), (1, .int (a1)), (2, .int (a2)), (3, .int (a3)), (4, .int (a4))]) X.1 X.2.1 dX12_mix_258 hl (k := 6) rfl (by rw [ex_263]; rfl) (by decide) rfl (fun ls hl => ?_)
            refine lv_goto (tgt := 119) X.1 X.2.1 dX12_mix_261 (by decide) ?_
            exact ih_L_141 _ (by omega) _ _ _ _ (i5_142) (i5_142_z) (i6_143) (i6_143_z) (i7_144) (i7_144_z) (x_263) (x_263.toInt) rfl hw hz_i5_142 (by omega) hz_i6_143 (by omega) hz_i7_144 rfl (by omega) ha_x_L_147 hO_T_146 zk_148 zk_150 iv_151 iv_152 iv_153 (fun h => by rw [show (x_263.toInt).toNat = (i8_145_z).toNat + 1 by omega]; exact enm_no (iv_154 h) (by have k := sw_194 h; omega)) (fun h => by exfalso; have sh := sh_164; rw [show (i5_142_z).toNat = 0 by have k := iv_153 (by omega); omega] at sh; omega) (by omega) (by have sh := sh_164; omega) (lv_sub hl [4, 5, 6, 0, 7, 8, 9, 10, 11] rfl)
        · have z_b_265 := trivial
          have k_266 : i11_184_z < i5_142_z := z_nle hz_i5_142 hz_i11_184 c_191
          refine lv_iload X.1 X.2.1 dX12_mix_144 (lv_at hl 6 rfl) ?_
          refine lv_iload X.1 X.2.1 dX12_mix_146 (lv_at hl 2 rfl) ?_
          refine lv_ishr X.1 X.2.1 dX12_mix_148 ?_
          refine lv_topi (fun v_267 ev_267 => ?_)
          have rg_268 := And.intro (z_lo v_267) (z_hi v_267)
          refine lv_iconst (v := 1) X.1 X.2.1 dX12_mix_149 (by decide) ?_
          refine lv_iand X.1 X.2.1 dX12_mix_150 ?_
          refine lv_topi (fun v_269 ev_269 => ?_)
          have z_270 : 0 ≤ v_269.toInt ∧ v_269.toInt ≤ 1 := z_and1 ev_269
          have bt_271 : v_269.toInt = 1 ↔ (i8_145_z).toNat / 2 ^ (i11_184_z).toNat % 2 = 1 := z_bit1 ev_267 ev_269 (hz_i8_145.trans (by omega)) (hz_i11_184.trans (by omega)) (by omega)
          refine lv_if_ne (tgt := 157) X.1 X.2.1 dX12_mix_151 (by decide) (fun c_272 => ?_) (fun c_272 => ?_)
          · have z_b_273 := trivial
            have k_274 : v_269.toInt ≠ 0 := z_ne rfl ti_0 c_272
            refine lv_iload X.1 X.2.1 dX12_mix_157 (lv_at hl 0 rfl) ?_
            refine lv_aload_n X.1 X.2.1 dX12_mix_159 rfl (lv_at hl 7 rfl) ?_
            obtain ⟨q_275, h_276, h_277, h_278⟩ := gQ_12_1259 hO_T_146.1 ha_x_L_147
            refine r_getR (g := 1259) X hw ha_x_L_147 rfl 59 h_276 (by decide) rfl inn_X12_mix_12 (by decide) (X.2.2.2.1 (.fieldLink RX12 143 "SilkMillModel" "askedWeight" "[I") (by decide +kernel)) rfl (gv_1259 _ _) dX12_mix_160 ?_
            refine lv_iload X.1 X.2.1 dX12_mix_163 (lv_at hl 2 rfl) ?_
            refine r_iald X hw h_277 rfl (by rw [h_278]; exact z_ix hz_i11_184 (by omega) (by omega)) dX12_mix_165 ?_
            refine lv_topi (fun v_279 ev_279 => ?_)
            have rg_280 := And.intro (z_lo v_279) (z_hi v_279)
            have ev_279 := ev_279.symm
            have zf_281 : zA T_146 x 1259 (i11_184_z).toNat = v_279.toInt := (zA_of h_276 hz_i11_184 (by omega) ev_279)
            refine lv_iadd X.1 X.2.1 dX12_mix_166 ?_
            refine lv_topi (fun v_282 ev_282 => ?_)
            have rg_283 := And.intro (z_lo v_282) (z_hi v_282)
            refine lv_istore (lv' := [(9, .int (v_282)), (10, .int (i10_183)), (11, .int (i11_184)), (5, .int (i5_142)), (6, .int (i6_143)), (7, .int (i7_144)), (8, .int (i8_145)), (0, .ref x), (1, .int (a1)), (2, .int (a2)), (3, .int (a3)), (4, .int (a4))]) X.1 X.2.1 dX12_mix_167 hl (by decide) rfl (fun ls hl => ?_)
            refine lv_iload X.1 X.2.1 dX12_mix_169 (lv_at hl 1 rfl) ?_
            refine lv_aload_n X.1 X.2.1 dX12_mix_171 rfl (lv_at hl 7 rfl) ?_
            obtain ⟨q_284, h_285, h_286, h_287⟩ := gQ_12_1260 hO_T_146.1 ha_x_L_147
            refine r_getR (g := 1260) X hw ha_x_L_147 rfl 60 h_285 (by decide) rfl inn_X12_mix_12 (by decide) (X.2.2.2.1 (.fieldLink RX12 146 "SilkMillModel" "askedPrice" "[I") (by decide +kernel)) rfl (gv_1260 _ _) dX12_mix_172 ?_
            refine lv_iload X.1 X.2.1 dX12_mix_175 (lv_at hl 2 rfl) ?_
            refine r_iald X hw h_286 rfl (by rw [h_287]; exact z_ix hz_i11_184 (by omega) (by omega)) dX12_mix_177 ?_
            refine lv_topi (fun v_288 ev_288 => ?_)
            have rg_289 := And.intro (z_lo v_288) (z_hi v_288)
            have ev_288 := ev_288.symm
            have zf_290 : zA T_146 x 1260 (i11_184_z).toNat = v_288.toInt := (zA_of h_285 hz_i11_184 (by omega) ev_288)
            refine lv_iadd X.1 X.2.1 dX12_mix_178 ?_
            refine lv_topi (fun v_291 ev_291 => ?_)
            have rg_292 := And.intro (z_lo v_291) (z_hi v_291)
            refine lv_istore (lv' := [(10, .int (v_291)), (9, .int (v_282)), (11, .int (i11_184)), (5, .int (i5_142)), (6, .int (i6_143)), (7, .int (i7_144)), (8, .int (i8_145)), (0, .ref x), (1, .int (a1)), (2, .int (a2)), (3, .int (a3)), (4, .int (a4))]) X.1 X.2.1 dX12_mix_179 hl (by decide) rfl (fun ls hl => ?_)
            obtain ⟨x_293, ex_293⟩ : ∃ y : Int32, y = i11_184 + 1 := ⟨_, rfl⟩
            have z_294 : x_293.toInt = i11_184_z + 1 := z_add ex_293 hz_i11_184 ti_1 (by omega) (by omega)
            refine lv_iinc (v := x_293) (lv' := [(11, .int (x_293)), (10, .int (v_291)), (9, .int (v_282)), (5, .int (i5_142)), (6, .int (i6_143)), (7, .int (i7_144)), (8, .int (i8_145)), (0, .ref x), (1, .int (a1)), (2, .int (a2)), (3, .int (a3)), (4, .int (a4))]) X.1 X.2.1 dX12_mix_181 hl (k := 2) rfl (by rw [ex_293]; rfl) (by decide) rfl (fun ls hl => ?_)
            refine lv_goto (tgt := 137) X.1 X.2.1 dX12_mix_184 (by decide) ?_
            exact ih_L_181 _ (by omega) _ _ _ (v_282) (v_282.toInt) (v_291) (v_291.toInt) (x_293) (x_293.toInt) rfl hw rfl (by omega) rfl (by omega) rfl (by omega) (fun h => by obtain ⟨t, ht⟩ : ∃ t, (ofN (siZ S x) (mA S x 1248) (loZ S x) (hiZ S x) a2_z a3_z Ls Ls.length)[(i11_184_z).toNat]? = some t := ⟨_, List.getElem?_eq_getElem (by have k := iv_152 h; omega)⟩; have m := iv_151 h _ _ ht; have b := sum_in hp_3 hOin.1 ((i11_184_z).toNat + 1) (i8_145_z).toNat; rw [(sum_st ht).1 wIt (bt_271.mp (by omega)), (sum_st ht).1 pIt (bt_271.mp (by omega))] at b; rw [show (x_293.toInt).toNat = (i11_184_z).toNat + 1 by omega, (sum_st ht).1 wIt (bt_271.mp (by omega))]; have e1 := iv_185 h; have e2 : wIt (itI t) = v_279.toInt := (by rw [← zf_281]; exact m.2.1.symm); have e3 : wIt (itI t) = t.2.1.toInt := rfl; have e4 : pIt (itI t) = t.2.2.toInt := rfl; rw [e2]; rw [← e1] at b ⊢; exact z_add ev_282 hz_i9_182 rfl (by omega) (by omega)) (fun h => by obtain ⟨t, ht⟩ : ∃ t, (ofN (siZ S x) (mA S x 1248) (loZ S x) (hiZ S x) a2_z a3_z Ls Ls.length)[(i11_184_z).toNat]? = some t := ⟨_, List.getElem?_eq_getElem (by have k := iv_152 h; omega)⟩; have m := iv_151 h _ _ ht; have b := sum_in hp_3 hOin.1 ((i11_184_z).toNat + 1) (i8_145_z).toNat; rw [(sum_st ht).1 wIt (bt_271.mp (by omega)), (sum_st ht).1 pIt (bt_271.mp (by omega))] at b; rw [show (x_293.toInt).toNat = (i11_184_z).toNat + 1 by omega, (sum_st ht).1 pIt (bt_271.mp (by omega))]; have e1 := iv_186 h; have e2 : pIt (itI t) = v_288.toInt := (by rw [← zf_290]; exact m.2.2.symm); have e3 : wIt (itI t) = t.2.1.toInt := rfl; have e4 : pIt (itI t) = t.2.2.toInt := rfl; rw [e2]; rw [← e1] at b ⊢; exact z_add ev_291 hz_i10_183 rfl (by omega) (by omega)) (by omega) (lv_sub hl [2, 1, 0, 3, 4, 5, 6, 7, 8, 9, 10, 11] rfl)
          · have z_b_295 := trivial
            have k_296 : v_269.toInt = 0 := z_eq rfl ti_0 c_272
            refine lv_goto (tgt := 181) X.1 X.2.1 dX12_mix_154 (by decide) ?_
            obtain ⟨x_297, ex_297⟩ : ∃ y : Int32, y = i11_184 + 1 := ⟨_, rfl⟩
            have z_298 : x_297.toInt = i11_184_z + 1 := z_add ex_297 hz_i11_184 ti_1 (by omega) (by omega)
            refine lv_iinc (v := x_297) (lv' := [(11, .int (x_297)), (9, .int (i9_182)), (10, .int (i10_183)), (5, .int (i5_142)), (6, .int (i6_143)), (7, .int (i7_144)), (8, .int (i8_145)), (0, .ref x), (1, .int (a1)), (2, .int (a2)), (3, .int (a3)), (4, .int (a4))]) X.1 X.2.1 dX12_mix_181 hl (k := 2) rfl (by rw [ex_297]; rfl) (by decide) rfl (fun ls hl => ?_)
            refine lv_goto (tgt := 137) X.1 X.2.1 dX12_mix_184 (by decide) ?_
            exact ih_L_181 _ (by omega) _ _ _ (i9_182) (i9_182_z) (i10_183) (i10_183_z) (x_297) (x_297.toInt) rfl hw hz_i9_182 (by omega) hz_i10_183 (by omega) rfl (by omega) (fun h => by obtain ⟨t, ht⟩ : ∃ t, (ofN (siZ S x) (mA S x 1248) (loZ S x) (hiZ S x) a2_z a3_z Ls Ls.length)[(i11_184_z).toNat]? = some t := ⟨_, List.getElem?_eq_getElem (by have k := iv_152 h; omega)⟩; rw [show (x_297.toInt).toNat = (i11_184_z).toNat + 1 by omega, (sum_st ht).2 wIt (fun z => absurd (bt_271.mpr z) (by omega))]; exact iv_185 h) (fun h => by obtain ⟨t, ht⟩ : ∃ t, (ofN (siZ S x) (mA S x 1248) (loZ S x) (hiZ S x) a2_z a3_z Ls Ls.length)[(i11_184_z).toNat]? = some t := ⟨_, List.getElem?_eq_getElem (by have k := iv_152 h; omega)⟩; rw [show (x_297.toInt).toNat = (i11_184_z).toNat + 1 by omega, (sum_st ht).2 pIt (fun z => absurd (bt_271.mpr z) (by omega))]; exact iv_186 h) (by omega) (lv_sub hl [1, 2, 0, 3, 4, 5, 6, 7, 8, 9, 10, 11] rfl)
      exact L_181 _ _ _ _ (0) (0) (0) (0) (0) (0) rfl hw ti_0 (by omega) ti_0 (by omega) ti_0 (by omega) (fun _ => by rfl) (fun _ => by rfl) (by omega) (lv_sub hl [2, 1, 0, 3, 4, 5, 6, 7, 8, 9, 10, 11] rfl)
  refine lv_iconst (v := 0) X.1 X.2.1 dX12_mix_5 (by decide) ?_
  refine lv_istore (lv' := [(5, .int 0), (0, .ref x), (1, .int (a1)), (2, .int (a2)), (3, .int (a3)), (4, .int (a4))]) X.1 X.2.1 dX12_mix_6 hl (by decide) rfl (fun ls hl => ?_)
  refine lv_iconst (v := 0) X.1 X.2.1 dX12_mix_8 (by decide) ?_
  refine lv_istore (lv' := [(6, .int 0), (5, .int 0), (0, .ref x), (1, .int (a1)), (2, .int (a2)), (3, .int (a3)), (4, .int (a4))]) X.1 X.2.1 dX12_mix_9 hl (by decide) rfl (fun ls hl => ?_)
  have L_299 : ∀ (n : Nat) (T_302 : PS) (H : Heap) (locs : List Loc) (ls : Array Slot) (i5_300 : Int32) (i5_300_z : Int) (i6_301 : Int32) (i6_301_z : Int), ((40 - i6_301_z).toNat = n) → (Wd G cy (AS S s.heap.size) s.heap T_302 H locs) → (i5_300.toInt = i5_300_z) → (0 ≤ i5_300_z ∧ i5_300_z ≤ 14) → (i6_301.toInt = i6_301_z) → (0 ≤ i6_301_z ∧ i6_301_z ≤ 40) → (At T_302 x 12) → (Ok Mmi S T_302) → (zA T_302 x 1244 = zA S x 1244) → (zA T_302 x 1261 = zA S x 1261) → (OfR T_302 x (ofN (siZ S x) (mA S x 1248) (loZ S x) (hiZ S x) a2_z a3_z Ls (i6_301_z).toNat)) → (((ofN (siZ S x) (mA S x 1248) (loZ S x) (hiZ S x) a2_z a3_z Ls (i6_301_z).toNat).length : Int) = i5_300_z) → ((i6_301_z = 0 ∨ 0 < a1_z)) → (i6_301_z ≤ (Ls.length : Int)) → (pI T_302 1238 x = v_1) → (lv_has ls 13 [(5, .int (i5_300)), (6, .int (i6_301)), (0, .ref x), (1, .int (a1)), (2, .int (a2)), (3, .int (a3)), (4, .int (a4))]) → W p l e ({ frames := 8, cells := 0, slots := 0, locals := 384 }) s m [.ref x, .int (a1), .int (a2), .int (a3), .int (a4)].toArray below meth c H locs 0 0 QQ (F0 m 11 ls []) := by
    intro n
    induction n using Nat.strongRecOn with
    | ind n ih_L_299 =>
    intro T_302 H locs ls i5_300 i5_300_z i6_301 i6_301_z hn hw hz_i5_300 hr_i5_300 hz_i6_301 hr_i6_301 ha_x_L_303 hO_T_302 zk_304 zk_305 iv_306 iv_307 iv_308 iv_309 ik_310 hl
    have rg_311 : (-2147483648) ≤ i5_300_z ∧ i5_300_z ≤ 2147483647 := by rw [← hz_i5_300]; exact ⟨z_lo _, z_hi _⟩
    have rg_312 : (-2147483648) ≤ i6_301_z ∧ i6_301_z ≤ 2147483647 := by rw [← hz_i6_301]; exact ⟨z_lo _, z_hi _⟩
    have pz_313 : (pI T_302 1238 x).toInt = v_1.toInt := (congrArg Int32.toInt ik_310).trans rfl
    refine lv_iload X.1 X.2.1 dX12_mix_11 (lv_at hl 1 rfl) ?_
    refine lv_aload_n X.1 X.2.1 dX12_mix_13 rfl (lv_at hl 2 rfl) ?_
    refine r_getI (g := 1238) (x := v_1) X hw ha_x_L_303 rfl 38 ik_310 (by decide) rfl inn_X12_mix_12 (by decide) (X.2.2.2.1 (.fieldLink RX12 290 "SilkMillModel" "skeins" "I") (by decide +kernel)) rfl (gv_1238 _ _) dX12_mix_14 ?_
    refine lv_icmp_ge (tgt := 110) X.1 X.2.1 dX12_mix_17 (by decide) (fun c_314 => ?_) (fun c_314 => ?_)
    · have z_b_315 := trivial
      have k_316 : i6_301_z ≥ v_1.toInt := z_le rfl hz_i6_301 c_314
      refine lv_iconst (v := 0) X.1 X.2.1 dX12_mix_110 (by decide) ?_
      refine lv_istore (lv' := [(6, .int 0), (5, .int (i5_300)), (0, .ref x), (1, .int (a1)), (2, .int (a2)), (3, .int (a3)), (4, .int (a4))]) X.1 X.2.1 dX12_mix_111 hl (by decide) rfl (fun ls hl => ?_)
      refine lv_iconst (v := (-1)) X.1 X.2.1 dX12_mix_113 (by decide) ?_
      refine lv_istore (lv' := [(7, .int (-1)), (6, .int 0), (5, .int (i5_300)), (0, .ref x), (1, .int (a1)), (2, .int (a2)), (3, .int (a3)), (4, .int (a4))]) X.1 X.2.1 dX12_mix_114 hl (by decide) rfl (fun ls hl => ?_)
      refine lv_iconst (v := 1) X.1 X.2.1 dX12_mix_116 (by decide) ?_
      refine lv_istore (lv' := [(8, .int 1), (7, .int (-1)), (6, .int 0), (5, .int (i5_300)), (0, .ref x), (1, .int (a1)), (2, .int (a2)), (3, .int (a3)), (4, .int (a4))]) X.1 X.2.1 dX12_mix_117 hl (by decide) rfl (fun ls hl => ?_)
      have al_317 : 1 ≤ a1_z → (ofN (siZ S x) (mA S x 1248) (loZ S x) (hiZ S x) a2_z a3_z Ls (i6_301_z).toNat) = (ofN (siZ S x) (mA S x 1248) (loZ S x) (hiZ S x) a2_z a3_z Ls Ls.length) := fun hw1 => by
        by_cases c : (i6_301_z).toNat = Ls.length
        · rw [c]
        · have hf := ofN_full (w := siZ S x) (pr := mA S x 1248) (lo := loZ S x) (hi := hiZ S x) (a := a2_z) (b := a3_z) (L := Ls) (k := (i6_301_z).toNat) (by omega) (Ls.length - (i6_301_z).toNat) (by omega)
          rw [show (i6_301_z).toNat + (Ls.length - (i6_301_z).toNat) = Ls.length by omega] at hf
          exact hf.symm
      exact L_141 _ _ _ _ _ (i5_300) (i5_300_z) (0) (0) ((-1)) ((-1)) (1) (1) rfl hw hz_i5_300 (by omega) ti_0 (by omega) ti_m1 ti_1 (by omega) ha_x_L_303 hO_T_302 zk_304 zk_305 (fun hw1 => by have h := iv_306; rw [al_317 hw1] at h; exact OfR_eq rfl rfl rfl h) (fun hw1 => by have h := iv_307; rw [al_317 hw1] at h; omega) (fun hw1 => by have h := iv_307; rw [show (i6_301_z).toNat = 0 by omega] at h; exact h.symm.trans rfl) (fun hw1 => enm_0 hw1) (fun _ => by omega) (by omega) (by have h := Nat.one_le_two_pow (n := (i5_300_z).toNat); omega) (lv_sub hl [3, 2, 1, 0, 4, 5, 6, 7, 8] rfl)
    · have z_b_318 := trivial
      have k_319 : i6_301_z < v_1.toInt := z_nle rfl hz_i6_301 c_314
      refine lv_iload X.1 X.2.1 dX12_mix_20 (lv_at hl 0 rfl) ?_
      refine lv_bipush (v := 14) X.1 X.2.1 dX12_mix_22 (by decide) ?_
      refine lv_icmp_ge (tgt := 110) X.1 X.2.1 dX12_mix_24 (by decide) (fun c_320 => ?_) (fun c_320 => ?_)
      · have z_b_321 := trivial
        have k_322 : i5_300_z ≥ 14 := z_le ti_14 hz_i5_300 c_320
        refine lv_iconst (v := 0) X.1 X.2.1 dX12_mix_110 (by decide) ?_
        refine lv_istore (lv' := [(6, .int 0), (5, .int (i5_300)), (0, .ref x), (1, .int (a1)), (2, .int (a2)), (3, .int (a3)), (4, .int (a4))]) X.1 X.2.1 dX12_mix_111 hl (by decide) rfl (fun ls hl => ?_)
        refine lv_iconst (v := (-1)) X.1 X.2.1 dX12_mix_113 (by decide) ?_
        refine lv_istore (lv' := [(7, .int (-1)), (6, .int 0), (5, .int (i5_300)), (0, .ref x), (1, .int (a1)), (2, .int (a2)), (3, .int (a3)), (4, .int (a4))]) X.1 X.2.1 dX12_mix_114 hl (by decide) rfl (fun ls hl => ?_)
        refine lv_iconst (v := 1) X.1 X.2.1 dX12_mix_116 (by decide) ?_
        refine lv_istore (lv' := [(8, .int 1), (7, .int (-1)), (6, .int 0), (5, .int (i5_300)), (0, .ref x), (1, .int (a1)), (2, .int (a2)), (3, .int (a3)), (4, .int (a4))]) X.1 X.2.1 dX12_mix_117 hl (by decide) rfl (fun ls hl => ?_)
        have al_323 : 1 ≤ a1_z → (ofN (siZ S x) (mA S x 1248) (loZ S x) (hiZ S x) a2_z a3_z Ls (i6_301_z).toNat) = (ofN (siZ S x) (mA S x 1248) (loZ S x) (hiZ S x) a2_z a3_z Ls Ls.length) := fun hw1 => by
          by_cases c : (i6_301_z).toNat = Ls.length
          · rw [c]
          · have hf := ofN_full (w := siZ S x) (pr := mA S x 1248) (lo := loZ S x) (hi := hiZ S x) (a := a2_z) (b := a3_z) (L := Ls) (k := (i6_301_z).toNat) (by omega) (Ls.length - (i6_301_z).toNat) (by omega)
            rw [show (i6_301_z).toNat + (Ls.length - (i6_301_z).toNat) = Ls.length by omega] at hf
            exact hf.symm
        exact L_141 _ _ _ _ _ (i5_300) (i5_300_z) (0) (0) ((-1)) ((-1)) (1) (1) rfl hw hz_i5_300 (by omega) ti_0 (by omega) ti_m1 ti_1 (by omega) ha_x_L_303 hO_T_302 zk_304 zk_305 (fun hw1 => by have h := iv_306; rw [al_323 hw1] at h; exact OfR_eq rfl rfl rfl h) (fun hw1 => by have h := iv_307; rw [al_323 hw1] at h; omega) (fun hw1 => by have h := iv_307; rw [show (i6_301_z).toNat = 0 by omega] at h; exact h.symm.trans rfl) (fun hw1 => enm_0 hw1) (fun _ => by omega) (by omega) (by have h := Nat.one_le_two_pow (n := (i5_300_z).toNat); omega) (lv_sub hl [3, 2, 1, 0, 4, 5, 6, 7, 8] rfl)
      · have z_b_324 := trivial
        have k_325 : i5_300_z < 14 := z_nle ti_14 hz_i5_300 c_320
        refine lv_iload_n X.1 X.2.1 dX12_mix_27 rfl (lv_at hl 3 rfl) ?_
        refine lv_if_le (tgt := 110) X.1 X.2.1 dX12_mix_28 (by decide) (fun c_326 => ?_) (fun c_326 => ?_)
        · have z_b_327 := trivial
          have k_328 : a1_z ≤ 0 := z_le hz_a1 ti_0 c_326
          refine lv_iconst (v := 0) X.1 X.2.1 dX12_mix_110 (by decide) ?_
          refine lv_istore (lv' := [(6, .int 0), (5, .int (i5_300)), (0, .ref x), (1, .int (a1)), (2, .int (a2)), (3, .int (a3)), (4, .int (a4))]) X.1 X.2.1 dX12_mix_111 hl (by decide) rfl (fun ls hl => ?_)
          refine lv_iconst (v := (-1)) X.1 X.2.1 dX12_mix_113 (by decide) ?_
          refine lv_istore (lv' := [(7, .int (-1)), (6, .int 0), (5, .int (i5_300)), (0, .ref x), (1, .int (a1)), (2, .int (a2)), (3, .int (a3)), (4, .int (a4))]) X.1 X.2.1 dX12_mix_114 hl (by decide) rfl (fun ls hl => ?_)
          refine lv_iconst (v := 1) X.1 X.2.1 dX12_mix_116 (by decide) ?_
          refine lv_istore (lv' := [(8, .int 1), (7, .int (-1)), (6, .int 0), (5, .int (i5_300)), (0, .ref x), (1, .int (a1)), (2, .int (a2)), (3, .int (a3)), (4, .int (a4))]) X.1 X.2.1 dX12_mix_117 hl (by decide) rfl (fun ls hl => ?_)
          have al_329 : 1 ≤ a1_z → (ofN (siZ S x) (mA S x 1248) (loZ S x) (hiZ S x) a2_z a3_z Ls (i6_301_z).toNat) = (ofN (siZ S x) (mA S x 1248) (loZ S x) (hiZ S x) a2_z a3_z Ls Ls.length) := fun hw1 => by
            by_cases c : (i6_301_z).toNat = Ls.length
            · rw [c]
            · have hf := ofN_full (w := siZ S x) (pr := mA S x 1248) (lo := loZ S x) (hi := hiZ S x) (a := a2_z) (b := a3_z) (L := Ls) (k := (i6_301_z).toNat) (by omega) (Ls.length - (i6_301_z).toNat) (by omega)
              rw [show (i6_301_z).toNat + (Ls.length - (i6_301_z).toNat) = Ls.length by omega] at hf
              exact hf.symm
          exact L_141 _ _ _ _ _ (i5_300) (i5_300_z) (0) (0) ((-1)) ((-1)) (1) (1) rfl hw hz_i5_300 (by omega) ti_0 (by omega) ti_m1 ti_1 (by omega) ha_x_L_303 hO_T_302 zk_304 zk_305 (fun hw1 => by have h := iv_306; rw [al_329 hw1] at h; exact OfR_eq rfl rfl rfl h) (fun hw1 => by have h := iv_307; rw [al_329 hw1] at h; omega) (fun hw1 => by have h := iv_307; rw [show (i6_301_z).toNat = 0 by omega] at h; exact h.symm.trans rfl) (fun hw1 => enm_0 hw1) (fun _ => by omega) (by omega) (by have h := Nat.one_le_two_pow (n := (i5_300_z).toNat); omega) (lv_sub hl [3, 2, 1, 0, 4, 5, 6, 7, 8] rfl)
        · have z_b_330 := trivial
          have k_331 : a1_z > 0 := z_nle hz_a1 ti_0 c_326
          have pz_339 : (pI T_302 1238 x).toInt = v_1.toInt := (congrArg Int32.toInt ik_310).trans rfl
          have sw_332 := SkW_m hG ha_x hO_T_302.fr zk_304 hp_1
          obtain ⟨s_333, hs_334⟩ : ∃ s, Ls[(i6_301_z).toNat]? = some s := ⟨_, List.getElem?_eq_getElem (by omega)⟩
          have sr_335 := sw_332.2 _ _ hs_334
          have lz_337 := loZ_to (fnZ_fr hG ha_x hO_T_302.fr (by decide +kernel))
          have ne_338 := hp_2 s_333 (List.mem_of_getElem? hs_334)
          refine lv_aload_n X.1 X.2.1 dX12_mix_31 rfl (lv_at hl 2 rfl) ?_
          obtain ⟨q_340, h_341, h_342, h_343⟩ := gQ_12_1244 hO_T_302.1 ha_x_L_303
          refine r_getR (g := 1244) X hw ha_x_L_303 rfl 44 h_341 (by decide) rfl inn_X12_mix_12 (by decide) (X.2.2.2.1 (.fieldLink RX12 115 "SilkMillModel" "isSold" "[Z") (by decide +kernel)) rfl (gv_1244 _ _) dX12_mix_32 ?_
          refine lv_iload X.1 X.2.1 dX12_mix_35 (lv_at hl 1 rfl) ?_
          refine r_zald X hw h_342 rfl (by rw [h_343]; exact z_ix hz_i6_301 (by omega) (by omega)) dX12_mix_37 ?_
          refine lv_topi (fun v_344 ev_344 => ?_)
          have rg_345 := And.intro (z_lo v_344) (z_hi v_344)
          have ev_344 := ev_344.symm
          have zf_346 : zA T_302 x 1244 (i6_301_z).toNat = v_344.toInt := (zA_of h_341 hz_i6_301 (by omega) ev_344)
          refine lv_if_ne (tgt := 104) X.1 X.2.1 dX12_mix_38 (by decide) (fun c_347 => ?_) (fun c_347 => ?_)
          · have z_b_348 := trivial
            have k_349 : v_344.toInt ≠ 0 := z_ne rfl ti_0 c_347
            obtain ⟨x_350, ex_350⟩ : ∃ y : Int32, y = i6_301 + 1 := ⟨_, rfl⟩
            have z_351 : x_350.toInt = i6_301_z + 1 := z_add ex_350 hz_i6_301 ti_1 (by omega) (by omega)
            refine lv_iinc (v := x_350) (lv' := [(6, .int (x_350)), (5, .int (i5_300)), (0, .ref x), (1, .int (a1)), (2, .int (a2)), (3, .int (a3)), (4, .int (a4))]) X.1 X.2.1 dX12_mix_104 hl (k := 1) rfl (by rw [ex_350]; rfl) (by decide) rfl (fun ls hl => ?_)
            refine lv_goto (tgt := 11) X.1 X.2.1 dX12_mix_107 (by decide) ?_
            exact ih_L_299 _ (by omega) _ _ _ _ (i5_300) (i5_300_z) (x_350) (x_350.toInt) rfl hw hz_i5_300 (by omega) rfl (by omega) ha_x_L_303 hO_T_302 zk_304 zk_305 (by rw [show (x_350.toInt).toNat = (i6_301_z).toNat + 1 by omega, ofN_n hs_334 (fun h => by have k1 := h.1.1; have k2 := h.1.2.1; have k3 := h.1.2.2; have e0 : (0 : Int32).toInt = 0 := (by decide); have e1 := congrArg Int32.toInt k1; have e2 := sr_335.1.1.2.2; omega)]; exact OfR_eq rfl rfl rfl iv_306) (by rw [show (x_350.toInt).toNat = (i6_301_z).toNat + 1 by omega, ofN_n hs_334 (fun h => by have k1 := h.1.1; have k2 := h.1.2.1; have k3 := h.1.2.2; have e0 : (0 : Int32).toInt = 0 := (by decide); have e1 := congrArg Int32.toInt k1; have e2 := sr_335.1.1.2.2; omega)]; exact iv_307) (by omega) (by omega) ik_310 (lv_sub hl [1, 0, 2, 3, 4, 5, 6] rfl)
          · have z_b_352 := trivial
            have k_353 : v_344.toInt = 0 := z_eq rfl ti_0 c_347
            refine lv_aload_n X.1 X.2.1 dX12_mix_41 rfl (lv_at hl 2 rfl) ?_
            refine lv_iload X.1 X.2.1 dX12_mix_42 (lv_at hl 1 rfl) ?_
            refine lv_iconst (v := 0) X.1 X.2.1 dX12_mix_44 (by decide) ?_
            have pz_354 : (pI T_302 1238 x).toInt = v_1.toInt := (congrArg Int32.toInt ik_310).trans rfl
            have sr_355 := (SkW_m hG ha_x hO_T_302.fr zk_304 hp_1).2 _ _ hs_334
            refine k_i (rm := { frames := 5, cells := 0, slots := 0, locals := 240 }) (av := [.ref x, .int (i6_301), .int 0]) X hw (va_runV (As := [.int (i6_301), .int 0]) (rest := []) (cfix X) (k_X12_least8 l G cy κ T_302 _ x (i6_301) (i6_301_z) (0) (0) s_333 hO_T_302.1 ha_x_L_303 hz_i6_301 ti_0 (by first | assumption | omega) (by first | assumption | omega) (by first | assumption | omega) (MIe_free hG ha_x hO_T_302.fr (by decide +kernel) hp_0) sr_355 ne_338) (cwV 2 X.2.2.2.1 gX12_mix_X12_least rfl rfl rfl (by decide +kernel) ⟨Nat.le_of_ble_eq_true rfl, Nat.le_of_ble_eq_true rfl⟩) (pre_V X hw _ ha_x_L_303 rfl (by decide) rfl) rfl rfl hl.1 rfl (lv_room (Nat.le_of_ble_eq_true rfl)) dX12_mix_45 ⟨Nat.le_of_ble_eq_true rfl, Nat.le_of_ble_eq_true rfl⟩) 0 0 (Nat.le_of_ble_eq_true rfl) (Nat.le_of_ble_eq_true rfl) (fun rr_356 S_357 H locs hp hw hfr hnw => ?_)
            obtain ⟨e2, hp⟩ := hp
            subst e2
            obtain ⟨le_358, le_359, le_360, le_361⟩ := hp
            have lz_362 := loZ_to (fnZ_fr hG ha_x hO_T_302.fr (by decide +kernel))
            have lv_363 : rr_356 = loZ S x s_333.2.2.2 := by rw [le_360 (by decide), lz_362.1]
            have rg_364 := And.intro (z_lo rr_356) (z_hi rr_356)
            refine lv_iload_n X.1 X.2.1 dX12_mix_48 rfl (lv_at hl 4 rfl) ?_
            refine lv_icmp_lt (tgt := 104) X.1 X.2.1 dX12_mix_49 (by decide) (fun c_365 => ?_) (fun c_365 => ?_)
            · have z_b_366 := trivial
              have k_367 : rr_356.toInt < a2_z := z_lt rfl hz_a2 c_365
              obtain ⟨x_368, ex_368⟩ : ∃ y : Int32, y = i6_301 + 1 := ⟨_, rfl⟩
              have z_369 : x_368.toInt = i6_301_z + 1 := z_add ex_368 hz_i6_301 ti_1 (by omega) (by omega)
              refine lv_iinc (v := x_368) (lv' := [(6, .int (x_368)), (5, .int (i5_300)), (0, .ref x), (1, .int (a1)), (2, .int (a2)), (3, .int (a3)), (4, .int (a4))]) X.1 X.2.1 dX12_mix_104 hl (k := 1) rfl (by rw [ex_368]; rfl) (by decide) rfl (fun ls hl => ?_)
              refine lv_goto (tgt := 11) X.1 X.2.1 dX12_mix_107 (by decide) ?_
              exact ih_L_299 _ (by omega) _ _ _ _ (i5_300) (i5_300_z) (x_368) (x_368.toInt) rfl hw hz_i5_300 (by omega) rfl (by omega) ha_x_L_303 hO_T_302 zk_304 zk_305 (by rw [show (x_368.toInt).toNat = (i6_301_z).toNat + 1 by omega, ofN_n hs_334 (fun h => by have k1 := h.1.1; have k2 := h.1.2.1; have k3 := h.1.2.2; have e0 : (0 : Int32).toInt = 0 := (by decide); have e1 := congrArg Int32.toInt k1; have e2 := sr_335.1.1.2.2; rw [← lv_363] at k2; omega)]; exact OfR_eq rfl rfl rfl iv_306) (by rw [show (x_368.toInt).toNat = (i6_301_z).toNat + 1 by omega, ofN_n hs_334 (fun h => by have k1 := h.1.1; have k2 := h.1.2.1; have k3 := h.1.2.2; have e0 : (0 : Int32).toInt = 0 := (by decide); have e1 := congrArg Int32.toInt k1; have e2 := sr_335.1.1.2.2; rw [← lv_363] at k2; omega)]; exact iv_307) (by omega) (by omega) ik_310 (lv_sub hl [1, 0, 2, 3, 4, 5, 6] rfl)
            · have z_b_370 := trivial
              have k_371 : rr_356.toInt ≥ a2_z := z_nlt rfl hz_a2 c_365
              refine lv_aload_n X.1 X.2.1 dX12_mix_52 rfl (lv_at hl 2 rfl) ?_
              refine lv_iload X.1 X.2.1 dX12_mix_53 (lv_at hl 1 rfl) ?_
              refine lv_iconst (v := 1) X.1 X.2.1 dX12_mix_55 (by decide) ?_
              have pz_372 : (pI T_302 1238 x).toInt = v_1.toInt := (congrArg Int32.toInt ik_310).trans rfl
              have sr_373 := (SkW_m hG ha_x hO_T_302.fr zk_304 hp_1).2 _ _ hs_334
              refine k_i (rm := { frames := 5, cells := 0, slots := 0, locals := 240 }) (av := [.ref x, .int (i6_301), .int 1]) X hw (va_runV (As := [.int (i6_301), .int 1]) (rest := []) (cfix X) (k_X12_least8 l G cy κ T_302 _ x (i6_301) (i6_301_z) (1) (1) s_333 hO_T_302.1 ha_x_L_303 hz_i6_301 ti_1 (by first | assumption | omega) (by first | assumption | omega) (by first | assumption | omega) (MIe_free hG ha_x hO_T_302.fr (by decide +kernel) hp_0) sr_373 ne_338) (cwV 2 X.2.2.2.1 gX12_mix_X12_least rfl rfl rfl (by decide +kernel) ⟨Nat.le_of_ble_eq_true rfl, Nat.le_of_ble_eq_true rfl⟩) (pre_V X hw _ ha_x_L_303 rfl (by decide) rfl) rfl rfl hl.1 rfl (lv_room (Nat.le_of_ble_eq_true rfl)) dX12_mix_56 ⟨Nat.le_of_ble_eq_true rfl, Nat.le_of_ble_eq_true rfl⟩) 0 0 (Nat.le_of_ble_eq_true rfl) (Nat.le_of_ble_eq_true rfl) (fun rr_374 S_375 H locs hp hw hfr hnw => ?_)
              obtain ⟨e2, hp⟩ := hp
              subst e2
              obtain ⟨le_376, le_377, le_378, le_379⟩ := hp
              have lz_380 := loZ_to (fnZ_fr hG ha_x hO_T_302.fr (by decide +kernel))
              have lv_381 : rr_374 = hiZ S x s_333.2.2.2 := by rw [le_379 (by decide), lz_380.2.1]
              have rg_382 := And.intro (z_lo rr_374) (z_hi rr_374)
              refine lv_iload_n X.1 X.2.1 dX12_mix_59 rfl (lv_at hl 5 rfl) ?_
              refine lv_icmp_le (tgt := 66) X.1 X.2.1 dX12_mix_60 (by decide) (fun c_383 => ?_) (fun c_383 => ?_)
              · have z_b_384 := trivial
                have k_385 : rr_374.toInt ≤ a3_z := z_le rfl hz_a3 c_383
                refine lv_aload_n X.1 X.2.1 dX12_mix_66 rfl (lv_at hl 2 rfl) ?_
                obtain ⟨q_386, h_387, h_388, h_389⟩ := gQ_12_1258 hO_T_302.1 ha_x_L_303
                refine r_getR (g := 1258) X hw ha_x_L_303 rfl 58 h_387 (by decide) rfl inn_X12_mix_12 (by decide) (X.2.2.2.1 (.fieldLink RX12 140 "SilkMillModel" "asked" "[I") (by decide +kernel)) rfl (gv_1258 _ _) dX12_mix_67 ?_
                refine lv_iload X.1 X.2.1 dX12_mix_70 (lv_at hl 0 rfl) ?_
                refine lv_iload X.1 X.2.1 dX12_mix_72 (lv_at hl 1 rfl) ?_
                refine r_iast X hw h_388 rfl (by rw [h_389]; exact z_ix hz_i5_300 (by omega) (by omega)) dX12_mix_74 (fun H locs hw => ?_)
                obtain ⟨S_390, eS_390⟩ : ∃ T, T = sA T_302 q_386 (upd (pA T_302 q_386) (Int32.toNatClampNeg (i5_300)) (i6_301)) := ⟨_, rfl⟩
                rw [← eS_390] at hw
                have hO_391 : Ok Mmi S S_390 := hO_T_302.sA eS_390 h_388 (by decide +kernel) (uA_1374 hO_T_302.1 h_388 (by omega) (by omega))
                have h_392 : pA S_390 q_386 (Int32.toNatClampNeg (i5_300)) = i6_301 := tA_sAs eS_390
                have t_393 : pR S_390 1258 x = some q_386 := tR_sA eS_390 h_387
                have t_395 : pR T_302 1258 x = some q_386 := by have h := t_393; rw [eS_390, pR_sA] at h; exact h
                have zs_394 : ∀ j, zA S_390 x 1258 j = if j = (i5_300_z).toNat then i6_301_z else zA T_302 x 1258 j := by have h := zA_sAs eS_390 t_395 hz_i6_301; rw [z_nc hz_i5_300 (by omega)] at h; exact h
                refine lv_aload_n X.1 X.2.1 dX12_mix_75 rfl (lv_at hl 2 rfl) ?_
                have t_396 : At S_390 x 12 := tAt_sA eS_390 ha_x_L_303
                obtain ⟨q_397, h_398, h_399, h_400⟩ := gQ_12_1259 hO_391.1 t_396
                refine r_getR (g := 1259) X hw t_396 rfl 59 h_398 (by decide) rfl inn_X12_mix_12 (by decide) (X.2.2.2.1 (.fieldLink RX12 143 "SilkMillModel" "askedWeight" "[I") (by decide +kernel)) rfl (gv_1259 _ _) dX12_mix_76 ?_
                refine lv_iload X.1 X.2.1 dX12_mix_79 (lv_at hl 0 rfl) ?_
                refine lv_aload_n X.1 X.2.1 dX12_mix_81 rfl (lv_at hl 2 rfl) ?_
                refine lv_iload X.1 X.2.1 dX12_mix_82 (lv_at hl 1 rfl) ?_
                have t_401 : pI S_390 1238 x = v_1 := tI_sA eS_390 ik_310
                have pz_402 : (pI S_390 1238 x).toInt = v_1.toInt := (congrArg Int32.toInt t_401).trans rfl
                have zc_403 : zA S_390 x 1244 = zA S x 1244 := (zA_sAn eS_390 (ex3 (gQ_12_1244 hO_T_302.1 ha_x_L_303)) h_388 rfl).trans zk_304
                have sr_404 := (SkW_m hG ha_x hO_391.fr zc_403 hp_1).2 _ _ hs_334
                refine k_i (rm := { frames := 6, cells := 0, slots := 0, locals := 288 }) (av := [.ref x, .int (i6_301)]) X hw (va_runV (As := [.int (i6_301)]) (rest := [.int (i5_300), .ref q_397]) (cfix X) (k_X12_weightOf8 l G cy κ S_390 _ x (i6_301) (i6_301_z) s_333 hO_391.1 t_396 hz_i6_301 (by first | assumption | omega) (by first | assumption | omega) (by first | assumption | omega) (MIe_free hG ha_x hO_391.fr (by decide +kernel) hp_0) sr_404) (cwV 1 X.2.2.2.1 gX12_mix_X12_weightOf rfl rfl rfl (by decide +kernel) ⟨Nat.le_of_ble_eq_true rfl, Nat.le_of_ble_eq_true rfl⟩) (pre_V X hw _ t_396 rfl (by decide) rfl) rfl rfl hl.1 rfl (lv_room (Nat.le_of_ble_eq_true rfl)) dX12_mix_84 ⟨Nat.le_of_ble_eq_true rfl, Nat.le_of_ble_eq_true rfl⟩) 0 0 (Nat.le_of_ble_eq_true rfl) (Nat.le_of_ble_eq_true rfl) (fun rr_405 S_406 H locs hp hw hfr hnw => ?_)
                obtain ⟨e2, hp⟩ := hp
                subst e2
                obtain ⟨we_407, we_408, we_409⟩ := hp
                have lz_410 := loZ_to (fnZ_fr hG ha_x hO_391.fr (by decide +kernel))
                have wv_411 : rr_405 = siZ S x s_333.2.2.2 := by rw [we_409, lz_410.2.2]
                have rg_412 := And.intro (z_lo rr_405) (z_hi rr_405)
                refine r_iast X hw h_399 rfl (by rw [h_400]; exact z_ix hz_i5_300 (by omega) (by omega)) dX12_mix_87 (fun H locs hw => ?_)
                obtain ⟨S_413, eS_413⟩ : ∃ T, T = sA S_390 q_397 (upd (pA S_390 q_397) (Int32.toNatClampNeg (i5_300)) (rr_405)) := ⟨_, rfl⟩
                rw [← eS_413] at hw
                have hO_414 : Ok Mmi S S_413 := hO_391.sA eS_413 h_399 (by decide +kernel) (uA_1394 hO_391.1 h_399)
                have h_415 : pA S_413 q_397 (Int32.toNatClampNeg (i5_300)) = rr_405 := tA_sAs eS_413
                have zc_416 : zA S_390 x 1259 = zA T_302 x 1259 := zA_sAn eS_390 (ex3 (gQ_12_1259 hO_T_302.1 ha_x_L_303)) h_388 rfl
                have t_417 : pR S_413 1259 x = some q_397 := tR_sA eS_413 h_398
                have t_419 : pR S_390 1259 x = some q_397 := by have h := t_417; rw [eS_413, pR_sA] at h; exact h
                have zs_418 : ∀ j, zA S_413 x 1259 j = if j = (i5_300_z).toNat then rr_405.toInt else zA S_390 x 1259 j := by have h := zA_sAs eS_413 t_419 rfl; rw [z_nc hz_i5_300 (by omega)] at h; exact h
                have zs_420 : ∀ j, zA S_413 x 1259 j = if j = (i5_300_z).toNat then rr_405.toInt else zA T_302 x 1259 j := fun j => by rw [zs_418 j, zc_416]
                refine lv_aload_n X.1 X.2.1 dX12_mix_88 rfl (lv_at hl 2 rfl) ?_
                have t_421 : At S_413 x 12 := tAt_sA eS_413 t_396
                obtain ⟨q_422, h_423, h_424, h_425⟩ := gQ_12_1260 hO_414.1 t_421
                refine r_getR (g := 1260) X hw t_421 rfl 60 h_423 (by decide) rfl inn_X12_mix_12 (by decide) (X.2.2.2.1 (.fieldLink RX12 146 "SilkMillModel" "askedPrice" "[I") (by decide +kernel)) rfl (gv_1260 _ _) dX12_mix_89 ?_
                refine lv_iload X.1 X.2.1 dX12_mix_92 (lv_at hl 0 rfl) ?_
                refine lv_aload_n X.1 X.2.1 dX12_mix_94 rfl (lv_at hl 2 rfl) ?_
                refine lv_iload X.1 X.2.1 dX12_mix_95 (lv_at hl 1 rfl) ?_
                have t_426 : pI S_413 1238 x = v_1 := tI_sA eS_413 t_401
                have pz_427 : (pI S_413 1238 x).toInt = v_1.toInt := (congrArg Int32.toInt t_426).trans rfl
                have zc_428 : zA S_413 x 1244 = zA S x 1244 := (zA_sAn eS_413 (ex3 (gQ_12_1244 hO_391.1 t_396)) h_399 rfl).trans zc_403
                have sr_429 := (SkW_m hG ha_x hO_414.fr zc_428 hp_1).2 _ _ hs_334
                refine k_i (rm := { frames := 7, cells := 0, slots := 0, locals := 336 }) (av := [.ref x, .int (i6_301)]) X hw (va_runV (As := [.int (i6_301)]) (rest := [.int (i5_300), .ref q_422]) (cfix X) (k_X12_priceOf8 l G cy κ S_413 _ x (i6_301) (i6_301_z) s_333 hO_414.1 t_421 hz_i6_301 (by first | assumption | omega) (by first | assumption | omega) (by first | assumption | omega) (MIe_free hG ha_x hO_414.fr (by decide +kernel) hp_0) sr_429) (cwV 1 X.2.2.2.1 gX12_mix_X12_priceOf rfl rfl rfl (by decide +kernel) ⟨Nat.le_of_ble_eq_true rfl, Nat.le_of_ble_eq_true rfl⟩) (pre_V X hw _ t_421 rfl (by decide) rfl) rfl rfl hl.1 rfl (lv_room (Nat.le_of_ble_eq_true rfl)) dX12_mix_97 ⟨Nat.le_of_ble_eq_true rfl, Nat.le_of_ble_eq_true rfl⟩) 0 0 (Nat.le_of_ble_eq_true rfl) (Nat.le_of_ble_eq_true rfl) (fun rr_430 S_431 H locs hp hw hfr hnw => ?_)
                obtain ⟨e2, hp⟩ := hp
                subst e2
                obtain ⟨pr_432, pr_433, pr_434⟩ := hp
                have lz_435 := loZ_to (fnZ_fr hG ha_x hO_414.fr (by decide +kernel))
                have m8_437 : mA S_413 x 1248 = mA S x 1248 := mA_fr hO_414.fr ha_x (ex3 (gQ_12_1248 hG ha_x)) (by decide +kernel) (by decide +kernel)
                have pv_436 : rr_430 = pcI (siZ S x s_333.2.2.2) (mA S x 1248 (gI s_333.1.2.1)) := by rw [pr_434, lz_435.2.2, m8_437]
                have rg_438 := And.intro (z_lo rr_430) (z_hi rr_430)
                refine r_iast X hw h_424 rfl (by rw [h_425]; exact z_ix hz_i5_300 (by omega) (by omega)) dX12_mix_100 (fun H locs hw => ?_)
                obtain ⟨S_439, eS_439⟩ : ∃ T, T = sA S_413 q_422 (upd (pA S_413 q_422) (Int32.toNatClampNeg (i5_300)) (rr_430)) := ⟨_, rfl⟩
                rw [← eS_439] at hw
                have hO_440 : Ok Mmi S S_439 := hO_414.sA eS_439 h_424 (by decide +kernel) (uA_1414 hO_414.1 h_424)
                have h_441 : pA S_439 q_422 (Int32.toNatClampNeg (i5_300)) = rr_430 := tA_sAs eS_439
                have zc_442 : zA S_390 x 1260 = zA T_302 x 1260 := zA_sAn eS_390 (ex3 (gQ_12_1260 hO_T_302.1 ha_x_L_303)) h_388 rfl
                have zc_443 : zA S_413 x 1260 = zA T_302 x 1260 := (zA_sAn eS_413 (ex3 (gQ_12_1260 hO_391.1 t_396)) h_399 rfl).trans zc_442
                have t_444 : pR S_439 1260 x = some q_422 := tR_sA eS_439 h_423
                have t_446 : pR S_413 1260 x = some q_422 := by have h := t_444; rw [eS_439, pR_sA] at h; exact h
                have zs_445 : ∀ j, zA S_439 x 1260 j = if j = (i5_300_z).toNat then rr_430.toInt else zA S_413 x 1260 j := by have h := zA_sAs eS_439 t_446 rfl; rw [z_nc hz_i5_300 (by omega)] at h; exact h
                have zs_447 : ∀ j, zA S_439 x 1260 j = if j = (i5_300_z).toNat then rr_430.toInt else zA T_302 x 1260 j := fun j => by rw [zs_445 j, zc_443]
                obtain ⟨x_448, ex_448⟩ : ∃ y : Int32, y = i5_300 + 1 := ⟨_, rfl⟩
                have z_449 : x_448.toInt = i5_300_z + 1 := z_add ex_448 hz_i5_300 ti_1 (by omega) (by omega)
                refine lv_iinc (v := x_448) (lv' := [(5, .int (x_448)), (6, .int (i6_301)), (0, .ref x), (1, .int (a1)), (2, .int (a2)), (3, .int (a3)), (4, .int (a4))]) X.1 X.2.1 dX12_mix_101 hl (k := 0) rfl (by rw [ex_448]; rfl) (by decide) rfl (fun ls hl => ?_)
                obtain ⟨x_450, ex_450⟩ : ∃ y : Int32, y = i6_301 + 1 := ⟨_, rfl⟩
                have z_451 : x_450.toInt = i6_301_z + 1 := z_add ex_450 hz_i6_301 ti_1 (by omega) (by omega)
                refine lv_iinc (v := x_450) (lv' := [(6, .int (x_450)), (5, .int (x_448)), (0, .ref x), (1, .int (a1)), (2, .int (a2)), (3, .int (a3)), (4, .int (a4))]) X.1 X.2.1 dX12_mix_104 hl (k := 1) rfl (by rw [ex_450]; rfl) (by decide) rfl (fun ls hl => ?_)
                refine lv_goto (tgt := 11) X.1 X.2.1 dX12_mix_107 (by decide) ?_
                have t_452 : At S_439 x 12 := tAt_sA eS_439 t_421
                have zc_453 : zA S_439 x 1244 = zA S x 1244 := (zA_sAn eS_439 (ex3 (gQ_12_1244 hO_414.1 t_421)) h_424 rfl).trans zc_428
                have zc_454 : zA S_390 x 1261 = zA S x 1261 := (zA_sAn eS_390 (ex3 (gQ_12_1261 hO_T_302.1 ha_x_L_303)) h_388 rfl).trans zk_305
                have zc_455 : zA S_413 x 1261 = zA S x 1261 := (zA_sAn eS_413 (ex3 (gQ_12_1261 hO_391.1 t_396)) h_399 rfl).trans zc_454
                have zc_456 : zA S_439 x 1261 = zA S x 1261 := (zA_sAn eS_439 (ex3 (gQ_12_1261 hO_414.1 t_421)) h_424 rfl).trans zc_455
                have ok_457 : okM (loZ S x) (hiZ S x) a2_z a3_z s_333 := ⟨z_eq0 (by have h := sr_335.1.1.2.2; omega), by rw [← lv_363]; omega, by rw [← lv_381]; omega⟩
                have zc_458 : zA S_413 x 1258 = zA S_390 x 1258 := zA_sAn eS_413 (ex3 (gQ_12_1258 hO_391.1 t_396)) h_399 rfl
                have zc_459 : zA S_439 x 1258 = zA S_390 x 1258 := (zA_sAn eS_439 (ex3 (gQ_12_1258 hO_414.1 t_421)) h_424 rfl).trans zc_458
                have zs_460 : ∀ j, zA S_439 x 1258 j = if j = (i5_300_z).toNat then i6_301_z else zA T_302 x 1258 j := fun j => by rw [zc_459]; exact zs_394 j
                have zc_461 : zA S_390 x 1259 = zA T_302 x 1259 := zA_sAn eS_390 (ex3 (gQ_12_1259 hO_T_302.1 ha_x_L_303)) h_388 rfl
                have zc_462 : zA S_439 x 1259 = zA S_413 x 1259 := zA_sAn eS_439 (ex3 (gQ_12_1259 hO_414.1 t_421)) h_424 rfl
                have zs_463 : ∀ j, zA S_439 x 1259 j = if j = (i5_300_z).toNat then rr_405.toInt else zA T_302 x 1259 j := fun j => by rw [zc_462]; exact zs_420 j
                have zc_464 : zA S_390 x 1260 = zA T_302 x 1260 := zA_sAn eS_390 (ex3 (gQ_12_1260 hO_T_302.1 ha_x_L_303)) h_388 rfl
                have zc_465 : zA S_413 x 1260 = zA T_302 x 1260 := (zA_sAn eS_413 (ex3 (gQ_12_1260 hO_391.1 t_396)) h_399 rfl).trans zc_464
                have ln_466 : (ofN (siZ S x) (mA S x 1248) (loZ S x) (hiZ S x) a2_z a3_z Ls (i6_301_z).toNat).length = (i5_300_z).toNat := by omega
                have t_467 : pI S_439 1238 x = v_1 := tI_sA eS_439 t_426
                exact ih_L_299 _ (by omega) _ _ _ _ (x_448) (x_448.toInt) (x_450) (x_450.toInt) rfl hw rfl (by omega) rfl (by omega) t_452 hO_440 zc_453 zc_456 (by rw [show (x_450.toInt).toNat = (i6_301_z).toNat + 1 by omega, ofN_y hs_334 ok_457 (by omega), ← pv_436, ← wv_411]; exact OfR_add iv_306 (fun j => by rw [ln_466, zs_460 j, show (i5_300_z).toNat = (i5_300_z).toNat by omega, show ((i6_301_z).toNat : Int) = i6_301_z by omega]) (fun j => by rw [ln_466, zs_463 j, show (i5_300_z).toNat = (i5_300_z).toNat by omega]) (fun j => by rw [ln_466, zs_447 j, show (i5_300_z).toNat = (i5_300_z).toNat by omega])) (by rw [show (x_450.toInt).toNat = (i6_301_z).toNat + 1 by omega, ofN_y hs_334 ok_457 (by omega), List.length_append, ln_466]; show (((i5_300_z).toNat + 1 : Nat) : Int) = _; omega) (by omega) (by omega) t_467 (lv_sub hl [1, 0, 2, 3, 4, 5, 6] rfl)
              · have z_b_468 := trivial
                have k_469 : rr_374.toInt > a3_z := z_nle rfl hz_a3 c_383
                refine lv_goto (tgt := 104) X.1 X.2.1 dX12_mix_63 (by decide) ?_
                obtain ⟨x_470, ex_470⟩ : ∃ y : Int32, y = i6_301 + 1 := ⟨_, rfl⟩
                have z_471 : x_470.toInt = i6_301_z + 1 := z_add ex_470 hz_i6_301 ti_1 (by omega) (by omega)
                refine lv_iinc (v := x_470) (lv' := [(6, .int (x_470)), (5, .int (i5_300)), (0, .ref x), (1, .int (a1)), (2, .int (a2)), (3, .int (a3)), (4, .int (a4))]) X.1 X.2.1 dX12_mix_104 hl (k := 1) rfl (by rw [ex_470]; rfl) (by decide) rfl (fun ls hl => ?_)
                refine lv_goto (tgt := 11) X.1 X.2.1 dX12_mix_107 (by decide) ?_
                exact ih_L_299 _ (by omega) _ _ _ _ (i5_300) (i5_300_z) (x_470) (x_470.toInt) rfl hw hz_i5_300 (by omega) rfl (by omega) ha_x_L_303 hO_T_302 zk_304 zk_305 (by rw [show (x_470.toInt).toNat = (i6_301_z).toNat + 1 by omega, ofN_n hs_334 (fun h => by have k1 := h.1.1; have k2 := h.1.2.1; have k3 := h.1.2.2; have e0 : (0 : Int32).toInt = 0 := (by decide); have e1 := congrArg Int32.toInt k1; have e2 := sr_335.1.1.2.2; rw [← lv_363] at k2; rw [← lv_381] at k3; omega)]; exact OfR_eq rfl rfl rfl iv_306) (by rw [show (x_470.toInt).toNat = (i6_301_z).toNat + 1 by omega, ofN_n hs_334 (fun h => by have k1 := h.1.1; have k2 := h.1.2.1; have k3 := h.1.2.2; have e0 : (0 : Int32).toInt = 0 := (by decide); have e1 := congrArg Int32.toInt k1; have e2 := sr_335.1.1.2.2; rw [← lv_363] at k2; rw [← lv_381] at k3; omega)]; exact iv_307) (by omega) (by omega) ik_310 (lv_sub hl [1, 0, 2, 3, 4, 5, 6] rfl)
  have t_472 : At S_5 x 12 := tAt_sI eS_5 ha_x
  exact L_299 _ _ _ _ _ (0) (0) (0) (0) rfl hw ti_0 (by omega) ti_0 (by omega) t_472 hO_6 zc_108 zc_149 (fun i t hi => by cases hi) (by rfl) (by omega) (by omega) t_8 (lv_sub hl [1, 0, 2, 3, 4, 5, 6] rfl)
set_option maxHeartbeats 4000000 in
set_option maxRecDepth 100000 in
theorem k_X12_mixed8 (l : Launch) (G : va_G) (cy : Nat → ClassId) (κ : Nat → Nat) (S : PS) (sz : Nat) (x : Nat) (a1 : Int32) (a1_z : Int) (hG : GX S) (ha_x : At S x 12) (hz_a1 : a1.toInt = a1_z) : Ci l yX12_mixed wsX12_mixed ({ frames := 3, cells := 0, slots := 0, locals := 144 }) G cy κ S sz [.ref x, .int (a1)] (fun (r : Int32) (S9 : PS) => Ok MN S S9 ∧ (((0 ≤ a1_z ∧ a1_z < (pI S 1238 x).toInt ∧ zA S x 1261 a1_z.toNat ≠ 0) ∧ r = 1) ∨ ((¬ (0 ≤ a1_z ∧ a1_z < (pI S 1238 x).toInt ∧ zA S x 1261 a1_z.toNat ≠ 0)) ∧ r = 0))) := by
  refine ent_m (cc := cX12_mixed) (maxL := 2) (ret := (some .boolean)) (by decide) rfl (Nat.le_of_ble_eq_true rfl) ?_
  intro p e s m below meth c ls X hr hlocks hin hw hl hsz
  subst hsz
  have X : Cx p c cX12_mixed 2 s [.ref x, .int (a1)].toArray wsX12_mixed RX12 m G cy κ (AS S s.heap.size) := X
  have hl : lv_has ls 2 [(0, .ref x), (1, .int (a1))] := hl
  have rg_a1 : (-2147483648) ≤ a1_z ∧ a1_z ≤ 2147483647 := by rw [← hz_a1]; exact ⟨z_lo _, z_hi _⟩
  have hO : Ok MN S S := Ok.rf hG
  obtain ⟨v_1, ev_1⟩ : ∃ v, pI S 1238 x = v := ⟨_, rfl⟩
  have rg_2 := gI_12_1238 hO.1 ha_x; rw [ev_1] at rg_2
  have pz_3 : (pI S 1238 x).toInt = v_1.toInt := by rw [ev_1]
  have pz_4 : (pI S 1238 x).toInt = v_1.toInt := (congrArg Int32.toInt ev_1).trans rfl
  refine lv_aload_n X.1 X.2.1 dX12_mixed_0 rfl (lv_at hl 0 rfl) ?_
  refine lv_iconst (v := 0) X.1 X.2.1 dX12_mixed_1 (by decide) ?_
  refine r_putI (v := 0) X hw ha_x rfl 0 1200 tyX12 (by decide) rfl inn_X12_mixed_12 tyX12_ok nmX12 (by decide) (X.2.2.2.1 (.fieldLink RX12 161 "SilkMillModel" "thrown" "I") (by decide +kernel)) rfl (Or.inl rfl) rfl rfl (Nat.le_of_ble_eq_true rfl) (st_1200 _ _) dX12_mixed_2 (fun H locs hw => ?_)
  obtain ⟨S_5, eS_5⟩ : ∃ T, T = sI S 1200 x (0) := ⟨_, rfl⟩
  rw [← eS_5] at hw
  have hO_6 : Ok MN S S_5 := hO.sI eS_5 (by decide +kernel) (uI_12_1200 hO.1 ha_x)
  have h_7 : pI S_5 1200 x = 0 := tI_sIs eS_5
  refine lv_aload_n X.1 X.2.1 dX12_mixed_5 rfl (lv_at hl 0 rfl) ?_
  refine lv_iload_n X.1 X.2.1 dX12_mixed_6 rfl (lv_at hl 1 rfl) ?_
  have t_8 : pI S_5 1238 x = v_1 := tI_sI eS_5 rfl ev_1
  have pz_9 : (pI S_5 1238 x).toInt = v_1.toInt := (congrArg Int32.toInt t_8).trans rfl
  have t_10 : At S_5 x 12 := tAt_sI eS_5 ha_x
  refine k_i (rm := { frames := 2, cells := 0, slots := 0, locals := 96 }) (av := [.ref x, .int (a1)]) X hw (va_runV (As := [.int (a1)]) (rest := []) (cfix X) (k_X12_isSkein7 l G cy κ S_5 _ x (a1) (a1_z) hO_6.1 t_10 hz_a1) (cwV 1 X.2.2.2.1 gX12_mixed_X12_isSkein rfl rfl rfl (by decide +kernel) ⟨Nat.le_of_ble_eq_true rfl, Nat.le_of_ble_eq_true rfl⟩) (pre_V X hw _ t_10 rfl (by decide) rfl) rfl rfl hl.1 rfl (lv_room (Nat.le_of_ble_eq_true rfl)) dX12_mixed_7 ⟨Nat.le_of_ble_eq_true rfl, Nat.le_of_ble_eq_true rfl⟩) 0 0 (Nat.le_of_ble_eq_true rfl) (Nat.le_of_ble_eq_true rfl) (fun rr_11 S_12 H locs hp hw hfr hnw => ?_)
  obtain ⟨e2, hp⟩ := hp
  subst e2
  rcases hp with ⟨f_13, er_14⟩ | ⟨f_13, er_14⟩ <;> subst er_14
  · have z_b_15 := trivial
    refine lv_if_eq (tgt := 26) X.1 X.2.1 dX12_mixed_10 (by decide) (fun c_16 => absurd c_16 (by decide)) (fun c_16 => ?_)
    refine lv_aload_n X.1 X.2.1 dX12_mixed_13 rfl (lv_at hl 0 rfl) ?_
    obtain ⟨q_17, h_18, h_19, h_20⟩ := gQ_12_1261 hO_6.1 t_10
    refine r_getR (g := 1261) X hw t_10 rfl 61 h_18 (by decide) rfl inn_X12_mixed_12 (by decide) (X.2.2.2.1 (.fieldLink RX12 149 "SilkMillModel" "isMixed" "[Z") (by decide +kernel)) rfl (gv_1261 _ _) dX12_mixed_14 ?_
    refine lv_iload_n X.1 X.2.1 dX12_mixed_17 rfl (lv_at hl 1 rfl) ?_
    refine r_zald X hw h_19 rfl (by rw [h_20]; exact z_ix hz_a1 (by omega) (by omega)) dX12_mixed_18 ?_
    refine lv_topi (fun v_21 ev_21 => ?_)
    have rg_22 := And.intro (z_lo v_21) (z_hi v_21)
    have ev_21 := ev_21.symm
    have zf_23 : zA S_5 x 1261 (a1_z).toNat = v_21.toInt := (zA_of h_18 hz_a1 (by omega) ev_21)
    refine lv_if_eq (tgt := 26) X.1 X.2.1 dX12_mixed_19 (by decide) (fun c_24 => ?_) (fun c_24 => ?_)
    · have z_b_25 := trivial
      have k_26 : v_21.toInt = 0 := z_eq rfl ti_0 c_24
      refine lv_iconst (v := 0) X.1 X.2.1 dX12_mixed_26 (by decide) ?_
      exact ret_z X hw hr hlocks (Nat.le_of_ble_eq_true rfl) (Nat.le_of_ble_eq_true rfl) (by decide) ⟨hO_6, Or.inr ⟨fun h => (by have k := zf_23; rw [zA_sI eS_5] at k; have e := h.2.2; omega), rfl⟩⟩ dX12_mixed_27
    · have z_b_27 := trivial
      have k_28 : v_21.toInt ≠ 0 := z_ne rfl ti_0 c_24
      refine lv_iconst (v := 1) X.1 X.2.1 dX12_mixed_22 (by decide) ?_
      refine lv_goto (tgt := 27) X.1 X.2.1 dX12_mixed_23 (by decide) ?_
      exact ret_z X hw hr hlocks (Nat.le_of_ble_eq_true rfl) (Nat.le_of_ble_eq_true rfl) (by decide) ⟨hO_6, Or.inl ⟨⟨by omega, by omega, by have h := zf_23; rw [zA_sI eS_5] at h; omega⟩, rfl⟩⟩ dX12_mixed_27
  · have z_b_29 := trivial
    refine lv_if_eq (tgt := 26) X.1 X.2.1 dX12_mixed_10 (by decide) (fun c_30 => ?_) (fun c_30 => absurd c_30 (by decide))
    refine lv_iconst (v := 0) X.1 X.2.1 dX12_mixed_26 (by decide) ?_
    exact ret_z X hw hr hlocks (Nat.le_of_ble_eq_true rfl) (Nat.le_of_ble_eq_true rfl) (by decide) ⟨hO_6, Or.inr ⟨fun h => by omega, rfl⟩⟩ dX12_mixed_27
