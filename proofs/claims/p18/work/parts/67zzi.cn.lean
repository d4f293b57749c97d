/-! ===== which cocoons are in what is drawn ===== -/
def CnD (L : List Nat) (A : Pt) : Prop := (∀ m, m ∈ qg A → ∀ z, z ∈ m → z.1 ∈ L) ∧ ∀ g, g ∈ qws A → ∀ m, m ∈ g → ∀ z, z ∈ m → z.1 ∈ L
def DnT (E : En) (L : List Nat) (A B : Pt) : Prop := CnV E L A → CnD L A → CnD L B
theorem DnT_tr {E : En} {L : List Nat} {A B C : Pt} (k : CnT E L A B) (h : DnT E L A B) (h' : DnT E L B C) : DnT E L A C := fun hV hD => h' (k hV).1 (h hV hD)
theorem DnT_q {E : En} {L : List Nat} {A B : Pt} (hg : qg B = qg A) (hw : qws B = qws A) : DnT E L A B := fun _ hD => by
  unfold CnD
  rw [hg, hw]
  exact hD
theorem DnT_mv {E : En} {L : List Nat} {A B : Pt} (h : Mv6 E L A B) : DnT E L A B := fun hV hD => by
  obtain ⟨a1, -, -⟩ := h hV
  exact DnT_q (E := E) a1.1 a1.2.2.1 hV hD
theorem cut_D {F : En} {L : List Nat} {A : Pt} (hD : CnD L A) : CnD L (cutF F A) := by
  obtain ⟨d1, d2⟩ := hD
  by_cases h : qg A = []
  · rw [cutF_n h]
    exact ⟨d1, d2⟩
  · by_cases h2 : (qsk A).length < 40
    · rw [cutF_k h h2]
      exact ⟨fun m hm => absurd hm List.not_mem_nil, d2⟩
    · rw [cutF_w h h2]
      refine ⟨fun m hm => absurd hm List.not_mem_nil, fun g hg => ?_⟩
      have hg' : g ∈ qws A ++ [qg A] := hg
      rcases List.mem_append.mp hg' with z | z
      · exact d2 g z
      · rw [List.mem_singleton.mp z]
        exact d1
theorem drw_D {E : En} {L : List Nat} {A : Pt} (hV : CnV E L A) (hD : CnD L A) : CnD L (drwB E A) := by
  obtain ⟨-, -, h3, -⟩ := ends_q (E := E) (A := DRa A) (qe A).length (Nat.le_refl _)
  obtain ⟨-, -, -, k4⟩ := ends_cn (E := E) (L := L) (A := DRa A) hV.2 (qe A).length (Nat.le_refl _)
  have h3' : qg (drwB E A) = qg A ++ [MTa A] := h3.trans (capG_a hV.1)
  have k4' : qws (drwB E A) = qws A := k4
  unfold CnD
  rw [h3', k4']
  refine ⟨fun m hm z hz => ?_, hD.2⟩
  rcases List.mem_append.mp hm with y | y
  · exact hD.1 m y z hz
  · rw [List.mem_singleton.mp y] at hz
    obtain ⟨c, hc, e⟩ := List.mem_map.mp (show z ∈ (qe A).map (fun c => (c, qpl A c)) from hz)
    have hm' : 0 < cnA A c := by
      have : 0 < (qe A).count c := List.count_pos_iff.mpr hc
      unfold cnA
      omega
    have h1 := (hV.2.2 c hm').2.1
    have h2 : c ∈ L := List.count_pos_iff.mp (by omega)
    rw [← e]
    exact h2
theorem DnT_drw {E : En} {L : List Nat} {A : Pt} : DnT E L A (drwF E A) := fun hV hD => by
  have h1 := drw_D hV hD
  by_cases h : 300 ≤ (qg (drwB E A)).length
  · rw [drwF_c h]
    exact cut_D h1
  · rw [drwF_n h]
    exact h1
theorem DnT_act {E F : En} {L : List Nat} {A : Pt} {a m : Int32} : DnT E L A (actF F a m A) := by
  unfold actF
  split
  · exact DnT_mv m6_cas
  · split
    · exact DnT_mv m6_dro
    · split
      · exact DnT_mv m6_fnd
      · split
        · exact DnT_q gs_thr.1 thr_ws
        · split
          · exact fun _ hD => cut_D hD
          · exact DnT_mv m6_st
theorem DnT_rus {E F : En} {L : List Nat} : ∀ {R : List Ru} {A : Pt}, DnT E L A (rusF F A R)
  | [], A => DnT_mv (m6_rf A)
  | r :: R, A => by
    show DnT E L A (rusF F (ruF F A r) R)
    by_cases h : allP F A r.2.2
    · rw [ruF_y h]
      exact DnT_tr CnT_act DnT_act DnT_rus
    · rw [ruF_n h]
      exact DnT_rus
theorem DnT_tic {E : En} {L : List Nat} {R : List Ru} {A : Pt} : DnT E L A (ticF E R A).1 := by
  have m2 : Mv6 E L A (seaF E (wtk A (qtk A + 1))) := m6_tr m6_tk m6_sea
  have h2 : DnT E L A (seaF E (wtk A (qtk A + 1))) := DnT_mv m2
  have c2 : CnT E L A (seaF E (wtk A (qtk A + 1))) := CnT_mv m2
  have h3 : DnT E L A (ticB E R A) ∧ CnT E L A (ticB E R A) := by
    unfold ticB
    split
    · exact ⟨DnT_tr c2 h2 DnT_rus, CnT_tr c2 CnT_rus⟩
    · exact ⟨h2, c2⟩
  by_cases c1 : 0 < (qst (ticB E R A)).toInt
  · rw [ticF_s c1]
    exact DnT_tr h3.2 h3.1 (DnT_mv m6_st)
  · by_cases c2 : qe (ticB E R A) = []
    · rw [ticF_0 c1 c2]
      exact h3.1
    · rw [ticF_d c1 c2]
      exact DnT_tr h3.2 h3.1 DnT_drw
theorem DnT_run {E : En} {L : List Nat} {R : List Ru} {A : Pt} : ∀ n, DnT E L A (runF E R n A).1
  | 0 => DnT_mv (m6_rf A)
  | n + 1 => DnT_tr (CnT_run n) (DnT_run n) DnT_tic
/-- waste, renamed -/
theorem ws_ren {ν : Nat → Nat} {D : Nat → Prop} {E F : En} {W : List (List Mt)} (hE : ReE ν D E F) (h : ∀ g, g ∈ W → ∀ m, m ∈ g → ∀ z, z ∈ m → D z.1) : wsE F (W.map (List.map (mtN ν))) = wsE E W := by
  unfold wsE
  rw [List.foldl_map]
  refine flx (fun b g hg => ?_)
  show b + siE F (g.map (mtN ν)) = b + siE E g
  refine congrArg (fun y => b + y) ?_
  unfold siE
  rw [List.foldl_map]
  refine flx (fun b' m hm => ?_)
  show b' + mtE F (mtN ν m) = b' + mtE E m
  refine congrArg (fun y => b' + y) ?_
  unfold mtE mtN
  rw [List.foldl_map]
  refine flx (fun b2 z hz => ?_)
  show b2 + efn F (ν z.1) z.2 = b2 + efn E z.1 z.2
  rw [(hE.1 z.1 (h g hg m hm z hz)).2.1 z.2]
/-! ===== all cocoons, one after the other ===== -/
def oF (f : Nat → Int32) : Option Nat → Int32
  | some c => f c
  | none => 0
theorem su_fm {f : Nat → Int32} {g : Nat → Option Nat} : ∀ {l : List Nat}, suL f (l.filterMap g) = suL (fun j => oF f (g j)) l
  | [] => rfl
  | a :: t => by
    rw [su_c (f := fun j => oF f (g j))]
    cases e : g a with
    | none =>
      rw [List.filterMap_cons_none e, su_fm]
      show _ = oF f none + _
      exact (Int32.zero_add _).symm
    | some c =>
      rw [List.filterMap_cons_some e, su_c, su_fm]
      rfl
noncomputable def vld (S : PS) (x j : Nat) : Option Nat := if ((j / 60 : Nat) : Int) < (pI S 1102 x).toInt ∧ ((j % 60 : Nat) : Int) < zA S x 1101 (j / 60) then mB S x 1100 j else none
noncomputable def coS (S : PS) (x : Nat) : List Nat := (List.range 600).filterMap (vld S x)
theorem vld_y {S : PS} {x l i c : Nat} (hi : i < 60) (h1 : (l : Int) < (pI S 1102 x).toInt) (h2 : (i : Int) < zA S x 1101 l) (h3 : mB S x 1100 (60 * l + i) = some c) : vld S x (60 * l + i) = some c := by
  unfold vld
  have e1 : (60 * l + i) / 60 = l := by omega
  have e2 : (60 * l + i) % 60 = i := by omega
  rw [e1, e2, if_pos ⟨h1, h2⟩]
  exact h3
theorem vld_d {S : PS} {x j c : Nat} (h : vld S x j = some c) : ((j / 60 : Nat) : Int) < (pI S 1102 x).toInt ∧ ((j % 60 : Nat) : Int) < zA S x 1101 (j / 60) ∧ mB S x 1100 (60 * (j / 60) + j % 60) = some c := by
  unfold vld at h
  split at h
  · rename_i k
    exact ⟨k.1, k.2, by rw [show 60 * (j / 60) + j % 60 = j by omega]; exact h⟩
  · cases h
theorem co_D {S : PS} {x c : Nat} (h : c ∈ coS S x) : DC S x c := by
  obtain ⟨j, -, hj⟩ := List.mem_filterMap.mp h
  obtain ⟨h1, h2, h3⟩ := vld_d hj
  exact ⟨j / 60, j % 60, h1, h2, h3⟩
theorem co_m {S : PS} {x c : Nat} (hG : GX S) (hx : At S x 11) (h : DC S x c) : c ∈ coS S x := by
  obtain ⟨l, i, h1, h2, h3⟩ := h
  have b1 := il60 hG hx l
  have b2 := gI_11_1102 hG hx
  exact List.mem_filterMap.mpr ⟨60 * l + i, List.mem_range.mpr (by omega), vld_y (by omega) h1 h2 h3⟩
theorem fm_cn {g : Nat → Option Nat} {c j0 : Nat} : ∀ {l : List Nat}, (∀ j, j ∈ l → g j = some c → j = j0) → (l.filterMap g).count c ≤ l.count j0
  | [], _ => Nat.le_refl _
  | a :: t, h => by
    have ih := fm_cn (g := g) (c := c) (j0 := j0) (l := t) (fun j hj => h j (List.mem_cons_of_mem _ hj))
    rw [con_cn (L := t)]
    cases e : g a with
    | none =>
      rw [List.filterMap_cons_none e]
      omega
    | some d =>
      rw [List.filterMap_cons_some e, con_cn]
      by_cases z : d = c
      · have k := h a List.mem_cons_self (by rw [e, z])
        have k1 : 0 < [a].count j0 := List.count_pos_iff.mpr (List.mem_singleton.mpr k.symm)
        have k2 : [d].count c ≤ 1 := List.count_le_length
        omega
      · have k2 : [d].count c = 0 := List.count_eq_zero.mpr (fun y => z (List.mem_singleton.mp y).symm)
        omega
theorem co_1 {S : PS} {x c : Nat} {ν : Nat → Nat} (hG : GX S) (hx : At S x 11) (hN : NuP S x ν) (h : DC S x c) : (coS S x).count c = 1 := by
  have h0 : 0 < (coS S x).count c := List.count_pos_iff.mpr (co_m hG hx h)
  have h1 : (coS S x).count c ≤ (List.range 600).count (ν c) := fm_cn (fun j _ hj => by
    obtain ⟨k1, k2, k3⟩ := vld_d hj
    have := hN _ _ c k1 k2 k3
    omega)
  have h2 := List.nodup_iff_count.mp (List.nodup_range (n := 600)) (ν c)
  omega
/-! ===== what the store counts, among the ties ===== -/
theorem cn_sd {S : PS} {mo p : Nat} {ν : Nat → Nat} {A : Pt} (hMI : MI S mo) (hp : p < 4) (h : PW S mo (p : Int) (rnA ν A)) (c : Nat) (hc : 0 < cnA A c) : 1 ≤ zA S mo 1207 (ν c) ∧ zA S mo 1207 (ν c) ≤ 3 := by
  obtain ⟨h0, h1, h2, -⟩ := h
  have a : RowR S mo (3 * p) ((qb A).map ν) := by
    have e : (3 * (p : Int) + 0).toNat = 3 * p := by omega
    rw [e] at h0
    exact h0
  have b : RowR S mo (3 * p + 1) ((qe A).map ν) := by
    have e : (3 * (p : Int) + 1).toNat = 3 * p + 1 := by omega
    rw [e] at h1
    exact h1
  have d : RowR S mo (3 * p + 2) ((ql A).map ν) := by
    have e : (3 * (p : Int) + 2).toNat = 3 * p + 2 := by omega
    rw [e] at h2
    exact h2
  unfold cnA at hc
  rcases Nat.eq_zero_or_pos ((qb A).count c) with x | x
  · rcases Nat.eq_zero_or_pos ((qe A).count c) with y | y
    · have := (row_cn hMI (by omega) d c).2 (by omega)
      omega
    · have := (row_cn hMI (by omega) b c).2 y
      omega
  · have := (row_cn hMI (by omega) a c).2 x
    omega
def dwD (S : PS) (c : Nat) : Int32 := slC (pI S 8 c) (pI S 2 c) 0 (pI S 4 c).toInt.toNat
def thD (S : PS) (c : Nat) : Int32 := if pI S 3 c = 6 then slC (pI S 8 c) (pI S 2 c) (pI S 4 c).toInt ((pI S 2 c).toInt - (pI S 4 c).toInt).toNat else 0
def skS (S : PS) (K k : Nat) : Int32 := oF (fun o => oF (fun b => pI S 903 b) (pR S 703 o)) (mB S K 808 k)
def kpC (S : PS) (K : Nat) : Int32 := suL (skS S K) (List.range (pI S 800 K).toInt.toNat)
noncomputable def laN (S : PS) (mo : Nat) : Nat → Int
  | 0 => 0
  | n + 1 => laN S mo n + (if zA S mo 1253 n = 0 then 0 else 1)
def CnQ (S : PS) (x mo : Nat) : Prop := ∀ K, pR S 1107 x = some K → pI S 802 K = suL (dwD S) (coS S x) ∧ pI S 803 K = kpC S K ∧ pI S 804 K = suL (thD S) (coS S x) ∧ pI S 805 K = pI S 1246 mo
def LaT (S : PS) (x mo : Nat) : Prop := (pI S 1110 x).toInt = laN S mo 16
def CnS (S : PS) (x mo : Nat) : Prop := CnQ S x mo ∧ LaT S x mo
def laL : List Nat := [1110, 1253, 11275]
def kpL : List Nat := [800, 808, 10019, 703, 903]
def cnsN : List Nat := [1107, 802, 803, 804, 805, 1246, 8, 2, 4] ++ kpL
def cnsL : List Nat := szC ++ cnsN ++ [3]
def cnsM : List Nat := cnsL ++ laL
theorem la_e {S T : PS} {mo : Nat} (h : zA T mo 1253 = zA S mo 1253) : ∀ n, laN T mo n = laN S mo n
  | 0 => rfl
  | n + 1 => by
    show laN T mo n + (if zA T mo 1253 n = 0 then 0 else 1) = laN S mo n + (if zA S mo 1253 n = 0 then 0 else 1)
    rw [la_e h n, h]
theorem la_x {S T : PS} {mo p : Nat} (h : ∀ j, j ≠ p → zA T mo 1253 j = zA S mo 1253 j) : ∀ n, n ≤ p → laN T mo n = laN S mo n
  | 0, _ => rfl
  | n + 1, hn => by
    show laN T mo n + (if zA T mo 1253 n = 0 then 0 else 1) = laN S mo n + (if zA S mo 1253 n = 0 then 0 else 1)
    rw [la_x h n (by omega), h n (by omega)]
theorem la_u {S T : PS} {mo p : Nat} (h : ∀ j, j ≠ p → zA T mo 1253 j = zA S mo 1253 j) : ∀ n, p < n → laN T mo n + (if zA S mo 1253 p = 0 then 0 else 1) = laN S mo n + (if zA T mo 1253 p = 0 then 0 else 1)
  | 0, hn => absurd hn (Nat.not_lt_zero _)
  | n + 1, hn => by
    show laN T mo n + (if zA T mo 1253 n = 0 then 0 else 1) + _ = laN S mo n + (if zA S mo 1253 n = 0 then 0 else 1) + _
    by_cases e : n = p
    · have k := la_x h n (by omega)
      rw [e] at k ⊢
      omega
    · have k := la_u h n (by omega)
      rw [h n e]
      omega
theorem LaT_fr {M : List Nat} {S T : PS} {x mo : Nat} (hG : GX S) (hx : At S x 11) (hm : At S mo 12) (hF : Fr M S T) (hM : laL.all (fun g => !M.contains g) = true) (h : LaT S x mo) : LaT T x mo := by
  unfold LaT
  rw [hF.I' (g := 1110) (allc hM (by decide)) hx rfl, la_e (zA_fr hF hm (ex3 (gQ_12_1253 hG hm)) (allc hM (by decide)) (allc hM (by decide)))]
  exact h
theorem kp_fr {M : List Nat} {S T : PS} {K : Nat} (hG : GX S) (hK : At S K 8) (hF : Fr M S T) (hM : kpL.all (fun g => !M.contains g) = true) : kpC T K = kpC S K := by
  have e0 : pI T 800 K = pI S 800 K := hF.I' (allc hM (by decide)) hK rfl
  have eB : mB T K 808 = mB S K 808 := mB_frc hF hK (ex3 (gQ_8_808 hG hK)) (allc hM (by decide)) (allc hM (by decide))
  unfold kpC
  rw [e0]
  refine su_e (fun k _ => ?_)
  unfold skS
  rw [eB]
  cases e : mB S K 808 k with
  | none => rfl
  | some o =>
    have ho := sk_at hG hK e
    show oF (fun b => pI T 903 b) (pR T 703 o) = oF (fun b => pI S 903 b) (pR S 703 o)
    rw [frR hF (g := 703) (allc hM (by decide)) ho.1]
    cases e2 : pR S 703 o with
    | none => rfl
    | some b => exact hF.I' (g := 903) (allc hM (by decide)) (sk_str hG ho e2) rfl
theorem co_e {S T : PS} {x : Nat} (h1 : (pI T 1102 x).toInt = (pI S 1102 x).toInt) (h2 : zA T x 1101 = zA S x 1101) (h3 : mB T x 1100 = mB S x 1100) : coS T x = coS S x := by
  have e : vld T x = vld S x := by
    funext j
    unfold vld
    rw [h1, h2, h3]
  unfold coS
  rw [e]
theorem co_fr {M : List Nat} {S T : PS} {x : Nat} (hG : GX S) (hx : At S x 11) (hF : Fr M S T) (hM : szC.all (fun g => !M.contains g) = true) : coS T x = coS S x := by
  obtain ⟨a1, a2, a3⟩ := sz_same hG hx hF hM
  exact co_e a1 a2 a3
theorem CnQ_g {M : List Nat} {S T : PS} {x mo : Nat} (hG : GX S) (hx : At S x 11) (hm : At S mo 12) (hF : Fr M S T) (hM : cnsN.all (fun g => !M.contains g) = true) (hD : suL (dwD T) (coS T x) = suL (dwD S) (coS S x)) (hT : suL (thD T) (coS T x) = suL (thD S) (coS S x)) (h : CnQ S x mo) : CnQ T x mo := fun K hK => by
  rw [frR hF (g := 1107) (allc hM (by decide)) hx.1] at hK
  have hKs := st_at hG hx hK
  obtain ⟨a, b, c, d⟩ := h K hK
  rw [hD, hT, hF.I' (g := 802) (allc hM (by decide)) hKs rfl, hF.I' (g := 803) (allc hM (by decide)) hKs rfl, hF.I' (g := 804) (allc hM (by decide)) hKs rfl, hF.I' (g := 805) (allc hM (by decide)) hKs rfl, hF.I' (g := 1246) (allc hM (by decide)) hm rfl, kp_fr hG hKs hF (sub_all hM (by decide))]
  exact ⟨a, b, c, d⟩
theorem dwD_fr {M : List Nat} {S T : PS} {c : Nat} (hF : Fr M S T) (hM : ([8, 2, 4] : List Nat).all (fun g => !M.contains g) = true) (hc : At S c 0) : dwD T c = dwD S c := by
  unfold dwD
  rw [hF.I' (g := 8) (allc hM (by decide)) hc rfl, hF.I' (g := 2) (allc hM (by decide)) hc rfl, hF.I' (g := 4) (allc hM (by decide)) hc rfl]
theorem thD_fr {M : List Nat} {S T : PS} {c : Nat} (hF : Fr M S T) (hM : ([8, 2, 4] : List Nat).all (fun g => !M.contains g) = true) (hc : At S c 0) (h3 : pI T 3 c = 6 ↔ pI S 3 c = 6) : thD T c = thD S c := by
  unfold thD
  rw [hF.I' (g := 8) (allc hM (by decide)) hc rfl, hF.I' (g := 2) (allc hM (by decide)) hc rfl, hF.I' (g := 4) (allc hM (by decide)) hc rfl]
  by_cases z : pI S 3 c = 6
  · rw [if_pos z, if_pos (h3.mpr z)]
  · rw [if_neg z, if_neg (fun y => z (h3.mp y))]
theorem CnQ_f3 {M : List Nat} {S T : PS} {x mo : Nat} (hG : GX S) (hx : At S x 11) (hm : At S mo 12) (hF : Fr M S T) (hM : (szC ++ cnsN).all (fun g => !M.contains g) = true) (h3 : ∀ c, DC S x c → (pI T 3 c = 6 ↔ pI S 3 c = 6)) (h : CnQ S x mo) : CnQ T x mo := by
  have hC := co_fr hG hx hF (sub_all hM (by decide))
  have hA : ∀ c, c ∈ coS S x → At S c 0 := fun c hc => dc_at hG hx c (co_D hc)
  refine CnQ_g hG hx hm hF (sub_all hM (by decide)) ?_ ?_ h
  · rw [hC]
    exact su_e (fun c hc => dwD_fr hF (sub_all hM (by decide)) (hA c hc))
  · rw [hC]
    exact su_e (fun c hc => thD_fr hF (sub_all hM (by decide)) (hA c hc) (h3 c (co_D hc)))
theorem CnQ_fr {M : List Nat} {S T : PS} {x mo : Nat} (hG : GX S) (hx : At S x 11) (hm : At S mo 12) (hF : Fr M S T) (hM : cnsL.all (fun g => !M.contains g) = true) (h : CnQ S x mo) : CnQ T x mo := CnQ_f3 hG hx hm hF (sub_all hM (by decide)) (fun c hc => by rw [hF.I' (g := 3) (allc hM (by decide)) (dc_at hG hx c hc) rfl]) h
theorem CnS_fr {M : List Nat} {S T : PS} {x mo : Nat} (hG : GX S) (hx : At S x 11) (hm : At S mo 12) (hF : Fr M S T) (hM : cnsM.all (fun g => !M.contains g) = true) (h : CnS S x mo) : CnS T x mo := ⟨CnQ_fr hG hx hm hF (sub_all hM (by decide)) h.1, LaT_fr hG hx hm hF (sub_all hM (by decide)) h.2⟩
theorem su_0 {f : Nat → Int32} : ∀ {l : List Nat}, (∀ c, c ∈ l → f c = 0) → suL f l = 0
  | [], _ => rfl
  | a :: t, h => by
    rw [su_c, h a List.mem_cons_self, su_0 (fun c hc => h c (List.mem_cons_of_mem _ hc))]
    rfl
theorem la_0 {S : PS} {mo : Nat} (h : ∀ i, zA S mo 1253 i = 0) : ∀ n, laN S mo n = 0
  | 0 => rfl
  | n + 1 => by
    show laN S mo n + (if zA S mo 1253 n = 0 then 0 else 1) = 0
    rw [la_0 h n, if_pos (h n)]
    rfl
theorem CnS_0 {S : PS} {x mo : Nat} (h2 : pI S 1102 x = 0) (h5 : ∀ i, zA S mo 1253 i = 0) (h8 : ∀ K, pR S 1107 x = some K → pI S 800 K = 0 ∧ pI S 802 K = 0 ∧ pI S 803 K = 0 ∧ pI S 804 K = 0 ∧ pI S 805 K = 0) (h6 : pI S 1246 mo = 0) (h10 : pI S 1110 x = 0) : CnS S x mo := by
  have e0 : (0 : Int32).toInt = 0 := by decide
  have hN : ∀ c, ¬ c ∈ coS S x := fun c hc => by
    obtain ⟨l, i, h1, -⟩ := co_D hc
    rw [h2, e0] at h1
    omega
  refine ⟨fun K hK => ?_, ?_⟩
  · obtain ⟨a, b, c, d, e⟩ := h8 K hK
    rw [b, c, d, e, h6, su_0 (fun c hc => absurd hc (hN c)), su_0 (fun c hc => absurd hc (hN c))]
    refine ⟨rfl, ?_, rfl, rfl⟩
    unfold kpC
    rw [a, e0]
    rfl
  · unfold LaT
    rw [h10, la_0 h5]
    exact e0
theorem sl_EC {S : PS} {K P c : Nat} {a : Int} : ∀ n, slE (EC S K P) c a n = slC (pI S 8 c) (pI S 2 c) a n
  | 0 => rfl
  | n + 1 => by
    show slE (EC S K P) c a n + fcI (pI S 8 c) (pI S 2 c) (Int32.ofInt (a + (n : Int))) = slC (pI S 8 c) (pI S 2 c) a n + fcI (pI S 8 c) (pI S 2 c) (Int32.ofInt (a + (n : Int)))
    rw [sl_EC n]
theorem si_EC {S T : PS} {K P : Nat} {D : Nat → Prop} {g : List Mt} (h8 : ∀ c, D c → pI T 8 c = pI S 8 c ∧ pI T 2 c = pI S 2 c) (h : MtD T D g) : siS T g = siE (EC S K P) g := flx (fun b m hm => by
  show b + mtS T m = b + mtE (EC S K P) m
  refine congrArg (fun y => b + y) (flx (fun b' z hz => ?_))
  show b' + fcI (pI T 8 z.1) (pI T 2 z.1) z.2 = b' + fcI (pI S 8 z.1) (pI S 2 z.1) z.2
  obtain ⟨e1, e2⟩ := h8 z.1 (h m hm z hz).1
  rw [e1, e2])
theorem su_ix {α : Type} {l : List α} {f : Nat → Int32} {g : α → Int32} (h : ∀ k s, l[k]? = some s → f k = g s) : ∀ n, n ≤ l.length → suL f (List.range n) = (l.take n).foldl (fun a s => a + g s) 0
  | 0, _ => by rw [List.take_zero]; rfl
  | n + 1, hn => by
    have e : l[n]? = some l[n] := List.getElem?_eq_getElem (by omega)
    rw [List.range_succ, su_a, su_ix h n (by omega), List.take_succ, e, h n _ e]
    exact fo_app.symm
theorem kp_V {S T : PS} {K P : Nat} {D : Nat → Prop} {sk : List Sk} (h8 : ∀ c, D c → pI T 8 c = pI S 8 c ∧ pI T 2 c = pI S 2 c) (hV : SkV T D K sk) : kpC T K = kpE (EC S K P) sk := by
  have hl := hV.1
  unfold kpC
  rw [show (pI T 800 K).toInt.toNat = sk.length by omega, su_ix (l := sk) (g := fun s => siE (EC S K P) s.2.2.2) (fun k s hs => ?_) _ (Nat.le_refl _), List.take_length]
  · rfl
  · obtain ⟨o, j1, b, f, j2, j3, j4, j5, -⟩ := hV.2 k s hs
    unfold skS
    rw [j1]
    show oF (fun b => pI T 903 b) (pR T 703 o) = _
    rw [j2]
    show pI T 903 b = _
    rw [j5.2.1]
    exact si_EC h8 j5.2.2.1
theorem i_can {a b c d : Int32} (h : a + b = c + d) (e : c = b) : a = d := by
  rw [e, Int32.add_comm b d] at h
  exact (Int32.add_left_inj b).mp h
def cn4L : List Nat := szC ++ [1107, 8, 2, 1246]
def cn5L : List Nat := szC ++ [802, 803, 804, 805, 8, 2, 4, 3] ++ kpL
/-- a pot's step -/
theorem cn_step {M1 M2 : List Nat} {S1 S2 S3 : PS} {x mo K p P R0 R1 R2 G : Nat} {ν : Nat → Nat} {sk : List Sk} {A A' B' : Pt} {R : List Ru} (hG1 : GX S1) (hG2 : GX S2) (hx : At S1 x 11) (hm : At S1 mo 12) (hF1 : Fr M1 S1 S2) (hF2 : Fr M2 S2 S3) (hM1 : (cn4L ++ laL).all (fun g => !M1.contains g) = true) (hM2 : (cn5L ++ laL ++ [1107]).all (fun g => !M2.contains g) = true) (ct : CT S1 x mo) (hMI : MI S1 mo) (hGR : GR S1 mo) (hS : SZ S1 x mo) (hw : TPw S1 x mo ν K sk) (hp : (p : Int) < (pI S1 1104 x).toInt) (h : PT1 S1 x mo ν p P R0 R1 R2 G A R)
    (hV : PotV S2 (DC S1 x) P R0 R1 R2 G K A') (hCt : CtT S1 S2 K (EC S1 K P) (cA S1 A sk) A') (hCn : ∀ L, CnT (EC S1 K P) L (cA S1 A sk) A') (hDn : ∀ L, DnT (EC S1 K P) L (cA S1 A sk) A') (hE : ReE ν (DC S1 x) (EC S1 K P) (ER S1 mo p)) (hW : WsT S2 S3 mo (ER S1 mo p) (cB S1 mo ν A sk) B') (hR : Ren ν (DC S1 x) A' B') (h0 : CnS S1 x mo) : CnS S3 x mo := by
  have hx2 := hF1.at hx
  have hm2 := hF1.at hm
  refine ⟨fun K' hK' => ?_, LaT_fr hG2 hx2 hm2 hF2 (sub_all hM2 (by decide)) (LaT_fr hG1 hx hm hF1 (sub_all hM1 (by decide)) h0.2)⟩
  obtain ⟨hN1, hK1, hsk, hPl, -, -, -⟩ := hw
  rw [frR hF2 (g := 1107) (allc hM2 (by decide)) hx2.1, frR hF1 (g := 1107) (allc hM1 (by decide)) hx.1, hK1] at hK'
  cases hK'
  have hKs := st_at hG1 hx hK1
  have hKs2 := hF1.at hKs
  have hp4 : p < 4 := by
    have := gI_11_1104 hG1 hx
    omega
  have hInD : InD (DC S1 x) A := h.2.2.1.2.2.2.2.2.2.2.2
  have hMt := h.2.2.1.2.2.2.2.2.1.2.2.1
  have hPW := h.2.2.2.2.1
  have hGr : GrW S1 mo p ((qg A).map (mtN ν)) := by
    have z := hPW.2.2.2.2.2.1
    rw [Int.toNat_natCast] at z
    exact z
  have hmemD : ∀ c, 0 < cnA A c → DC S1 x c := fun c z => by
    unfold cnA at z
    rcases Nat.eq_zero_or_pos ((qb A).count c) with y | y
    · rcases Nat.eq_zero_or_pos ((qe A).count c) with w | w
      · exact hInD c (Or.inr (Or.inr (List.count_pos_iff.mp (by omega))))
      · exact hInD c (Or.inr (Or.inl (List.count_pos_iff.mp w)))
    · exact hInD c (Or.inl (List.count_pos_iff.mp y))
  have hCV : CnV (EC S1 K P) (coS S1 x) (cA S1 A sk) := by
    refine ⟨?_, cn_of hMI hp4 hPW, fun c hc => ?_⟩
    · have z1 := hGr.1
      have z2 := hGR p hp4
      rw [List.length_map] at z1
      show (qg A).length < 300
      omega
    · have hc' : 0 < cnA A c := hc
      have hD := hmemD c hc'
      have hsd := cn_sd hMI hp4 hPW c hc'
      have h1 := co_1 hG1 hx hN1 hD
      obtain ⟨l, i, k1, k2, k3⟩ := hD
      have b1 := il60 hG1 hx l
      have b2 := gI_11_1102 hG1 hx
      obtain ⟨c', c1, -, -, -, c5, -⟩ := CT_get (l := (l : Int)) (i := (i : Int)) ct (by omega) k1 (by omega) k2 (by omega)
      rw [show (60 * (l : Int) + (i : Int)).toNat = 60 * l + i by omega, k3] at c1
      cases c1
      have eν := hN1 l i c k1 k2 k3
      have e3 : (pI S1 3 c).toInt = zA S1 mo 1207 (60 * l + i) := hS l i k1 k2 c k3
      have e4 := hPl l i c k1 k2 k3
      have m1 := MI_1 hMI (c := ((60 * l + i : Nat) : Int)) (by omega) (by omega)
      rw [Int.toNat_natCast] at m1
      rw [eν] at hsd
      have hl := lenZ_le hG1 hm (60 * (l : Int) + (i : Int))
      have z8 : 0 ≤ zA S1 mo 1208 (60 * l + i) := by
        obtain ⟨q, q1, q2, -⟩ := gQ_12_1208 hG1 hm
        rw [zA_eq, mA_eq q1]
        exact (gE_374 hG1 q2 _).1
      have m2 : zA S1 mo 1208 (60 * l + i) < lenZ S1 mo (60 * (l : Int) + (i : Int)) := by
        by_cases y : ((60 * l + i : Nat) : Int) < 60 * (pI S1 1201 mo).toInt
        · have := (m1.2 y).2 (by omega) (by omega)
          rw [show ((60 * l + i : Nat) : Int) = 60 * (l : Int) + (i : Int) by omega] at this
          exact this
        · have := (m1.1 (by omega)).2
          omega
      refine ⟨fun z => ?_, h1, ?_, ?_, ?_⟩
      · have z' : pI S1 3 c = 6 := z
        rw [z', show (6 : Int32).toInt = 6 by decide] at e3
        omega
      · show 0 ≤ (pI S1 4 c).toInt
        omega
      · show (pI S1 4 c).toInt < (pI S1 2 c).toInt
        omega
      · show (pI S1 2 c).toInt ≤ 1000
        omega
  have hCD : CnD (coS S1 x) (cA S1 A sk) := ⟨fun m hm' z hz => co_m hG1 hx (hMt m hm' z hz).1, fun g hg => absurd hg List.not_mem_nil⟩
  obtain ⟨a, b, c, d⟩ := h0.1 K hK1
  obtain ⟨-, t1, t2, t3, t4⟩ := hCt _ hCV
  obtain ⟨-, u⟩ := hCn _ hCV
  have hD' := hDn _ hCV hCD
  have hCo := hV.2.2.2.2.2.2.2.2.2.1
  have hSk := hV.2.2.2.2.2.2.2.2.1
  have f8 : ∀ c, DC S1 x c → pI S2 8 c = pI S1 8 c ∧ pI S2 2 c = pI S1 2 c := fun c hc => ⟨hF1.I' (g := 8) (allc hM1 (by decide)) (dc_at hG1 hx c hc) rfl, hF1.I' (g := 2) (allc hM1 (by decide)) (dc_at hG1 hx c hc) rfl⟩
  have eC : coS S3 x = coS S1 x := (co_fr hG2 hx2 hF2 (sub_all hM2 (by decide))).trans (co_fr hG1 hx hF1 (sub_all hM1 (by decide)))
  have fI : ∀ g c, ([8, 2, 4, 3] : List Nat).contains g = true → DC S1 x c → pI S3 g c = pI S2 g c := fun g c hg hc => hF2.I' (g := g) (allc hM2 (by
    have := List.contains_iff_mem.mp hg
    simp only [List.mem_cons, List.not_mem_nil, or_false] at this
    rcases this with z | z | z | z <;> subst z <;> decide)) (hF1.at (dc_at hG1 hx c hc)) rfl
  have eD1 : suL (dwD S1) (coS S1 x) = dwE (EC S1 K P) (coS S1 x) (cA S1 A sk) := su_e (fun c _ => (sl_EC _).symm)
  have eT1 : suL (thD S1) (coS S1 x) = thE (EC S1 K P) (coS S1 x) (cA S1 A sk) := su_e (fun c _ => by
    show thD S1 c = (if pI S1 3 c = 6 then slE (EC S1 K P) c (pI S1 4 c).toInt ((pI S1 2 c).toInt - (pI S1 4 c).toInt).toNat else 0)
    rw [sl_EC]
    rfl)
  have g4 : ∀ c, DC S1 x c → pI S3 4 c = qpl A' c ∧ pI S3 3 c = qsd A' c ∧ pI S3 8 c = pI S1 8 c ∧ pI S3 2 c = pI S1 2 c := fun c hc => ⟨(fI 4 c (by decide) hc).trans (hCo c hc).1, (fI 3 c (by decide) hc).trans (hCo c hc).2, (fI 8 c (by decide) hc).trans (f8 c hc).1, (fI 2 c (by decide) hc).trans (f8 c hc).2⟩
  have eD3 : suL (dwD S3) (coS S1 x) = dwE (EC S1 K P) (coS S1 x) A' := su_e (fun c hc => by
    obtain ⟨q1, -, q3, q4⟩ := g4 c (co_D hc)
    unfold dwD
    rw [q1, q3, q4]
    exact (sl_EC _).symm)
  have eT3 : suL (thD S3) (coS S1 x) = thE (EC S1 K P) (coS S1 x) A' := su_e (fun c hc => by
    obtain ⟨q1, q2, q3, q4⟩ := g4 c (co_D hc)
    unfold thD thV
    rw [q1, q2, q3, q4, sl_EC]
    rfl)
  have hKI : ∀ g, g ∈ ([802, 803, 804, 805] : List Nat) → pI S3 g K = pI S2 g K := fun g hg => hF2.I' (g := g) (allc hM2 (by
    simp only [List.mem_cons, List.not_mem_nil, or_false] at hg
    rcases hg with z | z | z | z <;> subst z <;> decide)) hKs2 rfl
  rw [eC, hKI 802 (by decide), hKI 803 (by decide), hKI 804 (by decide), hKI 805 (by decide), eD3, eT3, kp_fr hG2 hKs2 hF2 (sub_all hM2 (by decide)), kp_V (P := P) f8 hSk]
  have k1 : kpC S1 K = kpE (EC S1 K P) sk := kp_V (fun c _ => ⟨rfl, rfl⟩) hsk.1
  refine ⟨?_, i_can t2 (b.trans k1), i_can t3 (c.trans eT1), ?_⟩
  · rw [a, eD1] at t1
    exact (Int32.add_left_inj _).mp (t1.trans u.symm)
  · have w1 : pI S3 1246 mo + 0 = pI S2 1246 mo + wsE (ER S1 mo p) (qws B') := hW
    have w2 : pI S2 805 K + 0 = pI S1 805 K + wsE (EC S1 K P) (qws A') := t4
    rw [Int32.add_zero] at w1 w2
    rw [w1, w2, hR.2.2.2.2.2.2.2.2.1, ws_ren hE (fun g hg m hm' z hz => co_D (hD'.2 g hg m hm' z hz)), d, hF1.I' (g := 1246) (allc hM1 (by decide)) hm rfl]
