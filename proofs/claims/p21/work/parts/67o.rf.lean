/-! ===== cocoons come to a pot; a cut ===== -/
def recF (A : Pt) (c : Nat) : Pt := wb (wsd A (fuI (qsd A) c 1)) (capL 600 (qb A) c)
theorem inD_rec {D : Nat → Prop} {A : Pt} {c : Nat} (h : InD D A) (hc : D c) : InD D (recF A c) := fun d hd => by
  rcases hd with z | z | z
  · rcases capL_mem (show d ∈ capL 600 (qb A) c from z) with y | y
    · exact h d (Or.inl y)
    · rw [y]; exact hc
  · exact h d (Or.inr (Or.inl z))
  · exact h d (Or.inr (Or.inr z))
theorem ren_rec {ν : Nat → Nat} {D : Nat → Prop} {A B : Pt} {c : Nat} (hI : Inj ν D) (h : Ren ν D A B) (hc : D c) : Ren ν D (recF A c) (recF B (ν c)) := by
  obtain ⟨h0, h1, h2, h3, h4, h5, h6, h7, h8, h9, h10, h11⟩ := h
  refine ⟨?_, h1, h2, h3, h4, h5, fun d hd => ⟨(h6 d hd).1, fu_ren hI hc (fun c hc => (h6 c hc).2) d hd⟩, h7, h8, h9, h10, inD_rec h11 hc⟩
  show capL 600 (qb B) (ν c) = (capL 600 (qb A) c).map ν
  rw [h0]
  exact capL_ren
def filF (A : Pt) (L : List Nat) : Pt := L.foldl recF A
theorem filF_s {A : Pt} {L : List Nat} {c : Nat} : filF A (L ++ [c]) = recF (filF A L) c := by
  unfold filF
  rw [List.foldl_append]
  rfl
theorem inD_fil {D : Nat → Prop} : ∀ {L : List Nat} {A : Pt}, InD D A → (∀ c, c ∈ L → D c) → InD D (filF A L)
  | [], _, h, _ => h
  | c :: t, A, h, hL => inD_fil (L := t) (A := recF A c) (inD_rec h (hL c List.mem_cons_self)) (fun d hd => hL d (List.mem_cons_of_mem _ hd))
theorem ren_fil {ν : Nat → Nat} {D : Nat → Prop} (hI : Inj ν D) : ∀ {L : List Nat} {A B : Pt}, Ren ν D A B → (∀ c, c ∈ L → D c) → Ren ν D (filF A L) (filF B (L.map ν))
  | [], _, _, h, _ => h
  | c :: t, A, B, h, hL => ren_fil hI (L := t) (A := recF A c) (B := recF B (ν c)) (ren_rec hI h (hL c List.mem_cons_self)) (fun d hd => hL d (List.mem_cons_of_mem _ hd))
theorem iv_fil {fd : Int} : ∀ {L : List Nat} {A : Pt}, IvQ fd A → IvQ fd (filF A L)
  | [], _, h => h
  | c :: t, A, h => iv_fil (L := t) (A := recF A c) h
/-- the cocoons of lot l from f on, n of them -/
def cocL (S : PS) (x : Nat) (l f : Int) (n : Nat) : List Nat := (List.range n).map (fun j : Nat => (mB S x 1100 (60 * l + (f + (j : Int))).toNat).getD 0)
theorem cocL_s {S : PS} {x c n : Nat} {l f : Int} (h : mB S x 1100 (60 * l + (f + (n : Int))).toNat = some c) : cocL S x l f (n + 1) = cocL S x l f n ++ [c] := by
  unfold cocL
  rw [List.range_succ, List.map_append]
  show _ ++ [(mB S x 1100 (60 * l + (f + (n : Int))).toNat).getD 0] = _
  rw [h]
  rfl
theorem cocL_mem {S : PS} {x d n : Nat} {l f : Int} (h : d ∈ cocL S x l f n) : ∃ j : Nat, j < n ∧ d = (mB S x 1100 (60 * l + (f + (j : Int))).toNat).getD 0 := by
  unfold cocL at h
  obtain ⟨j, h1, h2⟩ := List.mem_map.mp h
  exact ⟨j, List.mem_range.mp h1, h2.symm⟩
/-- what a fill leaves of the cocoons' pots -/
def PnX (S T : PS) (c : Option Nat) (v : Int32) : Prop := (∀ q, c = some q → pI T 5 q = v) ∧ ∀ d, At S d 0 → c ≠ some d → pI T 5 d = pI S 5 d

set_option maxHeartbeats 4000000 in
set_option maxRecDepth 100000 in
theorem k_X4_receive6 (l : Launch) (G : va_G) (cy : Nat → ClassId) (κ : Nat → Nat) (S : PS) (sz : Nat) (x : Nat) (c1 : Option Nat) (D : Nat → Prop) (R0 : Nat) (R1 : Nat) (R2 : Nat) (Gs : Nat) (Ks : Nat) (A : Pt) (Ev : En) (hG : GX S) (ha_x : At S x 4) (hq_c1 : ∀ q, c1 = some q → At S q 0) (hp_0 : (∀ c, D c → At S c 0)) (hp_1 : PotR S x R0 R1 R2 Gs) (hp_2 : PotV S D x R0 R1 R2 Gs Ks A) (hp_3 : EnC S D x Ks Ev) (hp_4 : At S Ks 8) (hp_5 : (∀ q, c1 = some q → D q)) : Cv l yX4_receive wsX4_receive ({ frames := 3, cells := 0, slots := 0, locals := 144 }) G cy κ S sz [.ref x, va_rf c1] (fun (S9 : PS) => Ok eRC S S9 ∧ ((c1 = none → PotV S9 D x R0 R1 R2 Gs Ks A) ∧ (∀ c, c1 = some c → PotV S9 D x R0 R1 R2 Gs Ks (recF A c)) ∧ PotX S S9 x R0 R1 R2 Gs ∧ PnX S S9 c1 (pI S 410 x))) := by
  rcases c1 with _ | q_c1
  · have z_b_1 := trivial
    refine ent_m (cc := cX4_receive) (maxL := 2) (ret := none) (by decide) rfl (Nat.le_of_ble_eq_true rfl) ?_
    intro p e s m below meth c ls X hr hlocks hin hw hl hsz
    subst hsz
    have X : Cx p c cX4_receive 2 s [.ref x, .null].toArray wsX4_receive RX4 m G cy κ (AS S s.heap.size) := X
    have hl : lv_has ls 2 [(0, .ref x), (1, .null)] := hl
    have hO : Ok eRC S S := Ok.rf hG
    have hpr := hp_1
    obtain ⟨hr0, hr1, hr2, hr3, hne, hcn⟩ := hpr
    have haR0 := row_at hG ha_x (Or.inl hr0)
    have haR1 := row_at hG ha_x (Or.inr (Or.inl hr1))
    have haR2 := row_at hG ha_x (Or.inr (Or.inr hr2))
    have haGs : At S Gs 29 := by obtain ⟨c, k1, k2⟩ := gQ_4_403 hG ha_x; have h3 := hr3; rw [k1] at h3; cases h3; exact k2
    have hpv := hp_2
    obtain ⟨pv_2, pv_3, pv_4, pv_5, pv_6, pv_7, pv_8, pv_9, pv_10, pv_11, pv_12⟩ := hpv
    obtain ⟨v_13, ev_13⟩ : ∃ v, pI S 902 Gs = v := ⟨_, rfl⟩
    have rg_14 := gI_29_902 hO.1 haGs; rw [ev_13] at rg_14
    have pz_15 : (pI S 902 Gs).toInt = v_13.toInt := by rw [ev_13]
    have pz_16 : (pI S 902 Gs).toInt = v_13.toInt := (congrArg Int32.toInt ev_13).trans rfl
    obtain ⟨v_17, ev_17⟩ : ∃ v, pI S 800 Ks = v := ⟨_, rfl⟩
    have rg_18 := gI_8_800 hO.1 hp_4; rw [ev_17] at rg_18
    have pz_19 : (pI S 800 Ks).toInt = v_17.toInt := by rw [ev_17]
    have pz_20 : (pI S 800 Ks).toInt = v_17.toInt := (congrArg Int32.toInt ev_17).trans rfl
    have sl_21 := pv_7.1
    have sl_22 := pv_10.1
    refine lv_aload_nN X.1 X.2.1 dX4_receive_0 rfl (lv_at hl 1 rfl) ?_
    refine lv_ifnullN (tgt := 25) X.1 X.2.1 dX4_receive_1 (by decide) ?_
    exact ret_v X hw hr hlocks (Nat.le_of_ble_eq_true rfl) (Nat.le_of_ble_eq_true rfl) ⟨hO, ⟨fun _ => PotV_of (rfl : A = A) pv_2 pv_3 pv_4 pv_5 pv_6 pv_7 pv_8 pv_9 pv_10 pv_11 pv_12, fun c h => (by cases h), (PotX_rf S x R0 R1 R2 Gs), fun q h => (by cases h), fun _ _ _ => rfl⟩⟩ dX4_receive_25
  · have z_b_23 := trivial
    have ha_q_c1 : At S q_c1 0 := hq_c1 _ rfl
    refine ent_m (cc := cX4_receive) (maxL := 2) (ret := none) (by decide) rfl (Nat.le_of_ble_eq_true rfl) ?_
    intro p e s m below meth c ls X hr hlocks hin hw hl hsz
    subst hsz
    have X : Cx p c cX4_receive 2 s [.ref x, .ref q_c1].toArray wsX4_receive RX4 m G cy κ (AS S s.heap.size) := X
    have hl : lv_has ls 2 [(0, .ref x), (1, .ref q_c1)] := hl
    have hO : Ok eRC S S := Ok.rf hG
    have hpr := hp_1
    obtain ⟨hr0, hr1, hr2, hr3, hne, hcn⟩ := hpr
    have haR0 := row_at hG ha_x (Or.inl hr0)
    have haR1 := row_at hG ha_x (Or.inr (Or.inl hr1))
    have haR2 := row_at hG ha_x (Or.inr (Or.inr hr2))
    have haGs : At S Gs 29 := by obtain ⟨c, k1, k2⟩ := gQ_4_403 hG ha_x; have h3 := hr3; rw [k1] at h3; cases h3; exact k2
    have hpv := hp_2
    obtain ⟨pv_24, pv_25, pv_26, pv_27, pv_28, pv_29, pv_30, pv_31, pv_32, pv_33, pv_34⟩ := hpv
    obtain ⟨v_35, ev_35⟩ : ∃ v, pI S 902 Gs = v := ⟨_, rfl⟩
    have rg_36 := gI_29_902 hO.1 haGs; rw [ev_35] at rg_36
    have pz_37 : (pI S 902 Gs).toInt = v_35.toInt := by rw [ev_35]
    have pz_38 : (pI S 902 Gs).toInt = v_35.toInt := (congrArg Int32.toInt ev_35).trans rfl
    obtain ⟨v_39, ev_39⟩ : ∃ v, pI S 800 Ks = v := ⟨_, rfl⟩
    have rg_40 := gI_8_800 hO.1 hp_4; rw [ev_39] at rg_40
    have pz_41 : (pI S 800 Ks).toInt = v_39.toInt := by rw [ev_39]
    have pz_42 : (pI S 800 Ks).toInt = v_39.toInt := (congrArg Int32.toInt ev_39).trans rfl
    have sl_43 := pv_29.1
    have sl_44 := pv_32.1
    refine lv_aload_n X.1 X.2.1 dX4_receive_0 rfl (lv_at hl 1 rfl) ?_
    refine lv_ifnull X.1 X.2.1 dX4_receive_1 ?_
    refine lv_aload_n X.1 X.2.1 dX4_receive_4 rfl (lv_at hl 1 rfl) ?_
    refine lv_aload_n X.1 X.2.1 dX4_receive_5 rfl (lv_at hl 0 rfl) ?_
    obtain ⟨v_45, ev_45⟩ : ∃ v, pI S 410 x = v := ⟨_, rfl⟩
    have rg_47 := And.intro (z_lo v_45) (z_hi v_45)
    have pz_48 : (pI S 410 x).toInt = v_45.toInt := by rw [ev_45]
    refine r_getI (g := 410) (x := v_45) X hw ha_x rfl 10 ev_45 (by decide) rfl inn_X4_receive_4 (by decide) (X.2.2.2.1 (.fieldLink RX4 40 "SilkMill$Pot" "potNumber" "I") (by decide +kernel)) rfl (gv_410 _ _) dX4_receive_6 ?_
    refine r_putI (v := v_45) X hw ha_q_c1 rfl 5 5 tyX0 (by decide) rfl inn_X4_receive_0 tyX0_ok nmX0 (by decide) (X.2.2.2.1 (.fieldLink RX4 50 "SilkMill$Cocoon" "potNumber" "I") (by decide +kernel)) rfl (Or.inl rfl) rfl rfl (Nat.le_of_ble_eq_true rfl) (st_5 _ _) dX4_receive_9 (fun H locs hw => ?_)
    obtain ⟨S_49, eS_49⟩ : ∃ T, T = sI S 5 q_c1 (v_45) := ⟨_, rfl⟩
    rw [← eS_49] at hw
    have hO_50 : Ok eRC S S_49 := hO.sI eS_49 (by decide +kernel) (uI_0_5 hO.1 ha_q_c1)
    have h_51 : pI S_49 5 q_c1 = v_45 := tI_sIs eS_49
    refine lv_aload_n X.1 X.2.1 dX4_receive_12 rfl (lv_at hl 1 rfl) ?_
    refine lv_iconst (v := 1) X.1 X.2.1 dX4_receive_13 (by decide) ?_
    have t_52 : At S_49 q_c1 0 := tAt_sI eS_49 ha_q_c1
    refine r_putI (v := 1) X hw t_52 rfl 3 3 tyX0 (by decide) rfl inn_X4_receive_0 tyX0_ok nmX0 (by decide) (X.2.2.2.1 (.fieldLink RX4 53 "SilkMill$Cocoon" "stand" "I") (by decide +kernel)) rfl (Or.inl rfl) rfl rfl (Nat.le_of_ble_eq_true rfl) (st_3 _ _) dX4_receive_14 (fun H locs hw => ?_)
    obtain ⟨S_53, eS_53⟩ : ∃ T, T = sI S_49 3 q_c1 (1) := ⟨_, rfl⟩
    rw [← eS_53] at hw
    have hO_54 : Ok eRC S S_53 := hO_50.sI eS_53 (by decide +kernel) (uI_0_3 hO_50.1 t_52)
    have h_55 : pI S_53 3 q_c1 = 1 := tI_sIs eS_53
    refine lv_aload_n X.1 X.2.1 dX4_receive_17 rfl (lv_at hl 0 rfl) ?_
    have t_56 : At S_49 x 4 := tAt_sI eS_49 ha_x
    have t_57 : At S_53 x 4 := tAt_sI eS_53 t_56
    have t_58 : pR S_49 400 x = some R0 := tR_sI eS_49 hr0
    have t_59 : pR S_53 400 x = some R0 := tR_sI eS_53 t_58
    refine r_getR (g := 400) X hw t_57 rfl 0 t_59 (by decide) rfl inn_X4_receive_4 (by decide) (X.2.2.2.1 (.fieldLink RX4 14 "SilkMill$Pot" "basket" "LSilkMill$Row;") (by decide +kernel)) rfl (gv_400 _ _) dX4_receive_18 ?_
    refine lv_aload_n X.1 X.2.1 dX4_receive_21 rfl (lv_at hl 1 rfl) ?_
    have t_60 : At S_49 R0 5 := tAt_sI eS_49 haR0
    have t_61 : At S_53 R0 5 := tAt_sI eS_53 t_60
    have t_62 : At S_53 q_c1 0 := tAt_sI eS_53 t_52
    have rw_63 : RowIs S_49 R0 (qb A) 600 := RowIs_sI pv_24 eS_49 (by decide) (by decide)
    have rw_64 : RowIs S_53 R0 (qb A) 600 := RowIs_sI rw_63 eS_53 (by decide) (by decide)
    refine k_v (rm := { frames := 2, cells := 0, slots := 0, locals := 96 }) (av := [.ref R0, .ref q_c1]) X hw (va_runV (As := [.ref q_c1]) (rest := []) (cfix X) (k_X5_addLast5 l G cy κ S_53 _ R0 q_c1 (qb A) 600 hO_54.1 t_61 t_62 rw_64) (cwV 1 X.2.2.2.1 gX4_receive_X5_addLast rfl rfl rfl (by decide +kernel) ⟨Nat.le_of_ble_eq_true rfl, Nat.le_of_ble_eq_true rfl⟩) (pre_V X hw _ t_61 rfl (by decide) rfl) rfl rfl hl.1 rfl (lv_room (Nat.le_of_ble_eq_true rfl)) dX4_receive_22 ⟨Nat.le_of_ble_eq_true rfl, Nat.le_of_ble_eq_true rfl⟩) 0 0 (Nat.le_of_ble_eq_true rfl) (Nat.le_of_ble_eq_true rfl) (fun S_66 H locs hp hw hfr hnw => ?_)
    obtain ⟨hk_67, hp⟩ := hp
    have hO_68 : Ok eRC S S_66 := hO_54.call hk_67 (by decide +kernel)
    obtain ⟨hx_69, hr_70⟩ := hp
    have t_71 : pI S_53 5 q_c1 = v_45 := tI_sI eS_53 rfl h_51
    have t_72 : pI S_66 5 q_c1 = v_45 := hk_67.fr.I' (by decide +kernel) t_62 t_71
    have p5_73 : pI S_66 5 q_c1 = pI S 410 x := t_72.trans ev_45.symm
    have px_74 : PotX S S_49 x R0 R1 R2 Gs := PotX_sI (PotX_rf S x R0 R1 R2 Gs) eS_49 (by decide)
    have px_75 : PotX S S_53 x R0 R1 R2 Gs := PotX_sI px_74 eS_53 (by decide)
    have ax_77 : ∀ a k, At S a k → At S_49 a k := fun a k h => tAt_sI eS_49 ((fun _ _ h => h) a k h)
    have ax_78 : ∀ a k, At S a k → At S_53 a k := fun a k h => tAt_sI eS_53 (ax_77 a k h)
    have px_76 : PotX S S_66 x R0 R1 R2 Gs := PotX_row px_75 ax_78 haR0 haR1 haR2 (Or.inl rfl) hx_69 hk_67.fr (by decide +kernel)
    have t_79 : pI S_49 410 x = v_45 := tI_sI eS_49 rfl ev_45
    have t_80 : pI S_53 410 x = v_45 := tI_sI eS_53 rfl t_79
    have t_81 : pI S_66 410 x = v_45 := hk_67.fr.I' (by decide +kernel) t_57 t_80
    have rw_82 : RowIs S_49 R1 (qe A) 12 := RowIs_sI pv_25 eS_49 (by decide) (by decide)
    have rw_83 : RowIs S_53 R1 (qe A) 12 := RowIs_sI rw_82 eS_53 (by decide) (by decide)
    have pr_85 : PotR S_49 x R0 R1 R2 Gs := PotR_sI hp_1 eS_49
    have pr_86 : PotR S_53 x R0 R1 R2 Gs := PotR_sI pr_85 eS_53
    have rw_84 : RowIs S_66 R1 (qe A) 12 := hx_69.2 _ (Ne.symm hne.1) (Ne.symm pr_86.2.2.2.2.2.1) _ _ rw_83
    have rw_87 : RowIs S_49 R2 (ql A) 600 := RowIs_sI pv_26 eS_49 (by decide) (by decide)
    have rw_88 : RowIs S_53 R2 (ql A) 600 := RowIs_sI rw_87 eS_53 (by decide) (by decide)
    have rw_89 : RowIs S_66 R2 (ql A) 600 := hx_69.2 _ (Ne.symm hne.2.1) (Ne.symm pr_86.2.2.2.2.2.2.1) _ _ rw_88
    have co_90 : CoP S_49 D (qpl A) (qsd A) := CoP_sI pv_33 eS_49 (by decide) (by decide)
    have co_91 : CoP S_53 D (qpl A) (fuI (qsd A) q_c1 1) := CoP_s3 co_90 eS_53
    have dt_93 : ∀ c, D c → At S_49 c 0 := fun c h => tAt_sI eS_49 (hp_0 c h)
    have dt_94 : ∀ c, D c → At S_53 c 0 := fun c h => tAt_sI eS_53 (dt_93 c h)
    have co_92 : CoP S_66 D (qpl A) (fuI (qsd A) q_c1 1) := CoP_fr hk_67.fr dt_94 (by decide +kernel) co_91
    have t_95 : pI S_49 405 x = (qst A) := tI_sI eS_49 rfl pv_27
    have t_96 : pI S_53 405 x = (qst A) := tI_sI eS_53 rfl t_95
    have t_97 : pI S_66 405 x = (qst A) := hk_67.fr.I' (by decide +kernel) t_57 t_96
    have t_98 : pI S_49 406 x = (qse A) := tI_sI eS_49 rfl pv_28
    have t_99 : pI S_53 406 x = (qse A) := tI_sI eS_53 rfl t_98
    have t_100 : pI S_66 406 x = (qse A) := hk_67.fr.I' (by decide +kernel) t_57 t_99
    have sg_101 : StV S_49 D Gs (qg A) := StV_sI pv_29 eS_49 (by decide)
    have sg_102 : StV S_53 D Gs (qg A) := StV_sI sg_101 eS_53 (by decide)
    have t_104 : At S_49 Gs 29 := tAt_sI eS_49 haGs
    have t_105 : At S_53 Gs 29 := tAt_sI eS_53 t_104
    have sg_103 : StV S_66 D Gs (qg A) := StV_fr hO_54.1 t_105 hk_67.fr (by decide +kernel) sg_102
    have t_106 : pI S_49 407 x = (qdr A) := tI_sI eS_49 rfl pv_30
    have t_107 : pI S_53 407 x = (qdr A) := tI_sI eS_53 rfl t_106
    have t_108 : pI S_66 407 x = (qdr A) := hk_67.fr.I' (by decide +kernel) t_57 t_107
    have t_109 : pI S_49 408 x = (qtk A) := tI_sI eS_49 rfl pv_31
    have t_110 : pI S_53 408 x = (qtk A) := tI_sI eS_53 rfl t_109
    have t_111 : pI S_66 408 x = (qtk A) := hk_67.fr.I' (by decide +kernel) t_57 t_110
    have sk_112 : SkV S_49 D Ks (qsk A) := SkV_sI hO.1 hp_4 pv_32 eS_49 (by decide)
    have t_114 : At S_49 Ks 8 := tAt_sI eS_49 hp_4
    have sk_113 : SkV S_53 D Ks (qsk A) := SkV_sI hO_50.1 t_114 sk_112 eS_53 (by decide)
    have t_116 : At S_53 Ks 8 := tAt_sI eS_53 t_114
    have sk_115 : SkV S_66 D Ks (qsk A) := SkV_fr hO_54.1 t_116 hk_67.fr (by decide +kernel) sk_113
    exact ret_v X hw hr hlocks (Nat.le_of_ble_eq_true rfl) (Nat.le_of_ble_eq_true rfl) ⟨hO_68, ⟨fun h => (by cases h), fun c h => (by cases h; exact PotV_of (rfl : recF A q_c1 = recF A q_c1) hr_70 rw_84 rw_89 t_97 t_100 sg_103 t_108 t_111 sk_115 co_92 (inD_rec pv_34 (hp_5 _ rfl))), px_76, fun q h => (by cases h; exact p5_73), fun d hd hn => (hk_67.fr.I' (g := 5) (by decide +kernel) (show At S_53 d 0 by rw [eS_53, eS_49]; exact hd) rfl).trans (by rw [eS_53, eS_49, pI_sI_ne (fun e => hn (by rw [e])), pI_sI_ne (fun e => hn (by rw [e]))])⟩⟩ dX4_receive_25
set_option maxHeartbeats 4000000 in
set_option maxRecDepth 100000 in
theorem k_X11_fill6 (l : Launch) (G : va_G) (cy : Nat → ClassId) (κ : Nat → Nat) (S : PS) (sz : Nat) (x : Nat) (a1 : Int32) (a1_z : Int) (a2 : Int32) (a2_z : Int) (a3 : Int32) (a3_z : Int) (a4 : Int32) (a4_z : Int) (D : Nat → Prop) (R0 : Nat) (R1 : Nat) (R2 : Nat) (Gs : Nat) (Ks : Nat) (A : Pt) (Ev : En) (Rl : List Ru) (hG : GX S) (ha_x : At S x 11) (hz_a1 : a1.toInt = a1_z) (hz_a2 : a2.toInt = a2_z) (hz_a3 : a3.toInt = a3_z) (hz_a4 : a4.toInt = a4_z) (hp_0 : (∀ c, D c → At S c 0)) (hp_1 : (∀ P, 0 ≤ a1_z → a1_z < (pI S 1104 x).toInt → mB S x 1103 a1_z.toNat = some P → PotA S D P R0 R1 R2 Gs Ks A Ev Rl)) (hp_2 : pR S 1107 x = some Ks) (hp_3 : (∀ l j c, InC S x l j → mB S x 1100 (60 * l + j).toNat = some c → D c)) : Ci l yX11_fill wsX11_fill ({ frames := 4, cells := 0, slots := 0, locals := 192 }) G cy κ S sz [.ref x, .int (a1), .int (a2), .int (a3), .int (a4)] (fun (r : Int32) (S9 : PS) => Ok eRC S S9 ∧ (((FilC S x a1_z a2_z a3_z a4_z ∧ (∀ P, mB S x 1103 a1_z.toNat = some P → PotV S9 D P R0 R1 R2 Gs Ks (filF A (cocL S x a2_z a3_z a4_z.toNat)) ∧ PotX S S9 P R0 R1 R2 Gs ∧ (∀ d, At S d 0 → (∀ j : Int, a3_z ≤ j → j < a3_z + a4_z → mB S x 1100 (60 * a2_z + j).toNat ≠ some d) → pI S9 5 d = pI S 5 d) ∧ ∀ j : Int, a3_z ≤ j → j < a3_z + a4_z → ∀ d, mB S x 1100 (60 * a2_z + j).toNat = some d → pI S9 5 d = pI S 410 P)) ∧ r = 1) ∨ (((PN S x → ¬ FilC S x a1_z a2_z a3_z a4_z) ∧ S9 = S) ∧ r = 0))) := by
  refine ent_m (cc := cX11_fill) (maxL := 8) (ret := (some .boolean)) (by decide) rfl (Nat.le_of_ble_eq_true rfl) ?_
  intro p e s m below meth c ls X hr hlocks hin hw hl hsz
  subst hsz
  have X : Cx p c cX11_fill 8 s [.ref x, .int (a1), .int (a2), .int (a3), .int (a4)].toArray wsX11_fill RX11 m G cy κ (AS S s.heap.size) := X
  have hl : lv_has ls 8 [(0, .ref x), (1, .int (a1)), (2, .int (a2)), (3, .int (a3)), (4, .int (a4))] := hl
  have rg_a1 : (-2147483648) ≤ a1_z ∧ a1_z ≤ 2147483647 := by rw [← hz_a1]; exact ⟨z_lo _, z_hi _⟩
  have rg_a2 : (-2147483648) ≤ a2_z ∧ a2_z ≤ 2147483647 := by rw [← hz_a2]; exact ⟨z_lo _, z_hi _⟩
  have rg_a3 : (-2147483648) ≤ a3_z ∧ a3_z ≤ 2147483647 := by rw [← hz_a3]; exact ⟨z_lo _, z_hi _⟩
  have rg_a4 : (-2147483648) ≤ a4_z ∧ a4_z ≤ 2147483647 := by rw [← hz_a4]; exact ⟨z_lo _, z_hi _⟩
  have hO : Ok eRC S S := Ok.rf hG
  generalize hQQ : MQ below _ _ _ _ _ _ = QQ
  replace hQQ := hQQ.symm
  obtain ⟨v_1, ev_1⟩ : ∃ v, pI S 1104 x = v := ⟨_, rfl⟩
  have rg_2 := gI_11_1104 hO.1 ha_x; rw [ev_1] at rg_2
  have pz_3 : (pI S 1104 x).toInt = v_1.toInt := by rw [ev_1]
  have pz_4 : (pI S 1104 x).toInt = v_1.toInt := (congrArg Int32.toInt ev_1).trans rfl
  have haKs : At S Ks 8 := by obtain ⟨c, k1, k2⟩ := gQ_11_1107 hG ha_x; have h3 := hp_2; rw [k1] at h3; cases h3; exact k2
  refine lv_aload_n X.1 X.2.1 dX11_fill_0 rfl (lv_at hl 0 rfl) ?_
  refine lv_iload_n X.1 X.2.1 dX11_fill_1 rfl (lv_at hl 1 rfl) ?_
  refine k_q (rm := { frames := 1, cells := 0, slots := 0, locals := 48 }) (av := [.ref x, .int (a1)]) X hw (va_runV (As := [.int (a1)]) (rest := []) (cfix X) (k_X11_potAt3 l G cy κ S _ x (a1) (a1_z) hO.1 ha_x hz_a1) (cwV 1 X.2.2.2.1 gX11_fill_X11_potAt rfl rfl rfl (by decide +kernel) ⟨Nat.le_of_ble_eq_true rfl, Nat.le_of_ble_eq_true rfl⟩) (pre_V X hw _ ha_x rfl (by decide) rfl) rfl rfl hl.1 rfl (lv_room (Nat.le_of_ble_eq_true rfl)) dX11_fill_2 ⟨Nat.le_of_ble_eq_true rfl, Nat.le_of_ble_eq_true rfl⟩) 0 0 (Nat.le_of_ble_eq_true rfl) (Nat.le_of_ble_eq_true rfl) (fun rr_5 S_6 H locs hp hw hfr hnw => ?_)
  obtain ⟨e2, hp⟩ := hp
  subst e2
  obtain ⟨hq_7, hnf_8⟩ := hp
  rcases rr_5 with _ | q_9
  · refine W.eq (g2 := F0 m 5 ls (.null :: [])) rfl ?_
    have nf_10 := hnf_8 rfl
    refine lv_astoreN (lv' := [(5, .null), (0, .ref x), (1, .int (a1)), (2, .int (a2)), (3, .int (a3)), (4, .int (a4))]) X.1 X.2.1 dX11_fill_5 hl (by decide) rfl (fun ls hl => ?_)
    refine lv_aloadN X.1 X.2.1 dX11_fill_7 (lv_at hl 0 rfl) ?_
    refine lv_ifnullN (tgt := 33) X.1 X.2.1 dX11_fill_9 (by decide) ?_
    refine lv_iconst (v := 0) X.1 X.2.1 dX11_fill_33 (by decide) ?_
    rw [hQQ]
    exact ret_z X hw hr hlocks (Nat.le_of_ble_eq_true rfl) (Nat.le_of_ble_eq_true rfl) (by decide) ⟨hO, Or.inr ⟨⟨fun hPN h => nf_10 hPN ⟨h.1, h.2.1⟩, rfl⟩, rfl⟩⟩ dX11_fill_34
  · refine W.eq (g2 := F0 m 5 ls (.ref q_9 :: [])) rfl ?_
    obtain ⟨ha_11, f_12, f_13, f_14⟩ := hq_7 _ rfl
    have pa_15 := hp_1 _ f_12 f_13 f_14
    obtain ⟨pa_16, pa_17, pa_18, pa_19⟩ := pa_15
    have haR0 := row_at hG ha_11 (Or.inl pa_16.1)
    have haR1 := row_at hG ha_11 (Or.inr (Or.inl pa_16.2.1))
    have haR2 := row_at hG ha_11 (Or.inr (Or.inr pa_16.2.2.1))
    refine lv_astore (lv' := [(5, .ref q_9), (0, .ref x), (1, .int (a1)), (2, .int (a2)), (3, .int (a3)), (4, .int (a4))]) X.1 X.2.1 dX11_fill_5 hl (by decide) rfl (fun ls hl => ?_)
    refine lv_aload X.1 X.2.1 dX11_fill_7 (lv_at hl 0 rfl) ?_
    refine lv_ifnull X.1 X.2.1 dX11_fill_9 ?_
    refine lv_iload X.1 X.2.1 dX11_fill_12 (lv_at hl 5 rfl) ?_
    refine lv_iconst (v := 1) X.1 X.2.1 dX11_fill_14 (by decide) ?_
    refine lv_bipush (v := 60) X.1 X.2.1 dX11_fill_15 (by decide) ?_
    refine k_i (rm := { frames := 1, cells := 0, slots := 0, locals := 48 }) (av := [.int (a4), .int 1, .int 60]) X hw (va_runS (As := [.int (a4), .int 1, .int 60]) (rest := []) (cfix X) (k_X11_isWithin l G cy κ S _ (a4) (a4_z) (1) (1) (60) (60) hO.1 hz_a4 ti_1 ti_60) (cwS 3 X.2.2.2.1 gX11_fill_X11_isWithin rfl rfl rfl (by decide +kernel) ⟨Nat.le_of_ble_eq_true rfl, Nat.le_of_ble_eq_true rfl⟩) (pre_S X hw _) rfl rfl hl.1 rfl (lv_room (Nat.le_of_ble_eq_true rfl)) dX11_fill_17 ⟨Nat.le_of_ble_eq_true rfl, Nat.le_of_ble_eq_true rfl⟩) 0 0 (Nat.le_of_ble_eq_true rfl) (Nat.le_of_ble_eq_true rfl) (fun rr_21 S_22 H locs hp hw hfr hnw => ?_)
    obtain ⟨e2, hp⟩ := hp
    subst e2
    rcases hp with ⟨f_23, er_24⟩ | ⟨f_23, er_24⟩ <;> subst er_24
    · have z_b_25 := trivial
      refine lv_if_eq (tgt := 33) X.1 X.2.1 dX11_fill_20 (by decide) (fun c_26 => absurd c_26 (by decide)) (fun c_26 => ?_)
      refine lv_iload_n X.1 X.2.1 dX11_fill_23 rfl (lv_at hl 4 rfl) ?_
      refine lv_iconst (v := 0) X.1 X.2.1 dX11_fill_24 (by decide) ?_
      refine lv_bipush (v := 59) X.1 X.2.1 dX11_fill_25 (by decide) ?_
      refine k_i (rm := { frames := 1, cells := 0, slots := 0, locals := 48 }) (av := [.int (a3), .int 0, .int 59]) X hw (va_runS (As := [.int (a3), .int 0, .int 59]) (rest := []) (cfix X) (k_X11_isWithin l G cy κ S _ (a3) (a3_z) (0) (0) (59) (59) hO.1 hz_a3 ti_0 ti_59) (cwS 3 X.2.2.2.1 gX11_fill_X11_isWithin rfl rfl rfl (by decide +kernel) ⟨Nat.le_of_ble_eq_true rfl, Nat.le_of_ble_eq_true rfl⟩) (pre_S X hw _) rfl rfl hl.1 rfl (lv_room (Nat.le_of_ble_eq_true rfl)) dX11_fill_27 ⟨Nat.le_of_ble_eq_true rfl, Nat.le_of_ble_eq_true rfl⟩) 0 0 (Nat.le_of_ble_eq_true rfl) (Nat.le_of_ble_eq_true rfl) (fun rr_27 S_28 H locs hp hw hfr hnw => ?_)
      obtain ⟨e2, hp⟩ := hp
      subst e2
      rcases hp with ⟨f_29, er_30⟩ | ⟨f_29, er_30⟩ <;> subst er_30
      · have z_b_31 := trivial
        refine lv_if_ne (tgt := 35) X.1 X.2.1 dX11_fill_30 (by decide) (fun c_32 => ?_) (fun c_32 => absurd c_32 (by decide))
        refine lv_iload_n X.1 X.2.1 dX11_fill_35 rfl (lv_at hl 4 rfl) ?_
        refine lv_istore (lv' := [(6, .int (a3)), (5, .ref q_9), (0, .ref x), (1, .int (a1)), (2, .int (a2)), (3, .int (a3)), (4, .int (a4))]) X.1 X.2.1 dX11_fill_36 hl (by decide) rfl (fun ls hl => ?_)
        have L_33 : ∀ (n : Nat) (H : Heap) (locs : List Loc) (ls : Array Slot) (i6_34 : Int32) (i6_34_z : Int), ((119 - i6_34_z).toNat = n) → (Wd G cy (AS S s.heap.size) s.heap S H locs) → (i6_34.toInt = i6_34_z) → (0 ≤ i6_34_z ∧ i6_34_z ≤ 119) → ((∀ j : Int, a3_z ≤ j → j < i6_34_z → InC S x a2_z j ∧ ∃ c, mB S x 1100 (60 * a2_z + j).toNat = some c ∧ pI S 3 c = 0)) → (a3_z ≤ i6_34_z) → (lv_has ls 8 [(6, .int (i6_34)), (5, .ref q_9), (0, .ref x), (1, .int (a1)), (2, .int (a2)), (3, .int (a3)), (4, .int (a4))]) → W p l e ({ frames := 4, cells := 0, slots := 0, locals := 192 }) s m [.ref x, .int (a1), .int (a2), .int (a3), .int (a4)].toArray below meth c H locs 0 0 QQ (F0 m 38 ls []) := by
          intro n
          induction n using Nat.strongRecOn with
          | ind n ih =>
          intro H locs ls i6_34 i6_34_z hn hw hz_i6_34 hr_i6_34 iv_35 iv_36 hl
          have rg_37 : (-2147483648) ≤ i6_34_z ∧ i6_34_z ≤ 2147483647 := by rw [← hz_i6_34]; exact ⟨z_lo _, z_hi _⟩
          refine lv_iload X.1 X.2.1 dX11_fill_38 (lv_at hl 0 rfl) ?_
          refine lv_iload_n X.1 X.2.1 dX11_fill_40 rfl (lv_at hl 5 rfl) ?_
          refine lv_iload X.1 X.2.1 dX11_fill_41 (lv_at hl 6 rfl) ?_
          refine lv_iadd X.1 X.2.1 dX11_fill_43 ?_
          refine lv_topi (fun v_38 ev_38 => ?_)
          have z_39 : v_38.toInt = a3_z + a4_z := z_add ev_38 hz_a3 hz_a4 (by omega) (by omega)
          refine lv_icmp_ge (tgt := 77) X.1 X.2.1 dX11_fill_44 (by decide) (fun c_40 => ?_) (fun c_40 => ?_)
          · have z_b_41 := trivial
            have k_42 : i6_34_z ≥ v_38.toInt := z_le rfl hz_i6_34 c_40
            refine lv_iload_n X.1 X.2.1 dX11_fill_77 rfl (lv_at hl 5 rfl) ?_
            refine lv_istore (lv' := [(6, .int (a3)), (5, .ref q_9), (0, .ref x), (1, .int (a1)), (2, .int (a2)), (3, .int (a3)), (4, .int (a4))]) X.1 X.2.1 dX11_fill_78 hl (by decide) rfl (fun ls hl => ?_)
            have L_43 : ∀ (n : Nat) (T_45 : PS) (H : Heap) (locs : List Loc) (ls : Array Slot) (i6_44 : Int32) (i6_44_z : Int), ((119 - i6_44_z).toNat = n) → (Wd G cy (AS S s.heap.size) s.heap T_45 H locs) → (i6_44.toInt = i6_44_z) → (0 ≤ i6_44_z ∧ i6_44_z ≤ 119) → (At T_45 q_9 4) → (At T_45 x 11) → (Ok eRC S T_45) → (PotV T_45 D q_9 R0 R1 R2 Gs Ks (filF A (cocL S x a2_z a3_z (i6_44_z - a3_z).toNat))) → (PotX S T_45 q_9 R0 R1 R2 Gs) → (a3_z ≤ i6_44_z ∧ i6_44_z ≤ a3_z + a4_z) → ((∀ d, At S d 0 → (∀ j : Int, a3_z ≤ j → j < i6_44_z → mB S x 1100 (60 * a2_z + j).toNat ≠ some d) → pI T_45 5 d = pI S 5 d)) → ((∀ j : Int, a3_z ≤ j → j < i6_44_z → ∀ d, mB S x 1100 (60 * a2_z + j).toNat = some d → pI T_45 5 d = pI S 410 q_9)) → (lv_has ls 8 [(6, .int (i6_44)), (5, .ref q_9), (0, .ref x), (1, .int (a1)), (2, .int (a2)), (3, .int (a3)), (4, .int (a4))]) → W p l e ({ frames := 4, cells := 0, slots := 0, locals := 192 }) s m [.ref x, .int (a1), .int (a2), .int (a3), .int (a4)].toArray below meth c H locs 0 0 QQ (F0 m 80 ls []) := by
              intro n
              induction n using Nat.strongRecOn with
              | ind n ih =>
              intro T_45 H locs ls i6_44 i6_44_z hn hw hz_i6_44 hr_i6_44 ha_q_9_L_46 ha_x_L_47 hO_T_45 iv_48 iv_49 iv_50 iv_51 iv_52 hl
              have rg_53 : (-2147483648) ≤ i6_44_z ∧ i6_44_z ≤ 2147483647 := by rw [← hz_i6_44]; exact ⟨z_lo _, z_hi _⟩
              refine lv_iload X.1 X.2.1 dX11_fill_80 (lv_at hl 0 rfl) ?_
              refine lv_iload_n X.1 X.2.1 dX11_fill_82 rfl (lv_at hl 5 rfl) ?_
              refine lv_iload X.1 X.2.1 dX11_fill_83 (lv_at hl 6 rfl) ?_
              refine lv_iadd X.1 X.2.1 dX11_fill_85 ?_
              refine lv_topi (fun v_54 ev_54 => ?_)
              have z_55 : v_54.toInt = a3_z + a4_z := z_add ev_54 hz_a3 hz_a4 (by omega) (by omega)
              refine lv_icmp_ge (tgt := 107) X.1 X.2.1 dX11_fill_86 (by decide) (fun c_56 => ?_) (fun c_56 => ?_)
              · have z_b_57 := trivial
                have k_58 : i6_44_z ≥ v_54.toInt := z_le rfl hz_i6_44 c_56
                refine lv_iconst (v := 1) X.1 X.2.1 dX11_fill_107 (by decide) ?_
                rw [hQQ]
                exact ret_z X hw hr hlocks (Nat.le_of_ble_eq_true rfl) (Nat.le_of_ble_eq_true rfl) (by decide) ⟨hO_T_45, Or.inl ⟨⟨⟨by omega, by omega, by omega, by omega, by omega, fun j h1 h2 => iv_35 j h1 (by omega)⟩, fun P hP => (by rw [f_14] at hP; cases hP; have e : (i6_44_z - a3_z).toNat = a4_z.toNat := (by omega); have h := iv_48; rw [e] at h; exact ⟨h, iv_49, fun d hd hn => iv_51 d hd (fun j h1 h2 => hn j h1 (by omega)), fun j h1 h2 => iv_52 j h1 (by omega)⟩)⟩, rfl⟩⟩ dX11_fill_108
              · have z_b_59 := trivial
                have k_60 : i6_44_z < v_54.toInt := z_nle rfl hz_i6_44 c_56
                refine lv_aload X.1 X.2.1 dX11_fill_89 (lv_at hl 1 rfl) ?_
                refine lv_aload_n X.1 X.2.1 dX11_fill_91 rfl (lv_at hl 2 rfl) ?_
                refine lv_iload_n X.1 X.2.1 dX11_fill_92 rfl (lv_at hl 4 rfl) ?_
                refine lv_iload X.1 X.2.1 dX11_fill_93 (lv_at hl 0 rfl) ?_
                refine k_q (rm := { frames := 1, cells := 0, slots := 0, locals := 48 }) (av := [.ref x, .int (a2), .int (i6_44)]) X hw (va_runV (As := [.int (a2), .int (i6_44)]) (rest := [.ref q_9]) (cfix X) (k_X11_cocoonAt3 l G cy κ T_45 _ x (a2) (a2_z) (i6_44) (i6_44_z) hO_T_45.1 ha_x_L_47 hz_a2 hz_i6_44) (cwV 2 X.2.2.2.1 gX11_fill_X11_cocoonAt rfl rfl rfl (by decide +kernel) ⟨Nat.le_of_ble_eq_true rfl, Nat.le_of_ble_eq_true rfl⟩) (pre_V X hw _ ha_x_L_47 rfl (by decide) rfl) rfl rfl hl.1 rfl (lv_room (Nat.le_of_ble_eq_true rfl)) dX11_fill_95 ⟨Nat.le_of_ble_eq_true rfl, Nat.le_of_ble_eq_true rfl⟩) 0 0 (Nat.le_of_ble_eq_true rfl) (Nat.le_of_ble_eq_true rfl) (fun rr_61 S_62 H locs hp hw hfr hnw => ?_)
                obtain ⟨e2, hp⟩ := hp
                subst e2
                obtain ⟨hq_63, hnf_64⟩ := hp
                rcases rr_61 with _ | q_65
                · refine W.eq (g2 := F0 m 98 ls (.null :: .ref q_9 :: [])) rfl ?_
                  have nf_66 := hnf_64 rfl
                  have ok_67 := iv_35 i6_44_z (by omega) (by omega)
                  have mb_68 : mB T_45 x 1100 = mB S x 1100 := mB_frc hO_T_45.fr ha_x (ex3 (gQ_11_1100 hG ha_x)) (by decide +kernel) (by decide +kernel)
                  exfalso
                  obtain ⟨o1, c, o2, o3⟩ := ok_67
                  rcases nf_66 with o4 | o4
                  · exact o4 ((InC_fr hG ha_x hO_T_45.fr (by decide +kernel)).mpr o1)
                  · rw [mb_68, o2] at o4; cases o4
                · refine W.eq (g2 := F0 m 98 ls (.ref q_65 :: .ref q_9 :: [])) rfl ?_
                  obtain ⟨ha_69, f_70, f_71⟩ := hq_63 _ rfl
                  have ok_72 := iv_35 i6_44_z (by omega) (by omega)
                  have mb_73 : mB T_45 x 1100 = mB S x 1100 := mB_frc hO_T_45.fr ha_x (ex3 (gQ_11_1100 hG ha_x)) (by decide +kernel) (by decide +kernel)
                  have mq_74 : mB S x 1100 (60 * a2_z + i6_44_z).toNat = some q_65 := by rw [← mb_73]; exact f_71
                  refine k_v (rm := { frames := 3, cells := 0, slots := 0, locals := 144 }) (av := [.ref q_9, .ref q_65]) X hw (va_runV (As := [.ref q_65]) (rest := []) (cfix X) (k_X4_receive6 l G cy κ T_45 _ q_9 (some q_65) D R0 R1 R2 Gs Ks (filF A (cocL S x a2_z a3_z (i6_44_z - a3_z).toNat)) Ev hO_T_45.1 ha_q_9_L_46 (fun q h => by cases h; exact ha_69) (fun c h => hO_T_45.fr.at (hp_0 c h)) (PotR_fr hG ha_11 hO_T_45.fr (by decide +kernel) pa_16) iv_48 (EnC_fr hO_T_45.fr hp_0 ha_11 haKs (by decide +kernel) pa_18) (hO_T_45.fr.at haKs) (fun q h => by cases h; exact hp_3 _ _ _ ok_72.1 mq_74)) (cwV 1 X.2.2.2.1 gX11_fill_X4_receive rfl rfl rfl (by decide +kernel) ⟨Nat.le_of_ble_eq_true rfl, Nat.le_of_ble_eq_true rfl⟩) (pre_V X hw _ ha_q_9_L_46 rfl (by decide) rfl) rfl rfl hl.1 rfl (lv_room (Nat.le_of_ble_eq_true rfl)) dX11_fill_98 ⟨Nat.le_of_ble_eq_true rfl, Nat.le_of_ble_eq_true rfl⟩) 0 0 (Nat.le_of_ble_eq_true rfl) (Nat.le_of_ble_eq_true rfl) (fun S_76 H locs hp hw hfr hnw => ?_)
                  obtain ⟨hk_77, hp⟩ := hp
                  have hO_78 : Ok eRC S S_76 := hO_T_45.call hk_77 (by decide +kernel)
                  obtain ⟨rc_79, rc_80, rc_81, rc_82, rc_83⟩ := hp
                  have rc_84 := rc_80 _ rfl
                  obtain ⟨x_85, ex_85⟩ : ∃ y : Int32, y = i6_44 + 1 := ⟨_, rfl⟩
                  have z_86 : x_85.toInt = i6_44_z + 1 := z_add ex_85 hz_i6_44 ti_1 (by omega) (by omega)
                  refine lv_iinc (v := x_85) (lv' := [(6, .int (x_85)), (5, .ref q_9), (0, .ref x), (1, .int (a1)), (2, .int (a2)), (3, .int (a3)), (4, .int (a4))]) X.1 X.2.1 dX11_fill_101 hl (k := 0) rfl (by rw [ex_85]; rfl) (by decide) rfl (fun ls hl => ?_)
                  refine lv_goto (tgt := 80) X.1 X.2.1 dX11_fill_104 (by decide) ?_
                  have t_87 : At S_76 q_9 4 := hk_77.fr.at ha_q_9_L_46
                  have t_88 : At S_76 x 11 := hk_77.fr.at ha_x_L_47
                  exact ih _ (by omega) _ _ _ _ (x_85) (x_85.toInt) rfl hw rfl (by omega) t_87 t_88 hO_78 (by rw [show (x_85.toInt - a3_z).toNat = (i6_44_z - a3_z).toNat + 1 by omega, cocL_s (c := q_65) (by rw [show a3_z + (((i6_44_z - a3_z).toNat : Nat) : Int) = i6_44_z by omega]; exact mq_74), filF_s]; exact rc_84) (PotX_tr iv_49 (fun a k h => hO_T_45.fr.at h) haR0 haR1 haR2 rc_81) (by omega) (fun d hd hn => (rc_83 d (hO_T_45.fr.at hd) (fun e => hn i6_44_z (by omega) (by omega) (by rw [mq_74, Option.some.inj e]))).trans (iv_51 d hd (fun j h1 h2 => hn j h1 (by omega)))) (fun j h1 h2 d hd => by by_cases e : some d = some q_65; rw [Option.some.inj e, rc_82 _ rfl]; exact hO_T_45.fr.I' (g := 410) (by decide +kernel) ha_11 rfl; rcases (show j < i6_44_z ∨ j = i6_44_z by omega) with e2 | e2; exact (rc_83 d (hO_T_45.fr.at (mB_at hG ha_x hd)) (fun z => e z.symm)).trans (iv_52 j h1 e2 d hd); exfalso; rw [e2, mq_74] at hd; exact e hd.symm) (lv_sub hl [0, 1, 2, 3, 4, 5, 6] rfl)
            exact L_43 _ _ _ _ _ (a3) (a3_z) rfl hw hz_a3 (by omega) ha_11 ha_x hO (by rw [show (a3_z - a3_z).toNat = 0 by omega]; exact pa_17) (PotX_rf S q_9 R0 R1 R2 Gs) (by omega) (fun _ _ _ => rfl) (fun j h1 h2 => absurd h2 (by omega)) (lv_sub hl [0, 1, 2, 3, 4, 5, 6] rfl)
          · have z_b_89 := trivial
            have k_90 : i6_34_z < v_38.toInt := z_nle rfl hz_i6_34 c_40
            refine lv_aload_n X.1 X.2.1 dX11_fill_47 rfl (lv_at hl 2 rfl) ?_
            refine lv_iload_n X.1 X.2.1 dX11_fill_48 rfl (lv_at hl 4 rfl) ?_
            refine lv_iload X.1 X.2.1 dX11_fill_49 (lv_at hl 0 rfl) ?_
            refine k_q (rm := { frames := 1, cells := 0, slots := 0, locals := 48 }) (av := [.ref x, .int (a2), .int (i6_34)]) X hw (va_runV (As := [.int (a2), .int (i6_34)]) (rest := []) (cfix X) (k_X11_cocoonAt3 l G cy κ S _ x (a2) (a2_z) (i6_34) (i6_34_z) hO.1 ha_x hz_a2 hz_i6_34) (cwV 2 X.2.2.2.1 gX11_fill_X11_cocoonAt rfl rfl rfl (by decide +kernel) ⟨Nat.le_of_ble_eq_true rfl, Nat.le_of_ble_eq_true rfl⟩) (pre_V X hw _ ha_x rfl (by decide) rfl) rfl rfl hl.1 rfl (lv_room (Nat.le_of_ble_eq_true rfl)) dX11_fill_51 ⟨Nat.le_of_ble_eq_true rfl, Nat.le_of_ble_eq_true rfl⟩) 0 0 (Nat.le_of_ble_eq_true rfl) (Nat.le_of_ble_eq_true rfl) (fun rr_91 S_92 H locs hp hw hfr hnw => ?_)
            obtain ⟨e2, hp⟩ := hp
            subst e2
            obtain ⟨hq_93, hnf_94⟩ := hp
            rcases rr_91 with _ | q_95
            · refine W.eq (g2 := F0 m 54 ls (.null :: [])) rfl ?_
              have nf_96 := hnf_94 rfl
              refine lv_astoreN (lv' := [(7, .null), (6, .int (i6_34)), (5, .ref q_9), (0, .ref x), (1, .int (a1)), (2, .int (a2)), (3, .int (a3)), (4, .int (a4))]) X.1 X.2.1 dX11_fill_54 hl (by decide) rfl (fun ls hl => ?_)
              refine lv_aloadN X.1 X.2.1 dX11_fill_56 (lv_at hl 0 rfl) ?_
              refine lv_ifnullN (tgt := 69) X.1 X.2.1 dX11_fill_58 (by decide) ?_
              refine lv_iconst (v := 0) X.1 X.2.1 dX11_fill_69 (by decide) ?_
              rw [hQQ]
              exact ret_z X hw hr hlocks (Nat.le_of_ble_eq_true rfl) (Nat.le_of_ble_eq_true rfl) (by decide) ⟨hO, Or.inr ⟨⟨fun _ h => (by obtain ⟨o1, c, o2, o3⟩ := h.2.2.2.2.2 i6_34_z (by omega) (by omega); rcases nf_96 with o4 | o4; exact o4 o1; rw [o2] at o4; cases o4), rfl⟩, rfl⟩⟩ dX11_fill_70
            · refine W.eq (g2 := F0 m 54 ls (.ref q_95 :: [])) rfl ?_
              obtain ⟨ha_97, f_98, f_99⟩ := hq_93 _ rfl
              refine lv_astore (lv' := [(7, .ref q_95), (6, .int (i6_34)), (5, .ref q_9), (0, .ref x), (1, .int (a1)), (2, .int (a2)), (3, .int (a3)), (4, .int (a4))]) X.1 X.2.1 dX11_fill_54 hl (by decide) rfl (fun ls hl => ?_)
              refine lv_aload X.1 X.2.1 dX11_fill_56 (lv_at hl 0 rfl) ?_
              refine lv_ifnull X.1 X.2.1 dX11_fill_58 ?_
              refine lv_aload X.1 X.2.1 dX11_fill_61 (lv_at hl 0 rfl) ?_
              obtain ⟨v_100, ev_100⟩ : ∃ v, pI S 3 q_95 = v := ⟨_, rfl⟩
              have rg_102 := And.intro (z_lo v_100) (z_hi v_100)
              have pz_103 : (pI S 3 q_95).toInt = v_100.toInt := by rw [ev_100]
              refine r_getI (g := 3) (x := v_100) X hw ha_97 rfl 3 ev_100 (by decide) rfl inn_X11_fill_0 (by decide) (X.2.2.2.1 (.fieldLink RX11 81 "SilkMill$Cocoon" "stand" "I") (by decide +kernel)) rfl (gv_3 _ _) dX11_fill_63 ?_
              refine lv_if_eq (tgt := 71) X.1 X.2.1 dX11_fill_66 (by decide) (fun c_104 => ?_) (fun c_104 => ?_)
              · have z_b_105 := trivial
                have k_106 : v_100.toInt = 0 := z_eq rfl ti_0 c_104
                obtain ⟨x_107, ex_107⟩ : ∃ y : Int32, y = i6_34 + 1 := ⟨_, rfl⟩
                have z_108 : x_107.toInt = i6_34_z + 1 := z_add ex_107 hz_i6_34 ti_1 (by omega) (by omega)
                refine lv_iinc (v := x_107) (lv' := [(6, .int (x_107)), (7, .ref q_95), (5, .ref q_9), (0, .ref x), (1, .int (a1)), (2, .int (a2)), (3, .int (a3)), (4, .int (a4))]) X.1 X.2.1 dX11_fill_71 hl (k := 1) rfl (by rw [ex_107]; rfl) (by decide) rfl (fun ls hl => ?_)
                refine lv_goto (tgt := 38) X.1 X.2.1 dX11_fill_74 (by decide) ?_
                exact ih _ (by omega) _ _ _ (x_107) (x_107.toInt) rfl hw rfl (by omega) (fun j h1 h2 => by rcases (show j < i6_34_z ∨ j = i6_34_z by omega) with e | e; exact iv_35 j h1 e; rw [e]; exact ⟨f_98, _, f_99, Int32.toInt_inj.mp (by rw [ev_100, ti_0]; omega)⟩) (by omega) (lv_sub hl [0, 2, 3, 4, 5, 6, 7] rfl)
              · have z_b_109 := trivial
                have k_110 : v_100.toInt ≠ 0 := z_ne rfl ti_0 c_104
                refine lv_iconst (v := 0) X.1 X.2.1 dX11_fill_69 (by decide) ?_
                rw [hQQ]
                exact ret_z X hw hr hlocks (Nat.le_of_ble_eq_true rfl) (Nat.le_of_ble_eq_true rfl) (by decide) ⟨hO, Or.inr ⟨⟨fun _ h => (by obtain ⟨o1, c, o2, o3⟩ := h.2.2.2.2.2 i6_34_z (by omega) (by omega); rw [f_99] at o2; cases o2; rw [ev_100] at o3; have o5 := congrArg Int32.toInt o3; rw [ti_0] at o5; omega), rfl⟩, rfl⟩⟩ dX11_fill_70
        exact L_33 _ _ _ _ (a3) (a3_z) rfl hw hz_a3 (by omega) (fun j h1 h2 => absurd h2 (by omega)) (by omega) (lv_sub hl [0, 1, 2, 3, 4, 5, 6] rfl)
      · have z_b_111 := trivial
        refine lv_if_ne (tgt := 35) X.1 X.2.1 dX11_fill_30 (by decide) (fun c_112 => absurd c_112 (by decide)) (fun c_112 => ?_)
        refine lv_iconst (v := 0) X.1 X.2.1 dX11_fill_33 (by decide) ?_
        rw [hQQ]
        exact ret_z X hw hr hlocks (Nat.le_of_ble_eq_true rfl) (Nat.le_of_ble_eq_true rfl) (by decide) ⟨hO, Or.inr ⟨⟨fun _ h => (by obtain ⟨h1, h2, h3, h4, h5, h6⟩ := h; obtain ⟨⟨i1, i2, i3, i4⟩, -⟩ := h6 a3_z (by omega) (by omega); have i5 := il60 hG ha_x a2_z.toNat; omega), rfl⟩, rfl⟩⟩ dX11_fill_34
    · have z_b_113 := trivial
      refine lv_if_eq (tgt := 33) X.1 X.2.1 dX11_fill_20 (by decide) (fun c_114 => ?_) (fun c_114 => absurd c_114 (by decide))
      refine lv_iconst (v := 0) X.1 X.2.1 dX11_fill_33 (by decide) ?_
      rw [hQQ]
      exact ret_z X hw hr hlocks (Nat.le_of_ble_eq_true rfl) (Nat.le_of_ble_eq_true rfl) (by decide) ⟨hO, Or.inr ⟨⟨fun _ h => (by obtain ⟨h1, h2, h3, h4, h5, h6⟩ := h; obtain ⟨⟨i1, i2, i3, i4⟩, -⟩ := h6 a3_z (by omega) (by omega); have i5 := il60 hG ha_x a2_z.toNat; omega), rfl⟩, rfl⟩⟩ dX11_fill_34
