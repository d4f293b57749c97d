/-! ===== the reference's tick ===== -/
theorem wse_id {A : Pt} {v : Int32} (h : qse A = v) : wse A v = A := by
  subst h
  rfl
theorem er_app {L t : List Nat} {c : Nat} : (L ++ c :: t).eraseIdx L.length = L ++ t := by
  induction L with
  | nil => rfl
  | cons a s ih =>
    show a :: (s ++ c :: t).eraseIdx s.length = a :: (s ++ t)
    rw [ih]
theorem ix_app {L t : List Nat} {c : Nat} : (L ++ c :: t)[L.length]? = some c := by
  rw [List.getElem?_append_right (Nat.le_refl _), Nat.sub_self]
  rfl
theorem fol_s {E : En} {dn : List Nat} {c : Nat} {A : Pt} : folF E (dn ++ [c]) A = endK E (folF E dn A) c := by
  rw [folF_app]
  rfl
theorem dr_end {E : En} {A B : Pt} {dn rs : List Nat} (hA : qe B = dn ++ rs) (hr : rs = []) (h12 : (qe B).length ≤ 12) : we (folF E dn (we B [])) (qe (folF E dn (we B [])) ++ rs) = endsF E (qe B).length B := by
  subst hr
  rw [List.append_nil] at hA
  rw [← hA, ends_all h12, List.append_nil]
  rfl
theorem sdV_4 {E : En} {A : Pt} {c : Nat} (h : (elen E c).toInt ≤ (qpl A c + 1).toInt) : sdV E A c = 4 := if_pos h
theorem sdV_3 {E : En} {A : Pt} {c : Nat} (h : ¬ (elen E c).toInt ≤ (qpl A c + 1).toInt) (hb : ebr E c (qpl A c)) : sdV E A c = 3 := (if_neg h).trans (if_pos hb)
theorem sdV_s {E : En} {A : Pt} {c : Nat} (h : ¬ (elen E c).toInt ≤ (qpl A c + 1).toInt) (hb : ¬ ebr E c (qpl A c)) : sdV E A c = qsd A c := (if_neg h).trans (if_neg hb)
theorem ite_s {α : Type} {p : Prop} [Decidable p] {a : α} : (if p then a else a) = a := by
  split <;> rfl
theorem capG_l {g : List Mt} {m : Mt} (h : g.length < 300) : ((capG g m).length : Int) = (g.length : Int) + 1 := capG_y h
theorem qg_end {E : En} {A : Pt} {c : Nat} : qg (endK E A c) = qg A := by
  by_cases k2 : sdV E A c = 2
  · rw [endK_2 k2]; rfl
  · by_cases k3 : sdV E A c = 3
    · rw [endK_3 k3]; rfl
    · rw [endK_n k2 k3]; rfl
theorem PotW_sI {S T : PS} {x g a : Nat} {p : Int} {v : Int32} {A : Pt} (h : PotW S x p A) (e : T = sI S g a v) (hg : 1238 ≠ g) : PotW T x p A := by
  obtain ⟨h0, h1, h2, h3, h4, h5, h6, h7, h8, h9⟩ := h
  have z : ∀ k, zA T x k = zA S x k := fun k => zA_sI e
  refine ⟨RowR_eq h0 (z _) (z _), RowR_eq h1 (z _) (z _), RowR_eq h2 (z _) (z _), by rw [z]; exact h3, by rw [z]; exact h4, by rw [z]; exact h5, by rw [z]; exact h6, by rw [z]; exact h7, ?_, PlZ_eq h9 (z _) (z _)⟩
  rw [e, pI_sI_nf hg]
  exact h8
theorem PlZ_st {S : PS} {x d : Nat} {v : Int32} {pl sd : Nat → Int32} (h : PlZ S x pl sd) (e : v = sd d) : PlZ S x pl (fuI sd d v) := fun c hc => by
  refine ⟨(h c hc).1, ?_⟩
  unfold fuI
  by_cases z : c = d
  · rw [if_pos z, e, ← z]; exact (h c hc).2
  · rw [if_neg z]; exact (h c hc).2

set_option maxHeartbeats 4000000 in
set_option maxRecDepth 100000 in
theorem k_X12_tick6 (l : Launch) (G : va_G) (cy : Nat → ClassId) (κ : Nat → Nat) (S : PS) (sz : Nat) (x : Nat) (a1 : Int32) (a1_z : Int) (A : Pt) (Ev : En) (Rl : List Ru) (hG : GX S) (ha_x : At S x 12) (hz_a1 : a1.toInt = a1_z) (hp_0 : 0 ≤ a1_z) (hp_1 : a1_z ≤ 3) (hp_2 : MI S x) (hp_3 : GR S x) (hp_4 : PotW S x a1_z A) (hp_5 : EnR S x a1_z Ev) (hp_6 : RuR S x a1_z Rl) (hp_7 : IvQ (efind Ev).toInt A) (hp_8 : 1 ≤ (efind Ev).toInt) : Ci l yX12_tick wsX12_tick ({ frames := 8, cells := 0, slots := 0, locals := 384 }) G cy κ S sz [.ref x, .int (a1)] (fun (r : Int32) (S9 : PS) => Ok MTK S S9 ∧ (((MI S9 x ∧ GR S9 x ∧ ZM S S9 x ∧ PotW S9 x a1_z (ticF Ev Rl A).1 ∧ PwX S S9 x a1_z ∧ (ticF Ev Rl A).2) ∧ r = 1) ∨ ((MI S9 x ∧ GR S9 x ∧ ZM S S9 x ∧ PotW S9 x a1_z (ticF Ev Rl A).1 ∧ PwX S S9 x a1_z ∧ ¬ (ticF Ev Rl A).2) ∧ r = 0))) := by
  refine ent_m (cc := cX12_tick) (maxL := 6) (ret := (some .boolean)) (by decide) rfl (Nat.le_of_ble_eq_true rfl) ?_
  intro p e s m below meth c ls X hr hlocks hin hw hl hsz
  subst hsz
  have X : Cx p c cX12_tick 6 s [.ref x, .int (a1)].toArray wsX12_tick RX12 m G cy κ (AS S s.heap.size) := X
  have hl : lv_has ls 6 [(0, .ref x), (1, .int (a1))] := hl
  have rg_a1 : (-2147483648) ≤ a1_z ∧ a1_z ≤ 2147483647 := by rw [← hz_a1]; exact ⟨z_lo _, z_hi _⟩
  have hO : Ok MTK S S := Ok.rf hG
  generalize hQQ : MQ below _ _ _ _ _ _ = QQ
  replace hQQ := hQQ.symm
  obtain ⟨v_1, ev_1⟩ : ∃ v, pI S 1201 x = v := ⟨_, rfl⟩
  have rg_2 := gI_12_1201 hO.1 ha_x; rw [ev_1] at rg_2
  have pz_3 : (pI S 1201 x).toInt = v_1.toInt := by rw [ev_1]
  have pz_4 : (pI S 1201 x).toInt = v_1.toInt := (congrArg Int32.toInt ev_1).trans rfl
  have hzm0 : ZM S S x := ZM_rf S x
  have hpw := hp_4
  obtain ⟨pw_5, pw_6, pw_7, pw_8, pw_9, pw_10, pw_11, pw_12, pw_13, pw_14⟩ := hpw
  obtain ⟨v_15, ev_15⟩ : ∃ v, pI S 1238 x = v := ⟨_, rfl⟩
  have rg_16 := gI_12_1238 hO.1 ha_x; rw [ev_15] at rg_16
  have pz_17 : (pI S 1238 x).toInt = v_15.toInt := by rw [ev_15]
  have pz_18 : (pI S 1238 x).toInt = v_15.toInt := (congrArg Int32.toInt ev_15).trans rfl
  refine lv_aload_n X.1 X.2.1 dX12_tick_0 rfl (lv_at hl 0 rfl) ?_
  obtain ⟨q_19, h_20, h_21, h_22⟩ := gQ_12_1217 hO.1 ha_x
  refine r_getR (g := 1217) X hw ha_x rfl 17 h_20 (by decide) rfl inn_X12_tick_12 (by decide) (X.2.2.2.1 (.fieldLink RX12 52 "SilkMillModel" "ticksEver" "[I") (by decide +kernel)) rfl (gv_1217 _ _) dX12_tick_1 ?_
  refine lv_iload_n X.1 X.2.1 dX12_tick_4 rfl (lv_at hl 1 rfl) ?_
  refine lv_dup2_11 X.1 X.2.1 dX12_tick_5 rfl rfl ?_
  refine r_iald X hw h_21 rfl (by rw [h_22]; exact z_ix hz_a1 (by omega) (by omega)) dX12_tick_6 ?_
  refine lv_topi (fun v_23 ev_23 => ?_)
  have rg_24 := And.intro (z_lo v_23) (z_hi v_23)
  have ev_23 := ev_23.symm
  have zf_25 : zA S x 1217 (a1_z).toNat = v_23.toInt := (zA_of h_20 hz_a1 (by omega) ev_23)
  have us_26 : v_23 = (qtk A) := Int32.toInt_inj.mp (rfl.trans (zf_25.symm.trans pw_12))
  refine lv_iconst (v := 1) X.1 X.2.1 dX12_tick_7 (by decide) ?_
  refine lv_iadd X.1 X.2.1 dX12_tick_8 ?_
  refine lv_topi (fun v_27 ev_27 => ?_)
  have rg_28 := And.intro (z_lo v_27) (z_hi v_27)
  refine r_iast X hw h_21 rfl (by rw [h_22]; exact z_ix hz_a1 (by omega) (by omega)) dX12_tick_9 (fun H locs hw => ?_)
  obtain ⟨S_29, eS_29⟩ : ∃ T, T = sA S q_19 (upd (pA S q_19) (Int32.toNatClampNeg (a1)) (v_27)) := ⟨_, rfl⟩
  rw [← eS_29] at hw
  have hO_30 : Ok MTK S S_29 := hO.sA eS_29 h_21 (by decide +kernel) (uA_554 hO.1 h_21)
  have h_31 : pA S_29 q_19 (Int32.toNatClampNeg (a1)) = v_27 := tA_sAs eS_29
  have t_32 : pR S_29 1217 x = some q_19 := tR_sA eS_29 h_20
  have t_34 : pR S 1217 x = some q_19 := by have h := t_32; rw [eS_29, pR_sA] at h; exact h
  have zs_33 : ∀ j, zA S_29 x 1217 j = if j = (a1_z).toNat then v_27.toInt else zA S x 1217 j := by have h := zA_sAs eS_29 t_34 rfl; rw [z_nc hz_a1 (by omega)] at h; exact h
  have t_43 : pI S_29 1201 x = v_1 := tI_sA eS_29 ev_1
  have L_35 : ∀ (T_36 : PS) (H : Heap) (locs : List Loc) (ls : Array Slot) , (Wd G cy (AS S s.heap.size) s.heap T_36 H locs) → (At T_36 x 12) → (Ok MTK S T_36) → (MIe T_36 x (-1)) → (GR T_36 x) → (ZM S T_36 x) → (PotW T_36 x a1_z (seaF Ev (wtk A (qtk A + 1)))) → (PwX S T_36 x a1_z) → (pI T_36 1201 x = v_1) → (lv_has ls 6 [(0, .ref x), (1, .int (a1))]) → W p l e ({ frames := 8, cells := 0, slots := 0, locals := 384 }) s m [.ref x, .int (a1)].toArray below meth c H locs 0 0 QQ (F0 m 87 ls []) := by
    intro T_36 H locs ls  hw ha_x_L_37 hO_T_36 mk_38 iv_39 iv_40 iv_41 iv_42 ik_44 hl
    have pz_45 : (pI T_36 1201 x).toInt = v_1.toInt := (congrArg Int32.toInt ik_44).trans rfl
    have hpw_46 := iv_41
    obtain ⟨pw_47, pw_48, pw_49, pw_50, pw_51, pw_52, pw_53, pw_54, pw_55, pw_56⟩ := hpw_46
    obtain ⟨v_57, ev_57⟩ : ∃ v, pI T_36 1238 x = v := ⟨_, rfl⟩
    have rg_58 := gI_12_1238 hO_T_36.1 ha_x_L_37; rw [ev_57] at rg_58
    have pz_59 : (pI T_36 1238 x).toInt = v_57.toInt := by rw [ev_57]
    have pz_60 : (pI T_36 1238 x).toInt = v_57.toInt := (congrArg Int32.toInt ev_57).trans rfl
    refine lv_aload_n X.1 X.2.1 dX12_tick_87 rfl (lv_at hl 0 rfl) ?_
    have L_61 : ∀ (T_62 : PS) (H : Heap) (locs : List Loc) (ls : Array Slot) , (Wd G cy (AS S s.heap.size) s.heap T_62 H locs) → (At T_62 x 12) → (Ok MTK S T_62) → (MIe T_62 x (-1)) → (GR T_62 x) → (ZM S T_62 x) → (PotW T_62 x a1_z (ticB Ev Rl A)) → (PwX S T_62 x a1_z) → (pI T_62 1201 x = v_1) → (lv_has ls 6 [(0, .ref x), (1, .int (a1))]) → W p l e ({ frames := 8, cells := 0, slots := 0, locals := 384 }) s m [.ref x, .int (a1)].toArray below meth c H locs 0 0 QQ (F0 m 137 ls []) := by
      intro T_62 H locs ls  hw ha_x_L_63 hO_T_62 mk_64 iv_65 iv_66 iv_67 iv_68 ik_69 hl
      have pz_70 : (pI T_62 1201 x).toInt = v_1.toInt := (congrArg Int32.toInt ik_69).trans rfl
      have hpw_71 := iv_67
      obtain ⟨pw_72, pw_73, pw_74, pw_75, pw_76, pw_77, pw_78, pw_79, pw_80, pw_81⟩ := hpw_71
      obtain ⟨v_82, ev_82⟩ : ∃ v, pI T_62 1238 x = v := ⟨_, rfl⟩
      have rg_83 := gI_12_1238 hO_T_62.1 ha_x_L_63; rw [ev_82] at rg_83
      have pz_84 : (pI T_62 1238 x).toInt = v_82.toInt := by rw [ev_82]
      have pz_85 : (pI T_62 1238 x).toInt = v_82.toInt := (congrArg Int32.toInt ev_82).trans rfl
      refine lv_aload_n X.1 X.2.1 dX12_tick_137 rfl (lv_at hl 0 rfl) ?_
      obtain ⟨q_86, h_87, h_88, h_89⟩ := gQ_12_1215 hO_T_62.1 ha_x_L_63
      refine r_getR (g := 1215) X hw ha_x_L_63 rfl 15 h_87 (by decide) rfl inn_X12_tick_12 (by decide) (X.2.2.2.1 (.fieldLink RX12 46 "SilkMillModel" "stop" "[I") (by decide +kernel)) rfl (gv_1215 _ _) dX12_tick_138 ?_
      refine lv_iload_n X.1 X.2.1 dX12_tick_141 rfl (lv_at hl 1 rfl) ?_
      refine r_iald X hw h_88 rfl (by rw [h_89]; exact z_ix hz_a1 (by omega) (by omega)) dX12_tick_142 ?_
      refine lv_topi (fun v_90 ev_90 => ?_)
      have rg_91 := And.intro (z_lo v_90) (z_hi v_90)
      have ev_90 := ev_90.symm
      have zf_92 : zA T_62 x 1215 (a1_z).toNat = v_90.toInt := (zA_of h_87 hz_a1 (by omega) ev_90)
      have us_93 : v_90 = (qst (ticB Ev Rl A)) := Int32.toInt_inj.mp (rfl.trans (zf_92.symm.trans pw_75))
      refine lv_if_le (tgt := 158) X.1 X.2.1 dX12_tick_143 (by decide) (fun c_94 => ?_) (fun c_94 => ?_)
      · have z_b_95 := trivial
        have k_96 : v_90.toInt ≤ 0 := z_le rfl ti_0 c_94
        refine lv_aload_n X.1 X.2.1 dX12_tick_158 rfl (lv_at hl 0 rfl) ?_
        refine lv_iload_n X.1 X.2.1 dX12_tick_159 rfl (lv_at hl 1 rfl) ?_
        refine lv_iconst (v := 1) X.1 X.2.1 dX12_tick_160 (by decide) ?_
        have ln_97 : zA T_62 x 1219 (3 * a1_z + 1).toNat = (((qe (ticB Ev Rl A))).length : Int) := pw_73.1
        refine k_i (rm := { frames := 1, cells := 0, slots := 0, locals := 48 }) (av := [.ref x, .int (a1), .int 1]) X hw (va_runV (As := [.int (a1), .int 1]) (rest := []) (cfix X) (k_X12_many2 l G cy κ T_62 _ x (a1) (a1_z) (1) (1) hO_T_62.1 ha_x_L_63 hz_a1 ti_1 (by first | assumption | omega) (by first | assumption | omega) (by first | assumption | omega) (by first | assumption | omega)) (cwV 2 X.2.2.2.1 gX12_tick_X12_many rfl rfl rfl (by decide +kernel) ⟨Nat.le_of_ble_eq_true rfl, Nat.le_of_ble_eq_true rfl⟩) (pre_V X hw _ ha_x_L_63 rfl (by decide) rfl) rfl rfl hl.1 rfl (lv_room (Nat.le_of_ble_eq_true rfl)) dX12_tick_161 ⟨Nat.le_of_ble_eq_true rfl, Nat.le_of_ble_eq_true rfl⟩) 0 0 (Nat.le_of_ble_eq_true rfl) (Nat.le_of_ble_eq_true rfl) (fun rr_98 S_99 H locs hp hw hfr hnw => ?_)
        obtain ⟨e2, hp⟩ := hp
        subst e2
        obtain ⟨f_100, f_101, f_102⟩ := hp
        refine lv_istore_n (lv' := [(2, .int (rr_98)), (0, .ref x), (1, .int (a1))]) X.1 X.2.1 dX12_tick_164 rfl hl (by decide) rfl (fun ls hl => ?_)
        refine lv_iload_n X.1 X.2.1 dX12_tick_165 rfl (lv_at hl 0 rfl) ?_
        refine lv_if_ne (tgt := 171) X.1 X.2.1 dX12_tick_166 (by decide) (fun c_103 => ?_) (fun c_103 => ?_)
        · have z_b_104 := trivial
          have k_105 : rr_98.toInt ≠ 0 := z_ne rfl ti_0 c_103
          have m4_106 := mk_64.2.2.2.1.1 a1_z.toNat (by omega); rw [show 3 * a1_z.toNat + 1 = (3 * a1_z + 1).toNat by omega] at m4_106
          have n12_107 : (qe (ticB Ev Rl A)).length ≤ 12 := by have := pw_73.1; omega
          have ne_108 : qe (ticB Ev Rl A) ≠ [] := fun z => by have e0 := congrArg List.length z; have e1 : ([] : List Nat).length = 0 := rfl; have := pw_73.1; omega
          refine lv_aload_n X.1 X.2.1 dX12_tick_171 rfl (lv_at hl 1 rfl) ?_
          refine lv_iload_n X.1 X.2.1 dX12_tick_172 rfl (lv_at hl 2 rfl) ?_
          refine k_i (rm := { frames := 1, cells := 0, slots := 0, locals := 48 }) (av := [.ref x, .int (a1)]) X hw (va_runV (As := [.int (a1)]) (rest := []) (cfix X) (k_X12_growing l G cy κ T_62 _ x (a1) (a1_z) hO_T_62.1 ha_x_L_63 hz_a1 (by first | assumption | omega) (by first | assumption | omega)) (cwV 1 X.2.2.2.1 gX12_tick_X12_growing rfl rfl rfl (by decide +kernel) ⟨Nat.le_of_ble_eq_true rfl, Nat.le_of_ble_eq_true rfl⟩) (pre_V X hw _ ha_x_L_63 rfl (by decide) rfl) rfl rfl hl.1 rfl (lv_room (Nat.le_of_ble_eq_true rfl)) dX12_tick_173 ⟨Nat.le_of_ble_eq_true rfl, Nat.le_of_ble_eq_true rfl⟩) 0 0 (Nat.le_of_ble_eq_true rfl) (Nat.le_of_ble_eq_true rfl) (fun rr_109 S_110 H locs hp hw hfr hnw => ?_)
          obtain ⟨e2, hp⟩ := hp
          subst e2
          have f_111 := hp
          refine lv_aload_n X.1 X.2.1 dX12_tick_176 rfl (lv_at hl 1 rfl) ?_
          obtain ⟨q_112, h_113, h_114, h_115⟩ := gQ_12_1237 hO_T_62.1 ha_x_L_63
          refine r_getR (g := 1237) X hw ha_x_L_63 rfl 37 h_113 (by decide) rfl inn_X12_tick_12 (by decide) (X.2.2.2.1 (.fieldLink RX12 97 "SilkMillModel" "grown" "[I") (by decide +kernel)) rfl (gv_1237 _ _) dX12_tick_177 ?_
          refine lv_iload_n X.1 X.2.1 dX12_tick_180 rfl (lv_at hl 2 rfl) ?_
          refine r_iald X hw h_114 rfl (by rw [h_115]; exact z_ix hz_a1 (by omega) (by omega)) dX12_tick_181 ?_
          refine lv_topi (fun v_116 ev_116 => ?_)
          have z_117 := gE_954 hO_T_62.1 h_114 (Int32.toNatClampNeg (a1)); rw [← ev_116] at z_117
          have ev_116 := ev_116.symm
          have zf_118 : zA T_62 x 1237 (a1_z).toNat = v_116.toInt := (zA_of h_113 hz_a1 (by omega) ev_116)
          have gl_119 := iv_65 (a1_z).toNat (by omega); rw [zf_118] at gl_119
          refine lv_iadd X.1 X.2.1 dX12_tick_182 ?_
          refine lv_topi (fun v_120 ev_120 => ?_)
          have z_121 : v_120.toInt = rr_109.toInt + v_116.toInt := z_add ev_120 rfl rfl (by omega) (by omega)
          refine lv_istore_n (lv' := [(3, .int (v_120)), (2, .int (rr_98)), (0, .ref x), (1, .int (a1))]) X.1 X.2.1 dX12_tick_183 rfl hl (by decide) rfl (fun ls hl => ?_)
          refine lv_aload_n X.1 X.2.1 dX12_tick_184 rfl (lv_at hl 2 rfl) ?_
          obtain ⟨q_122, h_123, h_124, h_125⟩ := gQ_12_1235 hO_T_62.1 ha_x_L_63
          refine r_getR (g := 1235) X hw ha_x_L_63 rfl 35 h_123 (by decide) rfl inn_X12_tick_12 (by decide) (X.2.2.2.1 (.fieldLink RX12 90 "SilkMillModel" "metreEnds" "[I") (by decide +kernel)) rfl (gv_1235 _ _) dX12_tick_185 ?_
          refine lv_iload_n X.1 X.2.1 dX12_tick_188 rfl (lv_at hl 0 rfl) ?_
          refine lv_iload_n X.1 X.2.1 dX12_tick_189 rfl (lv_at hl 1 rfl) ?_
          refine r_iast X hw h_124 rfl (by rw [h_125]; exact z_ix z_121 (by omega) (by omega)) dX12_tick_190 (fun H locs hw => ?_)
          obtain ⟨S_126, eS_126⟩ : ∃ T, T = sA T_62 q_122 (upd (pA T_62 q_122) (Int32.toNatClampNeg (v_120)) (rr_98)) := ⟨_, rfl⟩
          rw [← eS_126] at hw
          have hO_127 : Ok MTK S S_126 := hO_T_62.sA eS_126 h_124 (by decide +kernel) (uA_914 hO_T_62.1 h_124 (by omega) (by omega))
          have h_128 : pA S_126 q_122 (Int32.toNatClampNeg (v_120)) = rr_98 := tA_sAs eS_126
          refine lv_iconst (v := 0) X.1 X.2.1 dX12_tick_191 (by decide) ?_
          refine lv_istore (lv' := [(4, .int 0), (3, .int (v_120)), (2, .int (rr_98)), (0, .ref x), (1, .int (a1))]) X.1 X.2.1 dX12_tick_192 hl (by decide) rfl (fun ls hl => ?_)
          have zc_133 : zA S_126 x 1219 = zA T_62 x 1219 := zA_sAn eS_126 (ex3 (gQ_12_1219 hO_T_62.1 ha_x_L_63)) h_124 rfl
          have zc_135 : zA S_126 x 1237 = zA T_62 x 1237 := zA_sAn eS_126 (ex3 (gQ_12_1237 hO_T_62.1 ha_x_L_63)) h_124 rfl
          have t_141 : pI S_126 1201 x = v_1 := tI_sA eS_126 ik_69
          have L_129 : ∀ (n : Nat) (T_131 : PS) (H : Heap) (locs : List Loc) (ls : Array Slot) (i4_130 : Int32) (i4_130_z : Int), ((12 - i4_130_z).toNat = n) → (Wd G cy (AS S s.heap.size) s.heap T_131 H locs) → (i4_130.toInt = i4_130_z) → (0 ≤ i4_130_z ∧ i4_130_z ≤ 12) → (At T_131 x 12) → (Ok MTK S T_131) → (zA T_131 x 1219 = zA T_62 x 1219) → (zA T_131 x 1237 = zA T_62 x 1237) → (MIe T_131 x (-1)) → (ZM S T_131 x) → (PotW T_131 x a1_z (ticB Ev Rl A)) → (PwX S T_131 x a1_z) → (pI T_131 1201 x = v_1) → (lv_has ls 6 [(4, .int (i4_130)), (3, .int (v_120)), (2, .int (rr_98)), (0, .ref x), (1, .int (a1))]) → W p l e ({ frames := 8, cells := 0, slots := 0, locals := 384 }) s m [.ref x, .int (a1)].toArray below meth c H locs 0 0 QQ (F0 m 194 ls []) := by
            intro n
            induction n using Nat.strongRecOn with
            | ind n ih_L_129 =>
            intro T_131 H locs ls i4_130 i4_130_z hn hw hz_i4_130 hr_i4_130 ha_x_L_132 hO_T_131 zk_134 zk_136 mk_137 iv_138 iv_139 iv_140 ik_142 hl
            have rg_143 : (-2147483648) ≤ i4_130_z ∧ i4_130_z ≤ 2147483647 := by rw [← hz_i4_130]; exact ⟨z_lo _, z_hi _⟩
            have pz_144 : (pI T_131 1201 x).toInt = v_1.toInt := (congrArg Int32.toInt ik_142).trans rfl
            have hpw_145 := iv_139
            obtain ⟨pw_146, pw_147, pw_148, pw_149, pw_150, pw_151, pw_152, pw_153, pw_154, pw_155⟩ := hpw_145
            obtain ⟨v_156, ev_156⟩ : ∃ v, pI T_131 1238 x = v := ⟨_, rfl⟩
            have rg_157 := gI_12_1238 hO_T_131.1 ha_x_L_132; rw [ev_156] at rg_157
            have pz_158 : (pI T_131 1238 x).toInt = v_156.toInt := by rw [ev_156]
            have pz_159 : (pI T_131 1238 x).toInt = v_156.toInt := (congrArg Int32.toInt ev_156).trans rfl
            refine lv_iload X.1 X.2.1 dX12_tick_194 (lv_at hl 0 rfl) ?_
            refine lv_iload_n X.1 X.2.1 dX12_tick_196 rfl (lv_at hl 2 rfl) ?_
            refine lv_icmp_ge (tgt := 244) X.1 X.2.1 dX12_tick_197 (by decide) (fun c_160 => ?_) (fun c_160 => ?_)
            · have z_b_161 := trivial
              have k_162 : i4_130_z ≥ rr_98.toInt := z_le rfl hz_i4_130 c_160
              refine lv_aload_n X.1 X.2.1 dX12_tick_244 rfl (lv_at hl 3 rfl) ?_
              obtain ⟨q_163, h_164, h_165, h_166⟩ := gQ_12_1237 hO_T_131.1 ha_x_L_132
              refine r_getR (g := 1237) X hw ha_x_L_132 rfl 37 h_164 (by decide) rfl inn_X12_tick_12 (by decide) (X.2.2.2.1 (.fieldLink RX12 97 "SilkMillModel" "grown" "[I") (by decide +kernel)) rfl (gv_1237 _ _) dX12_tick_245 ?_
              refine lv_iload_n X.1 X.2.1 dX12_tick_248 rfl (lv_at hl 4 rfl) ?_
              refine lv_dup2_11 X.1 X.2.1 dX12_tick_249 rfl rfl ?_
              refine r_iald X hw h_165 rfl (by rw [h_166]; exact z_ix hz_a1 (by omega) (by omega)) dX12_tick_250 ?_
              refine lv_topi (fun v_167 ev_167 => ?_)
              have z_168 := gE_954 hO_T_131.1 h_165 (Int32.toNatClampNeg (a1)); rw [← ev_167] at z_168
              have ev_167 := ev_167.symm
              have zf_169 : zA T_131 x 1237 (a1_z).toNat = v_167.toInt := (zA_of h_164 hz_a1 (by omega) ev_167)
              have gl_170 := (GR_eq zk_136 iv_65) (a1_z).toNat (by omega); rw [zf_169] at gl_170
              have zf_171 : zA T_131 x 1237 (a1_z).toNat = v_167.toInt := (zA_of h_164 hz_a1 (by omega) ev_167)
              have gl_172 : v_167.toInt = ((qg (ticB Ev Rl A)).length : Int) := by rw [← pw_151, ← zf_171, show a1_z.toNat = (a1_z).toNat by omega]
              refine lv_iconst (v := 1) X.1 X.2.1 dX12_tick_251 (by decide) ?_
              refine lv_iadd X.1 X.2.1 dX12_tick_252 ?_
              refine lv_topi (fun v_173 ev_173 => ?_)
              have z_174 : v_173.toInt = v_167.toInt + 1 := z_add ev_173 rfl ti_1 (by omega) (by omega)
              refine r_iast X hw h_165 rfl (by rw [h_166]; exact z_ix hz_a1 (by omega) (by omega)) dX12_tick_253 (fun H locs hw => ?_)
              obtain ⟨S_175, eS_175⟩ : ∃ T, T = sA T_131 q_163 (upd (pA T_131 q_163) (Int32.toNatClampNeg (a1)) (v_173)) := ⟨_, rfl⟩
              rw [← eS_175] at hw
              have hO_176 : Ok MTK S S_175 := hO_T_131.sA eS_175 h_165 (by decide +kernel) (uA_954 hO_T_131.1 h_165 (by omega) (by omega))
              have h_177 : pA S_175 q_163 (Int32.toNatClampNeg (a1)) = v_173 := tA_sAs eS_175
              have t_178 : pR S_175 1237 x = some q_163 := tR_sA eS_175 h_164
              have t_180 : pR T_131 1237 x = some q_163 := by have h := t_178; rw [eS_175, pR_sA] at h; exact h
              have zs_179 : ∀ j, zA S_175 x 1237 j = if j = (a1_z).toNat then (v_167.toInt + 1) else zA T_131 x 1237 j := by have h := zA_sAs eS_175 t_180 z_174; rw [z_nc hz_a1 (by omega)] at h; exact h
              have zs_181 : ∀ j, zA S_175 x 1237 j = if j = (a1_z).toNat then (v_167.toInt + 1) else zA T_62 x 1237 j := fun j => by rw [zs_179 j, zk_136]
              have gb_182 : GR T_131 x := (GR_eq zk_136 iv_65)
              have t_184 : pR T_131 1237 x = some q_163 := by have h := t_178; rw [eS_175, pR_sA] at h; exact h
              have zs_183 : ∀ j, zA S_175 x 1237 j = if j = (a1_z).toNat then (v_167.toInt + 1) else zA T_131 x 1237 j := by have h := zA_sAs eS_175 t_184 z_174; rw [z_nc hz_a1 (by omega)] at h; exact h
              have t_186 : pR T_131 1237 x = some q_163 := by have h := t_178; rw [eS_175, pR_sA] at h; exact h
              have zs_185 : ∀ j, zA S_175 x 1237 j = if j = (a1_z).toNat then (v_167.toInt + 1) else zA T_131 x 1237 j := by have h := zA_sAs eS_175 t_186 z_174; rw [z_nc hz_a1 (by omega)] at h; exact h
              refine lv_aload_n X.1 X.2.1 dX12_tick_254 rfl (lv_at hl 3 rfl) ?_
              have t_187 : At S_175 x 12 := tAt_sA eS_175 ha_x_L_132
              obtain ⟨q_188, h_189, h_190, h_191⟩ := gQ_12_1216 hO_176.1 t_187
              refine r_getR (g := 1216) X hw t_187 rfl 16 h_189 (by decide) rfl inn_X12_tick_12 (by decide) (X.2.2.2.1 (.fieldLink RX12 49 "SilkMillModel" "drawnEver" "[I") (by decide +kernel)) rfl (gv_1216 _ _) dX12_tick_255 ?_
              refine lv_iload_n X.1 X.2.1 dX12_tick_258 rfl (lv_at hl 4 rfl) ?_
              refine lv_dup2_11 X.1 X.2.1 dX12_tick_259 rfl rfl ?_
              refine r_iald X hw h_190 rfl (by rw [h_191]; exact z_ix hz_a1 (by omega) (by omega)) dX12_tick_260 ?_
              refine lv_topi (fun v_192 ev_192 => ?_)
              have rg_193 := And.intro (z_lo v_192) (z_hi v_192)
              have ev_192 := ev_192.symm
              have zR_194 : zA S_175 x 1216 a1_z.toNat = ((qdr (ticB Ev Rl A))).toInt := (congrFun (zA_sAn eS_175 (ex3 (gQ_12_1216 hO_T_131.1 ha_x_L_132)) h_165 rfl) _).trans pw_152
              have zf_195 : zA S_175 x 1216 (a1_z).toNat = v_192.toInt := (zA_of h_189 hz_a1 (by omega) ev_192)
              have us_196 : v_192 = (qdr (ticB Ev Rl A)) := Int32.toInt_inj.mp (rfl.trans (zf_195.symm.trans zR_194))
              refine lv_iconst (v := 1) X.1 X.2.1 dX12_tick_261 (by decide) ?_
              refine lv_iadd X.1 X.2.1 dX12_tick_262 ?_
              refine lv_topi (fun v_197 ev_197 => ?_)
              have rg_198 := And.intro (z_lo v_197) (z_hi v_197)
              refine r_iast X hw h_190 rfl (by rw [h_191]; exact z_ix hz_a1 (by omega) (by omega)) dX12_tick_263 (fun H locs hw => ?_)
              obtain ⟨S_199, eS_199⟩ : ∃ T, T = sA S_175 q_188 (upd (pA S_175 q_188) (Int32.toNatClampNeg (a1)) (v_197)) := ⟨_, rfl⟩
              rw [← eS_199] at hw
              have hO_200 : Ok MTK S S_199 := hO_176.sA eS_199 h_190 (by decide +kernel) (uA_534 hO_176.1 h_190)
              have h_201 : pA S_199 q_188 (Int32.toNatClampNeg (a1)) = v_197 := tA_sAs eS_199
              have t_202 : pR S_199 1216 x = some q_188 := tR_sA eS_199 h_189
              have t_204 : pR S_175 1216 x = some q_188 := by have h := t_202; rw [eS_199, pR_sA] at h; exact h
              have zs_203 : ∀ j, zA S_199 x 1216 j = if j = (a1_z).toNat then v_197.toInt else zA S_175 x 1216 j := by have h := zA_sAs eS_199 t_204 rfl; rw [z_nc hz_a1 (by omega)] at h; exact h
              refine lv_iconst (v := 0) X.1 X.2.1 dX12_tick_264 (by decide) ?_
              refine lv_istore (lv' := [(4, .int 0), (3, .int (v_120)), (2, .int (rr_98)), (0, .ref x), (1, .int (a1))]) X.1 X.2.1 dX12_tick_265 hl (by decide) rfl (fun ls hl => ?_)
              have zc_209 : zA S_199 x 1237 = zA S_175 x 1237 := zA_sAn eS_199 (ex3 (gQ_12_1237 hO_176.1 t_187)) h_190 rfl
              have t_215 : pI S_175 1201 x = v_1 := tI_sA eS_175 ik_142
              have t_216 : pI S_199 1201 x = v_1 := tI_sA eS_199 t_215
              have L_205 : ∀ (n : Nat) (T_207 : PS) (H : Heap) (locs : List Loc) (ls : Array Slot) (i4_206 : Int32) (i4_206_z : Int), ((zA T_207 x 1219 (3 * a1_z + 1).toNat - i4_206_z).toNat = n) → (Wd G cy (AS S s.heap.size) s.heap T_207 H locs) → (i4_206.toInt = i4_206_z) → (0 ≤ i4_206_z ∧ i4_206_z ≤ 600) → (At T_207 x 12) → (Ok MTK S T_207) → (zA T_207 x 1237 = zA S_175 x 1237) → (MIe T_207 x (-1)) → (ZM S T_207 x) → (∃ dn rs, qe (ticB Ev Rl A) = dn ++ rs ∧ PotW T_207 x a1_z (we (folF Ev dn (we (wdr (wg (ticB Ev Rl A) (capG (qg (ticB Ev Rl A)) ((qe (ticB Ev Rl A)).map (fun c => (c, qpl (ticB Ev Rl A) c))))) (qdr (ticB Ev Rl A) + 1)) [])) (qe (folF Ev dn (we (wdr (wg (ticB Ev Rl A) (capG (qg (ticB Ev Rl A)) ((qe (ticB Ev Rl A)).map (fun c => (c, qpl (ticB Ev Rl A) c))))) (qdr (ticB Ev Rl A) + 1)) [])) ++ rs)) ∧ i4_206_z = ((qe (folF Ev dn (we (wdr (wg (ticB Ev Rl A) (capG (qg (ticB Ev Rl A)) ((qe (ticB Ev Rl A)).map (fun c => (c, qpl (ticB Ev Rl A) c))))) (qdr (ticB Ev Rl A) + 1)) []))).length : Int)) → (PwX S T_207 x a1_z) → (pI T_207 1201 x = v_1) → (lv_has ls 6 [(4, .int (i4_206)), (3, .int (v_120)), (2, .int (rr_98)), (0, .ref x), (1, .int (a1))]) → W p l e ({ frames := 8, cells := 0, slots := 0, locals := 384 }) s m [.ref x, .int (a1)].toArray below meth c H locs 0 0 QQ (F0 m 267 ls []) := by
                intro n
                induction n using Nat.strongRecOn with
                | ind n ih_L_205 =>
                intro T_207 H locs ls i4_206 i4_206_z hn hw hz_i4_206 hr_i4_206 ha_x_L_208 hO_T_207 zk_210 mk_211 iv_212 iv_213 iv_214 ik_217 hl
                have rg_218 : (-2147483648) ≤ i4_206_z ∧ i4_206_z ≤ 2147483647 := by rw [← hz_i4_206]; exact ⟨z_lo _, z_hi _⟩
                have pz_219 : (pI T_207 1201 x).toInt = v_1.toInt := (congrArg Int32.toInt ik_217).trans rfl
                obtain ⟨dn_220, rs_221, ed_222, hpw_223, ek_224⟩ := iv_213
                have hpw_225 := hpw_223
                obtain ⟨pw_226, pw_227, pw_228, pw_229, pw_230, pw_231, pw_232, pw_233, pw_234, pw_235⟩ := hpw_225
                obtain ⟨v_236, ev_236⟩ : ∃ v, pI T_207 1238 x = v := ⟨_, rfl⟩
                have rg_237 := gI_12_1238 hO_T_207.1 ha_x_L_208; rw [ev_236] at rg_237
                have pz_238 : (pI T_207 1238 x).toInt = v_236.toInt := by rw [ev_236]
                have pz_239 : (pI T_207 1238 x).toInt = v_236.toInt := (congrArg Int32.toInt ev_236).trans rfl
                have fw_240 : RowR T_207 x (3 * a1_z + 0).toNat (qb (folF Ev dn_220 (we (wdr (wg (ticB Ev Rl A) (capG (qg (ticB Ev Rl A)) ((qe (ticB Ev Rl A)).map (fun c => (c, qpl (ticB Ev Rl A) c))))) (qdr (ticB Ev Rl A) + 1)) []))) := pw_226
                have fw_241 : RowR T_207 x (3 * a1_z + 1).toNat (qe (folF Ev dn_220 (we (wdr (wg (ticB Ev Rl A) (capG (qg (ticB Ev Rl A)) ((qe (ticB Ev Rl A)).map (fun c => (c, qpl (ticB Ev Rl A) c))))) (qdr (ticB Ev Rl A) + 1)) [])) ++ rs_221) := pw_227
                have fw_242 : RowR T_207 x (3 * a1_z + 2).toNat (ql (folF Ev dn_220 (we (wdr (wg (ticB Ev Rl A) (capG (qg (ticB Ev Rl A)) ((qe (ticB Ev Rl A)).map (fun c => (c, qpl (ticB Ev Rl A) c))))) (qdr (ticB Ev Rl A) + 1)) []))) := pw_228
                have lq_243 : ((qe (folF Ev dn_220 (we (wdr (wg (ticB Ev Rl A) (capG (qg (ticB Ev Rl A)) ((qe (ticB Ev Rl A)).map (fun c => (c, qpl (ticB Ev Rl A) c))))) (qdr (ticB Ev Rl A) + 1)) [])) ++ rs_221).length : Int) = ((qe (folF Ev dn_220 (we (wdr (wg (ticB Ev Rl A) (capG (qg (ticB Ev Rl A)) ((qe (ticB Ev Rl A)).map (fun c => (c, qpl (ticB Ev Rl A) c))))) (qdr (ticB Ev Rl A) + 1)) []))).length : Int) + (rs_221.length : Int) := by rw [List.length_append]; rfl
                have ln_244 : zA T_207 x 1219 (3 * a1_z + 1).toNat = (((qe (folF Ev dn_220 (we (wdr (wg (ticB Ev Rl A) (capG (qg (ticB Ev Rl A)) ((qe (ticB Ev Rl A)).map (fun c => (c, qpl (ticB Ev Rl A) c))))) (qdr (ticB Ev Rl A) + 1)) [])) ++ rs_221)).length : Int) := fw_241.1
                have ln_245 : zA T_207 x 1219 (3 * a1_z + 2).toNat = (((ql (folF Ev dn_220 (we (wdr (wg (ticB Ev Rl A) (capG (qg (ticB Ev Rl A)) ((qe (ticB Ev Rl A)).map (fun c => (c, qpl (ticB Ev Rl A) c))))) (qdr (ticB Ev Rl A) + 1)) [])))).length : Int) := fw_242.1
                have fw_246 : PlZ T_207 x (qpl (folF Ev dn_220 (we (wdr (wg (ticB Ev Rl A) (capG (qg (ticB Ev Rl A)) ((qe (ticB Ev Rl A)).map (fun c => (c, qpl (ticB Ev Rl A) c))))) (qdr (ticB Ev Rl A) + 1)) []))) (qsd (folF Ev dn_220 (we (wdr (wg (ticB Ev Rl A) (capG (qg (ticB Ev Rl A)) ((qe (ticB Ev Rl A)).map (fun c => (c, qpl (ticB Ev Rl A) c))))) (qdr (ticB Ev Rl A) + 1)) []))) := pw_235
                have fw_247 : zA T_207 x 1215 a1_z.toNat = (qst (folF Ev dn_220 (we (wdr (wg (ticB Ev Rl A) (capG (qg (ticB Ev Rl A)) ((qe (ticB Ev Rl A)).map (fun c => (c, qpl (ticB Ev Rl A) c))))) (qdr (ticB Ev Rl A) + 1)) []))).toInt := pw_229
                have fw_248 : zA T_207 x 1214 a1_z.toNat = (qse (folF Ev dn_220 (we (wdr (wg (ticB Ev Rl A) (capG (qg (ticB Ev Rl A)) ((qe (ticB Ev Rl A)).map (fun c => (c, qpl (ticB Ev Rl A) c))))) (qdr (ticB Ev Rl A) + 1)) []))).toInt := pw_230
                have fw_249 : zA T_207 x 1216 a1_z.toNat = (qdr (folF Ev dn_220 (we (wdr (wg (ticB Ev Rl A) (capG (qg (ticB Ev Rl A)) ((qe (ticB Ev Rl A)).map (fun c => (c, qpl (ticB Ev Rl A) c))))) (qdr (ticB Ev Rl A) + 1)) []))).toInt := pw_232
                have fw_250 : zA T_207 x 1217 a1_z.toNat = (qtk (folF Ev dn_220 (we (wdr (wg (ticB Ev Rl A) (capG (qg (ticB Ev Rl A)) ((qe (ticB Ev Rl A)).map (fun c => (c, qpl (ticB Ev Rl A) c))))) (qdr (ticB Ev Rl A) + 1)) []))).toInt := pw_233
                have fw_251 : zA T_207 x 1237 a1_z.toNat = ((qg (folF Ev dn_220 (we (wdr (wg (ticB Ev Rl A) (capG (qg (ticB Ev Rl A)) ((qe (ticB Ev Rl A)).map (fun c => (c, qpl (ticB Ev Rl A) c))))) (qdr (ticB Ev Rl A) + 1)) []))).length : Int) := pw_231
                have kq_252 : (pI T_207 1238 x).toInt = ((qsk (folF Ev dn_220 (we (wdr (wg (ticB Ev Rl A) (capG (qg (ticB Ev Rl A)) ((qe (ticB Ev Rl A)).map (fun c => (c, qpl (ticB Ev Rl A) c))))) (qdr (ticB Ev Rl A) + 1)) []))).length : Int) := pw_234
                have en_253 : EnR T_207 x a1_z Ev := EnR_fr hG ha_x hO_T_207.fr (by decide +kernel) hp_5
                refine lv_iload X.1 X.2.1 dX12_tick_267 (lv_at hl 0 rfl) ?_
                refine lv_aload_n X.1 X.2.1 dX12_tick_269 rfl (lv_at hl 3 rfl) ?_
                refine lv_iload_n X.1 X.2.1 dX12_tick_270 rfl (lv_at hl 4 rfl) ?_
                refine lv_iconst (v := 1) X.1 X.2.1 dX12_tick_271 (by decide) ?_
                refine k_i (rm := { frames := 1, cells := 0, slots := 0, locals := 48 }) (av := [.ref x, .int (a1), .int 1]) X hw (va_runV (As := [.int (a1), .int 1]) (rest := [.int (i4_206)]) (cfix X) (k_X12_many2 l G cy κ T_207 _ x (a1) (a1_z) (1) (1) hO_T_207.1 ha_x_L_208 hz_a1 ti_1 (by first | assumption | omega) (by first | assumption | omega) (by first | assumption | omega) (by first | assumption | omega)) (cwV 2 X.2.2.2.1 gX12_tick_X12_many rfl rfl rfl (by decide +kernel) ⟨Nat.le_of_ble_eq_true rfl, Nat.le_of_ble_eq_true rfl⟩) (pre_V X hw _ ha_x_L_208 rfl (by decide) rfl) rfl rfl hl.1 rfl (lv_room (Nat.le_of_ble_eq_true rfl)) dX12_tick_272 ⟨Nat.le_of_ble_eq_true rfl, Nat.le_of_ble_eq_true rfl⟩) 0 0 (Nat.le_of_ble_eq_true rfl) (Nat.le_of_ble_eq_true rfl) (fun rr_254 S_255 H locs hp hw hfr hnw => ?_)
                obtain ⟨e2, hp⟩ := hp
                subst e2
                obtain ⟨f_256, f_257, f_258⟩ := hp
                refine lv_icmp_ge (tgt := 379) X.1 X.2.1 dX12_tick_275 (by decide) (fun c_259 => ?_) (fun c_259 => ?_)
                · have z_b_260 := trivial
                  have k_261 : i4_206_z ≥ rr_254.toInt := z_le rfl hz_i4_206 c_259
                  have rz_262 : rs_221 = [] := List.eq_nil_of_length_eq_zero (by omega)
                  have db_263 : drwB Ev (ticB Ev Rl A) = (we (folF Ev dn_220 (we (wdr (wg (ticB Ev Rl A) (capG (qg (ticB Ev Rl A)) ((qe (ticB Ev Rl A)).map (fun c => (c, qpl (ticB Ev Rl A) c))))) (qdr (ticB Ev Rl A) + 1)) [])) (qe (folF Ev dn_220 (we (wdr (wg (ticB Ev Rl A) (capG (qg (ticB Ev Rl A)) ((qe (ticB Ev Rl A)).map (fun c => (c, qpl (ticB Ev Rl A) c))))) (qdr (ticB Ev Rl A) + 1)) [])) ++ rs_221)) := (dr_end (A := A) (B := (wdr (wg (ticB Ev Rl A) (capG (qg (ticB Ev Rl A)) ((qe (ticB Ev Rl A)).map (fun c => (c, qpl (ticB Ev Rl A) c))))) (qdr (ticB Ev Rl A) + 1))) ed_222 rz_262 (show (qe (wdr (wg (ticB Ev Rl A) (capG (qg (ticB Ev Rl A)) ((qe (ticB Ev Rl A)).map (fun c => (c, qpl (ticB Ev Rl A) c))))) (qdr (ticB Ev Rl A) + 1))).length ≤ 12 from n12_107)).symm
                  have gl_264 := fw_251
                  refine lv_aload_n X.1 X.2.1 dX12_tick_379 rfl (lv_at hl 3 rfl) ?_
                  obtain ⟨q_265, h_266, h_267, h_268⟩ := gQ_12_1237 hO_T_207.1 ha_x_L_208
                  refine r_getR (g := 1237) X hw ha_x_L_208 rfl 37 h_266 (by decide) rfl inn_X12_tick_12 (by decide) (X.2.2.2.1 (.fieldLink RX12 97 "SilkMillModel" "grown" "[I") (by decide +kernel)) rfl (gv_1237 _ _) dX12_tick_380 ?_
                  refine lv_iload_n X.1 X.2.1 dX12_tick_383 rfl (lv_at hl 4 rfl) ?_
                  refine r_iald X hw h_267 rfl (by rw [h_268]; exact z_ix hz_a1 (by omega) (by omega)) dX12_tick_384 ?_
                  refine lv_topi (fun v_269 ev_269 => ?_)
                  have z_270 := gE_954 hO_T_207.1 h_267 (Int32.toNatClampNeg (a1)); rw [← ev_269] at z_270
                  have ev_269 := ev_269.symm
                  have zf_271 : zA T_207 x 1237 (a1_z).toNat = v_269.toInt := (zA_of h_266 hz_a1 (by omega) ev_269)
                  have zz_272 := congrFun zk_210 (a1_z).toNat
                  have zz_273 := zs_183 (a1_z).toNat; rw [if_pos rfl] at zz_273
                  refine lv_sipush (v := 300) X.1 X.2.1 dX12_tick_385 (by decide) ?_
                  refine lv_icmp_ne (tgt := 400) X.1 X.2.1 dX12_tick_388 (by decide) (fun c_274 => ?_) (fun c_274 => ?_)
                  · have z_b_275 := trivial
                    have k_276 : v_269.toInt ≠ 300 := z_ne rfl ti_300 c_274
                    refine lv_iconst (v := 1) X.1 X.2.1 dX12_tick_400 (by decide) ?_
                    have pz_277 : (pI T_207 1238 x).toInt = v_236.toInt := (congrArg Int32.toInt ev_236).trans rfl
                    rw [hQQ]
                    exact ret_z X hw hr hlocks (Nat.le_of_ble_eq_true rfl) (Nat.le_of_ble_eq_true rfl) (by decide) ⟨hO_T_207, Or.inl ⟨⟨mk_211, (GR_eq zk_210 (GR_set zs_183 (by omega) gb_182)), iv_212, PotW_of (show (ticF Ev Rl A).1 = (we (folF Ev dn_220 (we (wdr (wg (ticB Ev Rl A) (capG (qg (ticB Ev Rl A)) ((qe (ticB Ev Rl A)).map (fun c => (c, qpl (ticB Ev Rl A) c))))) (qdr (ticB Ev Rl A) + 1)) [])) (qe (folF Ev dn_220 (we (wdr (wg (ticB Ev Rl A) (capG (qg (ticB Ev Rl A)) ((qe (ticB Ev Rl A)).map (fun c => (c, qpl (ticB Ev Rl A) c))))) (qdr (ticB Ev Rl A) + 1)) [])) ++ rs_221)) by rw [ticF_d (show ¬ 0 < (qst (ticB Ev Rl A)).toInt by have e9 := congrArg Int32.toInt us_93; have e : (v_90 : Int32).toInt = v_90.toInt := rfl; omega) ne_108]; exact (drwF_n (by rw [db_263]; show ¬ 300 ≤ (qg (folF Ev dn_220 (we (wdr (wg (ticB Ev Rl A) (capG (qg (ticB Ev Rl A)) ((qe (ticB Ev Rl A)).map (fun c => (c, qpl (ticB Ev Rl A) c))))) (qdr (ticB Ev Rl A) + 1)) []))).length; omega)).trans db_263) fw_240 fw_241 fw_242 fw_247 fw_248 fw_251 fw_249 fw_250 (show (pI T_207 1238 x).toInt = (((qsk (folF Ev dn_220 (we (wdr (wg (ticB Ev Rl A) (capG (qg (ticB Ev Rl A)) ((qe (ticB Ev Rl A)).map (fun c => (c, qpl (ticB Ev Rl A) c))))) (qdr (ticB Ev Rl A) + 1)) [])))).length : Int) by omega) fw_246, iv_214, by rw [ticF_d (show ¬ 0 < (qst (ticB Ev Rl A)).toInt by have e9 := congrArg Int32.toInt us_93; have e : (v_90 : Int32).toInt = v_90.toInt := rfl; omega) ne_108]; exact trivial⟩, rfl⟩⟩ dX12_tick_401
                  · have z_b_278 := trivial
                    have k_279 : v_269.toInt = 300 := z_eq rfl ti_300 c_274
                    refine lv_aload_n X.1 X.2.1 dX12_tick_391 rfl (lv_at hl 3 rfl) ?_
                    refine lv_aload_n X.1 X.2.1 dX12_tick_392 rfl (lv_at hl 3 rfl) ?_
                    refine lv_iload_n X.1 X.2.1 dX12_tick_393 rfl (lv_at hl 4 rfl) ?_
                    have pz_280 : (pI T_207 1238 x).toInt = v_236.toInt := (congrArg Int32.toInt ev_236).trans rfl
                    have kk_281 : (pI T_207 1238 x).toInt = (((qsk (folF Ev dn_220 (we (wdr (wg (ticB Ev Rl A) (capG (qg (ticB Ev Rl A)) ((qe (ticB Ev Rl A)).map (fun c => (c, qpl (ticB Ev Rl A) c))))) (qdr (ticB Ev Rl A) + 1)) [])))).length : Int) := by omega
                    refine k_i (rm := { frames := 6, cells := 0, slots := 0, locals := 288 }) (av := [.ref x, .int (a1)]) X hw (va_runV (As := [.int (a1)]) (rest := [.ref x]) (cfix X) (k_X12_cuts5 l G cy κ T_207 _ x (a1) (a1_z) hO_T_207.1 ha_x_L_208 hz_a1 (by first | assumption | omega) (by first | assumption | omega) mk_211) (cwV 1 X.2.2.2.1 gX12_tick_X12_cuts rfl rfl rfl (by decide +kernel) ⟨Nat.le_of_ble_eq_true rfl, Nat.le_of_ble_eq_true rfl⟩) (pre_V X hw _ ha_x_L_208 rfl (by decide) rfl) rfl rfl hl.1 rfl (lv_room (Nat.le_of_ble_eq_true rfl)) dX12_tick_394 ⟨Nat.le_of_ble_eq_true rfl, Nat.le_of_ble_eq_true rfl⟩) 0 0 (Nat.le_of_ble_eq_true rfl) (Nat.le_of_ble_eq_true rfl) (fun rr_282 S_283 H locs hp hw hfr hnw => ?_)
                    obtain ⟨hk_284, hp⟩ := hp
                    have hO_285 : Ok MTK S S_283 := hO_T_207.call hk_284 (by decide +kernel)
                    obtain ⟨mi_286, cu_287, cc_288, cc_289, cc_290⟩ := hp
                    have rg_291 := And.intro (z_lo rr_282) (z_hi rr_282)
                    have f_293 : ∀ j, zA S_283 x 1237 j = if j = (a1_z).toNat then 0 else zA T_131 x 1237 j := fun j => by rw [cu_287 j, zk_210, zs_183 j]; split <;> rfl
                    have gr_292 : GR S_283 x := GR_set f_293 (by omega) gb_182
                    have rR_294 : RowR S_283 x (3 * a1_z + 0).toNat (qb (folF Ev dn_220 (we (wdr (wg (ticB Ev Rl A) (capG (qg (ticB Ev Rl A)) ((qe (ticB Ev Rl A)).map (fun c => (c, qpl (ticB Ev Rl A) c))))) (qdr (ticB Ev Rl A) + 1)) []))) := RowR_eq fw_240 (zA_fr hk_284.fr ha_x_L_208 (ex3 (gQ_12_1218 hO_T_207.1 ha_x_L_208)) (by decide +kernel) (by decide +kernel)) (zA_fr hk_284.fr ha_x_L_208 (ex3 (gQ_12_1219 hO_T_207.1 ha_x_L_208)) (by decide +kernel) (by decide +kernel))
                    have rR_295 : RowR S_283 x (3 * a1_z + 1).toNat (qe (folF Ev dn_220 (we (wdr (wg (ticB Ev Rl A) (capG (qg (ticB Ev Rl A)) ((qe (ticB Ev Rl A)).map (fun c => (c, qpl (ticB Ev Rl A) c))))) (qdr (ticB Ev Rl A) + 1)) [])) ++ rs_221) := RowR_eq fw_241 (zA_fr hk_284.fr ha_x_L_208 (ex3 (gQ_12_1218 hO_T_207.1 ha_x_L_208)) (by decide +kernel) (by decide +kernel)) (zA_fr hk_284.fr ha_x_L_208 (ex3 (gQ_12_1219 hO_T_207.1 ha_x_L_208)) (by decide +kernel) (by decide +kernel))
                    have rR_296 : RowR S_283 x (3 * a1_z + 2).toNat (ql (folF Ev dn_220 (we (wdr (wg (ticB Ev Rl A) (capG (qg (ticB Ev Rl A)) ((qe (ticB Ev Rl A)).map (fun c => (c, qpl (ticB Ev Rl A) c))))) (qdr (ticB Ev Rl A) + 1)) []))) := RowR_eq fw_242 (zA_fr hk_284.fr ha_x_L_208 (ex3 (gQ_12_1218 hO_T_207.1 ha_x_L_208)) (by decide +kernel) (by decide +kernel)) (zA_fr hk_284.fr ha_x_L_208 (ex3 (gQ_12_1219 hO_T_207.1 ha_x_L_208)) (by decide +kernel) (by decide +kernel))
                    have zR_297 : zA S_283 x 1215 a1_z.toNat = ((qst (folF Ev dn_220 (we (wdr (wg (ticB Ev Rl A) (capG (qg (ticB Ev Rl A)) ((qe (ticB Ev Rl A)).map (fun c => (c, qpl (ticB Ev Rl A) c))))) (qdr (ticB Ev Rl A) + 1)) [])))).toInt := (congrFun (zA_fr hk_284.fr ha_x_L_208 (ex3 (gQ_12_1215 hO_T_207.1 ha_x_L_208)) (by decide +kernel) (by decide +kernel)) _).trans fw_247
                    have zR_298 : zA S_283 x 1214 a1_z.toNat = ((qse (folF Ev dn_220 (we (wdr (wg (ticB Ev Rl A) (capG (qg (ticB Ev Rl A)) ((qe (ticB Ev Rl A)).map (fun c => (c, qpl (ticB Ev Rl A) c))))) (qdr (ticB Ev Rl A) + 1)) [])))).toInt := (congrFun (zA_fr hk_284.fr ha_x_L_208 (ex3 (gQ_12_1214 hO_T_207.1 ha_x_L_208)) (by decide +kernel) (by decide +kernel)) _).trans fw_248
                    have zR_299 : zA S_283 x 1216 a1_z.toNat = ((qdr (folF Ev dn_220 (we (wdr (wg (ticB Ev Rl A) (capG (qg (ticB Ev Rl A)) ((qe (ticB Ev Rl A)).map (fun c => (c, qpl (ticB Ev Rl A) c))))) (qdr (ticB Ev Rl A) + 1)) [])))).toInt := (congrFun (zA_fr hk_284.fr ha_x_L_208 (ex3 (gQ_12_1216 hO_T_207.1 ha_x_L_208)) (by decide +kernel) (by decide +kernel)) _).trans fw_249
                    have zR_300 : zA S_283 x 1217 a1_z.toNat = ((qtk (folF Ev dn_220 (we (wdr (wg (ticB Ev Rl A) (capG (qg (ticB Ev Rl A)) ((qe (ticB Ev Rl A)).map (fun c => (c, qpl (ticB Ev Rl A) c))))) (qdr (ticB Ev Rl A) + 1)) [])))).toInt := (congrFun (zA_fr hk_284.fr ha_x_L_208 (ex3 (gQ_12_1217 hO_T_207.1 ha_x_L_208)) (by decide +kernel) (by decide +kernel)) _).trans fw_250
                    have pz_301 : PlZ S_283 x (qpl (folF Ev dn_220 (we (wdr (wg (ticB Ev Rl A) (capG (qg (ticB Ev Rl A)) ((qe (ticB Ev Rl A)).map (fun c => (c, qpl (ticB Ev Rl A) c))))) (qdr (ticB Ev Rl A) + 1)) []))) (qsd (folF Ev dn_220 (we (wdr (wg (ticB Ev Rl A) (capG (qg (ticB Ev Rl A)) ((qe (ticB Ev Rl A)).map (fun c => (c, qpl (ticB Ev Rl A) c))))) (qdr (ticB Ev Rl A) + 1)) []))) := PlZ_eq fw_246 (zA_fr hk_284.fr ha_x_L_208 (ex3 (gQ_12_1208 hO_T_207.1 ha_x_L_208)) (by decide +kernel) (by decide +kernel)) (zA_fr hk_284.fr ha_x_L_208 (ex3 (gQ_12_1207 hO_T_207.1 ha_x_L_208)) (by decide +kernel) (by decide +kernel))
                    have pw_302 : PotW S_283 x a1_z (cutF Ev (we (folF Ev dn_220 (we (wdr (wg (ticB Ev Rl A) (capG (qg (ticB Ev Rl A)) ((qe (ticB Ev Rl A)).map (fun c => (c, qpl (ticB Ev Rl A) c))))) (qdr (ticB Ev Rl A) + 1)) [])) (qe (folF Ev dn_220 (we (wdr (wg (ticB Ev Rl A) (capG (qg (ticB Ev Rl A)) ((qe (ticB Ev Rl A)).map (fun c => (c, qpl (ticB Ev Rl A) c))))) (qdr (ticB Ev Rl A) + 1)) [])) ++ rs_221))) := (PotW_cut (A := (we (folF Ev dn_220 (we (wdr (wg (ticB Ev Rl A) (capG (qg (ticB Ev Rl A)) ((qe (ticB Ev Rl A)).map (fun c => (c, qpl (ticB Ev Rl A) c))))) (qdr (ticB Ev Rl A) + 1)) [])) (qe (folF Ev dn_220 (we (wdr (wg (ticB Ev Rl A) (capG (qg (ticB Ev Rl A)) ((qe (ticB Ev Rl A)).map (fun c => (c, qpl (ticB Ev Rl A) c))))) (qdr (ticB Ev Rl A) + 1)) [])) ++ rs_221))) fw_251 kk_281 cc_288 cc_289 cc_290 (by rw [cu_287, if_pos rfl]) rR_294 rR_295 rR_296 zR_297 zR_298 zR_299 zR_300 pz_301).1
                    have t_303 : At S_283 x 12 := hk_284.fr.at ha_x_L_208
                    refine r_putI (v := rr_282) X hw t_303 rfl 47 1247 tyX12 (by decide) rfl inn_X12_tick_12 tyX12_ok nmX12 (by decide) (X.2.2.2.1 (.fieldLink RX12 330 "SilkMillModel" "cutAtOnce" "I") (by decide +kernel)) rfl (Or.inl rfl) rfl rfl (Nat.le_of_ble_eq_true rfl) (st_1247 _ _) dX12_tick_397 (fun H locs hw => ?_)
                    obtain ⟨S_304, eS_304⟩ : ∃ T, T = sI S_283 1247 x (rr_282) := ⟨_, rfl⟩
                    rw [← eS_304] at hw
                    have hO_305 : Ok MTK S S_304 := hO_285.sI eS_304 (by decide +kernel) (uI_12_1247 hO_285.1 t_303)
                    have h_306 : pI S_304 1247 x = rr_282 := tI_sIs eS_304
                    refine lv_iconst (v := 1) X.1 X.2.1 dX12_tick_400 (by decide) ?_
                    have zm_307 : ZM S S_283 x := ZM_eq iv_212 (zA_fr hk_284.fr ha_x_L_208 (ex3 (gQ_12_1207 hO_T_207.1 ha_x_L_208)) (by decide +kernel) (by decide +kernel))
                    have zm_308 : ZM S S_304 x := ZM_eq zm_307 (zA_sI eS_304)
                    have mi_309 : MIe S_304 x (-1) := MIe_sI mi_286 hO_285.1 t_303 eS_304 (by decide +kernel)
                    have zc_310 : zA S_304 x 1237 = zA S_283 x 1237 := zA_sI eS_304
                    have rR_311 : RowR S_304 x (3 * a1_z + 0).toNat (qb (folF Ev dn_220 (we (wdr (wg (ticB Ev Rl A) (capG (qg (ticB Ev Rl A)) ((qe (ticB Ev Rl A)).map (fun c => (c, qpl (ticB Ev Rl A) c))))) (qdr (ticB Ev Rl A) + 1)) []))) := RowR_eq rR_294 (zA_sI eS_304) (zA_sI eS_304)
                    have rR_312 : RowR S_304 x (3 * a1_z + 1).toNat (qe (folF Ev dn_220 (we (wdr (wg (ticB Ev Rl A) (capG (qg (ticB Ev Rl A)) ((qe (ticB Ev Rl A)).map (fun c => (c, qpl (ticB Ev Rl A) c))))) (qdr (ticB Ev Rl A) + 1)) [])) ++ rs_221) := RowR_eq rR_295 (zA_sI eS_304) (zA_sI eS_304)
                    have rR_313 : RowR S_304 x (3 * a1_z + 2).toNat (ql (folF Ev dn_220 (we (wdr (wg (ticB Ev Rl A) (capG (qg (ticB Ev Rl A)) ((qe (ticB Ev Rl A)).map (fun c => (c, qpl (ticB Ev Rl A) c))))) (qdr (ticB Ev Rl A) + 1)) []))) := RowR_eq rR_296 (zA_sI eS_304) (zA_sI eS_304)
                    have zR_314 : zA S_304 x 1215 a1_z.toNat = ((qst (folF Ev dn_220 (we (wdr (wg (ticB Ev Rl A) (capG (qg (ticB Ev Rl A)) ((qe (ticB Ev Rl A)).map (fun c => (c, qpl (ticB Ev Rl A) c))))) (qdr (ticB Ev Rl A) + 1)) [])))).toInt := (congrFun (zA_sI eS_304) _).trans zR_297
                    have zR_315 : zA S_304 x 1214 a1_z.toNat = ((qse (folF Ev dn_220 (we (wdr (wg (ticB Ev Rl A) (capG (qg (ticB Ev Rl A)) ((qe (ticB Ev Rl A)).map (fun c => (c, qpl (ticB Ev Rl A) c))))) (qdr (ticB Ev Rl A) + 1)) [])))).toInt := (congrFun (zA_sI eS_304) _).trans zR_298
                    have zR_316 : zA S_304 x 1216 a1_z.toNat = ((qdr (folF Ev dn_220 (we (wdr (wg (ticB Ev Rl A) (capG (qg (ticB Ev Rl A)) ((qe (ticB Ev Rl A)).map (fun c => (c, qpl (ticB Ev Rl A) c))))) (qdr (ticB Ev Rl A) + 1)) [])))).toInt := (congrFun (zA_sI eS_304) _).trans zR_299
                    have zR_317 : zA S_304 x 1217 a1_z.toNat = ((qtk (folF Ev dn_220 (we (wdr (wg (ticB Ev Rl A) (capG (qg (ticB Ev Rl A)) ((qe (ticB Ev Rl A)).map (fun c => (c, qpl (ticB Ev Rl A) c))))) (qdr (ticB Ev Rl A) + 1)) [])))).toInt := (congrFun (zA_sI eS_304) _).trans zR_300
                    have pz_318 : PlZ S_304 x (qpl (folF Ev dn_220 (we (wdr (wg (ticB Ev Rl A) (capG (qg (ticB Ev Rl A)) ((qe (ticB Ev Rl A)).map (fun c => (c, qpl (ticB Ev Rl A) c))))) (qdr (ticB Ev Rl A) + 1)) []))) (qsd (folF Ev dn_220 (we (wdr (wg (ticB Ev Rl A) (capG (qg (ticB Ev Rl A)) ((qe (ticB Ev Rl A)).map (fun c => (c, qpl (ticB Ev Rl A) c))))) (qdr (ticB Ev Rl A) + 1)) []))) := PlZ_eq pz_301 (zA_sI eS_304) (zA_sI eS_304)
                    have px_319 : PwX S S_283 x a1_z := PwX_z iv_214 (zA_fr hk_284.fr ha_x_L_208 (ex3 (gQ_12_1218 hO_T_207.1 ha_x_L_208)) (by decide +kernel) (by decide +kernel)) (zA_fr hk_284.fr ha_x_L_208 (ex3 (gQ_12_1219 hO_T_207.1 ha_x_L_208)) (by decide +kernel) (by decide +kernel)) cu_287 (by omega) (pw4 (fun _ => zA_fr hk_284.fr ha_x_L_208 (ex3 (gQ_12_1214 hO_T_207.1 ha_x_L_208)) (by decide +kernel) (by decide +kernel)) (fun _ => zA_fr hk_284.fr ha_x_L_208 (ex3 (gQ_12_1215 hO_T_207.1 ha_x_L_208)) (by decide +kernel) (by decide +kernel)) (fun _ => zA_fr hk_284.fr ha_x_L_208 (ex3 (gQ_12_1216 hO_T_207.1 ha_x_L_208)) (by decide +kernel) (by decide +kernel)) (fun _ => zA_fr hk_284.fr ha_x_L_208 (ex3 (gQ_12_1217 hO_T_207.1 ha_x_L_208)) (by decide +kernel) (by decide +kernel)) (fun h => absurd rfl h))
                    have px_320 : PwX S S_304 x a1_z := PwX_to px_319 (zA_sI eS_304) (zA_sI eS_304) (pw5 (zA_sI eS_304) (zA_sI eS_304) (zA_sI eS_304) (zA_sI eS_304) (zA_sI eS_304))
                    rw [hQQ]
                    exact ret_z X hw hr hlocks (Nat.le_of_ble_eq_true rfl) (Nat.le_of_ble_eq_true rfl) (by decide) ⟨hO_305, Or.inl ⟨⟨mi_309, (GR_eq zc_310 gr_292), zm_308, (by rw [show (ticF Ev Rl A).1 = cutF Ev (we (folF Ev dn_220 (we (wdr (wg (ticB Ev Rl A) (capG (qg (ticB Ev Rl A)) ((qe (ticB Ev Rl A)).map (fun c => (c, qpl (ticB Ev Rl A) c))))) (qdr (ticB Ev Rl A) + 1)) [])) (qe (folF Ev dn_220 (we (wdr (wg (ticB Ev Rl A) (capG (qg (ticB Ev Rl A)) ((qe (ticB Ev Rl A)).map (fun c => (c, qpl (ticB Ev Rl A) c))))) (qdr (ticB Ev Rl A) + 1)) [])) ++ rs_221)) by rw [ticF_d (show ¬ 0 < (qst (ticB Ev Rl A)).toInt by have e9 := congrArg Int32.toInt us_93; have e : (v_90 : Int32).toInt = v_90.toInt := rfl; omega) ne_108]; exact (drwF_c (by rw [db_263]; show 300 ≤ (qg (folF Ev dn_220 (we (wdr (wg (ticB Ev Rl A) (capG (qg (ticB Ev Rl A)) ((qe (ticB Ev Rl A)).map (fun c => (c, qpl (ticB Ev Rl A) c))))) (qdr (ticB Ev Rl A) + 1)) []))).length; omega)).trans (by rw [db_263])]; exact PotW_sI pw_302 eS_304 (by decide)), px_320, by rw [ticF_d (show ¬ 0 < (qst (ticB Ev Rl A)).toInt by have e9 := congrArg Int32.toInt us_93; have e : (v_90 : Int32).toInt = v_90.toInt := rfl; omega) ne_108]; exact trivial⟩, rfl⟩⟩ dX12_tick_401
                · have z_b_321 := trivial
                  have k_322 : i4_206_z < rr_254.toInt := z_nle rfl hz_i4_206 c_259
                  refine lv_aload_n X.1 X.2.1 dX12_tick_278 rfl (lv_at hl 3 rfl) ?_
                  refine lv_iload_n X.1 X.2.1 dX12_tick_279 rfl (lv_at hl 4 rfl) ?_
                  refine lv_iconst (v := 1) X.1 X.2.1 dX12_tick_280 (by decide) ?_
                  refine lv_iload X.1 X.2.1 dX12_tick_281 (lv_at hl 0 rfl) ?_
                  refine k_i (rm := { frames := 1, cells := 0, slots := 0, locals := 48 }) (av := [.ref x, .int (a1), .int 1, .int (i4_206)]) X hw (va_runV (As := [.int (a1), .int 1, .int (i4_206)]) (rest := []) (cfix X) (k_X12_at2 l G cy κ T_207 _ x (a1) (a1_z) (1) (1) (i4_206) (i4_206_z) hO_T_207.1 ha_x_L_208 hz_a1 ti_1 hz_i4_206 (by first | assumption | omega) (by first | assumption | omega) (by first | assumption | omega) (by first | assumption | omega) (by first | assumption | omega) (by first | assumption | omega)) (cwV 3 X.2.2.2.1 gX12_tick_X12_at rfl rfl rfl (by decide +kernel) ⟨Nat.le_of_ble_eq_true rfl, Nat.le_of_ble_eq_true rfl⟩) (pre_V X hw _ ha_x_L_208 rfl (by decide) rfl) rfl rfl hl.1 rfl (lv_room (Nat.le_of_ble_eq_true rfl)) dX12_tick_283 ⟨Nat.le_of_ble_eq_true rfl, Nat.le_of_ble_eq_true rfl⟩) 0 0 (Nat.le_of_ble_eq_true rfl) (Nat.le_of_ble_eq_true rfl) (fun rr_323 S_324 H locs hp hw hfr hnw => ?_)
                  obtain ⟨e2, hp⟩ := hp
                  subst e2
                  obtain ⟨f_325, f_326, f_327⟩ := hp
                  refine lv_istore (lv' := [(5, .int (rr_323)), (4, .int (i4_206)), (3, .int (v_120)), (2, .int (rr_98)), (0, .ref x), (1, .int (a1))]) X.1 X.2.1 dX12_tick_286 hl (by decide) rfl (fun ls hl => ?_)
                  have m8_328 := MI_alive mk_211 (c := rr_323.toInt) (r := 3 * a1_z + 1) (k := i4_206_z) (gI_12_1201 hO_T_207.1 ha_x_L_208).2 (by omega) (by omega) (by omega) (by omega) (by omega)
                  have lg_329 := lenZ_le hO_T_207.1 ha_x_L_208 (rr_323.toInt)
                  obtain ⟨c_330, t_331, er_332⟩ : ∃ c t, rs_221 = c :: t := (match rs_221, (show 0 < rs_221.length by omega) with | [], h => absurd h (Nat.lt_irrefl _) | c :: t, _ => ⟨c, t, rfl⟩)
                  have ix_333 : (qe (folF Ev dn_220 (we (wdr (wg (ticB Ev Rl A) (capG (qg (ticB Ev Rl A)) ((qe (ticB Ev Rl A)).map (fun c => (c, qpl (ticB Ev Rl A) c))))) (qdr (ticB Ev Rl A) + 1)) [])) ++ rs_221)[(i4_206_z).toNat]? = some c_330 := by rw [er_332, show (i4_206_z).toNat = (qe (folF Ev dn_220 (we (wdr (wg (ticB Ev Rl A) (capG (qg (ticB Ev Rl A)) ((qe (ticB Ev Rl A)).map (fun c => (c, qpl (ticB Ev Rl A) c))))) (qdr (ticB Ev Rl A) + 1)) []))).length by omega]; exact ix_app
                  have h8_334 : rr_323.toInt = (c_330 : Int) := by have h := fw_241.2 _ _ ix_333; have hi : (600 * (3 * a1_z + 1) + i4_206_z).toNat = 600 * (3 * a1_z + 1).toNat + (i4_206_z).toNat := (by omega); rw [← hi] at h; omega
                  have e2_335 : (qsd (folF Ev dn_220 (we (wdr (wg (ticB Ev Rl A) (capG (qg (ticB Ev Rl A)) ((qe (ticB Ev Rl A)).map (fun c => (c, qpl (ticB Ev Rl A) c))))) (qdr (ticB Ev Rl A) + 1)) [])) c_330).toInt = 2 := by have h := MI_2 mk_211 (r := 3 * a1_z + 1) (k := i4_206_z) (by omega) (by omega) (by omega) (by omega); have h1 := (fw_246 c_330 (by omega)).2; have h3 := fw_241.2 _ _ ix_333; have hi : (600 * (3 * a1_z + 1) + i4_206_z).toNat = 600 * (3 * a1_z + 1).toNat + (i4_206_z).toNat := (by omega); rw [hi, h3, Int.toNat_natCast] at h; have h4 := h.2.2.1; omega
                  refine lv_aload_n X.1 X.2.1 dX12_tick_288 rfl (lv_at hl 4 rfl) ?_
                  obtain ⟨q_337, h_338, h_339, h_340⟩ := gQ_12_1208 hO_T_207.1 ha_x_L_208
                  refine r_getR (g := 1208) X hw ha_x_L_208 rfl 8 h_338 (by decide) rfl inn_X12_tick_12 (by decide) (X.2.2.2.1 (.fieldLink RX12 28 "SilkMillModel" "place" "[I") (by decide +kernel)) rfl (gv_1208 _ _) dX12_tick_289 ?_
                  refine lv_iload X.1 X.2.1 dX12_tick_292 (lv_at hl 0 rfl) ?_
                  refine lv_dup2_11 X.1 X.2.1 dX12_tick_294 rfl rfl ?_
                  refine r_iald X hw h_339 rfl (by rw [h_340]; exact z_ix rfl (by omega) (by omega)) dX12_tick_295 ?_
                  refine lv_topi (fun v_341 ev_341 => ?_)
                  have z_342 := gE_374 hO_T_207.1 h_339 (Int32.toNatClampNeg (rr_323)); rw [← ev_341] at z_342
                  have ev_341 := ev_341.symm
                  have zf_343 : zA T_207 x 1208 (rr_323.toInt).toNat = v_341.toInt := (zA_of h_338 rfl (by omega) ev_341)
                  rw [zf_343] at m8_328
                  have pz_344 : (pI T_207 1201 x).toInt = v_1.toInt := (congrArg Int32.toInt ik_217).trans rfl
                  have up_345 : v_341 = qpl (folF Ev dn_220 (we (wdr (wg (ticB Ev Rl A) (capG (qg (ticB Ev Rl A)) ((qe (ticB Ev Rl A)).map (fun c => (c, qpl (ticB Ev Rl A) c))))) (qdr (ticB Ev Rl A) + 1)) [])) c_330 := Int32.toInt_inj.mp (by rw [← (fw_246 c_330 (by omega)).1, show c_330 = (rr_323.toInt).toNat by omega, zf_343])
                  refine lv_iconst (v := 1) X.1 X.2.1 dX12_tick_296 (by decide) ?_
                  refine lv_iadd X.1 X.2.1 dX12_tick_297 ?_
                  refine lv_topi (fun v_346 ev_346 => ?_)
                  have z_347 : v_346.toInt = v_341.toInt + 1 := z_add ev_346 rfl ti_1 (by omega) (by omega)
                  refine r_iast X hw h_339 rfl (by rw [h_340]; exact z_ix rfl (by omega) (by omega)) dX12_tick_298 (fun H locs hw => ?_)
                  obtain ⟨S_348, eS_348⟩ : ∃ T, T = sA T_207 q_337 (upd (pA T_207 q_337) (Int32.toNatClampNeg (rr_323)) (v_346)) := ⟨_, rfl⟩
                  rw [← eS_348] at hw
                  have hO_349 : Ok MTK S S_348 := hO_T_207.sA eS_348 h_339 (by decide +kernel) (uA_374 hO_T_207.1 h_339 (by omega) (by omega))
                  have h_350 : pA S_348 q_337 (Int32.toNatClampNeg (rr_323)) = v_346 := tA_sAs eS_348
                  have t_351 : pR S_348 1208 x = some q_337 := tR_sA eS_348 h_338
                  have t_353 : pR T_207 1208 x = some q_337 := by have h := t_351; rw [eS_348, pR_sA] at h; exact h
                  have zs_352 : ∀ j, zA S_348 x 1208 j = if j = (rr_323.toInt).toNat then (v_341.toInt + 1) else zA T_207 x 1208 j := by have h := zA_sAs eS_348 t_353 z_347; rw [z_nc rfl (by omega)] at h; exact h
                  have mi_354 : MIe S_348 x rr_323.toInt := place_MI (c := rr_323.toInt) hO_T_207.1 ha_x_L_208 (show Fr [10374] T_207 S_348 by rw [eS_348]; exact Fr_sA h_339 List.mem_cons_self) mk_211 (by omega) (by omega) (by omega) (by omega) (by omega) zs_352
                  have zp_355 : zA S_348 x 1208 (rr_323.toInt).toNat = (v_341.toInt + 1) := by have h := zs_352 (rr_323.toInt).toNat; rw [if_pos rfl] at h; exact h
                  have le_356 : lenZ S_348 x = lenZ T_207 x := lenZ_fr (show Fr [10374] T_207 S_348 by rw [eS_348]; exact Fr_sA h_339 List.mem_cons_self) ha_x_L_208 (ex3 (gQ_12_1203 hO_T_207.1 ha_x_L_208)) (ex3 (gQ_12_1205 hO_T_207.1 ha_x_L_208)) (by decide +kernel) (by decide +kernel) (by decide +kernel) (by decide +kernel)
                  have lf_357 := congrFun le_356 (rr_323.toInt)
                  have zc_358 : zA S_348 x 1219 = zA T_207 x 1219 := zA_sAn eS_348 (ex3 (gQ_12_1219 hO_T_207.1 ha_x_L_208)) h_339 rfl
                  have zz_359 := congrFun zc_358 ((3 * a1_z + 1).toNat)
                  have zc_360 : zA S_348 x 1218 = zA T_207 x 1218 := zA_sAn eS_348 (ex3 (gQ_12_1218 hO_T_207.1 ha_x_L_208)) h_339 rfl
                  have zz_361 := congrFun zc_360 ((600 * (3 * a1_z + 1) + i4_206_z).toNat)
                  have t_362 : pI S_348 1201 x = v_1 := tI_sA eS_348 ik_217
                  have pz_363 : (pI S_348 1201 x).toInt = v_1.toInt := (congrArg Int32.toInt t_362).trans rfl
                  have t_365 : pR T_207 1208 x = some q_337 := by have h := t_351; rw [eS_348, pR_sA] at h; exact h
                  have zs_364 : ∀ j, zA S_348 x 1208 j = if j = (rr_323.toInt).toNat then (v_341.toInt + 1) else zA T_207 x 1208 j := by have h := zA_sAs eS_348 t_365 z_347; rw [z_nc rfl (by omega)] at h; exact h
                  have q1_366 : (qpl (folF Ev dn_220 (we (wdr (wg (ticB Ev Rl A) (capG (qg (ticB Ev Rl A)) ((qe (ticB Ev Rl A)).map (fun c => (c, qpl (ticB Ev Rl A) c))))) (qdr (ticB Ev Rl A) + 1)) [])) c_330 + 1).toInt = (v_341.toInt + 1) := (congrArg Int32.toInt (ev_346.trans (by rw [up_345]))).symm.trans z_347
                  have el_367 : (elen Ev c_330).toInt = lenZ T_207 x (c_330 : Int) := (en_253.1 c_330 (by omega)).1
                  rw [← h8_334] at el_367
                  refine lv_aload_n X.1 X.2.1 dX12_tick_299 rfl (lv_at hl 4 rfl) ?_
                  have t_368 : At S_348 x 12 := tAt_sA eS_348 ha_x_L_208
                  refine r_getR (g := 1208) X hw t_368 rfl 8 t_351 (by decide) rfl inn_X12_tick_12 (by decide) (X.2.2.2.1 (.fieldLink RX12 28 "SilkMillModel" "place" "[I") (by decide +kernel)) rfl (gv_1208 _ _) dX12_tick_300 ?_
                  refine lv_iload X.1 X.2.1 dX12_tick_303 (lv_at hl 0 rfl) ?_
                  have t_369 : At S_348 q_337 374 := tAt_sA eS_348 h_339
                  have t_370 : pN S_348 q_337 = 600 := tN_sA eS_348 h_340
                  clear h_340
                  refine r_iald X hw t_369 rfl (by rw [t_370]; exact z_ix rfl (by omega) (by omega)) dX12_tick_305 ?_
                  rw [h_350]
                  refine lv_aload_n X.1 X.2.1 dX12_tick_306 rfl (lv_at hl 4 rfl) ?_
                  refine lv_iload X.1 X.2.1 dX12_tick_307 (lv_at hl 0 rfl) ?_
                  refine k_i (rm := { frames := 2, cells := 0, slots := 0, locals := 96 }) (av := [.ref x, .int (rr_323)]) X hw (va_runV (As := [.int (rr_323)]) (rest := [.int (v_346)]) (cfix X) (k_X12_lengthOf l G cy κ S_348 _ x (rr_323) (rr_323.toInt) hO_349.1 t_368 rfl (by first | assumption | omega) (by first | assumption | omega)) (cwV 1 X.2.2.2.1 gX12_tick_X12_lengthOf rfl rfl rfl (by decide +kernel) ⟨Nat.le_of_ble_eq_true rfl, Nat.le_of_ble_eq_true rfl⟩) (pre_V X hw _ t_368 rfl (by decide) rfl) rfl rfl hl.1 rfl (lv_room (Nat.le_of_ble_eq_true rfl)) dX12_tick_309 ⟨Nat.le_of_ble_eq_true rfl, Nat.le_of_ble_eq_true rfl⟩) 0 0 (Nat.le_of_ble_eq_true rfl) (Nat.le_of_ble_eq_true rfl) (fun rr_371 S_372 H locs hp hw hfr hnw => ?_)
                  obtain ⟨e2, hp⟩ := hp
                  subst e2
                  obtain ⟨f_373, f_374, f_375⟩ := hp
                  refine lv_icmp_ne (tgt := 332) X.1 X.2.1 dX12_tick_312 (by decide) (fun c_376 => ?_) (fun c_376 => ?_)
                  · have z_b_377 := trivial
                    have k_378 : (v_341.toInt + 1) ≠ rr_371.toInt := z_ne z_347 rfl c_376
                    have mi_379 : MI S_348 x := back_MI mi_354 (by omega) (Or.inr (by omega))
                    refine lv_aload_n X.1 X.2.1 dX12_tick_332 rfl (lv_at hl 4 rfl) ?_
                    refine lv_iload X.1 X.2.1 dX12_tick_333 (lv_at hl 0 rfl) ?_
                    refine lv_aload_n X.1 X.2.1 dX12_tick_335 rfl (lv_at hl 4 rfl) ?_
                    refine r_getR (g := 1208) X hw t_368 rfl 8 t_351 (by decide) rfl inn_X12_tick_12 (by decide) (X.2.2.2.1 (.fieldLink RX12 28 "SilkMillModel" "place" "[I") (by decide +kernel)) rfl (gv_1208 _ _) dX12_tick_336 ?_
                    refine lv_iload X.1 X.2.1 dX12_tick_339 (lv_at hl 0 rfl) ?_
                    refine r_iald X hw t_369 rfl (by rw [t_370]; exact z_ix rfl (by omega) (by omega)) dX12_tick_341 ?_
                    rw [h_350]
                    refine lv_iconst (v := 1) X.1 X.2.1 dX12_tick_342 (by decide) ?_
                    refine lv_isub X.1 X.2.1 dX12_tick_343 ?_
                    refine lv_topi (fun v_380 ev_380 => ?_)
                    have z_381 : v_380.toInt = (v_341.toInt + 1) - 1 := z_sub ev_380 z_347 ti_1 (by omega) (by omega)
                    refine k_i (rm := { frames := 2, cells := 0, slots := 0, locals := 96 }) (av := [.ref x, .int (rr_323), .int (v_380)]) X hw (va_runV (As := [.int (rr_323), .int (v_380)]) (rest := []) (cfix X) (k_X12_breaks3 l G cy κ S_348 _ x (rr_323) (rr_323.toInt) (v_380) (((v_341.toInt + 1) - 1)) hO_349.1 t_368 rfl z_381 (by first | assumption | omega) (by first | assumption | omega)) (cwV 2 X.2.2.2.1 gX12_tick_X12_breaks rfl rfl rfl (by decide +kernel) ⟨Nat.le_of_ble_eq_true rfl, Nat.le_of_ble_eq_true rfl⟩) (pre_V X hw _ t_368 rfl (by decide) rfl) rfl rfl hl.1 rfl (lv_room (Nat.le_of_ble_eq_true rfl)) dX12_tick_344 ⟨Nat.le_of_ble_eq_true rfl, Nat.le_of_ble_eq_true rfl⟩) 0 0 (Nat.le_of_ble_eq_true rfl) (Nat.le_of_ble_eq_true rfl) (fun rr_382 S_383 H locs hp hw hfr hnw => ?_)
                    obtain ⟨e2, hp⟩ := hp
                    subst e2
                    rcases hp with ⟨f_384, er_385⟩ | ⟨f_384, er_385⟩ <;> subst er_385
                    · have z_b_386 := trivial
                      refine lv_if_eq (tgt := 373) X.1 X.2.1 dX12_tick_347 (by decide) (fun c_387 => absurd c_387 (by decide)) (fun c_387 => ?_)
                      have rR_388 : RowR S_348 x (3 * a1_z + 2).toNat (ql (folF Ev dn_220 (we (wdr (wg (ticB Ev Rl A) (capG (qg (ticB Ev Rl A)) ((qe (ticB Ev Rl A)).map (fun c => (c, qpl (ticB Ev Rl A) c))))) (qdr (ticB Ev Rl A) + 1)) []))) := RowR_eq fw_242 (zA_sAn eS_348 (ex3 (gQ_12_1218 hO_T_207.1 ha_x_L_208)) h_339 rfl) (zA_sAn eS_348 (ex3 (gQ_12_1219 hO_T_207.1 ha_x_L_208)) h_339 rfl)
                      have pe_391 : v_380 = qpl (folF Ev dn_220 (we (wdr (wg (ticB Ev Rl A) (capG (qg (ticB Ev Rl A)) ((qe (ticB Ev Rl A)).map (fun c => (c, qpl (ticB Ev Rl A) c))))) (qdr (ticB Ev Rl A) + 1)) [])) c_330 := Int32.toInt_inj.mp (by have h1 := congrArg Int32.toInt up_345; have h2 : (v_380).toInt = ((v_341.toInt + 1) - 1) := z_381; have h3 : (v_341).toInt = v_341.toInt := rfl; omega)
                      have bk_389 : ebr Ev c_330 (qpl (folF Ev dn_220 (we (wdr (wg (ticB Ev Rl A) (capG (qg (ticB Ev Rl A)) ((qe (ticB Ev Rl A)).map (fun c => (c, qpl (ticB Ev Rl A) c))))) (qdr (ticB Ev Rl A) + 1)) [])) c_330) := by rw [(hp_5.1 c_330 (by omega)).2.2]; have h := f_384; rw [mA_fr hO_349.fr ha_x (ex3 (gQ_12_1203 hG ha_x)) (by decide +kernel) (by decide +kernel), mA_fr hO_349.fr ha_x (ex3 (gQ_12_1206 hG ha_x)) (by decide +kernel) (by decide +kernel), h8_334, pe_391] at h; exact h
                      have bs_390 : sdV Ev (folF Ev dn_220 (we (wdr (wg (ticB Ev Rl A) (capG (qg (ticB Ev Rl A)) ((qe (ticB Ev Rl A)).map (fun c => (c, qpl (ticB Ev Rl A) c))))) (qdr (ticB Ev Rl A) + 1)) [])) c_330 = 3 := sdV_3 (by omega) bk_389
                      refine lv_aload_n X.1 X.2.1 dX12_tick_350 rfl (lv_at hl 4 rfl) ?_
                      refine lv_iload_n X.1 X.2.1 dX12_tick_351 rfl (lv_at hl 5 rfl) ?_
                      refine lv_iconst (v := 2) X.1 X.2.1 dX12_tick_352 (by decide) ?_
                      refine lv_aload_n X.1 X.2.1 dX12_tick_353 rfl (lv_at hl 4 rfl) ?_
                      refine lv_iload_n X.1 X.2.1 dX12_tick_354 rfl (lv_at hl 5 rfl) ?_
                      refine lv_iconst (v := 1) X.1 X.2.1 dX12_tick_355 (by decide) ?_
                      refine lv_iload X.1 X.2.1 dX12_tick_356 (lv_at hl 1 rfl) ?_
                      have pz_392 : (pI S_348 1201 x).toInt = v_1.toInt := (congrArg Int32.toInt t_362).trans rfl
                      have rR_393 : RowR S_348 x (3 * a1_z + 0).toNat (qb (folF Ev dn_220 (we (wdr (wg (ticB Ev Rl A) (capG (qg (ticB Ev Rl A)) ((qe (ticB Ev Rl A)).map (fun c => (c, qpl (ticB Ev Rl A) c))))) (qdr (ticB Ev Rl A) + 1)) []))) := RowR_eq fw_240 (zA_sAn eS_348 (ex3 (gQ_12_1218 hO_T_207.1 ha_x_L_208)) h_339 rfl) (zA_sAn eS_348 (ex3 (gQ_12_1219 hO_T_207.1 ha_x_L_208)) h_339 rfl)
                      have rR_394 : RowR S_348 x (3 * a1_z + 1).toNat (qe (folF Ev dn_220 (we (wdr (wg (ticB Ev Rl A) (capG (qg (ticB Ev Rl A)) ((qe (ticB Ev Rl A)).map (fun c => (c, qpl (ticB Ev Rl A) c))))) (qdr (ticB Ev Rl A) + 1)) [])) ++ rs_221) := RowR_eq fw_241 (zA_sAn eS_348 (ex3 (gQ_12_1218 hO_T_207.1 ha_x_L_208)) h_339 rfl) (zA_sAn eS_348 (ex3 (gQ_12_1219 hO_T_207.1 ha_x_L_208)) h_339 rfl)
                      refine k_i (rm := { frames := 1, cells := 0, slots := 0, locals := 48 }) (av := [.ref x, .int (a1), .int 1, .int (i4_206)]) X hw (va_runV (As := [.int (a1), .int 1, .int (i4_206)]) (rest := [.int 2, .int (a1), .ref x]) (cfix X) (k_X12_goes5 l G cy κ S_348 _ x (a1) (a1_z) (1) (1) (i4_206) (i4_206_z) (-1) hO_349.1 t_368 hz_a1 ti_1 hz_i4_206 (by first | assumption | omega) (by first | assumption | omega) (by first | assumption | omega) (by first | assumption | omega) (by first | assumption | omega) (by first | assumption | omega) mi_379) (cwV 3 X.2.2.2.1 gX12_tick_X12_goes rfl rfl rfl (by decide +kernel) ⟨Nat.le_of_ble_eq_true rfl, Nat.le_of_ble_eq_true rfl⟩) (pre_V X hw _ t_368 rfl (by decide) rfl) rfl rfl hl.1 rfl (lv_room (Nat.le_of_ble_eq_true rfl)) dX12_tick_358 ⟨Nat.le_of_ble_eq_true rfl, Nat.le_of_ble_eq_true rfl⟩) 0 0 (Nat.le_of_ble_eq_true rfl) (Nat.le_of_ble_eq_true rfl) (fun rr_395 S_396 H locs hp hw hfr hnw => ?_)
                      obtain ⟨hk_397, hp⟩ := hp
                      have hO_398 : Ok MTK S S_396 := hO_349.call hk_397 (by decide +kernel)
                      obtain ⟨g_399, g_400, g_401, g_402, g_403, g_404, g_405, g_406, g_407⟩ := hp
                      have dn_410 : rr_395.toInt = (c_330 : Int) := by have h8 := rR_394.2 _ _ ix_333; have hi : (600 * (3 * a1_z + 1) + i4_206_z).toNat = 600 * (3 * a1_z + 1).toNat + ((i4_206_z : Int)).toNat := (by omega); rw [← hi] at h8; omega
                      have t_411 : pI S_396 1201 x = v_1 := hk_397.fr.I' (by decide +kernel) t_368 t_362
                      have pz_412 : (pI S_396 1201 x).toInt = v_1.toInt := (congrArg Int32.toInt t_411).trans rfl
                      have zl_413 : zA S_396 x 1207 = zA S_348 x 1207 := zA_fr hk_397.fr t_368 (ex3 (gQ_12_1207 hO_349.1 t_368)) (by decide +kernel) (by decide +kernel)
                      have zz_414 := congrFun zl_413 (rr_395.toInt).toNat
                      have al_415 := ((MI_1 g_404 (c := rr_395.toInt) (by omega) (by omega)).2 (by omega)).2 (by omega) (by omega)
                      have gi_416 := g_406 (3 * a1_z + 1).toNat; rw [if_pos (by omega)] at gi_416
                      have m4_417 := g_404.2.2.2.1.2 (3 * a1_z + 1).toNat (by omega)
                      have gi_418 := g_406 (3 * a1_z + 2).toNat; rw [if_neg (by omega)] at gi_418
                      have m4_419 := g_404.2.2.2.1.2 (3 * a1_z + 2).toNat (by omega)
                      refine lv_aload_n X.1 X.2.1 dX12_tick_361 rfl (lv_at hl 4 rfl) ?_
                      refine lv_iload_n X.1 X.2.1 dX12_tick_362 rfl (lv_at hl 5 rfl) ?_
                      refine lv_iconst (v := 2) X.1 X.2.1 dX12_tick_363 (by decide) ?_
                      have t_420 : At S_396 x 12 := hk_397.fr.at t_368
                      refine k_i (rm := { frames := 1, cells := 0, slots := 0, locals := 48 }) (av := [.ref x, .int (a1), .int 2]) X hw (va_runV (As := [.int (a1), .int 2]) (rest := [.int (rr_395), .int 2, .int (a1), .ref x]) (cfix X) (k_X12_many2 l G cy κ S_396 _ x (a1) (a1_z) (2) (2) hO_398.1 t_420 hz_a1 ti_2 (by first | assumption | omega) (by first | assumption | omega) (by first | assumption | omega) (by first | assumption | omega)) (cwV 2 X.2.2.2.1 gX12_tick_X12_many rfl rfl rfl (by decide +kernel) ⟨Nat.le_of_ble_eq_true rfl, Nat.le_of_ble_eq_true rfl⟩) (pre_V X hw _ t_420 rfl (by decide) rfl) rfl rfl hl.1 rfl (lv_room (Nat.le_of_ble_eq_true rfl)) dX12_tick_364 ⟨Nat.le_of_ble_eq_true rfl, Nat.le_of_ble_eq_true rfl⟩) 0 0 (Nat.le_of_ble_eq_true rfl) (Nat.le_of_ble_eq_true rfl) (fun rr_421 S_422 H locs hp hw hfr hnw => ?_)
                      obtain ⟨e2, hp⟩ := hp
                      subst e2
                      obtain ⟨f_423, f_424, f_425⟩ := hp
                      refine k_v (rm := { frames := 1, cells := 0, slots := 0, locals := 48 }) (av := [.ref x, .int (a1), .int 2, .int (rr_395), .int (rr_421)]) X hw (va_runV (As := [.int (a1), .int 2, .int (rr_395), .int (rr_421)]) (rest := []) (cfix X) (k_X12_comes5 l G cy κ S_396 _ x (a1) (a1_z) (2) (2) (rr_395) (rr_395.toInt) (rr_421) (rr_421.toInt) hO_398.1 t_420 hz_a1 ti_2 rfl rfl (by first | assumption | omega) (by first | assumption | omega) (by first | assumption | omega) (by first | assumption | omega) (by first | assumption | omega) (by first | assumption | omega) (by first | assumption | omega) (by first | assumption | omega) (by first | assumption | omega) (by first | assumption | omega) g_404 (by first | assumption | omega) (by first | assumption | omega)) (cwV 4 X.2.2.2.1 gX12_tick_X12_comes rfl rfl rfl (by decide +kernel) ⟨Nat.le_of_ble_eq_true rfl, Nat.le_of_ble_eq_true rfl⟩) (pre_V X hw _ t_420 rfl (by decide) rfl) rfl rfl hl.1 rfl (lv_room (Nat.le_of_ble_eq_true rfl)) dX12_tick_367 ⟨Nat.le_of_ble_eq_true rfl, Nat.le_of_ble_eq_true rfl⟩) 0 0 (Nat.le_of_ble_eq_true rfl) (Nat.le_of_ble_eq_true rfl) (fun S_427 H locs hp hw hfr hnw => ?_)
                      obtain ⟨hk_428, hp⟩ := hp
                      have hO_429 : Ok MTK S S_427 := hO_398.call hk_428 (by decide +kernel)
                      obtain ⟨mi_430, cm_431, cs_432, cx_433⟩ := hp
                      have gi_434 := cm_431 (3 * a1_z + 1).toNat; rw [if_neg (by omega)] at gi_434
                      refine lv_goto (tgt := 376) X.1 X.2.1 dX12_tick_370 (by decide) ?_
                      refine lv_goto (tgt := 267) X.1 X.2.1 dX12_tick_376 (by decide) ?_
                      have t_435 : At S_427 x 12 := hk_428.fr.at t_420
                      have zc_436 : zA S_348 x 1237 = zA S_175 x 1237 := (zA_sAn eS_348 (ex3 (gQ_12_1237 hO_T_207.1 ha_x_L_208)) h_339 rfl).trans zk_210
                      have zc_437 : zA S_396 x 1237 = zA S_175 x 1237 := (zA_fr hk_397.fr t_368 (ex3 (gQ_12_1237 hO_349.1 t_368)) (by decide +kernel) (by decide +kernel)).trans zc_436
                      have zc_438 : zA S_427 x 1237 = zA S_175 x 1237 := (zA_fr hk_428.fr t_420 (ex3 (gQ_12_1237 hO_398.1 t_420)) (by decide +kernel) (by decide +kernel)).trans zc_437
                      have zm_439 : ZM S S_348 x := ZM_eq iv_212 (zA_sAn eS_348 (ex3 (gQ_12_1207 hO_T_207.1 ha_x_L_208)) h_339 rfl)
                      have zm_440 : ZM S S_396 x := ZM_eq zm_439 (zA_fr hk_397.fr t_368 (ex3 (gQ_12_1207 hO_349.1 t_368)) (by decide +kernel) (by decide +kernel))
                      have zm_441 : ZM S S_427 x := ZM_set zm_440 cs_432 ⟨by omega, by omega⟩ ⟨by omega, by omega⟩
                      have rR_442 : RowR S_396 x (3 * a1_z + 0).toNat (qb (folF Ev dn_220 (we (wdr (wg (ticB Ev Rl A) (capG (qg (ticB Ev Rl A)) ((qe (ticB Ev Rl A)).map (fun c => (c, qpl (ticB Ev Rl A) c))))) (qdr (ticB Ev Rl A) + 1)) []))) := RowR_gox hO_349.1 t_368 (by omega) rR_393 g_407
                      have rR_443 : RowR S_427 x (3 * a1_z + 0).toNat (qb (folF Ev dn_220 (we (wdr (wg (ticB Ev Rl A) (capG (qg (ticB Ev Rl A)) ((qe (ticB Ev Rl A)).map (fun c => (c, qpl (ticB Ev Rl A) c))))) (qdr (ticB Ev Rl A) + 1)) []))) := RowR_cmx hO_398.1 t_420 (by omega) rR_442 cx_433
                      have rR_444 : RowR S_396 x (3 * a1_z + 1).toNat ((qe (folF Ev dn_220 (we (wdr (wg (ticB Ev Rl A) (capG (qg (ticB Ev Rl A)) ((qe (ticB Ev Rl A)).map (fun c => (c, qpl (ticB Ev Rl A) c))))) (qdr (ticB Ev Rl A) + 1)) [])) ++ rs_221).eraseIdx (i4_206_z).toNat) := RowR_goes rR_394 g_407 (by have := rR_394.1; omega)
                      have rR_445 : RowR S_427 x (3 * a1_z + 1).toNat ((qe (folF Ev dn_220 (we (wdr (wg (ticB Ev Rl A) (capG (qg (ticB Ev Rl A)) ((qe (ticB Ev Rl A)).map (fun c => (c, qpl (ticB Ev Rl A) c))))) (qdr (ticB Ev Rl A) + 1)) [])) ++ rs_221).eraseIdx (i4_206_z).toNat) := RowR_cmx hO_398.1 t_420 (by omega) rR_444 cx_433
                      have rR_446 : RowR S_396 x (3 * a1_z + 2).toNat (ql (folF Ev dn_220 (we (wdr (wg (ticB Ev Rl A) (capG (qg (ticB Ev Rl A)) ((qe (ticB Ev Rl A)).map (fun c => (c, qpl (ticB Ev Rl A) c))))) (qdr (ticB Ev Rl A) + 1)) []))) := RowR_gox hO_349.1 t_368 (by omega) rR_388 g_407
                      have cap_448 : ((ql (folF Ev dn_220 (we (wdr (wg (ticB Ev Rl A) (capG (qg (ticB Ev Rl A)) ((qe (ticB Ev Rl A)).map (fun c => (c, qpl (ticB Ev Rl A) c))))) (qdr (ticB Ev Rl A) + 1)) [])))).length < 600 := by have h1 := rR_446.1; have h2 := cx_433.2.2.2.1; omega
                      have rR_447 : RowR S_427 x (3 * a1_z + 2).toNat ((ql (folF Ev dn_220 (we (wdr (wg (ticB Ev Rl A) (capG (qg (ticB Ev Rl A)) ((qe (ticB Ev Rl A)).map (fun c => (c, qpl (ticB Ev Rl A) c))))) (qdr (ticB Ev Rl A) + 1)) []))) ++ [c_330]) := RowR_last rR_446 (show CmO S_396 S_427 x (3 * a1_z + 2).toNat ((ql (folF Ev dn_220 (we (wdr (wg (ticB Ev Rl A) (capG (qg (ticB Ev Rl A)) ((qe (ticB Ev Rl A)).map (fun c => (c, qpl (ticB Ev Rl A) c))))) (qdr (ticB Ev Rl A) + 1)) [])))).length (rr_395.toInt) by rw [show ((ql (folF Ev dn_220 (we (wdr (wg (ticB Ev Rl A) (capG (qg (ticB Ev Rl A)) ((qe (ticB Ev Rl A)).map (fun c => (c, qpl (ticB Ev Rl A) c))))) (qdr (ticB Ev Rl A) + 1)) [])))).length = (rr_421.toInt).toNat by have := rR_446.1; omega]; exact cx_433) dn_410
                      have zR_449 : zA S_348 x 1215 a1_z.toNat = ((qst (folF Ev dn_220 (we (wdr (wg (ticB Ev Rl A) (capG (qg (ticB Ev Rl A)) ((qe (ticB Ev Rl A)).map (fun c => (c, qpl (ticB Ev Rl A) c))))) (qdr (ticB Ev Rl A) + 1)) [])))).toInt := (congrFun (zA_sAn eS_348 (ex3 (gQ_12_1215 hO_T_207.1 ha_x_L_208)) h_339 rfl) _).trans fw_247
                      have zR_450 : zA S_396 x 1215 a1_z.toNat = ((qst (folF Ev dn_220 (we (wdr (wg (ticB Ev Rl A) (capG (qg (ticB Ev Rl A)) ((qe (ticB Ev Rl A)).map (fun c => (c, qpl (ticB Ev Rl A) c))))) (qdr (ticB Ev Rl A) + 1)) [])))).toInt := (congrFun (zA_fr hk_397.fr t_368 (ex3 (gQ_12_1215 hO_349.1 t_368)) (by decide +kernel) (by decide +kernel)) _).trans zR_449
                      have zR_451 : zA S_427 x 1215 a1_z.toNat = ((qst (folF Ev dn_220 (we (wdr (wg (ticB Ev Rl A) (capG (qg (ticB Ev Rl A)) ((qe (ticB Ev Rl A)).map (fun c => (c, qpl (ticB Ev Rl A) c))))) (qdr (ticB Ev Rl A) + 1)) [])))).toInt := (congrFun (zA_fr hk_428.fr t_420 (ex3 (gQ_12_1215 hO_398.1 t_420)) (by decide +kernel) (by decide +kernel)) _).trans zR_450
                      have zR_452 : zA S_348 x 1214 a1_z.toNat = ((qse (folF Ev dn_220 (we (wdr (wg (ticB Ev Rl A) (capG (qg (ticB Ev Rl A)) ((qe (ticB Ev Rl A)).map (fun c => (c, qpl (ticB Ev Rl A) c))))) (qdr (ticB Ev Rl A) + 1)) [])))).toInt := (congrFun (zA_sAn eS_348 (ex3 (gQ_12_1214 hO_T_207.1 ha_x_L_208)) h_339 rfl) _).trans fw_248
                      have zR_453 : zA S_396 x 1214 a1_z.toNat = ((qse (folF Ev dn_220 (we (wdr (wg (ticB Ev Rl A) (capG (qg (ticB Ev Rl A)) ((qe (ticB Ev Rl A)).map (fun c => (c, qpl (ticB Ev Rl A) c))))) (qdr (ticB Ev Rl A) + 1)) [])))).toInt := (congrFun (zA_fr hk_397.fr t_368 (ex3 (gQ_12_1214 hO_349.1 t_368)) (by decide +kernel) (by decide +kernel)) _).trans zR_452
                      have zR_454 : zA S_427 x 1214 a1_z.toNat = ((qse (folF Ev dn_220 (we (wdr (wg (ticB Ev Rl A) (capG (qg (ticB Ev Rl A)) ((qe (ticB Ev Rl A)).map (fun c => (c, qpl (ticB Ev Rl A) c))))) (qdr (ticB Ev Rl A) + 1)) [])))).toInt := (congrFun (zA_fr hk_428.fr t_420 (ex3 (gQ_12_1214 hO_398.1 t_420)) (by decide +kernel) (by decide +kernel)) _).trans zR_453
                      have zR_455 : zA S_348 x 1216 a1_z.toNat = ((qdr (folF Ev dn_220 (we (wdr (wg (ticB Ev Rl A) (capG (qg (ticB Ev Rl A)) ((qe (ticB Ev Rl A)).map (fun c => (c, qpl (ticB Ev Rl A) c))))) (qdr (ticB Ev Rl A) + 1)) [])))).toInt := (congrFun (zA_sAn eS_348 (ex3 (gQ_12_1216 hO_T_207.1 ha_x_L_208)) h_339 rfl) _).trans fw_249
                      have zR_456 : zA S_396 x 1216 a1_z.toNat = ((qdr (folF Ev dn_220 (we (wdr (wg (ticB Ev Rl A) (capG (qg (ticB Ev Rl A)) ((qe (ticB Ev Rl A)).map (fun c => (c, qpl (ticB Ev Rl A) c))))) (qdr (ticB Ev Rl A) + 1)) [])))).toInt := (congrFun (zA_fr hk_397.fr t_368 (ex3 (gQ_12_1216 hO_349.1 t_368)) (by decide +kernel) (by decide +kernel)) _).trans zR_455
                      have zR_457 : zA S_427 x 1216 a1_z.toNat = ((qdr (folF Ev dn_220 (we (wdr (wg (ticB Ev Rl A) (capG (qg (ticB Ev Rl A)) ((qe (ticB Ev Rl A)).map (fun c => (c, qpl (ticB Ev Rl A) c))))) (qdr (ticB Ev Rl A) + 1)) [])))).toInt := (congrFun (zA_fr hk_428.fr t_420 (ex3 (gQ_12_1216 hO_398.1 t_420)) (by decide +kernel) (by decide +kernel)) _).trans zR_456
                      have zR_458 : zA S_348 x 1217 a1_z.toNat = ((qtk (folF Ev dn_220 (we (wdr (wg (ticB Ev Rl A) (capG (qg (ticB Ev Rl A)) ((qe (ticB Ev Rl A)).map (fun c => (c, qpl (ticB Ev Rl A) c))))) (qdr (ticB Ev Rl A) + 1)) [])))).toInt := (congrFun (zA_sAn eS_348 (ex3 (gQ_12_1217 hO_T_207.1 ha_x_L_208)) h_339 rfl) _).trans fw_250
                      have zR_459 : zA S_396 x 1217 a1_z.toNat = ((qtk (folF Ev dn_220 (we (wdr (wg (ticB Ev Rl A) (capG (qg (ticB Ev Rl A)) ((qe (ticB Ev Rl A)).map (fun c => (c, qpl (ticB Ev Rl A) c))))) (qdr (ticB Ev Rl A) + 1)) [])))).toInt := (congrFun (zA_fr hk_397.fr t_368 (ex3 (gQ_12_1217 hO_349.1 t_368)) (by decide +kernel) (by decide +kernel)) _).trans zR_458
                      have zR_460 : zA S_427 x 1217 a1_z.toNat = ((qtk (folF Ev dn_220 (we (wdr (wg (ticB Ev Rl A) (capG (qg (ticB Ev Rl A)) ((qe (ticB Ev Rl A)).map (fun c => (c, qpl (ticB Ev Rl A) c))))) (qdr (ticB Ev Rl A) + 1)) [])))).toInt := (congrFun (zA_fr hk_428.fr t_420 (ex3 (gQ_12_1217 hO_398.1 t_420)) (by decide +kernel) (by decide +kernel)) _).trans zR_459
                      have gR_461 : zA S_348 x 1237 a1_z.toNat = (((qg (folF Ev dn_220 (we (wdr (wg (ticB Ev Rl A) (capG (qg (ticB Ev Rl A)) ((qe (ticB Ev Rl A)).map (fun c => (c, qpl (ticB Ev Rl A) c))))) (qdr (ticB Ev Rl A) + 1)) [])))).length : Int) := (congrFun (zA_sAn eS_348 (ex3 (gQ_12_1237 hO_T_207.1 ha_x_L_208)) h_339 rfl) _).trans fw_251
                      have gR_462 : zA S_396 x 1237 a1_z.toNat = (((qg (folF Ev dn_220 (we (wdr (wg (ticB Ev Rl A) (capG (qg (ticB Ev Rl A)) ((qe (ticB Ev Rl A)).map (fun c => (c, qpl (ticB Ev Rl A) c))))) (qdr (ticB Ev Rl A) + 1)) [])))).length : Int) := (congrFun (zA_fr hk_397.fr t_368 (ex3 (gQ_12_1237 hO_349.1 t_368)) (by decide +kernel) (by decide +kernel)) _).trans gR_461
                      have gR_463 : zA S_427 x 1237 a1_z.toNat = (((qg (folF Ev dn_220 (we (wdr (wg (ticB Ev Rl A) (capG (qg (ticB Ev Rl A)) ((qe (ticB Ev Rl A)).map (fun c => (c, qpl (ticB Ev Rl A) c))))) (qdr (ticB Ev Rl A) + 1)) [])))).length : Int) := (congrFun (zA_fr hk_428.fr t_420 (ex3 (gQ_12_1237 hO_398.1 t_420)) (by decide +kernel) (by decide +kernel)) _).trans gR_462
                      have pz_464 : PlZ S_348 x (fuI (qpl (folF Ev dn_220 (we (wdr (wg (ticB Ev Rl A) (capG (qg (ticB Ev Rl A)) ((qe (ticB Ev Rl A)).map (fun c => (c, qpl (ticB Ev Rl A) c))))) (qdr (ticB Ev Rl A) + 1)) []))) c_330 (qpl (folF Ev dn_220 (we (wdr (wg (ticB Ev Rl A) (capG (qg (ticB Ev Rl A)) ((qe (ticB Ev Rl A)).map (fun c => (c, qpl (ticB Ev Rl A) c))))) (qdr (ticB Ev Rl A) + 1)) [])) c_330 + 1)) (qsd (folF Ev dn_220 (we (wdr (wg (ticB Ev Rl A) (capG (qg (ticB Ev Rl A)) ((qe (ticB Ev Rl A)).map (fun c => (c, qpl (ticB Ev Rl A) c))))) (qdr (ticB Ev Rl A) + 1)) []))) := PlZ_8 fw_246 (zA_sAn eS_348 (ex3 (gQ_12_1207 hO_T_207.1 ha_x_L_208)) h_339 rfl) zs_364 (by omega) (z_347.symm.trans (congrArg Int32.toInt (ev_346.trans (by rw [up_345]))))
                      have pz_465 : PlZ S_396 x (fuI (qpl (folF Ev dn_220 (we (wdr (wg (ticB Ev Rl A) (capG (qg (ticB Ev Rl A)) ((qe (ticB Ev Rl A)).map (fun c => (c, qpl (ticB Ev Rl A) c))))) (qdr (ticB Ev Rl A) + 1)) []))) c_330 (qpl (folF Ev dn_220 (we (wdr (wg (ticB Ev Rl A) (capG (qg (ticB Ev Rl A)) ((qe (ticB Ev Rl A)).map (fun c => (c, qpl (ticB Ev Rl A) c))))) (qdr (ticB Ev Rl A) + 1)) [])) c_330 + 1)) (qsd (folF Ev dn_220 (we (wdr (wg (ticB Ev Rl A) (capG (qg (ticB Ev Rl A)) ((qe (ticB Ev Rl A)).map (fun c => (c, qpl (ticB Ev Rl A) c))))) (qdr (ticB Ev Rl A) + 1)) []))) := PlZ_eq pz_464 (zA_fr hk_397.fr t_368 (ex3 (gQ_12_1208 hO_349.1 t_368)) (by decide +kernel) (by decide +kernel)) (zA_fr hk_397.fr t_368 (ex3 (gQ_12_1207 hO_349.1 t_368)) (by decide +kernel) (by decide +kernel))
                      have pz_466 : PlZ S_427 x (fuI (qpl (folF Ev dn_220 (we (wdr (wg (ticB Ev Rl A) (capG (qg (ticB Ev Rl A)) ((qe (ticB Ev Rl A)).map (fun c => (c, qpl (ticB Ev Rl A) c))))) (qdr (ticB Ev Rl A) + 1)) []))) c_330 (qpl (folF Ev dn_220 (we (wdr (wg (ticB Ev Rl A) (capG (qg (ticB Ev Rl A)) ((qe (ticB Ev Rl A)).map (fun c => (c, qpl (ticB Ev Rl A) c))))) (qdr (ticB Ev Rl A) + 1)) [])) c_330 + 1)) (fuI (qsd (folF Ev dn_220 (we (wdr (wg (ticB Ev Rl A) (capG (qg (ticB Ev Rl A)) ((qe (ticB Ev Rl A)).map (fun c => (c, qpl (ticB Ev Rl A) c))))) (qdr (ticB Ev Rl A) + 1)) []))) c_330 3) := PlZ_7 pz_465 (zA_fr hk_428.fr t_420 (ex3 (gQ_12_1208 hO_398.1 t_420)) (by decide +kernel) (by decide +kernel)) cs_432 (by omega) (by decide)
                      have t_467 : pI S_348 1238 x = v_236 := tI_sA eS_348 ev_236
                      have t_468 : pI S_396 1238 x = v_236 := hk_397.fr.I' (by decide +kernel) t_368 t_467
                      have t_469 : pI S_427 1238 x = v_236 := hk_428.fr.I' (by decide +kernel) t_420 t_468
                      have pz_470 : (pI S_427 1238 x).toInt = v_236.toInt := (congrArg Int32.toInt t_469).trans rfl
                      have px_471 : PwX S S_348 x a1_z := PwX_to iv_214 (zA_sAn eS_348 (ex3 (gQ_12_1218 hO_T_207.1 ha_x_L_208)) h_339 rfl) (zA_sAn eS_348 (ex3 (gQ_12_1219 hO_T_207.1 ha_x_L_208)) h_339 rfl) (pw5 (zA_sAn eS_348 (ex3 (gQ_12_1214 hO_T_207.1 ha_x_L_208)) h_339 rfl) (zA_sAn eS_348 (ex3 (gQ_12_1215 hO_T_207.1 ha_x_L_208)) h_339 rfl) (zA_sAn eS_348 (ex3 (gQ_12_1216 hO_T_207.1 ha_x_L_208)) h_339 rfl) (zA_sAn eS_348 (ex3 (gQ_12_1217 hO_T_207.1 ha_x_L_208)) h_339 rfl) (zA_sAn eS_348 (ex3 (gQ_12_1237 hO_T_207.1 ha_x_L_208)) h_339 rfl))
                      have px_472 : PwX S S_396 x a1_z := PwX_go px_471 hO_349.1 t_368 (by omega) g_407 (pw5 (zA_fr hk_397.fr t_368 (ex3 (gQ_12_1214 hO_349.1 t_368)) (by decide +kernel) (by decide +kernel)) (zA_fr hk_397.fr t_368 (ex3 (gQ_12_1215 hO_349.1 t_368)) (by decide +kernel) (by decide +kernel)) (zA_fr hk_397.fr t_368 (ex3 (gQ_12_1216 hO_349.1 t_368)) (by decide +kernel) (by decide +kernel)) (zA_fr hk_397.fr t_368 (ex3 (gQ_12_1217 hO_349.1 t_368)) (by decide +kernel) (by decide +kernel)) (zA_fr hk_397.fr t_368 (ex3 (gQ_12_1237 hO_349.1 t_368)) (by decide +kernel) (by decide +kernel)))
                      have px_473 : PwX S S_427 x a1_z := PwX_cm px_472 hO_398.1 t_420 (by omega) cx_433 (pw5 (zA_fr hk_428.fr t_420 (ex3 (gQ_12_1214 hO_398.1 t_420)) (by decide +kernel) (by decide +kernel)) (zA_fr hk_428.fr t_420 (ex3 (gQ_12_1215 hO_398.1 t_420)) (by decide +kernel) (by decide +kernel)) (zA_fr hk_428.fr t_420 (ex3 (gQ_12_1216 hO_398.1 t_420)) (by decide +kernel) (by decide +kernel)) (zA_fr hk_428.fr t_420 (ex3 (gQ_12_1217 hO_398.1 t_420)) (by decide +kernel) (by decide +kernel)) (zA_fr hk_428.fr t_420 (ex3 (gQ_12_1237 hO_398.1 t_420)) (by decide +kernel) (by decide +kernel)))
                      have t_474 : pI S_427 1201 x = v_1 := hk_428.fr.I' (by decide +kernel) t_420 t_411
                      exact ih_L_205 _ (by omega) _ _ _ _ (i4_206) (i4_206_z) rfl hw hz_i4_206 (by omega) t_435 hO_429 zc_438 mi_430 zm_441 ⟨dn_220 ++ [c_330], t_331, (by rw [List.append_assoc]; exact (by rw [ed_222, er_332]; rfl)), (by rw [show we (folF Ev (dn_220 ++ [c_330]) (we (wdr (wg (ticB Ev Rl A) (capG (qg (ticB Ev Rl A)) ((qe (ticB Ev Rl A)).map (fun c => (c, qpl (ticB Ev Rl A) c))))) (qdr (ticB Ev Rl A) + 1)) [])) (qe (folF Ev (dn_220 ++ [c_330]) (we (wdr (wg (ticB Ev Rl A) (capG (qg (ticB Ev Rl A)) ((qe (ticB Ev Rl A)).map (fun c => (c, qpl (ticB Ev Rl A) c))))) (qdr (ticB Ev Rl A) + 1)) [])) ++ t_331) = (we (wl (wsd (wpl (folF Ev dn_220 (we (wdr (wg (ticB Ev Rl A) (capG (qg (ticB Ev Rl A)) ((qe (ticB Ev Rl A)).map (fun c => (c, qpl (ticB Ev Rl A) c))))) (qdr (ticB Ev Rl A) + 1)) [])) (fuI (qpl (folF Ev dn_220 (we (wdr (wg (ticB Ev Rl A) (capG (qg (ticB Ev Rl A)) ((qe (ticB Ev Rl A)).map (fun c => (c, qpl (ticB Ev Rl A) c))))) (qdr (ticB Ev Rl A) + 1)) []))) c_330 (qpl (folF Ev dn_220 (we (wdr (wg (ticB Ev Rl A) (capG (qg (ticB Ev Rl A)) ((qe (ticB Ev Rl A)).map (fun c => (c, qpl (ticB Ev Rl A) c))))) (qdr (ticB Ev Rl A) + 1)) [])) c_330 + 1))) (fuI (qsd (folF Ev dn_220 (we (wdr (wg (ticB Ev Rl A) (capG (qg (ticB Ev Rl A)) ((qe (ticB Ev Rl A)).map (fun c => (c, qpl (ticB Ev Rl A) c))))) (qdr (ticB Ev Rl A) + 1)) []))) c_330 (sdV Ev (folF Ev dn_220 (we (wdr (wg (ticB Ev Rl A) (capG (qg (ticB Ev Rl A)) ((qe (ticB Ev Rl A)).map (fun c => (c, qpl (ticB Ev Rl A) c))))) (qdr (ticB Ev Rl A) + 1)) [])) c_330))) (capL 600 (ql (folF Ev dn_220 (we (wdr (wg (ticB Ev Rl A) (capG (qg (ticB Ev Rl A)) ((qe (ticB Ev Rl A)).map (fun c => (c, qpl (ticB Ev Rl A) c))))) (qdr (ticB Ev Rl A) + 1)) []))) c_330)) (qe (folF Ev dn_220 (we (wdr (wg (ticB Ev Rl A) (capG (qg (ticB Ev Rl A)) ((qe (ticB Ev Rl A)).map (fun c => (c, qpl (ticB Ev Rl A) c))))) (qdr (ticB Ev Rl A) + 1)) [])) ++ t_331)) by rw [fol_s, endK_3 bs_390]; rfl]; exact PotW_of (rfl : (we (wl (wsd (wpl (folF Ev dn_220 (we (wdr (wg (ticB Ev Rl A) (capG (qg (ticB Ev Rl A)) ((qe (ticB Ev Rl A)).map (fun c => (c, qpl (ticB Ev Rl A) c))))) (qdr (ticB Ev Rl A) + 1)) [])) (fuI (qpl (folF Ev dn_220 (we (wdr (wg (ticB Ev Rl A) (capG (qg (ticB Ev Rl A)) ((qe (ticB Ev Rl A)).map (fun c => (c, qpl (ticB Ev Rl A) c))))) (qdr (ticB Ev Rl A) + 1)) []))) c_330 (qpl (folF Ev dn_220 (we (wdr (wg (ticB Ev Rl A) (capG (qg (ticB Ev Rl A)) ((qe (ticB Ev Rl A)).map (fun c => (c, qpl (ticB Ev Rl A) c))))) (qdr (ticB Ev Rl A) + 1)) [])) c_330 + 1))) (fuI (qsd (folF Ev dn_220 (we (wdr (wg (ticB Ev Rl A) (capG (qg (ticB Ev Rl A)) ((qe (ticB Ev Rl A)).map (fun c => (c, qpl (ticB Ev Rl A) c))))) (qdr (ticB Ev Rl A) + 1)) []))) c_330 (sdV Ev (folF Ev dn_220 (we (wdr (wg (ticB Ev Rl A) (capG (qg (ticB Ev Rl A)) ((qe (ticB Ev Rl A)).map (fun c => (c, qpl (ticB Ev Rl A) c))))) (qdr (ticB Ev Rl A) + 1)) [])) c_330))) (capL 600 (ql (folF Ev dn_220 (we (wdr (wg (ticB Ev Rl A) (capG (qg (ticB Ev Rl A)) ((qe (ticB Ev Rl A)).map (fun c => (c, qpl (ticB Ev Rl A) c))))) (qdr (ticB Ev Rl A) + 1)) []))) c_330)) (qe (folF Ev dn_220 (we (wdr (wg (ticB Ev Rl A) (capG (qg (ticB Ev Rl A)) ((qe (ticB Ev Rl A)).map (fun c => (c, qpl (ticB Ev Rl A) c))))) (qdr (ticB Ev Rl A) + 1)) [])) ++ t_331)) = (we (wl (wsd (wpl (folF Ev dn_220 (we (wdr (wg (ticB Ev Rl A) (capG (qg (ticB Ev Rl A)) ((qe (ticB Ev Rl A)).map (fun c => (c, qpl (ticB Ev Rl A) c))))) (qdr (ticB Ev Rl A) + 1)) [])) (fuI (qpl (folF Ev dn_220 (we (wdr (wg (ticB Ev Rl A) (capG (qg (ticB Ev Rl A)) ((qe (ticB Ev Rl A)).map (fun c => (c, qpl (ticB Ev Rl A) c))))) (qdr (ticB Ev Rl A) + 1)) []))) c_330 (qpl (folF Ev dn_220 (we (wdr (wg (ticB Ev Rl A) (capG (qg (ticB Ev Rl A)) ((qe (ticB Ev Rl A)).map (fun c => (c, qpl (ticB Ev Rl A) c))))) (qdr (ticB Ev Rl A) + 1)) [])) c_330 + 1))) (fuI (qsd (folF Ev dn_220 (we (wdr (wg (ticB Ev Rl A) (capG (qg (ticB Ev Rl A)) ((qe (ticB Ev Rl A)).map (fun c => (c, qpl (ticB Ev Rl A) c))))) (qdr (ticB Ev Rl A) + 1)) []))) c_330 (sdV Ev (folF Ev dn_220 (we (wdr (wg (ticB Ev Rl A) (capG (qg (ticB Ev Rl A)) ((qe (ticB Ev Rl A)).map (fun c => (c, qpl (ticB Ev Rl A) c))))) (qdr (ticB Ev Rl A) + 1)) [])) c_330))) (capL 600 (ql (folF Ev dn_220 (we (wdr (wg (ticB Ev Rl A) (capG (qg (ticB Ev Rl A)) ((qe (ticB Ev Rl A)).map (fun c => (c, qpl (ticB Ev Rl A) c))))) (qdr (ticB Ev Rl A) + 1)) []))) c_330)) (qe (folF Ev dn_220 (we (wdr (wg (ticB Ev Rl A) (capG (qg (ticB Ev Rl A)) ((qe (ticB Ev Rl A)).map (fun c => (c, qpl (ticB Ev Rl A) c))))) (qdr (ticB Ev Rl A) + 1)) [])) ++ t_331))) rR_443 (show RowR S_427 x (3 * a1_z + 1).toNat (qe (folF Ev dn_220 (we (wdr (wg (ticB Ev Rl A) (capG (qg (ticB Ev Rl A)) ((qe (ticB Ev Rl A)).map (fun c => (c, qpl (ticB Ev Rl A) c))))) (qdr (ticB Ev Rl A) + 1)) [])) ++ t_331) by rw [show (qe (folF Ev dn_220 (we (wdr (wg (ticB Ev Rl A) (capG (qg (ticB Ev Rl A)) ((qe (ticB Ev Rl A)).map (fun c => (c, qpl (ticB Ev Rl A) c))))) (qdr (ticB Ev Rl A) + 1)) [])) ++ t_331) = ((qe (folF Ev dn_220 (we (wdr (wg (ticB Ev Rl A) (capG (qg (ticB Ev Rl A)) ((qe (ticB Ev Rl A)).map (fun c => (c, qpl (ticB Ev Rl A) c))))) (qdr (ticB Ev Rl A) + 1)) [])) ++ rs_221).eraseIdx (i4_206_z).toNat) from (by rw [er_332, show ((i4_206_z : Int)).toNat = (qe (folF Ev dn_220 (we (wdr (wg (ticB Ev Rl A) (capG (qg (ticB Ev Rl A)) ((qe (ticB Ev Rl A)).map (fun c => (c, qpl (ticB Ev Rl A) c))))) (qdr (ticB Ev Rl A) + 1)) []))).length by omega]; exact er_app.symm)]; exact rR_445) (show RowR S_427 x (3 * a1_z + 2).toNat (capL 600 (ql (folF Ev dn_220 (we (wdr (wg (ticB Ev Rl A) (capG (qg (ticB Ev Rl A)) ((qe (ticB Ev Rl A)).map (fun c => (c, qpl (ticB Ev Rl A) c))))) (qdr (ticB Ev Rl A) + 1)) []))) c_330) by rw [capL_y (by have := rR_388.1; omega)]; exact rR_447) zR_451 zR_454 gR_463 zR_457 zR_460 (show (pI S_427 1238 x).toInt = (((qsk (folF Ev dn_220 (we (wdr (wg (ticB Ev Rl A) (capG (qg (ticB Ev Rl A)) ((qe (ticB Ev Rl A)).map (fun c => (c, qpl (ticB Ev Rl A) c))))) (qdr (ticB Ev Rl A) + 1)) [])))).length : Int) by omega) (show PlZ S_427 x (fuI (qpl (folF Ev dn_220 (we (wdr (wg (ticB Ev Rl A) (capG (qg (ticB Ev Rl A)) ((qe (ticB Ev Rl A)).map (fun c => (c, qpl (ticB Ev Rl A) c))))) (qdr (ticB Ev Rl A) + 1)) []))) c_330 (qpl (folF Ev dn_220 (we (wdr (wg (ticB Ev Rl A) (capG (qg (ticB Ev Rl A)) ((qe (ticB Ev Rl A)).map (fun c => (c, qpl (ticB Ev Rl A) c))))) (qdr (ticB Ev Rl A) + 1)) [])) c_330 + 1)) (fuI (qsd (folF Ev dn_220 (we (wdr (wg (ticB Ev Rl A) (capG (qg (ticB Ev Rl A)) ((qe (ticB Ev Rl A)).map (fun c => (c, qpl (ticB Ev Rl A) c))))) (qdr (ticB Ev Rl A) + 1)) []))) c_330 (sdV Ev (folF Ev dn_220 (we (wdr (wg (ticB Ev Rl A) (capG (qg (ticB Ev Rl A)) ((qe (ticB Ev Rl A)).map (fun c => (c, qpl (ticB Ev Rl A) c))))) (qdr (ticB Ev Rl A) + 1)) [])) c_330)) by rw [bs_390]; exact pz_466)), (by rw [fol_s, endK_3 bs_390]; show _ = ((qe (folF Ev dn_220 (we (wdr (wg (ticB Ev Rl A) (capG (qg (ticB Ev Rl A)) ((qe (ticB Ev Rl A)).map (fun c => (c, qpl (ticB Ev Rl A) c))))) (qdr (ticB Ev Rl A) + 1)) []))).length : Int); omega)⟩ px_473 t_474 (lv_sub hl [1, 2, 3, 4, 5] rfl)
                    · have z_b_475 := trivial
                      refine lv_if_eq (tgt := 373) X.1 X.2.1 dX12_tick_347 (by decide) (fun c_476 => ?_) (fun c_476 => absurd c_476 (by decide))
                      have pe_479 : v_380 = qpl (folF Ev dn_220 (we (wdr (wg (ticB Ev Rl A) (capG (qg (ticB Ev Rl A)) ((qe (ticB Ev Rl A)).map (fun c => (c, qpl (ticB Ev Rl A) c))))) (qdr (ticB Ev Rl A) + 1)) [])) c_330 := Int32.toInt_inj.mp (by have h1 := congrArg Int32.toInt up_345; have h2 : (v_380).toInt = ((v_341.toInt + 1) - 1) := z_381; have h3 : (v_341).toInt = v_341.toInt := rfl; omega)
                      have bk_477 : ¬ ebr Ev c_330 (qpl (folF Ev dn_220 (we (wdr (wg (ticB Ev Rl A) (capG (qg (ticB Ev Rl A)) ((qe (ticB Ev Rl A)).map (fun c => (c, qpl (ticB Ev Rl A) c))))) (qdr (ticB Ev Rl A) + 1)) [])) c_330) := by rw [(hp_5.1 c_330 (by omega)).2.2]; have h := f_384; rw [mA_fr hO_349.fr ha_x (ex3 (gQ_12_1203 hG ha_x)) (by decide +kernel) (by decide +kernel), mA_fr hO_349.fr ha_x (ex3 (gQ_12_1206 hG ha_x)) (by decide +kernel) (by decide +kernel), h8_334, pe_479] at h; exact h
                      have bs_478 : sdV Ev (folF Ev dn_220 (we (wdr (wg (ticB Ev Rl A) (capG (qg (ticB Ev Rl A)) ((qe (ticB Ev Rl A)).map (fun c => (c, qpl (ticB Ev Rl A) c))))) (qdr (ticB Ev Rl A) + 1)) [])) c_330 = qsd (folF Ev dn_220 (we (wdr (wg (ticB Ev Rl A) (capG (qg (ticB Ev Rl A)) ((qe (ticB Ev Rl A)).map (fun c => (c, qpl (ticB Ev Rl A) c))))) (qdr (ticB Ev Rl A) + 1)) [])) c_330 := sdV_s (by omega) bk_477
                      have s2_480 : sdV Ev (folF Ev dn_220 (we (wdr (wg (ticB Ev Rl A) (capG (qg (ticB Ev Rl A)) ((qe (ticB Ev Rl A)).map (fun c => (c, qpl (ticB Ev Rl A) c))))) (qdr (ticB Ev Rl A) + 1)) [])) c_330 = 2 := bs_478.trans (i32_eq e2_335 t2 rfl)
                      have q2_481 : qsd (folF Ev dn_220 (we (wdr (wg (ticB Ev Rl A) (capG (qg (ticB Ev Rl A)) ((qe (ticB Ev Rl A)).map (fun c => (c, qpl (ticB Ev Rl A) c))))) (qdr (ticB Ev Rl A) + 1)) [])) c_330 = 2 := i32_eq e2_335 t2 rfl
                      obtain ⟨x_482, ex_482⟩ : ∃ y : Int32, y = i4_206 + 1 := ⟨_, rfl⟩
                      have z_483 : x_482.toInt = i4_206_z + 1 := z_add ex_482 hz_i4_206 ti_1 (by omega) (by omega)
                      refine lv_iinc (v := x_482) (lv' := [(4, .int (x_482)), (5, .int (rr_323)), (3, .int (v_120)), (2, .int (rr_98)), (0, .ref x), (1, .int (a1))]) X.1 X.2.1 dX12_tick_373 hl (k := 1) rfl (by rw [ex_482]; rfl) (by decide) rfl (fun ls hl => ?_)
                      refine lv_goto (tgt := 267) X.1 X.2.1 dX12_tick_376 (by decide) ?_
                      have zc_484 : zA S_348 x 1237 = zA S_175 x 1237 := (zA_sAn eS_348 (ex3 (gQ_12_1237 hO_T_207.1 ha_x_L_208)) h_339 rfl).trans zk_210
                      have zm_485 : ZM S S_348 x := ZM_eq iv_212 (zA_sAn eS_348 (ex3 (gQ_12_1207 hO_T_207.1 ha_x_L_208)) h_339 rfl)
                      have rR_486 : RowR S_348 x (3 * a1_z + 0).toNat (qb (folF Ev dn_220 (we (wdr (wg (ticB Ev Rl A) (capG (qg (ticB Ev Rl A)) ((qe (ticB Ev Rl A)).map (fun c => (c, qpl (ticB Ev Rl A) c))))) (qdr (ticB Ev Rl A) + 1)) []))) := RowR_eq fw_240 (zA_sAn eS_348 (ex3 (gQ_12_1218 hO_T_207.1 ha_x_L_208)) h_339 rfl) (zA_sAn eS_348 (ex3 (gQ_12_1219 hO_T_207.1 ha_x_L_208)) h_339 rfl)
                      have rR_487 : RowR S_348 x (3 * a1_z + 1).toNat (qe (folF Ev dn_220 (we (wdr (wg (ticB Ev Rl A) (capG (qg (ticB Ev Rl A)) ((qe (ticB Ev Rl A)).map (fun c => (c, qpl (ticB Ev Rl A) c))))) (qdr (ticB Ev Rl A) + 1)) [])) ++ rs_221) := RowR_eq fw_241 (zA_sAn eS_348 (ex3 (gQ_12_1218 hO_T_207.1 ha_x_L_208)) h_339 rfl) (zA_sAn eS_348 (ex3 (gQ_12_1219 hO_T_207.1 ha_x_L_208)) h_339 rfl)
                      have rR_488 : RowR S_348 x (3 * a1_z + 2).toNat (ql (folF Ev dn_220 (we (wdr (wg (ticB Ev Rl A) (capG (qg (ticB Ev Rl A)) ((qe (ticB Ev Rl A)).map (fun c => (c, qpl (ticB Ev Rl A) c))))) (qdr (ticB Ev Rl A) + 1)) []))) := RowR_eq fw_242 (zA_sAn eS_348 (ex3 (gQ_12_1218 hO_T_207.1 ha_x_L_208)) h_339 rfl) (zA_sAn eS_348 (ex3 (gQ_12_1219 hO_T_207.1 ha_x_L_208)) h_339 rfl)
                      have zR_489 : zA S_348 x 1215 a1_z.toNat = ((qst (folF Ev dn_220 (we (wdr (wg (ticB Ev Rl A) (capG (qg (ticB Ev Rl A)) ((qe (ticB Ev Rl A)).map (fun c => (c, qpl (ticB Ev Rl A) c))))) (qdr (ticB Ev Rl A) + 1)) [])))).toInt := (congrFun (zA_sAn eS_348 (ex3 (gQ_12_1215 hO_T_207.1 ha_x_L_208)) h_339 rfl) _).trans fw_247
                      have zR_490 : zA S_348 x 1214 a1_z.toNat = ((qse (folF Ev dn_220 (we (wdr (wg (ticB Ev Rl A) (capG (qg (ticB Ev Rl A)) ((qe (ticB Ev Rl A)).map (fun c => (c, qpl (ticB Ev Rl A) c))))) (qdr (ticB Ev Rl A) + 1)) [])))).toInt := (congrFun (zA_sAn eS_348 (ex3 (gQ_12_1214 hO_T_207.1 ha_x_L_208)) h_339 rfl) _).trans fw_248
                      have zR_491 : zA S_348 x 1216 a1_z.toNat = ((qdr (folF Ev dn_220 (we (wdr (wg (ticB Ev Rl A) (capG (qg (ticB Ev Rl A)) ((qe (ticB Ev Rl A)).map (fun c => (c, qpl (ticB Ev Rl A) c))))) (qdr (ticB Ev Rl A) + 1)) [])))).toInt := (congrFun (zA_sAn eS_348 (ex3 (gQ_12_1216 hO_T_207.1 ha_x_L_208)) h_339 rfl) _).trans fw_249
                      have zR_492 : zA S_348 x 1217 a1_z.toNat = ((qtk (folF Ev dn_220 (we (wdr (wg (ticB Ev Rl A) (capG (qg (ticB Ev Rl A)) ((qe (ticB Ev Rl A)).map (fun c => (c, qpl (ticB Ev Rl A) c))))) (qdr (ticB Ev Rl A) + 1)) [])))).toInt := (congrFun (zA_sAn eS_348 (ex3 (gQ_12_1217 hO_T_207.1 ha_x_L_208)) h_339 rfl) _).trans fw_250
                      have gR_493 : zA S_348 x 1237 a1_z.toNat = (((qg (folF Ev dn_220 (we (wdr (wg (ticB Ev Rl A) (capG (qg (ticB Ev Rl A)) ((qe (ticB Ev Rl A)).map (fun c => (c, qpl (ticB Ev Rl A) c))))) (qdr (ticB Ev Rl A) + 1)) [])))).length : Int) := (congrFun (zA_sAn eS_348 (ex3 (gQ_12_1237 hO_T_207.1 ha_x_L_208)) h_339 rfl) _).trans fw_251
                      have pz_494 : PlZ S_348 x (fuI (qpl (folF Ev dn_220 (we (wdr (wg (ticB Ev Rl A) (capG (qg (ticB Ev Rl A)) ((qe (ticB Ev Rl A)).map (fun c => (c, qpl (ticB Ev Rl A) c))))) (qdr (ticB Ev Rl A) + 1)) []))) c_330 (qpl (folF Ev dn_220 (we (wdr (wg (ticB Ev Rl A) (capG (qg (ticB Ev Rl A)) ((qe (ticB Ev Rl A)).map (fun c => (c, qpl (ticB Ev Rl A) c))))) (qdr (ticB Ev Rl A) + 1)) [])) c_330 + 1)) (qsd (folF Ev dn_220 (we (wdr (wg (ticB Ev Rl A) (capG (qg (ticB Ev Rl A)) ((qe (ticB Ev Rl A)).map (fun c => (c, qpl (ticB Ev Rl A) c))))) (qdr (ticB Ev Rl A) + 1)) []))) := PlZ_8 fw_246 (zA_sAn eS_348 (ex3 (gQ_12_1207 hO_T_207.1 ha_x_L_208)) h_339 rfl) zs_364 (by omega) (z_347.symm.trans (congrArg Int32.toInt (ev_346.trans (by rw [up_345]))))
                      have t_495 : pI S_348 1238 x = v_236 := tI_sA eS_348 ev_236
                      have pz_496 : (pI S_348 1238 x).toInt = v_236.toInt := (congrArg Int32.toInt t_495).trans rfl
                      have px_497 : PwX S S_348 x a1_z := PwX_to iv_214 (zA_sAn eS_348 (ex3 (gQ_12_1218 hO_T_207.1 ha_x_L_208)) h_339 rfl) (zA_sAn eS_348 (ex3 (gQ_12_1219 hO_T_207.1 ha_x_L_208)) h_339 rfl) (pw5 (zA_sAn eS_348 (ex3 (gQ_12_1214 hO_T_207.1 ha_x_L_208)) h_339 rfl) (zA_sAn eS_348 (ex3 (gQ_12_1215 hO_T_207.1 ha_x_L_208)) h_339 rfl) (zA_sAn eS_348 (ex3 (gQ_12_1216 hO_T_207.1 ha_x_L_208)) h_339 rfl) (zA_sAn eS_348 (ex3 (gQ_12_1217 hO_T_207.1 ha_x_L_208)) h_339 rfl) (zA_sAn eS_348 (ex3 (gQ_12_1237 hO_T_207.1 ha_x_L_208)) h_339 rfl))
                      exact ih_L_205 _ (by omega) _ _ _ _ (x_482) (x_482.toInt) rfl hw rfl (by omega) t_368 hO_349 zc_484 mi_379 zm_485 ⟨dn_220 ++ [c_330], t_331, (by rw [List.append_assoc]; exact (by rw [ed_222, er_332]; rfl)), (by rw [show we (folF Ev (dn_220 ++ [c_330]) (we (wdr (wg (ticB Ev Rl A) (capG (qg (ticB Ev Rl A)) ((qe (ticB Ev Rl A)).map (fun c => (c, qpl (ticB Ev Rl A) c))))) (qdr (ticB Ev Rl A) + 1)) [])) (qe (folF Ev (dn_220 ++ [c_330]) (we (wdr (wg (ticB Ev Rl A) (capG (qg (ticB Ev Rl A)) ((qe (ticB Ev Rl A)).map (fun c => (c, qpl (ticB Ev Rl A) c))))) (qdr (ticB Ev Rl A) + 1)) [])) ++ t_331) = (we (wsd (wpl (folF Ev dn_220 (we (wdr (wg (ticB Ev Rl A) (capG (qg (ticB Ev Rl A)) ((qe (ticB Ev Rl A)).map (fun c => (c, qpl (ticB Ev Rl A) c))))) (qdr (ticB Ev Rl A) + 1)) [])) (fuI (qpl (folF Ev dn_220 (we (wdr (wg (ticB Ev Rl A) (capG (qg (ticB Ev Rl A)) ((qe (ticB Ev Rl A)).map (fun c => (c, qpl (ticB Ev Rl A) c))))) (qdr (ticB Ev Rl A) + 1)) []))) c_330 (qpl (folF Ev dn_220 (we (wdr (wg (ticB Ev Rl A) (capG (qg (ticB Ev Rl A)) ((qe (ticB Ev Rl A)).map (fun c => (c, qpl (ticB Ev Rl A) c))))) (qdr (ticB Ev Rl A) + 1)) [])) c_330 + 1))) (fuI (qsd (folF Ev dn_220 (we (wdr (wg (ticB Ev Rl A) (capG (qg (ticB Ev Rl A)) ((qe (ticB Ev Rl A)).map (fun c => (c, qpl (ticB Ev Rl A) c))))) (qdr (ticB Ev Rl A) + 1)) []))) c_330 (sdV Ev (folF Ev dn_220 (we (wdr (wg (ticB Ev Rl A) (capG (qg (ticB Ev Rl A)) ((qe (ticB Ev Rl A)).map (fun c => (c, qpl (ticB Ev Rl A) c))))) (qdr (ticB Ev Rl A) + 1)) [])) c_330))) ((qe (folF Ev dn_220 (we (wdr (wg (ticB Ev Rl A) (capG (qg (ticB Ev Rl A)) ((qe (ticB Ev Rl A)).map (fun c => (c, qpl (ticB Ev Rl A) c))))) (qdr (ticB Ev Rl A) + 1)) [])) ++ [c_330]) ++ t_331)) by rw [fol_s, endK_2 s2_480]; rfl]; exact PotW_of (rfl : (we (wsd (wpl (folF Ev dn_220 (we (wdr (wg (ticB Ev Rl A) (capG (qg (ticB Ev Rl A)) ((qe (ticB Ev Rl A)).map (fun c => (c, qpl (ticB Ev Rl A) c))))) (qdr (ticB Ev Rl A) + 1)) [])) (fuI (qpl (folF Ev dn_220 (we (wdr (wg (ticB Ev Rl A) (capG (qg (ticB Ev Rl A)) ((qe (ticB Ev Rl A)).map (fun c => (c, qpl (ticB Ev Rl A) c))))) (qdr (ticB Ev Rl A) + 1)) []))) c_330 (qpl (folF Ev dn_220 (we (wdr (wg (ticB Ev Rl A) (capG (qg (ticB Ev Rl A)) ((qe (ticB Ev Rl A)).map (fun c => (c, qpl (ticB Ev Rl A) c))))) (qdr (ticB Ev Rl A) + 1)) [])) c_330 + 1))) (fuI (qsd (folF Ev dn_220 (we (wdr (wg (ticB Ev Rl A) (capG (qg (ticB Ev Rl A)) ((qe (ticB Ev Rl A)).map (fun c => (c, qpl (ticB Ev Rl A) c))))) (qdr (ticB Ev Rl A) + 1)) []))) c_330 (sdV Ev (folF Ev dn_220 (we (wdr (wg (ticB Ev Rl A) (capG (qg (ticB Ev Rl A)) ((qe (ticB Ev Rl A)).map (fun c => (c, qpl (ticB Ev Rl A) c))))) (qdr (ticB Ev Rl A) + 1)) [])) c_330))) ((qe (folF Ev dn_220 (we (wdr (wg (ticB Ev Rl A) (capG (qg (ticB Ev Rl A)) ((qe (ticB Ev Rl A)).map (fun c => (c, qpl (ticB Ev Rl A) c))))) (qdr (ticB Ev Rl A) + 1)) [])) ++ [c_330]) ++ t_331)) = (we (wsd (wpl (folF Ev dn_220 (we (wdr (wg (ticB Ev Rl A) (capG (qg (ticB Ev Rl A)) ((qe (ticB Ev Rl A)).map (fun c => (c, qpl (ticB Ev Rl A) c))))) (qdr (ticB Ev Rl A) + 1)) [])) (fuI (qpl (folF Ev dn_220 (we (wdr (wg (ticB Ev Rl A) (capG (qg (ticB Ev Rl A)) ((qe (ticB Ev Rl A)).map (fun c => (c, qpl (ticB Ev Rl A) c))))) (qdr (ticB Ev Rl A) + 1)) []))) c_330 (qpl (folF Ev dn_220 (we (wdr (wg (ticB Ev Rl A) (capG (qg (ticB Ev Rl A)) ((qe (ticB Ev Rl A)).map (fun c => (c, qpl (ticB Ev Rl A) c))))) (qdr (ticB Ev Rl A) + 1)) [])) c_330 + 1))) (fuI (qsd (folF Ev dn_220 (we (wdr (wg (ticB Ev Rl A) (capG (qg (ticB Ev Rl A)) ((qe (ticB Ev Rl A)).map (fun c => (c, qpl (ticB Ev Rl A) c))))) (qdr (ticB Ev Rl A) + 1)) []))) c_330 (sdV Ev (folF Ev dn_220 (we (wdr (wg (ticB Ev Rl A) (capG (qg (ticB Ev Rl A)) ((qe (ticB Ev Rl A)).map (fun c => (c, qpl (ticB Ev Rl A) c))))) (qdr (ticB Ev Rl A) + 1)) [])) c_330))) ((qe (folF Ev dn_220 (we (wdr (wg (ticB Ev Rl A) (capG (qg (ticB Ev Rl A)) ((qe (ticB Ev Rl A)).map (fun c => (c, qpl (ticB Ev Rl A) c))))) (qdr (ticB Ev Rl A) + 1)) [])) ++ [c_330]) ++ t_331))) rR_486 (show RowR S_348 x (3 * a1_z + 1).toNat ((qe (folF Ev dn_220 (we (wdr (wg (ticB Ev Rl A) (capG (qg (ticB Ev Rl A)) ((qe (ticB Ev Rl A)).map (fun c => (c, qpl (ticB Ev Rl A) c))))) (qdr (ticB Ev Rl A) + 1)) [])) ++ [c_330]) ++ t_331) by rw [List.append_assoc]; have h := rR_487; rw [er_332] at h; exact h) rR_488 zR_489 zR_490 gR_493 zR_491 zR_492 (show (pI S_348 1238 x).toInt = (((qsk (folF Ev dn_220 (we (wdr (wg (ticB Ev Rl A) (capG (qg (ticB Ev Rl A)) ((qe (ticB Ev Rl A)).map (fun c => (c, qpl (ticB Ev Rl A) c))))) (qdr (ticB Ev Rl A) + 1)) [])))).length : Int) by omega) (PlZ_st pz_494 (s2_480.trans q2_481.symm))), (by rw [fol_s, endK_2 s2_480]; show _ = ((qe (folF Ev dn_220 (we (wdr (wg (ticB Ev Rl A) (capG (qg (ticB Ev Rl A)) ((qe (ticB Ev Rl A)).map (fun c => (c, qpl (ticB Ev Rl A) c))))) (qdr (ticB Ev Rl A) + 1)) [])) ++ [c_330]).length : Int); rw [List.length_append]; show _ = (((qe (folF Ev dn_220 (we (wdr (wg (ticB Ev Rl A) (capG (qg (ticB Ev Rl A)) ((qe (ticB Ev Rl A)).map (fun c => (c, qpl (ticB Ev Rl A) c))))) (qdr (ticB Ev Rl A) + 1)) []))).length + 1 : Nat) : Int); omega)⟩ px_497 t_362 (lv_sub hl [0, 2, 3, 4, 5] rfl)
                  · have z_b_498 := trivial
                    have k_499 : (v_341.toInt + 1) = rr_371.toInt := z_eq z_347 rfl c_376
                    have s4_500 : sdV Ev (folF Ev dn_220 (we (wdr (wg (ticB Ev Rl A) (capG (qg (ticB Ev Rl A)) ((qe (ticB Ev Rl A)).map (fun c => (c, qpl (ticB Ev Rl A) c))))) (qdr (ticB Ev Rl A) + 1)) [])) c_330 = 4 := sdV_4 (by omega)
                    refine lv_aload_n X.1 X.2.1 dX12_tick_315 rfl (lv_at hl 4 rfl) ?_
                    obtain ⟨q_501, h_502, h_503, h_504⟩ := gQ_12_1207 hO_349.1 t_368
                    refine r_getR (g := 1207) X hw t_368 rfl 7 h_502 (by decide) rfl inn_X12_tick_12 (by decide) (X.2.2.2.1 (.fieldLink RX12 25 "SilkMillModel" "stand" "[I") (by decide +kernel)) rfl (gv_1207 _ _) dX12_tick_316 ?_
                    refine lv_aload_n X.1 X.2.1 dX12_tick_319 rfl (lv_at hl 4 rfl) ?_
                    refine lv_iload_n X.1 X.2.1 dX12_tick_320 rfl (lv_at hl 5 rfl) ?_
                    refine lv_iconst (v := 1) X.1 X.2.1 dX12_tick_321 (by decide) ?_
                    refine lv_iload X.1 X.2.1 dX12_tick_322 (lv_at hl 1 rfl) ?_
                    have pz_505 : (pI S_348 1201 x).toInt = v_1.toInt := (congrArg Int32.toInt t_362).trans rfl
                    have rR_506 : RowR S_348 x (3 * a1_z + 0).toNat (qb (folF Ev dn_220 (we (wdr (wg (ticB Ev Rl A) (capG (qg (ticB Ev Rl A)) ((qe (ticB Ev Rl A)).map (fun c => (c, qpl (ticB Ev Rl A) c))))) (qdr (ticB Ev Rl A) + 1)) []))) := RowR_eq fw_240 (zA_sAn eS_348 (ex3 (gQ_12_1218 hO_T_207.1 ha_x_L_208)) h_339 rfl) (zA_sAn eS_348 (ex3 (gQ_12_1219 hO_T_207.1 ha_x_L_208)) h_339 rfl)
                    have rR_507 : RowR S_348 x (3 * a1_z + 1).toNat (qe (folF Ev dn_220 (we (wdr (wg (ticB Ev Rl A) (capG (qg (ticB Ev Rl A)) ((qe (ticB Ev Rl A)).map (fun c => (c, qpl (ticB Ev Rl A) c))))) (qdr (ticB Ev Rl A) + 1)) [])) ++ rs_221) := RowR_eq fw_241 (zA_sAn eS_348 (ex3 (gQ_12_1218 hO_T_207.1 ha_x_L_208)) h_339 rfl) (zA_sAn eS_348 (ex3 (gQ_12_1219 hO_T_207.1 ha_x_L_208)) h_339 rfl)
                    have rR_508 : RowR S_348 x (3 * a1_z + 2).toNat (ql (folF Ev dn_220 (we (wdr (wg (ticB Ev Rl A) (capG (qg (ticB Ev Rl A)) ((qe (ticB Ev Rl A)).map (fun c => (c, qpl (ticB Ev Rl A) c))))) (qdr (ticB Ev Rl A) + 1)) []))) := RowR_eq fw_242 (zA_sAn eS_348 (ex3 (gQ_12_1218 hO_T_207.1 ha_x_L_208)) h_339 rfl) (zA_sAn eS_348 (ex3 (gQ_12_1219 hO_T_207.1 ha_x_L_208)) h_339 rfl)
                    refine k_i (rm := { frames := 1, cells := 0, slots := 0, locals := 48 }) (av := [.ref x, .int (a1), .int 1, .int (i4_206)]) X hw (va_runV (As := [.int (a1), .int 1, .int (i4_206)]) (rest := [.ref q_501]) (cfix X) (k_X12_goes5 l G cy κ S_348 _ x (a1) (a1_z) (1) (1) (i4_206) (i4_206_z) rr_323.toInt hO_349.1 t_368 hz_a1 ti_1 hz_i4_206 (by first | assumption | omega) (by first | assumption | omega) (by first | assumption | omega) (by first | assumption | omega) (by first | assumption | omega) (by first | assumption | omega) mi_354) (cwV 3 X.2.2.2.1 gX12_tick_X12_goes rfl rfl rfl (by decide +kernel) ⟨Nat.le_of_ble_eq_true rfl, Nat.le_of_ble_eq_true rfl⟩) (pre_V X hw _ t_368 rfl (by decide) rfl) rfl rfl hl.1 rfl (lv_room (Nat.le_of_ble_eq_true rfl)) dX12_tick_324 ⟨Nat.le_of_ble_eq_true rfl, Nat.le_of_ble_eq_true rfl⟩) 0 0 (Nat.le_of_ble_eq_true rfl) (Nat.le_of_ble_eq_true rfl) (fun rr_509 S_510 H locs hp hw hfr hnw => ?_)
                    obtain ⟨hk_511, hp⟩ := hp
                    have hO_512 : Ok MTK S S_510 := hO_349.call hk_511 (by decide +kernel)
                    obtain ⟨g_513, g_514, g_515, g_516, g_517, g_518, g_519, g_520, g_521⟩ := hp
                    have dn_524 : rr_509.toInt = (c_330 : Int) := by have h8 := rR_507.2 _ _ ix_333; have hi : (600 * (3 * a1_z + 1) + i4_206_z).toNat = 600 * (3 * a1_z + 1).toNat + ((i4_206_z : Int)).toNat := (by omega); rw [← hi] at h8; omega
                    have zl_525 : zA S_510 x 1207 = zA S_348 x 1207 := zA_fr hk_511.fr t_368 (ex3 (gQ_12_1207 hO_349.1 t_368)) (by decide +kernel) (by decide +kernel)
                    have zz_526 := congrFun zl_525 (rr_509.toInt).toNat
                    have hrc : rr_509.toInt = rr_323.toInt := by omega
                    have t_527 : pI S_510 1201 x = v_1 := hk_511.fr.I' (by decide +kernel) t_368 t_362
                    have pz_528 : (pI S_510 1201 x).toInt = v_1.toInt := (congrArg Int32.toInt t_527).trans rfl
                    have gi_529 := g_520 (3 * a1_z + 1).toNat; rw [if_pos (by omega)] at gi_529
                    refine lv_iconst (v := 4) X.1 X.2.1 dX12_tick_327 (by decide) ?_
                    have t_530 : At S_510 q_501 354 := hk_511.fr.at h_503
                    have t_531 : pN S_510 q_501 = 600 := hk_511.fr.N h_503 h_504
                    clear h_504
                    refine r_iast X hw t_530 rfl (by rw [t_531]; exact z_ix rfl (by omega) (by omega)) dX12_tick_328 (fun H locs hw => ?_)
                    obtain ⟨S_532, eS_532⟩ : ∃ T, T = sA S_510 q_501 (upd (pA S_510 q_501) (Int32.toNatClampNeg (rr_509)) (4)) := ⟨_, rfl⟩
                    rw [← eS_532] at hw
                    have hO_533 : Ok MTK S S_532 := hO_512.sA eS_532 t_530 (by decide +kernel) (uA_354 hO_512.1 t_530)
                    have h_534 : pA S_532 q_501 (Int32.toNatClampNeg (rr_509)) = 4 := tA_sAs eS_532
                    have t_535 : pR S_510 1207 x = some q_501 := hk_511.fr.R' (by decide +kernel) t_368 h_502
                    have t_536 : pR S_532 1207 x = some q_501 := tR_sA eS_532 t_535
                    have t_538 : pR S_510 1207 x = some q_501 := by have h := t_536; rw [eS_532, pR_sA] at h; exact h
                    have zs_537 : ∀ j, zA S_532 x 1207 j = if j = (rr_509.toInt).toNat then 4 else zA S_510 x 1207 j := by have h := zA_sAs eS_532 t_538 ti_4; rw [z_nc rfl (by omega)] at h; exact h
                    have t_540 : At S_510 x 12 := hk_511.fr.at t_368
                    have mi_539 : MIe S_532 x rr_323.toInt := stand_MI (c := rr_509.toInt) hO_512.1 t_540 (show Fr [10354] S_510 S_532 by rw [eS_532]; exact Fr_sA t_530 List.mem_cons_self) g_518 (by omega) (by omega) g_519 zs_537 (Or.inl rfl)
                    have mi_541 : MI S_532 x := back_MI mi_539 (by omega) (Or.inl (by rw [← hrc, zs_537, if_pos rfl]))
                    have zc_542 : zA S_532 x 1219 = zA S_510 x 1219 := zA_sAn eS_532 (ex3 (gQ_12_1219 hO_512.1 t_540)) t_530 rfl
                    have zz_543 := congrFun zc_542 (3 * a1_z + 1).toNat
                    have t_545 : pR S_510 1207 x = some q_501 := by have h := t_536; rw [eS_532, pR_sA] at h; exact h
                    have zs_544 : ∀ j, zA S_532 x 1207 j = if j = (rr_509.toInt).toNat then 4 else zA S_510 x 1207 j := by have h := zA_sAs eS_532 t_545 ti_4; rw [z_nc rfl (by omega)] at h; exact h
                    have zm_546 : ZM S S_348 x := ZM_eq iv_212 (zA_sAn eS_348 (ex3 (gQ_12_1207 hO_T_207.1 ha_x_L_208)) h_339 rfl)
                    have zm_547 : ZM S S_510 x := ZM_eq zm_546 (zA_fr hk_511.fr t_368 (ex3 (gQ_12_1207 hO_349.1 t_368)) (by decide +kernel) (by decide +kernel))
                    have zm_548 : ZM S S_532 x := ZM_set zm_547 zs_544 ⟨by omega, by omega⟩ ⟨by omega, by omega⟩
                    refine lv_goto (tgt := 376) X.1 X.2.1 dX12_tick_329 (by decide) ?_
                    refine lv_goto (tgt := 267) X.1 X.2.1 dX12_tick_376 (by decide) ?_
                    have t_549 : At S_532 x 12 := tAt_sA eS_532 t_540
                    have zc_550 : zA S_348 x 1237 = zA S_175 x 1237 := (zA_sAn eS_348 (ex3 (gQ_12_1237 hO_T_207.1 ha_x_L_208)) h_339 rfl).trans zk_210
                    have zc_551 : zA S_510 x 1237 = zA S_175 x 1237 := (zA_fr hk_511.fr t_368 (ex3 (gQ_12_1237 hO_349.1 t_368)) (by decide +kernel) (by decide +kernel)).trans zc_550
                    have zc_552 : zA S_532 x 1237 = zA S_175 x 1237 := (zA_sAn eS_532 (ex3 (gQ_12_1237 hO_512.1 t_540)) t_530 rfl).trans zc_551
                    have rR_553 : RowR S_510 x (3 * a1_z + 0).toNat (qb (folF Ev dn_220 (we (wdr (wg (ticB Ev Rl A) (capG (qg (ticB Ev Rl A)) ((qe (ticB Ev Rl A)).map (fun c => (c, qpl (ticB Ev Rl A) c))))) (qdr (ticB Ev Rl A) + 1)) []))) := RowR_gox hO_349.1 t_368 (by omega) rR_506 g_521
                    have rR_554 : RowR S_532 x (3 * a1_z + 0).toNat (qb (folF Ev dn_220 (we (wdr (wg (ticB Ev Rl A) (capG (qg (ticB Ev Rl A)) ((qe (ticB Ev Rl A)).map (fun c => (c, qpl (ticB Ev Rl A) c))))) (qdr (ticB Ev Rl A) + 1)) []))) := RowR_eq rR_553 (zA_sAn eS_532 (ex3 (gQ_12_1218 hO_512.1 t_540)) t_530 rfl) (zA_sAn eS_532 (ex3 (gQ_12_1219 hO_512.1 t_540)) t_530 rfl)
                    have rR_555 : RowR S_510 x (3 * a1_z + 1).toNat ((qe (folF Ev dn_220 (we (wdr (wg (ticB Ev Rl A) (capG (qg (ticB Ev Rl A)) ((qe (ticB Ev Rl A)).map (fun c => (c, qpl (ticB Ev Rl A) c))))) (qdr (ticB Ev Rl A) + 1)) [])) ++ rs_221).eraseIdx (i4_206_z).toNat) := RowR_goes rR_507 g_521 (by have := rR_507.1; omega)
                    have rR_556 : RowR S_532 x (3 * a1_z + 1).toNat ((qe (folF Ev dn_220 (we (wdr (wg (ticB Ev Rl A) (capG (qg (ticB Ev Rl A)) ((qe (ticB Ev Rl A)).map (fun c => (c, qpl (ticB Ev Rl A) c))))) (qdr (ticB Ev Rl A) + 1)) [])) ++ rs_221).eraseIdx (i4_206_z).toNat) := RowR_eq rR_555 (zA_sAn eS_532 (ex3 (gQ_12_1218 hO_512.1 t_540)) t_530 rfl) (zA_sAn eS_532 (ex3 (gQ_12_1219 hO_512.1 t_540)) t_530 rfl)
                    have rR_557 : RowR S_510 x (3 * a1_z + 2).toNat (ql (folF Ev dn_220 (we (wdr (wg (ticB Ev Rl A) (capG (qg (ticB Ev Rl A)) ((qe (ticB Ev Rl A)).map (fun c => (c, qpl (ticB Ev Rl A) c))))) (qdr (ticB Ev Rl A) + 1)) []))) := RowR_gox hO_349.1 t_368 (by omega) rR_508 g_521
                    have rR_558 : RowR S_532 x (3 * a1_z + 2).toNat (ql (folF Ev dn_220 (we (wdr (wg (ticB Ev Rl A) (capG (qg (ticB Ev Rl A)) ((qe (ticB Ev Rl A)).map (fun c => (c, qpl (ticB Ev Rl A) c))))) (qdr (ticB Ev Rl A) + 1)) []))) := RowR_eq rR_557 (zA_sAn eS_532 (ex3 (gQ_12_1218 hO_512.1 t_540)) t_530 rfl) (zA_sAn eS_532 (ex3 (gQ_12_1219 hO_512.1 t_540)) t_530 rfl)
                    have zR_559 : zA S_348 x 1215 a1_z.toNat = ((qst (folF Ev dn_220 (we (wdr (wg (ticB Ev Rl A) (capG (qg (ticB Ev Rl A)) ((qe (ticB Ev Rl A)).map (fun c => (c, qpl (ticB Ev Rl A) c))))) (qdr (ticB Ev Rl A) + 1)) [])))).toInt := (congrFun (zA_sAn eS_348 (ex3 (gQ_12_1215 hO_T_207.1 ha_x_L_208)) h_339 rfl) _).trans fw_247
                    have zR_560 : zA S_510 x 1215 a1_z.toNat = ((qst (folF Ev dn_220 (we (wdr (wg (ticB Ev Rl A) (capG (qg (ticB Ev Rl A)) ((qe (ticB Ev Rl A)).map (fun c => (c, qpl (ticB Ev Rl A) c))))) (qdr (ticB Ev Rl A) + 1)) [])))).toInt := (congrFun (zA_fr hk_511.fr t_368 (ex3 (gQ_12_1215 hO_349.1 t_368)) (by decide +kernel) (by decide +kernel)) _).trans zR_559
                    have zR_561 : zA S_532 x 1215 a1_z.toNat = ((qst (folF Ev dn_220 (we (wdr (wg (ticB Ev Rl A) (capG (qg (ticB Ev Rl A)) ((qe (ticB Ev Rl A)).map (fun c => (c, qpl (ticB Ev Rl A) c))))) (qdr (ticB Ev Rl A) + 1)) [])))).toInt := (congrFun (zA_sAn eS_532 (ex3 (gQ_12_1215 hO_512.1 t_540)) t_530 rfl) _).trans zR_560
                    have zR_562 : zA S_348 x 1214 a1_z.toNat = ((qse (folF Ev dn_220 (we (wdr (wg (ticB Ev Rl A) (capG (qg (ticB Ev Rl A)) ((qe (ticB Ev Rl A)).map (fun c => (c, qpl (ticB Ev Rl A) c))))) (qdr (ticB Ev Rl A) + 1)) [])))).toInt := (congrFun (zA_sAn eS_348 (ex3 (gQ_12_1214 hO_T_207.1 ha_x_L_208)) h_339 rfl) _).trans fw_248
                    have zR_563 : zA S_510 x 1214 a1_z.toNat = ((qse (folF Ev dn_220 (we (wdr (wg (ticB Ev Rl A) (capG (qg (ticB Ev Rl A)) ((qe (ticB Ev Rl A)).map (fun c => (c, qpl (ticB Ev Rl A) c))))) (qdr (ticB Ev Rl A) + 1)) [])))).toInt := (congrFun (zA_fr hk_511.fr t_368 (ex3 (gQ_12_1214 hO_349.1 t_368)) (by decide +kernel) (by decide +kernel)) _).trans zR_562
                    have zR_564 : zA S_532 x 1214 a1_z.toNat = ((qse (folF Ev dn_220 (we (wdr (wg (ticB Ev Rl A) (capG (qg (ticB Ev Rl A)) ((qe (ticB Ev Rl A)).map (fun c => (c, qpl (ticB Ev Rl A) c))))) (qdr (ticB Ev Rl A) + 1)) [])))).toInt := (congrFun (zA_sAn eS_532 (ex3 (gQ_12_1214 hO_512.1 t_540)) t_530 rfl) _).trans zR_563
                    have zR_565 : zA S_348 x 1216 a1_z.toNat = ((qdr (folF Ev dn_220 (we (wdr (wg (ticB Ev Rl A) (capG (qg (ticB Ev Rl A)) ((qe (ticB Ev Rl A)).map (fun c => (c, qpl (ticB Ev Rl A) c))))) (qdr (ticB Ev Rl A) + 1)) [])))).toInt := (congrFun (zA_sAn eS_348 (ex3 (gQ_12_1216 hO_T_207.1 ha_x_L_208)) h_339 rfl) _).trans fw_249
                    have zR_566 : zA S_510 x 1216 a1_z.toNat = ((qdr (folF Ev dn_220 (we (wdr (wg (ticB Ev Rl A) (capG (qg (ticB Ev Rl A)) ((qe (ticB Ev Rl A)).map (fun c => (c, qpl (ticB Ev Rl A) c))))) (qdr (ticB Ev Rl A) + 1)) [])))).toInt := (congrFun (zA_fr hk_511.fr t_368 (ex3 (gQ_12_1216 hO_349.1 t_368)) (by decide +kernel) (by decide +kernel)) _).trans zR_565
                    have zR_567 : zA S_532 x 1216 a1_z.toNat = ((qdr (folF Ev dn_220 (we (wdr (wg (ticB Ev Rl A) (capG (qg (ticB Ev Rl A)) ((qe (ticB Ev Rl A)).map (fun c => (c, qpl (ticB Ev Rl A) c))))) (qdr (ticB Ev Rl A) + 1)) [])))).toInt := (congrFun (zA_sAn eS_532 (ex3 (gQ_12_1216 hO_512.1 t_540)) t_530 rfl) _).trans zR_566
                    have zR_568 : zA S_348 x 1217 a1_z.toNat = ((qtk (folF Ev dn_220 (we (wdr (wg (ticB Ev Rl A) (capG (qg (ticB Ev Rl A)) ((qe (ticB Ev Rl A)).map (fun c => (c, qpl (ticB Ev Rl A) c))))) (qdr (ticB Ev Rl A) + 1)) [])))).toInt := (congrFun (zA_sAn eS_348 (ex3 (gQ_12_1217 hO_T_207.1 ha_x_L_208)) h_339 rfl) _).trans fw_250
                    have zR_569 : zA S_510 x 1217 a1_z.toNat = ((qtk (folF Ev dn_220 (we (wdr (wg (ticB Ev Rl A) (capG (qg (ticB Ev Rl A)) ((qe (ticB Ev Rl A)).map (fun c => (c, qpl (ticB Ev Rl A) c))))) (qdr (ticB Ev Rl A) + 1)) [])))).toInt := (congrFun (zA_fr hk_511.fr t_368 (ex3 (gQ_12_1217 hO_349.1 t_368)) (by decide +kernel) (by decide +kernel)) _).trans zR_568
                    have zR_570 : zA S_532 x 1217 a1_z.toNat = ((qtk (folF Ev dn_220 (we (wdr (wg (ticB Ev Rl A) (capG (qg (ticB Ev Rl A)) ((qe (ticB Ev Rl A)).map (fun c => (c, qpl (ticB Ev Rl A) c))))) (qdr (ticB Ev Rl A) + 1)) [])))).toInt := (congrFun (zA_sAn eS_532 (ex3 (gQ_12_1217 hO_512.1 t_540)) t_530 rfl) _).trans zR_569
                    have gR_571 : zA S_348 x 1237 a1_z.toNat = (((qg (folF Ev dn_220 (we (wdr (wg (ticB Ev Rl A) (capG (qg (ticB Ev Rl A)) ((qe (ticB Ev Rl A)).map (fun c => (c, qpl (ticB Ev Rl A) c))))) (qdr (ticB Ev Rl A) + 1)) [])))).length : Int) := (congrFun (zA_sAn eS_348 (ex3 (gQ_12_1237 hO_T_207.1 ha_x_L_208)) h_339 rfl) _).trans fw_251
                    have gR_572 : zA S_510 x 1237 a1_z.toNat = (((qg (folF Ev dn_220 (we (wdr (wg (ticB Ev Rl A) (capG (qg (ticB Ev Rl A)) ((qe (ticB Ev Rl A)).map (fun c => (c, qpl (ticB Ev Rl A) c))))) (qdr (ticB Ev Rl A) + 1)) [])))).length : Int) := (congrFun (zA_fr hk_511.fr t_368 (ex3 (gQ_12_1237 hO_349.1 t_368)) (by decide +kernel) (by decide +kernel)) _).trans gR_571
                    have gR_573 : zA S_532 x 1237 a1_z.toNat = (((qg (folF Ev dn_220 (we (wdr (wg (ticB Ev Rl A) (capG (qg (ticB Ev Rl A)) ((qe (ticB Ev Rl A)).map (fun c => (c, qpl (ticB Ev Rl A) c))))) (qdr (ticB Ev Rl A) + 1)) [])))).length : Int) := (congrFun (zA_sAn eS_532 (ex3 (gQ_12_1237 hO_512.1 t_540)) t_530 rfl) _).trans gR_572
                    have pz_574 : PlZ S_348 x (fuI (qpl (folF Ev dn_220 (we (wdr (wg (ticB Ev Rl A) (capG (qg (ticB Ev Rl A)) ((qe (ticB Ev Rl A)).map (fun c => (c, qpl (ticB Ev Rl A) c))))) (qdr (ticB Ev Rl A) + 1)) []))) c_330 (qpl (folF Ev dn_220 (we (wdr (wg (ticB Ev Rl A) (capG (qg (ticB Ev Rl A)) ((qe (ticB Ev Rl A)).map (fun c => (c, qpl (ticB Ev Rl A) c))))) (qdr (ticB Ev Rl A) + 1)) [])) c_330 + 1)) (qsd (folF Ev dn_220 (we (wdr (wg (ticB Ev Rl A) (capG (qg (ticB Ev Rl A)) ((qe (ticB Ev Rl A)).map (fun c => (c, qpl (ticB Ev Rl A) c))))) (qdr (ticB Ev Rl A) + 1)) []))) := PlZ_8 fw_246 (zA_sAn eS_348 (ex3 (gQ_12_1207 hO_T_207.1 ha_x_L_208)) h_339 rfl) zs_364 (by omega) (z_347.symm.trans (congrArg Int32.toInt (ev_346.trans (by rw [up_345]))))
                    have pz_575 : PlZ S_510 x (fuI (qpl (folF Ev dn_220 (we (wdr (wg (ticB Ev Rl A) (capG (qg (ticB Ev Rl A)) ((qe (ticB Ev Rl A)).map (fun c => (c, qpl (ticB Ev Rl A) c))))) (qdr (ticB Ev Rl A) + 1)) []))) c_330 (qpl (folF Ev dn_220 (we (wdr (wg (ticB Ev Rl A) (capG (qg (ticB Ev Rl A)) ((qe (ticB Ev Rl A)).map (fun c => (c, qpl (ticB Ev Rl A) c))))) (qdr (ticB Ev Rl A) + 1)) [])) c_330 + 1)) (qsd (folF Ev dn_220 (we (wdr (wg (ticB Ev Rl A) (capG (qg (ticB Ev Rl A)) ((qe (ticB Ev Rl A)).map (fun c => (c, qpl (ticB Ev Rl A) c))))) (qdr (ticB Ev Rl A) + 1)) []))) := PlZ_eq pz_574 (zA_fr hk_511.fr t_368 (ex3 (gQ_12_1208 hO_349.1 t_368)) (by decide +kernel) (by decide +kernel)) (zA_fr hk_511.fr t_368 (ex3 (gQ_12_1207 hO_349.1 t_368)) (by decide +kernel) (by decide +kernel))
                    have pz_576 : PlZ S_532 x (fuI (qpl (folF Ev dn_220 (we (wdr (wg (ticB Ev Rl A) (capG (qg (ticB Ev Rl A)) ((qe (ticB Ev Rl A)).map (fun c => (c, qpl (ticB Ev Rl A) c))))) (qdr (ticB Ev Rl A) + 1)) []))) c_330 (qpl (folF Ev dn_220 (we (wdr (wg (ticB Ev Rl A) (capG (qg (ticB Ev Rl A)) ((qe (ticB Ev Rl A)).map (fun c => (c, qpl (ticB Ev Rl A) c))))) (qdr (ticB Ev Rl A) + 1)) [])) c_330 + 1)) (fuI (qsd (folF Ev dn_220 (we (wdr (wg (ticB Ev Rl A) (capG (qg (ticB Ev Rl A)) ((qe (ticB Ev Rl A)).map (fun c => (c, qpl (ticB Ev Rl A) c))))) (qdr (ticB Ev Rl A) + 1)) []))) c_330 4) := PlZ_7 pz_575 (zA_sAn eS_532 (ex3 (gQ_12_1208 hO_512.1 t_540)) t_530 rfl) zs_544 (by omega) (by decide)
                    have t_577 : pI S_348 1238 x = v_236 := tI_sA eS_348 ev_236
                    have t_578 : pI S_510 1238 x = v_236 := hk_511.fr.I' (by decide +kernel) t_368 t_577
                    have t_579 : pI S_532 1238 x = v_236 := tI_sA eS_532 t_578
                    have pz_580 : (pI S_532 1238 x).toInt = v_236.toInt := (congrArg Int32.toInt t_579).trans rfl
                    have px_581 : PwX S S_348 x a1_z := PwX_to iv_214 (zA_sAn eS_348 (ex3 (gQ_12_1218 hO_T_207.1 ha_x_L_208)) h_339 rfl) (zA_sAn eS_348 (ex3 (gQ_12_1219 hO_T_207.1 ha_x_L_208)) h_339 rfl) (pw5 (zA_sAn eS_348 (ex3 (gQ_12_1214 hO_T_207.1 ha_x_L_208)) h_339 rfl) (zA_sAn eS_348 (ex3 (gQ_12_1215 hO_T_207.1 ha_x_L_208)) h_339 rfl) (zA_sAn eS_348 (ex3 (gQ_12_1216 hO_T_207.1 ha_x_L_208)) h_339 rfl) (zA_sAn eS_348 (ex3 (gQ_12_1217 hO_T_207.1 ha_x_L_208)) h_339 rfl) (zA_sAn eS_348 (ex3 (gQ_12_1237 hO_T_207.1 ha_x_L_208)) h_339 rfl))
                    have px_582 : PwX S S_510 x a1_z := PwX_go px_581 hO_349.1 t_368 (by omega) g_521 (pw5 (zA_fr hk_511.fr t_368 (ex3 (gQ_12_1214 hO_349.1 t_368)) (by decide +kernel) (by decide +kernel)) (zA_fr hk_511.fr t_368 (ex3 (gQ_12_1215 hO_349.1 t_368)) (by decide +kernel) (by decide +kernel)) (zA_fr hk_511.fr t_368 (ex3 (gQ_12_1216 hO_349.1 t_368)) (by decide +kernel) (by decide +kernel)) (zA_fr hk_511.fr t_368 (ex3 (gQ_12_1217 hO_349.1 t_368)) (by decide +kernel) (by decide +kernel)) (zA_fr hk_511.fr t_368 (ex3 (gQ_12_1237 hO_349.1 t_368)) (by decide +kernel) (by decide +kernel)))
                    have px_583 : PwX S S_532 x a1_z := PwX_to px_582 (zA_sAn eS_532 (ex3 (gQ_12_1218 hO_512.1 t_540)) t_530 rfl) (zA_sAn eS_532 (ex3 (gQ_12_1219 hO_512.1 t_540)) t_530 rfl) (pw5 (zA_sAn eS_532 (ex3 (gQ_12_1214 hO_512.1 t_540)) t_530 rfl) (zA_sAn eS_532 (ex3 (gQ_12_1215 hO_512.1 t_540)) t_530 rfl) (zA_sAn eS_532 (ex3 (gQ_12_1216 hO_512.1 t_540)) t_530 rfl) (zA_sAn eS_532 (ex3 (gQ_12_1217 hO_512.1 t_540)) t_530 rfl) (zA_sAn eS_532 (ex3 (gQ_12_1237 hO_512.1 t_540)) t_530 rfl))
                    have t_584 : pI S_532 1201 x = v_1 := tI_sA eS_532 t_527
                    exact ih_L_205 _ (by omega) _ _ _ _ (i4_206) (i4_206_z) rfl hw hz_i4_206 (by omega) t_549 hO_533 zc_552 mi_541 zm_548 ⟨dn_220 ++ [c_330], t_331, (by rw [List.append_assoc]; exact (by rw [ed_222, er_332]; rfl)), (by rw [show we (folF Ev (dn_220 ++ [c_330]) (we (wdr (wg (ticB Ev Rl A) (capG (qg (ticB Ev Rl A)) ((qe (ticB Ev Rl A)).map (fun c => (c, qpl (ticB Ev Rl A) c))))) (qdr (ticB Ev Rl A) + 1)) [])) (qe (folF Ev (dn_220 ++ [c_330]) (we (wdr (wg (ticB Ev Rl A) (capG (qg (ticB Ev Rl A)) ((qe (ticB Ev Rl A)).map (fun c => (c, qpl (ticB Ev Rl A) c))))) (qdr (ticB Ev Rl A) + 1)) [])) ++ t_331) = (we (wsd (wpl (folF Ev dn_220 (we (wdr (wg (ticB Ev Rl A) (capG (qg (ticB Ev Rl A)) ((qe (ticB Ev Rl A)).map (fun c => (c, qpl (ticB Ev Rl A) c))))) (qdr (ticB Ev Rl A) + 1)) [])) (fuI (qpl (folF Ev dn_220 (we (wdr (wg (ticB Ev Rl A) (capG (qg (ticB Ev Rl A)) ((qe (ticB Ev Rl A)).map (fun c => (c, qpl (ticB Ev Rl A) c))))) (qdr (ticB Ev Rl A) + 1)) []))) c_330 (qpl (folF Ev dn_220 (we (wdr (wg (ticB Ev Rl A) (capG (qg (ticB Ev Rl A)) ((qe (ticB Ev Rl A)).map (fun c => (c, qpl (ticB Ev Rl A) c))))) (qdr (ticB Ev Rl A) + 1)) [])) c_330 + 1))) (fuI (qsd (folF Ev dn_220 (we (wdr (wg (ticB Ev Rl A) (capG (qg (ticB Ev Rl A)) ((qe (ticB Ev Rl A)).map (fun c => (c, qpl (ticB Ev Rl A) c))))) (qdr (ticB Ev Rl A) + 1)) []))) c_330 (sdV Ev (folF Ev dn_220 (we (wdr (wg (ticB Ev Rl A) (capG (qg (ticB Ev Rl A)) ((qe (ticB Ev Rl A)).map (fun c => (c, qpl (ticB Ev Rl A) c))))) (qdr (ticB Ev Rl A) + 1)) [])) c_330))) (qe (folF Ev dn_220 (we (wdr (wg (ticB Ev Rl A) (capG (qg (ticB Ev Rl A)) ((qe (ticB Ev Rl A)).map (fun c => (c, qpl (ticB Ev Rl A) c))))) (qdr (ticB Ev Rl A) + 1)) [])) ++ t_331)) by rw [fol_s, endK_n (by rw [s4_500]; decide) (by rw [s4_500]; decide)]; rfl]; exact PotW_of (rfl : (we (wsd (wpl (folF Ev dn_220 (we (wdr (wg (ticB Ev Rl A) (capG (qg (ticB Ev Rl A)) ((qe (ticB Ev Rl A)).map (fun c => (c, qpl (ticB Ev Rl A) c))))) (qdr (ticB Ev Rl A) + 1)) [])) (fuI (qpl (folF Ev dn_220 (we (wdr (wg (ticB Ev Rl A) (capG (qg (ticB Ev Rl A)) ((qe (ticB Ev Rl A)).map (fun c => (c, qpl (ticB Ev Rl A) c))))) (qdr (ticB Ev Rl A) + 1)) []))) c_330 (qpl (folF Ev dn_220 (we (wdr (wg (ticB Ev Rl A) (capG (qg (ticB Ev Rl A)) ((qe (ticB Ev Rl A)).map (fun c => (c, qpl (ticB Ev Rl A) c))))) (qdr (ticB Ev Rl A) + 1)) [])) c_330 + 1))) (fuI (qsd (folF Ev dn_220 (we (wdr (wg (ticB Ev Rl A) (capG (qg (ticB Ev Rl A)) ((qe (ticB Ev Rl A)).map (fun c => (c, qpl (ticB Ev Rl A) c))))) (qdr (ticB Ev Rl A) + 1)) []))) c_330 (sdV Ev (folF Ev dn_220 (we (wdr (wg (ticB Ev Rl A) (capG (qg (ticB Ev Rl A)) ((qe (ticB Ev Rl A)).map (fun c => (c, qpl (ticB Ev Rl A) c))))) (qdr (ticB Ev Rl A) + 1)) [])) c_330))) (qe (folF Ev dn_220 (we (wdr (wg (ticB Ev Rl A) (capG (qg (ticB Ev Rl A)) ((qe (ticB Ev Rl A)).map (fun c => (c, qpl (ticB Ev Rl A) c))))) (qdr (ticB Ev Rl A) + 1)) [])) ++ t_331)) = (we (wsd (wpl (folF Ev dn_220 (we (wdr (wg (ticB Ev Rl A) (capG (qg (ticB Ev Rl A)) ((qe (ticB Ev Rl A)).map (fun c => (c, qpl (ticB Ev Rl A) c))))) (qdr (ticB Ev Rl A) + 1)) [])) (fuI (qpl (folF Ev dn_220 (we (wdr (wg (ticB Ev Rl A) (capG (qg (ticB Ev Rl A)) ((qe (ticB Ev Rl A)).map (fun c => (c, qpl (ticB Ev Rl A) c))))) (qdr (ticB Ev Rl A) + 1)) []))) c_330 (qpl (folF Ev dn_220 (we (wdr (wg (ticB Ev Rl A) (capG (qg (ticB Ev Rl A)) ((qe (ticB Ev Rl A)).map (fun c => (c, qpl (ticB Ev Rl A) c))))) (qdr (ticB Ev Rl A) + 1)) [])) c_330 + 1))) (fuI (qsd (folF Ev dn_220 (we (wdr (wg (ticB Ev Rl A) (capG (qg (ticB Ev Rl A)) ((qe (ticB Ev Rl A)).map (fun c => (c, qpl (ticB Ev Rl A) c))))) (qdr (ticB Ev Rl A) + 1)) []))) c_330 (sdV Ev (folF Ev dn_220 (we (wdr (wg (ticB Ev Rl A) (capG (qg (ticB Ev Rl A)) ((qe (ticB Ev Rl A)).map (fun c => (c, qpl (ticB Ev Rl A) c))))) (qdr (ticB Ev Rl A) + 1)) [])) c_330))) (qe (folF Ev dn_220 (we (wdr (wg (ticB Ev Rl A) (capG (qg (ticB Ev Rl A)) ((qe (ticB Ev Rl A)).map (fun c => (c, qpl (ticB Ev Rl A) c))))) (qdr (ticB Ev Rl A) + 1)) [])) ++ t_331))) rR_554 (show RowR S_532 x (3 * a1_z + 1).toNat (qe (folF Ev dn_220 (we (wdr (wg (ticB Ev Rl A) (capG (qg (ticB Ev Rl A)) ((qe (ticB Ev Rl A)).map (fun c => (c, qpl (ticB Ev Rl A) c))))) (qdr (ticB Ev Rl A) + 1)) [])) ++ t_331) by rw [show (qe (folF Ev dn_220 (we (wdr (wg (ticB Ev Rl A) (capG (qg (ticB Ev Rl A)) ((qe (ticB Ev Rl A)).map (fun c => (c, qpl (ticB Ev Rl A) c))))) (qdr (ticB Ev Rl A) + 1)) [])) ++ t_331) = ((qe (folF Ev dn_220 (we (wdr (wg (ticB Ev Rl A) (capG (qg (ticB Ev Rl A)) ((qe (ticB Ev Rl A)).map (fun c => (c, qpl (ticB Ev Rl A) c))))) (qdr (ticB Ev Rl A) + 1)) [])) ++ rs_221).eraseIdx (i4_206_z).toNat) from (by rw [er_332, show ((i4_206_z : Int)).toNat = (qe (folF Ev dn_220 (we (wdr (wg (ticB Ev Rl A) (capG (qg (ticB Ev Rl A)) ((qe (ticB Ev Rl A)).map (fun c => (c, qpl (ticB Ev Rl A) c))))) (qdr (ticB Ev Rl A) + 1)) []))).length by omega]; exact er_app.symm)]; exact rR_556) rR_558 zR_561 zR_564 gR_573 zR_567 zR_570 (show (pI S_532 1238 x).toInt = (((qsk (folF Ev dn_220 (we (wdr (wg (ticB Ev Rl A) (capG (qg (ticB Ev Rl A)) ((qe (ticB Ev Rl A)).map (fun c => (c, qpl (ticB Ev Rl A) c))))) (qdr (ticB Ev Rl A) + 1)) [])))).length : Int) by omega) (show PlZ S_532 x (fuI (qpl (folF Ev dn_220 (we (wdr (wg (ticB Ev Rl A) (capG (qg (ticB Ev Rl A)) ((qe (ticB Ev Rl A)).map (fun c => (c, qpl (ticB Ev Rl A) c))))) (qdr (ticB Ev Rl A) + 1)) []))) c_330 (qpl (folF Ev dn_220 (we (wdr (wg (ticB Ev Rl A) (capG (qg (ticB Ev Rl A)) ((qe (ticB Ev Rl A)).map (fun c => (c, qpl (ticB Ev Rl A) c))))) (qdr (ticB Ev Rl A) + 1)) [])) c_330 + 1)) (fuI (qsd (folF Ev dn_220 (we (wdr (wg (ticB Ev Rl A) (capG (qg (ticB Ev Rl A)) ((qe (ticB Ev Rl A)).map (fun c => (c, qpl (ticB Ev Rl A) c))))) (qdr (ticB Ev Rl A) + 1)) []))) c_330 (sdV Ev (folF Ev dn_220 (we (wdr (wg (ticB Ev Rl A) (capG (qg (ticB Ev Rl A)) ((qe (ticB Ev Rl A)).map (fun c => (c, qpl (ticB Ev Rl A) c))))) (qdr (ticB Ev Rl A) + 1)) [])) c_330)) by rw [s4_500]; exact pz_576)), (by rw [fol_s, endK_n (by rw [s4_500]; decide) (by rw [s4_500]; decide)]; show _ = ((qe (folF Ev dn_220 (we (wdr (wg (ticB Ev Rl A) (capG (qg (ticB Ev Rl A)) ((qe (ticB Ev Rl A)).map (fun c => (c, qpl (ticB Ev Rl A) c))))) (qdr (ticB Ev Rl A) + 1)) []))).length : Int); omega)⟩ px_583 t_584 (lv_sub hl [1, 2, 3, 4, 5] rfl)
              have t_585 : At S_199 x 12 := tAt_sA eS_199 t_187
              have mi_586 : MIe S_175 x (-1) := MIe_37 mk_137 hO_T_131.1 ha_x_L_132 h_165 eS_175
              have mi_587 : MIe S_199 x (-1) := MIe_sA mi_586 hO_176.1 t_187 h_190 eS_199 (by decide +kernel)
              have zm_588 : ZM S S_175 x := ZM_eq iv_138 (zA_sAn eS_175 (ex3 (gQ_12_1207 hO_T_131.1 ha_x_L_132)) h_165 rfl)
              have zm_589 : ZM S S_199 x := ZM_eq zm_588 (zA_sAn eS_199 (ex3 (gQ_12_1207 hO_176.1 t_187)) h_190 rfl)
              have rR_590 : RowR S_175 x (3 * a1_z + 0).toNat (qb (ticB Ev Rl A)) := RowR_eq pw_146 (zA_sAn eS_175 (ex3 (gQ_12_1218 hO_T_131.1 ha_x_L_132)) h_165 rfl) (zA_sAn eS_175 (ex3 (gQ_12_1219 hO_T_131.1 ha_x_L_132)) h_165 rfl)
              have rR_591 : RowR S_199 x (3 * a1_z + 0).toNat (qb (ticB Ev Rl A)) := RowR_eq rR_590 (zA_sAn eS_199 (ex3 (gQ_12_1218 hO_176.1 t_187)) h_190 rfl) (zA_sAn eS_199 (ex3 (gQ_12_1219 hO_176.1 t_187)) h_190 rfl)
              have rR_592 : RowR S_175 x (3 * a1_z + 1).toNat (qe (ticB Ev Rl A)) := RowR_eq pw_147 (zA_sAn eS_175 (ex3 (gQ_12_1218 hO_T_131.1 ha_x_L_132)) h_165 rfl) (zA_sAn eS_175 (ex3 (gQ_12_1219 hO_T_131.1 ha_x_L_132)) h_165 rfl)
              have rR_593 : RowR S_199 x (3 * a1_z + 1).toNat (qe (ticB Ev Rl A)) := RowR_eq rR_592 (zA_sAn eS_199 (ex3 (gQ_12_1218 hO_176.1 t_187)) h_190 rfl) (zA_sAn eS_199 (ex3 (gQ_12_1219 hO_176.1 t_187)) h_190 rfl)
              have rR_594 : RowR S_175 x (3 * a1_z + 2).toNat (ql (ticB Ev Rl A)) := RowR_eq pw_148 (zA_sAn eS_175 (ex3 (gQ_12_1218 hO_T_131.1 ha_x_L_132)) h_165 rfl) (zA_sAn eS_175 (ex3 (gQ_12_1219 hO_T_131.1 ha_x_L_132)) h_165 rfl)
              have rR_595 : RowR S_199 x (3 * a1_z + 2).toNat (ql (ticB Ev Rl A)) := RowR_eq rR_594 (zA_sAn eS_199 (ex3 (gQ_12_1218 hO_176.1 t_187)) h_190 rfl) (zA_sAn eS_199 (ex3 (gQ_12_1219 hO_176.1 t_187)) h_190 rfl)
              have zR_596 : zA S_175 x 1215 a1_z.toNat = ((qst (ticB Ev Rl A))).toInt := (congrFun (zA_sAn eS_175 (ex3 (gQ_12_1215 hO_T_131.1 ha_x_L_132)) h_165 rfl) _).trans pw_149
              have zR_597 : zA S_199 x 1215 a1_z.toNat = ((qst (ticB Ev Rl A))).toInt := (congrFun (zA_sAn eS_199 (ex3 (gQ_12_1215 hO_176.1 t_187)) h_190 rfl) _).trans zR_596
              have zR_598 : zA S_175 x 1214 a1_z.toNat = ((qse (ticB Ev Rl A))).toInt := (congrFun (zA_sAn eS_175 (ex3 (gQ_12_1214 hO_T_131.1 ha_x_L_132)) h_165 rfl) _).trans pw_150
              have zR_599 : zA S_199 x 1214 a1_z.toNat = ((qse (ticB Ev Rl A))).toInt := (congrFun (zA_sAn eS_199 (ex3 (gQ_12_1214 hO_176.1 t_187)) h_190 rfl) _).trans zR_598
              have zR_600 : zA S_199 x 1216 a1_z.toNat = ((qdr (ticB Ev Rl A) + 1)).toInt := (by rw [zs_203, if_pos (by omega)]; exact (congrArg Int32.toInt (ev_197.trans (by rw [us_196]))))
              have zR_601 : zA S_175 x 1217 a1_z.toNat = ((qtk (ticB Ev Rl A))).toInt := (congrFun (zA_sAn eS_175 (ex3 (gQ_12_1217 hO_T_131.1 ha_x_L_132)) h_165 rfl) _).trans pw_153
              have zR_602 : zA S_199 x 1217 a1_z.toNat = ((qtk (ticB Ev Rl A))).toInt := (congrFun (zA_sAn eS_199 (ex3 (gQ_12_1217 hO_176.1 t_187)) h_190 rfl) _).trans zR_601
              have gR_603 : zA S_175 x 1237 a1_z.toNat = (((capG (qg (ticB Ev Rl A)) ((qe (ticB Ev Rl A)).map (fun c => (c, qpl (ticB Ev Rl A) c))))).length : Int) := (by rw [zs_185, if_pos (by omega), capG_y (by omega)]; omega)
              have gR_604 : zA S_199 x 1237 a1_z.toNat = (((capG (qg (ticB Ev Rl A)) ((qe (ticB Ev Rl A)).map (fun c => (c, qpl (ticB Ev Rl A) c))))).length : Int) := (congrFun (zA_sAn eS_199 (ex3 (gQ_12_1237 hO_176.1 t_187)) h_190 rfl) _).trans gR_603
              have pz_605 : PlZ S_175 x (qpl (ticB Ev Rl A)) (qsd (ticB Ev Rl A)) := PlZ_eq pw_155 (zA_sAn eS_175 (ex3 (gQ_12_1208 hO_T_131.1 ha_x_L_132)) h_165 rfl) (zA_sAn eS_175 (ex3 (gQ_12_1207 hO_T_131.1 ha_x_L_132)) h_165 rfl)
              have pz_606 : PlZ S_199 x (qpl (ticB Ev Rl A)) (qsd (ticB Ev Rl A)) := PlZ_eq pz_605 (zA_sAn eS_199 (ex3 (gQ_12_1208 hO_176.1 t_187)) h_190 rfl) (zA_sAn eS_199 (ex3 (gQ_12_1207 hO_176.1 t_187)) h_190 rfl)
              have t_607 : pI S_175 1238 x = v_156 := tI_sA eS_175 ev_156
              have t_608 : pI S_199 1238 x = v_156 := tI_sA eS_199 t_607
              have pz_609 : (pI S_199 1238 x).toInt = v_156.toInt := (congrArg Int32.toInt t_608).trans rfl
              have px_610 : PwX S S_175 x a1_z := PwX_z iv_140 (zA_sAn eS_175 (ex3 (gQ_12_1218 hO_T_131.1 ha_x_L_132)) h_165 rfl) (zA_sAn eS_175 (ex3 (gQ_12_1219 hO_T_131.1 ha_x_L_132)) h_165 rfl) zs_185 (by omega) (pw4 (fun _ => zA_sAn eS_175 (ex3 (gQ_12_1214 hO_T_131.1 ha_x_L_132)) h_165 rfl) (fun _ => zA_sAn eS_175 (ex3 (gQ_12_1215 hO_T_131.1 ha_x_L_132)) h_165 rfl) (fun _ => zA_sAn eS_175 (ex3 (gQ_12_1216 hO_T_131.1 ha_x_L_132)) h_165 rfl) (fun _ => zA_sAn eS_175 (ex3 (gQ_12_1217 hO_T_131.1 ha_x_L_132)) h_165 rfl) (fun h => absurd rfl h))
              have px_611 : PwX S S_199 x a1_z := PwX_z px_610 (zA_sAn eS_199 (ex3 (gQ_12_1218 hO_176.1 t_187)) h_190 rfl) (zA_sAn eS_199 (ex3 (gQ_12_1219 hO_176.1 t_187)) h_190 rfl) zs_203 (by omega) (pw4 (fun _ => zA_sAn eS_199 (ex3 (gQ_12_1214 hO_176.1 t_187)) h_190 rfl) (fun _ => zA_sAn eS_199 (ex3 (gQ_12_1215 hO_176.1 t_187)) h_190 rfl) (fun h => absurd rfl h) (fun _ => zA_sAn eS_199 (ex3 (gQ_12_1217 hO_176.1 t_187)) h_190 rfl) (fun _ => zA_sAn eS_199 (ex3 (gQ_12_1237 hO_176.1 t_187)) h_190 rfl))
              exact L_205 _ _ _ _ _ (0) (0) rfl hw ti_0 (by omega) t_585 hO_200 zc_209 mi_587 zm_589 ⟨[], qe (ticB Ev Rl A), rfl, PotW_of (show we (we (wdr (wg (ticB Ev Rl A) (capG (qg (ticB Ev Rl A)) ((qe (ticB Ev Rl A)).map (fun c => (c, qpl (ticB Ev Rl A) c))))) (qdr (ticB Ev Rl A) + 1)) []) ([] ++ qe (ticB Ev Rl A)) = (wdr (wg (ticB Ev Rl A) (capG (qg (ticB Ev Rl A)) ((qe (ticB Ev Rl A)).map (fun c => (c, qpl (ticB Ev Rl A) c))))) (qdr (ticB Ev Rl A) + 1)) from rfl) rR_591 rR_593 rR_595 zR_597 zR_599 gR_604 zR_600 zR_602 (show (pI S_199 1238 x).toInt = (((qsk (ticB Ev Rl A))).length : Int) by omega) pz_606, (by show (0 : Int) = ((0 : Nat) : Int); rfl)⟩ px_611 t_216 (lv_sub hl [0, 1, 2, 3, 4] rfl)
            · have z_b_612 := trivial
              have k_613 : i4_130_z < rr_98.toInt := z_nle rfl hz_i4_130 c_160
              have zz_614 := congrFun zk_134 (3 * a1_z + 1).toNat
              refine lv_aload_n X.1 X.2.1 dX12_tick_200 rfl (lv_at hl 3 rfl) ?_
              obtain ⟨q_615, h_616, h_617, h_618⟩ := gQ_12_1236 hO_T_131.1 ha_x_L_132
              refine r_getR (g := 1236) X hw ha_x_L_132 rfl 36 h_616 (by decide) rfl inn_X12_tick_12 (by decide) (X.2.2.2.1 (.fieldLink RX12 94 "SilkMillModel" "drawn" "[I") (by decide +kernel)) rfl (gv_1236 _ _) dX12_tick_201 ?_
              refine lv_bipush (v := 12) X.1 X.2.1 dX12_tick_204 (by decide) ?_
              refine lv_iload_n X.1 X.2.1 dX12_tick_206 rfl (lv_at hl 1 rfl) ?_
              refine lv_imul X.1 X.2.1 dX12_tick_207 ?_
              refine lv_topi (fun v_619 ev_619 => ?_)
              have z_620 : v_619.toInt = 12 * (rr_109.toInt + v_116.toInt) := z_mul ev_619 ti_12 z_121 (by omega) (by omega)
              refine lv_iload X.1 X.2.1 dX12_tick_208 (lv_at hl 0 rfl) ?_
              refine lv_iadd X.1 X.2.1 dX12_tick_210 ?_
              refine lv_topi (fun v_621 ev_621 => ?_)
              have z_622 : v_621.toInt = (12 * (rr_109.toInt + v_116.toInt)) + i4_130_z := z_add ev_621 z_620 hz_i4_130 (by omega) (by omega)
              refine lv_sipush (v := 1000) X.1 X.2.1 dX12_tick_211 (by decide) ?_
              refine lv_aload_n X.1 X.2.1 dX12_tick_214 rfl (lv_at hl 3 rfl) ?_
              refine lv_iload_n X.1 X.2.1 dX12_tick_215 rfl (lv_at hl 4 rfl) ?_
              refine lv_iconst (v := 1) X.1 X.2.1 dX12_tick_216 (by decide) ?_
              refine lv_iload X.1 X.2.1 dX12_tick_217 (lv_at hl 0 rfl) ?_
              refine k_i (rm := { frames := 1, cells := 0, slots := 0, locals := 48 }) (av := [.ref x, .int (a1), .int 1, .int (i4_130)]) X hw (va_runV (As := [.int (a1), .int 1, .int (i4_130)]) (rest := [.int 1000, .int (v_621), .ref q_615]) (cfix X) (k_X12_at2 l G cy κ T_131 _ x (a1) (a1_z) (1) (1) (i4_130) (i4_130_z) hO_T_131.1 ha_x_L_132 hz_a1 ti_1 hz_i4_130 (by first | assumption | omega) (by first | assumption | omega) (by first | assumption | omega) (by first | assumption | omega) (by first | assumption | omega) (by first | assumption | omega)) (cwV 3 X.2.2.2.1 gX12_tick_X12_at rfl rfl rfl (by decide +kernel) ⟨Nat.le_of_ble_eq_true rfl, Nat.le_of_ble_eq_true rfl⟩) (pre_V X hw _ ha_x_L_132 rfl (by decide) rfl) rfl rfl hl.1 rfl (lv_room (Nat.le_of_ble_eq_true rfl)) dX12_tick_219 ⟨Nat.le_of_ble_eq_true rfl, Nat.le_of_ble_eq_true rfl⟩) 0 0 (Nat.le_of_ble_eq_true rfl) (Nat.le_of_ble_eq_true rfl) (fun rr_623 S_624 H locs hp hw hfr hnw => ?_)
              obtain ⟨e2, hp⟩ := hp
              subst e2
              obtain ⟨f_625, f_626, f_627⟩ := hp
              refine lv_imul X.1 X.2.1 dX12_tick_222 ?_
              refine lv_topi (fun v_628 ev_628 => ?_)
              have z_629 : v_628.toInt = 1000 * rr_623.toInt := z_mul ev_628 ti_1000 rfl (by omega) (by omega)
              refine lv_aload_n X.1 X.2.1 dX12_tick_223 rfl (lv_at hl 3 rfl) ?_
              obtain ⟨q_630, h_631, h_632, h_633⟩ := gQ_12_1208 hO_T_131.1 ha_x_L_132
              refine r_getR (g := 1208) X hw ha_x_L_132 rfl 8 h_631 (by decide) rfl inn_X12_tick_12 (by decide) (X.2.2.2.1 (.fieldLink RX12 28 "SilkMillModel" "place" "[I") (by decide +kernel)) rfl (gv_1208 _ _) dX12_tick_224 ?_
              refine lv_aload_n X.1 X.2.1 dX12_tick_227 rfl (lv_at hl 3 rfl) ?_
              refine lv_iload_n X.1 X.2.1 dX12_tick_228 rfl (lv_at hl 4 rfl) ?_
              refine lv_iconst (v := 1) X.1 X.2.1 dX12_tick_229 (by decide) ?_
              refine lv_iload X.1 X.2.1 dX12_tick_230 (lv_at hl 0 rfl) ?_
              refine k_i (rm := { frames := 1, cells := 0, slots := 0, locals := 48 }) (av := [.ref x, .int (a1), .int 1, .int (i4_130)]) X hw (va_runV (As := [.int (a1), .int 1, .int (i4_130)]) (rest := [.ref q_630, .int (v_628), .int (v_621), .ref q_615]) (cfix X) (k_X12_at2 l G cy κ T_131 _ x (a1) (a1_z) (1) (1) (i4_130) (i4_130_z) hO_T_131.1 ha_x_L_132 hz_a1 ti_1 hz_i4_130 (by first | assumption | omega) (by first | assumption | omega) (by first | assumption | omega) (by first | assumption | omega) (by first | assumption | omega) (by first | assumption | omega)) (cwV 3 X.2.2.2.1 gX12_tick_X12_at rfl rfl rfl (by decide +kernel) ⟨Nat.le_of_ble_eq_true rfl, Nat.le_of_ble_eq_true rfl⟩) (pre_V X hw _ ha_x_L_132 rfl (by decide) rfl) rfl rfl hl.1 rfl (lv_room (Nat.le_of_ble_eq_true rfl)) dX12_tick_232 ⟨Nat.le_of_ble_eq_true rfl, Nat.le_of_ble_eq_true rfl⟩) 0 0 (Nat.le_of_ble_eq_true rfl) (Nat.le_of_ble_eq_true rfl) (fun rr_634 S_635 H locs hp hw hfr hnw => ?_)
              obtain ⟨e2, hp⟩ := hp
              subst e2
              obtain ⟨f_636, f_637, f_638⟩ := hp
              refine r_iald X hw h_632 rfl (by rw [h_633]; exact z_ix rfl (by omega) (by omega)) dX12_tick_235 ?_
              refine lv_topi (fun v_639 ev_639 => ?_)
              have z_640 := gE_374 hO_T_131.1 h_632 (Int32.toNatClampNeg (rr_634)); rw [← ev_639] at z_640
              have ev_639 := ev_639.symm
              have zf_641 : zA T_131 x 1208 (rr_634.toInt).toNat = v_639.toInt := (zA_of h_631 rfl (by omega) ev_639)
              have m8_642 := MI_alive mk_137 (c := rr_634.toInt) (r := 3 * a1_z + 1) (k := i4_130_z) (gI_12_1201 hO_T_131.1 ha_x_L_132).2 (by omega) (by omega) (by omega) (by omega) (by omega)
              have hh_643 : rr_634.toInt = rr_623.toInt := by omega
              rw [hh_643] at m8_642 zf_641
              rw [zf_641] at m8_642
              have lg_644 := lenZ_le hO_T_131.1 ha_x_L_132 (rr_623.toInt)
              have dk_645 : dOK T_131 x (1000 * rr_623.toInt + v_639.toInt) := dOK_new (by omega) (by omega) (by omega) (by omega) lg_644
              refine lv_iadd X.1 X.2.1 dX12_tick_236 ?_
              refine lv_topi (fun v_646 ev_646 => ?_)
              have z_647 : v_646.toInt = (1000 * rr_623.toInt) + v_639.toInt := z_add ev_646 z_629 rfl (by omega) (by omega)
              refine r_iast X hw h_617 rfl (by rw [h_618]; exact z_ix z_622 (by omega) (by omega)) dX12_tick_237 (fun H locs hw => ?_)
              obtain ⟨S_648, eS_648⟩ : ∃ T, T = sA T_131 q_615 (upd (pA T_131 q_615) (Int32.toNatClampNeg (v_621)) (v_646)) := ⟨_, rfl⟩
              rw [← eS_648] at hw
              have hO_649 : Ok MTK S S_648 := hO_T_131.sA eS_648 h_617 (by decide +kernel) (uA_934 hO_T_131.1 h_617 (by omega) (by omega))
              have h_650 : pA S_648 q_615 (Int32.toNatClampNeg (v_621)) = v_646 := tA_sAs eS_648
              have t_651 : pR S_648 1236 x = some q_615 := tR_sA eS_648 h_616
              have t_653 : pR T_131 1236 x = some q_615 := by have h := t_651; rw [eS_648, pR_sA] at h; exact h
              have zs_652 : ∀ j, zA S_648 x 1236 j = if j = (((12 * (rr_109.toInt + v_116.toInt)) + i4_130_z)).toNat then ((1000 * rr_623.toInt) + v_639.toInt) else zA T_131 x 1236 j := by have h := zA_sAs eS_648 t_653 z_647; rw [z_nc z_622 (by omega)] at h; exact h
              have mi_654 : MIe S_648 x (-1) := drawn_MI hO_T_131.1 ha_x_L_132 (show Fr [10934] T_131 S_648 by rw [eS_648]; exact Fr_sA h_617 List.mem_cons_self) mk_137 zs_652 dk_645
              clear zs_652
              obtain ⟨x_655, ex_655⟩ : ∃ y : Int32, y = i4_130 + 1 := ⟨_, rfl⟩
              have z_656 : x_655.toInt = i4_130_z + 1 := z_add ex_655 hz_i4_130 ti_1 (by omega) (by omega)
              refine lv_iinc (v := x_655) (lv' := [(4, .int (x_655)), (3, .int (v_120)), (2, .int (rr_98)), (0, .ref x), (1, .int (a1))]) X.1 X.2.1 dX12_tick_238 hl (k := 0) rfl (by rw [ex_655]; rfl) (by decide) rfl (fun ls hl => ?_)
              refine lv_goto (tgt := 194) X.1 X.2.1 dX12_tick_241 (by decide) ?_
              have t_657 : At S_648 x 12 := tAt_sA eS_648 ha_x_L_132
              have zc_658 : zA S_648 x 1219 = zA T_62 x 1219 := (zA_sAn eS_648 (ex3 (gQ_12_1219 hO_T_131.1 ha_x_L_132)) h_617 rfl).trans zk_134
              have zc_659 : zA S_648 x 1237 = zA T_62 x 1237 := (zA_sAn eS_648 (ex3 (gQ_12_1237 hO_T_131.1 ha_x_L_132)) h_617 rfl).trans zk_136
              have zm_660 : ZM S S_648 x := ZM_eq iv_138 (zA_sAn eS_648 (ex3 (gQ_12_1207 hO_T_131.1 ha_x_L_132)) h_617 rfl)
              have rR_661 : RowR S_648 x (3 * a1_z + 0).toNat (qb (ticB Ev Rl A)) := RowR_eq pw_146 (zA_sAn eS_648 (ex3 (gQ_12_1218 hO_T_131.1 ha_x_L_132)) h_617 rfl) (zA_sAn eS_648 (ex3 (gQ_12_1219 hO_T_131.1 ha_x_L_132)) h_617 rfl)
              have rR_662 : RowR S_648 x (3 * a1_z + 1).toNat (qe (ticB Ev Rl A)) := RowR_eq pw_147 (zA_sAn eS_648 (ex3 (gQ_12_1218 hO_T_131.1 ha_x_L_132)) h_617 rfl) (zA_sAn eS_648 (ex3 (gQ_12_1219 hO_T_131.1 ha_x_L_132)) h_617 rfl)
              have rR_663 : RowR S_648 x (3 * a1_z + 2).toNat (ql (ticB Ev Rl A)) := RowR_eq pw_148 (zA_sAn eS_648 (ex3 (gQ_12_1218 hO_T_131.1 ha_x_L_132)) h_617 rfl) (zA_sAn eS_648 (ex3 (gQ_12_1219 hO_T_131.1 ha_x_L_132)) h_617 rfl)
              have zR_664 : zA S_648 x 1215 a1_z.toNat = ((qst (ticB Ev Rl A))).toInt := (congrFun (zA_sAn eS_648 (ex3 (gQ_12_1215 hO_T_131.1 ha_x_L_132)) h_617 rfl) _).trans pw_149
              have zR_665 : zA S_648 x 1214 a1_z.toNat = ((qse (ticB Ev Rl A))).toInt := (congrFun (zA_sAn eS_648 (ex3 (gQ_12_1214 hO_T_131.1 ha_x_L_132)) h_617 rfl) _).trans pw_150
              have zR_666 : zA S_648 x 1216 a1_z.toNat = ((qdr (ticB Ev Rl A))).toInt := (congrFun (zA_sAn eS_648 (ex3 (gQ_12_1216 hO_T_131.1 ha_x_L_132)) h_617 rfl) _).trans pw_152
              have zR_667 : zA S_648 x 1217 a1_z.toNat = ((qtk (ticB Ev Rl A))).toInt := (congrFun (zA_sAn eS_648 (ex3 (gQ_12_1217 hO_T_131.1 ha_x_L_132)) h_617 rfl) _).trans pw_153
              have gR_668 : zA S_648 x 1237 a1_z.toNat = (((qg (ticB Ev Rl A))).length : Int) := (congrFun (zA_sAn eS_648 (ex3 (gQ_12_1237 hO_T_131.1 ha_x_L_132)) h_617 rfl) _).trans pw_151
              have pz_669 : PlZ S_648 x (qpl (ticB Ev Rl A)) (qsd (ticB Ev Rl A)) := PlZ_eq pw_155 (zA_sAn eS_648 (ex3 (gQ_12_1208 hO_T_131.1 ha_x_L_132)) h_617 rfl) (zA_sAn eS_648 (ex3 (gQ_12_1207 hO_T_131.1 ha_x_L_132)) h_617 rfl)
              have t_670 : pI S_648 1238 x = v_156 := tI_sA eS_648 ev_156
              have pz_671 : (pI S_648 1238 x).toInt = v_156.toInt := (congrArg Int32.toInt t_670).trans rfl
              have px_672 : PwX S S_648 x a1_z := PwX_to iv_140 (zA_sAn eS_648 (ex3 (gQ_12_1218 hO_T_131.1 ha_x_L_132)) h_617 rfl) (zA_sAn eS_648 (ex3 (gQ_12_1219 hO_T_131.1 ha_x_L_132)) h_617 rfl) (pw5 (zA_sAn eS_648 (ex3 (gQ_12_1214 hO_T_131.1 ha_x_L_132)) h_617 rfl) (zA_sAn eS_648 (ex3 (gQ_12_1215 hO_T_131.1 ha_x_L_132)) h_617 rfl) (zA_sAn eS_648 (ex3 (gQ_12_1216 hO_T_131.1 ha_x_L_132)) h_617 rfl) (zA_sAn eS_648 (ex3 (gQ_12_1217 hO_T_131.1 ha_x_L_132)) h_617 rfl) (zA_sAn eS_648 (ex3 (gQ_12_1237 hO_T_131.1 ha_x_L_132)) h_617 rfl))
              have t_673 : pI S_648 1201 x = v_1 := tI_sA eS_648 ik_142
              exact ih_L_129 _ (by omega) _ _ _ _ (x_655) (x_655.toInt) rfl hw rfl (by omega) t_657 hO_649 zc_658 zc_659 mi_654 zm_660 (PotW_of (rfl : (ticB Ev Rl A) = (ticB Ev Rl A)) rR_661 rR_662 rR_663 zR_664 zR_665 gR_668 zR_666 zR_667 (show (pI S_648 1238 x).toInt = (((qsk (ticB Ev Rl A))).length : Int) by omega) pz_669) px_672 t_673 (lv_sub hl [0, 1, 2, 3, 4] rfl)
          have t_674 : At S_126 x 12 := tAt_sA eS_126 ha_x_L_63
          have mi_675 : MIe S_126 x (-1) := MIe_sA mk_64 hO_T_62.1 ha_x_L_63 h_124 eS_126 (by decide +kernel)
          have zm_676 : ZM S S_126 x := ZM_eq iv_66 (zA_sAn eS_126 (ex3 (gQ_12_1207 hO_T_62.1 ha_x_L_63)) h_124 rfl)
          have rR_677 : RowR S_126 x (3 * a1_z + 0).toNat (qb (ticB Ev Rl A)) := RowR_eq pw_72 (zA_sAn eS_126 (ex3 (gQ_12_1218 hO_T_62.1 ha_x_L_63)) h_124 rfl) (zA_sAn eS_126 (ex3 (gQ_12_1219 hO_T_62.1 ha_x_L_63)) h_124 rfl)
          have rR_678 : RowR S_126 x (3 * a1_z + 1).toNat (qe (ticB Ev Rl A)) := RowR_eq pw_73 (zA_sAn eS_126 (ex3 (gQ_12_1218 hO_T_62.1 ha_x_L_63)) h_124 rfl) (zA_sAn eS_126 (ex3 (gQ_12_1219 hO_T_62.1 ha_x_L_63)) h_124 rfl)
          have rR_679 : RowR S_126 x (3 * a1_z + 2).toNat (ql (ticB Ev Rl A)) := RowR_eq pw_74 (zA_sAn eS_126 (ex3 (gQ_12_1218 hO_T_62.1 ha_x_L_63)) h_124 rfl) (zA_sAn eS_126 (ex3 (gQ_12_1219 hO_T_62.1 ha_x_L_63)) h_124 rfl)
          have zR_680 : zA S_126 x 1215 a1_z.toNat = ((qst (ticB Ev Rl A))).toInt := (congrFun (zA_sAn eS_126 (ex3 (gQ_12_1215 hO_T_62.1 ha_x_L_63)) h_124 rfl) _).trans pw_75
          have zR_681 : zA S_126 x 1214 a1_z.toNat = ((qse (ticB Ev Rl A))).toInt := (congrFun (zA_sAn eS_126 (ex3 (gQ_12_1214 hO_T_62.1 ha_x_L_63)) h_124 rfl) _).trans pw_76
          have zR_682 : zA S_126 x 1216 a1_z.toNat = ((qdr (ticB Ev Rl A))).toInt := (congrFun (zA_sAn eS_126 (ex3 (gQ_12_1216 hO_T_62.1 ha_x_L_63)) h_124 rfl) _).trans pw_78
          have zR_683 : zA S_126 x 1217 a1_z.toNat = ((qtk (ticB Ev Rl A))).toInt := (congrFun (zA_sAn eS_126 (ex3 (gQ_12_1217 hO_T_62.1 ha_x_L_63)) h_124 rfl) _).trans pw_79
          have gR_684 : zA S_126 x 1237 a1_z.toNat = (((qg (ticB Ev Rl A))).length : Int) := (congrFun (zA_sAn eS_126 (ex3 (gQ_12_1237 hO_T_62.1 ha_x_L_63)) h_124 rfl) _).trans pw_77
          have pz_685 : PlZ S_126 x (qpl (ticB Ev Rl A)) (qsd (ticB Ev Rl A)) := PlZ_eq pw_81 (zA_sAn eS_126 (ex3 (gQ_12_1208 hO_T_62.1 ha_x_L_63)) h_124 rfl) (zA_sAn eS_126 (ex3 (gQ_12_1207 hO_T_62.1 ha_x_L_63)) h_124 rfl)
          have t_686 : pI S_126 1238 x = v_82 := tI_sA eS_126 ev_82
          have pz_687 : (pI S_126 1238 x).toInt = v_82.toInt := (congrArg Int32.toInt t_686).trans rfl
          have px_688 : PwX S S_126 x a1_z := PwX_to iv_68 (zA_sAn eS_126 (ex3 (gQ_12_1218 hO_T_62.1 ha_x_L_63)) h_124 rfl) (zA_sAn eS_126 (ex3 (gQ_12_1219 hO_T_62.1 ha_x_L_63)) h_124 rfl) (pw5 (zA_sAn eS_126 (ex3 (gQ_12_1214 hO_T_62.1 ha_x_L_63)) h_124 rfl) (zA_sAn eS_126 (ex3 (gQ_12_1215 hO_T_62.1 ha_x_L_63)) h_124 rfl) (zA_sAn eS_126 (ex3 (gQ_12_1216 hO_T_62.1 ha_x_L_63)) h_124 rfl) (zA_sAn eS_126 (ex3 (gQ_12_1217 hO_T_62.1 ha_x_L_63)) h_124 rfl) (zA_sAn eS_126 (ex3 (gQ_12_1237 hO_T_62.1 ha_x_L_63)) h_124 rfl))
          exact L_129 _ _ _ _ _ (0) (0) rfl hw ti_0 (by omega) t_674 hO_127 zc_133 zc_135 mi_675 zm_676 (PotW_of (rfl : (ticB Ev Rl A) = (ticB Ev Rl A)) rR_677 rR_678 rR_679 zR_680 zR_681 gR_684 zR_682 zR_683 (show (pI S_126 1238 x).toInt = (((qsk (ticB Ev Rl A))).length : Int) by omega) pz_685) px_688 t_141 (lv_sub hl [0, 1, 2, 3, 4] rfl)
        · have z_b_689 := trivial
          have k_690 : rr_98.toInt = 0 := z_eq rfl ti_0 c_103
          refine lv_iconst (v := 0) X.1 X.2.1 dX12_tick_169 (by decide) ?_
          have pz_691 : (pI T_62 1238 x).toInt = v_82.toInt := (congrArg Int32.toInt ev_82).trans rfl
          rw [hQQ]
          exact ret_z X hw hr hlocks (Nat.le_of_ble_eq_true rfl) (Nat.le_of_ble_eq_true rfl) (by decide) ⟨hO_T_62, Or.inr ⟨⟨mk_64, iv_65, iv_66, PotW_of (show (ticF Ev Rl A).1 = (ticB Ev Rl A) by rw [ticF_0 (show ¬ 0 < (qst (ticB Ev Rl A)).toInt by have e9 := congrArg Int32.toInt us_93; have e : (v_90 : Int32).toInt = v_90.toInt := rfl; omega) (List.eq_nil_of_length_eq_zero (by have := pw_73.1; omega))]) pw_72 pw_73 pw_74 pw_75 pw_76 pw_77 pw_78 pw_79 (show (pI T_62 1238 x).toInt = (((qsk (ticB Ev Rl A))).length : Int) by omega) pw_81, iv_68, fun h => (by rw [ticF_0 (show ¬ 0 < (qst (ticB Ev Rl A)).toInt by have e9 := congrArg Int32.toInt us_93; have e : (v_90 : Int32).toInt = v_90.toInt := rfl; omega) (List.eq_nil_of_length_eq_zero (by have := pw_73.1; omega))] at h; exact h)⟩, rfl⟩⟩ dX12_tick_170
      · have z_b_692 := trivial
        have k_693 : v_90.toInt > 0 := z_nle rfl ti_0 c_94
        refine lv_aload_n X.1 X.2.1 dX12_tick_146 rfl (lv_at hl 0 rfl) ?_
        refine r_getR (g := 1215) X hw ha_x_L_63 rfl 15 h_87 (by decide) rfl inn_X12_tick_12 (by decide) (X.2.2.2.1 (.fieldLink RX12 46 "SilkMillModel" "stop" "[I") (by decide +kernel)) rfl (gv_1215 _ _) dX12_tick_147 ?_
        refine lv_iload_n X.1 X.2.1 dX12_tick_150 rfl (lv_at hl 1 rfl) ?_
        refine lv_dup2_11 X.1 X.2.1 dX12_tick_151 rfl rfl ?_
        refine r_iald X hw h_88 rfl (by rw [h_89]; exact z_ix hz_a1 (by omega) (by omega)) dX12_tick_152 ?_
        rw [ev_90]
        refine lv_iconst (v := 1) X.1 X.2.1 dX12_tick_153 (by decide) ?_
        refine lv_isub X.1 X.2.1 dX12_tick_154 ?_
        refine lv_topi (fun v_694 ev_694 => ?_)
        have z_695 : v_694.toInt = v_90.toInt - 1 := z_sub ev_694 rfl ti_1 (by omega) (by omega)
        refine r_iast X hw h_88 rfl (by rw [h_89]; exact z_ix hz_a1 (by omega) (by omega)) dX12_tick_155 (fun H locs hw => ?_)
        obtain ⟨S_696, eS_696⟩ : ∃ T, T = sA T_62 q_86 (upd (pA T_62 q_86) (Int32.toNatClampNeg (a1)) (v_694)) := ⟨_, rfl⟩
        rw [← eS_696] at hw
        have hO_697 : Ok MTK S S_696 := hO_T_62.sA eS_696 h_88 (by decide +kernel) (uA_514 hO_T_62.1 h_88)
        have h_698 : pA S_696 q_86 (Int32.toNatClampNeg (a1)) = v_694 := tA_sAs eS_696
        have t_699 : pR S_696 1215 x = some q_86 := tR_sA eS_696 h_87
        have t_701 : pR T_62 1215 x = some q_86 := by have h := t_699; rw [eS_696, pR_sA] at h; exact h
        have zs_700 : ∀ j, zA S_696 x 1215 j = if j = (a1_z).toNat then (v_90.toInt - 1) else zA T_62 x 1215 j := by have h := zA_sAs eS_696 t_701 z_695; rw [z_nc hz_a1 (by omega)] at h; exact h
        refine lv_iconst (v := 0) X.1 X.2.1 dX12_tick_156 (by decide) ?_
        have zm_702 : ZM S S_696 x := ZM_eq iv_66 (zA_sAn eS_696 (ex3 (gQ_12_1207 hO_T_62.1 ha_x_L_63)) h_88 rfl)
        have mi_703 : MIe S_696 x (-1) := MIe_sA mk_64 hO_T_62.1 ha_x_L_63 h_88 eS_696 (by decide +kernel)
        have zc_704 : zA S_696 x 1237 = zA T_62 x 1237 := zA_sAn eS_696 (ex3 (gQ_12_1237 hO_T_62.1 ha_x_L_63)) h_88 rfl
        have rR_705 : RowR S_696 x (3 * a1_z + 0).toNat (qb (ticB Ev Rl A)) := RowR_eq pw_72 (zA_sAn eS_696 (ex3 (gQ_12_1218 hO_T_62.1 ha_x_L_63)) h_88 rfl) (zA_sAn eS_696 (ex3 (gQ_12_1219 hO_T_62.1 ha_x_L_63)) h_88 rfl)
        have rR_706 : RowR S_696 x (3 * a1_z + 1).toNat (qe (ticB Ev Rl A)) := RowR_eq pw_73 (zA_sAn eS_696 (ex3 (gQ_12_1218 hO_T_62.1 ha_x_L_63)) h_88 rfl) (zA_sAn eS_696 (ex3 (gQ_12_1219 hO_T_62.1 ha_x_L_63)) h_88 rfl)
        have rR_707 : RowR S_696 x (3 * a1_z + 2).toNat (ql (ticB Ev Rl A)) := RowR_eq pw_74 (zA_sAn eS_696 (ex3 (gQ_12_1218 hO_T_62.1 ha_x_L_63)) h_88 rfl) (zA_sAn eS_696 (ex3 (gQ_12_1219 hO_T_62.1 ha_x_L_63)) h_88 rfl)
        have zR_708 : zA S_696 x 1215 a1_z.toNat = ((qst (ticB Ev Rl A) - 1)).toInt := (by rw [zs_700, if_pos (by omega)]; exact z_695.symm.trans (congrArg Int32.toInt (ev_694.trans (by rw [us_93]))))
        have zR_709 : zA S_696 x 1214 a1_z.toNat = ((qse (ticB Ev Rl A))).toInt := (congrFun (zA_sAn eS_696 (ex3 (gQ_12_1214 hO_T_62.1 ha_x_L_63)) h_88 rfl) _).trans pw_76
        have zR_710 : zA S_696 x 1216 a1_z.toNat = ((qdr (ticB Ev Rl A))).toInt := (congrFun (zA_sAn eS_696 (ex3 (gQ_12_1216 hO_T_62.1 ha_x_L_63)) h_88 rfl) _).trans pw_78
        have zR_711 : zA S_696 x 1217 a1_z.toNat = ((qtk (ticB Ev Rl A))).toInt := (congrFun (zA_sAn eS_696 (ex3 (gQ_12_1217 hO_T_62.1 ha_x_L_63)) h_88 rfl) _).trans pw_79
        have gR_712 : zA S_696 x 1237 a1_z.toNat = (((qg (ticB Ev Rl A))).length : Int) := (congrFun (zA_sAn eS_696 (ex3 (gQ_12_1237 hO_T_62.1 ha_x_L_63)) h_88 rfl) _).trans pw_77
        have pz_713 : PlZ S_696 x (qpl (ticB Ev Rl A)) (qsd (ticB Ev Rl A)) := PlZ_eq pw_81 (zA_sAn eS_696 (ex3 (gQ_12_1208 hO_T_62.1 ha_x_L_63)) h_88 rfl) (zA_sAn eS_696 (ex3 (gQ_12_1207 hO_T_62.1 ha_x_L_63)) h_88 rfl)
        have t_714 : pI S_696 1238 x = v_82 := tI_sA eS_696 ev_82
        have pz_715 : (pI S_696 1238 x).toInt = v_82.toInt := (congrArg Int32.toInt t_714).trans rfl
        have px_716 : PwX S S_696 x a1_z := PwX_z iv_68 (zA_sAn eS_696 (ex3 (gQ_12_1218 hO_T_62.1 ha_x_L_63)) h_88 rfl) (zA_sAn eS_696 (ex3 (gQ_12_1219 hO_T_62.1 ha_x_L_63)) h_88 rfl) zs_700 (by omega) (pw4 (fun _ => zA_sAn eS_696 (ex3 (gQ_12_1214 hO_T_62.1 ha_x_L_63)) h_88 rfl) (fun h => absurd rfl h) (fun _ => zA_sAn eS_696 (ex3 (gQ_12_1216 hO_T_62.1 ha_x_L_63)) h_88 rfl) (fun _ => zA_sAn eS_696 (ex3 (gQ_12_1217 hO_T_62.1 ha_x_L_63)) h_88 rfl) (fun _ => zA_sAn eS_696 (ex3 (gQ_12_1237 hO_T_62.1 ha_x_L_63)) h_88 rfl))
        rw [hQQ]
        exact ret_z X hw hr hlocks (Nat.le_of_ble_eq_true rfl) (Nat.le_of_ble_eq_true rfl) (by decide) ⟨hO_697, Or.inr ⟨⟨mi_703, (GR_eq zc_704 iv_65), zm_702, PotW_of (show (ticF Ev Rl A).1 = wst (ticB Ev Rl A) (qst (ticB Ev Rl A) - 1) by rw [ticF_s (show 0 < (qst (ticB Ev Rl A)).toInt by have e9 := congrArg Int32.toInt us_93; have e : (v_90 : Int32).toInt = v_90.toInt := rfl; omega)]) rR_705 rR_706 rR_707 zR_708 zR_709 gR_712 zR_710 zR_711 (show (pI S_696 1238 x).toInt = (((qsk (ticB Ev Rl A))).length : Int) by omega) pz_713, px_716, fun h => (by rw [ticF_s (show 0 < (qst (ticB Ev Rl A)).toInt by have e9 := congrArg Int32.toInt us_93; have e : (v_90 : Int32).toInt = v_90.toInt := rfl; omega)] at h; exact h)⟩, rfl⟩⟩ dX12_tick_157
    obtain ⟨q_717, h_718, h_719, h_720⟩ := gQ_12_1215 hO_T_36.1 ha_x_L_37
    refine r_getR (g := 1215) X hw ha_x_L_37 rfl 15 h_718 (by decide) rfl inn_X12_tick_12 (by decide) (X.2.2.2.1 (.fieldLink RX12 46 "SilkMillModel" "stop" "[I") (by decide +kernel)) rfl (gv_1215 _ _) dX12_tick_88 ?_
    refine lv_iload_n X.1 X.2.1 dX12_tick_91 rfl (lv_at hl 1 rfl) ?_
    refine r_iald X hw h_719 rfl (by rw [h_720]; exact z_ix hz_a1 (by omega) (by omega)) dX12_tick_92 ?_
    refine lv_topi (fun v_721 ev_721 => ?_)
    have rg_722 := And.intro (z_lo v_721) (z_hi v_721)
    have ev_721 := ev_721.symm
    have zf_723 : zA T_36 x 1215 (a1_z).toNat = v_721.toInt := (zA_of h_718 hz_a1 (by omega) ev_721)
    have us_724 : v_721 = (qst (seaF Ev (wtk A (qtk A + 1)))) := Int32.toInt_inj.mp (rfl.trans (zf_723.symm.trans pw_50))
    refine lv_if_ne (tgt := 137) X.1 X.2.1 dX12_tick_93 (by decide) (fun c_725 => ?_) (fun c_725 => ?_)
    · have z_b_726 := trivial
      have k_727 : v_721.toInt ≠ 0 := z_ne rfl ti_0 c_725
      have pz_728 : (pI T_36 1238 x).toInt = v_57.toInt := (congrArg Int32.toInt ev_57).trans rfl
      exact L_61 _ _ _ _  hw ha_x_L_37 hO_T_36 mk_38 iv_39 iv_40 (PotW_of (show ticB Ev Rl A = (seaF Ev (wtk A (qtk A + 1))) from (if_neg (i32_ne (congrArg Int32.toInt us_724.symm) t0 (by have e : (v_721 : Int32).toInt = v_721.toInt := rfl; omega)))) pw_47 pw_48 pw_49 pw_50 pw_51 pw_52 pw_53 pw_54 (show (pI T_36 1238 x).toInt = (((qsk (seaF Ev (wtk A (qtk A + 1))))).length : Int) by omega) pw_56) iv_42 ik_44 (lv_sub hl [0, 1] rfl)
    · have z_b_729 := trivial
      have k_730 : v_721.toInt = 0 := z_eq rfl ti_0 c_725
      refine lv_bipush (v := 12) X.1 X.2.1 dX12_tick_96 (by decide) ?_
      refine lv_iload_n X.1 X.2.1 dX12_tick_98 rfl (lv_at hl 1 rfl) ?_
      refine lv_imul X.1 X.2.1 dX12_tick_99 ?_
      refine lv_topi (fun v_731 ev_731 => ?_)
      have z_732 : v_731.toInt = 12 * a1_z := z_mul ev_731 ti_12 hz_a1 (by omega) (by omega)
      refine lv_istore_n (lv' := [(2, .int (v_731)), (0, .ref x), (1, .int (a1))]) X.1 X.2.1 dX12_tick_100 rfl hl (by decide) rfl (fun ls hl => ?_)
      have L_733 : ∀ (n : Nat) (T_735 : PS) (H : Heap) (locs : List Loc) (ls : Array Slot) (i2_734 : Int32) (i2_734_z : Int), ((48 - i2_734_z).toNat = n) → (Wd G cy (AS S s.heap.size) s.heap T_735 H locs) → (i2_734.toInt = i2_734_z) → (0 ≤ i2_734_z ∧ i2_734_z ≤ 48) → (At T_735 x 12) → (Ok MTK S T_735) → (MIe T_735 x (-1)) → (12 * a1_z ≤ i2_734_z) → (i2_734_z ≤ 12 * a1_z + 12) → (GR T_735 x) → (ZM S T_735 x) → (PotW T_735 x a1_z (rusF Ev (seaF Ev (wtk A (qtk A + 1))) (Rl.take (i2_734_z - 12 * a1_z).toNat))) → (i2_734_z - 12 * a1_z ≤ (Rl.length : Int)) → (PwX S T_735 x a1_z) → (pI T_735 1201 x = v_1) → (lv_has ls 6 [(2, .int (i2_734)), (0, .ref x), (1, .int (a1))]) → W p l e ({ frames := 8, cells := 0, slots := 0, locals := 384 }) s m [.ref x, .int (a1)].toArray below meth c H locs 0 0 QQ (F0 m 101 ls []) := by
        intro n
        induction n using Nat.strongRecOn with
        | ind n ih_L_733 =>
        intro T_735 H locs ls i2_734 i2_734_z hn hw hz_i2_734 hr_i2_734 ha_x_L_736 hO_T_735 mk_737 iv_738 iv_739 iv_740 iv_741 iv_742 iv_743 iv_744 ik_745 hl
        have rg_746 : (-2147483648) ≤ i2_734_z ∧ i2_734_z ≤ 2147483647 := by rw [← hz_i2_734]; exact ⟨z_lo _, z_hi _⟩
        have pz_747 : (pI T_735 1201 x).toInt = v_1.toInt := (congrArg Int32.toInt ik_745).trans rfl
        have hpw_748 := iv_742
        obtain ⟨pw_749, pw_750, pw_751, pw_752, pw_753, pw_754, pw_755, pw_756, pw_757, pw_758⟩ := hpw_748
        obtain ⟨v_759, ev_759⟩ : ∃ v, pI T_735 1238 x = v := ⟨_, rfl⟩
        have rg_760 := gI_12_1238 hO_T_735.1 ha_x_L_736; rw [ev_759] at rg_760
        have pz_761 : (pI T_735 1238 x).toInt = v_759.toInt := by rw [ev_759]
        have pz_762 : (pI T_735 1238 x).toInt = v_759.toInt := (congrArg Int32.toInt ev_759).trans rfl
        refine lv_iload_n X.1 X.2.1 dX12_tick_101 rfl (lv_at hl 0 rfl) ?_
        refine lv_bipush (v := 12) X.1 X.2.1 dX12_tick_102 (by decide) ?_
        refine lv_iload_n X.1 X.2.1 dX12_tick_104 rfl (lv_at hl 2 rfl) ?_
        refine lv_imul X.1 X.2.1 dX12_tick_105 ?_
        refine lv_topi (fun v_763 ev_763 => ?_)
        have z_764 : v_763.toInt = 12 * a1_z := z_mul ev_763 ti_12 hz_a1 (by omega) (by omega)
        refine lv_aload_n X.1 X.2.1 dX12_tick_106 rfl (lv_at hl 1 rfl) ?_
        obtain ⟨q_765, h_766, h_767, h_768⟩ := gQ_12_1220 hO_T_735.1 ha_x_L_736
        refine r_getR (g := 1220) X hw ha_x_L_736 rfl 20 h_766 (by decide) rfl inn_X12_tick_12 (by decide) (X.2.2.2.1 (.fieldLink RX12 61 "SilkMillModel" "rules" "[I") (by decide +kernel)) rfl (gv_1220 _ _) dX12_tick_107 ?_
        refine lv_iload_n X.1 X.2.1 dX12_tick_110 rfl (lv_at hl 2 rfl) ?_
        refine r_iald X hw h_767 rfl (by rw [h_768]; exact z_ix hz_a1 (by omega) (by omega)) dX12_tick_111 ?_
        refine lv_topi (fun v_769 ev_769 => ?_)
        have z_770 := gE_614 hO_T_735.1 h_767 (Int32.toNatClampNeg (a1)); rw [← ev_769] at z_770
        have ev_769 := ev_769.symm
        have rn_771 : RuR T_735 x a1_z Rl := RuR_fr hG ha_x hO_T_735.fr (by decide +kernel) hp_6
        have zf_772 : zA T_735 x 1220 (a1_z).toNat = v_769.toInt := (zA_of h_766 hz_a1 (by omega) ev_769)
        have rl_773 := rn_771.1
        refine lv_iadd X.1 X.2.1 dX12_tick_112 ?_
        refine lv_topi (fun v_774 ev_774 => ?_)
        have z_775 : v_774.toInt = (12 * a1_z) + v_769.toInt := z_add ev_774 z_764 rfl (by omega) (by omega)
        refine lv_icmp_ge (tgt := 137) X.1 X.2.1 dX12_tick_113 (by decide) (fun c_776 => ?_) (fun c_776 => ?_)
        · have z_b_777 := trivial
          have k_778 : i2_734_z ≥ ((12 * a1_z) + v_769.toInt) := z_le z_775 hz_i2_734 c_776
          have pz_779 : (pI T_735 1238 x).toInt = v_759.toInt := (congrArg Int32.toInt ev_759).trans rfl
          exact L_61 _ _ _ _  hw ha_x_L_736 hO_T_735 mk_737 iv_740 iv_741 (PotW_of (show ticB Ev Rl A = (rusF Ev (seaF Ev (wtk A (qtk A + 1))) (Rl.take (i2_734_z - 12 * a1_z).toNat)) from ((if_pos (i32_eq (congrArg Int32.toInt us_724.symm) t0 (by have e : (v_721 : Int32).toInt = v_721.toInt := rfl; omega))).trans (show rusF Ev (seaF Ev (wtk A (qtk A + 1))) Rl = (rusF Ev (seaF Ev (wtk A (qtk A + 1))) (Rl.take (i2_734_z - 12 * a1_z).toNat)) by rw [show (i2_734_z - 12 * a1_z).toNat = Rl.length by omega, List.take_length]))) pw_749 pw_750 pw_751 pw_752 pw_753 pw_754 pw_755 pw_756 (show (pI T_735 1238 x).toInt = (((qsk (rusF Ev (seaF Ev (wtk A (qtk A + 1))) (Rl.take (i2_734_z - 12 * a1_z).toNat)))).length : Int) by omega) pw_758) iv_744 ik_745 (lv_sub hl [1, 2] rfl)
        · have z_b_780 := trivial
          have k_781 : i2_734_z < ((12 * a1_z) + v_769.toInt) := z_nle z_775 hz_i2_734 c_776
          obtain ⟨ru_782, ru_783⟩ : ∃ r, Rl[(i2_734_z - 12 * a1_z).toNat]? = some r := ⟨_, List.getElem?_eq_getElem (by omega)⟩
          have ru_784 : RuX T_735 x (i2_734_z) ru_782 := by have h := rn_771.2 _ _ ru_783; rw [show 12 * a1_z + (((i2_734_z - 12 * a1_z).toNat : Nat) : Int) = i2_734_z by omega] at h; exact h
          refine lv_aload_n X.1 X.2.1 dX12_tick_116 rfl (lv_at hl 1 rfl) ?_
          refine lv_iload_n X.1 X.2.1 dX12_tick_117 rfl (lv_at hl 2 rfl) ?_
          refine lv_iload_n X.1 X.2.1 dX12_tick_118 rfl (lv_at hl 0 rfl) ?_
          have pz_785 : (pI T_735 1238 x).toInt = v_759.toInt := (congrArg Int32.toInt ev_759).trans rfl
          have en_786 : EnR T_735 x a1_z Ev := EnR_fr hG ha_x hO_T_735.fr (by decide +kernel) hp_5
          refine k_i (rm := { frames := 6, cells := 0, slots := 0, locals := 288 }) (av := [.ref x, .int (a1), .int (i2_734)]) X hw (va_runV (As := [.int (a1), .int (i2_734)]) (rest := []) (cfix X) (k_X12_holds5 l G cy κ T_735 _ x (a1) (a1_z) (i2_734) (i2_734_z) (rusF Ev (seaF Ev (wtk A (qtk A + 1))) (Rl.take (i2_734_z - 12 * a1_z).toNat)) Ev ru_782 hO_T_735.1 ha_x_L_736 hz_a1 hz_i2_734 (by omega) (by omega) (by omega) (by omega) mk_737 (PotW_of (rfl : (rusF Ev (seaF Ev (wtk A (qtk A + 1))) (Rl.take (i2_734_z - 12 * a1_z).toNat)) = (rusF Ev (seaF Ev (wtk A (qtk A + 1))) (Rl.take (i2_734_z - 12 * a1_z).toNat))) pw_749 pw_750 pw_751 pw_752 pw_753 pw_754 pw_755 pw_756 (show (pI T_735 1238 x).toInt = (((qsk (rusF Ev (seaF Ev (wtk A (qtk A + 1))) (Rl.take (i2_734_z - 12 * a1_z).toNat)))).length : Int) by omega) pw_758) en_786 ru_784) (cwV 2 X.2.2.2.1 gX12_tick_X12_holds rfl rfl rfl (by decide +kernel) ⟨Nat.le_of_ble_eq_true rfl, Nat.le_of_ble_eq_true rfl⟩) (pre_V X hw _ ha_x_L_736 rfl (by decide) rfl) rfl rfl hl.1 rfl (lv_room (Nat.le_of_ble_eq_true rfl)) dX12_tick_119 ⟨Nat.le_of_ble_eq_true rfl, Nat.le_of_ble_eq_true rfl⟩) 0 0 (Nat.le_of_ble_eq_true rfl) (Nat.le_of_ble_eq_true rfl) (fun rr_787 S_788 H locs hp hw hfr hnw => ?_)
          obtain ⟨e2, hp⟩ := hp
          subst e2
          rcases hp with ⟨f_789, er_790⟩ | ⟨f_789, er_790⟩ <;> subst er_790
          · have z_b_791 := trivial
            refine lv_if_eq (tgt := 131) X.1 X.2.1 dX12_tick_122 (by decide) (fun c_792 => absurd c_792 (by decide)) (fun c_792 => ?_)
            refine lv_aload_n X.1 X.2.1 dX12_tick_125 rfl (lv_at hl 1 rfl) ?_
            refine lv_iload_n X.1 X.2.1 dX12_tick_126 rfl (lv_at hl 2 rfl) ?_
            refine lv_iload_n X.1 X.2.1 dX12_tick_127 rfl (lv_at hl 0 rfl) ?_
            have pz_793 : (pI T_735 1238 x).toInt = v_759.toInt := (congrArg Int32.toInt ev_759).trans rfl
            have en_794 : EnR T_735 x a1_z Ev := EnR_fr hG ha_x hO_T_735.fr (by decide +kernel) hp_5
            refine k_v (rm := { frames := 7, cells := 0, slots := 0, locals := 336 }) (av := [.ref x, .int (a1), .int (i2_734)]) X hw (va_runV (As := [.int (a1), .int (i2_734)]) (rest := []) (cfix X) (k_X12_acts5 l G cy κ T_735 _ x (a1) (a1_z) (i2_734) (i2_734_z) (rusF Ev (seaF Ev (wtk A (qtk A + 1))) (Rl.take (i2_734_z - 12 * a1_z).toNat)) Ev ru_782 hO_T_735.1 ha_x_L_736 hz_a1 hz_i2_734 (by omega) (by omega) (by omega) (by omega) mk_737 (PotW_of (rfl : (rusF Ev (seaF Ev (wtk A (qtk A + 1))) (Rl.take (i2_734_z - 12 * a1_z).toNat)) = (rusF Ev (seaF Ev (wtk A (qtk A + 1))) (Rl.take (i2_734_z - 12 * a1_z).toNat))) pw_749 pw_750 pw_751 pw_752 pw_753 pw_754 pw_755 pw_756 (show (pI T_735 1238 x).toInt = (((qsk (rusF Ev (seaF Ev (wtk A (qtk A + 1))) (Rl.take (i2_734_z - 12 * a1_z).toNat)))).length : Int) by omega) pw_758) en_794 ru_784) (cwV 2 X.2.2.2.1 gX12_tick_X12_acts rfl rfl rfl (by decide +kernel) ⟨Nat.le_of_ble_eq_true rfl, Nat.le_of_ble_eq_true rfl⟩) (pre_V X hw _ ha_x_L_736 rfl (by decide) rfl) rfl rfl hl.1 rfl (lv_room (Nat.le_of_ble_eq_true rfl)) dX12_tick_128 ⟨Nat.le_of_ble_eq_true rfl, Nat.le_of_ble_eq_true rfl⟩) 0 0 (Nat.le_of_ble_eq_true rfl) (Nat.le_of_ble_eq_true rfl) (fun S_796 H locs hp hw hfr hnw => ?_)
            obtain ⟨hk_797, hp⟩ := hp
            have hO_798 : Ok MTK S S_796 := hO_T_735.call hk_797 (by decide +kernel)
            obtain ⟨mi_799, gr_800, zm_801, pw_802, px_803⟩ := hp
            have gr_804 : GR S_796 x := gr_800 iv_740
            have hpw_805 := pw_802
            obtain ⟨pw_806, pw_807, pw_808, pw_809, pw_810, pw_811, pw_812, pw_813, pw_814, pw_815⟩ := hpw_805
            obtain ⟨v_817, ev_817⟩ : ∃ v, pI S_796 1238 x = v := ⟨_, rfl⟩
            have t_819 : At S_796 x 12 := hk_797.fr.at ha_x_L_736
            have rg_818 := gI_12_1238 hO_798.1 t_819; rw [ev_817] at rg_818
            have pz_820 : (pI S_796 1238 x).toInt = v_817.toInt := by rw [ev_817]
            have pz_821 : (pI S_796 1238 x).toInt = v_817.toInt := (congrArg Int32.toInt ev_817).trans rfl
            obtain ⟨x_822, ex_822⟩ : ∃ y : Int32, y = i2_734 + 1 := ⟨_, rfl⟩
            have z_823 : x_822.toInt = i2_734_z + 1 := z_add ex_822 hz_i2_734 ti_1 (by omega) (by omega)
            refine lv_iinc (v := x_822) (lv' := [(2, .int (x_822)), (0, .ref x), (1, .int (a1))]) X.1 X.2.1 dX12_tick_131 hl (k := 0) rfl (by rw [ex_822]; rfl) (by decide) rfl (fun ls hl => ?_)
            refine lv_goto (tgt := 101) X.1 X.2.1 dX12_tick_134 (by decide) ?_
            have zm_824 : ZM S S_796 x := ZM_tr iv_741 zm_801
            have pz_825 : (pI S_796 1238 x).toInt = v_817.toInt := (congrArg Int32.toInt ev_817).trans rfl
            have px_826 : PwX S S_796 x a1_z := PwX_tr iv_744 px_803
            have t_827 : pI S_796 1201 x = v_1 := hk_797.fr.I' (by decide +kernel) ha_x_L_736 ik_745
            exact ih_L_733 _ (by omega) _ _ _ _ (x_822) (x_822.toInt) rfl hw rfl (by omega) t_819 hO_798 mi_799 (by omega) (by omega) gr_804 zm_824 (PotW_of (show rusF Ev (seaF Ev (wtk A (qtk A + 1))) (Rl.take (x_822.toInt - 12 * a1_z).toNat) = (actF Ev ru_782.1 ru_782.2.1 (rusF Ev (seaF Ev (wtk A (qtk A + 1))) (Rl.take (i2_734_z - 12 * a1_z).toNat))) by rw [show (x_822.toInt - 12 * a1_z).toNat = (i2_734_z - 12 * a1_z).toNat + 1 by omega, rusF_s ru_783, ruF_y f_789]) pw_806 pw_807 pw_808 pw_809 pw_810 pw_811 pw_812 pw_813 (show (pI S_796 1238 x).toInt = (((qsk (actF Ev ru_782.1 ru_782.2.1 (rusF Ev (seaF Ev (wtk A (qtk A + 1))) (Rl.take (i2_734_z - 12 * a1_z).toNat))))).length : Int) by omega) pw_815) (by omega) px_826 t_827 (lv_sub hl [0, 1, 2] rfl)
          · have z_b_828 := trivial
            refine lv_if_eq (tgt := 131) X.1 X.2.1 dX12_tick_122 (by decide) (fun c_829 => ?_) (fun c_829 => absurd c_829 (by decide))
            obtain ⟨x_830, ex_830⟩ : ∃ y : Int32, y = i2_734 + 1 := ⟨_, rfl⟩
            have z_831 : x_830.toInt = i2_734_z + 1 := z_add ex_830 hz_i2_734 ti_1 (by omega) (by omega)
            refine lv_iinc (v := x_830) (lv' := [(2, .int (x_830)), (0, .ref x), (1, .int (a1))]) X.1 X.2.1 dX12_tick_131 hl (k := 0) rfl (by rw [ex_830]; rfl) (by decide) rfl (fun ls hl => ?_)
            refine lv_goto (tgt := 101) X.1 X.2.1 dX12_tick_134 (by decide) ?_
            have pz_832 : (pI T_735 1238 x).toInt = v_759.toInt := (congrArg Int32.toInt ev_759).trans rfl
            exact ih_L_733 _ (by omega) _ _ _ _ (x_830) (x_830.toInt) rfl hw rfl (by omega) ha_x_L_736 hO_T_735 mk_737 (by omega) (by omega) iv_740 iv_741 (PotW_of (show rusF Ev (seaF Ev (wtk A (qtk A + 1))) (Rl.take (x_830.toInt - 12 * a1_z).toNat) = (rusF Ev (seaF Ev (wtk A (qtk A + 1))) (Rl.take (i2_734_z - 12 * a1_z).toNat)) by rw [show (x_830.toInt - 12 * a1_z).toNat = (i2_734_z - 12 * a1_z).toNat + 1 by omega, rusF_s ru_783, ruF_n f_789]) pw_749 pw_750 pw_751 pw_752 pw_753 pw_754 pw_755 pw_756 (show (pI T_735 1238 x).toInt = (((qsk (rusF Ev (seaF Ev (wtk A (qtk A + 1))) (Rl.take (i2_734_z - 12 * a1_z).toNat)))).length : Int) by omega) pw_758) (by omega) iv_744 ik_745 (lv_sub hl [0, 1, 2] rfl)
      have pz_833 : (pI T_36 1238 x).toInt = v_57.toInt := (congrArg Int32.toInt ev_57).trans rfl
      exact L_733 _ _ _ _ _ (v_731) ((12 * a1_z)) rfl hw z_732 (by omega) ha_x_L_37 hO_T_36 mk_38 (by omega) (by omega) iv_39 iv_40 (PotW_of (show rusF Ev (seaF Ev (wtk A (qtk A + 1))) (Rl.take ((12 * a1_z) - 12 * a1_z).toNat) = (seaF Ev (wtk A (qtk A + 1))) by rw [show ((12 * a1_z) - 12 * a1_z).toNat = 0 by omega]; rfl) pw_47 pw_48 pw_49 pw_50 pw_51 pw_52 pw_53 pw_54 (show (pI T_36 1238 x).toInt = (((qsk (seaF Ev (wtk A (qtk A + 1))))).length : Int) by omega) pw_56) (by omega) iv_42 ik_44 (lv_sub hl [0, 1, 2] rfl)
  refine lv_aload_n X.1 X.2.1 dX12_tick_10 rfl (lv_at hl 0 rfl) ?_
  have t_834 : At S_29 x 12 := tAt_sA eS_29 ha_x
  obtain ⟨q_835, h_836, h_837, h_838⟩ := gQ_12_1214 hO_30.1 t_834
  refine r_getR (g := 1214) X hw t_834 rfl 14 h_836 (by decide) rfl inn_X12_tick_12 (by decide) (X.2.2.2.1 (.fieldLink RX12 43 "SilkMillModel" "search" "[I") (by decide +kernel)) rfl (gv_1214 _ _) dX12_tick_11 ?_
  refine lv_iload_n X.1 X.2.1 dX12_tick_14 rfl (lv_at hl 1 rfl) ?_
  refine lv_aload_n X.1 X.2.1 dX12_tick_15 rfl (lv_at hl 0 rfl) ?_
  refine lv_iload_n X.1 X.2.1 dX12_tick_16 rfl (lv_at hl 1 rfl) ?_
  refine lv_iconst (v := 2) X.1 X.2.1 dX12_tick_17 (by decide) ?_
  have rR_839 : RowR S_29 x (3 * a1_z + 2).toNat (ql A) := RowR_eq pw_7 (zA_sAn eS_29 (ex3 (gQ_12_1218 hO.1 ha_x)) h_21 rfl) (zA_sAn eS_29 (ex3 (gQ_12_1219 hO.1 ha_x)) h_21 rfl)
  have ln_840 : zA S_29 x 1219 (3 * a1_z + 2).toNat = (((ql A)).length : Int) := rR_839.1
  refine k_i (rm := { frames := 1, cells := 0, slots := 0, locals := 48 }) (av := [.ref x, .int (a1), .int 2]) X hw (va_runV (As := [.int (a1), .int 2]) (rest := [.int (a1), .ref q_835]) (cfix X) (k_X12_many2 l G cy κ S_29 _ x (a1) (a1_z) (2) (2) hO_30.1 t_834 hz_a1 ti_2 (by first | assumption | omega) (by first | assumption | omega) (by first | assumption | omega) (by first | assumption | omega)) (cwV 2 X.2.2.2.1 gX12_tick_X12_many rfl rfl rfl (by decide +kernel) ⟨Nat.le_of_ble_eq_true rfl, Nat.le_of_ble_eq_true rfl⟩) (pre_V X hw _ t_834 rfl (by decide) rfl) rfl rfl hl.1 rfl (lv_room (Nat.le_of_ble_eq_true rfl)) dX12_tick_18 ⟨Nat.le_of_ble_eq_true rfl, Nat.le_of_ble_eq_true rfl⟩) 0 0 (Nat.le_of_ble_eq_true rfl) (Nat.le_of_ble_eq_true rfl) (fun rr_841 S_842 H locs hp hw hfr hnw => ?_)
  obtain ⟨e2, hp⟩ := hp
  subst e2
  obtain ⟨f_843, f_844, f_845⟩ := hp
  refine lv_if_ne (tgt := 28) X.1 X.2.1 dX12_tick_21 (by decide) (fun c_846 => ?_) (fun c_846 => ?_)
  · have z_b_847 := trivial
    have k_848 : rr_841.toInt ≠ 0 := z_ne rfl ti_0 c_846
    refine lv_aload_n X.1 X.2.1 dX12_tick_28 rfl (lv_at hl 0 rfl) ?_
    refine r_getR (g := 1214) X hw t_834 rfl 14 h_836 (by decide) rfl inn_X12_tick_12 (by decide) (X.2.2.2.1 (.fieldLink RX12 43 "SilkMillModel" "search" "[I") (by decide +kernel)) rfl (gv_1214 _ _) dX12_tick_29 ?_
    refine lv_iload_n X.1 X.2.1 dX12_tick_32 rfl (lv_at hl 1 rfl) ?_
    refine r_iald X hw h_837 rfl (by rw [h_838]; exact z_ix hz_a1 (by omega) (by omega)) dX12_tick_33 ?_
    refine lv_topi (fun v_849 ev_849 => ?_)
    have rg_850 := And.intro (z_lo v_849) (z_hi v_849)
    have ev_849 := ev_849.symm
    have zR_851 : zA S_29 x 1214 a1_z.toNat = ((qse A)).toInt := (congrFun (zA_sAn eS_29 (ex3 (gQ_12_1214 hO.1 ha_x)) h_21 rfl) _).trans pw_9
    have zf_852 : zA S_29 x 1214 (a1_z).toNat = v_849.toInt := (zA_of h_836 hz_a1 (by omega) ev_849)
    have us_853 : v_849 = (qse A) := Int32.toInt_inj.mp (rfl.trans (zf_852.symm.trans zR_851))
    have iq_854 : 0 ≤ v_849.toInt ∧ v_849.toInt < (efind Ev).toInt := by have h := hp_7; have h2 := congrArg Int32.toInt us_853; exact ⟨by have := h.2.1; have e : (v_849 : Int32).toInt = v_849.toInt := rfl; omega, by have := h.2.2; have e : (v_849 : Int32).toInt = v_849.toInt := rfl; omega⟩
    have zh_855 := z_hi (efind Ev)
    refine lv_iconst (v := 1) X.1 X.2.1 dX12_tick_34 (by decide) ?_
    refine lv_iadd X.1 X.2.1 dX12_tick_35 ?_
    refine lv_topi (fun v_856 ev_856 => ?_)
    have z_857 : v_856.toInt = v_849.toInt + 1 := z_add ev_856 rfl ti_1 (by omega) (by omega)
    refine r_iast X hw h_837 rfl (by rw [h_838]; exact z_ix hz_a1 (by omega) (by omega)) dX12_tick_36 (fun H locs hw => ?_)
    obtain ⟨S_858, eS_858⟩ : ∃ T, T = sA S_29 q_835 (upd (pA S_29 q_835) (Int32.toNatClampNeg (a1)) (v_856)) := ⟨_, rfl⟩
    rw [← eS_858] at hw
    have hO_859 : Ok MTK S S_858 := hO_30.sA eS_858 h_837 (by decide +kernel) (uA_494 hO_30.1 h_837)
    have h_860 : pA S_858 q_835 (Int32.toNatClampNeg (a1)) = v_856 := tA_sAs eS_858
    have t_861 : pR S_858 1214 x = some q_835 := tR_sA eS_858 h_836
    have t_863 : pR S_29 1214 x = some q_835 := by have h := t_861; rw [eS_858, pR_sA] at h; exact h
    have zs_862 : ∀ j, zA S_858 x 1214 j = if j = (a1_z).toNat then (v_849.toInt + 1) else zA S_29 x 1214 j := by have h := zA_sAs eS_858 t_863 z_857; rw [z_nc hz_a1 (by omega)] at h; exact h
    refine lv_aload_n X.1 X.2.1 dX12_tick_37 rfl (lv_at hl 0 rfl) ?_
    refine lv_iload_n X.1 X.2.1 dX12_tick_38 rfl (lv_at hl 1 rfl) ?_
    refine lv_iconst (v := 2) X.1 X.2.1 dX12_tick_39 (by decide) ?_
    have rR_864 : RowR S_858 x (3 * a1_z + 2).toNat (ql A) := RowR_eq rR_839 (zA_sAn eS_858 (ex3 (gQ_12_1218 hO_30.1 t_834)) h_837 rfl) (zA_sAn eS_858 (ex3 (gQ_12_1219 hO_30.1 t_834)) h_837 rfl)
    have ln_865 : zA S_858 x 1219 (3 * a1_z + 2).toNat = (((ql A)).length : Int) := rR_864.1
    have t_866 : At S_858 x 12 := tAt_sA eS_858 t_834
    refine k_i (rm := { frames := 1, cells := 0, slots := 0, locals := 48 }) (av := [.ref x, .int (a1), .int 2]) X hw (va_runV (As := [.int (a1), .int 2]) (rest := []) (cfix X) (k_X12_many2 l G cy κ S_858 _ x (a1) (a1_z) (2) (2) hO_859.1 t_866 hz_a1 ti_2 (by first | assumption | omega) (by first | assumption | omega) (by first | assumption | omega) (by first | assumption | omega)) (cwV 2 X.2.2.2.1 gX12_tick_X12_many rfl rfl rfl (by decide +kernel) ⟨Nat.le_of_ble_eq_true rfl, Nat.le_of_ble_eq_true rfl⟩) (pre_V X hw _ t_866 rfl (by decide) rfl) rfl rfl hl.1 rfl (lv_room (Nat.le_of_ble_eq_true rfl)) dX12_tick_40 ⟨Nat.le_of_ble_eq_true rfl, Nat.le_of_ble_eq_true rfl⟩) 0 0 (Nat.le_of_ble_eq_true rfl) (Nat.le_of_ble_eq_true rfl) (fun rr_867 S_868 H locs hp hw hfr hnw => ?_)
    obtain ⟨e2, hp⟩ := hp
    subst e2
    obtain ⟨f_869, f_870, f_871⟩ := hp
    refine lv_if_le (tgt := 87) X.1 X.2.1 dX12_tick_43 (by decide) (fun c_872 => ?_) (fun c_872 => ?_)
    · exfalso
      have k_873 : rr_867.toInt ≤ 0 := z_le rfl ti_0 c_872
      omega
    have k_874 : rr_867.toInt > 0 := z_nle rfl ti_0 c_872
    refine lv_aload_n X.1 X.2.1 dX12_tick_46 rfl (lv_at hl 0 rfl) ?_
    refine r_getR (g := 1214) X hw t_866 rfl 14 t_861 (by decide) rfl inn_X12_tick_12 (by decide) (X.2.2.2.1 (.fieldLink RX12 43 "SilkMillModel" "search" "[I") (by decide +kernel)) rfl (gv_1214 _ _) dX12_tick_47 ?_
    refine lv_iload_n X.1 X.2.1 dX12_tick_50 rfl (lv_at hl 1 rfl) ?_
    have t_875 : At S_858 q_835 494 := tAt_sA eS_858 h_837
    have t_876 : pN S_858 q_835 = 4 := tN_sA eS_858 h_838
    clear h_838
    refine r_iald X hw t_875 rfl (by rw [t_876]; exact z_ix hz_a1 (by omega) (by omega)) dX12_tick_51 ?_
    rw [h_860]
    refine lv_aload_n X.1 X.2.1 dX12_tick_52 rfl (lv_at hl 0 rfl) ?_
    obtain ⟨q_877, h_878, h_879, h_880⟩ := gQ_12_1213 hO_859.1 t_866
    refine r_getR (g := 1213) X hw t_866 rfl 13 h_878 (by decide) rfl inn_X12_tick_12 (by decide) (X.2.2.2.1 (.fieldLink RX12 40 "SilkMillModel" "find" "[I") (by decide +kernel)) rfl (gv_1213 _ _) dX12_tick_53 ?_
    refine lv_iload_n X.1 X.2.1 dX12_tick_56 rfl (lv_at hl 1 rfl) ?_
    refine r_iald X hw h_879 rfl (by rw [h_880]; exact z_ix hz_a1 (by omega) (by omega)) dX12_tick_57 ?_
    refine lv_topi (fun v_881 ev_881 => ?_)
    have rg_882 := And.intro (z_lo v_881) (z_hi v_881)
    have ev_881 := ev_881.symm
    have zf_883 : zA S_858 x 1213 (a1_z).toNat = v_881.toInt := (zA_of h_878 hz_a1 (by omega) ev_881)
    have en_884 : EnR S_858 x a1_z Ev := EnR_fr hG ha_x hO_859.fr (by decide +kernel) hp_5
    have fd_885 : (efind Ev).toInt = v_881.toInt := by rw [en_884.2.2.2.2, ← zA_eq, show a1_z.toNat = (a1_z).toNat by omega]; exact zf_883
    refine lv_icmp_ne (tgt := 87) X.1 X.2.1 dX12_tick_58 (by decide) (fun c_886 => ?_) (fun c_886 => ?_)
    · have z_b_887 := trivial
      have k_888 : (v_849.toInt + 1) ≠ v_881.toInt := z_ne z_857 rfl c_886
      have mi_889 : MIe S_29 x (-1) := MIe_sA hp_2 hO.1 ha_x h_21 eS_29 (by decide +kernel)
      have mi_890 : MIe S_858 x (-1) := MIe_sA mi_889 hO_30.1 t_834 h_837 eS_858 (by decide +kernel)
      have zc_891 : zA S_29 x 1237 = zA S x 1237 := zA_sAn eS_29 (ex3 (gQ_12_1237 hO.1 ha_x)) h_21 rfl
      have zc_892 : zA S_858 x 1237 = zA S x 1237 := (zA_sAn eS_858 (ex3 (gQ_12_1237 hO_30.1 t_834)) h_837 rfl).trans zc_891
      have zm_893 : ZM S S_29 x := ZM_eq hzm0 (zA_sAn eS_29 (ex3 (gQ_12_1207 hO.1 ha_x)) h_21 rfl)
      have zm_894 : ZM S S_858 x := ZM_eq zm_893 (zA_sAn eS_858 (ex3 (gQ_12_1207 hO_30.1 t_834)) h_837 rfl)
      have rR_895 : RowR S_29 x (3 * a1_z + 0).toNat (qb A) := RowR_eq pw_5 (zA_sAn eS_29 (ex3 (gQ_12_1218 hO.1 ha_x)) h_21 rfl) (zA_sAn eS_29 (ex3 (gQ_12_1219 hO.1 ha_x)) h_21 rfl)
      have rR_896 : RowR S_858 x (3 * a1_z + 0).toNat (qb A) := RowR_eq rR_895 (zA_sAn eS_858 (ex3 (gQ_12_1218 hO_30.1 t_834)) h_837 rfl) (zA_sAn eS_858 (ex3 (gQ_12_1219 hO_30.1 t_834)) h_837 rfl)
      have rR_897 : RowR S_29 x (3 * a1_z + 1).toNat (qe A) := RowR_eq pw_6 (zA_sAn eS_29 (ex3 (gQ_12_1218 hO.1 ha_x)) h_21 rfl) (zA_sAn eS_29 (ex3 (gQ_12_1219 hO.1 ha_x)) h_21 rfl)
      have rR_898 : RowR S_858 x (3 * a1_z + 1).toNat (qe A) := RowR_eq rR_897 (zA_sAn eS_858 (ex3 (gQ_12_1218 hO_30.1 t_834)) h_837 rfl) (zA_sAn eS_858 (ex3 (gQ_12_1219 hO_30.1 t_834)) h_837 rfl)
      have zR_899 : zA S_29 x 1215 a1_z.toNat = ((qst A)).toInt := (congrFun (zA_sAn eS_29 (ex3 (gQ_12_1215 hO.1 ha_x)) h_21 rfl) _).trans pw_8
      have zR_900 : zA S_858 x 1215 a1_z.toNat = ((qst A)).toInt := (congrFun (zA_sAn eS_858 (ex3 (gQ_12_1215 hO_30.1 t_834)) h_837 rfl) _).trans zR_899
      have zR_901 : zA S_858 x 1214 a1_z.toNat = ((qse A + 1)).toInt := (by rw [zs_862, if_pos (by omega)]; exact z_857.symm.trans (congrArg Int32.toInt (ev_856.trans (by rw [us_853]))))
      have zR_902 : zA S_29 x 1216 a1_z.toNat = ((qdr A)).toInt := (congrFun (zA_sAn eS_29 (ex3 (gQ_12_1216 hO.1 ha_x)) h_21 rfl) _).trans pw_11
      have zR_903 : zA S_858 x 1216 a1_z.toNat = ((qdr A)).toInt := (congrFun (zA_sAn eS_858 (ex3 (gQ_12_1216 hO_30.1 t_834)) h_837 rfl) _).trans zR_902
      have zR_904 : zA S_29 x 1217 a1_z.toNat = ((qtk A + 1)).toInt := (by rw [zs_33, if_pos (by omega)]; exact (congrArg Int32.toInt (ev_27.trans (by rw [us_26]))))
      have zR_905 : zA S_858 x 1217 a1_z.toNat = ((qtk A + 1)).toInt := (congrFun (zA_sAn eS_858 (ex3 (gQ_12_1217 hO_30.1 t_834)) h_837 rfl) _).trans zR_904
      have gR_906 : zA S_29 x 1237 a1_z.toNat = (((qg A)).length : Int) := (congrFun (zA_sAn eS_29 (ex3 (gQ_12_1237 hO.1 ha_x)) h_21 rfl) _).trans pw_10
      have gR_907 : zA S_858 x 1237 a1_z.toNat = (((qg A)).length : Int) := (congrFun (zA_sAn eS_858 (ex3 (gQ_12_1237 hO_30.1 t_834)) h_837 rfl) _).trans gR_906
      have pz_908 : PlZ S_29 x (qpl A) (qsd A) := PlZ_eq pw_14 (zA_sAn eS_29 (ex3 (gQ_12_1208 hO.1 ha_x)) h_21 rfl) (zA_sAn eS_29 (ex3 (gQ_12_1207 hO.1 ha_x)) h_21 rfl)
      have pz_909 : PlZ S_858 x (qpl A) (qsd A) := PlZ_eq pz_908 (zA_sAn eS_858 (ex3 (gQ_12_1208 hO_30.1 t_834)) h_837 rfl) (zA_sAn eS_858 (ex3 (gQ_12_1207 hO_30.1 t_834)) h_837 rfl)
      have t_910 : pI S_29 1238 x = v_15 := tI_sA eS_29 ev_15
      have t_911 : pI S_858 1238 x = v_15 := tI_sA eS_858 t_910
      have pz_912 : (pI S_858 1238 x).toInt = v_15.toInt := (congrArg Int32.toInt t_911).trans rfl
      have px_913 : PwX S S_29 x a1_z := PwX_z (PwX_rf S x a1_z) (zA_sAn eS_29 (ex3 (gQ_12_1218 hO.1 ha_x)) h_21 rfl) (zA_sAn eS_29 (ex3 (gQ_12_1219 hO.1 ha_x)) h_21 rfl) zs_33 (by omega) (pw4 (fun _ => zA_sAn eS_29 (ex3 (gQ_12_1214 hO.1 ha_x)) h_21 rfl) (fun _ => zA_sAn eS_29 (ex3 (gQ_12_1215 hO.1 ha_x)) h_21 rfl) (fun _ => zA_sAn eS_29 (ex3 (gQ_12_1216 hO.1 ha_x)) h_21 rfl) (fun h => absurd rfl h) (fun _ => zA_sAn eS_29 (ex3 (gQ_12_1237 hO.1 ha_x)) h_21 rfl))
      have px_914 : PwX S S_858 x a1_z := PwX_z px_913 (zA_sAn eS_858 (ex3 (gQ_12_1218 hO_30.1 t_834)) h_837 rfl) (zA_sAn eS_858 (ex3 (gQ_12_1219 hO_30.1 t_834)) h_837 rfl) zs_862 (by omega) (pw4 (fun h => absurd rfl h) (fun _ => zA_sAn eS_858 (ex3 (gQ_12_1215 hO_30.1 t_834)) h_837 rfl) (fun _ => zA_sAn eS_858 (ex3 (gQ_12_1216 hO_30.1 t_834)) h_837 rfl) (fun _ => zA_sAn eS_858 (ex3 (gQ_12_1217 hO_30.1 t_834)) h_837 rfl) (fun _ => zA_sAn eS_858 (ex3 (gQ_12_1237 hO_30.1 t_834)) h_837 rfl))
      have t_915 : pI S_858 1201 x = v_1 := tI_sA eS_858 t_43
      exact L_35 _ _ _ _  hw t_866 hO_859 mi_890 (GR_eq zc_892 hp_3) zm_894 (PotW_of (seaF_w (A := (wtk A (qtk A + 1))) (show ql A ≠ [] from fun z => by have e0 := congrArg List.length z; have e1 : ([] : List Nat).length = 0 := rfl; have := pw_7.1; omega) (show (qse (wtk A (qtk A + 1)) + 1).toInt < (efind Ev).toInt by have e2 : (qse A + 1).toInt = (v_849.toInt + 1) := (congrArg Int32.toInt (ev_856.trans (by rw [us_853]))).symm.trans z_857; show (qse A + 1).toInt < _; omega)) rR_896 rR_898 rR_864 zR_900 zR_901 gR_907 zR_903 zR_905 (show (pI S_858 1238 x).toInt = (((qsk A)).length : Int) by omega) pz_909) px_914 t_915 (lv_sub hl [0, 1] rfl)
    · have z_b_916 := trivial
      have k_917 : (v_849.toInt + 1) = v_881.toInt := z_eq z_857 rfl c_886
      refine lv_aload_n X.1 X.2.1 dX12_tick_61 rfl (lv_at hl 0 rfl) ?_
      refine r_getR (g := 1214) X hw t_866 rfl 14 t_861 (by decide) rfl inn_X12_tick_12 (by decide) (X.2.2.2.1 (.fieldLink RX12 43 "SilkMillModel" "search" "[I") (by decide +kernel)) rfl (gv_1214 _ _) dX12_tick_62 ?_
      refine lv_iload_n X.1 X.2.1 dX12_tick_65 rfl (lv_at hl 1 rfl) ?_
      refine lv_iconst (v := 0) X.1 X.2.1 dX12_tick_66 (by decide) ?_
      refine r_iast X hw t_875 rfl (by rw [t_876]; exact z_ix hz_a1 (by omega) (by omega)) dX12_tick_67 (fun H locs hw => ?_)
      obtain ⟨S_918, eS_918⟩ : ∃ T, T = sA S_858 q_835 (upd (pA S_858 q_835) (Int32.toNatClampNeg (a1)) (0)) := ⟨_, rfl⟩
      rw [← eS_918] at hw
      have hO_919 : Ok MTK S S_918 := hO_859.sA eS_918 t_875 (by decide +kernel) (uA_494 hO_859.1 t_875)
      have h_920 : pA S_918 q_835 (Int32.toNatClampNeg (a1)) = 0 := tA_sAs eS_918
      have t_921 : pR S_918 1214 x = some q_835 := tR_sA eS_918 t_861
      have t_923 : pR S_858 1214 x = some q_835 := by have h := t_921; rw [eS_918, pR_sA] at h; exact h
      have zs_922 : ∀ j, zA S_918 x 1214 j = if j = (a1_z).toNat then 0 else zA S_858 x 1214 j := by have h := zA_sAs eS_918 t_923 ti_0; rw [z_nc hz_a1 (by omega)] at h; exact h
      refine lv_aload_n X.1 X.2.1 dX12_tick_68 rfl (lv_at hl 0 rfl) ?_
      refine lv_iload_n X.1 X.2.1 dX12_tick_69 rfl (lv_at hl 1 rfl) ?_
      refine lv_iconst (v := 0) X.1 X.2.1 dX12_tick_70 (by decide) ?_
      refine lv_aload_n X.1 X.2.1 dX12_tick_71 rfl (lv_at hl 0 rfl) ?_
      refine lv_iload_n X.1 X.2.1 dX12_tick_72 rfl (lv_at hl 1 rfl) ?_
      refine lv_iconst (v := 2) X.1 X.2.1 dX12_tick_73 (by decide) ?_
      refine lv_iconst (v := 0) X.1 X.2.1 dX12_tick_74 (by decide) ?_
      have t_924 : pI S_858 1201 x = v_1 := tI_sA eS_858 t_43
      have t_925 : pI S_918 1201 x = v_1 := tI_sA eS_918 t_924
      have pz_926 : (pI S_918 1201 x).toInt = v_1.toInt := (congrArg Int32.toInt t_925).trans rfl
      have zc_927 : zA S_29 x 1219 = zA S x 1219 := zA_sAn eS_29 (ex3 (gQ_12_1219 hO.1 ha_x)) h_21 rfl
      have zc_928 : zA S_858 x 1219 = zA S x 1219 := (zA_sAn eS_858 (ex3 (gQ_12_1219 hO_30.1 t_834)) h_837 rfl).trans zc_927
      have zc_929 : zA S_918 x 1219 = zA S x 1219 := (zA_sAn eS_918 (ex3 (gQ_12_1219 hO_859.1 t_866)) t_875 rfl).trans zc_928
      have zz_930 := congrFun zc_929 ((3 * a1_z + 2).toNat)
      have rR_931 : RowR S_29 x (3 * a1_z + 0).toNat (qb A) := RowR_eq pw_5 (zA_sAn eS_29 (ex3 (gQ_12_1218 hO.1 ha_x)) h_21 rfl) (zA_sAn eS_29 (ex3 (gQ_12_1219 hO.1 ha_x)) h_21 rfl)
      have rR_932 : RowR S_858 x (3 * a1_z + 0).toNat (qb A) := RowR_eq rR_931 (zA_sAn eS_858 (ex3 (gQ_12_1218 hO_30.1 t_834)) h_837 rfl) (zA_sAn eS_858 (ex3 (gQ_12_1219 hO_30.1 t_834)) h_837 rfl)
      have rR_933 : RowR S_918 x (3 * a1_z + 0).toNat (qb A) := RowR_eq rR_932 (zA_sAn eS_918 (ex3 (gQ_12_1218 hO_859.1 t_866)) t_875 rfl) (zA_sAn eS_918 (ex3 (gQ_12_1219 hO_859.1 t_866)) t_875 rfl)
      have rR_934 : RowR S_918 x (3 * a1_z + 2).toNat (ql A) := RowR_eq rR_864 (zA_sAn eS_918 (ex3 (gQ_12_1218 hO_859.1 t_866)) t_875 rfl) (zA_sAn eS_918 (ex3 (gQ_12_1219 hO_859.1 t_866)) t_875 rfl)
      have ln_935 : zA S_918 x 1219 (3 * a1_z + 2).toNat = (((ql A)).length : Int) := rR_934.1
      have t_936 : At S_918 x 12 := tAt_sA eS_918 t_866
      have rR_937 : RowR S_29 x (3 * a1_z + 1).toNat (qe A) := RowR_eq pw_6 (zA_sAn eS_29 (ex3 (gQ_12_1218 hO.1 ha_x)) h_21 rfl) (zA_sAn eS_29 (ex3 (gQ_12_1219 hO.1 ha_x)) h_21 rfl)
      have rR_938 : RowR S_858 x (3 * a1_z + 1).toNat (qe A) := RowR_eq rR_937 (zA_sAn eS_858 (ex3 (gQ_12_1218 hO_30.1 t_834)) h_837 rfl) (zA_sAn eS_858 (ex3 (gQ_12_1219 hO_30.1 t_834)) h_837 rfl)
      have rR_939 : RowR S_918 x (3 * a1_z + 1).toNat (qe A) := RowR_eq rR_938 (zA_sAn eS_918 (ex3 (gQ_12_1218 hO_859.1 t_866)) t_875 rfl) (zA_sAn eS_918 (ex3 (gQ_12_1219 hO_859.1 t_866)) t_875 rfl)
      have mi_940 : MIe S_29 x (-1) := MIe_sA hp_2 hO.1 ha_x h_21 eS_29 (by decide +kernel)
      have mi_941 : MIe S_858 x (-1) := MIe_sA mi_940 hO_30.1 t_834 h_837 eS_858 (by decide +kernel)
      have mi_942 : MIe S_918 x (-1) := MIe_sA mi_941 hO_859.1 t_866 t_875 eS_918 (by decide +kernel)
      refine k_i (rm := { frames := 1, cells := 0, slots := 0, locals := 48 }) (av := [.ref x, .int (a1), .int 2, .int 0]) X hw (va_runV (As := [.int (a1), .int 2, .int 0]) (rest := [.int 0, .int (a1), .ref x]) (cfix X) (k_X12_goes5 l G cy κ S_918 _ x (a1) (a1_z) (2) (2) (0) (0) (-1) hO_919.1 t_936 hz_a1 ti_2 ti_0 (by first | assumption | omega) (by first | assumption | omega) (by first | assumption | omega) (by first | assumption | omega) (by first | assumption | omega) (by first | assumption | omega) mi_942) (cwV 3 X.2.2.2.1 gX12_tick_X12_goes rfl rfl rfl (by decide +kernel) ⟨Nat.le_of_ble_eq_true rfl, Nat.le_of_ble_eq_true rfl⟩) (pre_V X hw _ t_936 rfl (by decide) rfl) rfl rfl hl.1 rfl (lv_room (Nat.le_of_ble_eq_true rfl)) dX12_tick_75 ⟨Nat.le_of_ble_eq_true rfl, Nat.le_of_ble_eq_true rfl⟩) 0 0 (Nat.le_of_ble_eq_true rfl) (Nat.le_of_ble_eq_true rfl) (fun rr_943 S_944 H locs hp hw hfr hnw => ?_)
      obtain ⟨hk_945, hp⟩ := hp
      have hO_946 : Ok MTK S S_944 := hO_919.call hk_945 (by decide +kernel)
      obtain ⟨g_947, g_948, g_949, g_950, g_951, g_952, g_953, g_954, g_955⟩ := hp
      obtain ⟨dn_956, dn_957⟩ : ∃ d, ((ql A))[((0 : Int)).toNat]? = some d := ⟨_, List.getElem?_eq_getElem (by have := rR_934.1; omega)⟩
      have dn_958 : rr_943.toInt = (dn_956 : Int) := by have h8 := rR_934.2 _ _ dn_957; have hi : (600 * (3 * a1_z + 2) + 0).toNat = 600 * (3 * a1_z + 2).toNat + ((0 : Int)).toNat := (by omega); rw [← hi] at h8; omega
      have t_959 : pI S_944 1201 x = v_1 := hk_945.fr.I' (by decide +kernel) t_936 t_925
      have pz_960 : (pI S_944 1201 x).toInt = v_1.toInt := (congrArg Int32.toInt t_959).trans rfl
      have zl_961 : zA S_944 x 1207 = zA S_918 x 1207 := zA_fr hk_945.fr t_936 (ex3 (gQ_12_1207 hO_919.1 t_936)) (by decide +kernel) (by decide +kernel)
      have zz_962 := congrFun zl_961 (rr_943.toInt).toNat
      have al_963 := ((MI_1 g_952 (c := rr_943.toInt) (by omega) (by omega)).2 (by omega)).2 (by omega) (by omega)
      have gi_964 := g_954 (3 * a1_z + 0).toNat; rw [if_neg (by omega)] at gi_964
      have m4_965 := g_952.2.2.2.1.2 (3 * a1_z + 0).toNat (by omega)
      refine lv_aload_n X.1 X.2.1 dX12_tick_78 rfl (lv_at hl 0 rfl) ?_
      refine lv_iload_n X.1 X.2.1 dX12_tick_79 rfl (lv_at hl 1 rfl) ?_
      refine lv_iconst (v := 0) X.1 X.2.1 dX12_tick_80 (by decide) ?_
      have t_966 : At S_944 x 12 := hk_945.fr.at t_936
      refine k_i (rm := { frames := 1, cells := 0, slots := 0, locals := 48 }) (av := [.ref x, .int (a1), .int 0]) X hw (va_runV (As := [.int (a1), .int 0]) (rest := [.int (rr_943), .int 0, .int (a1), .ref x]) (cfix X) (k_X12_many2 l G cy κ S_944 _ x (a1) (a1_z) (0) (0) hO_946.1 t_966 hz_a1 ti_0 (by first | assumption | omega) (by first | assumption | omega) (by first | assumption | omega) (by first | assumption | omega)) (cwV 2 X.2.2.2.1 gX12_tick_X12_many rfl rfl rfl (by decide +kernel) ⟨Nat.le_of_ble_eq_true rfl, Nat.le_of_ble_eq_true rfl⟩) (pre_V X hw _ t_966 rfl (by decide) rfl) rfl rfl hl.1 rfl (lv_room (Nat.le_of_ble_eq_true rfl)) dX12_tick_81 ⟨Nat.le_of_ble_eq_true rfl, Nat.le_of_ble_eq_true rfl⟩) 0 0 (Nat.le_of_ble_eq_true rfl) (Nat.le_of_ble_eq_true rfl) (fun rr_967 S_968 H locs hp hw hfr hnw => ?_)
      obtain ⟨e2, hp⟩ := hp
      subst e2
      obtain ⟨f_969, f_970, f_971⟩ := hp
      refine k_v (rm := { frames := 1, cells := 0, slots := 0, locals := 48 }) (av := [.ref x, .int (a1), .int 0, .int (rr_943), .int (rr_967)]) X hw (va_runV (As := [.int (a1), .int 0, .int (rr_943), .int (rr_967)]) (rest := []) (cfix X) (k_X12_comes5 l G cy κ S_944 _ x (a1) (a1_z) (0) (0) (rr_943) (rr_943.toInt) (rr_967) (rr_967.toInt) hO_946.1 t_966 hz_a1 ti_0 rfl rfl (by first | assumption | omega) (by first | assumption | omega) (by first | assumption | omega) (by first | assumption | omega) (by first | assumption | omega) (by first | assumption | omega) (by first | assumption | omega) (by first | assumption | omega) (by first | assumption | omega) (by first | assumption | omega) g_952 (by first | assumption | omega) (by first | assumption | omega)) (cwV 4 X.2.2.2.1 gX12_tick_X12_comes rfl rfl rfl (by decide +kernel) ⟨Nat.le_of_ble_eq_true rfl, Nat.le_of_ble_eq_true rfl⟩) (pre_V X hw _ t_966 rfl (by decide) rfl) rfl rfl hl.1 rfl (lv_room (Nat.le_of_ble_eq_true rfl)) dX12_tick_84 ⟨Nat.le_of_ble_eq_true rfl, Nat.le_of_ble_eq_true rfl⟩) 0 0 (Nat.le_of_ble_eq_true rfl) (Nat.le_of_ble_eq_true rfl) (fun S_973 H locs hp hw hfr hnw => ?_)
      obtain ⟨hk_974, hp⟩ := hp
      have hO_975 : Ok MTK S S_973 := hO_946.call hk_974 (by decide +kernel)
      obtain ⟨mi_976, cm_977, cs_978, cx_979⟩ := hp
      have t_980 : At S_973 x 12 := hk_974.fr.at t_966
      have zc_981 : zA S_29 x 1237 = zA S x 1237 := zA_sAn eS_29 (ex3 (gQ_12_1237 hO.1 ha_x)) h_21 rfl
      have zc_982 : zA S_858 x 1237 = zA S x 1237 := (zA_sAn eS_858 (ex3 (gQ_12_1237 hO_30.1 t_834)) h_837 rfl).trans zc_981
      have zc_983 : zA S_918 x 1237 = zA S x 1237 := (zA_sAn eS_918 (ex3 (gQ_12_1237 hO_859.1 t_866)) t_875 rfl).trans zc_982
      have zc_984 : zA S_944 x 1237 = zA S x 1237 := (zA_fr hk_945.fr t_936 (ex3 (gQ_12_1237 hO_919.1 t_936)) (by decide +kernel) (by decide +kernel)).trans zc_983
      have zc_985 : zA S_973 x 1237 = zA S x 1237 := (zA_fr hk_974.fr t_966 (ex3 (gQ_12_1237 hO_946.1 t_966)) (by decide +kernel) (by decide +kernel)).trans zc_984
      have zm_986 : ZM S S_29 x := ZM_eq hzm0 (zA_sAn eS_29 (ex3 (gQ_12_1207 hO.1 ha_x)) h_21 rfl)
      have zm_987 : ZM S S_858 x := ZM_eq zm_986 (zA_sAn eS_858 (ex3 (gQ_12_1207 hO_30.1 t_834)) h_837 rfl)
      have zm_988 : ZM S S_918 x := ZM_eq zm_987 (zA_sAn eS_918 (ex3 (gQ_12_1207 hO_859.1 t_866)) t_875 rfl)
      have zm_989 : ZM S S_944 x := ZM_eq zm_988 (zA_fr hk_945.fr t_936 (ex3 (gQ_12_1207 hO_919.1 t_936)) (by decide +kernel) (by decide +kernel))
      have zm_990 : ZM S S_973 x := ZM_set zm_989 cs_978 ⟨by omega, by omega⟩ ⟨by omega, by omega⟩
      have rR_991 : RowR S_944 x (3 * a1_z + 0).toNat (qb A) := RowR_gox hO_919.1 t_936 (by omega) rR_933 g_955
      have cap_993 : ((qb A)).length < 600 := by have h1 := rR_991.1; have h2 := cx_979.2.2.2.1; omega
      have rR_992 : RowR S_973 x (3 * a1_z + 0).toNat ((qb A) ++ [dn_956]) := RowR_last rR_991 (show CmO S_944 S_973 x (3 * a1_z + 0).toNat ((qb A)).length (rr_943.toInt) by rw [show ((qb A)).length = (rr_967.toInt).toNat by have := rR_991.1; omega]; exact cx_979) dn_958
      have rR_994 : RowR S_944 x (3 * a1_z + 1).toNat (qe A) := RowR_gox hO_919.1 t_936 (by omega) rR_939 g_955
      have rR_995 : RowR S_973 x (3 * a1_z + 1).toNat (qe A) := RowR_cmx hO_946.1 t_966 (by omega) rR_994 cx_979
      have rR_996 : RowR S_944 x (3 * a1_z + 2).toNat ((ql A).tail) := RowR_goes0 rR_934 g_955 (by have := rR_934.1; omega)
      have rR_997 : RowR S_973 x (3 * a1_z + 2).toNat ((ql A).tail) := RowR_cmx hO_946.1 t_966 (by omega) rR_996 cx_979
      have zR_998 : zA S_29 x 1215 a1_z.toNat = ((qst A)).toInt := (congrFun (zA_sAn eS_29 (ex3 (gQ_12_1215 hO.1 ha_x)) h_21 rfl) _).trans pw_8
      have zR_999 : zA S_858 x 1215 a1_z.toNat = ((qst A)).toInt := (congrFun (zA_sAn eS_858 (ex3 (gQ_12_1215 hO_30.1 t_834)) h_837 rfl) _).trans zR_998
      have zR_1000 : zA S_918 x 1215 a1_z.toNat = ((qst A)).toInt := (congrFun (zA_sAn eS_918 (ex3 (gQ_12_1215 hO_859.1 t_866)) t_875 rfl) _).trans zR_999
      have zR_1001 : zA S_944 x 1215 a1_z.toNat = ((qst A)).toInt := (congrFun (zA_fr hk_945.fr t_936 (ex3 (gQ_12_1215 hO_919.1 t_936)) (by decide +kernel) (by decide +kernel)) _).trans zR_1000
      have zR_1002 : zA S_973 x 1215 a1_z.toNat = ((qst A)).toInt := (congrFun (zA_fr hk_974.fr t_966 (ex3 (gQ_12_1215 hO_946.1 t_966)) (by decide +kernel) (by decide +kernel)) _).trans zR_1001
      have zR_1003 : zA S_858 x 1214 a1_z.toNat = ((qse A + 1)).toInt := (by rw [zs_862, if_pos (by omega)]; exact z_857.symm.trans (congrArg Int32.toInt (ev_856.trans (by rw [us_853]))))
      have zR_1004 : zA S_918 x 1214 a1_z.toNat = ((0 : Int32)).toInt := (by rw [zs_922, if_pos (by omega)]; decide)
      have zR_1005 : zA S_944 x 1214 a1_z.toNat = ((0 : Int32)).toInt := (congrFun (zA_fr hk_945.fr t_936 (ex3 (gQ_12_1214 hO_919.1 t_936)) (by decide +kernel) (by decide +kernel)) _).trans zR_1004
      have zR_1006 : zA S_973 x 1214 a1_z.toNat = ((0 : Int32)).toInt := (congrFun (zA_fr hk_974.fr t_966 (ex3 (gQ_12_1214 hO_946.1 t_966)) (by decide +kernel) (by decide +kernel)) _).trans zR_1005
      have zR_1007 : zA S_29 x 1216 a1_z.toNat = ((qdr A)).toInt := (congrFun (zA_sAn eS_29 (ex3 (gQ_12_1216 hO.1 ha_x)) h_21 rfl) _).trans pw_11
      have zR_1008 : zA S_858 x 1216 a1_z.toNat = ((qdr A)).toInt := (congrFun (zA_sAn eS_858 (ex3 (gQ_12_1216 hO_30.1 t_834)) h_837 rfl) _).trans zR_1007
      have zR_1009 : zA S_918 x 1216 a1_z.toNat = ((qdr A)).toInt := (congrFun (zA_sAn eS_918 (ex3 (gQ_12_1216 hO_859.1 t_866)) t_875 rfl) _).trans zR_1008
      have zR_1010 : zA S_944 x 1216 a1_z.toNat = ((qdr A)).toInt := (congrFun (zA_fr hk_945.fr t_936 (ex3 (gQ_12_1216 hO_919.1 t_936)) (by decide +kernel) (by decide +kernel)) _).trans zR_1009
      have zR_1011 : zA S_973 x 1216 a1_z.toNat = ((qdr A)).toInt := (congrFun (zA_fr hk_974.fr t_966 (ex3 (gQ_12_1216 hO_946.1 t_966)) (by decide +kernel) (by decide +kernel)) _).trans zR_1010
      have zR_1012 : zA S_29 x 1217 a1_z.toNat = ((qtk A + 1)).toInt := (by rw [zs_33, if_pos (by omega)]; exact (congrArg Int32.toInt (ev_27.trans (by rw [us_26]))))
      have zR_1013 : zA S_858 x 1217 a1_z.toNat = ((qtk A + 1)).toInt := (congrFun (zA_sAn eS_858 (ex3 (gQ_12_1217 hO_30.1 t_834)) h_837 rfl) _).trans zR_1012
      have zR_1014 : zA S_918 x 1217 a1_z.toNat = ((qtk A + 1)).toInt := (congrFun (zA_sAn eS_918 (ex3 (gQ_12_1217 hO_859.1 t_866)) t_875 rfl) _).trans zR_1013
      have zR_1015 : zA S_944 x 1217 a1_z.toNat = ((qtk A + 1)).toInt := (congrFun (zA_fr hk_945.fr t_936 (ex3 (gQ_12_1217 hO_919.1 t_936)) (by decide +kernel) (by decide +kernel)) _).trans zR_1014
      have zR_1016 : zA S_973 x 1217 a1_z.toNat = ((qtk A + 1)).toInt := (congrFun (zA_fr hk_974.fr t_966 (ex3 (gQ_12_1217 hO_946.1 t_966)) (by decide +kernel) (by decide +kernel)) _).trans zR_1015
      have gR_1017 : zA S_29 x 1237 a1_z.toNat = (((qg A)).length : Int) := (congrFun (zA_sAn eS_29 (ex3 (gQ_12_1237 hO.1 ha_x)) h_21 rfl) _).trans pw_10
      have gR_1018 : zA S_858 x 1237 a1_z.toNat = (((qg A)).length : Int) := (congrFun (zA_sAn eS_858 (ex3 (gQ_12_1237 hO_30.1 t_834)) h_837 rfl) _).trans gR_1017
      have gR_1019 : zA S_918 x 1237 a1_z.toNat = (((qg A)).length : Int) := (congrFun (zA_sAn eS_918 (ex3 (gQ_12_1237 hO_859.1 t_866)) t_875 rfl) _).trans gR_1018
      have gR_1020 : zA S_944 x 1237 a1_z.toNat = (((qg A)).length : Int) := (congrFun (zA_fr hk_945.fr t_936 (ex3 (gQ_12_1237 hO_919.1 t_936)) (by decide +kernel) (by decide +kernel)) _).trans gR_1019
      have gR_1021 : zA S_973 x 1237 a1_z.toNat = (((qg A)).length : Int) := (congrFun (zA_fr hk_974.fr t_966 (ex3 (gQ_12_1237 hO_946.1 t_966)) (by decide +kernel) (by decide +kernel)) _).trans gR_1020
      have pz_1022 : PlZ S_29 x (qpl A) (qsd A) := PlZ_eq pw_14 (zA_sAn eS_29 (ex3 (gQ_12_1208 hO.1 ha_x)) h_21 rfl) (zA_sAn eS_29 (ex3 (gQ_12_1207 hO.1 ha_x)) h_21 rfl)
      have pz_1023 : PlZ S_858 x (qpl A) (qsd A) := PlZ_eq pz_1022 (zA_sAn eS_858 (ex3 (gQ_12_1208 hO_30.1 t_834)) h_837 rfl) (zA_sAn eS_858 (ex3 (gQ_12_1207 hO_30.1 t_834)) h_837 rfl)
      have pz_1024 : PlZ S_918 x (qpl A) (qsd A) := PlZ_eq pz_1023 (zA_sAn eS_918 (ex3 (gQ_12_1208 hO_859.1 t_866)) t_875 rfl) (zA_sAn eS_918 (ex3 (gQ_12_1207 hO_859.1 t_866)) t_875 rfl)
      have pz_1025 : PlZ S_944 x (qpl A) (qsd A) := PlZ_eq pz_1024 (zA_fr hk_945.fr t_936 (ex3 (gQ_12_1208 hO_919.1 t_936)) (by decide +kernel) (by decide +kernel)) (zA_fr hk_945.fr t_936 (ex3 (gQ_12_1207 hO_919.1 t_936)) (by decide +kernel) (by decide +kernel))
      have pz_1026 : PlZ S_973 x (qpl A) (fuI (qsd A) dn_956 1) := PlZ_7 pz_1025 (zA_fr hk_974.fr t_966 (ex3 (gQ_12_1208 hO_946.1 t_966)) (by decide +kernel) (by decide +kernel)) cs_978 (by omega) (by decide)
      have t_1027 : pI S_29 1238 x = v_15 := tI_sA eS_29 ev_15
      have t_1028 : pI S_858 1238 x = v_15 := tI_sA eS_858 t_1027
      have t_1029 : pI S_918 1238 x = v_15 := tI_sA eS_918 t_1028
      have t_1030 : pI S_944 1238 x = v_15 := hk_945.fr.I' (by decide +kernel) t_936 t_1029
      have t_1031 : pI S_973 1238 x = v_15 := hk_974.fr.I' (by decide +kernel) t_966 t_1030
      have pz_1032 : (pI S_973 1238 x).toInt = v_15.toInt := (congrArg Int32.toInt t_1031).trans rfl
      have px_1033 : PwX S S_29 x a1_z := PwX_z (PwX_rf S x a1_z) (zA_sAn eS_29 (ex3 (gQ_12_1218 hO.1 ha_x)) h_21 rfl) (zA_sAn eS_29 (ex3 (gQ_12_1219 hO.1 ha_x)) h_21 rfl) zs_33 (by omega) (pw4 (fun _ => zA_sAn eS_29 (ex3 (gQ_12_1214 hO.1 ha_x)) h_21 rfl) (fun _ => zA_sAn eS_29 (ex3 (gQ_12_1215 hO.1 ha_x)) h_21 rfl) (fun _ => zA_sAn eS_29 (ex3 (gQ_12_1216 hO.1 ha_x)) h_21 rfl) (fun h => absurd rfl h) (fun _ => zA_sAn eS_29 (ex3 (gQ_12_1237 hO.1 ha_x)) h_21 rfl))
      have px_1034 : PwX S S_858 x a1_z := PwX_z px_1033 (zA_sAn eS_858 (ex3 (gQ_12_1218 hO_30.1 t_834)) h_837 rfl) (zA_sAn eS_858 (ex3 (gQ_12_1219 hO_30.1 t_834)) h_837 rfl) zs_862 (by omega) (pw4 (fun h => absurd rfl h) (fun _ => zA_sAn eS_858 (ex3 (gQ_12_1215 hO_30.1 t_834)) h_837 rfl) (fun _ => zA_sAn eS_858 (ex3 (gQ_12_1216 hO_30.1 t_834)) h_837 rfl) (fun _ => zA_sAn eS_858 (ex3 (gQ_12_1217 hO_30.1 t_834)) h_837 rfl) (fun _ => zA_sAn eS_858 (ex3 (gQ_12_1237 hO_30.1 t_834)) h_837 rfl))
      have px_1035 : PwX S S_918 x a1_z := PwX_z px_1034 (zA_sAn eS_918 (ex3 (gQ_12_1218 hO_859.1 t_866)) t_875 rfl) (zA_sAn eS_918 (ex3 (gQ_12_1219 hO_859.1 t_866)) t_875 rfl) zs_922 (by omega) (pw4 (fun h => absurd rfl h) (fun _ => zA_sAn eS_918 (ex3 (gQ_12_1215 hO_859.1 t_866)) t_875 rfl) (fun _ => zA_sAn eS_918 (ex3 (gQ_12_1216 hO_859.1 t_866)) t_875 rfl) (fun _ => zA_sAn eS_918 (ex3 (gQ_12_1217 hO_859.1 t_866)) t_875 rfl) (fun _ => zA_sAn eS_918 (ex3 (gQ_12_1237 hO_859.1 t_866)) t_875 rfl))
      have px_1036 : PwX S S_944 x a1_z := PwX_go px_1035 hO_919.1 t_936 (by omega) g_955 (pw5 (zA_fr hk_945.fr t_936 (ex3 (gQ_12_1214 hO_919.1 t_936)) (by decide +kernel) (by decide +kernel)) (zA_fr hk_945.fr t_936 (ex3 (gQ_12_1215 hO_919.1 t_936)) (by decide +kernel) (by decide +kernel)) (zA_fr hk_945.fr t_936 (ex3 (gQ_12_1216 hO_919.1 t_936)) (by decide +kernel) (by decide +kernel)) (zA_fr hk_945.fr t_936 (ex3 (gQ_12_1217 hO_919.1 t_936)) (by decide +kernel) (by decide +kernel)) (zA_fr hk_945.fr t_936 (ex3 (gQ_12_1237 hO_919.1 t_936)) (by decide +kernel) (by decide +kernel)))
      have px_1037 : PwX S S_973 x a1_z := PwX_cm px_1036 hO_946.1 t_966 (by omega) cx_979 (pw5 (zA_fr hk_974.fr t_966 (ex3 (gQ_12_1214 hO_946.1 t_966)) (by decide +kernel) (by decide +kernel)) (zA_fr hk_974.fr t_966 (ex3 (gQ_12_1215 hO_946.1 t_966)) (by decide +kernel) (by decide +kernel)) (zA_fr hk_974.fr t_966 (ex3 (gQ_12_1216 hO_946.1 t_966)) (by decide +kernel) (by decide +kernel)) (zA_fr hk_974.fr t_966 (ex3 (gQ_12_1217 hO_946.1 t_966)) (by decide +kernel) (by decide +kernel)) (zA_fr hk_974.fr t_966 (ex3 (gQ_12_1237 hO_946.1 t_966)) (by decide +kernel) (by decide +kernel)))
      have t_1038 : pI S_973 1201 x = v_1 := hk_974.fr.I' (by decide +kernel) t_966 t_959
      exact L_35 _ _ _ _  hw t_980 hO_975 mi_976 (GR_eq zc_985 hp_3) zm_990 (PotW_of (B := pmk ((qb A) ++ [dn_956]) (qe A) ((ql A).tail) (qst A) (0 : Int32) (qg A) (qpl A) (fuI (qsd A) dn_956 1) (qsk A) (qws A) (qdr A) (qtk A + 1)) ((seaF_f (A := (wtk A (qtk A + 1))) (show ql A ≠ [] from fun z => by have e0 := congrArg List.length z; have e1 : ([] : List Nat).length = 0 := rfl; have := pw_7.1; omega) (show ¬ (qse (wtk A (qtk A + 1)) + 1).toInt < (efind Ev).toInt by have e2 : (qse A + 1).toInt = (v_849.toInt + 1) := (congrArg Int32.toInt (ev_856.trans (by rw [us_853]))).symm.trans z_857; show ¬ (qse A + 1).toInt < _; omega)).trans ((fetF_c (A := wse (wtk A (qtk A + 1)) 0) (hd_cons dn_957)).trans (by rw [capL_y (show (qb (wse (wtk A (qtk A + 1)) 0)).length < 600 from cap_993)]; show wse (wl (wb (wsd (wse (wtk A (qtk A + 1)) 0) (fuI (qsd A) dn_956 1)) (qb A ++ [dn_956])) (ql A).tail) (if (ql A).tail = [] then (0 : Int32) else 0) = _; rw [ite_s]; rfl))) rR_992 rR_995 rR_997 zR_1002 zR_1006 gR_1021 zR_1011 zR_1016 (show (pI S_973 1238 x).toInt = (((qsk A)).length : Int) by omega) pz_1026) px_1037 t_1038 (lv_sub hl [0, 1] rfl)
  · have z_b_1039 := trivial
    have k_1040 : rr_841.toInt = 0 := z_eq rfl ti_0 c_846
    refine lv_iconst (v := 0) X.1 X.2.1 dX12_tick_24 (by decide) ?_
    refine lv_goto (tgt := 36) X.1 X.2.1 dX12_tick_25 (by decide) ?_
    refine r_iast X hw h_837 rfl (by rw [h_838]; exact z_ix hz_a1 (by omega) (by omega)) dX12_tick_36 (fun H locs hw => ?_)
    obtain ⟨S_1041, eS_1041⟩ : ∃ T, T = sA S_29 q_835 (upd (pA S_29 q_835) (Int32.toNatClampNeg (a1)) (0)) := ⟨_, rfl⟩
    rw [← eS_1041] at hw
    have hO_1042 : Ok MTK S S_1041 := hO_30.sA eS_1041 h_837 (by decide +kernel) (uA_494 hO_30.1 h_837)
    have h_1043 : pA S_1041 q_835 (Int32.toNatClampNeg (a1)) = 0 := tA_sAs eS_1041
    have t_1044 : pR S_1041 1214 x = some q_835 := tR_sA eS_1041 h_836
    have t_1046 : pR S_29 1214 x = some q_835 := by have h := t_1044; rw [eS_1041, pR_sA] at h; exact h
    have zs_1045 : ∀ j, zA S_1041 x 1214 j = if j = (a1_z).toNat then 0 else zA S_29 x 1214 j := by have h := zA_sAs eS_1041 t_1046 ti_0; rw [z_nc hz_a1 (by omega)] at h; exact h
    refine lv_aload_n X.1 X.2.1 dX12_tick_37 rfl (lv_at hl 0 rfl) ?_
    refine lv_iload_n X.1 X.2.1 dX12_tick_38 rfl (lv_at hl 1 rfl) ?_
    refine lv_iconst (v := 2) X.1 X.2.1 dX12_tick_39 (by decide) ?_
    have rR_1047 : RowR S_1041 x (3 * a1_z + 2).toNat (ql A) := RowR_eq rR_839 (zA_sAn eS_1041 (ex3 (gQ_12_1218 hO_30.1 t_834)) h_837 rfl) (zA_sAn eS_1041 (ex3 (gQ_12_1219 hO_30.1 t_834)) h_837 rfl)
    have ln_1048 : zA S_1041 x 1219 (3 * a1_z + 2).toNat = (((ql A)).length : Int) := rR_1047.1
    have t_1049 : At S_1041 x 12 := tAt_sA eS_1041 t_834
    refine k_i (rm := { frames := 1, cells := 0, slots := 0, locals := 48 }) (av := [.ref x, .int (a1), .int 2]) X hw (va_runV (As := [.int (a1), .int 2]) (rest := []) (cfix X) (k_X12_many2 l G cy κ S_1041 _ x (a1) (a1_z) (2) (2) hO_1042.1 t_1049 hz_a1 ti_2 (by first | assumption | omega) (by first | assumption | omega) (by first | assumption | omega) (by first | assumption | omega)) (cwV 2 X.2.2.2.1 gX12_tick_X12_many rfl rfl rfl (by decide +kernel) ⟨Nat.le_of_ble_eq_true rfl, Nat.le_of_ble_eq_true rfl⟩) (pre_V X hw _ t_1049 rfl (by decide) rfl) rfl rfl hl.1 rfl (lv_room (Nat.le_of_ble_eq_true rfl)) dX12_tick_40 ⟨Nat.le_of_ble_eq_true rfl, Nat.le_of_ble_eq_true rfl⟩) 0 0 (Nat.le_of_ble_eq_true rfl) (Nat.le_of_ble_eq_true rfl) (fun rr_1050 S_1051 H locs hp hw hfr hnw => ?_)
    obtain ⟨e2, hp⟩ := hp
    subst e2
    obtain ⟨f_1052, f_1053, f_1054⟩ := hp
    refine lv_if_le (tgt := 87) X.1 X.2.1 dX12_tick_43 (by decide) (fun c_1055 => ?_) (fun c_1055 => ?_)
    rotate_left
    · exfalso
      have k_1056 : rr_1050.toInt > 0 := z_nle rfl ti_0 c_1055
      omega
    have k_1057 : rr_1050.toInt ≤ 0 := z_le rfl ti_0 c_1055
    have mi_1058 : MIe S_29 x (-1) := MIe_sA hp_2 hO.1 ha_x h_21 eS_29 (by decide +kernel)
    have mi_1059 : MIe S_1041 x (-1) := MIe_sA mi_1058 hO_30.1 t_834 h_837 eS_1041 (by decide +kernel)
    have zc_1060 : zA S_29 x 1237 = zA S x 1237 := zA_sAn eS_29 (ex3 (gQ_12_1237 hO.1 ha_x)) h_21 rfl
    have zc_1061 : zA S_1041 x 1237 = zA S x 1237 := (zA_sAn eS_1041 (ex3 (gQ_12_1237 hO_30.1 t_834)) h_837 rfl).trans zc_1060
    have zm_1062 : ZM S S_29 x := ZM_eq hzm0 (zA_sAn eS_29 (ex3 (gQ_12_1207 hO.1 ha_x)) h_21 rfl)
    have zm_1063 : ZM S S_1041 x := ZM_eq zm_1062 (zA_sAn eS_1041 (ex3 (gQ_12_1207 hO_30.1 t_834)) h_837 rfl)
    have rR_1064 : RowR S_29 x (3 * a1_z + 0).toNat (qb A) := RowR_eq pw_5 (zA_sAn eS_29 (ex3 (gQ_12_1218 hO.1 ha_x)) h_21 rfl) (zA_sAn eS_29 (ex3 (gQ_12_1219 hO.1 ha_x)) h_21 rfl)
    have rR_1065 : RowR S_1041 x (3 * a1_z + 0).toNat (qb A) := RowR_eq rR_1064 (zA_sAn eS_1041 (ex3 (gQ_12_1218 hO_30.1 t_834)) h_837 rfl) (zA_sAn eS_1041 (ex3 (gQ_12_1219 hO_30.1 t_834)) h_837 rfl)
    have rR_1066 : RowR S_29 x (3 * a1_z + 1).toNat (qe A) := RowR_eq pw_6 (zA_sAn eS_29 (ex3 (gQ_12_1218 hO.1 ha_x)) h_21 rfl) (zA_sAn eS_29 (ex3 (gQ_12_1219 hO.1 ha_x)) h_21 rfl)
    have rR_1067 : RowR S_1041 x (3 * a1_z + 1).toNat (qe A) := RowR_eq rR_1066 (zA_sAn eS_1041 (ex3 (gQ_12_1218 hO_30.1 t_834)) h_837 rfl) (zA_sAn eS_1041 (ex3 (gQ_12_1219 hO_30.1 t_834)) h_837 rfl)
    have zR_1068 : zA S_29 x 1215 a1_z.toNat = ((qst A)).toInt := (congrFun (zA_sAn eS_29 (ex3 (gQ_12_1215 hO.1 ha_x)) h_21 rfl) _).trans pw_8
    have zR_1069 : zA S_1041 x 1215 a1_z.toNat = ((qst A)).toInt := (congrFun (zA_sAn eS_1041 (ex3 (gQ_12_1215 hO_30.1 t_834)) h_837 rfl) _).trans zR_1068
    have zR_1070 : zA S_29 x 1214 a1_z.toNat = ((qse A)).toInt := (congrFun (zA_sAn eS_29 (ex3 (gQ_12_1214 hO.1 ha_x)) h_21 rfl) _).trans pw_9
    have zR_1071 : zA S_1041 x 1214 a1_z.toNat = ((0 : Int32)).toInt := (by rw [zs_1045, if_pos (by omega)]; decide)
    have zR_1072 : zA S_29 x 1216 a1_z.toNat = ((qdr A)).toInt := (congrFun (zA_sAn eS_29 (ex3 (gQ_12_1216 hO.1 ha_x)) h_21 rfl) _).trans pw_11
    have zR_1073 : zA S_1041 x 1216 a1_z.toNat = ((qdr A)).toInt := (congrFun (zA_sAn eS_1041 (ex3 (gQ_12_1216 hO_30.1 t_834)) h_837 rfl) _).trans zR_1072
    have zR_1074 : zA S_29 x 1217 a1_z.toNat = ((qtk A + 1)).toInt := (by rw [zs_33, if_pos (by omega)]; exact (congrArg Int32.toInt (ev_27.trans (by rw [us_26]))))
    have zR_1075 : zA S_1041 x 1217 a1_z.toNat = ((qtk A + 1)).toInt := (congrFun (zA_sAn eS_1041 (ex3 (gQ_12_1217 hO_30.1 t_834)) h_837 rfl) _).trans zR_1074
    have gR_1076 : zA S_29 x 1237 a1_z.toNat = (((qg A)).length : Int) := (congrFun (zA_sAn eS_29 (ex3 (gQ_12_1237 hO.1 ha_x)) h_21 rfl) _).trans pw_10
    have gR_1077 : zA S_1041 x 1237 a1_z.toNat = (((qg A)).length : Int) := (congrFun (zA_sAn eS_1041 (ex3 (gQ_12_1237 hO_30.1 t_834)) h_837 rfl) _).trans gR_1076
    have pz_1078 : PlZ S_29 x (qpl A) (qsd A) := PlZ_eq pw_14 (zA_sAn eS_29 (ex3 (gQ_12_1208 hO.1 ha_x)) h_21 rfl) (zA_sAn eS_29 (ex3 (gQ_12_1207 hO.1 ha_x)) h_21 rfl)
    have pz_1079 : PlZ S_1041 x (qpl A) (qsd A) := PlZ_eq pz_1078 (zA_sAn eS_1041 (ex3 (gQ_12_1208 hO_30.1 t_834)) h_837 rfl) (zA_sAn eS_1041 (ex3 (gQ_12_1207 hO_30.1 t_834)) h_837 rfl)
    have t_1080 : pI S_29 1238 x = v_15 := tI_sA eS_29 ev_15
    have t_1081 : pI S_1041 1238 x = v_15 := tI_sA eS_1041 t_1080
    have pz_1082 : (pI S_1041 1238 x).toInt = v_15.toInt := (congrArg Int32.toInt t_1081).trans rfl
    have px_1083 : PwX S S_29 x a1_z := PwX_z (PwX_rf S x a1_z) (zA_sAn eS_29 (ex3 (gQ_12_1218 hO.1 ha_x)) h_21 rfl) (zA_sAn eS_29 (ex3 (gQ_12_1219 hO.1 ha_x)) h_21 rfl) zs_33 (by omega) (pw4 (fun _ => zA_sAn eS_29 (ex3 (gQ_12_1214 hO.1 ha_x)) h_21 rfl) (fun _ => zA_sAn eS_29 (ex3 (gQ_12_1215 hO.1 ha_x)) h_21 rfl) (fun _ => zA_sAn eS_29 (ex3 (gQ_12_1216 hO.1 ha_x)) h_21 rfl) (fun h => absurd rfl h) (fun _ => zA_sAn eS_29 (ex3 (gQ_12_1237 hO.1 ha_x)) h_21 rfl))
    have px_1084 : PwX S S_1041 x a1_z := PwX_z px_1083 (zA_sAn eS_1041 (ex3 (gQ_12_1218 hO_30.1 t_834)) h_837 rfl) (zA_sAn eS_1041 (ex3 (gQ_12_1219 hO_30.1 t_834)) h_837 rfl) zs_1045 (by omega) (pw4 (fun h => absurd rfl h) (fun _ => zA_sAn eS_1041 (ex3 (gQ_12_1215 hO_30.1 t_834)) h_837 rfl) (fun _ => zA_sAn eS_1041 (ex3 (gQ_12_1216 hO_30.1 t_834)) h_837 rfl) (fun _ => zA_sAn eS_1041 (ex3 (gQ_12_1217 hO_30.1 t_834)) h_837 rfl) (fun _ => zA_sAn eS_1041 (ex3 (gQ_12_1237 hO_30.1 t_834)) h_837 rfl))
    have t_1085 : pI S_1041 1201 x = v_1 := tI_sA eS_1041 t_43
    exact L_35 _ _ _ _  hw t_1049 hO_1042 mi_1059 (GR_eq zc_1061 hp_3) zm_1063 (PotW_of ((seaF_n (A := (wtk A (qtk A + 1))) (show ql A = [] from List.eq_nil_of_length_eq_zero (by have := pw_7.1; omega))).trans (wse_id (A := (wtk A (qtk A + 1))) (hp_7.1 (show ql A = [] from List.eq_nil_of_length_eq_zero (by have := pw_7.1; omega)))).symm) rR_1065 rR_1067 rR_1047 zR_1069 zR_1071 gR_1077 zR_1073 zR_1075 (show (pI S_1041 1238 x).toInt = (((qsk A)).length : Int) by omega) pz_1079) px_1084 t_1085 (lv_sub hl [0, 1] rfl)
