/-! ===== the reference's tick ===== -/
theorem wse_id {A : Pt} {v : Int32} (h : qse A = v) : wse A v = A := by
  subst h
  rfl
theorem er_app {L t : List Nat} {c : Nat} : (L ++ c :: t).eraseIdx L.length = L ++ t := by
  induction L with
  | nil => rfl
  | cons a s ih =>
    show a :: (s ++ c :: t).eraseIdx s.length = a :: (s ++ t)
    rw [ih]
theorem ix_app {L t : List Nat} {c : Nat} : (L ++ c :: t)[L.length]? = some c := by
  rw [List.getElem?_append_right (Nat.le_refl _), Nat.sub_self]
  rfl
theorem fol_s {E : En} {dn : List Nat} {c : Nat} {A : Pt} : folF E (dn ++ [c]) A = endK E (folF E dn A) c := by
  rw [folF_app]
  rfl
theorem dr_end {E : En} {A B : Pt} {dn rs : List Nat} (hA : qe B = dn ++ rs) (hr : rs = []) (h12 : (qe B).length ≤ 12) : we (folF E dn (we B [])) (qe (folF E dn (we B [])) ++ rs) = endsF E (qe B).length B := by
  subst hr
  rw [List.append_nil] at hA
  rw [← hA, ends_all h12, List.append_nil]
  rfl
theorem sdV_4 {E : En} {A : Pt} {c : Nat} (h : (elen E c).toInt ≤ (qpl A c + 1).toInt) : sdV E A c = 4 := if_pos h
theorem sdV_3 {E : En} {A : Pt} {c : Nat} (h : ¬ (elen E c).toInt ≤ (qpl A c + 1).toInt) (hb : ebr E c (qpl A c)) : sdV E A c = 3 := (if_neg h).trans (if_pos hb)
theorem sdV_s {E : En} {A : Pt} {c : Nat} (h : ¬ (elen E c).toInt ≤ (qpl A c + 1).toInt) (hb : ¬ ebr E c (qpl A c)) : sdV E A c = qsd A c := (if_neg h).trans (if_neg hb)
theorem ite_s {α : Type} {p : Prop} [Decidable p] {a : α} : (if p then a else a) = a := by
  split <;> rfl
theorem capG_l {g : List Mt} {m : Mt} (h : g.length < 300) : ((capG g m).length : Int) = (g.length : Int) + 1 := capG_y h
theorem qg_end {E : En} {A : Pt} {c : Nat} : qg (endK E A c) = qg A := by
  by_cases k2 : sdV E A c = 2
  · rw [endK_2 k2]; rfl
  · by_cases k3 : sdV E A c = 3
    · rw [endK_3 k3]; rfl
    · rw [endK_n k2 k3]; rfl
theorem PotW_sI {S T : PS} {x g a : Nat} {p : Int} {v : Int32} {A : Pt} (h : PotW S x p A) (e : T = sI S g a v) (hg : 1238 ≠ g) : PotW T x p A := by
  obtain ⟨h0, h1, h2, h3, h4, h5, h6, h7, h8, h9⟩ := h
  have z : ∀ k, zA T x k = zA S x k := fun k => zA_sI e
  refine ⟨RowR_eq h0 (z _) (z _), RowR_eq h1 (z _) (z _), RowR_eq h2 (z _) (z _), by rw [z]; exact h3, by rw [z]; exact h4, by rw [z]; exact h5, by rw [z]; exact h6, by rw [z]; exact h7, ?_, PlZ_eq h9 (z _) (z _)⟩
  rw [e, pI_sI_nf hg]
  exact h8
theorem PlZ_st {S : PS} {x d : Nat} {v : Int32} {pl sd : Nat → Int32} (h : PlZ S x pl sd) (e : v = sd d) : PlZ S x pl (fuI sd d v) := fun c hc => by
  refine ⟨(h c hc).1, ?_⟩
  unfold fuI
  by_cases z : c = d
  · rw [if_pos z, e, ← z]; exact (h c hc).2
  · rw [if_neg z]; exact (h c hc).2

set_option maxHeartbeats 4000000 in
set_option maxRecDepth 100000 in
theorem k_X12_tick6 (l : Launch) (G : va_G) (cy : Nat → ClassId) (κ : Nat → Nat) (S : PS) (sz : Nat) (x : Nat) (a1 : Int32) (a1_z : Int) (A : Pt) (Ev : En) (Rl : List Ru) (hG : GX S) (ha_x : At S x 12) (hz_a1 : a1.toInt = a1_z) (hp_0 : 0 ≤ a1_z) (hp_1 : a1_z ≤ 3) (hp_2 : MI S x) (hp_3 : GR S x) (hp_4 : PotW S x a1_z A) (hp_5 : EnR S x a1_z Ev) (hp_6 : RuR S x a1_z Rl) (hp_7 : IvQ (efind Ev).toInt A) (hp_8 : 1 ≤ (efind Ev).toInt) : Ci l yX12_tick wsX12_tick ({ frames := 8, cells := 0, slots := 0, locals := 384 }) G cy κ S sz [.ref x, .int (a1)] (fun (r : Int32) (S9 : PS) => Ok MTK S S9 ∧ (((MI S9 x ∧ GR S9 x ∧ ZM S S9 x ∧ PotW S9 x a1_z (ticF Ev Rl A).1 ∧ PwX S S9 x a1_z ∧ (ticF Ev Rl A).2) ∧ r = 1) ∨ ((MI S9 x ∧ GR S9 x ∧ ZM S S9 x ∧ PotW S9 x a1_z (ticF Ev Rl A).1 ∧ PwX S S9 x a1_z ∧ ¬ (ticF Ev Rl A).2) ∧ r = 0))) := by
  refine ent_m (cc := cX12_tick) (maxL := 6) (ret := (some .boolean)) (by decide) rfl (Nat.le_of_ble_eq_true rfl) ?_
  intro p e s m below meth c ls X hr hlocks hin hw hl hsz
  subst hsz
  have X : Cx p c cX12_tick 6 s [.ref x, .int (a1)].toArray wsX12_tick RX12 m G cy κ (AS S s.heap.size) := X
  have hl : lv_has ls 6 [(0, .ref x), (1, .int (a1))] := hl
  have rg_a1 : (-2147483648) ≤ a1_z ∧ a1_z ≤ 2147483647 := by rw [← hz_a1]; exact ⟨z_lo _, z_hi _⟩
  have hO : Ok MTK S S := Ok.rf hG
  generalize hQQ : MQ below _ _ _ _ _ _ = QQ
  replace hQQ := hQQ.symm
  obtain ⟨v_1, ev_1⟩ : ∃ v, pI S 1201 x = v := ⟨_, rfl⟩
  have rg_2 := gI_12_1201 hO.1 ha_x; rw [ev_1] at rg_2
  have pz_3 : (pI S 1201 x).toInt = v_1.toInt := by rw [ev_1]
  have pz_4 : (pI S 1201 x).toInt = v_1.toInt := (congrArg Int32.toInt ev_1).trans rfl
  have hzm0 : ZM S S x := ZM_rf S x
  have hpw := hp_4
  obtain ⟨pw_5, pw_6, pw_7, pw_8, pw_9, pw_10, pw_11, pw_12, pw_13, pw_14⟩ := hpw
  obtain ⟨v_15, ev_15⟩ : ∃ v, pI S 1238 x = v := ⟨_, rfl⟩
  have rg_16 := gI_12_1238 hO.1 ha_x; rw [ev_15] at rg_16
  have pz_17 : (pI S 1238 x).toInt = v_15.toInt := by rw [ev_15]
  have pz_18 : (pI S 1238 x).toInt = v_15.toInt := (congrArg Int32.toInt ev_15).trans rfl
  refine lv_aload_n X.1 X.2.1 dX12_tick_0 rfl (lv_at hl 0 rfl) ?_
  obtain ⟨q_19, h_20, h_21, h_22⟩ := gQ_12_1217 hO.1 ha_x
  refine r_getR (g := 1217) X hw ha_x rfl 17 h_20 (by decide) rfl inn_X12_tick_12 (by decide) (X.2.2.2.1 (.fieldLink RX12 52 "SilkMillModel" "ticksEver" "[I") (by decide +kernel)) rfl (gv_1217 _ _) dX12_tick_1 ?_
  refine lv_iload_n X.1 X.2.1 dX12_tick_4 rfl (lv_at hl 1 rfl) ?_
  refine lv_dup2_11 X.1 X.2.1 dX12_tick_5 rfl rfl ?_
  refine r_iald X hw h_21 rfl (by rw [h_22]; exact z_ix hz_a1 (by omega) (by omega)) dX12_tick_6 ?_
  refine lv_topi (fun v_23 ev_23 => ?_)
  have rg_24 := And.intro (z_lo v_23) (z_hi v_23)
  have ev_23 := ev_23.symm
  have zf_25 : zA S x 1217 (a1_z).toNat = v_23.toInt := (zA_of h_20 hz_a1 (by omega) ev_23)
  have us_26 : v_23 = (qtk A) := Int32.toInt_inj.mp (rfl.trans (zf_25.symm.trans pw_12))
  refine lv_iconst (v := 1) X.1 X.2.1 dX12_tick_7 (by decide) ?_
  refine lv_iadd X.1 X.2.1 dX12_tick_8 ?_
  refine lv_topi (fun v_27 ev_27 => ?_)
  have rg_28 := And.intro (z_lo v_27) (z_hi v_27)
  refine r_iast X hw h_21 rfl (by rw [h_22]; exact z_ix hz_a1 (by omega) (by omega)) dX12_tick_9 (fun H locs hw => ?_)
  obtain ⟨S_29, eS_29⟩ : ∃ T, T = sA S q_19 (upd (pA S q_19) (Int32.toNatClampNeg (a1)) (v_27)) := ⟨_, rfl⟩
  rw [← eS_29] at hw
  have hO_30 : Ok MTK S S_29 := hO.sA eS_29 h_21 (by decide +kernel) (uA_554 hO.1 h_21)
  have h_31 : pA S_29 q_19 (Int32.toNatClampNeg (a1)) = v_27 := tA_sAs eS_29
  have t_32 : pR S_29 1217 x = some q_19 := tR_sA eS_29 h_20
  have t_34 : pR S 1217 x = some q_19 := by have h := t_32; rw [eS_29, pR_sA] at h; exact h
  have zs_33 : ∀ j, zA S_29 x 1217 j = if j = (a1_z).toNat then v_27.toInt else zA S x 1217 j := by have h := zA_sAs eS_29 t_34 rfl; rw [z_nc hz_a1 (by omega)] at h; exact h
  have t_43 : pI S_29 1201 x = v_1 := tI_sA eS_29 ev_1
  have L_35 : ∀ (T_36 : PS) (H : Heap) (locs : List Loc) (ls : Array Slot) , (Wd G cy (AS S s.heap.size) s.heap T_36 H locs) → (At T_36 x 12) → (Ok MTK S T_36) → (MIe T_36 x (-1)) → (GR T_36 x) → (ZM S T_36 x) → (PotW T_36 x a1_z (seaF Ev (wtk A (qtk A + 1)))) → (PwX S T_36 x a1_z) → (pI T_36 1201 x = v_1) → (lv_has ls 6 [(0, .ref x), (1, .int (a1))]) → W p l e ({ frames := 8, cells := 0, slots := 0, locals := 384 }) s m [.ref x, .int (a1)].toArray below meth c H locs 0 0 QQ (F0 m 87 ls []) := by
    intro T_36 H locs ls  hw ha_x_L_37 hO_T_36 mk_38 iv_39 iv_40 iv_41 iv_42 ik_44 hl
    have pz_45 : (pI T_36 1201 x).toInt = v_1.toInt := (congrArg Int32.toInt ik_44).trans rfl
    have hpw_46 := iv_41
    obtain ⟨pw_47, pw_48, pw_49, pw_50, pw_51, pw_52, pw_53, pw_54, pw_55, pw_56⟩ := hpw_46
    obtain ⟨v_57, ev_57⟩ : ∃ v, pI T_36 1238 x = v := ⟨_, rfl⟩
    have rg_58 := gI_12_1238 hO_T_36.1 ha_x_L_37; rw [ev_57] at rg_58
    have pz_59 : (pI T_36 1238 x).toInt = v_57.toInt := by rw [ev_57]
    have pz_60 : (pI T_36 1238 x).toInt = v_57.toInt := (congrArg Int32.toInt ev_57).trans rfl
    refine lv_aload_n X.1 X.2.1 dX12_tick_87 rfl (lv_at hl 0 rfl) ?_
    have L_61 : ∀ (T_62 : PS) (H : Heap) (locs : List Loc) (ls : Array Slot) , (Wd G cy (AS S s.heap.size) s.heap T_62 H locs) → (At T_62 x 12) → (Ok MTK S T_62) → (MIe T_62 x (-1)) → (GR T_62 x) → (ZM S T_62 x) → (PotW T_62 x a1_z (ticB Ev Rl A)) → (PwX S T_62 x a1_z) → (pI T_62 1201 x = v_1) → (lv_has ls 6 [(0, .ref x), (1, .int (a1))]) → W p l e ({ frames := 8, cells := 0, slots := 0, locals := 384 }) s m [.ref x, .int (a1)].toArray below meth c H locs 0 0 QQ (F0 m 137 ls []) := by
      intro T_62 H locs ls  hw ha_x_L_63 hO_T_62 mk_64 iv_65 iv_66 iv_67 iv_68 ik_69 hl
      have pz_70 : (pI T_62 1201 x).toInt = v_1.toInt := (congrArg Int32.toInt ik_69).trans rfl
      have hpw_71 := iv_67
      obtain ⟨pw_72, pw_73, pw_74, pw_75, pw_76, pw_77, pw_78, pw_79, pw_80, pw_81⟩ := hpw_71
      obtain ⟨v_82, ev_82⟩ : ∃ v, pI T_62 1238 x = v := ⟨_, rfl⟩
      have rg_83 := gI_12_1238 hO_T_62.1 ha_x_L_63; rw [ev_82] at rg_83
      have pz_84 : (pI T_62 1238 x).toInt = v_82.toInt := by rw [ev_82]
      have pz_85 : (pI T_62 1238 x).toInt = v_82.toInt := (congrArg Int32.toInt ev_82).trans rfl
      refine lv_aload_n X.1 X.2.1 dX12_tick_137 rfl (lv_at hl 0 rfl) ?_
      obtain ⟨q_86, h_87, h_88, h_89⟩ := gQ_12_1215 hO_T_62.1 ha_x_L_63
      refine r_getR (g := 1215) X hw ha_x_L_63 rfl 15 h_87 (by decide) rfl inn_X12_tick_12 (by decide) (X.2.2.2.1 (.fieldLink RX12 46 "SilkMillModel" "stop" "[I") (by decide +kernel)) rfl (gv_1215 _ _) dX12_tick_138 ?_
      refine lv_iload_n X.1 X.2.1 dX12_tick_141 rfl (lv_at hl 1 rfl) ?_
      refine r_iald X hw h_88 rfl (by rw [h_89]; exact z_ix hz_a1 (by omega) (by omega)) dX12_tick_142 ?_
      refine lv_topi (fun v_90 ev_90 => ?_)
      have rg_91 := And.intro (z_lo v_90) (z_hi v_90)
      have ev_90 := ev_90.symm
      have zf_92 : zA T_62 x 1215 (a1_z).toNat = v_90.toInt := (zA_of h_87 hz_a1 (by omega) ev_90)
      have us_93 : v_90 = (qst (ticB Ev Rl A)) := Int32.toInt_inj.mp (rfl.trans (zf_92.symm.trans pw_75))
      refine lv_if_le (tgt := 158) X.1 X.2.1 dX12_tick_143 (by decide) (fun c_94 => ?_) (fun c_94 => ?_)
      · have z_b_95 := trivial
        have k_96 : v_90.toInt ≤ 0 := z_le rfl ti_0 c_94
        refine lv_aload_n X.1 X.2.1 dX12_tick_158 rfl (lv_at hl 0 rfl) ?_
        refine lv_iload_n X.1 X.2.1 dX12_tick_159 rfl (lv_at hl 1 rfl) ?_
        refine lv_iconst (v := 1) X.1 X.2.1 dX12_tick_160 (by decide) ?_
        have ln_97 : zA T_62 x 1219 (3 * a1_z + 1).toNat = (((qe (ticB Ev Rl A))).length : Int) := pw_73.1
        refine k_i (rm := { frames := 1, cells := 0, slots := 0, locals := 48 }) (av := [.ref x, .int (a1), .int 1]) X hw (va_runV (As := [.int (a1), .int 1]) (rest := []) (cfix X) (k_X12_many2 l G cy κ T_62 _ x (a1) (a1_z) (1) (1) hO_T_62.1 ha_x_L_63 hz_a1 ti_1 (by first | assumption | omega) (by first | assumption | omega) (by first | assumption | omega) (by first | assumption | omega)) (cwV 2 X.2.2.2.1 gX12_tick_X12_many rfl rfl rfl (by decide +kernel) ⟨Nat.le_of_ble_eq_true rfl, Nat.le_of_ble_eq_true rfl⟩) (pre_V X hw _ ha_x_L_63 rfl (by decide) rfl) rfl rfl hl.1 rfl (lv_room (Nat.le_of_ble_eq_true rfl)) dX12_tick_161 ⟨Nat.le_of_ble_eq_true rfl, Nat.le_of_ble_eq_true rfl⟩) 0 0 (Nat.le_of_ble_eq_true rfl) (Nat.le_of_ble_eq_true rfl) (fun rr_98 S_99 H locs hp hw hfr hnw => ?_)
        obtain ⟨e2, hp⟩ := hp
        subst e2
        obtain ⟨f_100, f_101, f_102⟩ := hp
        refine lv_istore_n (lv' := [(2, .int (rr_98)), (0, .ref x), (1, .int (a1))]) X.1 X.2.1 dX12_tick_164 rfl hl (by decide) rfl (fun ls hl => ?_)
        refine lv_iload_n X.1 X.2.1 dX12_tick_165 rfl (lv_at hl 0 rfl) ?_
        refine lv_if_ne (tgt := 171) X.1 X.2.1 dX12_tick_166 (by decide) (fun c_103 => ?_) (fun c_103 => ?_)
        · have z_b_104 := trivial
          have k_105 : rr_98.toInt ≠ 0 := z_ne rfl ti_0 c_103
          have m4_106 := mk_64.2.2.2.1.1 a1_z.toNat (by omega); rw [show 3 * a1_z.toNat + 1 = (3 * a1_z + 1).toNat by omega] at m4_106
          have n12_107 : (qe (ticB Ev Rl A)).length ≤ 12 := by have := pw_73.1; omega
          have ne_108 : qe (ticB Ev Rl A) ≠ [] := fun z => by have e0 := congrArg List.length z; have e1 : ([] : List Nat).length = 0 := rfl; have := pw_73.1; omega
          refine lv_aload_n X.1 X.2.1 dX12_tick_171 rfl (lv_at hl 1 rfl) ?_
          refine lv_iload_n X.1 X.2.1 dX12_tick_172 rfl (lv_at hl 2 rfl) ?_
          refine k_i (rm := { frames := 1, cells := 0, slots := 0, locals := 48 }) (av := [.ref x, .int (a1)]) X hw (va_runV (As := [.int (a1)]) (rest := []) (cfix X) (k_X12_growing l G cy κ T_62 _ x (a1) (a1_z) hO_T_62.1 ha_x_L_63 hz_a1 (by first | assumption | omega) (by first | assumption | omega)) (cwV 1 X.2.2.2.1 gX12_tick_X12_growing rfl rfl rfl (by decide +kernel) ⟨Nat.le_of_ble_eq_true rfl, Nat.le_of_ble_eq_true rfl⟩) (pre_V X hw _ ha_x_L_63 rfl (by decide) rfl) rfl rfl hl.1 rfl (lv_room (Nat.le_of_ble_eq_true rfl)) dX12_tick_173 ⟨Nat.le_of_ble_eq_true rfl, Nat.le_of_ble_eq_true rfl⟩) 0 0 (Nat.le_of_ble_eq_true rfl) (Nat.le_of_ble_eq_true rfl) (fun rr_109 S_110 H locs hp hw hfr hnw => ?_)
          obtain ⟨e2, hp⟩ := hp
          subst e2
          have f_111 := hp
          refine lv_aload_n X.1 X.2.1 dX12_tick_176 rfl (lv_at hl 1 rfl) ?_
          obtain ⟨q_112, h_113, h_114, h_115⟩ := gQ_12_1237 hO_T_62.1 ha_x_L_63
          refine r_getR (g := 1237) X hw ha_x_L_63 rfl 37 h_113 (by decide) rfl inn_X12_tick_12 (by decide) (X.2.2.2.1 (.fieldLink RX12 97 "SilkMillModel" "grown" "[I") (by decide +kernel)) rfl (gv_1237 _ _) dX12_tick_177 ?_
          refine lv_iload_n X.1 X.2.1 dX12_tick_180 rfl (lv_at hl 2 rfl) ?_
          refine r_iald X hw h_114 rfl (by rw [h_115]; exact z_ix hz_a1 (by omega) (by omega)) dX12_tick_181 ?_
          refine lv_topi (fun v_116 ev_116 => ?_)
          have z_117 := gE_954 hO_T_62.1 h_114 (Int32.toNatClampNeg (a1)); rw [← ev_116] at z_117
          have ev_116 := ev_116.symm
          have zf_118 : zA T_62 x 1237 (a1_z).toNat = v_116.toInt := (zA_of h_113 hz_a1 (by omega) ev_116)
          have gl_119 := iv_65 (a1_z).toNat (by omega); rw [zf_118] at gl_119
          refine lv_iadd X.1 X.2.1 dX12_tick_182 ?_
          refine lv_topi (fun v_120 ev_120 => ?_)
          have z_121 : v_120.toInt = rr_109.toInt + v_116.toInt := z_add ev_120 rfl rfl (by omega) (by omega)
          refine lv_istore_n (lv' := [(3, .int (v_120)), (2, .int (rr_98)), (0, .ref x), (1, .int (a1))]) X.1 X.2.1 dX12_tick_183 rfl hl (by decide) rfl (fun ls hl => ?_)
          refine lv_aload_n X.1 X.2.1 dX12_tick_184 rfl (lv_at hl 2 rfl) ?_
          obtain ⟨q_122, h_123, h_124, h_125⟩ := gQ_12_1235 hO_T_62.1 ha_x_L_63
          refine r_getR (g := 1235) X hw ha_x_L_63 rfl 35 h_123 (by decide) rfl inn_X12_tick_12 (by decide) (X.2.2.2.1 (.fieldLink RX12 90 "SilkMillModel" "metreEnds" "[I") (by decide +kernel)) rfl (gv_1235 _ _) dX12_tick_185 ?_
          refine lv_iload_n X.1 X.2.1 dX12_tick_188 rfl (lv_at hl 0 rfl) ?_
          refine lv_iload_n X.1 X.2.1 dX12_tick_189 rfl (lv_at hl 1 rfl) ?_
          refine r_iast X hw h_124 rfl (by rw [h_125]; exact z_ix z_121 (by omega) (by omega)) dX12_tick_190 (fun H locs hw => ?_)
          obtain ⟨S_126, eS_126⟩ : ∃ T, T = sA T_62 q_122 (upd (pA T_62 q_122) (Int32.toNatClampNeg (v_120)) (rr_98)) := ⟨_, rfl⟩
          rw [← eS_126] at hw
          have hO_127 : Ok MTK S S_126 := hO_T_62.sA eS_126 h_124 (by decide +kernel) (uA_914 hO_T_62.1 h_124 (by omega) (by omega))
          have h_128 : pA S_126 q_122 (Int32.toNatClampNeg (v_120)) = rr_98 := tA_sAs eS_126
          refine lv_iconst (v := 0) X.1 X.2.1 dX12_tick_191 (by decide) ?_
          refine lv_istore (lv' := [(4, .int 0), (3, .int (v_120)), (2, .int (rr_98)), (0, .ref x), (1, .int (a1))]) X.1 X.2.1 dX12_tick_192 hl (by decide) rfl (fun ls hl => ?_)
          have zc_133 : zA S_126 x 1219 = zA T_62 x 1219 := zA_sAn eS_126 (ex3 (gQ_12_1219 hO_T_62.1 ha_x_L_63)) h_124 rfl
          have zc_135 : zA S_126 x 1237 = zA T_62 x 1237 := zA_sAn eS_126 (ex3 (gQ_12_1237 hO_T_62.1 ha_x_L_63)) h_124 rfl
          have t_141 : pI S_126 1201 x = v_1 := tI_sA eS_126 ik_69
          have L_129 : ∀ (n : Nat) (T_131 : PS) (H : Heap) (locs : List Loc) (ls : Array Slot) (i4_130 : Int32) (i4_130_z : Int), ((12 - i4_130_z).toNat = n) → (Wd G cy (AS S s.heap.size) s.heap T_131 H locs) → (i4_130.toInt = i4_130_z) → (0 ≤ i4_130_z ∧ i4_130_z ≤ 12) → (At T_131 x 12) → (Ok MTK S T_131) → (zA T_131 x 1219 = zA T_62 x 1219) → (zA T_131 x 1237 = zA T_62 x 1237) → (MIe T_131 x (-1)) → (ZM S T_131 x) → (PotW T_131 x a1_z (ticB Ev Rl A)) → (PwX S T_131 x a1_z) → (pI T_131 1201 x = v_1) → (lv_has ls 6 [(4, .int (i4_130)), (3, .int (v_120)), (2, .int (rr_98)), (0, .ref x), (1, .int (a1))]) → W p l e ({ frames := 8, cells := 0, slots := 0, locals := 384 }) s m [.ref x, .int (a1)].toArray below meth c H locs 0 0 QQ (F0 m 194 ls []) := by
            intro n
            induction n using Nat.strongRecOn with
            | ind n ih_L_129 =>
            intro T_131 H locs ls i4_130 i4_130_z hn hw hz_i4_130 hr_i4_130 ha_x_L_132 hO_T_131 zk_134 zk_136 mk_137 iv_138 iv_139 iv_140 ik_142 hl
            have rg_143 : (-2147483648) ≤ i4_130_z ∧ i4_130_z ≤ 2147483647 := by rw [← hz_i4_130]; exact ⟨z_lo _, z_hi _⟩
            have pz_144 : (pI T_131 1201 x).toInt = v_1.toInt := (congrArg Int32.toInt ik_142).trans rfl
            have hpw_145 := iv_139
            obtain ⟨pw_146, pw_147, pw_148, pw_149, pw_150, pw_151, pw_152, pw_153, pw_154, pw_155⟩ := hpw_145
            obtain ⟨v_156, ev_156⟩ : ∃ v, pI T_131 1238 x = v := ⟨_, rfl⟩
            have rg_157 := gI_12_1238 hO_T_131.1 ha_x_L_132; rw [ev_156] at rg_157
            have pz_158 : (pI T_131 1238 x).toInt = v_156.toInt := by rw [ev_156]
            have pz_159 : (pI T_131 1238 x).toInt = v_156.toInt := (congrArg Int32.toInt ev_156).trans rfl
            refine lv_iload X.1 X.2.1 dX12_tick_194 (lv_at hl 0 rfl) ?_
            refine lv_iload_n X.1 X.2.1 dX12_tick_196 rfl (lv_at hl 2 rfl) ?_
            refine lv_icmp_ge (tgt := 244) X.1 X.2.1 dX12_tick_197 (by decide) (fun c_160 => ?_) (fun c_160 => ?_)
            · have z_b_161 := trivial
              have k_162 : i4_130_z ≥ rr_98.toInt := z_le rfl hz_i4_130 c_160
              refine lv_aload_n X.1 X.2.1 dX12_tick_244 rfl (lv_at hl 3 rfl) ?_
              obtain ⟨q_163, h_164, h_165, h_166⟩ := gQ_12_1237 hO_T_131.1 ha_x_L_132
              refine r_getR (g := 1237) X hw ha_x_L_132 rfl 37 h_164 (by decide) rfl inn_X12_tick_12 (by decide) (X.2.2.2.1 (.fieldLink RX12 97 "SilkMillModel" "grown" "[I") (by decide +kernel)) rfl (gv_1237 _ _) dX12_tick_245 ?_
              refine lv_iload_n X.1 X.2.1 dX12_tick_248 rfl (lv_at hl 4 rfl) ?_
              refine lv_dup2_11 X.1 X.2.1 dX12_tick_249 rfl rfl ?_
              refine r_iald X hw h_165 rfl (by rw [h_166]; exact z_ix hz_a1 (by omega) (by omega)) dX12_tick_250 ?_
              refine lv_topi (fun v_167 ev_167 => ?_)
              have z_168 := gE_954 hO_T_131.1 h_165 (Int32.toNatClampNeg (a1)); rw [← ev_167] at z_168
              have ev_167 := ev_167.symm
              have zf_169 : zA T_131 x 1237 (a1_z).toNat = v_167.toInt := (zA_of h_164 hz_a1 (by omega) ev_167)
              have gl_170 := (GR_eq zk_136 iv_65) (a1_z).toNat (by omega); rw [zf_169] at gl_170
              have zf_171 : zA T_131 x 1237 (a1_z).toNat = v_167.toInt := (zA_of h_164 hz_a1 (by omega) ev_167)
              have gl_172 : v_167.toInt = ((qg (ticB Ev Rl A)).length : Int) := by rw [← pw_151, ← zf_171, show a1_z.toNat = (a1_z).toNat by omega]
              refine lv_iconst (v := 1) X.1 X.2.1 dX12_tick_251 (by decide) ?_
              refine lv_iadd X.1 X.2.1 dX12_tick_252 ?_
              refine lv_topi (fun v_173 ev_173 => ?_)
              have z_174 : v_173.toInt = v_167.toInt + 1 := z_add ev_173 rfl ti_1 (by omega) (by omega)
              refine r_iast X hw h_165 rfl (by rw [h_166]; exact z_ix hz_a1 (by omega) (by omega)) dX12_tick_253 (fun H locs hw => ?_)
              obtain ⟨S_175, eS_175⟩ : ∃ T, T = sA T_131 q_163 (upd (pA T_131 q_163) (Int32.toNatClampNeg (a1)) (v_173)) := ⟨_, rfl⟩
              rw [← eS_175] at hw
              have hO_176 : Ok MTK S S_175 := hO_T_131.sA eS_175 h_165 (by decide +kernel) (uA_954 hO_T_131.1 h_165 (by omega) (by omega))
              have h_177 : pA S_175 q_163 (Int32.toNatClampNeg (a1)) = v_173 := tA_sAs eS_175
              have t_178 : pR S_175 1237 x = some q_163 := tR_sA eS_175 h_164
              have t_180 : pR T_131 1237 x = some q_163 := by have h := t_178; rw [eS_175, pR_sA] at h; exact h
              have zs_179 : ∀ j, zA S_175 x 1237 j = if j = (a1_z).toNat then (v_167.toInt + 1) else zA T_131 x 1237 j := by have h := zA_sAs eS_175 t_180 z_174; rw [z_nc hz_a1 (by omega)] at h; exact h
              have zs_181 : ∀ j, zA S_175 x 1237 j = if j = (a1_z).toNat then (v_167.toInt + 1) else zA T_62 x 1237 j := fun j => by rw [zs_179 j, zk_136]
              have gb_182 : GR T_131 x := (GR_eq zk_136 iv_65)
              have t_184 : pR T_131 1237 x = some q_163 := by have h := t_178; rw [eS_175, pR_sA] at h; exact h
              have zs_183 : ∀ j, zA S_175 x 1237 j = if j = (a1_z).toNat then (v_167.toInt + 1) else zA T_131 x 1237 j := by have h := zA_sAs eS_175 t_184 z_174; rw [z_nc hz_a1 (by omega)] at h; exact h
              have t_186 : pR T_131 1237 x = some q_163 := by have h := t_178; rw [eS_175, pR_sA] at h; exact h
              have zs_185 : ∀ j, zA S_175 x 1237 j = if j = (a1_z).toNat then (v_167.toInt + 1) else zA T_131 x 1237 j := by have h := zA_sAs eS_175 t_186 z_174; rw [z_nc hz_a1 (by omega)] at h; exact h
              refine lv_aload_n X.1 X.2.1 dX12_tick_254 rfl (lv_at hl 3 rfl) ?_
              have t_187 : At S_175 x 12 := tAt_sA eS_175 ha_x_L_132
              obtain ⟨q_188, h_189, h_190, h_191⟩ := gQ_12_1216 hO_176.1 t_187
              refine r_getR (g := 1216) X hw t_187 rfl 16 h_189 (by decide) rfl inn_X12_tick_12 (by decide) (X.2.2.2.1 (.fieldLink RX12 49 "SilkMillModel" "drawnEver" "[I") (by decide +kernel)) rfl (gv_1216 _ _) dX12_tick_255 ?_
              refine lv_iload_n X.1 X.2.1 dX12_tick_258 rfl (lv_at hl 4 rfl) ?_
              refine lv_dup2_11 X.1 X.2.1 dX12_tick_259 rfl rfl ?_
              refine r_iald X hw h_190 rfl (by rw [h_191]; exact z_ix hz_a1 (by omega) (by omega)) dX12_tick_260 ?_
              refine lv_topi (fun v_192 ev_192 => ?_)
              have rg_193 := And.intro (z_lo v_192) (z_hi v_192)
              have ev_192 := ev_192.symm
              have zR_194 : zA S_175 x 1216 a1_z.toNat = ((qdr (ticB Ev Rl A))).toInt := (congrFun (zA_sAn eS_175 (ex3 (gQ_12_1216 hO_T_131.1 ha_x_L_132)) h_165 rfl) _).trans pw_152
              have zf_195 : zA S_175 x 1216 (a1_z).toNat = v_192.toInt := (zA_of h_189 hz_a1 (by omega) ev_192)
              have us_196 : v_192 = (qdr (ticB Ev Rl A)) := Int32.toInt_inj.mp (rfl.trans (zf_195.symm.trans zR_194))
              refine lv_iconst (v := 1) X.1 X.2.1 dX12_tick_261 (by decide) ?_
              refine lv_iadd X.1 X.2.1 dX12_tick_262 ?_
              refine lv_topi (fun v_197 ev_197 => ?_)
              have rg_198 := And.intro (z_lo v_197) (z_hi v_197)
              refine r_iast X hw h_190 rfl (by rw [h_191]; exact z_ix hz_a1 (by omega) (by omega)) dX12_tick_263 (fun H locs hw => ?_)
              obtain ⟨S_199, eS_199⟩ : ∃ T, T = sA S_175 q_188 (upd (pA S_175 q_188) (Int32.toNatClampNeg (a1)) (v_197)) := ⟨_, rfl⟩
              rw [← eS_199] at hw
              have hO_200 : Ok MTK S S_199 := hO_176.sA eS_199 h_190 (by decide +kernel) (uA_534 hO_176.1 h_190)
              have h_201 : pA S_199 q_188 (Int32.toNatClampNeg (a1)) = v_197 := tA_sAs eS_199
              have t_202 : pR S_199 1216 x = some q_188 := tR_sA eS_199 h_189
              have t_204 : pR S_175 1216 x = some q_188 := by have h := t_202; rw [eS_199, pR_sA] at h; exact h
              have zs_203 : ∀ j, zA S_199 x 1216 j = if j = (a1_z).toNat then v_197.toInt else zA S_175 x 1216 j := by have h := zA_sAs eS_199 t_204 rfl; rw [z_nc hz_a1 (by omega)] at h; exact h
              refine lv_iconst (v := 0) X.1 X.2.1 dX12_tick_264 (by decide) ?_
              refine lv_istore (lv' := [(4, .int 0), (3, .int (v_120)), (2, .int (rr_98)), (0, .ref x), (1, .int (a1))]) X.1 X.2.1 dX12_tick_265 hl (by decide) rfl (fun ls hl => ?_)
              have zc_209 : zA S_199 x 1237 = zA S_175 x 1237 := zA_sAn eS_199 (ex3 (gQ_12_1237 hO_176.1 t_187)) h_190 rfl
              have t_215 : pI S_175 1201 x = v_1 := tI_sA eS_175 ik_142
              have t_216 : pI S_199 1201 x = v_1 := tI_sA eS_199 t_215
              have L_205 : ∀ (n : Nat) (T_207 : PS) (H : Heap) (locs : List Loc) (ls : Array Slot) (i4_206 : Int32) (i4_206_z : Int), ((zA T_207 x 1219 (3 * a1_z + 1).toNat - i4_206_z).toNat = n) → (Wd G cy (AS S s.heap.size) s.heap T_207 H locs) → (i4_206.toInt = i4_206_z) → (0 ≤ i4_206_z ∧ i4_206_z ≤ 600) → (At T_207 x 12) → (Ok MTK S T_207) → (zA T_207 x 1237 = zA S_175 x 1237) → (MIe T_207 x (-1)) → (ZM S T_207 x) → (∃ dn rs, qe (ticB Ev Rl A) = dn ++ rs ∧ PotW T_207 x a1_z (we (folF Ev dn (we (wdr (wg (ticB Ev Rl A) (capG (qg (ticB Ev Rl A)) ((qe (ticB Ev Rl A)).map (fun c => (c, qpl (ticB Ev Rl A) c))))) (qdr (ticB Ev Rl A) + 1)) [])) (qe (folF Ev dn (we (wdr (wg (ticB Ev Rl A) (capG (qg (ticB Ev Rl A)) ((qe (ticB Ev Rl A)).map (fun c => (c, qpl (ticB Ev Rl A) c))))) (qdr (ticB Ev Rl A) + 1)) [])) ++ rs)) ∧ i4_206_z = ((qe (folF Ev dn (we (wdr (wg (ticB Ev Rl A) (capG (qg (ticB Ev Rl A)) ((qe (ticB Ev Rl A)).map (fun c => (c, qpl (ticB Ev Rl A) c))))) (qdr (ticB Ev Rl A) + 1)) []))).length : Int)) → (PwX S T_207 x a1_z) → (pI T_207 1201 x = v_1) → (lv_has ls 6 [(4, .int (i4_206)), (3, .int (v_120)), (2, .int (rr_98)), (0, .ref x), (1, .int (a1))]) → W p l e ({ frames := 8, cells := 0, slots := 0, locals := 384 }) s m [.ref x, .int (a1)].toArray below meth c H locs 0 0 QQ (F0 m 267 ls []) := by
                intro n
                induction n using Nat.strongRecOn with
                | ind n ih_L_205 =>
                intro T_207 H locs ls i4_206 i4_206_z hn hw hz_i4_206 hr_i4_206 ha_x_L_208 hO_T_207 zk_210 mk_211 iv_212 iv_213 iv_214 ik_217 hl
                have rg_218 : (-2147483648) ≤ i4_206_z ∧ i4_206_z ≤ 2147483647 := by rw [← hz_i4_206]; exact ⟨z_lo _, z_hi _⟩
                have pz_219 : (pI T_207 1201 x).toInt = v_1.toInt := (congrArg Int32.toInt ik_217).trans rfl
                obtain ⟨dn_220, rs_221, ed_222, hpw_223, ek_224⟩ := iv_213
                have hpw_225 := hpw_223
                obtain ⟨pw_226, pw_227, pw_228, pw_229, pw_230, pw_231, pw_232, pw_233, pw_234, pw_235⟩ := hpw_225
                obtain ⟨v_236, ev_236⟩ : ∃ v, pI T_207 1238 x = v := ⟨_, rfl⟩
                have rg_237 := gI_12_1238 hO_T_207.1 ha_x_L_208; rw [ev_236] at rg_237
                have pz_238 : (pI T_207 1238 x).toInt = v_236.toInt := by rw [ev_236]
                have pz_239 : (pI T_207 1238 x).toInt = v_236.toInt := (congrArg Int32.toInt ev_236).trans rfl
                have fw_240 : RowR T_207 x (3 * a1_z + 0).toNat (qb (folF Ev dn_220 (we (wdr (wg (ticB Ev Rl A) (capG (qg (ticB Ev Rl A)) ((qe (ticB Ev Rl A)).map (fun c => (c, qpl (ticB Ev Rl A) c))))) (qdr (ticB Ev Rl A) + 1)) []))) := pw_226
                have fw_241 : RowR T_207 x (3 * a1_z + 1).toNat (qe (folF Ev dn_220 (we (wdr (wg (ticB Ev Rl A) (capG (qg (ticB Ev Rl A)) ((qe (ticB Ev Rl A)).map (fun c => (c, qpl (ticB Ev Rl A) c))))) (qdr (ticB Ev Rl A) + 1)) [])) ++ rs_221) := pw_227
                have fw_242 : RowR T_207 x (3 * a1_z + 2).toNat (ql (folF Ev dn_220 (we (wdr (wg (ticB Ev Rl A) (capG (qg (ticB Ev Rl A)) ((qe (ticB Ev Rl A)).map (fun c => (c, qpl (ticB Ev Rl A) c))))) (qdr (ticB Ev Rl A) + 1)) []))) := pw_228
                have lq_243 : ((qe (folF Ev dn_220 (we (wdr (wg (ticB Ev Rl A) (capG (qg (ticB Ev Rl A)) ((qe (ticB Ev Rl A)).map (fun c => (c, qpl (ticB Ev Rl A) c))))) (qdr (ticB Ev Rl A) + 1)) [])) ++ rs_221).length : Int) = ((qe (folF Ev dn_220 (we (wdr (wg (ticB Ev Rl A) (capG (qg (ticB Ev Rl A)) ((qe (ticB Ev Rl A)).map (fun c => (c, qpl (ticB Ev Rl A) c))))) (qdr (ticB Ev Rl A) + 1)) []))).length : Int) + (rs_221.length : Int) := by rw [List.length_append]; rfl
                have ln_244 : zA T_207 x 1219 (3 * a1_z + 1).toNat = (((qe (folF Ev dn_220 (we (wdr (wg (ticB Ev Rl A) (capG (qg (ticB Ev Rl A)) ((qe (ticB Ev Rl A)).map (fun c => (c, qpl (ticB Ev Rl A) c))))) (qdr (ticB Ev Rl A) + 1)) [])) ++ rs_221)).length : Int) := fw_241.1
                have ln_245 : zA T_207 x 1219 (3 * a1_z + 2).toNat = (((ql (folF Ev dn_220 (we (wdr (wg (ticB Ev Rl A) (capG (qg (ticB Ev Rl A)) ((qe (ticB Ev Rl A)).map (fun c => (c, qpl (ticB Ev Rl A) c))))) (qdr (ticB Ev Rl A) + 1)) [])))).length : Int) := fw_242.1
                have fw_246 : PlZ T_207 x (qpl (folF Ev dn_220 (we (wdr (wg (ticB Ev Rl A) (capG (qg (ticB Ev Rl A)) ((qe (ticB Ev Rl A)).map (fun c => (c, qpl (ticB Ev Rl A) c))))) (qdr (ticB Ev Rl A) + 1)) []))) (qsd (folF Ev dn_220 (we (wdr (wg (ticB Ev Rl A) (capG (qg (ticB Ev Rl A)) ((qe (ticB Ev Rl A)).map (fun c => (c, qpl (ticB Ev Rl A) c))))) (qdr (ticB Ev Rl A) + 1)) []))) := pw_235
                have fw_247 : zA T_207 x 1215 a1_z.toNat = (qst (folF Ev dn_220 (we (wdr (wg (ticB Ev Rl A) (capG (qg (ticB Ev Rl A)) ((qe (ticB Ev Rl A)).map (fun c => (c, qpl (ticB Ev Rl A) c))))) (qdr (ticB Ev Rl A) + 1)) []))).toInt := pw_229
                have fw_248 : zA T_207 x 1214 a1_z.toNat = (qse (folF Ev dn_220 (we (wdr (wg (ticB Ev Rl A) (capG (qg (ticB Ev Rl A)) ((qe (ticB Ev Rl A)).map (fun c => (c, qpl (ticB Ev Rl A) c))))) (qdr (ticB Ev Rl A) + 1)) []))).toInt := pw_230
                have fw_249 : zA T_207 x 1216 a1_z.toNat = (qdr (folF Ev dn_220 (we (wdr (wg (ticB Ev Rl A) (capG (qg (ticB Ev Rl A)) ((qe (ticB Ev Rl A)).map (fun c => (c, qpl (ticB Ev Rl A) c))))) (qdr (ticB Ev Rl A) + 1)) []))).toInt := pw_232
                have fw_250 : zA T_207 x 1217 a1_z.toNat = (qtk (folF Ev dn_220 (we (wdr (wg (ticB Ev Rl A) (capG (qg (ticB Ev Rl A)) ((qe (ticB Ev Rl A)).map (fun c => (c, qpl (ticB Ev Rl A) c))))) (qdr (ticB Ev Rl A) + 1)) []))).toInt := pw_233
                have fw_251 : zA T_207 x 1237 a1_z.toNat = ((qg (folF Ev dn_220 (we (wdr (wg (ticB Ev Rl A) (capG (qg (ticB Ev Rl A)) ((qe (ticB Ev Rl A)).map (fun c => (c, qpl (ticB Ev Rl A) c))))) (qdr (ticB Ev Rl A) + 1)) []))).length : Int) := pw_231
                have kq_252 : (pI T_207 1238 x).toInt = ((qsk (folF Ev dn_220 (we (wdr (wg (ticB Ev Rl A) (capG (qg (ticB Ev Rl A)) ((qe (ticB Ev Rl A)).map (fun c => (c, qpl (ticB Ev Rl A) c))))) (qdr (ticB Ev Rl A) + 1)) []))).length : Int) := pw_234
                have en_253 : EnR T_207 x a1_z Ev := EnR_fr hG ha_x hO_T_207.fr (by decide +kernel) hp_5
                refine lv_iload X.1 X.2.1 dX12_tick_267 (lv_at hl 0 rfl) ?_
                refine lv_aload_n X.1 X.2.1 dX12_tick_269 rfl (lv_at hl 3 rfl) ?_
                refine lv_iload_n X.1 X.2.1 dX12_tick_270 rfl (lv_at hl 4 rfl) ?_
                refine lv_iconst (v := 1) X.1 X.2.1 dX12_tick_271 (by decide) ?_
                refine k_i (rm := { frames := 1, cells := 0, slots := 0, locals := 48 }) (av := [.ref x, .int (a1), .int 1]) X hw (va_runV (As := [.int (a1), .int 1]) (rest := [.int (i4_206)]) (cfix X) (k_X12_many2 l G cy κ T_207 _ x (a1) (a1_z) (1) (1) hO_T_207.1 ha_x_L_208 hz_a1 ti_1 (by first | assumption | omega) (by first | assumption | omega) (by first | assumption | omega) (by first | assumption | omega)) (cwV 2 X.2.2.2.1 gX12_tick_X12_many rfl rfl rfl (by decide +kernel) ⟨Nat.le_of_ble_eq_true rfl, Nat.le_of_ble_eq_true rfl⟩) (pre_V X hw _ ha_x_L_208 rfl (by decide) rfl) rfl rfl hl.1 rfl (lv_room (Nat.le_of_ble_eq_true rfl)) dX12_tick_272 ⟨Nat.le_of_ble_eq_true rfl, Nat.le_of_ble_eq_true rfl⟩) 0 0 (Nat.le_of_ble_eq_true rfl) (Nat.le_of_ble_eq_true rfl) (fun rr_254 S_255 H locs hp hw hfr hnw => ?_)
                obtain ⟨e2, hp⟩ := hp
                subst e2
                obtain ⟨f_256, f_257, f_258⟩ := hp
                refine lv_icmp_ge (tgt := 379) X.1 X.2.1 dX12_tick_275 (by decide) (fun c_259 => ?_) (fun c_259 => ?_)
                · have z_b_260 := trivial
                  have k_261 : i4_206_z ≥ rr_254.toInt := z_le rfl hz_i4_206 c_259
                  have rz_262 : rs_221 = [] := List.eq_nil_of_length_eq_zero (by omega)
                  have db_263 : drwB Ev (ticB Ev Rl A) = (we (folF Ev dn_220 (we (wdr (wg (ticB Ev Rl A) (capG (qg (ticB Ev Rl A)) ((qe (ticB Ev Rl A)).map (fun c => (c, qpl (ticB Ev Rl A) c))))) (qdr (ticB Ev Rl A) + 1)) [])) (qe (folF Ev dn_220 (we (wdr (wg (ticB Ev Rl A) (capG (qg (ticB Ev Rl A)) ((qe (ticB Ev Rl A)).map (fun c => (c, qpl (ticB Ev Rl A) c))))) (qdr (ticB Ev Rl A) + 1)) [])) ++ rs_221)) := (dr_end (A := A) (B := (wdr (wg (ticB Ev Rl A) (capG (qg (ticB Ev Rl A)) ((qe (ticB Ev Rl A)).map (fun c => (c, qpl (ticB Ev Rl A) c))))) (qdr (ticB Ev Rl A) + 1))) ed_222 rz_262 (show (qe (wdr (wg (ticB Ev Rl A) (capG (qg (ticB Ev Rl A)) ((qe (ticB Ev Rl A)).map (fun c => (c, qpl (ticB Ev Rl A) c))))) (qdr (ticB Ev Rl A) + 1))).length ≤ 12 from n12_107)).symm
                  have gl_264 := fw_251
                  refine lv_aload_n X.1 X.2.1 dX12_tick_379 rfl (lv_at hl 3 rfl) ?_
                  obtain ⟨q_265, h_266, h_267, h_268⟩ := gQ_12_1237 hO_T_207.1 ha_x_L_208
                  refine r_getR (g := 1237) X hw ha_x_L_208 rfl 37 h_266 (by decide) rfl inn_X12_tick_12 (by decide) (X.2.2.2.1 (.fieldLink RX12 97 "SilkMillModel" "grown" "[I") (by decide +kernel)) rfl (gv_1237 _ _) dX12_tick_380 ?_
                  refine lv_iload_n X.1 X.2.1 dX12_tick_383 rfl (lv_at hl 4 rfl) ?_
                  refine r_iald X hw h_267 rfl (by rw [h_268]; exact z_ix hz_a1 (by omega) (by omega)) dX12_tick_384 ?_
                  refine lv_topi (fun v_269 ev_269 => ?_)
                  have z_270 := gE_954 hO_T_207.1 h_267 (Int32.toNatClampNeg (a1)); rw [← ev_269] at z_270
                  have ev_269 := ev_269.symm
                  have zf_271 : zA T_207 x 1237 (a1_z).toNat = v_269.toInt := (zA_of h_266 hz_a1 (by omega) ev_269)
                  have zz_272 := congrFun zk_210 (a1_z).toNat
                  have zz_273 := zs_183 (a1_z).toNat; rw [if_pos rfl] at zz_273
                  refine lv_sipush (v := 300) X.1 X.2.1 dX12_tick_385 (by decide) ?_
                  refine lv_icmp_ne (tgt := 400) X.1 X.2.1 dX12_tick_388 (by decide) (fun c_274 => ?_) (fun c_274 => ?_)
                  · have z_b_275 := trivial
                    have k_276 : v_269.toInt ≠ 300 := z_ne rfl ti_300 c_274
                    refine lv_iconst (v := 1) X.1 X.2.1 dX12_tick_400 (by decide) ?_
                    have pz_277 : (pI T_207 1238 x).toInt = v_236.toInt := (congrArg Int32.toInt ev_236).trans rfl
                    rw [hQQ]
                    exact ret_z X hw hr hlocks (Nat.le_of_ble_eq_true rfl) (Nat.le_of_ble_eq_true rfl) (by decide) ⟨hO_T_207, Or.inl ⟨⟨mk_211, (GR_eq zk_210 (GR_set zs_183 (by omega) gb_182)), iv_212, PotW_of (show (ticF Ev Rl A).1 = (we (folF Ev dn_220 (we (wdr (wg (ticB Ev Rl A) (capG (qg (ticB Ev Rl A)) ((qe (ticB Ev Rl A)).map (fun c => (c, qpl (ticB Ev Rl A) c))))) (qdr (ticB Ev Rl A) + 1)) [])) (qe (folF Ev dn_220 (we (wdr (wg (ticB Ev Rl A) (capG (qg (ticB Ev Rl A)) ((qe (ticB Ev Rl A)).map (fun c => (c, qpl (ticB Ev Rl A) c))))) (qdr (ticB Ev Rl A) + 1)) [])) ++ rs_221)) by rw [ticF_d (show ¬ 0 < (qst (ticB Ev Rl A)).toInt by have e9 := congrArg Int32.toInt us_93; have e : (v_90 : Int32).toInt = v_90.toInt := rfl; omega) ne_108]; exact (drwF_n (by rw [db_263]; show ¬ 300 ≤ (qg (folF Ev dn_220 (we (wdr (wg (ticB Ev Rl A) (capG (qg (ticB Ev Rl A)) ((qe (ticB Ev Rl A)).map (fun c => (c, qpl (ticB Ev Rl A) c))))) (qdr (ticB Ev Rl A) + 1)) []))).length; omega)).trans db_263) fw_240 fw_241 fw_242 fw_247 fw_248 fw_251 fw_249 fw_250 (show (pI T_207 1238 x).toInt = (((qsk (folF Ev dn_220 (we (wdr (wg (ticB Ev Rl A) (capG (qg (ticB Ev Rl A)) ((qe (ticB Ev Rl A)).map (fun c => (c, qpl (ticB Ev Rl A) c))))) (qdr (ticB Ev Rl A) + 1)) [])))).length : Int) by omega) fw_246, iv_214, by rw [ticF_d (show ¬ 0 < (qst (ticB Ev Rl A)).toInt by have e9 := congrArg Int32.toInt us_93; have e : (v_90 : Int32).toInt = v_90.toInt := rfl; omega) ne_108]; exact trivial⟩, rfl⟩⟩ dX12_tick_401
                  · have z_b_278 := trivial
                    have k_279 : v_269.toInt = 300 := z_eq rfl ti_300 c_274
                    refine lv_aload_n X.1 X.2.1 dX12_tick_391 rfl (lv_at hl 3 rfl) ?_
                    refine lv_aload_n X.1 X.2.1 dX12_tick_392 rfl (lv_at hl 3 rfl) ?_
                    refine lv_iload_n X.1 X.2.1 dX12_tick_393 rfl (lv_at hl 4 rfl) ?_
                    have pz_280 : (pI T_207 1238 x).toInt = v_236.toInt := (congrArg Int32.toInt ev_236).trans rfl
                    have kk_281 : (pI T_207 1238 x).toInt = (((qsk (folF Ev dn_220 (we (wdr (wg (ticB Ev Rl A) (capG (qg (ticB Ev Rl A)) ((qe (ticB Ev Rl A)).map (fun c => (c, qpl (ticB Ev Rl A) c))))) (qdr (ticB Ev Rl A) + 1)) [])))).length : Int) := by omega
                    refine k_i (rm := { frames := 6, cells := 0, slots := 0, locals := 288 }) (av := [.ref x, .int (a1)]) X hw (va_runV (As := [.int (a1)]) (rest := [.ref x]) (cfix X) (k_X12_cuts5 l G cy κ T_207 _ x (a1) (a1_z) hO_T_207.1 ha_x_L_208 hz_a1 (by first | assumption | omega) (by first | assumption | omega) mk_211) (cwV 1 X.2.2.2.1 gX12_tick_X12_cuts rfl rfl rfl (by decide +kernel) ⟨Nat.le_of_ble_eq_true rfl, Nat.le_of_ble_eq_true rfl⟩) (pre_V X hw _ ha_x_L_208 rfl (by decide) rfl) rfl rfl hl.1 rfl (lv_room (Nat.le_of_ble_eq_true rfl)) dX12_tick_394 ⟨Nat.le_of_ble_eq_true rfl, Nat.le_of_ble_eq_true rfl⟩) 0 0 (Nat.le_of_ble_eq_true rfl) (Nat.le_of_ble_eq_true rfl) (fun rr_282 S_283 H locs hp hw hfr hnw => ?_)
                    obtain ⟨hk_284, hp⟩ := hp
                    have hO_285 : Ok MTK S S_283 := hO_T_207.call hk_284 (by decide +kernel)
                    obtain ⟨mi_286, cu_287, cc_288, cc_289, cc_290⟩ := hp
                    have rg_291 := And.intro (z_lo rr_282) (z_hi rr_282)
                    have f_293 : ∀ j, zA S_283 x 1237 j = if j = (a1_z).toNat then 0 else zA T_131 x 1237 j := fun j => by rw [cu_287 j, zk_210, zs_183 j]; split <;> rfl
                    have gr_292 : GR S_283 x := GR_set f_293 (by omega) gb_182
                    have rR_294 : RowR S_283 x (3 * a1_z + 0).toNat (qb (folF Ev dn_220 (we (wdr (wg (ticB Ev Rl A) (capG (qg (ticB Ev Rl A)) ((qe (ticB Ev Rl A)).map (fun c => (c, qpl (ticB Ev Rl A) c))))) (qdr (ticB Ev Rl A) + 1)) []))) := RowR_eq fw_240 (zA_fr hk_284.fr ha_x_L_208 (ex3 (gQ_12_1218 hO_T_207.1 ha_x_L_208)) (by decide +kernel) (by decide +kernel)) (zA_fr hk_284.fr ha_x_L_208 (ex3 (gQ_12_1219 hO_T_207.1 ha_x_L_208)) (by decide +kernel) (by decide +kernel))
                    have rR_295 : RowR S_283 x (3 * a1_z + 1).toNat (qe (folF Ev dn_220 (we (wdr (wg (ticB Ev Rl A) (capG (qg (ticB Ev Rl A)) ((qe (ticB Ev Rl A)).map (fun c => (c, qpl (ticB Ev Rl A) c))))) (qdr (ticB Ev Rl A) + 1)) [])) ++ rs_221) := RowR_eq fw_241 (zA_fr hk_284.fr ha_x_L_208 (ex3 (gQ_12_1218 hO_T_207.1 ha_x_L_208)) (by decide +kernel) (by decide +kernel)) (zA_fr hk_284.fr ha_x_L_208 (ex3 (gQ_12_1219 hO_T_207.1 ha_x_L_208)) (by decide +kernel) (by decide +kernel))
                    have rR_296 : RowR S_283 x (3 * a1_z + 2).toNat (ql (folF Ev dn_220 (we (wdr (wg (ticB Ev Rl A) (capG (qg (ticB Ev Rl A)) ((qe (ticB Ev Rl A)).map (fun c => (c, qpl (ticB Ev Rl A) c))))) (qdr (ticB Ev Rl A) + 1)) []))) := RowR_eq fw_242 (zA_fr hk_284.fr ha_x_L_208 (ex3 (gQ_12_1218 hO_T_207.1 ha_x_L_208)) (by decide +kernel) (by decide +kernel)) (zA_fr hk_284.fr ha_x_L_208 (ex3 (gQ_12_1219 hO_T_207.1 ha_x_L_208)) (by decide +kernel) (by decide +kernel))
                    have zR_297 : zA S_283 x 1215 a1_z.toNat = ((qst (folF Ev dn_220 (we (wdr (wg (ticB Ev Rl A) (capG (qg (ticB Ev Rl A)) ((qe (ticB Ev Rl A)).map (fun c => (c, qpl (ticB Ev Rl A) c))))) (qdr (ticB Ev Rl A) + 1)) [])))).toInt := (congrFun (zA_fr hk_284.fr ha_x_L_208 (ex3 (gQ_12_1215 hO_T_207.1 ha_x_L_208)) (by decide +kernel) (by decide +kernel)) _).trans fw_247
                    have zR_298 : zA S_283 x 1214 a1_z.toNat = ((qse (folF Ev dn_220 (we (wdr (wg (ticB Ev Rl A) (capG (qg (ticB Ev Rl A)) ((qe (ticB Ev Rl A)).map (fun c => (c, qpl (ticB Ev Rl A) c))))) (qdr (ticB Ev Rl A) + 1)) [])))).toInt := (congrFun (zA_fr hk_284.fr ha_x_L_208 (ex3 (gQ_12_1214 hO_T_207.1 ha_x_L_208)) (by decide +kernel) (by decide +kernel)) _).trans fw_248
                    have zR_299 : zA S_283 x 1216 a1_z.toNat = ((qdr (folF Ev dn_220 (we (wdr (wg (ticB Ev Rl A) (capG (qg (ticB Ev Rl A)) ((qe (ticB Ev Rl A)).map (fun c => (c, qpl (ticB Ev Rl A) c))))) (qdr (ticB Ev Rl A) + 1)) [])))).toInt := (congrFun (zA_fr hk_284.fr ha_x_L_208 (ex3 (gQ_12_1216 hO_T_207.1 ha_x_L_208)) (by decide +kernel) (by decide +kernel)) _).trans fw_249
                    have zR_300 : zA S_283 x 1217 a1_z.toNat = ((qtk (folF Ev dn_220 (we (wdr (wg (ticB Ev Rl A) (capG (qg (ticB Ev Rl A)) ((qe (ticB Ev Rl A)).map (fun c => (c, qpl (ticB Ev Rl A) c))))) (qdr (ticB Ev Rl A) + 1)) [])))).toInt := (congrFun (zA_fr hk_284.fr ha_x_L_208 (ex3 (gQ_12_1217 hO_T_207.1 ha_x_L_208)) (by decide +kernel) (by decide +kernel)) _).trans fw_250
                    have pz_301 : PlZ S_283 x (qpl (folF Ev dn_220 (we (wdr (wg (ticB Ev Rl A) (capG (qg (ticB Ev Rl A)) ((qe (ticB Ev Rl A)).map (fun c => (c, qpl (ticB Ev Rl A) c))))) (qdr (ticB Ev Rl A) + 1)) []))) (qsd (folF Ev dn_220 (we (wdr (wg (ticB Ev Rl A) (capG (qg (ticB Ev Rl A)) ((qe (ticB Ev Rl A)).map (fun c => (c, qpl (ticB Ev Rl A) c))))) (qdr (ticB Ev Rl A) + 1)) []))) := PlZ_eq fw_246 (zA_fr hk_284.fr ha_x_L_208 (ex3 (gQ_12_1208 hO_T_207.1 ha_x_L_208)) (by decide +kernel) (by decide +kernel)) (zA_fr hk_284.fr ha_x_L_208 (ex3 (gQ_12_1207 hO_T_207.1 ha_x_L_208)) (by decide +kernel) (by decide +kernel))
                    have pw_302 : PotW S_283 x a1_z (cutF Ev (we (folF Ev dn_220 (we (wdr (wg (ticB Ev Rl A) (capG (qg (ticB Ev Rl A)) ((qe (ticB Ev Rl A)).map (fun c => (c, qpl (ticB Ev Rl A) c))))) (qdr (ticB Ev Rl A) + 1)) [])) (qe (folF Ev dn_220 (we (wdr (wg (ticB Ev Rl A) (capG (qg (ticB Ev Rl A)) ((qe (ticB Ev Rl A)).map (fun c => (c, qpl (ticB Ev Rl A) c))))) (qdr (ticB Ev Rl A) + 1)) [])) ++ rs_221))) := (PotW_cut (A := (we (folF Ev dn_220 (we (wdr (wg (ticB Ev Rl A) (capG (qg (ticB Ev Rl A)) ((qe (ticB Ev Rl A)).map (fun c => (c, qpl (ticB Ev Rl A) c))))) (qdr (ticB Ev Rl A) + 1)) [])) (qe (folF Ev dn_220 (we (wdr (wg (ticB Ev Rl A) (capG (qg (ticB Ev Rl A)) ((qe (ticB Ev Rl A)).map (fun c => (c, qpl (ticB Ev Rl A) c))))) (qdr (ticB Ev Rl A) + 1)) [])) ++ rs_221))) fw_251 kk_281 cc_288 cc_289 cc_290 (by rw [cu_287, if_pos rfl]) rR_294 rR_295 rR_296 zR_297 zR_298 zR_299 zR_300 pz_301).1
                    have t_303 : At S_283 x 12 := hk_284.fr.at ha_x_L_208
                    refine r_putI (v := rr_282) X hw t_303 rfl 47 1247 tyX12 (by decide) rfl inn_X12_tick_12 tyX12_ok nmX12 (by decide) (X.2.2.2.1 (.fieldLink RX12 330 "SilkMillModel" "cutAtOnce" "I") (by decide +kernel)) rfl (Or.inl rfl) rfl rfl (Nat.le_of_ble_eq_true rfl) (st_1247 _ _) dX12_tick_397 (fun H locs hw => ?_)
                    obtain ⟨S_304, eS_304⟩ : ∃ T, T = sI S_283 1247 x (rr_282) := ⟨_, rfl⟩
                    rw [← eS_304] at hw
                    have hO_305 : Ok MTK S S_304 := hO_285.sI eS_304 (by decide +kernel) (uI_12_1247 hO_285.1 t_303)
                    have h_306 : pI S_304 1247 x = rr_282 := tI_sIs eS_304
                    refine lv_iconst (v := 1) X.1 X.2.1 dX12_tick_400 (by decide) ?_
                    have zm_307 : ZM S S_283 x := ⟨ZN_eq iv_212.1 (zA_fr hk_284.fr ha_x_L_208 (ex3 (gQ_12_1207 hO_T_207.1 ha_x_L_208)) (by decide +kernel) (by decide +kernel)), ZQ_eq iv_212.2 (zA_fr hk_284.fr ha_x_L_208 (ex3 (gQ_12_1207 hO_T_207.1 ha_x_L_208)) (by decide +kernel) (by decide +kernel)) (zA_fr hk_284.fr ha_x_L_208 (ex3 (gQ_12_1208 hO_T_207.1 ha_x_L_208)) (by decide +kernel) (by decide +kernel)) (zA_fr hk_284.fr ha_x_L_208 (ex3 (gQ_12_1209 hO_T_207.1 ha_x_L_208)) (by decide +kernel) (by decide +kernel))⟩
                    have zm_308 : ZM S S_304 x := ⟨ZN_eq zm_307.1 (zA_sI eS_304), ZQ_eq zm_307.2 (zA_sI eS_304) (zA_sI eS_304) (zA_sI eS_304)⟩
                    have mi_309 : MIe S_304 x (-1) := MIe_sI mi_286 hO_285.1 t_303 eS_304 (by decide +kernel)
                    have zc_310 : zA S_304 x 1237 = zA S_283 x 1237 := zA_sI eS_304
                    have rR_311 : RowR S_304 x (3 * a1_z + 0).toNat (qb (folF Ev dn_220 (we (wdr (wg (ticB Ev Rl A) (capG (qg (ticB Ev Rl A)) ((qe (ticB Ev Rl A)).map (fun c => (c, qpl (ticB Ev Rl A) c))))) (qdr (ticB Ev Rl A) + 1)) []))) := RowR_eq rR_294 (zA_sI eS_304) (zA_sI eS_304)
                    have rR_312 : RowR S_304 x (3 * a1_z + 1).toNat (qe (folF Ev dn_220 (we (wdr (wg (ticB Ev Rl A) (capG (qg (ticB Ev Rl A)) ((qe (ticB Ev Rl A)).map (fun c => (c, qpl (ticB Ev Rl A) c))))) (qdr (ticB Ev Rl A) + 1)) [])) ++ rs_221) := RowR_eq rR_295 (zA_sI eS_304) (zA_sI eS_304)
                    have rR_313 : RowR S_304 x (3 * a1_z + 2).toNat (ql (folF Ev dn_220 (we (wdr (wg (ticB Ev Rl A) (capG (qg (ticB Ev Rl A)) ((qe (ticB Ev Rl A)).map (fun c => (c, qpl (ticB Ev Rl A) c))))) (qdr (ticB Ev Rl A) + 1)) []))) := RowR_eq rR_296 (zA_sI eS_304) (zA_sI eS_304)
                    have zR_314 : zA S_304 x 1215 a1_z.toNat = ((qst (folF Ev dn_220 (we (wdr (wg (ticB Ev Rl A) (capG (qg (ticB Ev Rl A)) ((qe (ticB Ev Rl A)).map (fun c => (c, qpl (ticB Ev Rl A) c))))) (qdr (ticB Ev Rl A) + 1)) [])))).toInt := (congrFun (zA_sI eS_304) _).trans zR_297
                    have zR_315 : zA S_304 x 1214 a1_z.toNat = ((qse (folF Ev dn_220 (we (wdr (wg (ticB Ev Rl A) (capG (qg (ticB Ev Rl A)) ((qe (ticB Ev Rl A)).map (fun c => (c, qpl (ticB Ev Rl A) c))))) (qdr (ticB Ev Rl A) + 1)) [])))).toInt := (congrFun (zA_sI eS_304) _).trans zR_298
                    have zR_316 : zA S_304 x 1216 a1_z.toNat = ((qdr (folF Ev dn_220 (we (wdr (wg (ticB Ev Rl A) (capG (qg (ticB Ev Rl A)) ((qe (ticB Ev Rl A)).map (fun c => (c, qpl (ticB Ev Rl A) c))))) (qdr (ticB Ev Rl A) + 1)) [])))).toInt := (congrFun (zA_sI eS_304) _).trans zR_299
                    have zR_317 : zA S_304 x 1217 a1_z.toNat = ((qtk (folF Ev dn_220 (we (wdr (wg (ticB Ev Rl A) (capG (qg (ticB Ev Rl A)) ((qe (ticB Ev Rl A)).map (fun c => (c, qpl (ticB Ev Rl A) c))))) (qdr (ticB Ev Rl A) + 1)) [])))).toInt := (congrFun (zA_sI eS_304) _).trans zR_300
                    have pz_318 : PlZ S_304 x (qpl (folF Ev dn_220 (we (wdr (wg (ticB Ev Rl A) (capG (qg (ticB Ev Rl A)) ((qe (ticB Ev Rl A)).map (fun c => (c, qpl (ticB Ev Rl A) c))))) (qdr (ticB Ev Rl A) + 1)) []))) (qsd (folF Ev dn_220 (we (wdr (wg (ticB Ev Rl A) (capG (qg (ticB Ev Rl A)) ((qe (ticB Ev Rl A)).map (fun c => (c, qpl (ticB Ev Rl A) c))))) (qdr (ticB Ev Rl A) + 1)) []))) := PlZ_eq pz_301 (zA_sI eS_304) (zA_sI eS_304)
                    have px_319 : PwX S S_283 x a1_z := PwX_z iv_214 (zA_fr hk_284.fr ha_x_L_208 (ex3 (gQ_12_1218 hO_T_207.1 ha_x_L_208)) (by decide +kernel) (by decide +kernel)) (zA_fr hk_284.fr ha_x_L_208 (ex3 (gQ_12_1219 hO_T_207.1 ha_x_L_208)) (by decide +kernel) (by decide +kernel)) cu_287 (by omega) (pw4 (fun _ => zA_fr hk_284.fr ha_x_L_208 (ex3 (gQ_12_1214 hO_T_207.1 ha_x_L_208)) (by decide +kernel) (by decide +kernel)) (fun _ => zA_fr hk_284.fr ha_x_L_208 (ex3 (gQ_12_1215 hO_T_207.1 ha_x_L_208)) (by decide +kernel) (by decide +kernel)) (fun _ => zA_fr hk_284.fr ha_x_L_208 (ex3 (gQ_12_1216 hO_T_207.1 ha_x_L_208)) (by decide +kernel) (by decide +kernel)) (fun _ => zA_fr hk_284.fr ha_x_L_208 (ex3 (gQ_12_1217 hO_T_207.1 ha_x_L_208)) (by decide +kernel) (by decide +kernel)) (fun h => absurd rfl h))
                    have px_320 : PwX S S_304 x a1_z := PwX_to px_319 (zA_sI eS_304) (zA_sI eS_304) (pw5 (zA_sI eS_304) (zA_sI eS_304) (zA_sI eS_304) (zA_sI eS_304) (zA_sI eS_304))
                    rw [hQQ]
                    exact ret_z X hw hr hlocks (Nat.le_of_ble_eq_true rfl) (Nat.le_of_ble_eq_true rfl) (by decide) ⟨hO_305, Or.inl ⟨⟨mi_309, (GR_eq zc_310 gr_292), zm_308, (by rw [show (ticF Ev Rl A).1 = cutF Ev (we (folF Ev dn_220 (we (wdr (wg (ticB Ev Rl A) (capG (qg (ticB Ev Rl A)) ((qe (ticB Ev Rl A)).map (fun c => (c, qpl (ticB Ev Rl A) c))))) (qdr (ticB Ev Rl A) + 1)) [])) (qe (folF Ev dn_220 (we (wdr (wg (ticB Ev Rl A) (capG (qg (ticB Ev Rl A)) ((qe (ticB Ev Rl A)).map (fun c => (c, qpl (ticB Ev Rl A) c))))) (qdr (ticB Ev Rl A) + 1)) [])) ++ rs_221)) by rw [ticF_d (show ¬ 0 < (qst (ticB Ev Rl A)).toInt by have e9 := congrArg Int32.toInt us_93; have e : (v_90 : Int32).toInt = v_90.toInt := rfl; omega) ne_108]; exact (drwF_c (by rw [db_263]; show 300 ≤ (qg (folF Ev dn_220 (we (wdr (wg (ticB Ev Rl A) (capG (qg (ticB Ev Rl A)) ((qe (ticB Ev Rl A)).map (fun c => (c, qpl (ticB Ev Rl A) c))))) (qdr (ticB Ev Rl A) + 1)) []))).length; omega)).trans (by rw [db_263])]; exact PotW_sI pw_302 eS_304 (by decide)), px_320, by rw [ticF_d (show ¬ 0 < (qst (ticB Ev Rl A)).toInt by have e9 := congrArg Int32.toInt us_93; have e : (v_90 : Int32).toInt = v_90.toInt := rfl; omega) ne_108]; exact trivial⟩, rfl⟩⟩ dX12_tick_401
                · have z_b_321 := trivial
                  have k_322 : i4_206_z < rr_254.toInt := z_nle rfl hz_i4_206 c_259
                  refine lv_aload_n X.1 X.2.1 dX12_tick_278 rfl (lv_at hl 3 rfl) ?_
                  refine lv_iload_n X.1 X.2.1 dX12_tick_279 rfl (lv_at hl 4 rfl) ?_
                  refine lv_iconst (v := 1) X.1 X.2.1 dX12_tick_280 (by decide) ?_
                  refine lv_iload X.1 X.2.1 dX12_tick_281 (lv_at hl 0 rfl) ?_
                  refine k_i (rm := { frames := 1, cells := 0, slots := 0, locals := 48 }) (av := [.ref x, .int (a1), .int 1, .int (i4_206)]) X hw (va_runV (As := [.int (a1), .int 1, .int (i4_206)]) (rest := []) (cfix X) (k_X12_at2 l G cy κ T_207 _ x (a1) (a1_z) (1) (1) (i4_206) (i4_206_z) hO_T_207.1 ha_x_L_208 hz_a1 ti_1 hz_i4_206 (by first | assumption | omega) (by first | assumption | omega) (by first | assumption | omega) (by first | assumption | omega) (by first | assumption | omega) (by first | assumption | omega)) (cwV 3 X.2.2.2.1 gX12_tick_X12_at rfl rfl rfl (by decide +kernel) ⟨Nat.le_of_ble_eq_true rfl, Nat.le_of_ble_eq_true rfl⟩) (pre_V X hw _ ha_x_L_208 rfl (by decide) rfl) rfl rfl hl.1 rfl (lv_room (Nat.le_of_ble_eq_true rfl)) dX12_tick_283 ⟨Nat.le_of_ble_eq_true rfl, Nat.le_of_ble_eq_true rfl⟩) 0 0 (Nat.le_of_ble_eq_true rfl) (Nat.le_of_ble_eq_true rfl) (fun rr_323 S_324 H locs hp hw hfr hnw => ?_)
                  obtain ⟨e2, hp⟩ := hp
                  subst e2
                  obtain ⟨f_325, f_326, f_327⟩ := hp
                  refine lv_istore (lv' := [(5, .int (rr_323)), (4, .int (i4_206)), (3, .int (v_120)), (2, .int (rr_98)), (0, .ref x), (1, .int (a1))]) X.1 X.2.1 dX12_tick_286 hl (by decide) rfl (fun ls hl => ?_)
                  have m8_328 := MI_alive mk_211 (c := rr_323.toInt) (r := 3 * a1_z + 1) (k := i4_206_z) (gI_12_1201 hO_T_207.1 ha_x_L_208).2 (by omega) (by omega) (by omega) (by omega) (by omega)
                  have lg_329 := lenZ_le hO_T_207.1 ha_x_L_208 (rr_323.toInt)
                  obtain ⟨c_330, t_331, er_332⟩ : ∃ c t, rs_221 = c :: t := (match rs_221, (show 0 < rs_221.length by omega) with | [], h => absurd h (Nat.lt_irrefl _) | c :: t, _ => ⟨c, t, rfl⟩)
                  have ix_333 : (qe (folF Ev dn_220 (we (wdr (wg (ticB Ev Rl A) (capG (qg (ticB Ev Rl A)) ((qe (ticB Ev Rl A)).map (fun c => (c, qpl (ticB Ev Rl A) c))))) (qdr (ticB Ev Rl A) + 1)) [])) ++ rs_221)[(i4_206_z).toNat]? = some c_330 := by rw [er_332, show (i4_206_z).toNat = (qe (folF Ev dn_220 (we (wdr (wg (ticB Ev Rl A) (capG (qg (ticB Ev Rl A)) ((qe (ticB Ev Rl A)).map (fun c => (c, qpl (ticB Ev Rl A) c))))) (qdr (ticB Ev Rl A) + 1)) []))).length by omega]; exact ix_app
                  have h8_334 : rr_323.toInt = (c_330 : Int) := by have h := fw_241.2 _ _ ix_333; have hi : (600 * (3 * a1_z + 1) + i4_206_z).toNat = 600 * (3 * a1_z + 1).toNat + (i4_206_z).toNat := (by omega); rw [← hi] at h; omega
                  have e2_335 : (qsd (folF Ev dn_220 (we (wdr (wg (ticB Ev Rl A) (capG (qg (ticB Ev Rl A)) ((qe (ticB Ev Rl A)).map (fun c => (c, qpl (ticB Ev Rl A) c))))) (qdr (ticB Ev Rl A) + 1)) [])) c_330).toInt = 2 := by have h := MI_2 mk_211 (r := 3 * a1_z + 1) (k := i4_206_z) (by omega) (by omega) (by omega) (by omega); have h1 := (fw_246 c_330 (by omega)).2; have h3 := fw_241.2 _ _ ix_333; have hi : (600 * (3 * a1_z + 1) + i4_206_z).toNat = 600 * (3 * a1_z + 1).toNat + (i4_206_z).toNat := (by omega); rw [hi, h3, Int.toNat_natCast] at h; have h4 := h.2.2.1; omega
                  refine lv_aload_n X.1 X.2.1 dX12_tick_288 rfl (lv_at hl 4 rfl) ?_
                  obtain ⟨q_337, h_338, h_339, h_340⟩ := gQ_12_1208 hO_T_207.1 ha_x_L_208
                  refine r_getR (g := 1208) X hw ha_x_L_208 rfl 8 h_338 (by decide) rfl inn_X12_tick_12 (by decide) (X.2.2.2.1 (.fieldLink RX12 28 "SilkMillModel" "place" "[I") (by decide +kernel)) rfl (gv_1208 _ _) dX12_tick_289 ?_
                  refine lv_iload X.1 X.2.1 dX12_tick_292 (lv_at hl 0 rfl) ?_
                  refine lv_dup2_11 X.1 X.2.1 dX12_tick_294 rfl rfl ?_
                  refine r_iald X hw h_339 rfl (by rw [h_340]; exact z_ix rfl (by omega) (by omega)) dX12_tick_295 ?_
                  refine lv_topi (fun v_341 ev_341 => ?_)
                  have z_342 := gE_374 hO_T_207.1 h_339 (Int32.toNatClampNeg (rr_323)); rw [← ev_341] at z_342
                  have ev_341 := ev_341.symm
                  have zf_343 : zA T_207 x 1208 (rr_323.toInt).toNat = v_341.toInt := (zA_of h_338 rfl (by omega) ev_341)
                  rw [zf_343] at m8_328
                  have pz_344 : (pI T_207 1201 x).toInt = v_1.toInt := (congrArg Int32.toInt ik_217).trans rfl
                  have up_345 : v_341 = qpl (folF Ev dn_220 (we (wdr (wg (ticB Ev Rl A) (capG (qg (ticB Ev Rl A)) ((qe (ticB Ev Rl A)).map (fun c => (c, qpl (ticB Ev Rl A) c))))) (qdr (ticB Ev Rl A) + 1)) [])) c_330 := Int32.toInt_inj.mp (by rw [← (fw_246 c_330 (by omega)).1, show c_330 = (rr_323.toInt).toNat by omega, zf_343])
                  refine lv_iconst (v := 1) X.1 X.2.1 dX12_tick_296 (by decide) ?_
                  refine lv_iadd X.1 X.2.1 dX12_tick_297 ?_
                  refine lv_topi (fun v_346 ev_346 => ?_)
                  have z_347 : v_346.toInt = v_341.toInt + 1 := z_add ev_346 rfl ti_1 (by omega) (by omega)
                  refine r_iast X hw h_339 rfl (by rw [h_340]; exact z_ix rfl (by omega) (by omega)) dX12_tick_298 (fun H locs hw => ?_)
                  obtain ⟨S_348, eS_348⟩ : ∃ T, T = sA T_207 q_337 (upd (pA T_207 q_337) (Int32.toNatClampNeg (rr_323)) (v_346)) := ⟨_, rfl⟩
                  rw [← eS_348] at hw
                  have hO_349 : Ok MTK S S_348 := hO_T_207.sA eS_348 h_339 (by decide +kernel) (uA_374 hO_T_207.1 h_339 (by omega) (by omega))
                  have h_350 : pA S_348 q_337 (Int32.toNatClampNeg (rr_323)) = v_346 := tA_sAs eS_348
                  have t_351 : pR S_348 1208 x = some q_337 := tR_sA eS_348 h_338
                  have t_353 : pR T_207 1208 x = some q_337 := by have h := t_351; rw [eS_348, pR_sA] at h; exact h
                  have zs_352 : ∀ j, zA S_348 x 1208 j = if j = (rr_323.toInt).toNat then (v_341.toInt + 1) else zA T_207 x 1208 j := by have h := zA_sAs eS_348 t_353 z_347; rw [z_nc rfl (by omega)] at h; exact h
                  have mi_354 : MIe S_348 x rr_323.toInt := place_MI (c := rr_323.toInt) hO_T_207.1 ha_x_L_208 (show Fr [10374] T_207 S_348 by rw [eS_348]; exact Fr_sA h_339 List.mem_cons_self) mk_211 (by omega) (by omega) (by omega) (by omega) (by omega) zs_352
                  have zp_355 : zA S_348 x 1208 (rr_323.toInt).toNat = (v_341.toInt + 1) := by have h := zs_352 (rr_323.toInt).toNat; rw [if_pos rfl] at h; exact h
                  have le_356 : lenZ S_348 x = lenZ T_207 x := lenZ_fr (show Fr [10374] T_207 S_348 by rw [eS_348]; exact Fr_sA h_339 List.mem_cons_self) ha_x_L_208 (ex3 (gQ_12_1203 hO_T_207.1 ha_x_L_208)) (ex3 (gQ_12_1205 hO_T_207.1 ha_x_L_208)) (by decide +kernel) (by decide +kernel) (by decide +kernel) (by decide +kernel)
                  have lf_357 := congrFun le_356 (rr_323.toInt)
                  have zc_358 : zA S_348 x 1219 = zA T_207 x 1219 := zA_sAn eS_348 (ex3 (gQ_12_1219 hO_T_207.1 ha_x_L_208)) h_339 rfl
                  have zz_359 := congrFun zc_358 ((3 * a1_z + 1).toNat)
                  have zc_360 : zA S_348 x 1218 = zA T_207 x 1218 := zA_sAn eS_348 (ex3 (gQ_12_1218 hO_T_207.1 ha_x_L_208)) h_339 rfl
                  have zz_361 := congrFun zc_360 ((600 * (3 * a1_z + 1) + i4_206_z).toNat)
                  have t_362 : pI S_348 1201 x = v_1 := tI_sA eS_348 ik_217
                  have pz_363 : (pI S_348 1201 x).toInt = v_1.toInt := (congrArg Int32.toInt t_362).trans rfl
                  have t_365 : pR T_207 1208 x = some q_337 := by have h := t_351; rw [eS_348, pR_sA] at h; exact h
                  have zs_364 : ∀ j, zA S_348 x 1208 j = if j = (rr_323.toInt).toNat then (v_341.toInt + 1) else zA T_207 x 1208 j := by have h := zA_sAs eS_348 t_365 z_347; rw [z_nc rfl (by omega)] at h; exact h
                  have zm_366 : ZM S S_348 x := ⟨ZN_eq iv_212.1 (zA_sAn eS_348 (ex3 (gQ_12_1207 hO_T_207.1 ha_x_L_208)) h_339 rfl), ZQ_8 iv_212.2 zs_364 (by have h := zf_343; omega) (zA_sAn eS_348 (ex3 (gQ_12_1207 hO_T_207.1 ha_x_L_208)) h_339 rfl) (zA_sAn eS_348 (ex3 (gQ_12_1209 hO_T_207.1 ha_x_L_208)) h_339 rfl)⟩
                  have t_368 : pR T_207 1208 x = some q_337 := by have h := t_351; rw [eS_348, pR_sA] at h; exact h
                  have zs_367 : ∀ j, zA S_348 x 1208 j = if j = (rr_323.toInt).toNat then (v_341.toInt + 1) else zA T_207 x 1208 j := by have h := zA_sAs eS_348 t_368 z_347; rw [z_nc rfl (by omega)] at h; exact h
                  have q1_369 : (qpl (folF Ev dn_220 (we (wdr (wg (ticB Ev Rl A) (capG (qg (ticB Ev Rl A)) ((qe (ticB Ev Rl A)).map (fun c => (c, qpl (ticB Ev Rl A) c))))) (qdr (ticB Ev Rl A) + 1)) [])) c_330 + 1).toInt = (v_341.toInt + 1) := (congrArg Int32.toInt (ev_346.trans (by rw [up_345]))).symm.trans z_347
                  have el_370 : (elen Ev c_330).toInt = lenZ T_207 x (c_330 : Int) := (en_253.1 c_330 (by omega)).1
                  rw [← h8_334] at el_370
                  refine lv_aload_n X.1 X.2.1 dX12_tick_299 rfl (lv_at hl 4 rfl) ?_
                  have t_371 : At S_348 x 12 := tAt_sA eS_348 ha_x_L_208
                  refine r_getR (g := 1208) X hw t_371 rfl 8 t_351 (by decide) rfl inn_X12_tick_12 (by decide) (X.2.2.2.1 (.fieldLink RX12 28 "SilkMillModel" "place" "[I") (by decide +kernel)) rfl (gv_1208 _ _) dX12_tick_300 ?_
                  refine lv_iload X.1 X.2.1 dX12_tick_303 (lv_at hl 0 rfl) ?_
                  have t_372 : At S_348 q_337 374 := tAt_sA eS_348 h_339
                  have t_373 : pN S_348 q_337 = 600 := tN_sA eS_348 h_340
                  clear h_340
                  refine r_iald X hw t_372 rfl (by rw [t_373]; exact z_ix rfl (by omega) (by omega)) dX12_tick_305 ?_
                  rw [h_350]
                  refine lv_aload_n X.1 X.2.1 dX12_tick_306 rfl (lv_at hl 4 rfl) ?_
                  refine lv_iload X.1 X.2.1 dX12_tick_307 (lv_at hl 0 rfl) ?_
                  refine k_i (rm := { frames := 2, cells := 0, slots := 0, locals := 96 }) (av := [.ref x, .int (rr_323)]) X hw (va_runV (As := [.int (rr_323)]) (rest := [.int (v_346)]) (cfix X) (k_X12_lengthOf l G cy κ S_348 _ x (rr_323) (rr_323.toInt) hO_349.1 t_371 rfl (by first | assumption | omega) (by first | assumption | omega)) (cwV 1 X.2.2.2.1 gX12_tick_X12_lengthOf rfl rfl rfl (by decide +kernel) ⟨Nat.le_of_ble_eq_true rfl, Nat.le_of_ble_eq_true rfl⟩) (pre_V X hw _ t_371 rfl (by decide) rfl) rfl rfl hl.1 rfl (lv_room (Nat.le_of_ble_eq_true rfl)) dX12_tick_309 ⟨Nat.le_of_ble_eq_true rfl, Nat.le_of_ble_eq_true rfl⟩) 0 0 (Nat.le_of_ble_eq_true rfl) (Nat.le_of_ble_eq_true rfl) (fun rr_374 S_375 H locs hp hw hfr hnw => ?_)
                  obtain ⟨e2, hp⟩ := hp
                  subst e2
                  obtain ⟨f_376, f_377, f_378⟩ := hp
                  refine lv_icmp_ne (tgt := 332) X.1 X.2.1 dX12_tick_312 (by decide) (fun c_379 => ?_) (fun c_379 => ?_)
                  · have z_b_380 := trivial
                    have k_381 : (v_341.toInt + 1) ≠ rr_374.toInt := z_ne z_347 rfl c_379
                    have mi_382 : MI S_348 x := back_MI mi_354 (by omega) (Or.inr (by omega))
                    refine lv_aload_n X.1 X.2.1 dX12_tick_332 rfl (lv_at hl 4 rfl) ?_
                    refine lv_iload X.1 X.2.1 dX12_tick_333 (lv_at hl 0 rfl) ?_
                    refine lv_aload_n X.1 X.2.1 dX12_tick_335 rfl (lv_at hl 4 rfl) ?_
                    refine r_getR (g := 1208) X hw t_371 rfl 8 t_351 (by decide) rfl inn_X12_tick_12 (by decide) (X.2.2.2.1 (.fieldLink RX12 28 "SilkMillModel" "place" "[I") (by decide +kernel)) rfl (gv_1208 _ _) dX12_tick_336 ?_
                    refine lv_iload X.1 X.2.1 dX12_tick_339 (lv_at hl 0 rfl) ?_
                    refine r_iald X hw t_372 rfl (by rw [t_373]; exact z_ix rfl (by omega) (by omega)) dX12_tick_341 ?_
                    rw [h_350]
                    refine lv_iconst (v := 1) X.1 X.2.1 dX12_tick_342 (by decide) ?_
                    refine lv_isub X.1 X.2.1 dX12_tick_343 ?_
                    refine lv_topi (fun v_383 ev_383 => ?_)
                    have z_384 : v_383.toInt = (v_341.toInt + 1) - 1 := z_sub ev_383 z_347 ti_1 (by omega) (by omega)
                    refine k_i (rm := { frames := 2, cells := 0, slots := 0, locals := 96 }) (av := [.ref x, .int (rr_323), .int (v_383)]) X hw (va_runV (As := [.int (rr_323), .int (v_383)]) (rest := []) (cfix X) (k_X12_breaks3 l G cy κ S_348 _ x (rr_323) (rr_323.toInt) (v_383) (((v_341.toInt + 1) - 1)) hO_349.1 t_371 rfl z_384 (by first | assumption | omega) (by first | assumption | omega)) (cwV 2 X.2.2.2.1 gX12_tick_X12_breaks rfl rfl rfl (by decide +kernel) ⟨Nat.le_of_ble_eq_true rfl, Nat.le_of_ble_eq_true rfl⟩) (pre_V X hw _ t_371 rfl (by decide) rfl) rfl rfl hl.1 rfl (lv_room (Nat.le_of_ble_eq_true rfl)) dX12_tick_344 ⟨Nat.le_of_ble_eq_true rfl, Nat.le_of_ble_eq_true rfl⟩) 0 0 (Nat.le_of_ble_eq_true rfl) (Nat.le_of_ble_eq_true rfl) (fun rr_385 S_386 H locs hp hw hfr hnw => ?_)
                    obtain ⟨e2, hp⟩ := hp
                    subst e2
                    rcases hp with ⟨f_387, er_388⟩ | ⟨f_387, er_388⟩ <;> subst er_388
                    · have z_b_389 := trivial
                      refine lv_if_eq (tgt := 373) X.1 X.2.1 dX12_tick_347 (by decide) (fun c_390 => absurd c_390 (by decide)) (fun c_390 => ?_)
                      have rR_391 : RowR S_348 x (3 * a1_z + 2).toNat (ql (folF Ev dn_220 (we (wdr (wg (ticB Ev Rl A) (capG (qg (ticB Ev Rl A)) ((qe (ticB Ev Rl A)).map (fun c => (c, qpl (ticB Ev Rl A) c))))) (qdr (ticB Ev Rl A) + 1)) []))) := RowR_eq fw_242 (zA_sAn eS_348 (ex3 (gQ_12_1218 hO_T_207.1 ha_x_L_208)) h_339 rfl) (zA_sAn eS_348 (ex3 (gQ_12_1219 hO_T_207.1 ha_x_L_208)) h_339 rfl)
                      have pe_394 : v_383 = qpl (folF Ev dn_220 (we (wdr (wg (ticB Ev Rl A) (capG (qg (ticB Ev Rl A)) ((qe (ticB Ev Rl A)).map (fun c => (c, qpl (ticB Ev Rl A) c))))) (qdr (ticB Ev Rl A) + 1)) [])) c_330 := Int32.toInt_inj.mp (by have h1 := congrArg Int32.toInt up_345; have h2 : (v_383).toInt = ((v_341.toInt + 1) - 1) := z_384; have h3 : (v_341).toInt = v_341.toInt := rfl; omega)
                      have bk_392 : ebr Ev c_330 (qpl (folF Ev dn_220 (we (wdr (wg (ticB Ev Rl A) (capG (qg (ticB Ev Rl A)) ((qe (ticB Ev Rl A)).map (fun c => (c, qpl (ticB Ev Rl A) c))))) (qdr (ticB Ev Rl A) + 1)) [])) c_330) := by rw [(hp_5.1 c_330 (by omega)).2.2]; have h := f_387; rw [mA_fr hO_349.fr ha_x (ex3 (gQ_12_1203 hG ha_x)) (by decide +kernel) (by decide +kernel), mA_fr hO_349.fr ha_x (ex3 (gQ_12_1206 hG ha_x)) (by decide +kernel) (by decide +kernel), h8_334, pe_394] at h; exact h
                      have bs_393 : sdV Ev (folF Ev dn_220 (we (wdr (wg (ticB Ev Rl A) (capG (qg (ticB Ev Rl A)) ((qe (ticB Ev Rl A)).map (fun c => (c, qpl (ticB Ev Rl A) c))))) (qdr (ticB Ev Rl A) + 1)) [])) c_330 = 3 := sdV_3 (by omega) bk_392
                      refine lv_aload_n X.1 X.2.1 dX12_tick_350 rfl (lv_at hl 4 rfl) ?_
                      refine lv_iload_n X.1 X.2.1 dX12_tick_351 rfl (lv_at hl 5 rfl) ?_
                      refine lv_iconst (v := 2) X.1 X.2.1 dX12_tick_352 (by decide) ?_
                      refine lv_aload_n X.1 X.2.1 dX12_tick_353 rfl (lv_at hl 4 rfl) ?_
                      refine lv_iload_n X.1 X.2.1 dX12_tick_354 rfl (lv_at hl 5 rfl) ?_
                      refine lv_iconst (v := 1) X.1 X.2.1 dX12_tick_355 (by decide) ?_
                      refine lv_iload X.1 X.2.1 dX12_tick_356 (lv_at hl 1 rfl) ?_
                      have pz_395 : (pI S_348 1201 x).toInt = v_1.toInt := (congrArg Int32.toInt t_362).trans rfl
                      have rR_396 : RowR S_348 x (3 * a1_z + 0).toNat (qb (folF Ev dn_220 (we (wdr (wg (ticB Ev Rl A) (capG (qg (ticB Ev Rl A)) ((qe (ticB Ev Rl A)).map (fun c => (c, qpl (ticB Ev Rl A) c))))) (qdr (ticB Ev Rl A) + 1)) []))) := RowR_eq fw_240 (zA_sAn eS_348 (ex3 (gQ_12_1218 hO_T_207.1 ha_x_L_208)) h_339 rfl) (zA_sAn eS_348 (ex3 (gQ_12_1219 hO_T_207.1 ha_x_L_208)) h_339 rfl)
                      have rR_397 : RowR S_348 x (3 * a1_z + 1).toNat (qe (folF Ev dn_220 (we (wdr (wg (ticB Ev Rl A) (capG (qg (ticB Ev Rl A)) ((qe (ticB Ev Rl A)).map (fun c => (c, qpl (ticB Ev Rl A) c))))) (qdr (ticB Ev Rl A) + 1)) [])) ++ rs_221) := RowR_eq fw_241 (zA_sAn eS_348 (ex3 (gQ_12_1218 hO_T_207.1 ha_x_L_208)) h_339 rfl) (zA_sAn eS_348 (ex3 (gQ_12_1219 hO_T_207.1 ha_x_L_208)) h_339 rfl)
                      refine k_i (rm := { frames := 1, cells := 0, slots := 0, locals := 48 }) (av := [.ref x, .int (a1), .int 1, .int (i4_206)]) X hw (va_runV (As := [.int (a1), .int 1, .int (i4_206)]) (rest := [.int 2, .int (a1), .ref x]) (cfix X) (k_X12_goes5 l G cy κ S_348 _ x (a1) (a1_z) (1) (1) (i4_206) (i4_206_z) (-1) hO_349.1 t_371 hz_a1 ti_1 hz_i4_206 (by first | assumption | omega) (by first | assumption | omega) (by first | assumption | omega) (by first | assumption | omega) (by first | assumption | omega) (by first | assumption | omega) mi_382) (cwV 3 X.2.2.2.1 gX12_tick_X12_goes rfl rfl rfl (by decide +kernel) ⟨Nat.le_of_ble_eq_true rfl, Nat.le_of_ble_eq_true rfl⟩) (pre_V X hw _ t_371 rfl (by decide) rfl) rfl rfl hl.1 rfl (lv_room (Nat.le_of_ble_eq_true rfl)) dX12_tick_358 ⟨Nat.le_of_ble_eq_true rfl, Nat.le_of_ble_eq_true rfl⟩) 0 0 (Nat.le_of_ble_eq_true rfl) (Nat.le_of_ble_eq_true rfl) (fun rr_398 S_399 H locs hp hw hfr hnw => ?_)
                      obtain ⟨hk_400, hp⟩ := hp
                      have hO_401 : Ok MTK S S_399 := hO_349.call hk_400 (by decide +kernel)
                      obtain ⟨g_402, g_403, g_404, g_405, g_406, g_407, g_408, g_409, g_410, g_411⟩ := hp
                      have zl_413 : zA S_399 x 1209 = zA S_348 x 1209 := zA_fr hk_400.fr t_371 (ex3 (gQ_12_1209 hO_349.1 t_371)) (by decide +kernel) (by decide +kernel)
                      have h9_412 : zA S_399 x 1209 rr_398.toInt.toNat = a1_z := (congrFun zl_413 _).trans g_410
                      have dn_416 : rr_398.toInt = (c_330 : Int) := by have h8 := rR_397.2 _ _ ix_333; have hi : (600 * (3 * a1_z + 1) + i4_206_z).toNat = 600 * (3 * a1_z + 1).toNat + ((i4_206_z : Int)).toNat := (by omega); rw [← hi] at h8; omega
                      have t_417 : pI S_399 1201 x = v_1 := hk_400.fr.I' (by decide +kernel) t_371 t_362
                      have pz_418 : (pI S_399 1201 x).toInt = v_1.toInt := (congrArg Int32.toInt t_417).trans rfl
                      have zl_419 : zA S_399 x 1207 = zA S_348 x 1207 := zA_fr hk_400.fr t_371 (ex3 (gQ_12_1207 hO_349.1 t_371)) (by decide +kernel) (by decide +kernel)
                      have zz_420 := congrFun zl_419 (rr_398.toInt).toNat
                      have al_421 := ((MI_1 g_407 (c := rr_398.toInt) (by omega) (by omega)).2 (by omega)).2 (by omega) (by omega)
                      have gi_422 := g_409 (3 * a1_z + 1).toNat; rw [if_pos (by omega)] at gi_422
                      have m4_423 := g_407.2.2.2.1.2 (3 * a1_z + 1).toNat (by omega)
                      have gi_424 := g_409 (3 * a1_z + 2).toNat; rw [if_neg (by omega)] at gi_424
                      have m4_425 := g_407.2.2.2.1.2 (3 * a1_z + 2).toNat (by omega)
                      refine lv_aload_n X.1 X.2.1 dX12_tick_361 rfl (lv_at hl 4 rfl) ?_
                      refine lv_iload_n X.1 X.2.1 dX12_tick_362 rfl (lv_at hl 5 rfl) ?_
                      refine lv_iconst (v := 2) X.1 X.2.1 dX12_tick_363 (by decide) ?_
                      have t_426 : At S_399 x 12 := hk_400.fr.at t_371
                      refine k_i (rm := { frames := 1, cells := 0, slots := 0, locals := 48 }) (av := [.ref x, .int (a1), .int 2]) X hw (va_runV (As := [.int (a1), .int 2]) (rest := [.int (rr_398), .int 2, .int (a1), .ref x]) (cfix X) (k_X12_many2 l G cy κ S_399 _ x (a1) (a1_z) (2) (2) hO_401.1 t_426 hz_a1 ti_2 (by first | assumption | omega) (by first | assumption | omega) (by first | assumption | omega) (by first | assumption | omega)) (cwV 2 X.2.2.2.1 gX12_tick_X12_many rfl rfl rfl (by decide +kernel) ⟨Nat.le_of_ble_eq_true rfl, Nat.le_of_ble_eq_true rfl⟩) (pre_V X hw _ t_426 rfl (by decide) rfl) rfl rfl hl.1 rfl (lv_room (Nat.le_of_ble_eq_true rfl)) dX12_tick_364 ⟨Nat.le_of_ble_eq_true rfl, Nat.le_of_ble_eq_true rfl⟩) 0 0 (Nat.le_of_ble_eq_true rfl) (Nat.le_of_ble_eq_true rfl) (fun rr_427 S_428 H locs hp hw hfr hnw => ?_)
                      obtain ⟨e2, hp⟩ := hp
                      subst e2
                      obtain ⟨f_429, f_430, f_431⟩ := hp
                      refine k_v (rm := { frames := 1, cells := 0, slots := 0, locals := 48 }) (av := [.ref x, .int (a1), .int 2, .int (rr_398), .int (rr_427)]) X hw (va_runV (As := [.int (a1), .int 2, .int (rr_398), .int (rr_427)]) (rest := []) (cfix X) (k_X12_comes5 l G cy κ S_399 _ x (a1) (a1_z) (2) (2) (rr_398) (rr_398.toInt) (rr_427) (rr_427.toInt) hO_401.1 t_426 hz_a1 ti_2 rfl rfl (by first | assumption | omega) (by first | assumption | omega) (by first | assumption | omega) (by first | assumption | omega) (by first | assumption | omega) (by first | assumption | omega) (by first | assumption | omega) (by first | assumption | omega) (by first | assumption | omega) (by first | assumption | omega) g_407 (by first | assumption | omega) (by first | assumption | omega)) (cwV 4 X.2.2.2.1 gX12_tick_X12_comes rfl rfl rfl (by decide +kernel) ⟨Nat.le_of_ble_eq_true rfl, Nat.le_of_ble_eq_true rfl⟩) (pre_V X hw _ t_426 rfl (by decide) rfl) rfl rfl hl.1 rfl (lv_room (Nat.le_of_ble_eq_true rfl)) dX12_tick_367 ⟨Nat.le_of_ble_eq_true rfl, Nat.le_of_ble_eq_true rfl⟩) 0 0 (Nat.le_of_ble_eq_true rfl) (Nat.le_of_ble_eq_true rfl) (fun S_433 H locs hp hw hfr hnw => ?_)
                      obtain ⟨hk_434, hp⟩ := hp
                      have hO_435 : Ok MTK S S_433 := hO_401.call hk_434 (by decide +kernel)
                      obtain ⟨mi_436, cm_437, cs_438, c9_440, cx_439⟩ := hp
                      have gi_441 := cm_437 (3 * a1_z + 1).toNat; rw [if_neg (by omega)] at gi_441
                      refine lv_goto (tgt := 376) X.1 X.2.1 dX12_tick_370 (by decide) ?_
                      refine lv_goto (tgt := 267) X.1 X.2.1 dX12_tick_376 (by decide) ?_
                      have t_442 : At S_433 x 12 := hk_434.fr.at t_426
                      have zc_443 : zA S_348 x 1237 = zA S_175 x 1237 := (zA_sAn eS_348 (ex3 (gQ_12_1237 hO_T_207.1 ha_x_L_208)) h_339 rfl).trans zk_210
                      have zc_444 : zA S_399 x 1237 = zA S_175 x 1237 := (zA_fr hk_400.fr t_371 (ex3 (gQ_12_1237 hO_349.1 t_371)) (by decide +kernel) (by decide +kernel)).trans zc_443
                      have zc_445 : zA S_433 x 1237 = zA S_175 x 1237 := (zA_fr hk_434.fr t_426 (ex3 (gQ_12_1237 hO_401.1 t_426)) (by decide +kernel) (by decide +kernel)).trans zc_444
                      have zm_446 : ZM S S_399 x := ⟨ZN_eq zm_366.1 (zA_fr hk_400.fr t_371 (ex3 (gQ_12_1207 hO_349.1 t_371)) (by decide +kernel) (by decide +kernel)), ZQ_eq zm_366.2 (zA_fr hk_400.fr t_371 (ex3 (gQ_12_1207 hO_349.1 t_371)) (by decide +kernel) (by decide +kernel)) (zA_fr hk_400.fr t_371 (ex3 (gQ_12_1208 hO_349.1 t_371)) (by decide +kernel) (by decide +kernel)) (zA_fr hk_400.fr t_371 (ex3 (gQ_12_1209 hO_349.1 t_371)) (by decide +kernel) (by decide +kernel))⟩
                      have zm_447 : ZM S S_433 x := ⟨ZN_set zm_446.1 cs_438 ⟨by omega, by omega⟩ ⟨by omega, by omega⟩, ZQ_7 zm_446.2 cs_438 (by omega) (zA_fr hk_434.fr t_426 (ex3 (gQ_12_1208 hO_401.1 t_426)) (by decide +kernel) (by decide +kernel)) (p9_cm c9_440 h9_412)⟩
                      have rR_448 : RowR S_399 x (3 * a1_z + 0).toNat (qb (folF Ev dn_220 (we (wdr (wg (ticB Ev Rl A) (capG (qg (ticB Ev Rl A)) ((qe (ticB Ev Rl A)).map (fun c => (c, qpl (ticB Ev Rl A) c))))) (qdr (ticB Ev Rl A) + 1)) []))) := RowR_gox hO_349.1 t_371 (by omega) rR_396 g_411
                      have rR_449 : RowR S_433 x (3 * a1_z + 0).toNat (qb (folF Ev dn_220 (we (wdr (wg (ticB Ev Rl A) (capG (qg (ticB Ev Rl A)) ((qe (ticB Ev Rl A)).map (fun c => (c, qpl (ticB Ev Rl A) c))))) (qdr (ticB Ev Rl A) + 1)) []))) := RowR_cmx hO_401.1 t_426 (by omega) rR_448 cx_439
                      have rR_450 : RowR S_399 x (3 * a1_z + 1).toNat ((qe (folF Ev dn_220 (we (wdr (wg (ticB Ev Rl A) (capG (qg (ticB Ev Rl A)) ((qe (ticB Ev Rl A)).map (fun c => (c, qpl (ticB Ev Rl A) c))))) (qdr (ticB Ev Rl A) + 1)) [])) ++ rs_221).eraseIdx (i4_206_z).toNat) := RowR_goes rR_397 g_411 (by have := rR_397.1; omega)
                      have rR_451 : RowR S_433 x (3 * a1_z + 1).toNat ((qe (folF Ev dn_220 (we (wdr (wg (ticB Ev Rl A) (capG (qg (ticB Ev Rl A)) ((qe (ticB Ev Rl A)).map (fun c => (c, qpl (ticB Ev Rl A) c))))) (qdr (ticB Ev Rl A) + 1)) [])) ++ rs_221).eraseIdx (i4_206_z).toNat) := RowR_cmx hO_401.1 t_426 (by omega) rR_450 cx_439
                      have rR_452 : RowR S_399 x (3 * a1_z + 2).toNat (ql (folF Ev dn_220 (we (wdr (wg (ticB Ev Rl A) (capG (qg (ticB Ev Rl A)) ((qe (ticB Ev Rl A)).map (fun c => (c, qpl (ticB Ev Rl A) c))))) (qdr (ticB Ev Rl A) + 1)) []))) := RowR_gox hO_349.1 t_371 (by omega) rR_391 g_411
                      have cap_454 : ((ql (folF Ev dn_220 (we (wdr (wg (ticB Ev Rl A) (capG (qg (ticB Ev Rl A)) ((qe (ticB Ev Rl A)).map (fun c => (c, qpl (ticB Ev Rl A) c))))) (qdr (ticB Ev Rl A) + 1)) [])))).length < 600 := by have h1 := rR_452.1; have h2 := cx_439.2.2.2.1; omega
                      have rR_453 : RowR S_433 x (3 * a1_z + 2).toNat ((ql (folF Ev dn_220 (we (wdr (wg (ticB Ev Rl A) (capG (qg (ticB Ev Rl A)) ((qe (ticB Ev Rl A)).map (fun c => (c, qpl (ticB Ev Rl A) c))))) (qdr (ticB Ev Rl A) + 1)) []))) ++ [c_330]) := RowR_last rR_452 (show CmO S_399 S_433 x (3 * a1_z + 2).toNat ((ql (folF Ev dn_220 (we (wdr (wg (ticB Ev Rl A) (capG (qg (ticB Ev Rl A)) ((qe (ticB Ev Rl A)).map (fun c => (c, qpl (ticB Ev Rl A) c))))) (qdr (ticB Ev Rl A) + 1)) [])))).length (rr_398.toInt) by rw [show ((ql (folF Ev dn_220 (we (wdr (wg (ticB Ev Rl A) (capG (qg (ticB Ev Rl A)) ((qe (ticB Ev Rl A)).map (fun c => (c, qpl (ticB Ev Rl A) c))))) (qdr (ticB Ev Rl A) + 1)) [])))).length = (rr_427.toInt).toNat by have := rR_452.1; omega]; exact cx_439) dn_416
                      have zR_455 : zA S_348 x 1215 a1_z.toNat = ((qst (folF Ev dn_220 (we (wdr (wg (ticB Ev Rl A) (capG (qg (ticB Ev Rl A)) ((qe (ticB Ev Rl A)).map (fun c => (c, qpl (ticB Ev Rl A) c))))) (qdr (ticB Ev Rl A) + 1)) [])))).toInt := (congrFun (zA_sAn eS_348 (ex3 (gQ_12_1215 hO_T_207.1 ha_x_L_208)) h_339 rfl) _).trans fw_247
                      have zR_456 : zA S_399 x 1215 a1_z.toNat = ((qst (folF Ev dn_220 (we (wdr (wg (ticB Ev Rl A) (capG (qg (ticB Ev Rl A)) ((qe (ticB Ev Rl A)).map (fun c => (c, qpl (ticB Ev Rl A) c))))) (qdr (ticB Ev Rl A) + 1)) [])))).toInt := (congrFun (zA_fr hk_400.fr t_371 (ex3 (gQ_12_1215 hO_349.1 t_371)) (by decide +kernel) (by decide +kernel)) _).trans zR_455
                      have zR_457 : zA S_433 x 1215 a1_z.toNat = ((qst (folF Ev dn_220 (we (wdr (wg (ticB Ev Rl A) (capG (qg (ticB Ev Rl A)) ((qe (ticB Ev Rl A)).map (fun c => (c, qpl (ticB Ev Rl A) c))))) (qdr (ticB Ev Rl A) + 1)) [])))).toInt := (congrFun (zA_fr hk_434.fr t_426 (ex3 (gQ_12_1215 hO_401.1 t_426)) (by decide +kernel) (by decide +kernel)) _).trans zR_456
                      have zR_458 : zA S_348 x 1214 a1_z.toNat = ((qse (folF Ev dn_220 (we (wdr (wg (ticB Ev Rl A) (capG (qg (ticB Ev Rl A)) ((qe (ticB Ev Rl A)).map (fun c => (c, qpl (ticB Ev Rl A) c))))) (qdr (ticB Ev Rl A) + 1)) [])))).toInt := (congrFun (zA_sAn eS_348 (ex3 (gQ_12_1214 hO_T_207.1 ha_x_L_208)) h_339 rfl) _).trans fw_248
                      have zR_459 : zA S_399 x 1214 a1_z.toNat = ((qse (folF Ev dn_220 (we (wdr (wg (ticB Ev Rl A) (capG (qg (ticB Ev Rl A)) ((qe (ticB Ev Rl A)).map (fun c => (c, qpl (ticB Ev Rl A) c))))) (qdr (ticB Ev Rl A) + 1)) [])))).toInt := (congrFun (zA_fr hk_400.fr t_371 (ex3 (gQ_12_1214 hO_349.1 t_371)) (by decide +kernel) (by decide +kernel)) _).trans zR_458
                      have zR_460 : zA S_433 x 1214 a1_z.toNat = ((qse (folF Ev dn_220 (we (wdr (wg (ticB Ev Rl A) (capG (qg (ticB Ev Rl A)) ((qe (ticB Ev Rl A)).map (fun c => (c, qpl (ticB Ev Rl A) c))))) (qdr (ticB Ev Rl A) + 1)) [])))).toInt := (congrFun (zA_fr hk_434.fr t_426 (ex3 (gQ_12_1214 hO_401.1 t_426)) (by decide +kernel) (by decide +kernel)) _).trans zR_459
                      have zR_461 : zA S_348 x 1216 a1_z.toNat = ((qdr (folF Ev dn_220 (we (wdr (wg (ticB Ev Rl A) (capG (qg (ticB Ev Rl A)) ((qe (ticB Ev Rl A)).map (fun c => (c, qpl (ticB Ev Rl A) c))))) (qdr (ticB Ev Rl A) + 1)) [])))).toInt := (congrFun (zA_sAn eS_348 (ex3 (gQ_12_1216 hO_T_207.1 ha_x_L_208)) h_339 rfl) _).trans fw_249
                      have zR_462 : zA S_399 x 1216 a1_z.toNat = ((qdr (folF Ev dn_220 (we (wdr (wg (ticB Ev Rl A) (capG (qg (ticB Ev Rl A)) ((qe (ticB Ev Rl A)).map (fun c => (c, qpl (ticB Ev Rl A) c))))) (qdr (ticB Ev Rl A) + 1)) [])))).toInt := (congrFun (zA_fr hk_400.fr t_371 (ex3 (gQ_12_1216 hO_349.1 t_371)) (by decide +kernel) (by decide +kernel)) _).trans zR_461
                      have zR_463 : zA S_433 x 1216 a1_z.toNat = ((qdr (folF Ev dn_220 (we (wdr (wg (ticB Ev Rl A) (capG (qg (ticB Ev Rl A)) ((qe (ticB Ev Rl A)).map (fun c => (c, qpl (ticB Ev Rl A) c))))) (qdr (ticB Ev Rl A) + 1)) [])))).toInt := (congrFun (zA_fr hk_434.fr t_426 (ex3 (gQ_12_1216 hO_401.1 t_426)) (by decide +kernel) (by decide +kernel)) _).trans zR_462
                      have zR_464 : zA S_348 x 1217 a1_z.toNat = ((qtk (folF Ev dn_220 (we (wdr (wg (ticB Ev Rl A) (capG (qg (ticB Ev Rl A)) ((qe (ticB Ev Rl A)).map (fun c => (c, qpl (ticB Ev Rl A) c))))) (qdr (ticB Ev Rl A) + 1)) [])))).toInt := (congrFun (zA_sAn eS_348 (ex3 (gQ_12_1217 hO_T_207.1 ha_x_L_208)) h_339 rfl) _).trans fw_250
                      have zR_465 : zA S_399 x 1217 a1_z.toNat = ((qtk (folF Ev dn_220 (we (wdr (wg (ticB Ev Rl A) (capG (qg (ticB Ev Rl A)) ((qe (ticB Ev Rl A)).map (fun c => (c, qpl (ticB Ev Rl A) c))))) (qdr (ticB Ev Rl A) + 1)) [])))).toInt := (congrFun (zA_fr hk_400.fr t_371 (ex3 (gQ_12_1217 hO_349.1 t_371)) (by decide +kernel) (by decide +kernel)) _).trans zR_464
                      have zR_466 : zA S_433 x 1217 a1_z.toNat = ((qtk (folF Ev dn_220 (we (wdr (wg (ticB Ev Rl A) (capG (qg (ticB Ev Rl A)) ((qe (ticB Ev Rl A)).map (fun c => (c, qpl (ticB Ev Rl A) c))))) (qdr (ticB Ev Rl A) + 1)) [])))).toInt := (congrFun (zA_fr hk_434.fr t_426 (ex3 (gQ_12_1217 hO_401.1 t_426)) (by decide +kernel) (by decide +kernel)) _).trans zR_465
                      have gR_467 : zA S_348 x 1237 a1_z.toNat = (((qg (folF Ev dn_220 (we (wdr (wg (ticB Ev Rl A) (capG (qg (ticB Ev Rl A)) ((qe (ticB Ev Rl A)).map (fun c => (c, qpl (ticB Ev Rl A) c))))) (qdr (ticB Ev Rl A) + 1)) [])))).length : Int) := (congrFun (zA_sAn eS_348 (ex3 (gQ_12_1237 hO_T_207.1 ha_x_L_208)) h_339 rfl) _).trans fw_251
                      have gR_468 : zA S_399 x 1237 a1_z.toNat = (((qg (folF Ev dn_220 (we (wdr (wg (ticB Ev Rl A) (capG (qg (ticB Ev Rl A)) ((qe (ticB Ev Rl A)).map (fun c => (c, qpl (ticB Ev Rl A) c))))) (qdr (ticB Ev Rl A) + 1)) [])))).length : Int) := (congrFun (zA_fr hk_400.fr t_371 (ex3 (gQ_12_1237 hO_349.1 t_371)) (by decide +kernel) (by decide +kernel)) _).trans gR_467
                      have gR_469 : zA S_433 x 1237 a1_z.toNat = (((qg (folF Ev dn_220 (we (wdr (wg (ticB Ev Rl A) (capG (qg (ticB Ev Rl A)) ((qe (ticB Ev Rl A)).map (fun c => (c, qpl (ticB Ev Rl A) c))))) (qdr (ticB Ev Rl A) + 1)) [])))).length : Int) := (congrFun (zA_fr hk_434.fr t_426 (ex3 (gQ_12_1237 hO_401.1 t_426)) (by decide +kernel) (by decide +kernel)) _).trans gR_468
                      have pz_470 : PlZ S_348 x (fuI (qpl (folF Ev dn_220 (we (wdr (wg (ticB Ev Rl A) (capG (qg (ticB Ev Rl A)) ((qe (ticB Ev Rl A)).map (fun c => (c, qpl (ticB Ev Rl A) c))))) (qdr (ticB Ev Rl A) + 1)) []))) c_330 (qpl (folF Ev dn_220 (we (wdr (wg (ticB Ev Rl A) (capG (qg (ticB Ev Rl A)) ((qe (ticB Ev Rl A)).map (fun c => (c, qpl (ticB Ev Rl A) c))))) (qdr (ticB Ev Rl A) + 1)) [])) c_330 + 1)) (qsd (folF Ev dn_220 (we (wdr (wg (ticB Ev Rl A) (capG (qg (ticB Ev Rl A)) ((qe (ticB Ev Rl A)).map (fun c => (c, qpl (ticB Ev Rl A) c))))) (qdr (ticB Ev Rl A) + 1)) []))) := PlZ_8 fw_246 (zA_sAn eS_348 (ex3 (gQ_12_1207 hO_T_207.1 ha_x_L_208)) h_339 rfl) zs_367 (by omega) (z_347.symm.trans (congrArg Int32.toInt (ev_346.trans (by rw [up_345]))))
                      have pz_471 : PlZ S_399 x (fuI (qpl (folF Ev dn_220 (we (wdr (wg (ticB Ev Rl A) (capG (qg (ticB Ev Rl A)) ((qe (ticB Ev Rl A)).map (fun c => (c, qpl (ticB Ev Rl A) c))))) (qdr (ticB Ev Rl A) + 1)) []))) c_330 (qpl (folF Ev dn_220 (we (wdr (wg (ticB Ev Rl A) (capG (qg (ticB Ev Rl A)) ((qe (ticB Ev Rl A)).map (fun c => (c, qpl (ticB Ev Rl A) c))))) (qdr (ticB Ev Rl A) + 1)) [])) c_330 + 1)) (qsd (folF Ev dn_220 (we (wdr (wg (ticB Ev Rl A) (capG (qg (ticB Ev Rl A)) ((qe (ticB Ev Rl A)).map (fun c => (c, qpl (ticB Ev Rl A) c))))) (qdr (ticB Ev Rl A) + 1)) []))) := PlZ_eq pz_470 (zA_fr hk_400.fr t_371 (ex3 (gQ_12_1208 hO_349.1 t_371)) (by decide +kernel) (by decide +kernel)) (zA_fr hk_400.fr t_371 (ex3 (gQ_12_1207 hO_349.1 t_371)) (by decide +kernel) (by decide +kernel))
                      have pz_472 : PlZ S_433 x (fuI (qpl (folF Ev dn_220 (we (wdr (wg (ticB Ev Rl A) (capG (qg (ticB Ev Rl A)) ((qe (ticB Ev Rl A)).map (fun c => (c, qpl (ticB Ev Rl A) c))))) (qdr (ticB Ev Rl A) + 1)) []))) c_330 (qpl (folF Ev dn_220 (we (wdr (wg (ticB Ev Rl A) (capG (qg (ticB Ev Rl A)) ((qe (ticB Ev Rl A)).map (fun c => (c, qpl (ticB Ev Rl A) c))))) (qdr (ticB Ev Rl A) + 1)) [])) c_330 + 1)) (fuI (qsd (folF Ev dn_220 (we (wdr (wg (ticB Ev Rl A) (capG (qg (ticB Ev Rl A)) ((qe (ticB Ev Rl A)).map (fun c => (c, qpl (ticB Ev Rl A) c))))) (qdr (ticB Ev Rl A) + 1)) []))) c_330 3) := PlZ_7 pz_471 (zA_fr hk_434.fr t_426 (ex3 (gQ_12_1208 hO_401.1 t_426)) (by decide +kernel) (by decide +kernel)) cs_438 (by omega) (by decide)
                      have t_473 : pI S_348 1238 x = v_236 := tI_sA eS_348 ev_236
                      have t_474 : pI S_399 1238 x = v_236 := hk_400.fr.I' (by decide +kernel) t_371 t_473
                      have t_475 : pI S_433 1238 x = v_236 := hk_434.fr.I' (by decide +kernel) t_426 t_474
                      have pz_476 : (pI S_433 1238 x).toInt = v_236.toInt := (congrArg Int32.toInt t_475).trans rfl
                      have px_477 : PwX S S_348 x a1_z := PwX_to iv_214 (zA_sAn eS_348 (ex3 (gQ_12_1218 hO_T_207.1 ha_x_L_208)) h_339 rfl) (zA_sAn eS_348 (ex3 (gQ_12_1219 hO_T_207.1 ha_x_L_208)) h_339 rfl) (pw5 (zA_sAn eS_348 (ex3 (gQ_12_1214 hO_T_207.1 ha_x_L_208)) h_339 rfl) (zA_sAn eS_348 (ex3 (gQ_12_1215 hO_T_207.1 ha_x_L_208)) h_339 rfl) (zA_sAn eS_348 (ex3 (gQ_12_1216 hO_T_207.1 ha_x_L_208)) h_339 rfl) (zA_sAn eS_348 (ex3 (gQ_12_1217 hO_T_207.1 ha_x_L_208)) h_339 rfl) (zA_sAn eS_348 (ex3 (gQ_12_1237 hO_T_207.1 ha_x_L_208)) h_339 rfl))
                      have px_478 : PwX S S_399 x a1_z := PwX_go px_477 hO_349.1 t_371 (by omega) g_411 (pw5 (zA_fr hk_400.fr t_371 (ex3 (gQ_12_1214 hO_349.1 t_371)) (by decide +kernel) (by decide +kernel)) (zA_fr hk_400.fr t_371 (ex3 (gQ_12_1215 hO_349.1 t_371)) (by decide +kernel) (by decide +kernel)) (zA_fr hk_400.fr t_371 (ex3 (gQ_12_1216 hO_349.1 t_371)) (by decide +kernel) (by decide +kernel)) (zA_fr hk_400.fr t_371 (ex3 (gQ_12_1217 hO_349.1 t_371)) (by decide +kernel) (by decide +kernel)) (zA_fr hk_400.fr t_371 (ex3 (gQ_12_1237 hO_349.1 t_371)) (by decide +kernel) (by decide +kernel)))
                      have px_479 : PwX S S_433 x a1_z := PwX_cm px_478 hO_401.1 t_426 (by omega) cx_439 (pw5 (zA_fr hk_434.fr t_426 (ex3 (gQ_12_1214 hO_401.1 t_426)) (by decide +kernel) (by decide +kernel)) (zA_fr hk_434.fr t_426 (ex3 (gQ_12_1215 hO_401.1 t_426)) (by decide +kernel) (by decide +kernel)) (zA_fr hk_434.fr t_426 (ex3 (gQ_12_1216 hO_401.1 t_426)) (by decide +kernel) (by decide +kernel)) (zA_fr hk_434.fr t_426 (ex3 (gQ_12_1217 hO_401.1 t_426)) (by decide +kernel) (by decide +kernel)) (zA_fr hk_434.fr t_426 (ex3 (gQ_12_1237 hO_401.1 t_426)) (by decide +kernel) (by decide +kernel)))
                      have t_480 : pI S_433 1201 x = v_1 := hk_434.fr.I' (by decide +kernel) t_426 t_417
                      exact ih_L_205 _ (by omega) _ _ _ _ (i4_206) (i4_206_z) rfl hw hz_i4_206 (by omega) t_442 hO_435 zc_445 mi_436 zm_447 ⟨dn_220 ++ [c_330], t_331, (by rw [List.append_assoc]; exact (by rw [ed_222, er_332]; rfl)), (by rw [show we (folF Ev (dn_220 ++ [c_330]) (we (wdr (wg (ticB Ev Rl A) (capG (qg (ticB Ev Rl A)) ((qe (ticB Ev Rl A)).map (fun c => (c, qpl (ticB Ev Rl A) c))))) (qdr (ticB Ev Rl A) + 1)) [])) (qe (folF Ev (dn_220 ++ [c_330]) (we (wdr (wg (ticB Ev Rl A) (capG (qg (ticB Ev Rl A)) ((qe (ticB Ev Rl A)).map (fun c => (c, qpl (ticB Ev Rl A) c))))) (qdr (ticB Ev Rl A) + 1)) [])) ++ t_331) = (we (wl (wsd (wpl (folF Ev dn_220 (we (wdr (wg (ticB Ev Rl A) (capG (qg (ticB Ev Rl A)) ((qe (ticB Ev Rl A)).map (fun c => (c, qpl (ticB Ev Rl A) c))))) (qdr (ticB Ev Rl A) + 1)) [])) (fuI (qpl (folF Ev dn_220 (we (wdr (wg (ticB Ev Rl A) (capG (qg (ticB Ev Rl A)) ((qe (ticB Ev Rl A)).map (fun c => (c, qpl (ticB Ev Rl A) c))))) (qdr (ticB Ev Rl A) + 1)) []))) c_330 (qpl (folF Ev dn_220 (we (wdr (wg (ticB Ev Rl A) (capG (qg (ticB Ev Rl A)) ((qe (ticB Ev Rl A)).map (fun c => (c, qpl (ticB Ev Rl A) c))))) (qdr (ticB Ev Rl A) + 1)) [])) c_330 + 1))) (fuI (qsd (folF Ev dn_220 (we (wdr (wg (ticB Ev Rl A) (capG (qg (ticB Ev Rl A)) ((qe (ticB Ev Rl A)).map (fun c => (c, qpl (ticB Ev Rl A) c))))) (qdr (ticB Ev Rl A) + 1)) []))) c_330 (sdV Ev (folF Ev dn_220 (we (wdr (wg (ticB Ev Rl A) (capG (qg (ticB Ev Rl A)) ((qe (ticB Ev Rl A)).map (fun c => (c, qpl (ticB Ev Rl A) c))))) (qdr (ticB Ev Rl A) + 1)) [])) c_330))) (capL 600 (ql (folF Ev dn_220 (we (wdr (wg (ticB Ev Rl A) (capG (qg (ticB Ev Rl A)) ((qe (ticB Ev Rl A)).map (fun c => (c, qpl (ticB Ev Rl A) c))))) (qdr (ticB Ev Rl A) + 1)) []))) c_330)) (qe (folF Ev dn_220 (we (wdr (wg (ticB Ev Rl A) (capG (qg (ticB Ev Rl A)) ((qe (ticB Ev Rl A)).map (fun c => (c, qpl (ticB Ev Rl A) c))))) (qdr (ticB Ev Rl A) + 1)) [])) ++ t_331)) by rw [fol_s, endK_3 bs_393]; rfl]; exact PotW_of (rfl : (we (wl (wsd (wpl (folF Ev dn_220 (we (wdr (wg (ticB Ev Rl A) (capG (qg (ticB Ev Rl A)) ((qe (ticB Ev Rl A)).map (fun c => (c, qpl (ticB Ev Rl A) c))))) (qdr (ticB Ev Rl A) + 1)) [])) (fuI (qpl (folF Ev dn_220 (we (wdr (wg (ticB Ev Rl A) (capG (qg (ticB Ev Rl A)) ((qe (ticB Ev Rl A)).map (fun c => (c, qpl (ticB Ev Rl A) c))))) (qdr (ticB Ev Rl A) + 1)) []))) c_330 (qpl (folF Ev dn_220 (we (wdr (wg (ticB Ev Rl A) (capG (qg (ticB Ev Rl A)) ((qe (ticB Ev Rl A)).map (fun c => (c, qpl (ticB Ev Rl A) c))))) (qdr (ticB Ev Rl A) + 1)) [])) c_330 + 1))) (fuI (qsd (folF Ev dn_220 (we (wdr (wg (ticB Ev Rl A) (capG (qg (ticB Ev Rl A)) ((qe (ticB Ev Rl A)).map (fun c => (c, qpl (ticB Ev Rl A) c))))) (qdr (ticB Ev Rl A) + 1)) []))) c_330 (sdV Ev (folF Ev dn_220 (we (wdr (wg (ticB Ev Rl A) (capG (qg (ticB Ev Rl A)) ((qe (ticB Ev Rl A)).map (fun c => (c, qpl (ticB Ev Rl A) c))))) (qdr (ticB Ev Rl A) + 1)) [])) c_330))) (capL 600 (ql (folF Ev dn_220 (we (wdr (wg (ticB Ev Rl A) (capG (qg (ticB Ev Rl A)) ((qe (ticB Ev Rl A)).map (fun c => (c, qpl (ticB Ev Rl A) c))))) (qdr (ticB Ev Rl A) + 1)) []))) c_330)) (qe (folF Ev dn_220 (we (wdr (wg (ticB Ev Rl A) (capG (qg (ticB Ev Rl A)) ((qe (ticB Ev Rl A)).map (fun c => (c, qpl (ticB Ev Rl A) c))))) (qdr (ticB Ev Rl A) + 1)) [])) ++ t_331)) = (we (wl (wsd (wpl (folF Ev dn_220 (we (wdr (wg (ticB Ev Rl A) (capG (qg (ticB Ev Rl A)) ((qe (ticB Ev Rl A)).map (fun c => (c, qpl (ticB Ev Rl A) c))))) (qdr (ticB Ev Rl A) + 1)) [])) (fuI (qpl (folF Ev dn_220 (we (wdr (wg (ticB Ev Rl A) (capG (qg (ticB Ev Rl A)) ((qe (ticB Ev Rl A)).map (fun c => (c, qpl (ticB Ev Rl A) c))))) (qdr (ticB Ev Rl A) + 1)) []))) c_330 (qpl (folF Ev dn_220 (we (wdr (wg (ticB Ev Rl A) (capG (qg (ticB Ev Rl A)) ((qe (ticB Ev Rl A)).map (fun c => (c, qpl (ticB Ev Rl A) c))))) (qdr (ticB Ev Rl A) + 1)) [])) c_330 + 1))) (fuI (qsd (folF Ev dn_220 (we (wdr (wg (ticB Ev Rl A) (capG (qg (ticB Ev Rl A)) ((qe (ticB Ev Rl A)).map (fun c => (c, qpl (ticB Ev Rl A) c))))) (qdr (ticB Ev Rl A) + 1)) []))) c_330 (sdV Ev (folF Ev dn_220 (we (wdr (wg (ticB Ev Rl A) (capG (qg (ticB Ev Rl A)) ((qe (ticB Ev Rl A)).map (fun c => (c, qpl (ticB Ev Rl A) c))))) (qdr (ticB Ev Rl A) + 1)) [])) c_330))) (capL 600 (ql (folF Ev dn_220 (we (wdr (wg (ticB Ev Rl A) (capG (qg (ticB Ev Rl A)) ((qe (ticB Ev Rl A)).map (fun c => (c, qpl (ticB Ev Rl A) c))))) (qdr (ticB Ev Rl A) + 1)) []))) c_330)) (qe (folF Ev dn_220 (we (wdr (wg (ticB Ev Rl A) (capG (qg (ticB Ev Rl A)) ((qe (ticB Ev Rl A)).map (fun c => (c, qpl (ticB Ev Rl A) c))))) (qdr (ticB Ev Rl A) + 1)) [])) ++ t_331))) rR_449 (show RowR S_433 x (3 * a1_z + 1).toNat (qe (folF Ev dn_220 (we (wdr (wg (ticB Ev Rl A) (capG (qg (ticB Ev Rl A)) ((qe (ticB Ev Rl A)).map (fun c => (c, qpl (ticB Ev Rl A) c))))) (qdr (ticB Ev Rl A) + 1)) [])) ++ t_331) by rw [show (qe (folF Ev dn_220 (we (wdr (wg (ticB Ev Rl A) (capG (qg (ticB Ev Rl A)) ((qe (ticB Ev Rl A)).map (fun c => (c, qpl (ticB Ev Rl A) c))))) (qdr (ticB Ev Rl A) + 1)) [])) ++ t_331) = ((qe (folF Ev dn_220 (we (wdr (wg (ticB Ev Rl A) (capG (qg (ticB Ev Rl A)) ((qe (ticB Ev Rl A)).map (fun c => (c, qpl (ticB Ev Rl A) c))))) (qdr (ticB Ev Rl A) + 1)) [])) ++ rs_221).eraseIdx (i4_206_z).toNat) from (by rw [er_332, show ((i4_206_z : Int)).toNat = (qe (folF Ev dn_220 (we (wdr (wg (ticB Ev Rl A) (capG (qg (ticB Ev Rl A)) ((qe (ticB Ev Rl A)).map (fun c => (c, qpl (ticB Ev Rl A) c))))) (qdr (ticB Ev Rl A) + 1)) []))).length by omega]; exact er_app.symm)]; exact rR_451) (show RowR S_433 x (3 * a1_z + 2).toNat (capL 600 (ql (folF Ev dn_220 (we (wdr (wg (ticB Ev Rl A) (capG (qg (ticB Ev Rl A)) ((qe (ticB Ev Rl A)).map (fun c => (c, qpl (ticB Ev Rl A) c))))) (qdr (ticB Ev Rl A) + 1)) []))) c_330) by rw [capL_y (by have := rR_391.1; omega)]; exact rR_453) zR_457 zR_460 gR_469 zR_463 zR_466 (show (pI S_433 1238 x).toInt = (((qsk (folF Ev dn_220 (we (wdr (wg (ticB Ev Rl A) (capG (qg (ticB Ev Rl A)) ((qe (ticB Ev Rl A)).map (fun c => (c, qpl (ticB Ev Rl A) c))))) (qdr (ticB Ev Rl A) + 1)) [])))).length : Int) by omega) (show PlZ S_433 x (fuI (qpl (folF Ev dn_220 (we (wdr (wg (ticB Ev Rl A) (capG (qg (ticB Ev Rl A)) ((qe (ticB Ev Rl A)).map (fun c => (c, qpl (ticB Ev Rl A) c))))) (qdr (ticB Ev Rl A) + 1)) []))) c_330 (qpl (folF Ev dn_220 (we (wdr (wg (ticB Ev Rl A) (capG (qg (ticB Ev Rl A)) ((qe (ticB Ev Rl A)).map (fun c => (c, qpl (ticB Ev Rl A) c))))) (qdr (ticB Ev Rl A) + 1)) [])) c_330 + 1)) (fuI (qsd (folF Ev dn_220 (we (wdr (wg (ticB Ev Rl A) (capG (qg (ticB Ev Rl A)) ((qe (ticB Ev Rl A)).map (fun c => (c, qpl (ticB Ev Rl A) c))))) (qdr (ticB Ev Rl A) + 1)) []))) c_330 (sdV Ev (folF Ev dn_220 (we (wdr (wg (ticB Ev Rl A) (capG (qg (ticB Ev Rl A)) ((qe (ticB Ev Rl A)).map (fun c => (c, qpl (ticB Ev Rl A) c))))) (qdr (ticB Ev Rl A) + 1)) [])) c_330)) by rw [bs_393]; exact pz_472)), (by rw [fol_s, endK_3 bs_393]; show _ = ((qe (folF Ev dn_220 (we (wdr (wg (ticB Ev Rl A) (capG (qg (ticB Ev Rl A)) ((qe (ticB Ev Rl A)).map (fun c => (c, qpl (ticB Ev Rl A) c))))) (qdr (ticB Ev Rl A) + 1)) []))).length : Int); omega)⟩ px_479 t_480 (lv_sub hl [1, 2, 3, 4, 5] rfl)
                    · have z_b_481 := trivial
                      refine lv_if_eq (tgt := 373) X.1 X.2.1 dX12_tick_347 (by decide) (fun c_482 => ?_) (fun c_482 => absurd c_482 (by decide))
                      have pe_485 : v_383 = qpl (folF Ev dn_220 (we (wdr (wg (ticB Ev Rl A) (capG (qg (ticB Ev Rl A)) ((qe (ticB Ev Rl A)).map (fun c => (c, qpl (ticB Ev Rl A) c))))) (qdr (ticB Ev Rl A) + 1)) [])) c_330 := Int32.toInt_inj.mp (by have h1 := congrArg Int32.toInt up_345; have h2 : (v_383).toInt = ((v_341.toInt + 1) - 1) := z_384; have h3 : (v_341).toInt = v_341.toInt := rfl; omega)
                      have bk_483 : ¬ ebr Ev c_330 (qpl (folF Ev dn_220 (we (wdr (wg (ticB Ev Rl A) (capG (qg (ticB Ev Rl A)) ((qe (ticB Ev Rl A)).map (fun c => (c, qpl (ticB Ev Rl A) c))))) (qdr (ticB Ev Rl A) + 1)) [])) c_330) := by rw [(hp_5.1 c_330 (by omega)).2.2]; have h := f_387; rw [mA_fr hO_349.fr ha_x (ex3 (gQ_12_1203 hG ha_x)) (by decide +kernel) (by decide +kernel), mA_fr hO_349.fr ha_x (ex3 (gQ_12_1206 hG ha_x)) (by decide +kernel) (by decide +kernel), h8_334, pe_485] at h; exact h
                      have bs_484 : sdV Ev (folF Ev dn_220 (we (wdr (wg (ticB Ev Rl A) (capG (qg (ticB Ev Rl A)) ((qe (ticB Ev Rl A)).map (fun c => (c, qpl (ticB Ev Rl A) c))))) (qdr (ticB Ev Rl A) + 1)) [])) c_330 = qsd (folF Ev dn_220 (we (wdr (wg (ticB Ev Rl A) (capG (qg (ticB Ev Rl A)) ((qe (ticB Ev Rl A)).map (fun c => (c, qpl (ticB Ev Rl A) c))))) (qdr (ticB Ev Rl A) + 1)) [])) c_330 := sdV_s (by omega) bk_483
                      have s2_486 : sdV Ev (folF Ev dn_220 (we (wdr (wg (ticB Ev Rl A) (capG (qg (ticB Ev Rl A)) ((qe (ticB Ev Rl A)).map (fun c => (c, qpl (ticB Ev Rl A) c))))) (qdr (ticB Ev Rl A) + 1)) [])) c_330 = 2 := bs_484.trans (i32_eq e2_335 t2 rfl)
                      have q2_487 : qsd (folF Ev dn_220 (we (wdr (wg (ticB Ev Rl A) (capG (qg (ticB Ev Rl A)) ((qe (ticB Ev Rl A)).map (fun c => (c, qpl (ticB Ev Rl A) c))))) (qdr (ticB Ev Rl A) + 1)) [])) c_330 = 2 := i32_eq e2_335 t2 rfl
                      obtain ⟨x_488, ex_488⟩ : ∃ y : Int32, y = i4_206 + 1 := ⟨_, rfl⟩
                      have z_489 : x_488.toInt = i4_206_z + 1 := z_add ex_488 hz_i4_206 ti_1 (by omega) (by omega)
                      refine lv_iinc (v := x_488) (lv' := [(4, .int (x_488)), (5, .int (rr_323)), (3, .int (v_120)), (2, .int (rr_98)), (0, .ref x), (1, .int (a1))]) X.1 X.2.1 dX12_tick_373 hl (k := 1) rfl (by rw [ex_488]; rfl) (by decide) rfl (fun ls hl => ?_)
                      refine lv_goto (tgt := 267) X.1 X.2.1 dX12_tick_376 (by decide) ?_
                      have zc_490 : zA S_348 x 1237 = zA S_175 x 1237 := (zA_sAn eS_348 (ex3 (gQ_12_1237 hO_T_207.1 ha_x_L_208)) h_339 rfl).trans zk_210
                      have rR_491 : RowR S_348 x (3 * a1_z + 0).toNat (qb (folF Ev dn_220 (we (wdr (wg (ticB Ev Rl A) (capG (qg (ticB Ev Rl A)) ((qe (ticB Ev Rl A)).map (fun c => (c, qpl (ticB Ev Rl A) c))))) (qdr (ticB Ev Rl A) + 1)) []))) := RowR_eq fw_240 (zA_sAn eS_348 (ex3 (gQ_12_1218 hO_T_207.1 ha_x_L_208)) h_339 rfl) (zA_sAn eS_348 (ex3 (gQ_12_1219 hO_T_207.1 ha_x_L_208)) h_339 rfl)
                      have rR_492 : RowR S_348 x (3 * a1_z + 1).toNat (qe (folF Ev dn_220 (we (wdr (wg (ticB Ev Rl A) (capG (qg (ticB Ev Rl A)) ((qe (ticB Ev Rl A)).map (fun c => (c, qpl (ticB Ev Rl A) c))))) (qdr (ticB Ev Rl A) + 1)) [])) ++ rs_221) := RowR_eq fw_241 (zA_sAn eS_348 (ex3 (gQ_12_1218 hO_T_207.1 ha_x_L_208)) h_339 rfl) (zA_sAn eS_348 (ex3 (gQ_12_1219 hO_T_207.1 ha_x_L_208)) h_339 rfl)
                      have rR_493 : RowR S_348 x (3 * a1_z + 2).toNat (ql (folF Ev dn_220 (we (wdr (wg (ticB Ev Rl A) (capG (qg (ticB Ev Rl A)) ((qe (ticB Ev Rl A)).map (fun c => (c, qpl (ticB Ev Rl A) c))))) (qdr (ticB Ev Rl A) + 1)) []))) := RowR_eq fw_242 (zA_sAn eS_348 (ex3 (gQ_12_1218 hO_T_207.1 ha_x_L_208)) h_339 rfl) (zA_sAn eS_348 (ex3 (gQ_12_1219 hO_T_207.1 ha_x_L_208)) h_339 rfl)
                      have zR_494 : zA S_348 x 1215 a1_z.toNat = ((qst (folF Ev dn_220 (we (wdr (wg (ticB Ev Rl A) (capG (qg (ticB Ev Rl A)) ((qe (ticB Ev Rl A)).map (fun c => (c, qpl (ticB Ev Rl A) c))))) (qdr (ticB Ev Rl A) + 1)) [])))).toInt := (congrFun (zA_sAn eS_348 (ex3 (gQ_12_1215 hO_T_207.1 ha_x_L_208)) h_339 rfl) _).trans fw_247
                      have zR_495 : zA S_348 x 1214 a1_z.toNat = ((qse (folF Ev dn_220 (we (wdr (wg (ticB Ev Rl A) (capG (qg (ticB Ev Rl A)) ((qe (ticB Ev Rl A)).map (fun c => (c, qpl (ticB Ev Rl A) c))))) (qdr (ticB Ev Rl A) + 1)) [])))).toInt := (congrFun (zA_sAn eS_348 (ex3 (gQ_12_1214 hO_T_207.1 ha_x_L_208)) h_339 rfl) _).trans fw_248
                      have zR_496 : zA S_348 x 1216 a1_z.toNat = ((qdr (folF Ev dn_220 (we (wdr (wg (ticB Ev Rl A) (capG (qg (ticB Ev Rl A)) ((qe (ticB Ev Rl A)).map (fun c => (c, qpl (ticB Ev Rl A) c))))) (qdr (ticB Ev Rl A) + 1)) [])))).toInt := (congrFun (zA_sAn eS_348 (ex3 (gQ_12_1216 hO_T_207.1 ha_x_L_208)) h_339 rfl) _).trans fw_249
                      have zR_497 : zA S_348 x 1217 a1_z.toNat = ((qtk (folF Ev dn_220 (we (wdr (wg (ticB Ev Rl A) (capG (qg (ticB Ev Rl A)) ((qe (ticB Ev Rl A)).map (fun c => (c, qpl (ticB Ev Rl A) c))))) (qdr (ticB Ev Rl A) + 1)) [])))).toInt := (congrFun (zA_sAn eS_348 (ex3 (gQ_12_1217 hO_T_207.1 ha_x_L_208)) h_339 rfl) _).trans fw_250
                      have gR_498 : zA S_348 x 1237 a1_z.toNat = (((qg (folF Ev dn_220 (we (wdr (wg (ticB Ev Rl A) (capG (qg (ticB Ev Rl A)) ((qe (ticB Ev Rl A)).map (fun c => (c, qpl (ticB Ev Rl A) c))))) (qdr (ticB Ev Rl A) + 1)) [])))).length : Int) := (congrFun (zA_sAn eS_348 (ex3 (gQ_12_1237 hO_T_207.1 ha_x_L_208)) h_339 rfl) _).trans fw_251
                      have pz_499 : PlZ S_348 x (fuI (qpl (folF Ev dn_220 (we (wdr (wg (ticB Ev Rl A) (capG (qg (ticB Ev Rl A)) ((qe (ticB Ev Rl A)).map (fun c => (c, qpl (ticB Ev Rl A) c))))) (qdr (ticB Ev Rl A) + 1)) []))) c_330 (qpl (folF Ev dn_220 (we (wdr (wg (ticB Ev Rl A) (capG (qg (ticB Ev Rl A)) ((qe (ticB Ev Rl A)).map (fun c => (c, qpl (ticB Ev Rl A) c))))) (qdr (ticB Ev Rl A) + 1)) [])) c_330 + 1)) (qsd (folF Ev dn_220 (we (wdr (wg (ticB Ev Rl A) (capG (qg (ticB Ev Rl A)) ((qe (ticB Ev Rl A)).map (fun c => (c, qpl (ticB Ev Rl A) c))))) (qdr (ticB Ev Rl A) + 1)) []))) := PlZ_8 fw_246 (zA_sAn eS_348 (ex3 (gQ_12_1207 hO_T_207.1 ha_x_L_208)) h_339 rfl) zs_367 (by omega) (z_347.symm.trans (congrArg Int32.toInt (ev_346.trans (by rw [up_345]))))
                      have t_500 : pI S_348 1238 x = v_236 := tI_sA eS_348 ev_236
                      have pz_501 : (pI S_348 1238 x).toInt = v_236.toInt := (congrArg Int32.toInt t_500).trans rfl
                      have px_502 : PwX S S_348 x a1_z := PwX_to iv_214 (zA_sAn eS_348 (ex3 (gQ_12_1218 hO_T_207.1 ha_x_L_208)) h_339 rfl) (zA_sAn eS_348 (ex3 (gQ_12_1219 hO_T_207.1 ha_x_L_208)) h_339 rfl) (pw5 (zA_sAn eS_348 (ex3 (gQ_12_1214 hO_T_207.1 ha_x_L_208)) h_339 rfl) (zA_sAn eS_348 (ex3 (gQ_12_1215 hO_T_207.1 ha_x_L_208)) h_339 rfl) (zA_sAn eS_348 (ex3 (gQ_12_1216 hO_T_207.1 ha_x_L_208)) h_339 rfl) (zA_sAn eS_348 (ex3 (gQ_12_1217 hO_T_207.1 ha_x_L_208)) h_339 rfl) (zA_sAn eS_348 (ex3 (gQ_12_1237 hO_T_207.1 ha_x_L_208)) h_339 rfl))
                      exact ih_L_205 _ (by omega) _ _ _ _ (x_488) (x_488.toInt) rfl hw rfl (by omega) t_371 hO_349 zc_490 mi_382 zm_366 ⟨dn_220 ++ [c_330], t_331, (by rw [List.append_assoc]; exact (by rw [ed_222, er_332]; rfl)), (by rw [show we (folF Ev (dn_220 ++ [c_330]) (we (wdr (wg (ticB Ev Rl A) (capG (qg (ticB Ev Rl A)) ((qe (ticB Ev Rl A)).map (fun c => (c, qpl (ticB Ev Rl A) c))))) (qdr (ticB Ev Rl A) + 1)) [])) (qe (folF Ev (dn_220 ++ [c_330]) (we (wdr (wg (ticB Ev Rl A) (capG (qg (ticB Ev Rl A)) ((qe (ticB Ev Rl A)).map (fun c => (c, qpl (ticB Ev Rl A) c))))) (qdr (ticB Ev Rl A) + 1)) [])) ++ t_331) = (we (wsd (wpl (folF Ev dn_220 (we (wdr (wg (ticB Ev Rl A) (capG (qg (ticB Ev Rl A)) ((qe (ticB Ev Rl A)).map (fun c => (c, qpl (ticB Ev Rl A) c))))) (qdr (ticB Ev Rl A) + 1)) [])) (fuI (qpl (folF Ev dn_220 (we (wdr (wg (ticB Ev Rl A) (capG (qg (ticB Ev Rl A)) ((qe (ticB Ev Rl A)).map (fun c => (c, qpl (ticB Ev Rl A) c))))) (qdr (ticB Ev Rl A) + 1)) []))) c_330 (qpl (folF Ev dn_220 (we (wdr (wg (ticB Ev Rl A) (capG (qg (ticB Ev Rl A)) ((qe (ticB Ev Rl A)).map (fun c => (c, qpl (ticB Ev Rl A) c))))) (qdr (ticB Ev Rl A) + 1)) [])) c_330 + 1))) (fuI (qsd (folF Ev dn_220 (we (wdr (wg (ticB Ev Rl A) (capG (qg (ticB Ev Rl A)) ((qe (ticB Ev Rl A)).map (fun c => (c, qpl (ticB Ev Rl A) c))))) (qdr (ticB Ev Rl A) + 1)) []))) c_330 (sdV Ev (folF Ev dn_220 (we (wdr (wg (ticB Ev Rl A) (capG (qg (ticB Ev Rl A)) ((qe (ticB Ev Rl A)).map (fun c => (c, qpl (ticB Ev Rl A) c))))) (qdr (ticB Ev Rl A) + 1)) [])) c_330))) ((qe (folF Ev dn_220 (we (wdr (wg (ticB Ev Rl A) (capG (qg (ticB Ev Rl A)) ((qe (ticB Ev Rl A)).map (fun c => (c, qpl (ticB Ev Rl A) c))))) (qdr (ticB Ev Rl A) + 1)) [])) ++ [c_330]) ++ t_331)) by rw [fol_s, endK_2 s2_486]; rfl]; exact PotW_of (rfl : (we (wsd (wpl (folF Ev dn_220 (we (wdr (wg (ticB Ev Rl A) (capG (qg (ticB Ev Rl A)) ((qe (ticB Ev Rl A)).map (fun c => (c, qpl (ticB Ev Rl A) c))))) (qdr (ticB Ev Rl A) + 1)) [])) (fuI (qpl (folF Ev dn_220 (we (wdr (wg (ticB Ev Rl A) (capG (qg (ticB Ev Rl A)) ((qe (ticB Ev Rl A)).map (fun c => (c, qpl (ticB Ev Rl A) c))))) (qdr (ticB Ev Rl A) + 1)) []))) c_330 (qpl (folF Ev dn_220 (we (wdr (wg (ticB Ev Rl A) (capG (qg (ticB Ev Rl A)) ((qe (ticB Ev Rl A)).map (fun c => (c, qpl (ticB Ev Rl A) c))))) (qdr (ticB Ev Rl A) + 1)) [])) c_330 + 1))) (fuI (qsd (folF Ev dn_220 (we (wdr (wg (ticB Ev Rl A) (capG (qg (ticB Ev Rl A)) ((qe (ticB Ev Rl A)).map (fun c => (c, qpl (ticB Ev Rl A) c))))) (qdr (ticB Ev Rl A) + 1)) []))) c_330 (sdV Ev (folF Ev dn_220 (we (wdr (wg (ticB Ev Rl A) (capG (qg (ticB Ev Rl A)) ((qe (ticB Ev Rl A)).map (fun c => (c, qpl (ticB Ev Rl A) c))))) (qdr (ticB Ev Rl A) + 1)) [])) c_330))) ((qe (folF Ev dn_220 (we (wdr (wg (ticB Ev Rl A) (capG (qg (ticB Ev Rl A)) ((qe (ticB Ev Rl A)).map (fun c => (c, qpl (ticB Ev Rl A) c))))) (qdr (ticB Ev Rl A) + 1)) [])) ++ [c_330]) ++ t_331)) = (we (wsd (wpl (folF Ev dn_220 (we (wdr (wg (ticB Ev Rl A) (capG (qg (ticB Ev Rl A)) ((qe (ticB Ev Rl A)).map (fun c => (c, qpl (ticB Ev Rl A) c))))) (qdr (ticB Ev Rl A) + 1)) [])) (fuI (qpl (folF Ev dn_220 (we (wdr (wg (ticB Ev Rl A) (capG (qg (ticB Ev Rl A)) ((qe (ticB Ev Rl A)).map (fun c => (c, qpl (ticB Ev Rl A) c))))) (qdr (ticB Ev Rl A) + 1)) []))) c_330 (qpl (folF Ev dn_220 (we (wdr (wg (ticB Ev Rl A) (capG (qg (ticB Ev Rl A)) ((qe (ticB Ev Rl A)).map (fun c => (c, qpl (ticB Ev Rl A) c))))) (qdr (ticB Ev Rl A) + 1)) [])) c_330 + 1))) (fuI (qsd (folF Ev dn_220 (we (wdr (wg (ticB Ev Rl A) (capG (qg (ticB Ev Rl A)) ((qe (ticB Ev Rl A)).map (fun c => (c, qpl (ticB Ev Rl A) c))))) (qdr (ticB Ev Rl A) + 1)) []))) c_330 (sdV Ev (folF Ev dn_220 (we (wdr (wg (ticB Ev Rl A) (capG (qg (ticB Ev Rl A)) ((qe (ticB Ev Rl A)).map (fun c => (c, qpl (ticB Ev Rl A) c))))) (qdr (ticB Ev Rl A) + 1)) [])) c_330))) ((qe (folF Ev dn_220 (we (wdr (wg (ticB Ev Rl A) (capG (qg (ticB Ev Rl A)) ((qe (ticB Ev Rl A)).map (fun c => (c, qpl (ticB Ev Rl A) c))))) (qdr (ticB Ev Rl A) + 1)) [])) ++ [c_330]) ++ t_331))) rR_491 (show RowR S_348 x (3 * a1_z + 1).toNat ((qe (folF Ev dn_220 (we (wdr (wg (ticB Ev Rl A) (capG (qg (ticB Ev Rl A)) ((qe (ticB Ev Rl A)).map (fun c => (c, qpl (ticB Ev Rl A) c))))) (qdr (ticB Ev Rl A) + 1)) [])) ++ [c_330]) ++ t_331) by rw [List.append_assoc]; have h := rR_492; rw [er_332] at h; exact h) rR_493 zR_494 zR_495 gR_498 zR_496 zR_497 (show (pI S_348 1238 x).toInt = (((qsk (folF Ev dn_220 (we (wdr (wg (ticB Ev Rl A) (capG (qg (ticB Ev Rl A)) ((qe (ticB Ev Rl A)).map (fun c => (c, qpl (ticB Ev Rl A) c))))) (qdr (ticB Ev Rl A) + 1)) [])))).length : Int) by omega) (PlZ_st pz_499 (s2_486.trans q2_487.symm))), (by rw [fol_s, endK_2 s2_486]; show _ = ((qe (folF Ev dn_220 (we (wdr (wg (ticB Ev Rl A) (capG (qg (ticB Ev Rl A)) ((qe (ticB Ev Rl A)).map (fun c => (c, qpl (ticB Ev Rl A) c))))) (qdr (ticB Ev Rl A) + 1)) [])) ++ [c_330]).length : Int); rw [List.length_append]; show _ = (((qe (folF Ev dn_220 (we (wdr (wg (ticB Ev Rl A) (capG (qg (ticB Ev Rl A)) ((qe (ticB Ev Rl A)).map (fun c => (c, qpl (ticB Ev Rl A) c))))) (qdr (ticB Ev Rl A) + 1)) []))).length + 1 : Nat) : Int); omega)⟩ px_502 t_362 (lv_sub hl [0, 2, 3, 4, 5] rfl)
                  · have z_b_503 := trivial
                    have k_504 : (v_341.toInt + 1) = rr_374.toInt := z_eq z_347 rfl c_379
                    have s4_505 : sdV Ev (folF Ev dn_220 (we (wdr (wg (ticB Ev Rl A) (capG (qg (ticB Ev Rl A)) ((qe (ticB Ev Rl A)).map (fun c => (c, qpl (ticB Ev Rl A) c))))) (qdr (ticB Ev Rl A) + 1)) [])) c_330 = 4 := sdV_4 (by omega)
                    refine lv_aload_n X.1 X.2.1 dX12_tick_315 rfl (lv_at hl 4 rfl) ?_
                    obtain ⟨q_506, h_507, h_508, h_509⟩ := gQ_12_1207 hO_349.1 t_371
                    refine r_getR (g := 1207) X hw t_371 rfl 7 h_507 (by decide) rfl inn_X12_tick_12 (by decide) (X.2.2.2.1 (.fieldLink RX12 25 "SilkMillModel" "stand" "[I") (by decide +kernel)) rfl (gv_1207 _ _) dX12_tick_316 ?_
                    refine lv_aload_n X.1 X.2.1 dX12_tick_319 rfl (lv_at hl 4 rfl) ?_
                    refine lv_iload_n X.1 X.2.1 dX12_tick_320 rfl (lv_at hl 5 rfl) ?_
                    refine lv_iconst (v := 1) X.1 X.2.1 dX12_tick_321 (by decide) ?_
                    refine lv_iload X.1 X.2.1 dX12_tick_322 (lv_at hl 1 rfl) ?_
                    have pz_510 : (pI S_348 1201 x).toInt = v_1.toInt := (congrArg Int32.toInt t_362).trans rfl
                    have rR_511 : RowR S_348 x (3 * a1_z + 0).toNat (qb (folF Ev dn_220 (we (wdr (wg (ticB Ev Rl A) (capG (qg (ticB Ev Rl A)) ((qe (ticB Ev Rl A)).map (fun c => (c, qpl (ticB Ev Rl A) c))))) (qdr (ticB Ev Rl A) + 1)) []))) := RowR_eq fw_240 (zA_sAn eS_348 (ex3 (gQ_12_1218 hO_T_207.1 ha_x_L_208)) h_339 rfl) (zA_sAn eS_348 (ex3 (gQ_12_1219 hO_T_207.1 ha_x_L_208)) h_339 rfl)
                    have rR_512 : RowR S_348 x (3 * a1_z + 1).toNat (qe (folF Ev dn_220 (we (wdr (wg (ticB Ev Rl A) (capG (qg (ticB Ev Rl A)) ((qe (ticB Ev Rl A)).map (fun c => (c, qpl (ticB Ev Rl A) c))))) (qdr (ticB Ev Rl A) + 1)) [])) ++ rs_221) := RowR_eq fw_241 (zA_sAn eS_348 (ex3 (gQ_12_1218 hO_T_207.1 ha_x_L_208)) h_339 rfl) (zA_sAn eS_348 (ex3 (gQ_12_1219 hO_T_207.1 ha_x_L_208)) h_339 rfl)
                    have rR_513 : RowR S_348 x (3 * a1_z + 2).toNat (ql (folF Ev dn_220 (we (wdr (wg (ticB Ev Rl A) (capG (qg (ticB Ev Rl A)) ((qe (ticB Ev Rl A)).map (fun c => (c, qpl (ticB Ev Rl A) c))))) (qdr (ticB Ev Rl A) + 1)) []))) := RowR_eq fw_242 (zA_sAn eS_348 (ex3 (gQ_12_1218 hO_T_207.1 ha_x_L_208)) h_339 rfl) (zA_sAn eS_348 (ex3 (gQ_12_1219 hO_T_207.1 ha_x_L_208)) h_339 rfl)
                    refine k_i (rm := { frames := 1, cells := 0, slots := 0, locals := 48 }) (av := [.ref x, .int (a1), .int 1, .int (i4_206)]) X hw (va_runV (As := [.int (a1), .int 1, .int (i4_206)]) (rest := [.ref q_506]) (cfix X) (k_X12_goes5 l G cy κ S_348 _ x (a1) (a1_z) (1) (1) (i4_206) (i4_206_z) rr_323.toInt hO_349.1 t_371 hz_a1 ti_1 hz_i4_206 (by first | assumption | omega) (by first | assumption | omega) (by first | assumption | omega) (by first | assumption | omega) (by first | assumption | omega) (by first | assumption | omega) mi_354) (cwV 3 X.2.2.2.1 gX12_tick_X12_goes rfl rfl rfl (by decide +kernel) ⟨Nat.le_of_ble_eq_true rfl, Nat.le_of_ble_eq_true rfl⟩) (pre_V X hw _ t_371 rfl (by decide) rfl) rfl rfl hl.1 rfl (lv_room (Nat.le_of_ble_eq_true rfl)) dX12_tick_324 ⟨Nat.le_of_ble_eq_true rfl, Nat.le_of_ble_eq_true rfl⟩) 0 0 (Nat.le_of_ble_eq_true rfl) (Nat.le_of_ble_eq_true rfl) (fun rr_514 S_515 H locs hp hw hfr hnw => ?_)
                    obtain ⟨hk_516, hp⟩ := hp
                    have hO_517 : Ok MTK S S_515 := hO_349.call hk_516 (by decide +kernel)
                    obtain ⟨g_518, g_519, g_520, g_521, g_522, g_523, g_524, g_525, g_526, g_527⟩ := hp
                    have zl_529 : zA S_515 x 1209 = zA S_348 x 1209 := zA_fr hk_516.fr t_371 (ex3 (gQ_12_1209 hO_349.1 t_371)) (by decide +kernel) (by decide +kernel)
                    have h9_528 : zA S_515 x 1209 rr_514.toInt.toNat = a1_z := (congrFun zl_529 _).trans g_526
                    have dn_532 : rr_514.toInt = (c_330 : Int) := by have h8 := rR_512.2 _ _ ix_333; have hi : (600 * (3 * a1_z + 1) + i4_206_z).toNat = 600 * (3 * a1_z + 1).toNat + ((i4_206_z : Int)).toNat := (by omega); rw [← hi] at h8; omega
                    have zl_533 : zA S_515 x 1207 = zA S_348 x 1207 := zA_fr hk_516.fr t_371 (ex3 (gQ_12_1207 hO_349.1 t_371)) (by decide +kernel) (by decide +kernel)
                    have zz_534 := congrFun zl_533 (rr_514.toInt).toNat
                    have hrc : rr_514.toInt = rr_323.toInt := by omega
                    have t_535 : pI S_515 1201 x = v_1 := hk_516.fr.I' (by decide +kernel) t_371 t_362
                    have pz_536 : (pI S_515 1201 x).toInt = v_1.toInt := (congrArg Int32.toInt t_535).trans rfl
                    have gi_537 := g_525 (3 * a1_z + 1).toNat; rw [if_pos (by omega)] at gi_537
                    refine lv_iconst (v := 4) X.1 X.2.1 dX12_tick_327 (by decide) ?_
                    have t_538 : At S_515 q_506 354 := hk_516.fr.at h_508
                    have t_539 : pN S_515 q_506 = 600 := hk_516.fr.N h_508 h_509
                    clear h_509
                    refine r_iast X hw t_538 rfl (by rw [t_539]; exact z_ix rfl (by omega) (by omega)) dX12_tick_328 (fun H locs hw => ?_)
                    obtain ⟨S_540, eS_540⟩ : ∃ T, T = sA S_515 q_506 (upd (pA S_515 q_506) (Int32.toNatClampNeg (rr_514)) (4)) := ⟨_, rfl⟩
                    rw [← eS_540] at hw
                    have hO_541 : Ok MTK S S_540 := hO_517.sA eS_540 t_538 (by decide +kernel) (uA_354 hO_517.1 t_538)
                    have h_542 : pA S_540 q_506 (Int32.toNatClampNeg (rr_514)) = 4 := tA_sAs eS_540
                    have t_543 : pR S_515 1207 x = some q_506 := hk_516.fr.R' (by decide +kernel) t_371 h_507
                    have t_544 : pR S_540 1207 x = some q_506 := tR_sA eS_540 t_543
                    have t_546 : pR S_515 1207 x = some q_506 := by have h := t_544; rw [eS_540, pR_sA] at h; exact h
                    have zs_545 : ∀ j, zA S_540 x 1207 j = if j = (rr_514.toInt).toNat then 4 else zA S_515 x 1207 j := by have h := zA_sAs eS_540 t_546 ti_4; rw [z_nc rfl (by omega)] at h; exact h
                    have t_548 : At S_515 x 12 := hk_516.fr.at t_371
                    have mi_547 : MIe S_540 x rr_323.toInt := stand_MI (c := rr_514.toInt) hO_517.1 t_548 (show Fr [10354] S_515 S_540 by rw [eS_540]; exact Fr_sA t_538 List.mem_cons_self) g_523 (by omega) (by omega) g_524 zs_545 (Or.inl rfl)
                    have mi_549 : MI S_540 x := back_MI mi_547 (by omega) (Or.inl (by rw [← hrc, zs_545, if_pos rfl]))
                    have zc_550 : zA S_540 x 1219 = zA S_515 x 1219 := zA_sAn eS_540 (ex3 (gQ_12_1219 hO_517.1 t_548)) t_538 rfl
                    have zz_551 := congrFun zc_550 (3 * a1_z + 1).toNat
                    have t_553 : pR S_515 1207 x = some q_506 := by have h := t_544; rw [eS_540, pR_sA] at h; exact h
                    have zs_552 : ∀ j, zA S_540 x 1207 j = if j = (rr_514.toInt).toNat then 4 else zA S_515 x 1207 j := by have h := zA_sAs eS_540 t_553 ti_4; rw [z_nc rfl (by omega)] at h; exact h
                    have zc_554 : zA S_515 x 1208 = zA S_348 x 1208 := zA_fr hk_516.fr t_371 (ex3 (gQ_12_1208 hO_349.1 t_371)) (by decide +kernel) (by decide +kernel)
                    have l9_555 : lenZ S_348 x = lenZ S x := lenZ_fr hO_349.fr ha_x (ex3 (gQ_12_1203 hG ha_x)) (ex3 (gQ_12_1205 hG ha_x)) (by decide +kernel) (by decide +kernel) (by decide +kernel) (by decide +kernel)
                    have q4_556 : lenZ S x (((rr_514.toInt).toNat : Nat) : Int) ≤ zA S_515 x 1208 (rr_514.toInt).toNat := by rw [zc_554, ← l9_555, show (((rr_514.toInt).toNat : Nat) : Int) = rr_323.toInt by omega, show (rr_514.toInt).toNat = (rr_323.toInt).toNat by omega, zp_355]; omega
                    have zm_557 : ZM S S_515 x := ⟨ZN_eq zm_366.1 (zA_fr hk_516.fr t_371 (ex3 (gQ_12_1207 hO_349.1 t_371)) (by decide +kernel) (by decide +kernel)), ZQ_eq zm_366.2 (zA_fr hk_516.fr t_371 (ex3 (gQ_12_1207 hO_349.1 t_371)) (by decide +kernel) (by decide +kernel)) (zA_fr hk_516.fr t_371 (ex3 (gQ_12_1208 hO_349.1 t_371)) (by decide +kernel) (by decide +kernel)) (zA_fr hk_516.fr t_371 (ex3 (gQ_12_1209 hO_349.1 t_371)) (by decide +kernel) (by decide +kernel))⟩
                    have zm_558 : ZM S S_540 x := ⟨ZN_set zm_557.1 zs_552 ⟨by omega, by omega⟩ ⟨by omega, by omega⟩, ZQ_74 zm_557.2 zs_552 q4_556 (zA_sAn eS_540 (ex3 (gQ_12_1208 hO_517.1 t_548)) t_538 rfl) (congrFun (zA_sAn eS_540 (ex3 (gQ_12_1209 hO_517.1 t_548)) t_538 rfl))⟩
                    refine lv_goto (tgt := 376) X.1 X.2.1 dX12_tick_329 (by decide) ?_
                    refine lv_goto (tgt := 267) X.1 X.2.1 dX12_tick_376 (by decide) ?_
                    have t_559 : At S_540 x 12 := tAt_sA eS_540 t_548
                    have zc_560 : zA S_348 x 1237 = zA S_175 x 1237 := (zA_sAn eS_348 (ex3 (gQ_12_1237 hO_T_207.1 ha_x_L_208)) h_339 rfl).trans zk_210
                    have zc_561 : zA S_515 x 1237 = zA S_175 x 1237 := (zA_fr hk_516.fr t_371 (ex3 (gQ_12_1237 hO_349.1 t_371)) (by decide +kernel) (by decide +kernel)).trans zc_560
                    have zc_562 : zA S_540 x 1237 = zA S_175 x 1237 := (zA_sAn eS_540 (ex3 (gQ_12_1237 hO_517.1 t_548)) t_538 rfl).trans zc_561
                    have rR_563 : RowR S_515 x (3 * a1_z + 0).toNat (qb (folF Ev dn_220 (we (wdr (wg (ticB Ev Rl A) (capG (qg (ticB Ev Rl A)) ((qe (ticB Ev Rl A)).map (fun c => (c, qpl (ticB Ev Rl A) c))))) (qdr (ticB Ev Rl A) + 1)) []))) := RowR_gox hO_349.1 t_371 (by omega) rR_511 g_527
                    have rR_564 : RowR S_540 x (3 * a1_z + 0).toNat (qb (folF Ev dn_220 (we (wdr (wg (ticB Ev Rl A) (capG (qg (ticB Ev Rl A)) ((qe (ticB Ev Rl A)).map (fun c => (c, qpl (ticB Ev Rl A) c))))) (qdr (ticB Ev Rl A) + 1)) []))) := RowR_eq rR_563 (zA_sAn eS_540 (ex3 (gQ_12_1218 hO_517.1 t_548)) t_538 rfl) (zA_sAn eS_540 (ex3 (gQ_12_1219 hO_517.1 t_548)) t_538 rfl)
                    have rR_565 : RowR S_515 x (3 * a1_z + 1).toNat ((qe (folF Ev dn_220 (we (wdr (wg (ticB Ev Rl A) (capG (qg (ticB Ev Rl A)) ((qe (ticB Ev Rl A)).map (fun c => (c, qpl (ticB Ev Rl A) c))))) (qdr (ticB Ev Rl A) + 1)) [])) ++ rs_221).eraseIdx (i4_206_z).toNat) := RowR_goes rR_512 g_527 (by have := rR_512.1; omega)
                    have rR_566 : RowR S_540 x (3 * a1_z + 1).toNat ((qe (folF Ev dn_220 (we (wdr (wg (ticB Ev Rl A) (capG (qg (ticB Ev Rl A)) ((qe (ticB Ev Rl A)).map (fun c => (c, qpl (ticB Ev Rl A) c))))) (qdr (ticB Ev Rl A) + 1)) [])) ++ rs_221).eraseIdx (i4_206_z).toNat) := RowR_eq rR_565 (zA_sAn eS_540 (ex3 (gQ_12_1218 hO_517.1 t_548)) t_538 rfl) (zA_sAn eS_540 (ex3 (gQ_12_1219 hO_517.1 t_548)) t_538 rfl)
                    have rR_567 : RowR S_515 x (3 * a1_z + 2).toNat (ql (folF Ev dn_220 (we (wdr (wg (ticB Ev Rl A) (capG (qg (ticB Ev Rl A)) ((qe (ticB Ev Rl A)).map (fun c => (c, qpl (ticB Ev Rl A) c))))) (qdr (ticB Ev Rl A) + 1)) []))) := RowR_gox hO_349.1 t_371 (by omega) rR_513 g_527
                    have rR_568 : RowR S_540 x (3 * a1_z + 2).toNat (ql (folF Ev dn_220 (we (wdr (wg (ticB Ev Rl A) (capG (qg (ticB Ev Rl A)) ((qe (ticB Ev Rl A)).map (fun c => (c, qpl (ticB Ev Rl A) c))))) (qdr (ticB Ev Rl A) + 1)) []))) := RowR_eq rR_567 (zA_sAn eS_540 (ex3 (gQ_12_1218 hO_517.1 t_548)) t_538 rfl) (zA_sAn eS_540 (ex3 (gQ_12_1219 hO_517.1 t_548)) t_538 rfl)
                    have zR_569 : zA S_348 x 1215 a1_z.toNat = ((qst (folF Ev dn_220 (we (wdr (wg (ticB Ev Rl A) (capG (qg (ticB Ev Rl A)) ((qe (ticB Ev Rl A)).map (fun c => (c, qpl (ticB Ev Rl A) c))))) (qdr (ticB Ev Rl A) + 1)) [])))).toInt := (congrFun (zA_sAn eS_348 (ex3 (gQ_12_1215 hO_T_207.1 ha_x_L_208)) h_339 rfl) _).trans fw_247
                    have zR_570 : zA S_515 x 1215 a1_z.toNat = ((qst (folF Ev dn_220 (we (wdr (wg (ticB Ev Rl A) (capG (qg (ticB Ev Rl A)) ((qe (ticB Ev Rl A)).map (fun c => (c, qpl (ticB Ev Rl A) c))))) (qdr (ticB Ev Rl A) + 1)) [])))).toInt := (congrFun (zA_fr hk_516.fr t_371 (ex3 (gQ_12_1215 hO_349.1 t_371)) (by decide +kernel) (by decide +kernel)) _).trans zR_569
                    have zR_571 : zA S_540 x 1215 a1_z.toNat = ((qst (folF Ev dn_220 (we (wdr (wg (ticB Ev Rl A) (capG (qg (ticB Ev Rl A)) ((qe (ticB Ev Rl A)).map (fun c => (c, qpl (ticB Ev Rl A) c))))) (qdr (ticB Ev Rl A) + 1)) [])))).toInt := (congrFun (zA_sAn eS_540 (ex3 (gQ_12_1215 hO_517.1 t_548)) t_538 rfl) _).trans zR_570
                    have zR_572 : zA S_348 x 1214 a1_z.toNat = ((qse (folF Ev dn_220 (we (wdr (wg (ticB Ev Rl A) (capG (qg (ticB Ev Rl A)) ((qe (ticB Ev Rl A)).map (fun c => (c, qpl (ticB Ev Rl A) c))))) (qdr (ticB Ev Rl A) + 1)) [])))).toInt := (congrFun (zA_sAn eS_348 (ex3 (gQ_12_1214 hO_T_207.1 ha_x_L_208)) h_339 rfl) _).trans fw_248
                    have zR_573 : zA S_515 x 1214 a1_z.toNat = ((qse (folF Ev dn_220 (we (wdr (wg (ticB Ev Rl A) (capG (qg (ticB Ev Rl A)) ((qe (ticB Ev Rl A)).map (fun c => (c, qpl (ticB Ev Rl A) c))))) (qdr (ticB Ev Rl A) + 1)) [])))).toInt := (congrFun (zA_fr hk_516.fr t_371 (ex3 (gQ_12_1214 hO_349.1 t_371)) (by decide +kernel) (by decide +kernel)) _).trans zR_572
                    have zR_574 : zA S_540 x 1214 a1_z.toNat = ((qse (folF Ev dn_220 (we (wdr (wg (ticB Ev Rl A) (capG (qg (ticB Ev Rl A)) ((qe (ticB Ev Rl A)).map (fun c => (c, qpl (ticB Ev Rl A) c))))) (qdr (ticB Ev Rl A) + 1)) [])))).toInt := (congrFun (zA_sAn eS_540 (ex3 (gQ_12_1214 hO_517.1 t_548)) t_538 rfl) _).trans zR_573
                    have zR_575 : zA S_348 x 1216 a1_z.toNat = ((qdr (folF Ev dn_220 (we (wdr (wg (ticB Ev Rl A) (capG (qg (ticB Ev Rl A)) ((qe (ticB Ev Rl A)).map (fun c => (c, qpl (ticB Ev Rl A) c))))) (qdr (ticB Ev Rl A) + 1)) [])))).toInt := (congrFun (zA_sAn eS_348 (ex3 (gQ_12_1216 hO_T_207.1 ha_x_L_208)) h_339 rfl) _).trans fw_249
                    have zR_576 : zA S_515 x 1216 a1_z.toNat = ((qdr (folF Ev dn_220 (we (wdr (wg (ticB Ev Rl A) (capG (qg (ticB Ev Rl A)) ((qe (ticB Ev Rl A)).map (fun c => (c, qpl (ticB Ev Rl A) c))))) (qdr (ticB Ev Rl A) + 1)) [])))).toInt := (congrFun (zA_fr hk_516.fr t_371 (ex3 (gQ_12_1216 hO_349.1 t_371)) (by decide +kernel) (by decide +kernel)) _).trans zR_575
                    have zR_577 : zA S_540 x 1216 a1_z.toNat = ((qdr (folF Ev dn_220 (we (wdr (wg (ticB Ev Rl A) (capG (qg (ticB Ev Rl A)) ((qe (ticB Ev Rl A)).map (fun c => (c, qpl (ticB Ev Rl A) c))))) (qdr (ticB Ev Rl A) + 1)) [])))).toInt := (congrFun (zA_sAn eS_540 (ex3 (gQ_12_1216 hO_517.1 t_548)) t_538 rfl) _).trans zR_576
                    have zR_578 : zA S_348 x 1217 a1_z.toNat = ((qtk (folF Ev dn_220 (we (wdr (wg (ticB Ev Rl A) (capG (qg (ticB Ev Rl A)) ((qe (ticB Ev Rl A)).map (fun c => (c, qpl (ticB Ev Rl A) c))))) (qdr (ticB Ev Rl A) + 1)) [])))).toInt := (congrFun (zA_sAn eS_348 (ex3 (gQ_12_1217 hO_T_207.1 ha_x_L_208)) h_339 rfl) _).trans fw_250
                    have zR_579 : zA S_515 x 1217 a1_z.toNat = ((qtk (folF Ev dn_220 (we (wdr (wg (ticB Ev Rl A) (capG (qg (ticB Ev Rl A)) ((qe (ticB Ev Rl A)).map (fun c => (c, qpl (ticB Ev Rl A) c))))) (qdr (ticB Ev Rl A) + 1)) [])))).toInt := (congrFun (zA_fr hk_516.fr t_371 (ex3 (gQ_12_1217 hO_349.1 t_371)) (by decide +kernel) (by decide +kernel)) _).trans zR_578
                    have zR_580 : zA S_540 x 1217 a1_z.toNat = ((qtk (folF Ev dn_220 (we (wdr (wg (ticB Ev Rl A) (capG (qg (ticB Ev Rl A)) ((qe (ticB Ev Rl A)).map (fun c => (c, qpl (ticB Ev Rl A) c))))) (qdr (ticB Ev Rl A) + 1)) [])))).toInt := (congrFun (zA_sAn eS_540 (ex3 (gQ_12_1217 hO_517.1 t_548)) t_538 rfl) _).trans zR_579
                    have gR_581 : zA S_348 x 1237 a1_z.toNat = (((qg (folF Ev dn_220 (we (wdr (wg (ticB Ev Rl A) (capG (qg (ticB Ev Rl A)) ((qe (ticB Ev Rl A)).map (fun c => (c, qpl (ticB Ev Rl A) c))))) (qdr (ticB Ev Rl A) + 1)) [])))).length : Int) := (congrFun (zA_sAn eS_348 (ex3 (gQ_12_1237 hO_T_207.1 ha_x_L_208)) h_339 rfl) _).trans fw_251
                    have gR_582 : zA S_515 x 1237 a1_z.toNat = (((qg (folF Ev dn_220 (we (wdr (wg (ticB Ev Rl A) (capG (qg (ticB Ev Rl A)) ((qe (ticB Ev Rl A)).map (fun c => (c, qpl (ticB Ev Rl A) c))))) (qdr (ticB Ev Rl A) + 1)) [])))).length : Int) := (congrFun (zA_fr hk_516.fr t_371 (ex3 (gQ_12_1237 hO_349.1 t_371)) (by decide +kernel) (by decide +kernel)) _).trans gR_581
                    have gR_583 : zA S_540 x 1237 a1_z.toNat = (((qg (folF Ev dn_220 (we (wdr (wg (ticB Ev Rl A) (capG (qg (ticB Ev Rl A)) ((qe (ticB Ev Rl A)).map (fun c => (c, qpl (ticB Ev Rl A) c))))) (qdr (ticB Ev Rl A) + 1)) [])))).length : Int) := (congrFun (zA_sAn eS_540 (ex3 (gQ_12_1237 hO_517.1 t_548)) t_538 rfl) _).trans gR_582
                    have pz_584 : PlZ S_348 x (fuI (qpl (folF Ev dn_220 (we (wdr (wg (ticB Ev Rl A) (capG (qg (ticB Ev Rl A)) ((qe (ticB Ev Rl A)).map (fun c => (c, qpl (ticB Ev Rl A) c))))) (qdr (ticB Ev Rl A) + 1)) []))) c_330 (qpl (folF Ev dn_220 (we (wdr (wg (ticB Ev Rl A) (capG (qg (ticB Ev Rl A)) ((qe (ticB Ev Rl A)).map (fun c => (c, qpl (ticB Ev Rl A) c))))) (qdr (ticB Ev Rl A) + 1)) [])) c_330 + 1)) (qsd (folF Ev dn_220 (we (wdr (wg (ticB Ev Rl A) (capG (qg (ticB Ev Rl A)) ((qe (ticB Ev Rl A)).map (fun c => (c, qpl (ticB Ev Rl A) c))))) (qdr (ticB Ev Rl A) + 1)) []))) := PlZ_8 fw_246 (zA_sAn eS_348 (ex3 (gQ_12_1207 hO_T_207.1 ha_x_L_208)) h_339 rfl) zs_367 (by omega) (z_347.symm.trans (congrArg Int32.toInt (ev_346.trans (by rw [up_345]))))
                    have pz_585 : PlZ S_515 x (fuI (qpl (folF Ev dn_220 (we (wdr (wg (ticB Ev Rl A) (capG (qg (ticB Ev Rl A)) ((qe (ticB Ev Rl A)).map (fun c => (c, qpl (ticB Ev Rl A) c))))) (qdr (ticB Ev Rl A) + 1)) []))) c_330 (qpl (folF Ev dn_220 (we (wdr (wg (ticB Ev Rl A) (capG (qg (ticB Ev Rl A)) ((qe (ticB Ev Rl A)).map (fun c => (c, qpl (ticB Ev Rl A) c))))) (qdr (ticB Ev Rl A) + 1)) [])) c_330 + 1)) (qsd (folF Ev dn_220 (we (wdr (wg (ticB Ev Rl A) (capG (qg (ticB Ev Rl A)) ((qe (ticB Ev Rl A)).map (fun c => (c, qpl (ticB Ev Rl A) c))))) (qdr (ticB Ev Rl A) + 1)) []))) := PlZ_eq pz_584 (zA_fr hk_516.fr t_371 (ex3 (gQ_12_1208 hO_349.1 t_371)) (by decide +kernel) (by decide +kernel)) (zA_fr hk_516.fr t_371 (ex3 (gQ_12_1207 hO_349.1 t_371)) (by decide +kernel) (by decide +kernel))
                    have pz_586 : PlZ S_540 x (fuI (qpl (folF Ev dn_220 (we (wdr (wg (ticB Ev Rl A) (capG (qg (ticB Ev Rl A)) ((qe (ticB Ev Rl A)).map (fun c => (c, qpl (ticB Ev Rl A) c))))) (qdr (ticB Ev Rl A) + 1)) []))) c_330 (qpl (folF Ev dn_220 (we (wdr (wg (ticB Ev Rl A) (capG (qg (ticB Ev Rl A)) ((qe (ticB Ev Rl A)).map (fun c => (c, qpl (ticB Ev Rl A) c))))) (qdr (ticB Ev Rl A) + 1)) [])) c_330 + 1)) (fuI (qsd (folF Ev dn_220 (we (wdr (wg (ticB Ev Rl A) (capG (qg (ticB Ev Rl A)) ((qe (ticB Ev Rl A)).map (fun c => (c, qpl (ticB Ev Rl A) c))))) (qdr (ticB Ev Rl A) + 1)) []))) c_330 4) := PlZ_7 pz_585 (zA_sAn eS_540 (ex3 (gQ_12_1208 hO_517.1 t_548)) t_538 rfl) zs_552 (by omega) (by decide)
                    have t_587 : pI S_348 1238 x = v_236 := tI_sA eS_348 ev_236
                    have t_588 : pI S_515 1238 x = v_236 := hk_516.fr.I' (by decide +kernel) t_371 t_587
                    have t_589 : pI S_540 1238 x = v_236 := tI_sA eS_540 t_588
                    have pz_590 : (pI S_540 1238 x).toInt = v_236.toInt := (congrArg Int32.toInt t_589).trans rfl
                    have px_591 : PwX S S_348 x a1_z := PwX_to iv_214 (zA_sAn eS_348 (ex3 (gQ_12_1218 hO_T_207.1 ha_x_L_208)) h_339 rfl) (zA_sAn eS_348 (ex3 (gQ_12_1219 hO_T_207.1 ha_x_L_208)) h_339 rfl) (pw5 (zA_sAn eS_348 (ex3 (gQ_12_1214 hO_T_207.1 ha_x_L_208)) h_339 rfl) (zA_sAn eS_348 (ex3 (gQ_12_1215 hO_T_207.1 ha_x_L_208)) h_339 rfl) (zA_sAn eS_348 (ex3 (gQ_12_1216 hO_T_207.1 ha_x_L_208)) h_339 rfl) (zA_sAn eS_348 (ex3 (gQ_12_1217 hO_T_207.1 ha_x_L_208)) h_339 rfl) (zA_sAn eS_348 (ex3 (gQ_12_1237 hO_T_207.1 ha_x_L_208)) h_339 rfl))
                    have px_592 : PwX S S_515 x a1_z := PwX_go px_591 hO_349.1 t_371 (by omega) g_527 (pw5 (zA_fr hk_516.fr t_371 (ex3 (gQ_12_1214 hO_349.1 t_371)) (by decide +kernel) (by decide +kernel)) (zA_fr hk_516.fr t_371 (ex3 (gQ_12_1215 hO_349.1 t_371)) (by decide +kernel) (by decide +kernel)) (zA_fr hk_516.fr t_371 (ex3 (gQ_12_1216 hO_349.1 t_371)) (by decide +kernel) (by decide +kernel)) (zA_fr hk_516.fr t_371 (ex3 (gQ_12_1217 hO_349.1 t_371)) (by decide +kernel) (by decide +kernel)) (zA_fr hk_516.fr t_371 (ex3 (gQ_12_1237 hO_349.1 t_371)) (by decide +kernel) (by decide +kernel)))
                    have px_593 : PwX S S_540 x a1_z := PwX_to px_592 (zA_sAn eS_540 (ex3 (gQ_12_1218 hO_517.1 t_548)) t_538 rfl) (zA_sAn eS_540 (ex3 (gQ_12_1219 hO_517.1 t_548)) t_538 rfl) (pw5 (zA_sAn eS_540 (ex3 (gQ_12_1214 hO_517.1 t_548)) t_538 rfl) (zA_sAn eS_540 (ex3 (gQ_12_1215 hO_517.1 t_548)) t_538 rfl) (zA_sAn eS_540 (ex3 (gQ_12_1216 hO_517.1 t_548)) t_538 rfl) (zA_sAn eS_540 (ex3 (gQ_12_1217 hO_517.1 t_548)) t_538 rfl) (zA_sAn eS_540 (ex3 (gQ_12_1237 hO_517.1 t_548)) t_538 rfl))
                    have t_594 : pI S_540 1201 x = v_1 := tI_sA eS_540 t_535
                    exact ih_L_205 _ (by omega) _ _ _ _ (i4_206) (i4_206_z) rfl hw hz_i4_206 (by omega) t_559 hO_541 zc_562 mi_549 zm_558 ⟨dn_220 ++ [c_330], t_331, (by rw [List.append_assoc]; exact (by rw [ed_222, er_332]; rfl)), (by rw [show we (folF Ev (dn_220 ++ [c_330]) (we (wdr (wg (ticB Ev Rl A) (capG (qg (ticB Ev Rl A)) ((qe (ticB Ev Rl A)).map (fun c => (c, qpl (ticB Ev Rl A) c))))) (qdr (ticB Ev Rl A) + 1)) [])) (qe (folF Ev (dn_220 ++ [c_330]) (we (wdr (wg (ticB Ev Rl A) (capG (qg (ticB Ev Rl A)) ((qe (ticB Ev Rl A)).map (fun c => (c, qpl (ticB Ev Rl A) c))))) (qdr (ticB Ev Rl A) + 1)) [])) ++ t_331) = (we (wsd (wpl (folF Ev dn_220 (we (wdr (wg (ticB Ev Rl A) (capG (qg (ticB Ev Rl A)) ((qe (ticB Ev Rl A)).map (fun c => (c, qpl (ticB Ev Rl A) c))))) (qdr (ticB Ev Rl A) + 1)) [])) (fuI (qpl (folF Ev dn_220 (we (wdr (wg (ticB Ev Rl A) (capG (qg (ticB Ev Rl A)) ((qe (ticB Ev Rl A)).map (fun c => (c, qpl (ticB Ev Rl A) c))))) (qdr (ticB Ev Rl A) + 1)) []))) c_330 (qpl (folF Ev dn_220 (we (wdr (wg (ticB Ev Rl A) (capG (qg (ticB Ev Rl A)) ((qe (ticB Ev Rl A)).map (fun c => (c, qpl (ticB Ev Rl A) c))))) (qdr (ticB Ev Rl A) + 1)) [])) c_330 + 1))) (fuI (qsd (folF Ev dn_220 (we (wdr (wg (ticB Ev Rl A) (capG (qg (ticB Ev Rl A)) ((qe (ticB Ev Rl A)).map (fun c => (c, qpl (ticB Ev Rl A) c))))) (qdr (ticB Ev Rl A) + 1)) []))) c_330 (sdV Ev (folF Ev dn_220 (we (wdr (wg (ticB Ev Rl A) (capG (qg (ticB Ev Rl A)) ((qe (ticB Ev Rl A)).map (fun c => (c, qpl (ticB Ev Rl A) c))))) (qdr (ticB Ev Rl A) + 1)) [])) c_330))) (qe (folF Ev dn_220 (we (wdr (wg (ticB Ev Rl A) (capG (qg (ticB Ev Rl A)) ((qe (ticB Ev Rl A)).map (fun c => (c, qpl (ticB Ev Rl A) c))))) (qdr (ticB Ev Rl A) + 1)) [])) ++ t_331)) by rw [fol_s, endK_n (by rw [s4_505]; decide) (by rw [s4_505]; decide)]; rfl]; exact PotW_of (rfl : (we (wsd (wpl (folF Ev dn_220 (we (wdr (wg (ticB Ev Rl A) (capG (qg (ticB Ev Rl A)) ((qe (ticB Ev Rl A)).map (fun c => (c, qpl (ticB Ev Rl A) c))))) (qdr (ticB Ev Rl A) + 1)) [])) (fuI (qpl (folF Ev dn_220 (we (wdr (wg (ticB Ev Rl A) (capG (qg (ticB Ev Rl A)) ((qe (ticB Ev Rl A)).map (fun c => (c, qpl (ticB Ev Rl A) c))))) (qdr (ticB Ev Rl A) + 1)) []))) c_330 (qpl (folF Ev dn_220 (we (wdr (wg (ticB Ev Rl A) (capG (qg (ticB Ev Rl A)) ((qe (ticB Ev Rl A)).map (fun c => (c, qpl (ticB Ev Rl A) c))))) (qdr (ticB Ev Rl A) + 1)) [])) c_330 + 1))) (fuI (qsd (folF Ev dn_220 (we (wdr (wg (ticB Ev Rl A) (capG (qg (ticB Ev Rl A)) ((qe (ticB Ev Rl A)).map (fun c => (c, qpl (ticB Ev Rl A) c))))) (qdr (ticB Ev Rl A) + 1)) []))) c_330 (sdV Ev (folF Ev dn_220 (we (wdr (wg (ticB Ev Rl A) (capG (qg (ticB Ev Rl A)) ((qe (ticB Ev Rl A)).map (fun c => (c, qpl (ticB Ev Rl A) c))))) (qdr (ticB Ev Rl A) + 1)) [])) c_330))) (qe (folF Ev dn_220 (we (wdr (wg (ticB Ev Rl A) (capG (qg (ticB Ev Rl A)) ((qe (ticB Ev Rl A)).map (fun c => (c, qpl (ticB Ev Rl A) c))))) (qdr (ticB Ev Rl A) + 1)) [])) ++ t_331)) = (we (wsd (wpl (folF Ev dn_220 (we (wdr (wg (ticB Ev Rl A) (capG (qg (ticB Ev Rl A)) ((qe (ticB Ev Rl A)).map (fun c => (c, qpl (ticB Ev Rl A) c))))) (qdr (ticB Ev Rl A) + 1)) [])) (fuI (qpl (folF Ev dn_220 (we (wdr (wg (ticB Ev Rl A) (capG (qg (ticB Ev Rl A)) ((qe (ticB Ev Rl A)).map (fun c => (c, qpl (ticB Ev Rl A) c))))) (qdr (ticB Ev Rl A) + 1)) []))) c_330 (qpl (folF Ev dn_220 (we (wdr (wg (ticB Ev Rl A) (capG (qg (ticB Ev Rl A)) ((qe (ticB Ev Rl A)).map (fun c => (c, qpl (ticB Ev Rl A) c))))) (qdr (ticB Ev Rl A) + 1)) [])) c_330 + 1))) (fuI (qsd (folF Ev dn_220 (we (wdr (wg (ticB Ev Rl A) (capG (qg (ticB Ev Rl A)) ((qe (ticB Ev Rl A)).map (fun c => (c, qpl (ticB Ev Rl A) c))))) (qdr (ticB Ev Rl A) + 1)) []))) c_330 (sdV Ev (folF Ev dn_220 (we (wdr (wg (ticB Ev Rl A) (capG (qg (ticB Ev Rl A)) ((qe (ticB Ev Rl A)).map (fun c => (c, qpl (ticB Ev Rl A) c))))) (qdr (ticB Ev Rl A) + 1)) [])) c_330))) (qe (folF Ev dn_220 (we (wdr (wg (ticB Ev Rl A) (capG (qg (ticB Ev Rl A)) ((qe (ticB Ev Rl A)).map (fun c => (c, qpl (ticB Ev Rl A) c))))) (qdr (ticB Ev Rl A) + 1)) [])) ++ t_331))) rR_564 (show RowR S_540 x (3 * a1_z + 1).toNat (qe (folF Ev dn_220 (we (wdr (wg (ticB Ev Rl A) (capG (qg (ticB Ev Rl A)) ((qe (ticB Ev Rl A)).map (fun c => (c, qpl (ticB Ev Rl A) c))))) (qdr (ticB Ev Rl A) + 1)) [])) ++ t_331) by rw [show (qe (folF Ev dn_220 (we (wdr (wg (ticB Ev Rl A) (capG (qg (ticB Ev Rl A)) ((qe (ticB Ev Rl A)).map (fun c => (c, qpl (ticB Ev Rl A) c))))) (qdr (ticB Ev Rl A) + 1)) [])) ++ t_331) = ((qe (folF Ev dn_220 (we (wdr (wg (ticB Ev Rl A) (capG (qg (ticB Ev Rl A)) ((qe (ticB Ev Rl A)).map (fun c => (c, qpl (ticB Ev Rl A) c))))) (qdr (ticB Ev Rl A) + 1)) [])) ++ rs_221).eraseIdx (i4_206_z).toNat) from (by rw [er_332, show ((i4_206_z : Int)).toNat = (qe (folF Ev dn_220 (we (wdr (wg (ticB Ev Rl A) (capG (qg (ticB Ev Rl A)) ((qe (ticB Ev Rl A)).map (fun c => (c, qpl (ticB Ev Rl A) c))))) (qdr (ticB Ev Rl A) + 1)) []))).length by omega]; exact er_app.symm)]; exact rR_566) rR_568 zR_571 zR_574 gR_583 zR_577 zR_580 (show (pI S_540 1238 x).toInt = (((qsk (folF Ev dn_220 (we (wdr (wg (ticB Ev Rl A) (capG (qg (ticB Ev Rl A)) ((qe (ticB Ev Rl A)).map (fun c => (c, qpl (ticB Ev Rl A) c))))) (qdr (ticB Ev Rl A) + 1)) [])))).length : Int) by omega) (show PlZ S_540 x (fuI (qpl (folF Ev dn_220 (we (wdr (wg (ticB Ev Rl A) (capG (qg (ticB Ev Rl A)) ((qe (ticB Ev Rl A)).map (fun c => (c, qpl (ticB Ev Rl A) c))))) (qdr (ticB Ev Rl A) + 1)) []))) c_330 (qpl (folF Ev dn_220 (we (wdr (wg (ticB Ev Rl A) (capG (qg (ticB Ev Rl A)) ((qe (ticB Ev Rl A)).map (fun c => (c, qpl (ticB Ev Rl A) c))))) (qdr (ticB Ev Rl A) + 1)) [])) c_330 + 1)) (fuI (qsd (folF Ev dn_220 (we (wdr (wg (ticB Ev Rl A) (capG (qg (ticB Ev Rl A)) ((qe (ticB Ev Rl A)).map (fun c => (c, qpl (ticB Ev Rl A) c))))) (qdr (ticB Ev Rl A) + 1)) []))) c_330 (sdV Ev (folF Ev dn_220 (we (wdr (wg (ticB Ev Rl A) (capG (qg (ticB Ev Rl A)) ((qe (ticB Ev Rl A)).map (fun c => (c, qpl (ticB Ev Rl A) c))))) (qdr (ticB Ev Rl A) + 1)) [])) c_330)) by rw [s4_505]; exact pz_586)), (by rw [fol_s, endK_n (by rw [s4_505]; decide) (by rw [s4_505]; decide)]; show _ = ((qe (folF Ev dn_220 (we (wdr (wg (ticB Ev Rl A) (capG (qg (ticB Ev Rl A)) ((qe (ticB Ev Rl A)).map (fun c => (c, qpl (ticB Ev Rl A) c))))) (qdr (ticB Ev Rl A) + 1)) []))).length : Int); omega)⟩ px_593 t_594 (lv_sub hl [1, 2, 3, 4, 5] rfl)
              have t_595 : At S_199 x 12 := tAt_sA eS_199 t_187
              have mi_596 : MIe S_175 x (-1) := MIe_37 mk_137 hO_T_131.1 ha_x_L_132 h_165 eS_175
              have mi_597 : MIe S_199 x (-1) := MIe_sA mi_596 hO_176.1 t_187 h_190 eS_199 (by decide +kernel)
              have zm_598 : ZM S S_175 x := ⟨ZN_eq iv_138.1 (zA_sAn eS_175 (ex3 (gQ_12_1207 hO_T_131.1 ha_x_L_132)) h_165 rfl), ZQ_eq iv_138.2 (zA_sAn eS_175 (ex3 (gQ_12_1207 hO_T_131.1 ha_x_L_132)) h_165 rfl) (zA_sAn eS_175 (ex3 (gQ_12_1208 hO_T_131.1 ha_x_L_132)) h_165 rfl) (zA_sAn eS_175 (ex3 (gQ_12_1209 hO_T_131.1 ha_x_L_132)) h_165 rfl)⟩
              have zm_599 : ZM S S_199 x := ⟨ZN_eq zm_598.1 (zA_sAn eS_199 (ex3 (gQ_12_1207 hO_176.1 t_187)) h_190 rfl), ZQ_eq zm_598.2 (zA_sAn eS_199 (ex3 (gQ_12_1207 hO_176.1 t_187)) h_190 rfl) (zA_sAn eS_199 (ex3 (gQ_12_1208 hO_176.1 t_187)) h_190 rfl) (zA_sAn eS_199 (ex3 (gQ_12_1209 hO_176.1 t_187)) h_190 rfl)⟩
              have rR_600 : RowR S_175 x (3 * a1_z + 0).toNat (qb (ticB Ev Rl A)) := RowR_eq pw_146 (zA_sAn eS_175 (ex3 (gQ_12_1218 hO_T_131.1 ha_x_L_132)) h_165 rfl) (zA_sAn eS_175 (ex3 (gQ_12_1219 hO_T_131.1 ha_x_L_132)) h_165 rfl)
              have rR_601 : RowR S_199 x (3 * a1_z + 0).toNat (qb (ticB Ev Rl A)) := RowR_eq rR_600 (zA_sAn eS_199 (ex3 (gQ_12_1218 hO_176.1 t_187)) h_190 rfl) (zA_sAn eS_199 (ex3 (gQ_12_1219 hO_176.1 t_187)) h_190 rfl)
              have rR_602 : RowR S_175 x (3 * a1_z + 1).toNat (qe (ticB Ev Rl A)) := RowR_eq pw_147 (zA_sAn eS_175 (ex3 (gQ_12_1218 hO_T_131.1 ha_x_L_132)) h_165 rfl) (zA_sAn eS_175 (ex3 (gQ_12_1219 hO_T_131.1 ha_x_L_132)) h_165 rfl)
              have rR_603 : RowR S_199 x (3 * a1_z + 1).toNat (qe (ticB Ev Rl A)) := RowR_eq rR_602 (zA_sAn eS_199 (ex3 (gQ_12_1218 hO_176.1 t_187)) h_190 rfl) (zA_sAn eS_199 (ex3 (gQ_12_1219 hO_176.1 t_187)) h_190 rfl)
              have rR_604 : RowR S_175 x (3 * a1_z + 2).toNat (ql (ticB Ev Rl A)) := RowR_eq pw_148 (zA_sAn eS_175 (ex3 (gQ_12_1218 hO_T_131.1 ha_x_L_132)) h_165 rfl) (zA_sAn eS_175 (ex3 (gQ_12_1219 hO_T_131.1 ha_x_L_132)) h_165 rfl)
              have rR_605 : RowR S_199 x (3 * a1_z + 2).toNat (ql (ticB Ev Rl A)) := RowR_eq rR_604 (zA_sAn eS_199 (ex3 (gQ_12_1218 hO_176.1 t_187)) h_190 rfl) (zA_sAn eS_199 (ex3 (gQ_12_1219 hO_176.1 t_187)) h_190 rfl)
              have zR_606 : zA S_175 x 1215 a1_z.toNat = ((qst (ticB Ev Rl A))).toInt := (congrFun (zA_sAn eS_175 (ex3 (gQ_12_1215 hO_T_131.1 ha_x_L_132)) h_165 rfl) _).trans pw_149
              have zR_607 : zA S_199 x 1215 a1_z.toNat = ((qst (ticB Ev Rl A))).toInt := (congrFun (zA_sAn eS_199 (ex3 (gQ_12_1215 hO_176.1 t_187)) h_190 rfl) _).trans zR_606
              have zR_608 : zA S_175 x 1214 a1_z.toNat = ((qse (ticB Ev Rl A))).toInt := (congrFun (zA_sAn eS_175 (ex3 (gQ_12_1214 hO_T_131.1 ha_x_L_132)) h_165 rfl) _).trans pw_150
              have zR_609 : zA S_199 x 1214 a1_z.toNat = ((qse (ticB Ev Rl A))).toInt := (congrFun (zA_sAn eS_199 (ex3 (gQ_12_1214 hO_176.1 t_187)) h_190 rfl) _).trans zR_608
              have zR_610 : zA S_199 x 1216 a1_z.toNat = ((qdr (ticB Ev Rl A) + 1)).toInt := (by rw [zs_203, if_pos (by omega)]; exact (congrArg Int32.toInt (ev_197.trans (by rw [us_196]))))
              have zR_611 : zA S_175 x 1217 a1_z.toNat = ((qtk (ticB Ev Rl A))).toInt := (congrFun (zA_sAn eS_175 (ex3 (gQ_12_1217 hO_T_131.1 ha_x_L_132)) h_165 rfl) _).trans pw_153
              have zR_612 : zA S_199 x 1217 a1_z.toNat = ((qtk (ticB Ev Rl A))).toInt := (congrFun (zA_sAn eS_199 (ex3 (gQ_12_1217 hO_176.1 t_187)) h_190 rfl) _).trans zR_611
              have gR_613 : zA S_175 x 1237 a1_z.toNat = (((capG (qg (ticB Ev Rl A)) ((qe (ticB Ev Rl A)).map (fun c => (c, qpl (ticB Ev Rl A) c))))).length : Int) := (by rw [zs_185, if_pos (by omega), capG_y (by omega)]; omega)
              have gR_614 : zA S_199 x 1237 a1_z.toNat = (((capG (qg (ticB Ev Rl A)) ((qe (ticB Ev Rl A)).map (fun c => (c, qpl (ticB Ev Rl A) c))))).length : Int) := (congrFun (zA_sAn eS_199 (ex3 (gQ_12_1237 hO_176.1 t_187)) h_190 rfl) _).trans gR_613
              have pz_615 : PlZ S_175 x (qpl (ticB Ev Rl A)) (qsd (ticB Ev Rl A)) := PlZ_eq pw_155 (zA_sAn eS_175 (ex3 (gQ_12_1208 hO_T_131.1 ha_x_L_132)) h_165 rfl) (zA_sAn eS_175 (ex3 (gQ_12_1207 hO_T_131.1 ha_x_L_132)) h_165 rfl)
              have pz_616 : PlZ S_199 x (qpl (ticB Ev Rl A)) (qsd (ticB Ev Rl A)) := PlZ_eq pz_615 (zA_sAn eS_199 (ex3 (gQ_12_1208 hO_176.1 t_187)) h_190 rfl) (zA_sAn eS_199 (ex3 (gQ_12_1207 hO_176.1 t_187)) h_190 rfl)
              have t_617 : pI S_175 1238 x = v_156 := tI_sA eS_175 ev_156
              have t_618 : pI S_199 1238 x = v_156 := tI_sA eS_199 t_617
              have pz_619 : (pI S_199 1238 x).toInt = v_156.toInt := (congrArg Int32.toInt t_618).trans rfl
              have px_620 : PwX S S_175 x a1_z := PwX_z iv_140 (zA_sAn eS_175 (ex3 (gQ_12_1218 hO_T_131.1 ha_x_L_132)) h_165 rfl) (zA_sAn eS_175 (ex3 (gQ_12_1219 hO_T_131.1 ha_x_L_132)) h_165 rfl) zs_185 (by omega) (pw4 (fun _ => zA_sAn eS_175 (ex3 (gQ_12_1214 hO_T_131.1 ha_x_L_132)) h_165 rfl) (fun _ => zA_sAn eS_175 (ex3 (gQ_12_1215 hO_T_131.1 ha_x_L_132)) h_165 rfl) (fun _ => zA_sAn eS_175 (ex3 (gQ_12_1216 hO_T_131.1 ha_x_L_132)) h_165 rfl) (fun _ => zA_sAn eS_175 (ex3 (gQ_12_1217 hO_T_131.1 ha_x_L_132)) h_165 rfl) (fun h => absurd rfl h))
              have px_621 : PwX S S_199 x a1_z := PwX_z px_620 (zA_sAn eS_199 (ex3 (gQ_12_1218 hO_176.1 t_187)) h_190 rfl) (zA_sAn eS_199 (ex3 (gQ_12_1219 hO_176.1 t_187)) h_190 rfl) zs_203 (by omega) (pw4 (fun _ => zA_sAn eS_199 (ex3 (gQ_12_1214 hO_176.1 t_187)) h_190 rfl) (fun _ => zA_sAn eS_199 (ex3 (gQ_12_1215 hO_176.1 t_187)) h_190 rfl) (fun h => absurd rfl h) (fun _ => zA_sAn eS_199 (ex3 (gQ_12_1217 hO_176.1 t_187)) h_190 rfl) (fun _ => zA_sAn eS_199 (ex3 (gQ_12_1237 hO_176.1 t_187)) h_190 rfl))
              exact L_205 _ _ _ _ _ (0) (0) rfl hw ti_0 (by omega) t_595 hO_200 zc_209 mi_597 zm_599 ⟨[], qe (ticB Ev Rl A), rfl, PotW_of (show we (we (wdr (wg (ticB Ev Rl A) (capG (qg (ticB Ev Rl A)) ((qe (ticB Ev Rl A)).map (fun c => (c, qpl (ticB Ev Rl A) c))))) (qdr (ticB Ev Rl A) + 1)) []) ([] ++ qe (ticB Ev Rl A)) = (wdr (wg (ticB Ev Rl A) (capG (qg (ticB Ev Rl A)) ((qe (ticB Ev Rl A)).map (fun c => (c, qpl (ticB Ev Rl A) c))))) (qdr (ticB Ev Rl A) + 1)) from rfl) rR_601 rR_603 rR_605 zR_607 zR_609 gR_614 zR_610 zR_612 (show (pI S_199 1238 x).toInt = (((qsk (ticB Ev Rl A))).length : Int) by omega) pz_616, (by show (0 : Int) = ((0 : Nat) : Int); rfl)⟩ px_621 t_216 (lv_sub hl [0, 1, 2, 3, 4] rfl)
            · have z_b_622 := trivial
              have k_623 : i4_130_z < rr_98.toInt := z_nle rfl hz_i4_130 c_160
              have zz_624 := congrFun zk_134 (3 * a1_z + 1).toNat
              refine lv_aload_n X.1 X.2.1 dX12_tick_200 rfl (lv_at hl 3 rfl) ?_
              obtain ⟨q_625, h_626, h_627, h_628⟩ := gQ_12_1236 hO_T_131.1 ha_x_L_132
              refine r_getR (g := 1236) X hw ha_x_L_132 rfl 36 h_626 (by decide) rfl inn_X12_tick_12 (by decide) (X.2.2.2.1 (.fieldLink RX12 94 "SilkMillModel" "drawn" "[I") (by decide +kernel)) rfl (gv_1236 _ _) dX12_tick_201 ?_
              refine lv_bipush (v := 12) X.1 X.2.1 dX12_tick_204 (by decide) ?_
              refine lv_iload_n X.1 X.2.1 dX12_tick_206 rfl (lv_at hl 1 rfl) ?_
              refine lv_imul X.1 X.2.1 dX12_tick_207 ?_
              refine lv_topi (fun v_629 ev_629 => ?_)
              have z_630 : v_629.toInt = 12 * (rr_109.toInt + v_116.toInt) := z_mul ev_629 ti_12 z_121 (by omega) (by omega)
              refine lv_iload X.1 X.2.1 dX12_tick_208 (lv_at hl 0 rfl) ?_
              refine lv_iadd X.1 X.2.1 dX12_tick_210 ?_
              refine lv_topi (fun v_631 ev_631 => ?_)
              have z_632 : v_631.toInt = (12 * (rr_109.toInt + v_116.toInt)) + i4_130_z := z_add ev_631 z_630 hz_i4_130 (by omega) (by omega)
              refine lv_sipush (v := 1000) X.1 X.2.1 dX12_tick_211 (by decide) ?_
              refine lv_aload_n X.1 X.2.1 dX12_tick_214 rfl (lv_at hl 3 rfl) ?_
              refine lv_iload_n X.1 X.2.1 dX12_tick_215 rfl (lv_at hl 4 rfl) ?_
              refine lv_iconst (v := 1) X.1 X.2.1 dX12_tick_216 (by decide) ?_
              refine lv_iload X.1 X.2.1 dX12_tick_217 (lv_at hl 0 rfl) ?_
              refine k_i (rm := { frames := 1, cells := 0, slots := 0, locals := 48 }) (av := [.ref x, .int (a1), .int 1, .int (i4_130)]) X hw (va_runV (As := [.int (a1), .int 1, .int (i4_130)]) (rest := [.int 1000, .int (v_631), .ref q_625]) (cfix X) (k_X12_at2 l G cy κ T_131 _ x (a1) (a1_z) (1) (1) (i4_130) (i4_130_z) hO_T_131.1 ha_x_L_132 hz_a1 ti_1 hz_i4_130 (by first | assumption | omega) (by first | assumption | omega) (by first | assumption | omega) (by first | assumption | omega) (by first | assumption | omega) (by first | assumption | omega)) (cwV 3 X.2.2.2.1 gX12_tick_X12_at rfl rfl rfl (by decide +kernel) ⟨Nat.le_of_ble_eq_true rfl, Nat.le_of_ble_eq_true rfl⟩) (pre_V X hw _ ha_x_L_132 rfl (by decide) rfl) rfl rfl hl.1 rfl (lv_room (Nat.le_of_ble_eq_true rfl)) dX12_tick_219 ⟨Nat.le_of_ble_eq_true rfl, Nat.le_of_ble_eq_true rfl⟩) 0 0 (Nat.le_of_ble_eq_true rfl) (Nat.le_of_ble_eq_true rfl) (fun rr_633 S_634 H locs hp hw hfr hnw => ?_)
              obtain ⟨e2, hp⟩ := hp
              subst e2
              obtain ⟨f_635, f_636, f_637⟩ := hp
              refine lv_imul X.1 X.2.1 dX12_tick_222 ?_
              refine lv_topi (fun v_638 ev_638 => ?_)
              have z_639 : v_638.toInt = 1000 * rr_633.toInt := z_mul ev_638 ti_1000 rfl (by omega) (by omega)
              refine lv_aload_n X.1 X.2.1 dX12_tick_223 rfl (lv_at hl 3 rfl) ?_
              obtain ⟨q_640, h_641, h_642, h_643⟩ := gQ_12_1208 hO_T_131.1 ha_x_L_132
              refine r_getR (g := 1208) X hw ha_x_L_132 rfl 8 h_641 (by decide) rfl inn_X12_tick_12 (by decide) (X.2.2.2.1 (.fieldLink RX12 28 "SilkMillModel" "place" "[I") (by decide +kernel)) rfl (gv_1208 _ _) dX12_tick_224 ?_
              refine lv_aload_n X.1 X.2.1 dX12_tick_227 rfl (lv_at hl 3 rfl) ?_
              refine lv_iload_n X.1 X.2.1 dX12_tick_228 rfl (lv_at hl 4 rfl) ?_
              refine lv_iconst (v := 1) X.1 X.2.1 dX12_tick_229 (by decide) ?_
              refine lv_iload X.1 X.2.1 dX12_tick_230 (lv_at hl 0 rfl) ?_
              refine k_i (rm := { frames := 1, cells := 0, slots := 0, locals := 48 }) (av := [.ref x, .int (a1), .int 1, .int (i4_130)]) X hw (va_runV (As := [.int (a1), .int 1, .int (i4_130)]) (rest := [.ref q_640, .int (v_638), .int (v_631), .ref q_625]) (cfix X) (k_X12_at2 l G cy κ T_131 _ x (a1) (a1_z) (1) (1) (i4_130) (i4_130_z) hO_T_131.1 ha_x_L_132 hz_a1 ti_1 hz_i4_130 (by first | assumption | omega) (by first | assumption | omega) (by first | assumption | omega) (by first | assumption | omega) (by first | assumption | omega) (by first | assumption | omega)) (cwV 3 X.2.2.2.1 gX12_tick_X12_at rfl rfl rfl (by decide +kernel) ⟨Nat.le_of_ble_eq_true rfl, Nat.le_of_ble_eq_true rfl⟩) (pre_V X hw _ ha_x_L_132 rfl (by decide) rfl) rfl rfl hl.1 rfl (lv_room (Nat.le_of_ble_eq_true rfl)) dX12_tick_232 ⟨Nat.le_of_ble_eq_true rfl, Nat.le_of_ble_eq_true rfl⟩) 0 0 (Nat.le_of_ble_eq_true rfl) (Nat.le_of_ble_eq_true rfl) (fun rr_644 S_645 H locs hp hw hfr hnw => ?_)
              obtain ⟨e2, hp⟩ := hp
              subst e2
              obtain ⟨f_646, f_647, f_648⟩ := hp
              refine r_iald X hw h_642 rfl (by rw [h_643]; exact z_ix rfl (by omega) (by omega)) dX12_tick_235 ?_
              refine lv_topi (fun v_649 ev_649 => ?_)
              have z_650 := gE_374 hO_T_131.1 h_642 (Int32.toNatClampNeg (rr_644)); rw [← ev_649] at z_650
              have ev_649 := ev_649.symm
              have zf_651 : zA T_131 x 1208 (rr_644.toInt).toNat = v_649.toInt := (zA_of h_641 rfl (by omega) ev_649)
              have m8_652 := MI_alive mk_137 (c := rr_644.toInt) (r := 3 * a1_z + 1) (k := i4_130_z) (gI_12_1201 hO_T_131.1 ha_x_L_132).2 (by omega) (by omega) (by omega) (by omega) (by omega)
              have hh_653 : rr_644.toInt = rr_633.toInt := by omega
              rw [hh_653] at m8_652 zf_651
              rw [zf_651] at m8_652
              have lg_654 := lenZ_le hO_T_131.1 ha_x_L_132 (rr_633.toInt)
              have dk_655 : dOK T_131 x (1000 * rr_633.toInt + v_649.toInt) := dOK_new (by omega) (by omega) (by omega) (by omega) lg_654
              refine lv_iadd X.1 X.2.1 dX12_tick_236 ?_
              refine lv_topi (fun v_656 ev_656 => ?_)
              have z_657 : v_656.toInt = (1000 * rr_633.toInt) + v_649.toInt := z_add ev_656 z_639 rfl (by omega) (by omega)
              refine r_iast X hw h_627 rfl (by rw [h_628]; exact z_ix z_632 (by omega) (by omega)) dX12_tick_237 (fun H locs hw => ?_)
              obtain ⟨S_658, eS_658⟩ : ∃ T, T = sA T_131 q_625 (upd (pA T_131 q_625) (Int32.toNatClampNeg (v_631)) (v_656)) := ⟨_, rfl⟩
              rw [← eS_658] at hw
              have hO_659 : Ok MTK S S_658 := hO_T_131.sA eS_658 h_627 (by decide +kernel) (uA_934 hO_T_131.1 h_627 (by omega) (by omega))
              have h_660 : pA S_658 q_625 (Int32.toNatClampNeg (v_631)) = v_656 := tA_sAs eS_658
              have t_661 : pR S_658 1236 x = some q_625 := tR_sA eS_658 h_626
              have t_663 : pR T_131 1236 x = some q_625 := by have h := t_661; rw [eS_658, pR_sA] at h; exact h
              have zs_662 : ∀ j, zA S_658 x 1236 j = if j = (((12 * (rr_109.toInt + v_116.toInt)) + i4_130_z)).toNat then ((1000 * rr_633.toInt) + v_649.toInt) else zA T_131 x 1236 j := by have h := zA_sAs eS_658 t_663 z_657; rw [z_nc z_632 (by omega)] at h; exact h
              have mi_664 : MIe S_658 x (-1) := drawn_MI hO_T_131.1 ha_x_L_132 (show Fr [10934] T_131 S_658 by rw [eS_658]; exact Fr_sA h_627 List.mem_cons_self) mk_137 zs_662 dk_655
              clear zs_662
              obtain ⟨x_665, ex_665⟩ : ∃ y : Int32, y = i4_130 + 1 := ⟨_, rfl⟩
              have z_666 : x_665.toInt = i4_130_z + 1 := z_add ex_665 hz_i4_130 ti_1 (by omega) (by omega)
              refine lv_iinc (v := x_665) (lv' := [(4, .int (x_665)), (3, .int (v_120)), (2, .int (rr_98)), (0, .ref x), (1, .int (a1))]) X.1 X.2.1 dX12_tick_238 hl (k := 0) rfl (by rw [ex_665]; rfl) (by decide) rfl (fun ls hl => ?_)
              refine lv_goto (tgt := 194) X.1 X.2.1 dX12_tick_241 (by decide) ?_
              have t_667 : At S_658 x 12 := tAt_sA eS_658 ha_x_L_132
              have zc_668 : zA S_658 x 1219 = zA T_62 x 1219 := (zA_sAn eS_658 (ex3 (gQ_12_1219 hO_T_131.1 ha_x_L_132)) h_627 rfl).trans zk_134
              have zc_669 : zA S_658 x 1237 = zA T_62 x 1237 := (zA_sAn eS_658 (ex3 (gQ_12_1237 hO_T_131.1 ha_x_L_132)) h_627 rfl).trans zk_136
              have zm_670 : ZM S S_658 x := ⟨ZN_eq iv_138.1 (zA_sAn eS_658 (ex3 (gQ_12_1207 hO_T_131.1 ha_x_L_132)) h_627 rfl), ZQ_eq iv_138.2 (zA_sAn eS_658 (ex3 (gQ_12_1207 hO_T_131.1 ha_x_L_132)) h_627 rfl) (zA_sAn eS_658 (ex3 (gQ_12_1208 hO_T_131.1 ha_x_L_132)) h_627 rfl) (zA_sAn eS_658 (ex3 (gQ_12_1209 hO_T_131.1 ha_x_L_132)) h_627 rfl)⟩
              have rR_671 : RowR S_658 x (3 * a1_z + 0).toNat (qb (ticB Ev Rl A)) := RowR_eq pw_146 (zA_sAn eS_658 (ex3 (gQ_12_1218 hO_T_131.1 ha_x_L_132)) h_627 rfl) (zA_sAn eS_658 (ex3 (gQ_12_1219 hO_T_131.1 ha_x_L_132)) h_627 rfl)
              have rR_672 : RowR S_658 x (3 * a1_z + 1).toNat (qe (ticB Ev Rl A)) := RowR_eq pw_147 (zA_sAn eS_658 (ex3 (gQ_12_1218 hO_T_131.1 ha_x_L_132)) h_627 rfl) (zA_sAn eS_658 (ex3 (gQ_12_1219 hO_T_131.1 ha_x_L_132)) h_627 rfl)
              have rR_673 : RowR S_658 x (3 * a1_z + 2).toNat (ql (ticB Ev Rl A)) := RowR_eq pw_148 (zA_sAn eS_658 (ex3 (gQ_12_1218 hO_T_131.1 ha_x_L_132)) h_627 rfl) (zA_sAn eS_658 (ex3 (gQ_12_1219 hO_T_131.1 ha_x_L_132)) h_627 rfl)
              have zR_674 : zA S_658 x 1215 a1_z.toNat = ((qst (ticB Ev Rl A))).toInt := (congrFun (zA_sAn eS_658 (ex3 (gQ_12_1215 hO_T_131.1 ha_x_L_132)) h_627 rfl) _).trans pw_149
              have zR_675 : zA S_658 x 1214 a1_z.toNat = ((qse (ticB Ev Rl A))).toInt := (congrFun (zA_sAn eS_658 (ex3 (gQ_12_1214 hO_T_131.1 ha_x_L_132)) h_627 rfl) _).trans pw_150
              have zR_676 : zA S_658 x 1216 a1_z.toNat = ((qdr (ticB Ev Rl A))).toInt := (congrFun (zA_sAn eS_658 (ex3 (gQ_12_1216 hO_T_131.1 ha_x_L_132)) h_627 rfl) _).trans pw_152
              have zR_677 : zA S_658 x 1217 a1_z.toNat = ((qtk (ticB Ev Rl A))).toInt := (congrFun (zA_sAn eS_658 (ex3 (gQ_12_1217 hO_T_131.1 ha_x_L_132)) h_627 rfl) _).trans pw_153
              have gR_678 : zA S_658 x 1237 a1_z.toNat = (((qg (ticB Ev Rl A))).length : Int) := (congrFun (zA_sAn eS_658 (ex3 (gQ_12_1237 hO_T_131.1 ha_x_L_132)) h_627 rfl) _).trans pw_151
              have pz_679 : PlZ S_658 x (qpl (ticB Ev Rl A)) (qsd (ticB Ev Rl A)) := PlZ_eq pw_155 (zA_sAn eS_658 (ex3 (gQ_12_1208 hO_T_131.1 ha_x_L_132)) h_627 rfl) (zA_sAn eS_658 (ex3 (gQ_12_1207 hO_T_131.1 ha_x_L_132)) h_627 rfl)
              have t_680 : pI S_658 1238 x = v_156 := tI_sA eS_658 ev_156
              have pz_681 : (pI S_658 1238 x).toInt = v_156.toInt := (congrArg Int32.toInt t_680).trans rfl
              have px_682 : PwX S S_658 x a1_z := PwX_to iv_140 (zA_sAn eS_658 (ex3 (gQ_12_1218 hO_T_131.1 ha_x_L_132)) h_627 rfl) (zA_sAn eS_658 (ex3 (gQ_12_1219 hO_T_131.1 ha_x_L_132)) h_627 rfl) (pw5 (zA_sAn eS_658 (ex3 (gQ_12_1214 hO_T_131.1 ha_x_L_132)) h_627 rfl) (zA_sAn eS_658 (ex3 (gQ_12_1215 hO_T_131.1 ha_x_L_132)) h_627 rfl) (zA_sAn eS_658 (ex3 (gQ_12_1216 hO_T_131.1 ha_x_L_132)) h_627 rfl) (zA_sAn eS_658 (ex3 (gQ_12_1217 hO_T_131.1 ha_x_L_132)) h_627 rfl) (zA_sAn eS_658 (ex3 (gQ_12_1237 hO_T_131.1 ha_x_L_132)) h_627 rfl))
              have t_683 : pI S_658 1201 x = v_1 := tI_sA eS_658 ik_142
              exact ih_L_129 _ (by omega) _ _ _ _ (x_665) (x_665.toInt) rfl hw rfl (by omega) t_667 hO_659 zc_668 zc_669 mi_664 zm_670 (PotW_of (rfl : (ticB Ev Rl A) = (ticB Ev Rl A)) rR_671 rR_672 rR_673 zR_674 zR_675 gR_678 zR_676 zR_677 (show (pI S_658 1238 x).toInt = (((qsk (ticB Ev Rl A))).length : Int) by omega) pz_679) px_682 t_683 (lv_sub hl [0, 1, 2, 3, 4] rfl)
          have t_684 : At S_126 x 12 := tAt_sA eS_126 ha_x_L_63
          have mi_685 : MIe S_126 x (-1) := MIe_sA mk_64 hO_T_62.1 ha_x_L_63 h_124 eS_126 (by decide +kernel)
          have zm_686 : ZM S S_126 x := ⟨ZN_eq iv_66.1 (zA_sAn eS_126 (ex3 (gQ_12_1207 hO_T_62.1 ha_x_L_63)) h_124 rfl), ZQ_eq iv_66.2 (zA_sAn eS_126 (ex3 (gQ_12_1207 hO_T_62.1 ha_x_L_63)) h_124 rfl) (zA_sAn eS_126 (ex3 (gQ_12_1208 hO_T_62.1 ha_x_L_63)) h_124 rfl) (zA_sAn eS_126 (ex3 (gQ_12_1209 hO_T_62.1 ha_x_L_63)) h_124 rfl)⟩
          have rR_687 : RowR S_126 x (3 * a1_z + 0).toNat (qb (ticB Ev Rl A)) := RowR_eq pw_72 (zA_sAn eS_126 (ex3 (gQ_12_1218 hO_T_62.1 ha_x_L_63)) h_124 rfl) (zA_sAn eS_126 (ex3 (gQ_12_1219 hO_T_62.1 ha_x_L_63)) h_124 rfl)
          have rR_688 : RowR S_126 x (3 * a1_z + 1).toNat (qe (ticB Ev Rl A)) := RowR_eq pw_73 (zA_sAn eS_126 (ex3 (gQ_12_1218 hO_T_62.1 ha_x_L_63)) h_124 rfl) (zA_sAn eS_126 (ex3 (gQ_12_1219 hO_T_62.1 ha_x_L_63)) h_124 rfl)
          have rR_689 : RowR S_126 x (3 * a1_z + 2).toNat (ql (ticB Ev Rl A)) := RowR_eq pw_74 (zA_sAn eS_126 (ex3 (gQ_12_1218 hO_T_62.1 ha_x_L_63)) h_124 rfl) (zA_sAn eS_126 (ex3 (gQ_12_1219 hO_T_62.1 ha_x_L_63)) h_124 rfl)
          have zR_690 : zA S_126 x 1215 a1_z.toNat = ((qst (ticB Ev Rl A))).toInt := (congrFun (zA_sAn eS_126 (ex3 (gQ_12_1215 hO_T_62.1 ha_x_L_63)) h_124 rfl) _).trans pw_75
          have zR_691 : zA S_126 x 1214 a1_z.toNat = ((qse (ticB Ev Rl A))).toInt := (congrFun (zA_sAn eS_126 (ex3 (gQ_12_1214 hO_T_62.1 ha_x_L_63)) h_124 rfl) _).trans pw_76
          have zR_692 : zA S_126 x 1216 a1_z.toNat = ((qdr (ticB Ev Rl A))).toInt := (congrFun (zA_sAn eS_126 (ex3 (gQ_12_1216 hO_T_62.1 ha_x_L_63)) h_124 rfl) _).trans pw_78
          have zR_693 : zA S_126 x 1217 a1_z.toNat = ((qtk (ticB Ev Rl A))).toInt := (congrFun (zA_sAn eS_126 (ex3 (gQ_12_1217 hO_T_62.1 ha_x_L_63)) h_124 rfl) _).trans pw_79
          have gR_694 : zA S_126 x 1237 a1_z.toNat = (((qg (ticB Ev Rl A))).length : Int) := (congrFun (zA_sAn eS_126 (ex3 (gQ_12_1237 hO_T_62.1 ha_x_L_63)) h_124 rfl) _).trans pw_77
          have pz_695 : PlZ S_126 x (qpl (ticB Ev Rl A)) (qsd (ticB Ev Rl A)) := PlZ_eq pw_81 (zA_sAn eS_126 (ex3 (gQ_12_1208 hO_T_62.1 ha_x_L_63)) h_124 rfl) (zA_sAn eS_126 (ex3 (gQ_12_1207 hO_T_62.1 ha_x_L_63)) h_124 rfl)
          have t_696 : pI S_126 1238 x = v_82 := tI_sA eS_126 ev_82
          have pz_697 : (pI S_126 1238 x).toInt = v_82.toInt := (congrArg Int32.toInt t_696).trans rfl
          have px_698 : PwX S S_126 x a1_z := PwX_to iv_68 (zA_sAn eS_126 (ex3 (gQ_12_1218 hO_T_62.1 ha_x_L_63)) h_124 rfl) (zA_sAn eS_126 (ex3 (gQ_12_1219 hO_T_62.1 ha_x_L_63)) h_124 rfl) (pw5 (zA_sAn eS_126 (ex3 (gQ_12_1214 hO_T_62.1 ha_x_L_63)) h_124 rfl) (zA_sAn eS_126 (ex3 (gQ_12_1215 hO_T_62.1 ha_x_L_63)) h_124 rfl) (zA_sAn eS_126 (ex3 (gQ_12_1216 hO_T_62.1 ha_x_L_63)) h_124 rfl) (zA_sAn eS_126 (ex3 (gQ_12_1217 hO_T_62.1 ha_x_L_63)) h_124 rfl) (zA_sAn eS_126 (ex3 (gQ_12_1237 hO_T_62.1 ha_x_L_63)) h_124 rfl))
          exact L_129 _ _ _ _ _ (0) (0) rfl hw ti_0 (by omega) t_684 hO_127 zc_133 zc_135 mi_685 zm_686 (PotW_of (rfl : (ticB Ev Rl A) = (ticB Ev Rl A)) rR_687 rR_688 rR_689 zR_690 zR_691 gR_694 zR_692 zR_693 (show (pI S_126 1238 x).toInt = (((qsk (ticB Ev Rl A))).length : Int) by omega) pz_695) px_698 t_141 (lv_sub hl [0, 1, 2, 3, 4] rfl)
        · have z_b_699 := trivial
          have k_700 : rr_98.toInt = 0 := z_eq rfl ti_0 c_103
          refine lv_iconst (v := 0) X.1 X.2.1 dX12_tick_169 (by decide) ?_
          have pz_701 : (pI T_62 1238 x).toInt = v_82.toInt := (congrArg Int32.toInt ev_82).trans rfl
          rw [hQQ]
          exact ret_z X hw hr hlocks (Nat.le_of_ble_eq_true rfl) (Nat.le_of_ble_eq_true rfl) (by decide) ⟨hO_T_62, Or.inr ⟨⟨mk_64, iv_65, iv_66, PotW_of (show (ticF Ev Rl A).1 = (ticB Ev Rl A) by rw [ticF_0 (show ¬ 0 < (qst (ticB Ev Rl A)).toInt by have e9 := congrArg Int32.toInt us_93; have e : (v_90 : Int32).toInt = v_90.toInt := rfl; omega) (List.eq_nil_of_length_eq_zero (by have := pw_73.1; omega))]) pw_72 pw_73 pw_74 pw_75 pw_76 pw_77 pw_78 pw_79 (show (pI T_62 1238 x).toInt = (((qsk (ticB Ev Rl A))).length : Int) by omega) pw_81, iv_68, fun h => (by rw [ticF_0 (show ¬ 0 < (qst (ticB Ev Rl A)).toInt by have e9 := congrArg Int32.toInt us_93; have e : (v_90 : Int32).toInt = v_90.toInt := rfl; omega) (List.eq_nil_of_length_eq_zero (by have := pw_73.1; omega))] at h; exact h)⟩, rfl⟩⟩ dX12_tick_170
      · have z_b_702 := trivial
        have k_703 : v_90.toInt > 0 := z_nle rfl ti_0 c_94
        refine lv_aload_n X.1 X.2.1 dX12_tick_146 rfl (lv_at hl 0 rfl) ?_
        refine r_getR (g := 1215) X hw ha_x_L_63 rfl 15 h_87 (by decide) rfl inn_X12_tick_12 (by decide) (X.2.2.2.1 (.fieldLink RX12 46 "SilkMillModel" "stop" "[I") (by decide +kernel)) rfl (gv_1215 _ _) dX12_tick_147 ?_
        refine lv_iload_n X.1 X.2.1 dX12_tick_150 rfl (lv_at hl 1 rfl) ?_
        refine lv_dup2_11 X.1 X.2.1 dX12_tick_151 rfl rfl ?_
        refine r_iald X hw h_88 rfl (by rw [h_89]; exact z_ix hz_a1 (by omega) (by omega)) dX12_tick_152 ?_
        rw [ev_90]
        refine lv_iconst (v := 1) X.1 X.2.1 dX12_tick_153 (by decide) ?_
        refine lv_isub X.1 X.2.1 dX12_tick_154 ?_
        refine lv_topi (fun v_704 ev_704 => ?_)
        have z_705 : v_704.toInt = v_90.toInt - 1 := z_sub ev_704 rfl ti_1 (by omega) (by omega)
        refine r_iast X hw h_88 rfl (by rw [h_89]; exact z_ix hz_a1 (by omega) (by omega)) dX12_tick_155 (fun H locs hw => ?_)
        obtain ⟨S_706, eS_706⟩ : ∃ T, T = sA T_62 q_86 (upd (pA T_62 q_86) (Int32.toNatClampNeg (a1)) (v_704)) := ⟨_, rfl⟩
        rw [← eS_706] at hw
        have hO_707 : Ok MTK S S_706 := hO_T_62.sA eS_706 h_88 (by decide +kernel) (uA_514 hO_T_62.1 h_88)
        have h_708 : pA S_706 q_86 (Int32.toNatClampNeg (a1)) = v_704 := tA_sAs eS_706
        have t_709 : pR S_706 1215 x = some q_86 := tR_sA eS_706 h_87
        have t_711 : pR T_62 1215 x = some q_86 := by have h := t_709; rw [eS_706, pR_sA] at h; exact h
        have zs_710 : ∀ j, zA S_706 x 1215 j = if j = (a1_z).toNat then (v_90.toInt - 1) else zA T_62 x 1215 j := by have h := zA_sAs eS_706 t_711 z_705; rw [z_nc hz_a1 (by omega)] at h; exact h
        refine lv_iconst (v := 0) X.1 X.2.1 dX12_tick_156 (by decide) ?_
        have zm_712 : ZM S S_706 x := ⟨ZN_eq iv_66.1 (zA_sAn eS_706 (ex3 (gQ_12_1207 hO_T_62.1 ha_x_L_63)) h_88 rfl), ZQ_eq iv_66.2 (zA_sAn eS_706 (ex3 (gQ_12_1207 hO_T_62.1 ha_x_L_63)) h_88 rfl) (zA_sAn eS_706 (ex3 (gQ_12_1208 hO_T_62.1 ha_x_L_63)) h_88 rfl) (zA_sAn eS_706 (ex3 (gQ_12_1209 hO_T_62.1 ha_x_L_63)) h_88 rfl)⟩
        have mi_713 : MIe S_706 x (-1) := MIe_sA mk_64 hO_T_62.1 ha_x_L_63 h_88 eS_706 (by decide +kernel)
        have zc_714 : zA S_706 x 1237 = zA T_62 x 1237 := zA_sAn eS_706 (ex3 (gQ_12_1237 hO_T_62.1 ha_x_L_63)) h_88 rfl
        have rR_715 : RowR S_706 x (3 * a1_z + 0).toNat (qb (ticB Ev Rl A)) := RowR_eq pw_72 (zA_sAn eS_706 (ex3 (gQ_12_1218 hO_T_62.1 ha_x_L_63)) h_88 rfl) (zA_sAn eS_706 (ex3 (gQ_12_1219 hO_T_62.1 ha_x_L_63)) h_88 rfl)
        have rR_716 : RowR S_706 x (3 * a1_z + 1).toNat (qe (ticB Ev Rl A)) := RowR_eq pw_73 (zA_sAn eS_706 (ex3 (gQ_12_1218 hO_T_62.1 ha_x_L_63)) h_88 rfl) (zA_sAn eS_706 (ex3 (gQ_12_1219 hO_T_62.1 ha_x_L_63)) h_88 rfl)
        have rR_717 : RowR S_706 x (3 * a1_z + 2).toNat (ql (ticB Ev Rl A)) := RowR_eq pw_74 (zA_sAn eS_706 (ex3 (gQ_12_1218 hO_T_62.1 ha_x_L_63)) h_88 rfl) (zA_sAn eS_706 (ex3 (gQ_12_1219 hO_T_62.1 ha_x_L_63)) h_88 rfl)
        have zR_718 : zA S_706 x 1215 a1_z.toNat = ((qst (ticB Ev Rl A) - 1)).toInt := (by rw [zs_710, if_pos (by omega)]; exact z_705.symm.trans (congrArg Int32.toInt (ev_704.trans (by rw [us_93]))))
        have zR_719 : zA S_706 x 1214 a1_z.toNat = ((qse (ticB Ev Rl A))).toInt := (congrFun (zA_sAn eS_706 (ex3 (gQ_12_1214 hO_T_62.1 ha_x_L_63)) h_88 rfl) _).trans pw_76
        have zR_720 : zA S_706 x 1216 a1_z.toNat = ((qdr (ticB Ev Rl A))).toInt := (congrFun (zA_sAn eS_706 (ex3 (gQ_12_1216 hO_T_62.1 ha_x_L_63)) h_88 rfl) _).trans pw_78
        have zR_721 : zA S_706 x 1217 a1_z.toNat = ((qtk (ticB Ev Rl A))).toInt := (congrFun (zA_sAn eS_706 (ex3 (gQ_12_1217 hO_T_62.1 ha_x_L_63)) h_88 rfl) _).trans pw_79
        have gR_722 : zA S_706 x 1237 a1_z.toNat = (((qg (ticB Ev Rl A))).length : Int) := (congrFun (zA_sAn eS_706 (ex3 (gQ_12_1237 hO_T_62.1 ha_x_L_63)) h_88 rfl) _).trans pw_77
        have pz_723 : PlZ S_706 x (qpl (ticB Ev Rl A)) (qsd (ticB Ev Rl A)) := PlZ_eq pw_81 (zA_sAn eS_706 (ex3 (gQ_12_1208 hO_T_62.1 ha_x_L_63)) h_88 rfl) (zA_sAn eS_706 (ex3 (gQ_12_1207 hO_T_62.1 ha_x_L_63)) h_88 rfl)
        have t_724 : pI S_706 1238 x = v_82 := tI_sA eS_706 ev_82
        have pz_725 : (pI S_706 1238 x).toInt = v_82.toInt := (congrArg Int32.toInt t_724).trans rfl
        have px_726 : PwX S S_706 x a1_z := PwX_z iv_68 (zA_sAn eS_706 (ex3 (gQ_12_1218 hO_T_62.1 ha_x_L_63)) h_88 rfl) (zA_sAn eS_706 (ex3 (gQ_12_1219 hO_T_62.1 ha_x_L_63)) h_88 rfl) zs_710 (by omega) (pw4 (fun _ => zA_sAn eS_706 (ex3 (gQ_12_1214 hO_T_62.1 ha_x_L_63)) h_88 rfl) (fun h => absurd rfl h) (fun _ => zA_sAn eS_706 (ex3 (gQ_12_1216 hO_T_62.1 ha_x_L_63)) h_88 rfl) (fun _ => zA_sAn eS_706 (ex3 (gQ_12_1217 hO_T_62.1 ha_x_L_63)) h_88 rfl) (fun _ => zA_sAn eS_706 (ex3 (gQ_12_1237 hO_T_62.1 ha_x_L_63)) h_88 rfl))
        rw [hQQ]
        exact ret_z X hw hr hlocks (Nat.le_of_ble_eq_true rfl) (Nat.le_of_ble_eq_true rfl) (by decide) ⟨hO_707, Or.inr ⟨⟨mi_713, (GR_eq zc_714 iv_65), zm_712, PotW_of (show (ticF Ev Rl A).1 = wst (ticB Ev Rl A) (qst (ticB Ev Rl A) - 1) by rw [ticF_s (show 0 < (qst (ticB Ev Rl A)).toInt by have e9 := congrArg Int32.toInt us_93; have e : (v_90 : Int32).toInt = v_90.toInt := rfl; omega)]) rR_715 rR_716 rR_717 zR_718 zR_719 gR_722 zR_720 zR_721 (show (pI S_706 1238 x).toInt = (((qsk (ticB Ev Rl A))).length : Int) by omega) pz_723, px_726, fun h => (by rw [ticF_s (show 0 < (qst (ticB Ev Rl A)).toInt by have e9 := congrArg Int32.toInt us_93; have e : (v_90 : Int32).toInt = v_90.toInt := rfl; omega)] at h; exact h)⟩, rfl⟩⟩ dX12_tick_157
    obtain ⟨q_727, h_728, h_729, h_730⟩ := gQ_12_1215 hO_T_36.1 ha_x_L_37
    refine r_getR (g := 1215) X hw ha_x_L_37 rfl 15 h_728 (by decide) rfl inn_X12_tick_12 (by decide) (X.2.2.2.1 (.fieldLink RX12 46 "SilkMillModel" "stop" "[I") (by decide +kernel)) rfl (gv_1215 _ _) dX12_tick_88 ?_
    refine lv_iload_n X.1 X.2.1 dX12_tick_91 rfl (lv_at hl 1 rfl) ?_
    refine r_iald X hw h_729 rfl (by rw [h_730]; exact z_ix hz_a1 (by omega) (by omega)) dX12_tick_92 ?_
    refine lv_topi (fun v_731 ev_731 => ?_)
    have rg_732 := And.intro (z_lo v_731) (z_hi v_731)
    have ev_731 := ev_731.symm
    have zf_733 : zA T_36 x 1215 (a1_z).toNat = v_731.toInt := (zA_of h_728 hz_a1 (by omega) ev_731)
    have us_734 : v_731 = (qst (seaF Ev (wtk A (qtk A + 1)))) := Int32.toInt_inj.mp (rfl.trans (zf_733.symm.trans pw_50))
    refine lv_if_ne (tgt := 137) X.1 X.2.1 dX12_tick_93 (by decide) (fun c_735 => ?_) (fun c_735 => ?_)
    · have z_b_736 := trivial
      have k_737 : v_731.toInt ≠ 0 := z_ne rfl ti_0 c_735
      have pz_738 : (pI T_36 1238 x).toInt = v_57.toInt := (congrArg Int32.toInt ev_57).trans rfl
      exact L_61 _ _ _ _  hw ha_x_L_37 hO_T_36 mk_38 iv_39 iv_40 (PotW_of (show ticB Ev Rl A = (seaF Ev (wtk A (qtk A + 1))) from (if_neg (i32_ne (congrArg Int32.toInt us_734.symm) t0 (by have e : (v_731 : Int32).toInt = v_731.toInt := rfl; omega)))) pw_47 pw_48 pw_49 pw_50 pw_51 pw_52 pw_53 pw_54 (show (pI T_36 1238 x).toInt = (((qsk (seaF Ev (wtk A (qtk A + 1))))).length : Int) by omega) pw_56) iv_42 ik_44 (lv_sub hl [0, 1] rfl)
    · have z_b_739 := trivial
      have k_740 : v_731.toInt = 0 := z_eq rfl ti_0 c_735
      refine lv_bipush (v := 12) X.1 X.2.1 dX12_tick_96 (by decide) ?_
      refine lv_iload_n X.1 X.2.1 dX12_tick_98 rfl (lv_at hl 1 rfl) ?_
      refine lv_imul X.1 X.2.1 dX12_tick_99 ?_
      refine lv_topi (fun v_741 ev_741 => ?_)
      have z_742 : v_741.toInt = 12 * a1_z := z_mul ev_741 ti_12 hz_a1 (by omega) (by omega)
      refine lv_istore_n (lv' := [(2, .int (v_741)), (0, .ref x), (1, .int (a1))]) X.1 X.2.1 dX12_tick_100 rfl hl (by decide) rfl (fun ls hl => ?_)
      have L_743 : ∀ (n : Nat) (T_745 : PS) (H : Heap) (locs : List Loc) (ls : Array Slot) (i2_744 : Int32) (i2_744_z : Int), ((48 - i2_744_z).toNat = n) → (Wd G cy (AS S s.heap.size) s.heap T_745 H locs) → (i2_744.toInt = i2_744_z) → (0 ≤ i2_744_z ∧ i2_744_z ≤ 48) → (At T_745 x 12) → (Ok MTK S T_745) → (MIe T_745 x (-1)) → (12 * a1_z ≤ i2_744_z) → (i2_744_z ≤ 12 * a1_z + 12) → (GR T_745 x) → (ZM S T_745 x) → (PotW T_745 x a1_z (rusF Ev (seaF Ev (wtk A (qtk A + 1))) (Rl.take (i2_744_z - 12 * a1_z).toNat))) → (i2_744_z - 12 * a1_z ≤ (Rl.length : Int)) → (PwX S T_745 x a1_z) → (pI T_745 1201 x = v_1) → (lv_has ls 6 [(2, .int (i2_744)), (0, .ref x), (1, .int (a1))]) → W p l e ({ frames := 8, cells := 0, slots := 0, locals := 384 }) s m [.ref x, .int (a1)].toArray below meth c H locs 0 0 QQ (F0 m 101 ls []) := by
        intro n
        induction n using Nat.strongRecOn with
        | ind n ih_L_743 =>
        intro T_745 H locs ls i2_744 i2_744_z hn hw hz_i2_744 hr_i2_744 ha_x_L_746 hO_T_745 mk_747 iv_748 iv_749 iv_750 iv_751 iv_752 iv_753 iv_754 ik_755 hl
        have rg_756 : (-2147483648) ≤ i2_744_z ∧ i2_744_z ≤ 2147483647 := by rw [← hz_i2_744]; exact ⟨z_lo _, z_hi _⟩
        have pz_757 : (pI T_745 1201 x).toInt = v_1.toInt := (congrArg Int32.toInt ik_755).trans rfl
        have hpw_758 := iv_752
        obtain ⟨pw_759, pw_760, pw_761, pw_762, pw_763, pw_764, pw_765, pw_766, pw_767, pw_768⟩ := hpw_758
        obtain ⟨v_769, ev_769⟩ : ∃ v, pI T_745 1238 x = v := ⟨_, rfl⟩
        have rg_770 := gI_12_1238 hO_T_745.1 ha_x_L_746; rw [ev_769] at rg_770
        have pz_771 : (pI T_745 1238 x).toInt = v_769.toInt := by rw [ev_769]
        have pz_772 : (pI T_745 1238 x).toInt = v_769.toInt := (congrArg Int32.toInt ev_769).trans rfl
        refine lv_iload_n X.1 X.2.1 dX12_tick_101 rfl (lv_at hl 0 rfl) ?_
        refine lv_bipush (v := 12) X.1 X.2.1 dX12_tick_102 (by decide) ?_
        refine lv_iload_n X.1 X.2.1 dX12_tick_104 rfl (lv_at hl 2 rfl) ?_
        refine lv_imul X.1 X.2.1 dX12_tick_105 ?_
        refine lv_topi (fun v_773 ev_773 => ?_)
        have z_774 : v_773.toInt = 12 * a1_z := z_mul ev_773 ti_12 hz_a1 (by omega) (by omega)
        refine lv_aload_n X.1 X.2.1 dX12_tick_106 rfl (lv_at hl 1 rfl) ?_
        obtain ⟨q_775, h_776, h_777, h_778⟩ := gQ_12_1220 hO_T_745.1 ha_x_L_746
        refine r_getR (g := 1220) X hw ha_x_L_746 rfl 20 h_776 (by decide) rfl inn_X12_tick_12 (by decide) (X.2.2.2.1 (.fieldLink RX12 61 "SilkMillModel" "rules" "[I") (by decide +kernel)) rfl (gv_1220 _ _) dX12_tick_107 ?_
        refine lv_iload_n X.1 X.2.1 dX12_tick_110 rfl (lv_at hl 2 rfl) ?_
        refine r_iald X hw h_777 rfl (by rw [h_778]; exact z_ix hz_a1 (by omega) (by omega)) dX12_tick_111 ?_
        refine lv_topi (fun v_779 ev_779 => ?_)
        have z_780 := gE_614 hO_T_745.1 h_777 (Int32.toNatClampNeg (a1)); rw [← ev_779] at z_780
        have ev_779 := ev_779.symm
        have rn_781 : RuR T_745 x a1_z Rl := RuR_fr hG ha_x hO_T_745.fr (by decide +kernel) hp_6
        have zf_782 : zA T_745 x 1220 (a1_z).toNat = v_779.toInt := (zA_of h_776 hz_a1 (by omega) ev_779)
        have rl_783 := rn_781.1
        refine lv_iadd X.1 X.2.1 dX12_tick_112 ?_
        refine lv_topi (fun v_784 ev_784 => ?_)
        have z_785 : v_784.toInt = (12 * a1_z) + v_779.toInt := z_add ev_784 z_774 rfl (by omega) (by omega)
        refine lv_icmp_ge (tgt := 137) X.1 X.2.1 dX12_tick_113 (by decide) (fun c_786 => ?_) (fun c_786 => ?_)
        · have z_b_787 := trivial
          have k_788 : i2_744_z ≥ ((12 * a1_z) + v_779.toInt) := z_le z_785 hz_i2_744 c_786
          have pz_789 : (pI T_745 1238 x).toInt = v_769.toInt := (congrArg Int32.toInt ev_769).trans rfl
          exact L_61 _ _ _ _  hw ha_x_L_746 hO_T_745 mk_747 iv_750 iv_751 (PotW_of (show ticB Ev Rl A = (rusF Ev (seaF Ev (wtk A (qtk A + 1))) (Rl.take (i2_744_z - 12 * a1_z).toNat)) from ((if_pos (i32_eq (congrArg Int32.toInt us_734.symm) t0 (by have e : (v_731 : Int32).toInt = v_731.toInt := rfl; omega))).trans (show rusF Ev (seaF Ev (wtk A (qtk A + 1))) Rl = (rusF Ev (seaF Ev (wtk A (qtk A + 1))) (Rl.take (i2_744_z - 12 * a1_z).toNat)) by rw [show (i2_744_z - 12 * a1_z).toNat = Rl.length by omega, List.take_length]))) pw_759 pw_760 pw_761 pw_762 pw_763 pw_764 pw_765 pw_766 (show (pI T_745 1238 x).toInt = (((qsk (rusF Ev (seaF Ev (wtk A (qtk A + 1))) (Rl.take (i2_744_z - 12 * a1_z).toNat)))).length : Int) by omega) pw_768) iv_754 ik_755 (lv_sub hl [1, 2] rfl)
        · have z_b_790 := trivial
          have k_791 : i2_744_z < ((12 * a1_z) + v_779.toInt) := z_nle z_785 hz_i2_744 c_786
          obtain ⟨ru_792, ru_793⟩ : ∃ r, Rl[(i2_744_z - 12 * a1_z).toNat]? = some r := ⟨_, List.getElem?_eq_getElem (by omega)⟩
          have ru_794 : RuX T_745 x (i2_744_z) ru_792 := by have h := rn_781.2 _ _ ru_793; rw [show 12 * a1_z + (((i2_744_z - 12 * a1_z).toNat : Nat) : Int) = i2_744_z by omega] at h; exact h
          refine lv_aload_n X.1 X.2.1 dX12_tick_116 rfl (lv_at hl 1 rfl) ?_
          refine lv_iload_n X.1 X.2.1 dX12_tick_117 rfl (lv_at hl 2 rfl) ?_
          refine lv_iload_n X.1 X.2.1 dX12_tick_118 rfl (lv_at hl 0 rfl) ?_
          have pz_795 : (pI T_745 1238 x).toInt = v_769.toInt := (congrArg Int32.toInt ev_769).trans rfl
          have en_796 : EnR T_745 x a1_z Ev := EnR_fr hG ha_x hO_T_745.fr (by decide +kernel) hp_5
          refine k_i (rm := { frames := 6, cells := 0, slots := 0, locals := 288 }) (av := [.ref x, .int (a1), .int (i2_744)]) X hw (va_runV (As := [.int (a1), .int (i2_744)]) (rest := []) (cfix X) (k_X12_holds5 l G cy κ T_745 _ x (a1) (a1_z) (i2_744) (i2_744_z) (rusF Ev (seaF Ev (wtk A (qtk A + 1))) (Rl.take (i2_744_z - 12 * a1_z).toNat)) Ev ru_792 hO_T_745.1 ha_x_L_746 hz_a1 hz_i2_744 (by omega) (by omega) (by omega) (by omega) mk_747 (PotW_of (rfl : (rusF Ev (seaF Ev (wtk A (qtk A + 1))) (Rl.take (i2_744_z - 12 * a1_z).toNat)) = (rusF Ev (seaF Ev (wtk A (qtk A + 1))) (Rl.take (i2_744_z - 12 * a1_z).toNat))) pw_759 pw_760 pw_761 pw_762 pw_763 pw_764 pw_765 pw_766 (show (pI T_745 1238 x).toInt = (((qsk (rusF Ev (seaF Ev (wtk A (qtk A + 1))) (Rl.take (i2_744_z - 12 * a1_z).toNat)))).length : Int) by omega) pw_768) en_796 ru_794) (cwV 2 X.2.2.2.1 gX12_tick_X12_holds rfl rfl rfl (by decide +kernel) ⟨Nat.le_of_ble_eq_true rfl, Nat.le_of_ble_eq_true rfl⟩) (pre_V X hw _ ha_x_L_746 rfl (by decide) rfl) rfl rfl hl.1 rfl (lv_room (Nat.le_of_ble_eq_true rfl)) dX12_tick_119 ⟨Nat.le_of_ble_eq_true rfl, Nat.le_of_ble_eq_true rfl⟩) 0 0 (Nat.le_of_ble_eq_true rfl) (Nat.le_of_ble_eq_true rfl) (fun rr_797 S_798 H locs hp hw hfr hnw => ?_)
          obtain ⟨e2, hp⟩ := hp
          subst e2
          rcases hp with ⟨f_799, er_800⟩ | ⟨f_799, er_800⟩ <;> subst er_800
          · have z_b_801 := trivial
            refine lv_if_eq (tgt := 131) X.1 X.2.1 dX12_tick_122 (by decide) (fun c_802 => absurd c_802 (by decide)) (fun c_802 => ?_)
            refine lv_aload_n X.1 X.2.1 dX12_tick_125 rfl (lv_at hl 1 rfl) ?_
            refine lv_iload_n X.1 X.2.1 dX12_tick_126 rfl (lv_at hl 2 rfl) ?_
            refine lv_iload_n X.1 X.2.1 dX12_tick_127 rfl (lv_at hl 0 rfl) ?_
            have pz_803 : (pI T_745 1238 x).toInt = v_769.toInt := (congrArg Int32.toInt ev_769).trans rfl
            have en_804 : EnR T_745 x a1_z Ev := EnR_fr hG ha_x hO_T_745.fr (by decide +kernel) hp_5
            refine k_v (rm := { frames := 7, cells := 0, slots := 0, locals := 336 }) (av := [.ref x, .int (a1), .int (i2_744)]) X hw (va_runV (As := [.int (a1), .int (i2_744)]) (rest := []) (cfix X) (k_X12_acts5 l G cy κ T_745 _ x (a1) (a1_z) (i2_744) (i2_744_z) (rusF Ev (seaF Ev (wtk A (qtk A + 1))) (Rl.take (i2_744_z - 12 * a1_z).toNat)) Ev ru_792 hO_T_745.1 ha_x_L_746 hz_a1 hz_i2_744 (by omega) (by omega) (by omega) (by omega) mk_747 (PotW_of (rfl : (rusF Ev (seaF Ev (wtk A (qtk A + 1))) (Rl.take (i2_744_z - 12 * a1_z).toNat)) = (rusF Ev (seaF Ev (wtk A (qtk A + 1))) (Rl.take (i2_744_z - 12 * a1_z).toNat))) pw_759 pw_760 pw_761 pw_762 pw_763 pw_764 pw_765 pw_766 (show (pI T_745 1238 x).toInt = (((qsk (rusF Ev (seaF Ev (wtk A (qtk A + 1))) (Rl.take (i2_744_z - 12 * a1_z).toNat)))).length : Int) by omega) pw_768) en_804 ru_794) (cwV 2 X.2.2.2.1 gX12_tick_X12_acts rfl rfl rfl (by decide +kernel) ⟨Nat.le_of_ble_eq_true rfl, Nat.le_of_ble_eq_true rfl⟩) (pre_V X hw _ ha_x_L_746 rfl (by decide) rfl) rfl rfl hl.1 rfl (lv_room (Nat.le_of_ble_eq_true rfl)) dX12_tick_128 ⟨Nat.le_of_ble_eq_true rfl, Nat.le_of_ble_eq_true rfl⟩) 0 0 (Nat.le_of_ble_eq_true rfl) (Nat.le_of_ble_eq_true rfl) (fun S_806 H locs hp hw hfr hnw => ?_)
            obtain ⟨hk_807, hp⟩ := hp
            have hO_808 : Ok MTK S S_806 := hO_T_745.call hk_807 (by decide +kernel)
            obtain ⟨mi_809, gr_810, zm_811, pw_812, px_813⟩ := hp
            have gr_814 : GR S_806 x := gr_810 iv_750
            have hpw_815 := pw_812
            obtain ⟨pw_816, pw_817, pw_818, pw_819, pw_820, pw_821, pw_822, pw_823, pw_824, pw_825⟩ := hpw_815
            obtain ⟨v_827, ev_827⟩ : ∃ v, pI S_806 1238 x = v := ⟨_, rfl⟩
            have t_829 : At S_806 x 12 := hk_807.fr.at ha_x_L_746
            have rg_828 := gI_12_1238 hO_808.1 t_829; rw [ev_827] at rg_828
            have pz_830 : (pI S_806 1238 x).toInt = v_827.toInt := by rw [ev_827]
            have pz_831 : (pI S_806 1238 x).toInt = v_827.toInt := (congrArg Int32.toInt ev_827).trans rfl
            obtain ⟨x_832, ex_832⟩ : ∃ y : Int32, y = i2_744 + 1 := ⟨_, rfl⟩
            have z_833 : x_832.toInt = i2_744_z + 1 := z_add ex_832 hz_i2_744 ti_1 (by omega) (by omega)
            refine lv_iinc (v := x_832) (lv' := [(2, .int (x_832)), (0, .ref x), (1, .int (a1))]) X.1 X.2.1 dX12_tick_131 hl (k := 0) rfl (by rw [ex_832]; rfl) (by decide) rfl (fun ls hl => ?_)
            refine lv_goto (tgt := 101) X.1 X.2.1 dX12_tick_134 (by decide) ?_
            have zm_834 : ZM S S_806 x := ⟨ZN_tr iv_751.1 zm_811.1, ZQ_tr iv_751.2 zm_811.2 (lenZ_fr hO_T_745.fr ha_x (ex3 (gQ_12_1203 hG ha_x)) (ex3 (gQ_12_1205 hG ha_x)) (by decide +kernel) (by decide +kernel) (by decide +kernel) (by decide +kernel))⟩
            have pz_835 : (pI S_806 1238 x).toInt = v_827.toInt := (congrArg Int32.toInt ev_827).trans rfl
            have px_836 : PwX S S_806 x a1_z := PwX_tr iv_754 px_813
            have t_837 : pI S_806 1201 x = v_1 := hk_807.fr.I' (by decide +kernel) ha_x_L_746 ik_755
            exact ih_L_743 _ (by omega) _ _ _ _ (x_832) (x_832.toInt) rfl hw rfl (by omega) t_829 hO_808 mi_809 (by omega) (by omega) gr_814 zm_834 (PotW_of (show rusF Ev (seaF Ev (wtk A (qtk A + 1))) (Rl.take (x_832.toInt - 12 * a1_z).toNat) = (actF Ev ru_792.1 ru_792.2.1 (rusF Ev (seaF Ev (wtk A (qtk A + 1))) (Rl.take (i2_744_z - 12 * a1_z).toNat))) by rw [show (x_832.toInt - 12 * a1_z).toNat = (i2_744_z - 12 * a1_z).toNat + 1 by omega, rusF_s ru_793, ruF_y f_799]) pw_816 pw_817 pw_818 pw_819 pw_820 pw_821 pw_822 pw_823 (show (pI S_806 1238 x).toInt = (((qsk (actF Ev ru_792.1 ru_792.2.1 (rusF Ev (seaF Ev (wtk A (qtk A + 1))) (Rl.take (i2_744_z - 12 * a1_z).toNat))))).length : Int) by omega) pw_825) (by omega) px_836 t_837 (lv_sub hl [0, 1, 2] rfl)
          · have z_b_838 := trivial
            refine lv_if_eq (tgt := 131) X.1 X.2.1 dX12_tick_122 (by decide) (fun c_839 => ?_) (fun c_839 => absurd c_839 (by decide))
            obtain ⟨x_840, ex_840⟩ : ∃ y : Int32, y = i2_744 + 1 := ⟨_, rfl⟩
            have z_841 : x_840.toInt = i2_744_z + 1 := z_add ex_840 hz_i2_744 ti_1 (by omega) (by omega)
            refine lv_iinc (v := x_840) (lv' := [(2, .int (x_840)), (0, .ref x), (1, .int (a1))]) X.1 X.2.1 dX12_tick_131 hl (k := 0) rfl (by rw [ex_840]; rfl) (by decide) rfl (fun ls hl => ?_)
            refine lv_goto (tgt := 101) X.1 X.2.1 dX12_tick_134 (by decide) ?_
            have pz_842 : (pI T_745 1238 x).toInt = v_769.toInt := (congrArg Int32.toInt ev_769).trans rfl
            exact ih_L_743 _ (by omega) _ _ _ _ (x_840) (x_840.toInt) rfl hw rfl (by omega) ha_x_L_746 hO_T_745 mk_747 (by omega) (by omega) iv_750 iv_751 (PotW_of (show rusF Ev (seaF Ev (wtk A (qtk A + 1))) (Rl.take (x_840.toInt - 12 * a1_z).toNat) = (rusF Ev (seaF Ev (wtk A (qtk A + 1))) (Rl.take (i2_744_z - 12 * a1_z).toNat)) by rw [show (x_840.toInt - 12 * a1_z).toNat = (i2_744_z - 12 * a1_z).toNat + 1 by omega, rusF_s ru_793, ruF_n f_799]) pw_759 pw_760 pw_761 pw_762 pw_763 pw_764 pw_765 pw_766 (show (pI T_745 1238 x).toInt = (((qsk (rusF Ev (seaF Ev (wtk A (qtk A + 1))) (Rl.take (i2_744_z - 12 * a1_z).toNat)))).length : Int) by omega) pw_768) (by omega) iv_754 ik_755 (lv_sub hl [0, 1, 2] rfl)
      have pz_843 : (pI T_36 1238 x).toInt = v_57.toInt := (congrArg Int32.toInt ev_57).trans rfl
      exact L_743 _ _ _ _ _ (v_741) ((12 * a1_z)) rfl hw z_742 (by omega) ha_x_L_37 hO_T_36 mk_38 (by omega) (by omega) iv_39 iv_40 (PotW_of (show rusF Ev (seaF Ev (wtk A (qtk A + 1))) (Rl.take ((12 * a1_z) - 12 * a1_z).toNat) = (seaF Ev (wtk A (qtk A + 1))) by rw [show ((12 * a1_z) - 12 * a1_z).toNat = 0 by omega]; rfl) pw_47 pw_48 pw_49 pw_50 pw_51 pw_52 pw_53 pw_54 (show (pI T_36 1238 x).toInt = (((qsk (seaF Ev (wtk A (qtk A + 1))))).length : Int) by omega) pw_56) (by omega) iv_42 ik_44 (lv_sub hl [0, 1, 2] rfl)
  refine lv_aload_n X.1 X.2.1 dX12_tick_10 rfl (lv_at hl 0 rfl) ?_
  have t_844 : At S_29 x 12 := tAt_sA eS_29 ha_x
  obtain ⟨q_845, h_846, h_847, h_848⟩ := gQ_12_1214 hO_30.1 t_844
  refine r_getR (g := 1214) X hw t_844 rfl 14 h_846 (by decide) rfl inn_X12_tick_12 (by decide) (X.2.2.2.1 (.fieldLink RX12 43 "SilkMillModel" "search" "[I") (by decide +kernel)) rfl (gv_1214 _ _) dX12_tick_11 ?_
  refine lv_iload_n X.1 X.2.1 dX12_tick_14 rfl (lv_at hl 1 rfl) ?_
  refine lv_aload_n X.1 X.2.1 dX12_tick_15 rfl (lv_at hl 0 rfl) ?_
  refine lv_iload_n X.1 X.2.1 dX12_tick_16 rfl (lv_at hl 1 rfl) ?_
  refine lv_iconst (v := 2) X.1 X.2.1 dX12_tick_17 (by decide) ?_
  have rR_849 : RowR S_29 x (3 * a1_z + 2).toNat (ql A) := RowR_eq pw_7 (zA_sAn eS_29 (ex3 (gQ_12_1218 hO.1 ha_x)) h_21 rfl) (zA_sAn eS_29 (ex3 (gQ_12_1219 hO.1 ha_x)) h_21 rfl)
  have ln_850 : zA S_29 x 1219 (3 * a1_z + 2).toNat = (((ql A)).length : Int) := rR_849.1
  refine k_i (rm := { frames := 1, cells := 0, slots := 0, locals := 48 }) (av := [.ref x, .int (a1), .int 2]) X hw (va_runV (As := [.int (a1), .int 2]) (rest := [.int (a1), .ref q_845]) (cfix X) (k_X12_many2 l G cy κ S_29 _ x (a1) (a1_z) (2) (2) hO_30.1 t_844 hz_a1 ti_2 (by first | assumption | omega) (by first | assumption | omega) (by first | assumption | omega) (by first | assumption | omega)) (cwV 2 X.2.2.2.1 gX12_tick_X12_many rfl rfl rfl (by decide +kernel) ⟨Nat.le_of_ble_eq_true rfl, Nat.le_of_ble_eq_true rfl⟩) (pre_V X hw _ t_844 rfl (by decide) rfl) rfl rfl hl.1 rfl (lv_room (Nat.le_of_ble_eq_true rfl)) dX12_tick_18 ⟨Nat.le_of_ble_eq_true rfl, Nat.le_of_ble_eq_true rfl⟩) 0 0 (Nat.le_of_ble_eq_true rfl) (Nat.le_of_ble_eq_true rfl) (fun rr_851 S_852 H locs hp hw hfr hnw => ?_)
  obtain ⟨e2, hp⟩ := hp
  subst e2
  obtain ⟨f_853, f_854, f_855⟩ := hp
  refine lv_if_ne (tgt := 28) X.1 X.2.1 dX12_tick_21 (by decide) (fun c_856 => ?_) (fun c_856 => ?_)
  · have z_b_857 := trivial
    have k_858 : rr_851.toInt ≠ 0 := z_ne rfl ti_0 c_856
    refine lv_aload_n X.1 X.2.1 dX12_tick_28 rfl (lv_at hl 0 rfl) ?_
    refine r_getR (g := 1214) X hw t_844 rfl 14 h_846 (by decide) rfl inn_X12_tick_12 (by decide) (X.2.2.2.1 (.fieldLink RX12 43 "SilkMillModel" "search" "[I") (by decide +kernel)) rfl (gv_1214 _ _) dX12_tick_29 ?_
    refine lv_iload_n X.1 X.2.1 dX12_tick_32 rfl (lv_at hl 1 rfl) ?_
    refine r_iald X hw h_847 rfl (by rw [h_848]; exact z_ix hz_a1 (by omega) (by omega)) dX12_tick_33 ?_
    refine lv_topi (fun v_859 ev_859 => ?_)
    have rg_860 := And.intro (z_lo v_859) (z_hi v_859)
    have ev_859 := ev_859.symm
    have zR_861 : zA S_29 x 1214 a1_z.toNat = ((qse A)).toInt := (congrFun (zA_sAn eS_29 (ex3 (gQ_12_1214 hO.1 ha_x)) h_21 rfl) _).trans pw_9
    have zf_862 : zA S_29 x 1214 (a1_z).toNat = v_859.toInt := (zA_of h_846 hz_a1 (by omega) ev_859)
    have us_863 : v_859 = (qse A) := Int32.toInt_inj.mp (rfl.trans (zf_862.symm.trans zR_861))
    have iq_864 : 0 ≤ v_859.toInt ∧ v_859.toInt < (efind Ev).toInt := by have h := hp_7; have h2 := congrArg Int32.toInt us_863; exact ⟨by have := h.2.1; have e : (v_859 : Int32).toInt = v_859.toInt := rfl; omega, by have := h.2.2; have e : (v_859 : Int32).toInt = v_859.toInt := rfl; omega⟩
    have zh_865 := z_hi (efind Ev)
    refine lv_iconst (v := 1) X.1 X.2.1 dX12_tick_34 (by decide) ?_
    refine lv_iadd X.1 X.2.1 dX12_tick_35 ?_
    refine lv_topi (fun v_866 ev_866 => ?_)
    have z_867 : v_866.toInt = v_859.toInt + 1 := z_add ev_866 rfl ti_1 (by omega) (by omega)
    refine r_iast X hw h_847 rfl (by rw [h_848]; exact z_ix hz_a1 (by omega) (by omega)) dX12_tick_36 (fun H locs hw => ?_)
    obtain ⟨S_868, eS_868⟩ : ∃ T, T = sA S_29 q_845 (upd (pA S_29 q_845) (Int32.toNatClampNeg (a1)) (v_866)) := ⟨_, rfl⟩
    rw [← eS_868] at hw
    have hO_869 : Ok MTK S S_868 := hO_30.sA eS_868 h_847 (by decide +kernel) (uA_494 hO_30.1 h_847)
    have h_870 : pA S_868 q_845 (Int32.toNatClampNeg (a1)) = v_866 := tA_sAs eS_868
    have t_871 : pR S_868 1214 x = some q_845 := tR_sA eS_868 h_846
    have t_873 : pR S_29 1214 x = some q_845 := by have h := t_871; rw [eS_868, pR_sA] at h; exact h
    have zs_872 : ∀ j, zA S_868 x 1214 j = if j = (a1_z).toNat then (v_859.toInt + 1) else zA S_29 x 1214 j := by have h := zA_sAs eS_868 t_873 z_867; rw [z_nc hz_a1 (by omega)] at h; exact h
    refine lv_aload_n X.1 X.2.1 dX12_tick_37 rfl (lv_at hl 0 rfl) ?_
    refine lv_iload_n X.1 X.2.1 dX12_tick_38 rfl (lv_at hl 1 rfl) ?_
    refine lv_iconst (v := 2) X.1 X.2.1 dX12_tick_39 (by decide) ?_
    have rR_874 : RowR S_868 x (3 * a1_z + 2).toNat (ql A) := RowR_eq rR_849 (zA_sAn eS_868 (ex3 (gQ_12_1218 hO_30.1 t_844)) h_847 rfl) (zA_sAn eS_868 (ex3 (gQ_12_1219 hO_30.1 t_844)) h_847 rfl)
    have ln_875 : zA S_868 x 1219 (3 * a1_z + 2).toNat = (((ql A)).length : Int) := rR_874.1
    have t_876 : At S_868 x 12 := tAt_sA eS_868 t_844
    refine k_i (rm := { frames := 1, cells := 0, slots := 0, locals := 48 }) (av := [.ref x, .int (a1), .int 2]) X hw (va_runV (As := [.int (a1), .int 2]) (rest := []) (cfix X) (k_X12_many2 l G cy κ S_868 _ x (a1) (a1_z) (2) (2) hO_869.1 t_876 hz_a1 ti_2 (by first | assumption | omega) (by first | assumption | omega) (by first | assumption | omega) (by first | assumption | omega)) (cwV 2 X.2.2.2.1 gX12_tick_X12_many rfl rfl rfl (by decide +kernel) ⟨Nat.le_of_ble_eq_true rfl, Nat.le_of_ble_eq_true rfl⟩) (pre_V X hw _ t_876 rfl (by decide) rfl) rfl rfl hl.1 rfl (lv_room (Nat.le_of_ble_eq_true rfl)) dX12_tick_40 ⟨Nat.le_of_ble_eq_true rfl, Nat.le_of_ble_eq_true rfl⟩) 0 0 (Nat.le_of_ble_eq_true rfl) (Nat.le_of_ble_eq_true rfl) (fun rr_877 S_878 H locs hp hw hfr hnw => ?_)
    obtain ⟨e2, hp⟩ := hp
    subst e2
    obtain ⟨f_879, f_880, f_881⟩ := hp
    refine lv_if_le (tgt := 87) X.1 X.2.1 dX12_tick_43 (by decide) (fun c_882 => ?_) (fun c_882 => ?_)
    · exfalso
      have k_883 : rr_877.toInt ≤ 0 := z_le rfl ti_0 c_882
      omega
    have k_884 : rr_877.toInt > 0 := z_nle rfl ti_0 c_882
    refine lv_aload_n X.1 X.2.1 dX12_tick_46 rfl (lv_at hl 0 rfl) ?_
    refine r_getR (g := 1214) X hw t_876 rfl 14 t_871 (by decide) rfl inn_X12_tick_12 (by decide) (X.2.2.2.1 (.fieldLink RX12 43 "SilkMillModel" "search" "[I") (by decide +kernel)) rfl (gv_1214 _ _) dX12_tick_47 ?_
    refine lv_iload_n X.1 X.2.1 dX12_tick_50 rfl (lv_at hl 1 rfl) ?_
    have t_885 : At S_868 q_845 494 := tAt_sA eS_868 h_847
    have t_886 : pN S_868 q_845 = 4 := tN_sA eS_868 h_848
    clear h_848
    refine r_iald X hw t_885 rfl (by rw [t_886]; exact z_ix hz_a1 (by omega) (by omega)) dX12_tick_51 ?_
    rw [h_870]
    refine lv_aload_n X.1 X.2.1 dX12_tick_52 rfl (lv_at hl 0 rfl) ?_
    obtain ⟨q_887, h_888, h_889, h_890⟩ := gQ_12_1213 hO_869.1 t_876
    refine r_getR (g := 1213) X hw t_876 rfl 13 h_888 (by decide) rfl inn_X12_tick_12 (by decide) (X.2.2.2.1 (.fieldLink RX12 40 "SilkMillModel" "find" "[I") (by decide +kernel)) rfl (gv_1213 _ _) dX12_tick_53 ?_
    refine lv_iload_n X.1 X.2.1 dX12_tick_56 rfl (lv_at hl 1 rfl) ?_
    refine r_iald X hw h_889 rfl (by rw [h_890]; exact z_ix hz_a1 (by omega) (by omega)) dX12_tick_57 ?_
    refine lv_topi (fun v_891 ev_891 => ?_)
    have rg_892 := And.intro (z_lo v_891) (z_hi v_891)
    have ev_891 := ev_891.symm
    have zf_893 : zA S_868 x 1213 (a1_z).toNat = v_891.toInt := (zA_of h_888 hz_a1 (by omega) ev_891)
    have en_894 : EnR S_868 x a1_z Ev := EnR_fr hG ha_x hO_869.fr (by decide +kernel) hp_5
    have fd_895 : (efind Ev).toInt = v_891.toInt := by rw [en_894.2.2.2.2, ← zA_eq, show a1_z.toNat = (a1_z).toNat by omega]; exact zf_893
    refine lv_icmp_ne (tgt := 87) X.1 X.2.1 dX12_tick_58 (by decide) (fun c_896 => ?_) (fun c_896 => ?_)
    · have z_b_897 := trivial
      have k_898 : (v_859.toInt + 1) ≠ v_891.toInt := z_ne z_867 rfl c_896
      have mi_899 : MIe S_29 x (-1) := MIe_sA hp_2 hO.1 ha_x h_21 eS_29 (by decide +kernel)
      have mi_900 : MIe S_868 x (-1) := MIe_sA mi_899 hO_30.1 t_844 h_847 eS_868 (by decide +kernel)
      have zc_901 : zA S_29 x 1237 = zA S x 1237 := zA_sAn eS_29 (ex3 (gQ_12_1237 hO.1 ha_x)) h_21 rfl
      have zc_902 : zA S_868 x 1237 = zA S x 1237 := (zA_sAn eS_868 (ex3 (gQ_12_1237 hO_30.1 t_844)) h_847 rfl).trans zc_901
      have zm_903 : ZM S S_29 x := ⟨ZN_eq hzm0.1 (zA_sAn eS_29 (ex3 (gQ_12_1207 hO.1 ha_x)) h_21 rfl), ZQ_eq hzm0.2 (zA_sAn eS_29 (ex3 (gQ_12_1207 hO.1 ha_x)) h_21 rfl) (zA_sAn eS_29 (ex3 (gQ_12_1208 hO.1 ha_x)) h_21 rfl) (zA_sAn eS_29 (ex3 (gQ_12_1209 hO.1 ha_x)) h_21 rfl)⟩
      have zm_904 : ZM S S_868 x := ⟨ZN_eq zm_903.1 (zA_sAn eS_868 (ex3 (gQ_12_1207 hO_30.1 t_844)) h_847 rfl), ZQ_eq zm_903.2 (zA_sAn eS_868 (ex3 (gQ_12_1207 hO_30.1 t_844)) h_847 rfl) (zA_sAn eS_868 (ex3 (gQ_12_1208 hO_30.1 t_844)) h_847 rfl) (zA_sAn eS_868 (ex3 (gQ_12_1209 hO_30.1 t_844)) h_847 rfl)⟩
      have rR_905 : RowR S_29 x (3 * a1_z + 0).toNat (qb A) := RowR_eq pw_5 (zA_sAn eS_29 (ex3 (gQ_12_1218 hO.1 ha_x)) h_21 rfl) (zA_sAn eS_29 (ex3 (gQ_12_1219 hO.1 ha_x)) h_21 rfl)
      have rR_906 : RowR S_868 x (3 * a1_z + 0).toNat (qb A) := RowR_eq rR_905 (zA_sAn eS_868 (ex3 (gQ_12_1218 hO_30.1 t_844)) h_847 rfl) (zA_sAn eS_868 (ex3 (gQ_12_1219 hO_30.1 t_844)) h_847 rfl)
      have rR_907 : RowR S_29 x (3 * a1_z + 1).toNat (qe A) := RowR_eq pw_6 (zA_sAn eS_29 (ex3 (gQ_12_1218 hO.1 ha_x)) h_21 rfl) (zA_sAn eS_29 (ex3 (gQ_12_1219 hO.1 ha_x)) h_21 rfl)
      have rR_908 : RowR S_868 x (3 * a1_z + 1).toNat (qe A) := RowR_eq rR_907 (zA_sAn eS_868 (ex3 (gQ_12_1218 hO_30.1 t_844)) h_847 rfl) (zA_sAn eS_868 (ex3 (gQ_12_1219 hO_30.1 t_844)) h_847 rfl)
      have zR_909 : zA S_29 x 1215 a1_z.toNat = ((qst A)).toInt := (congrFun (zA_sAn eS_29 (ex3 (gQ_12_1215 hO.1 ha_x)) h_21 rfl) _).trans pw_8
      have zR_910 : zA S_868 x 1215 a1_z.toNat = ((qst A)).toInt := (congrFun (zA_sAn eS_868 (ex3 (gQ_12_1215 hO_30.1 t_844)) h_847 rfl) _).trans zR_909
      have zR_911 : zA S_868 x 1214 a1_z.toNat = ((qse A + 1)).toInt := (by rw [zs_872, if_pos (by omega)]; exact z_867.symm.trans (congrArg Int32.toInt (ev_866.trans (by rw [us_863]))))
      have zR_912 : zA S_29 x 1216 a1_z.toNat = ((qdr A)).toInt := (congrFun (zA_sAn eS_29 (ex3 (gQ_12_1216 hO.1 ha_x)) h_21 rfl) _).trans pw_11
      have zR_913 : zA S_868 x 1216 a1_z.toNat = ((qdr A)).toInt := (congrFun (zA_sAn eS_868 (ex3 (gQ_12_1216 hO_30.1 t_844)) h_847 rfl) _).trans zR_912
      have zR_914 : zA S_29 x 1217 a1_z.toNat = ((qtk A + 1)).toInt := (by rw [zs_33, if_pos (by omega)]; exact (congrArg Int32.toInt (ev_27.trans (by rw [us_26]))))
      have zR_915 : zA S_868 x 1217 a1_z.toNat = ((qtk A + 1)).toInt := (congrFun (zA_sAn eS_868 (ex3 (gQ_12_1217 hO_30.1 t_844)) h_847 rfl) _).trans zR_914
      have gR_916 : zA S_29 x 1237 a1_z.toNat = (((qg A)).length : Int) := (congrFun (zA_sAn eS_29 (ex3 (gQ_12_1237 hO.1 ha_x)) h_21 rfl) _).trans pw_10
      have gR_917 : zA S_868 x 1237 a1_z.toNat = (((qg A)).length : Int) := (congrFun (zA_sAn eS_868 (ex3 (gQ_12_1237 hO_30.1 t_844)) h_847 rfl) _).trans gR_916
      have pz_918 : PlZ S_29 x (qpl A) (qsd A) := PlZ_eq pw_14 (zA_sAn eS_29 (ex3 (gQ_12_1208 hO.1 ha_x)) h_21 rfl) (zA_sAn eS_29 (ex3 (gQ_12_1207 hO.1 ha_x)) h_21 rfl)
      have pz_919 : PlZ S_868 x (qpl A) (qsd A) := PlZ_eq pz_918 (zA_sAn eS_868 (ex3 (gQ_12_1208 hO_30.1 t_844)) h_847 rfl) (zA_sAn eS_868 (ex3 (gQ_12_1207 hO_30.1 t_844)) h_847 rfl)
      have t_920 : pI S_29 1238 x = v_15 := tI_sA eS_29 ev_15
      have t_921 : pI S_868 1238 x = v_15 := tI_sA eS_868 t_920
      have pz_922 : (pI S_868 1238 x).toInt = v_15.toInt := (congrArg Int32.toInt t_921).trans rfl
      have px_923 : PwX S S_29 x a1_z := PwX_z (PwX_rf S x a1_z) (zA_sAn eS_29 (ex3 (gQ_12_1218 hO.1 ha_x)) h_21 rfl) (zA_sAn eS_29 (ex3 (gQ_12_1219 hO.1 ha_x)) h_21 rfl) zs_33 (by omega) (pw4 (fun _ => zA_sAn eS_29 (ex3 (gQ_12_1214 hO.1 ha_x)) h_21 rfl) (fun _ => zA_sAn eS_29 (ex3 (gQ_12_1215 hO.1 ha_x)) h_21 rfl) (fun _ => zA_sAn eS_29 (ex3 (gQ_12_1216 hO.1 ha_x)) h_21 rfl) (fun h => absurd rfl h) (fun _ => zA_sAn eS_29 (ex3 (gQ_12_1237 hO.1 ha_x)) h_21 rfl))
      have px_924 : PwX S S_868 x a1_z := PwX_z px_923 (zA_sAn eS_868 (ex3 (gQ_12_1218 hO_30.1 t_844)) h_847 rfl) (zA_sAn eS_868 (ex3 (gQ_12_1219 hO_30.1 t_844)) h_847 rfl) zs_872 (by omega) (pw4 (fun h => absurd rfl h) (fun _ => zA_sAn eS_868 (ex3 (gQ_12_1215 hO_30.1 t_844)) h_847 rfl) (fun _ => zA_sAn eS_868 (ex3 (gQ_12_1216 hO_30.1 t_844)) h_847 rfl) (fun _ => zA_sAn eS_868 (ex3 (gQ_12_1217 hO_30.1 t_844)) h_847 rfl) (fun _ => zA_sAn eS_868 (ex3 (gQ_12_1237 hO_30.1 t_844)) h_847 rfl))
      have t_925 : pI S_868 1201 x = v_1 := tI_sA eS_868 t_43
      exact L_35 _ _ _ _  hw t_876 hO_869 mi_900 (GR_eq zc_902 hp_3) zm_904 (PotW_of (seaF_w (A := (wtk A (qtk A + 1))) (show ql A ≠ [] from fun z => by have e0 := congrArg List.length z; have e1 : ([] : List Nat).length = 0 := rfl; have := pw_7.1; omega) (show (qse (wtk A (qtk A + 1)) + 1).toInt < (efind Ev).toInt by have e2 : (qse A + 1).toInt = (v_859.toInt + 1) := (congrArg Int32.toInt (ev_866.trans (by rw [us_863]))).symm.trans z_867; show (qse A + 1).toInt < _; omega)) rR_906 rR_908 rR_874 zR_910 zR_911 gR_917 zR_913 zR_915 (show (pI S_868 1238 x).toInt = (((qsk A)).length : Int) by omega) pz_919) px_924 t_925 (lv_sub hl [0, 1] rfl)
    · have z_b_926 := trivial
      have k_927 : (v_859.toInt + 1) = v_891.toInt := z_eq z_867 rfl c_896
      refine lv_aload_n X.1 X.2.1 dX12_tick_61 rfl (lv_at hl 0 rfl) ?_
      refine r_getR (g := 1214) X hw t_876 rfl 14 t_871 (by decide) rfl inn_X12_tick_12 (by decide) (X.2.2.2.1 (.fieldLink RX12 43 "SilkMillModel" "search" "[I") (by decide +kernel)) rfl (gv_1214 _ _) dX12_tick_62 ?_
      refine lv_iload_n X.1 X.2.1 dX12_tick_65 rfl (lv_at hl 1 rfl) ?_
      refine lv_iconst (v := 0) X.1 X.2.1 dX12_tick_66 (by decide) ?_
      refine r_iast X hw t_885 rfl (by rw [t_886]; exact z_ix hz_a1 (by omega) (by omega)) dX12_tick_67 (fun H locs hw => ?_)
      obtain ⟨S_928, eS_928⟩ : ∃ T, T = sA S_868 q_845 (upd (pA S_868 q_845) (Int32.toNatClampNeg (a1)) (0)) := ⟨_, rfl⟩
      rw [← eS_928] at hw
      have hO_929 : Ok MTK S S_928 := hO_869.sA eS_928 t_885 (by decide +kernel) (uA_494 hO_869.1 t_885)
      have h_930 : pA S_928 q_845 (Int32.toNatClampNeg (a1)) = 0 := tA_sAs eS_928
      have t_931 : pR S_928 1214 x = some q_845 := tR_sA eS_928 t_871
      have t_933 : pR S_868 1214 x = some q_845 := by have h := t_931; rw [eS_928, pR_sA] at h; exact h
      have zs_932 : ∀ j, zA S_928 x 1214 j = if j = (a1_z).toNat then 0 else zA S_868 x 1214 j := by have h := zA_sAs eS_928 t_933 ti_0; rw [z_nc hz_a1 (by omega)] at h; exact h
      refine lv_aload_n X.1 X.2.1 dX12_tick_68 rfl (lv_at hl 0 rfl) ?_
      refine lv_iload_n X.1 X.2.1 dX12_tick_69 rfl (lv_at hl 1 rfl) ?_
      refine lv_iconst (v := 0) X.1 X.2.1 dX12_tick_70 (by decide) ?_
      refine lv_aload_n X.1 X.2.1 dX12_tick_71 rfl (lv_at hl 0 rfl) ?_
      refine lv_iload_n X.1 X.2.1 dX12_tick_72 rfl (lv_at hl 1 rfl) ?_
      refine lv_iconst (v := 2) X.1 X.2.1 dX12_tick_73 (by decide) ?_
      refine lv_iconst (v := 0) X.1 X.2.1 dX12_tick_74 (by decide) ?_
      have t_934 : pI S_868 1201 x = v_1 := tI_sA eS_868 t_43
      have t_935 : pI S_928 1201 x = v_1 := tI_sA eS_928 t_934
      have pz_936 : (pI S_928 1201 x).toInt = v_1.toInt := (congrArg Int32.toInt t_935).trans rfl
      have zc_937 : zA S_29 x 1219 = zA S x 1219 := zA_sAn eS_29 (ex3 (gQ_12_1219 hO.1 ha_x)) h_21 rfl
      have zc_938 : zA S_868 x 1219 = zA S x 1219 := (zA_sAn eS_868 (ex3 (gQ_12_1219 hO_30.1 t_844)) h_847 rfl).trans zc_937
      have zc_939 : zA S_928 x 1219 = zA S x 1219 := (zA_sAn eS_928 (ex3 (gQ_12_1219 hO_869.1 t_876)) t_885 rfl).trans zc_938
      have zz_940 := congrFun zc_939 ((3 * a1_z + 2).toNat)
      have rR_941 : RowR S_29 x (3 * a1_z + 0).toNat (qb A) := RowR_eq pw_5 (zA_sAn eS_29 (ex3 (gQ_12_1218 hO.1 ha_x)) h_21 rfl) (zA_sAn eS_29 (ex3 (gQ_12_1219 hO.1 ha_x)) h_21 rfl)
      have rR_942 : RowR S_868 x (3 * a1_z + 0).toNat (qb A) := RowR_eq rR_941 (zA_sAn eS_868 (ex3 (gQ_12_1218 hO_30.1 t_844)) h_847 rfl) (zA_sAn eS_868 (ex3 (gQ_12_1219 hO_30.1 t_844)) h_847 rfl)
      have rR_943 : RowR S_928 x (3 * a1_z + 0).toNat (qb A) := RowR_eq rR_942 (zA_sAn eS_928 (ex3 (gQ_12_1218 hO_869.1 t_876)) t_885 rfl) (zA_sAn eS_928 (ex3 (gQ_12_1219 hO_869.1 t_876)) t_885 rfl)
      have rR_944 : RowR S_928 x (3 * a1_z + 2).toNat (ql A) := RowR_eq rR_874 (zA_sAn eS_928 (ex3 (gQ_12_1218 hO_869.1 t_876)) t_885 rfl) (zA_sAn eS_928 (ex3 (gQ_12_1219 hO_869.1 t_876)) t_885 rfl)
      have ln_945 : zA S_928 x 1219 (3 * a1_z + 2).toNat = (((ql A)).length : Int) := rR_944.1
      have t_946 : At S_928 x 12 := tAt_sA eS_928 t_876
      have rR_947 : RowR S_29 x (3 * a1_z + 1).toNat (qe A) := RowR_eq pw_6 (zA_sAn eS_29 (ex3 (gQ_12_1218 hO.1 ha_x)) h_21 rfl) (zA_sAn eS_29 (ex3 (gQ_12_1219 hO.1 ha_x)) h_21 rfl)
      have rR_948 : RowR S_868 x (3 * a1_z + 1).toNat (qe A) := RowR_eq rR_947 (zA_sAn eS_868 (ex3 (gQ_12_1218 hO_30.1 t_844)) h_847 rfl) (zA_sAn eS_868 (ex3 (gQ_12_1219 hO_30.1 t_844)) h_847 rfl)
      have rR_949 : RowR S_928 x (3 * a1_z + 1).toNat (qe A) := RowR_eq rR_948 (zA_sAn eS_928 (ex3 (gQ_12_1218 hO_869.1 t_876)) t_885 rfl) (zA_sAn eS_928 (ex3 (gQ_12_1219 hO_869.1 t_876)) t_885 rfl)
      have mi_950 : MIe S_29 x (-1) := MIe_sA hp_2 hO.1 ha_x h_21 eS_29 (by decide +kernel)
      have mi_951 : MIe S_868 x (-1) := MIe_sA mi_950 hO_30.1 t_844 h_847 eS_868 (by decide +kernel)
      have mi_952 : MIe S_928 x (-1) := MIe_sA mi_951 hO_869.1 t_876 t_885 eS_928 (by decide +kernel)
      refine k_i (rm := { frames := 1, cells := 0, slots := 0, locals := 48 }) (av := [.ref x, .int (a1), .int 2, .int 0]) X hw (va_runV (As := [.int (a1), .int 2, .int 0]) (rest := [.int 0, .int (a1), .ref x]) (cfix X) (k_X12_goes5 l G cy κ S_928 _ x (a1) (a1_z) (2) (2) (0) (0) (-1) hO_929.1 t_946 hz_a1 ti_2 ti_0 (by first | assumption | omega) (by first | assumption | omega) (by first | assumption | omega) (by first | assumption | omega) (by first | assumption | omega) (by first | assumption | omega) mi_952) (cwV 3 X.2.2.2.1 gX12_tick_X12_goes rfl rfl rfl (by decide +kernel) ⟨Nat.le_of_ble_eq_true rfl, Nat.le_of_ble_eq_true rfl⟩) (pre_V X hw _ t_946 rfl (by decide) rfl) rfl rfl hl.1 rfl (lv_room (Nat.le_of_ble_eq_true rfl)) dX12_tick_75 ⟨Nat.le_of_ble_eq_true rfl, Nat.le_of_ble_eq_true rfl⟩) 0 0 (Nat.le_of_ble_eq_true rfl) (Nat.le_of_ble_eq_true rfl) (fun rr_953 S_954 H locs hp hw hfr hnw => ?_)
      obtain ⟨hk_955, hp⟩ := hp
      have hO_956 : Ok MTK S S_954 := hO_929.call hk_955 (by decide +kernel)
      obtain ⟨g_957, g_958, g_959, g_960, g_961, g_962, g_963, g_964, g_965, g_966⟩ := hp
      have zl_968 : zA S_954 x 1209 = zA S_928 x 1209 := zA_fr hk_955.fr t_946 (ex3 (gQ_12_1209 hO_929.1 t_946)) (by decide +kernel) (by decide +kernel)
      have h9_967 : zA S_954 x 1209 rr_953.toInt.toNat = a1_z := (congrFun zl_968 _).trans g_965
      obtain ⟨dn_969, dn_970⟩ : ∃ d, ((ql A))[((0 : Int)).toNat]? = some d := ⟨_, List.getElem?_eq_getElem (by have := rR_944.1; omega)⟩
      have dn_971 : rr_953.toInt = (dn_969 : Int) := by have h8 := rR_944.2 _ _ dn_970; have hi : (600 * (3 * a1_z + 2) + 0).toNat = 600 * (3 * a1_z + 2).toNat + ((0 : Int)).toNat := (by omega); rw [← hi] at h8; omega
      have t_972 : pI S_954 1201 x = v_1 := hk_955.fr.I' (by decide +kernel) t_946 t_935
      have pz_973 : (pI S_954 1201 x).toInt = v_1.toInt := (congrArg Int32.toInt t_972).trans rfl
      have zl_974 : zA S_954 x 1207 = zA S_928 x 1207 := zA_fr hk_955.fr t_946 (ex3 (gQ_12_1207 hO_929.1 t_946)) (by decide +kernel) (by decide +kernel)
      have zz_975 := congrFun zl_974 (rr_953.toInt).toNat
      have al_976 := ((MI_1 g_962 (c := rr_953.toInt) (by omega) (by omega)).2 (by omega)).2 (by omega) (by omega)
      have gi_977 := g_964 (3 * a1_z + 0).toNat; rw [if_neg (by omega)] at gi_977
      have m4_978 := g_962.2.2.2.1.2 (3 * a1_z + 0).toNat (by omega)
      refine lv_aload_n X.1 X.2.1 dX12_tick_78 rfl (lv_at hl 0 rfl) ?_
      refine lv_iload_n X.1 X.2.1 dX12_tick_79 rfl (lv_at hl 1 rfl) ?_
      refine lv_iconst (v := 0) X.1 X.2.1 dX12_tick_80 (by decide) ?_
      have t_979 : At S_954 x 12 := hk_955.fr.at t_946
      refine k_i (rm := { frames := 1, cells := 0, slots := 0, locals := 48 }) (av := [.ref x, .int (a1), .int 0]) X hw (va_runV (As := [.int (a1), .int 0]) (rest := [.int (rr_953), .int 0, .int (a1), .ref x]) (cfix X) (k_X12_many2 l G cy κ S_954 _ x (a1) (a1_z) (0) (0) hO_956.1 t_979 hz_a1 ti_0 (by first | assumption | omega) (by first | assumption | omega) (by first | assumption | omega) (by first | assumption | omega)) (cwV 2 X.2.2.2.1 gX12_tick_X12_many rfl rfl rfl (by decide +kernel) ⟨Nat.le_of_ble_eq_true rfl, Nat.le_of_ble_eq_true rfl⟩) (pre_V X hw _ t_979 rfl (by decide) rfl) rfl rfl hl.1 rfl (lv_room (Nat.le_of_ble_eq_true rfl)) dX12_tick_81 ⟨Nat.le_of_ble_eq_true rfl, Nat.le_of_ble_eq_true rfl⟩) 0 0 (Nat.le_of_ble_eq_true rfl) (Nat.le_of_ble_eq_true rfl) (fun rr_980 S_981 H locs hp hw hfr hnw => ?_)
      obtain ⟨e2, hp⟩ := hp
      subst e2
      obtain ⟨f_982, f_983, f_984⟩ := hp
      refine k_v (rm := { frames := 1, cells := 0, slots := 0, locals := 48 }) (av := [.ref x, .int (a1), .int 0, .int (rr_953), .int (rr_980)]) X hw (va_runV (As := [.int (a1), .int 0, .int (rr_953), .int (rr_980)]) (rest := []) (cfix X) (k_X12_comes5 l G cy κ S_954 _ x (a1) (a1_z) (0) (0) (rr_953) (rr_953.toInt) (rr_980) (rr_980.toInt) hO_956.1 t_979 hz_a1 ti_0 rfl rfl (by first | assumption | omega) (by first | assumption | omega) (by first | assumption | omega) (by first | assumption | omega) (by first | assumption | omega) (by first | assumption | omega) (by first | assumption | omega) (by first | assumption | omega) (by first | assumption | omega) (by first | assumption | omega) g_962 (by first | assumption | omega) (by first | assumption | omega)) (cwV 4 X.2.2.2.1 gX12_tick_X12_comes rfl rfl rfl (by decide +kernel) ⟨Nat.le_of_ble_eq_true rfl, Nat.le_of_ble_eq_true rfl⟩) (pre_V X hw _ t_979 rfl (by decide) rfl) rfl rfl hl.1 rfl (lv_room (Nat.le_of_ble_eq_true rfl)) dX12_tick_84 ⟨Nat.le_of_ble_eq_true rfl, Nat.le_of_ble_eq_true rfl⟩) 0 0 (Nat.le_of_ble_eq_true rfl) (Nat.le_of_ble_eq_true rfl) (fun S_986 H locs hp hw hfr hnw => ?_)
      obtain ⟨hk_987, hp⟩ := hp
      have hO_988 : Ok MTK S S_986 := hO_956.call hk_987 (by decide +kernel)
      obtain ⟨mi_989, cm_990, cs_991, c9_993, cx_992⟩ := hp
      have t_994 : At S_986 x 12 := hk_987.fr.at t_979
      have zc_995 : zA S_29 x 1237 = zA S x 1237 := zA_sAn eS_29 (ex3 (gQ_12_1237 hO.1 ha_x)) h_21 rfl
      have zc_996 : zA S_868 x 1237 = zA S x 1237 := (zA_sAn eS_868 (ex3 (gQ_12_1237 hO_30.1 t_844)) h_847 rfl).trans zc_995
      have zc_997 : zA S_928 x 1237 = zA S x 1237 := (zA_sAn eS_928 (ex3 (gQ_12_1237 hO_869.1 t_876)) t_885 rfl).trans zc_996
      have zc_998 : zA S_954 x 1237 = zA S x 1237 := (zA_fr hk_955.fr t_946 (ex3 (gQ_12_1237 hO_929.1 t_946)) (by decide +kernel) (by decide +kernel)).trans zc_997
      have zc_999 : zA S_986 x 1237 = zA S x 1237 := (zA_fr hk_987.fr t_979 (ex3 (gQ_12_1237 hO_956.1 t_979)) (by decide +kernel) (by decide +kernel)).trans zc_998
      have zm_1000 : ZM S S_29 x := ⟨ZN_eq hzm0.1 (zA_sAn eS_29 (ex3 (gQ_12_1207 hO.1 ha_x)) h_21 rfl), ZQ_eq hzm0.2 (zA_sAn eS_29 (ex3 (gQ_12_1207 hO.1 ha_x)) h_21 rfl) (zA_sAn eS_29 (ex3 (gQ_12_1208 hO.1 ha_x)) h_21 rfl) (zA_sAn eS_29 (ex3 (gQ_12_1209 hO.1 ha_x)) h_21 rfl)⟩
      have zm_1001 : ZM S S_868 x := ⟨ZN_eq zm_1000.1 (zA_sAn eS_868 (ex3 (gQ_12_1207 hO_30.1 t_844)) h_847 rfl), ZQ_eq zm_1000.2 (zA_sAn eS_868 (ex3 (gQ_12_1207 hO_30.1 t_844)) h_847 rfl) (zA_sAn eS_868 (ex3 (gQ_12_1208 hO_30.1 t_844)) h_847 rfl) (zA_sAn eS_868 (ex3 (gQ_12_1209 hO_30.1 t_844)) h_847 rfl)⟩
      have zm_1002 : ZM S S_928 x := ⟨ZN_eq zm_1001.1 (zA_sAn eS_928 (ex3 (gQ_12_1207 hO_869.1 t_876)) t_885 rfl), ZQ_eq zm_1001.2 (zA_sAn eS_928 (ex3 (gQ_12_1207 hO_869.1 t_876)) t_885 rfl) (zA_sAn eS_928 (ex3 (gQ_12_1208 hO_869.1 t_876)) t_885 rfl) (zA_sAn eS_928 (ex3 (gQ_12_1209 hO_869.1 t_876)) t_885 rfl)⟩
      have zm_1003 : ZM S S_954 x := ⟨ZN_eq zm_1002.1 (zA_fr hk_955.fr t_946 (ex3 (gQ_12_1207 hO_929.1 t_946)) (by decide +kernel) (by decide +kernel)), ZQ_eq zm_1002.2 (zA_fr hk_955.fr t_946 (ex3 (gQ_12_1207 hO_929.1 t_946)) (by decide +kernel) (by decide +kernel)) (zA_fr hk_955.fr t_946 (ex3 (gQ_12_1208 hO_929.1 t_946)) (by decide +kernel) (by decide +kernel)) (zA_fr hk_955.fr t_946 (ex3 (gQ_12_1209 hO_929.1 t_946)) (by decide +kernel) (by decide +kernel))⟩
      have zm_1004 : ZM S S_986 x := ⟨ZN_set zm_1003.1 cs_991 ⟨by omega, by omega⟩ ⟨by omega, by omega⟩, ZQ_7 zm_1003.2 cs_991 (by omega) (zA_fr hk_987.fr t_979 (ex3 (gQ_12_1208 hO_956.1 t_979)) (by decide +kernel) (by decide +kernel)) (p9_cm c9_993 h9_967)⟩
      have rR_1005 : RowR S_954 x (3 * a1_z + 0).toNat (qb A) := RowR_gox hO_929.1 t_946 (by omega) rR_943 g_966
      have cap_1007 : ((qb A)).length < 600 := by have h1 := rR_1005.1; have h2 := cx_992.2.2.2.1; omega
      have rR_1006 : RowR S_986 x (3 * a1_z + 0).toNat ((qb A) ++ [dn_969]) := RowR_last rR_1005 (show CmO S_954 S_986 x (3 * a1_z + 0).toNat ((qb A)).length (rr_953.toInt) by rw [show ((qb A)).length = (rr_980.toInt).toNat by have := rR_1005.1; omega]; exact cx_992) dn_971
      have rR_1008 : RowR S_954 x (3 * a1_z + 1).toNat (qe A) := RowR_gox hO_929.1 t_946 (by omega) rR_949 g_966
      have rR_1009 : RowR S_986 x (3 * a1_z + 1).toNat (qe A) := RowR_cmx hO_956.1 t_979 (by omega) rR_1008 cx_992
      have rR_1010 : RowR S_954 x (3 * a1_z + 2).toNat ((ql A).tail) := RowR_goes0 rR_944 g_966 (by have := rR_944.1; omega)
      have rR_1011 : RowR S_986 x (3 * a1_z + 2).toNat ((ql A).tail) := RowR_cmx hO_956.1 t_979 (by omega) rR_1010 cx_992
      have zR_1012 : zA S_29 x 1215 a1_z.toNat = ((qst A)).toInt := (congrFun (zA_sAn eS_29 (ex3 (gQ_12_1215 hO.1 ha_x)) h_21 rfl) _).trans pw_8
      have zR_1013 : zA S_868 x 1215 a1_z.toNat = ((qst A)).toInt := (congrFun (zA_sAn eS_868 (ex3 (gQ_12_1215 hO_30.1 t_844)) h_847 rfl) _).trans zR_1012
      have zR_1014 : zA S_928 x 1215 a1_z.toNat = ((qst A)).toInt := (congrFun (zA_sAn eS_928 (ex3 (gQ_12_1215 hO_869.1 t_876)) t_885 rfl) _).trans zR_1013
      have zR_1015 : zA S_954 x 1215 a1_z.toNat = ((qst A)).toInt := (congrFun (zA_fr hk_955.fr t_946 (ex3 (gQ_12_1215 hO_929.1 t_946)) (by decide +kernel) (by decide +kernel)) _).trans zR_1014
      have zR_1016 : zA S_986 x 1215 a1_z.toNat = ((qst A)).toInt := (congrFun (zA_fr hk_987.fr t_979 (ex3 (gQ_12_1215 hO_956.1 t_979)) (by decide +kernel) (by decide +kernel)) _).trans zR_1015
      have zR_1017 : zA S_868 x 1214 a1_z.toNat = ((qse A + 1)).toInt := (by rw [zs_872, if_pos (by omega)]; exact z_867.symm.trans (congrArg Int32.toInt (ev_866.trans (by rw [us_863]))))
      have zR_1018 : zA S_928 x 1214 a1_z.toNat = ((0 : Int32)).toInt := (by rw [zs_932, if_pos (by omega)]; decide)
      have zR_1019 : zA S_954 x 1214 a1_z.toNat = ((0 : Int32)).toInt := (congrFun (zA_fr hk_955.fr t_946 (ex3 (gQ_12_1214 hO_929.1 t_946)) (by decide +kernel) (by decide +kernel)) _).trans zR_1018
      have zR_1020 : zA S_986 x 1214 a1_z.toNat = ((0 : Int32)).toInt := (congrFun (zA_fr hk_987.fr t_979 (ex3 (gQ_12_1214 hO_956.1 t_979)) (by decide +kernel) (by decide +kernel)) _).trans zR_1019
      have zR_1021 : zA S_29 x 1216 a1_z.toNat = ((qdr A)).toInt := (congrFun (zA_sAn eS_29 (ex3 (gQ_12_1216 hO.1 ha_x)) h_21 rfl) _).trans pw_11
      have zR_1022 : zA S_868 x 1216 a1_z.toNat = ((qdr A)).toInt := (congrFun (zA_sAn eS_868 (ex3 (gQ_12_1216 hO_30.1 t_844)) h_847 rfl) _).trans zR_1021
      have zR_1023 : zA S_928 x 1216 a1_z.toNat = ((qdr A)).toInt := (congrFun (zA_sAn eS_928 (ex3 (gQ_12_1216 hO_869.1 t_876)) t_885 rfl) _).trans zR_1022
      have zR_1024 : zA S_954 x 1216 a1_z.toNat = ((qdr A)).toInt := (congrFun (zA_fr hk_955.fr t_946 (ex3 (gQ_12_1216 hO_929.1 t_946)) (by decide +kernel) (by decide +kernel)) _).trans zR_1023
      have zR_1025 : zA S_986 x 1216 a1_z.toNat = ((qdr A)).toInt := (congrFun (zA_fr hk_987.fr t_979 (ex3 (gQ_12_1216 hO_956.1 t_979)) (by decide +kernel) (by decide +kernel)) _).trans zR_1024
      have zR_1026 : zA S_29 x 1217 a1_z.toNat = ((qtk A + 1)).toInt := (by rw [zs_33, if_pos (by omega)]; exact (congrArg Int32.toInt (ev_27.trans (by rw [us_26]))))
      have zR_1027 : zA S_868 x 1217 a1_z.toNat = ((qtk A + 1)).toInt := (congrFun (zA_sAn eS_868 (ex3 (gQ_12_1217 hO_30.1 t_844)) h_847 rfl) _).trans zR_1026
      have zR_1028 : zA S_928 x 1217 a1_z.toNat = ((qtk A + 1)).toInt := (congrFun (zA_sAn eS_928 (ex3 (gQ_12_1217 hO_869.1 t_876)) t_885 rfl) _).trans zR_1027
      have zR_1029 : zA S_954 x 1217 a1_z.toNat = ((qtk A + 1)).toInt := (congrFun (zA_fr hk_955.fr t_946 (ex3 (gQ_12_1217 hO_929.1 t_946)) (by decide +kernel) (by decide +kernel)) _).trans zR_1028
      have zR_1030 : zA S_986 x 1217 a1_z.toNat = ((qtk A + 1)).toInt := (congrFun (zA_fr hk_987.fr t_979 (ex3 (gQ_12_1217 hO_956.1 t_979)) (by decide +kernel) (by decide +kernel)) _).trans zR_1029
      have gR_1031 : zA S_29 x 1237 a1_z.toNat = (((qg A)).length : Int) := (congrFun (zA_sAn eS_29 (ex3 (gQ_12_1237 hO.1 ha_x)) h_21 rfl) _).trans pw_10
      have gR_1032 : zA S_868 x 1237 a1_z.toNat = (((qg A)).length : Int) := (congrFun (zA_sAn eS_868 (ex3 (gQ_12_1237 hO_30.1 t_844)) h_847 rfl) _).trans gR_1031
      have gR_1033 : zA S_928 x 1237 a1_z.toNat = (((qg A)).length : Int) := (congrFun (zA_sAn eS_928 (ex3 (gQ_12_1237 hO_869.1 t_876)) t_885 rfl) _).trans gR_1032
      have gR_1034 : zA S_954 x 1237 a1_z.toNat = (((qg A)).length : Int) := (congrFun (zA_fr hk_955.fr t_946 (ex3 (gQ_12_1237 hO_929.1 t_946)) (by decide +kernel) (by decide +kernel)) _).trans gR_1033
      have gR_1035 : zA S_986 x 1237 a1_z.toNat = (((qg A)).length : Int) := (congrFun (zA_fr hk_987.fr t_979 (ex3 (gQ_12_1237 hO_956.1 t_979)) (by decide +kernel) (by decide +kernel)) _).trans gR_1034
      have pz_1036 : PlZ S_29 x (qpl A) (qsd A) := PlZ_eq pw_14 (zA_sAn eS_29 (ex3 (gQ_12_1208 hO.1 ha_x)) h_21 rfl) (zA_sAn eS_29 (ex3 (gQ_12_1207 hO.1 ha_x)) h_21 rfl)
      have pz_1037 : PlZ S_868 x (qpl A) (qsd A) := PlZ_eq pz_1036 (zA_sAn eS_868 (ex3 (gQ_12_1208 hO_30.1 t_844)) h_847 rfl) (zA_sAn eS_868 (ex3 (gQ_12_1207 hO_30.1 t_844)) h_847 rfl)
      have pz_1038 : PlZ S_928 x (qpl A) (qsd A) := PlZ_eq pz_1037 (zA_sAn eS_928 (ex3 (gQ_12_1208 hO_869.1 t_876)) t_885 rfl) (zA_sAn eS_928 (ex3 (gQ_12_1207 hO_869.1 t_876)) t_885 rfl)
      have pz_1039 : PlZ S_954 x (qpl A) (qsd A) := PlZ_eq pz_1038 (zA_fr hk_955.fr t_946 (ex3 (gQ_12_1208 hO_929.1 t_946)) (by decide +kernel) (by decide +kernel)) (zA_fr hk_955.fr t_946 (ex3 (gQ_12_1207 hO_929.1 t_946)) (by decide +kernel) (by decide +kernel))
      have pz_1040 : PlZ S_986 x (qpl A) (fuI (qsd A) dn_969 1) := PlZ_7 pz_1039 (zA_fr hk_987.fr t_979 (ex3 (gQ_12_1208 hO_956.1 t_979)) (by decide +kernel) (by decide +kernel)) cs_991 (by omega) (by decide)
      have t_1041 : pI S_29 1238 x = v_15 := tI_sA eS_29 ev_15
      have t_1042 : pI S_868 1238 x = v_15 := tI_sA eS_868 t_1041
      have t_1043 : pI S_928 1238 x = v_15 := tI_sA eS_928 t_1042
      have t_1044 : pI S_954 1238 x = v_15 := hk_955.fr.I' (by decide +kernel) t_946 t_1043
      have t_1045 : pI S_986 1238 x = v_15 := hk_987.fr.I' (by decide +kernel) t_979 t_1044
      have pz_1046 : (pI S_986 1238 x).toInt = v_15.toInt := (congrArg Int32.toInt t_1045).trans rfl
      have px_1047 : PwX S S_29 x a1_z := PwX_z (PwX_rf S x a1_z) (zA_sAn eS_29 (ex3 (gQ_12_1218 hO.1 ha_x)) h_21 rfl) (zA_sAn eS_29 (ex3 (gQ_12_1219 hO.1 ha_x)) h_21 rfl) zs_33 (by omega) (pw4 (fun _ => zA_sAn eS_29 (ex3 (gQ_12_1214 hO.1 ha_x)) h_21 rfl) (fun _ => zA_sAn eS_29 (ex3 (gQ_12_1215 hO.1 ha_x)) h_21 rfl) (fun _ => zA_sAn eS_29 (ex3 (gQ_12_1216 hO.1 ha_x)) h_21 rfl) (fun h => absurd rfl h) (fun _ => zA_sAn eS_29 (ex3 (gQ_12_1237 hO.1 ha_x)) h_21 rfl))
      have px_1048 : PwX S S_868 x a1_z := PwX_z px_1047 (zA_sAn eS_868 (ex3 (gQ_12_1218 hO_30.1 t_844)) h_847 rfl) (zA_sAn eS_868 (ex3 (gQ_12_1219 hO_30.1 t_844)) h_847 rfl) zs_872 (by omega) (pw4 (fun h => absurd rfl h) (fun _ => zA_sAn eS_868 (ex3 (gQ_12_1215 hO_30.1 t_844)) h_847 rfl) (fun _ => zA_sAn eS_868 (ex3 (gQ_12_1216 hO_30.1 t_844)) h_847 rfl) (fun _ => zA_sAn eS_868 (ex3 (gQ_12_1217 hO_30.1 t_844)) h_847 rfl) (fun _ => zA_sAn eS_868 (ex3 (gQ_12_1237 hO_30.1 t_844)) h_847 rfl))
      have px_1049 : PwX S S_928 x a1_z := PwX_z px_1048 (zA_sAn eS_928 (ex3 (gQ_12_1218 hO_869.1 t_876)) t_885 rfl) (zA_sAn eS_928 (ex3 (gQ_12_1219 hO_869.1 t_876)) t_885 rfl) zs_932 (by omega) (pw4 (fun h => absurd rfl h) (fun _ => zA_sAn eS_928 (ex3 (gQ_12_1215 hO_869.1 t_876)) t_885 rfl) (fun _ => zA_sAn eS_928 (ex3 (gQ_12_1216 hO_869.1 t_876)) t_885 rfl) (fun _ => zA_sAn eS_928 (ex3 (gQ_12_1217 hO_869.1 t_876)) t_885 rfl) (fun _ => zA_sAn eS_928 (ex3 (gQ_12_1237 hO_869.1 t_876)) t_885 rfl))
      have px_1050 : PwX S S_954 x a1_z := PwX_go px_1049 hO_929.1 t_946 (by omega) g_966 (pw5 (zA_fr hk_955.fr t_946 (ex3 (gQ_12_1214 hO_929.1 t_946)) (by decide +kernel) (by decide +kernel)) (zA_fr hk_955.fr t_946 (ex3 (gQ_12_1215 hO_929.1 t_946)) (by decide +kernel) (by decide +kernel)) (zA_fr hk_955.fr t_946 (ex3 (gQ_12_1216 hO_929.1 t_946)) (by decide +kernel) (by decide +kernel)) (zA_fr hk_955.fr t_946 (ex3 (gQ_12_1217 hO_929.1 t_946)) (by decide +kernel) (by decide +kernel)) (zA_fr hk_955.fr t_946 (ex3 (gQ_12_1237 hO_929.1 t_946)) (by decide +kernel) (by decide +kernel)))
      have px_1051 : PwX S S_986 x a1_z := PwX_cm px_1050 hO_956.1 t_979 (by omega) cx_992 (pw5 (zA_fr hk_987.fr t_979 (ex3 (gQ_12_1214 hO_956.1 t_979)) (by decide +kernel) (by decide +kernel)) (zA_fr hk_987.fr t_979 (ex3 (gQ_12_1215 hO_956.1 t_979)) (by decide +kernel) (by decide +kernel)) (zA_fr hk_987.fr t_979 (ex3 (gQ_12_1216 hO_956.1 t_979)) (by decide +kernel) (by decide +kernel)) (zA_fr hk_987.fr t_979 (ex3 (gQ_12_1217 hO_956.1 t_979)) (by decide +kernel) (by decide +kernel)) (zA_fr hk_987.fr t_979 (ex3 (gQ_12_1237 hO_956.1 t_979)) (by decide +kernel) (by decide +kernel)))
      have t_1052 : pI S_986 1201 x = v_1 := hk_987.fr.I' (by decide +kernel) t_979 t_972
      exact L_35 _ _ _ _  hw t_994 hO_988 mi_989 (GR_eq zc_999 hp_3) zm_1004 (PotW_of (B := pmk ((qb A) ++ [dn_969]) (qe A) ((ql A).tail) (qst A) (0 : Int32) (qg A) (qpl A) (fuI (qsd A) dn_969 1) (qsk A) (qws A) (qdr A) (qtk A + 1)) ((seaF_f (A := (wtk A (qtk A + 1))) (show ql A ≠ [] from fun z => by have e0 := congrArg List.length z; have e1 : ([] : List Nat).length = 0 := rfl; have := pw_7.1; omega) (show ¬ (qse (wtk A (qtk A + 1)) + 1).toInt < (efind Ev).toInt by have e2 : (qse A + 1).toInt = (v_859.toInt + 1) := (congrArg Int32.toInt (ev_866.trans (by rw [us_863]))).symm.trans z_867; show ¬ (qse A + 1).toInt < _; omega)).trans ((fetF_c (A := wse (wtk A (qtk A + 1)) 0) (hd_cons dn_970)).trans (by rw [capL_y (show (qb (wse (wtk A (qtk A + 1)) 0)).length < 600 from cap_1007)]; show wse (wl (wb (wsd (wse (wtk A (qtk A + 1)) 0) (fuI (qsd A) dn_969 1)) (qb A ++ [dn_969])) (ql A).tail) (if (ql A).tail = [] then (0 : Int32) else 0) = _; rw [ite_s]; rfl))) rR_1006 rR_1009 rR_1011 zR_1016 zR_1020 gR_1035 zR_1025 zR_1030 (show (pI S_986 1238 x).toInt = (((qsk A)).length : Int) by omega) pz_1040) px_1051 t_1052 (lv_sub hl [0, 1] rfl)
  · have z_b_1053 := trivial
    have k_1054 : rr_851.toInt = 0 := z_eq rfl ti_0 c_856
    refine lv_iconst (v := 0) X.1 X.2.1 dX12_tick_24 (by decide) ?_
    refine lv_goto (tgt := 36) X.1 X.2.1 dX12_tick_25 (by decide) ?_
    refine r_iast X hw h_847 rfl (by rw [h_848]; exact z_ix hz_a1 (by omega) (by omega)) dX12_tick_36 (fun H locs hw => ?_)
    obtain ⟨S_1055, eS_1055⟩ : ∃ T, T = sA S_29 q_845 (upd (pA S_29 q_845) (Int32.toNatClampNeg (a1)) (0)) := ⟨_, rfl⟩
    rw [← eS_1055] at hw
    have hO_1056 : Ok MTK S S_1055 := hO_30.sA eS_1055 h_847 (by decide +kernel) (uA_494 hO_30.1 h_847)
    have h_1057 : pA S_1055 q_845 (Int32.toNatClampNeg (a1)) = 0 := tA_sAs eS_1055
    have t_1058 : pR S_1055 1214 x = some q_845 := tR_sA eS_1055 h_846
    have t_1060 : pR S_29 1214 x = some q_845 := by have h := t_1058; rw [eS_1055, pR_sA] at h; exact h
    have zs_1059 : ∀ j, zA S_1055 x 1214 j = if j = (a1_z).toNat then 0 else zA S_29 x 1214 j := by have h := zA_sAs eS_1055 t_1060 ti_0; rw [z_nc hz_a1 (by omega)] at h; exact h
    refine lv_aload_n X.1 X.2.1 dX12_tick_37 rfl (lv_at hl 0 rfl) ?_
    refine lv_iload_n X.1 X.2.1 dX12_tick_38 rfl (lv_at hl 1 rfl) ?_
    refine lv_iconst (v := 2) X.1 X.2.1 dX12_tick_39 (by decide) ?_
    have rR_1061 : RowR S_1055 x (3 * a1_z + 2).toNat (ql A) := RowR_eq rR_849 (zA_sAn eS_1055 (ex3 (gQ_12_1218 hO_30.1 t_844)) h_847 rfl) (zA_sAn eS_1055 (ex3 (gQ_12_1219 hO_30.1 t_844)) h_847 rfl)
    have ln_1062 : zA S_1055 x 1219 (3 * a1_z + 2).toNat = (((ql A)).length : Int) := rR_1061.1
    have t_1063 : At S_1055 x 12 := tAt_sA eS_1055 t_844
    refine k_i (rm := { frames := 1, cells := 0, slots := 0, locals := 48 }) (av := [.ref x, .int (a1), .int 2]) X hw (va_runV (As := [.int (a1), .int 2]) (rest := []) (cfix X) (k_X12_many2 l G cy κ S_1055 _ x (a1) (a1_z) (2) (2) hO_1056.1 t_1063 hz_a1 ti_2 (by first | assumption | omega) (by first | assumption | omega) (by first | assumption | omega) (by first | assumption | omega)) (cwV 2 X.2.2.2.1 gX12_tick_X12_many rfl rfl rfl (by decide +kernel) ⟨Nat.le_of_ble_eq_true rfl, Nat.le_of_ble_eq_true rfl⟩) (pre_V X hw _ t_1063 rfl (by decide) rfl) rfl rfl hl.1 rfl (lv_room (Nat.le_of_ble_eq_true rfl)) dX12_tick_40 ⟨Nat.le_of_ble_eq_true rfl, Nat.le_of_ble_eq_true rfl⟩) 0 0 (Nat.le_of_ble_eq_true rfl) (Nat.le_of_ble_eq_true rfl) (fun rr_1064 S_1065 H locs hp hw hfr hnw => ?_)
    obtain ⟨e2, hp⟩ := hp
    subst e2
    obtain ⟨f_1066, f_1067, f_1068⟩ := hp
    refine lv_if_le (tgt := 87) X.1 X.2.1 dX12_tick_43 (by decide) (fun c_1069 => ?_) (fun c_1069 => ?_)
    rotate_left
    · exfalso
      have k_1070 : rr_1064.toInt > 0 := z_nle rfl ti_0 c_1069
      omega
    have k_1071 : rr_1064.toInt ≤ 0 := z_le rfl ti_0 c_1069
    have mi_1072 : MIe S_29 x (-1) := MIe_sA hp_2 hO.1 ha_x h_21 eS_29 (by decide +kernel)
    have mi_1073 : MIe S_1055 x (-1) := MIe_sA mi_1072 hO_30.1 t_844 h_847 eS_1055 (by decide +kernel)
    have zc_1074 : zA S_29 x 1237 = zA S x 1237 := zA_sAn eS_29 (ex3 (gQ_12_1237 hO.1 ha_x)) h_21 rfl
    have zc_1075 : zA S_1055 x 1237 = zA S x 1237 := (zA_sAn eS_1055 (ex3 (gQ_12_1237 hO_30.1 t_844)) h_847 rfl).trans zc_1074
    have zm_1076 : ZM S S_29 x := ⟨ZN_eq hzm0.1 (zA_sAn eS_29 (ex3 (gQ_12_1207 hO.1 ha_x)) h_21 rfl), ZQ_eq hzm0.2 (zA_sAn eS_29 (ex3 (gQ_12_1207 hO.1 ha_x)) h_21 rfl) (zA_sAn eS_29 (ex3 (gQ_12_1208 hO.1 ha_x)) h_21 rfl) (zA_sAn eS_29 (ex3 (gQ_12_1209 hO.1 ha_x)) h_21 rfl)⟩
    have zm_1077 : ZM S S_1055 x := ⟨ZN_eq zm_1076.1 (zA_sAn eS_1055 (ex3 (gQ_12_1207 hO_30.1 t_844)) h_847 rfl), ZQ_eq zm_1076.2 (zA_sAn eS_1055 (ex3 (gQ_12_1207 hO_30.1 t_844)) h_847 rfl) (zA_sAn eS_1055 (ex3 (gQ_12_1208 hO_30.1 t_844)) h_847 rfl) (zA_sAn eS_1055 (ex3 (gQ_12_1209 hO_30.1 t_844)) h_847 rfl)⟩
    have rR_1078 : RowR S_29 x (3 * a1_z + 0).toNat (qb A) := RowR_eq pw_5 (zA_sAn eS_29 (ex3 (gQ_12_1218 hO.1 ha_x)) h_21 rfl) (zA_sAn eS_29 (ex3 (gQ_12_1219 hO.1 ha_x)) h_21 rfl)
    have rR_1079 : RowR S_1055 x (3 * a1_z + 0).toNat (qb A) := RowR_eq rR_1078 (zA_sAn eS_1055 (ex3 (gQ_12_1218 hO_30.1 t_844)) h_847 rfl) (zA_sAn eS_1055 (ex3 (gQ_12_1219 hO_30.1 t_844)) h_847 rfl)
    have rR_1080 : RowR S_29 x (3 * a1_z + 1).toNat (qe A) := RowR_eq pw_6 (zA_sAn eS_29 (ex3 (gQ_12_1218 hO.1 ha_x)) h_21 rfl) (zA_sAn eS_29 (ex3 (gQ_12_1219 hO.1 ha_x)) h_21 rfl)
    have rR_1081 : RowR S_1055 x (3 * a1_z + 1).toNat (qe A) := RowR_eq rR_1080 (zA_sAn eS_1055 (ex3 (gQ_12_1218 hO_30.1 t_844)) h_847 rfl) (zA_sAn eS_1055 (ex3 (gQ_12_1219 hO_30.1 t_844)) h_847 rfl)
    have zR_1082 : zA S_29 x 1215 a1_z.toNat = ((qst A)).toInt := (congrFun (zA_sAn eS_29 (ex3 (gQ_12_1215 hO.1 ha_x)) h_21 rfl) _).trans pw_8
    have zR_1083 : zA S_1055 x 1215 a1_z.toNat = ((qst A)).toInt := (congrFun (zA_sAn eS_1055 (ex3 (gQ_12_1215 hO_30.1 t_844)) h_847 rfl) _).trans zR_1082
    have zR_1084 : zA S_29 x 1214 a1_z.toNat = ((qse A)).toInt := (congrFun (zA_sAn eS_29 (ex3 (gQ_12_1214 hO.1 ha_x)) h_21 rfl) _).trans pw_9
    have zR_1085 : zA S_1055 x 1214 a1_z.toNat = ((0 : Int32)).toInt := (by rw [zs_1059, if_pos (by omega)]; decide)
    have zR_1086 : zA S_29 x 1216 a1_z.toNat = ((qdr A)).toInt := (congrFun (zA_sAn eS_29 (ex3 (gQ_12_1216 hO.1 ha_x)) h_21 rfl) _).trans pw_11
    have zR_1087 : zA S_1055 x 1216 a1_z.toNat = ((qdr A)).toInt := (congrFun (zA_sAn eS_1055 (ex3 (gQ_12_1216 hO_30.1 t_844)) h_847 rfl) _).trans zR_1086
    have zR_1088 : zA S_29 x 1217 a1_z.toNat = ((qtk A + 1)).toInt := (by rw [zs_33, if_pos (by omega)]; exact (congrArg Int32.toInt (ev_27.trans (by rw [us_26]))))
    have zR_1089 : zA S_1055 x 1217 a1_z.toNat = ((qtk A + 1)).toInt := (congrFun (zA_sAn eS_1055 (ex3 (gQ_12_1217 hO_30.1 t_844)) h_847 rfl) _).trans zR_1088
    have gR_1090 : zA S_29 x 1237 a1_z.toNat = (((qg A)).length : Int) := (congrFun (zA_sAn eS_29 (ex3 (gQ_12_1237 hO.1 ha_x)) h_21 rfl) _).trans pw_10
    have gR_1091 : zA S_1055 x 1237 a1_z.toNat = (((qg A)).length : Int) := (congrFun (zA_sAn eS_1055 (ex3 (gQ_12_1237 hO_30.1 t_844)) h_847 rfl) _).trans gR_1090
    have pz_1092 : PlZ S_29 x (qpl A) (qsd A) := PlZ_eq pw_14 (zA_sAn eS_29 (ex3 (gQ_12_1208 hO.1 ha_x)) h_21 rfl) (zA_sAn eS_29 (ex3 (gQ_12_1207 hO.1 ha_x)) h_21 rfl)
    have pz_1093 : PlZ S_1055 x (qpl A) (qsd A) := PlZ_eq pz_1092 (zA_sAn eS_1055 (ex3 (gQ_12_1208 hO_30.1 t_844)) h_847 rfl) (zA_sAn eS_1055 (ex3 (gQ_12_1207 hO_30.1 t_844)) h_847 rfl)
    have t_1094 : pI S_29 1238 x = v_15 := tI_sA eS_29 ev_15
    have t_1095 : pI S_1055 1238 x = v_15 := tI_sA eS_1055 t_1094
    have pz_1096 : (pI S_1055 1238 x).toInt = v_15.toInt := (congrArg Int32.toInt t_1095).trans rfl
    have px_1097 : PwX S S_29 x a1_z := PwX_z (PwX_rf S x a1_z) (zA_sAn eS_29 (ex3 (gQ_12_1218 hO.1 ha_x)) h_21 rfl) (zA_sAn eS_29 (ex3 (gQ_12_1219 hO.1 ha_x)) h_21 rfl) zs_33 (by omega) (pw4 (fun _ => zA_sAn eS_29 (ex3 (gQ_12_1214 hO.1 ha_x)) h_21 rfl) (fun _ => zA_sAn eS_29 (ex3 (gQ_12_1215 hO.1 ha_x)) h_21 rfl) (fun _ => zA_sAn eS_29 (ex3 (gQ_12_1216 hO.1 ha_x)) h_21 rfl) (fun h => absurd rfl h) (fun _ => zA_sAn eS_29 (ex3 (gQ_12_1237 hO.1 ha_x)) h_21 rfl))
    have px_1098 : PwX S S_1055 x a1_z := PwX_z px_1097 (zA_sAn eS_1055 (ex3 (gQ_12_1218 hO_30.1 t_844)) h_847 rfl) (zA_sAn eS_1055 (ex3 (gQ_12_1219 hO_30.1 t_844)) h_847 rfl) zs_1059 (by omega) (pw4 (fun h => absurd rfl h) (fun _ => zA_sAn eS_1055 (ex3 (gQ_12_1215 hO_30.1 t_844)) h_847 rfl) (fun _ => zA_sAn eS_1055 (ex3 (gQ_12_1216 hO_30.1 t_844)) h_847 rfl) (fun _ => zA_sAn eS_1055 (ex3 (gQ_12_1217 hO_30.1 t_844)) h_847 rfl) (fun _ => zA_sAn eS_1055 (ex3 (gQ_12_1237 hO_30.1 t_844)) h_847 rfl))
    have t_1099 : pI S_1055 1201 x = v_1 := tI_sA eS_1055 t_43
    exact L_35 _ _ _ _  hw t_1063 hO_1056 mi_1073 (GR_eq zc_1075 hp_3) zm_1077 (PotW_of ((seaF_n (A := (wtk A (qtk A + 1))) (show ql A = [] from List.eq_nil_of_length_eq_zero (by have := pw_7.1; omega))).trans (wse_id (A := (wtk A (qtk A + 1))) (hp_7.1 (show ql A = [] from List.eq_nil_of_length_eq_zero (by have := pw_7.1; omega)))).symm) rR_1079 rR_1081 rR_1061 zR_1083 zR_1085 gR_1091 zR_1087 zR_1089 (show (pI S_1055 1238 x).toInt = (((qsk A)).length : Int) by omega) pz_1093) px_1098 t_1099 (lv_sub hl [0, 1] rfl)
