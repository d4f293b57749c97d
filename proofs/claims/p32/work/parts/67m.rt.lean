/-! ===== the reference's tick ===== -/
theorem wse_id {A : Pt} {v : Int32} (h : qse A = v) : wse A v = A := by
  subst h
  rfl
theorem er_app {L t : List Nat} {c : Nat} : (L ++ c :: t).eraseIdx L.length = L ++ t := by
  induction L with
  | nil => rfl
  | cons a s ih =>
    show a :: (s ++ c :: t).eraseIdx s.length = a :: (s ++ t)
    rw [ih]
theorem ix_app {L t : List Nat} {c : Nat} : (L ++ c :: t)[L.length]? = some c := by
  rw [List.getElem?_append_right (Nat.le_refl _), Nat.sub_self]
  rfl
theorem fol_s {E : En} {dn : List Nat} {c : Nat} {A : Pt} : folF E (dn ++ [c]) A = endK E (folF E dn A) c := by
  rw [folF_app]
  rfl
theorem dr_end {E : En} {A B : Pt} {dn rs : List Nat} (hA : qe B = dn ++ rs) (hr : rs = []) (h12 : (qe B).length ≤ 12) : we (folF E dn (we B [])) (qe (folF E dn (we B [])) ++ rs) = endsF E (qe B).length B := by
  subst hr
  rw [List.append_nil] at hA
  rw [← hA, ends_all h12, List.append_nil]
  rfl
theorem sdV_4 {E : En} {A : Pt} {c : Nat} (h : (elen E c).toInt ≤ (qpl A c + 1).toInt) : sdV E A c = 4 := if_pos h
theorem sdV_3 {E : En} {A : Pt} {c : Nat} (h : ¬ (elen E c).toInt ≤ (qpl A c + 1).toInt) (hb : ebr E c (qpl A c)) : sdV E A c = 3 := (if_neg h).trans (if_pos hb)
theorem sdV_s {E : En} {A : Pt} {c : Nat} (h : ¬ (elen E c).toInt ≤ (qpl A c + 1).toInt) (hb : ¬ ebr E c (qpl A c)) : sdV E A c = qsd A c := (if_neg h).trans (if_neg hb)
theorem ite_s {α : Type} {p : Prop} [Decidable p] {a : α} : (if p then a else a) = a := by
  split <;> rfl
theorem capG_l {g : List Mt} {m : Mt} (h : g.length < 300) : ((capG g m).length : Int) = (g.length : Int) + 1 := capG_y h
theorem qg_end {E : En} {A : Pt} {c : Nat} : qg (endK E A c) = qg A := by
  by_cases k2 : sdV E A c = 2
  · rw [endK_2 k2]; rfl
  · by_cases k3 : sdV E A c = 3
    · rw [endK_3 k3]; rfl
    · rw [endK_n k2 k3]; rfl
theorem PotW_sI {S T : PS} {x g a : Nat} {p : Int} {v : Int32} {A : Pt} (h : PotW S x p A) (e : T = sI S g a v) (hg : 1238 ≠ g) : PotW T x p A := by
  obtain ⟨h0, h1, h2, h3, h4, h5, h6, h7, h8, h9⟩ := h
  have z : ∀ k, zA T x k = zA S x k := fun k => zA_sI e
  refine ⟨RowR_eq h0 (z _) (z _), RowR_eq h1 (z _) (z _), RowR_eq h2 (z _) (z _), by rw [z]; exact h3, by rw [z]; exact h4, GrW_eq (z _) (z _) (by rw [z]) h5, by rw [z]; exact h6, by rw [z]; exact h7, ?_, PlZ_eq h9 (z _) (z _)⟩
  exact SkW_n (by rw [e, pI_sI_nf hg]) ⟨z _, z _, z _, z _, z _, z _⟩ h8
theorem PlZ_st {S : PS} {x d : Nat} {v : Int32} {pl sd : Nat → Int32} (h : PlZ S x pl sd) (e : v = sd d) : PlZ S x pl (fuI sd d v) := fun c hc => by
  refine ⟨(h c hc).1, ?_⟩
  unfold fuI
  by_cases z : c = d
  · rw [if_pos z, e, ← z]; exact (h c hc).2
  · rw [if_neg z]; exact (h c hc).2

set_option maxHeartbeats 4000000 in
set_option maxRecDepth 100000 in
theorem k_X12_tick6 (l : Launch) (G : va_G) (cy : Nat → ClassId) (κ : Nat → Nat) (S : PS) (sz : Nat) (x : Nat) (a1 : Int32) (a1_z : Int) (A : Pt) (Ev : En) (Rl : List Ru) (hG : GX S) (ha_x : At S x 12) (hz_a1 : a1.toInt = a1_z) (hp_0 : 0 ≤ a1_z) (hp_1 : a1_z ≤ 3) (hp_2 : MI S x) (hp_3 : GR S x) (hp_4 : PotW S x a1_z A) (hp_5 : EnR S x a1_z Ev) (hp_6 : RuR S x a1_z Rl) (hp_7 : IvQ (efind Ev).toInt A) (hp_8 : 1 ≤ (efind Ev).toInt) : Ci l yX12_tick wsX12_tick ({ frames := 8, cells := 0, slots := 0, locals := 384 }) G cy κ S sz [.ref x, .int (a1)] (fun (r : Int32) (S9 : PS) => Ok MTK S S9 ∧ (((MI S9 x ∧ GR S9 x ∧ ZM S S9 x ∧ PotW S9 x a1_z (ticF Ev Rl A).1 ∧ PwX S S9 x a1_z ∧ (ticF Ev Rl A).2 ∧ WsT S S9 x Ev A (ticF Ev Rl A).1) ∧ r = 1) ∨ ((MI S9 x ∧ GR S9 x ∧ ZM S S9 x ∧ PotW S9 x a1_z (ticF Ev Rl A).1 ∧ PwX S S9 x a1_z ∧ ¬ (ticF Ev Rl A).2 ∧ WsT S S9 x Ev A (ticF Ev Rl A).1) ∧ r = 0))) := by
  refine ent_m (cc := cX12_tick) (maxL := 6) (ret := (some .boolean)) (by decide) rfl (Nat.le_of_ble_eq_true rfl) ?_
  intro p e s m below meth c ls X hr hlocks hin hw hl hsz
  subst hsz
  have X : Cx p c cX12_tick 6 s [.ref x, .int (a1)].toArray wsX12_tick RX12 m G cy κ (AS S s.heap.size) := X
  have hl : lv_has ls 6 [(0, .ref x), (1, .int (a1))] := hl
  have rg_a1 : (-2147483648) ≤ a1_z ∧ a1_z ≤ 2147483647 := by rw [← hz_a1]; exact ⟨z_lo _, z_hi _⟩
  have hO : Ok MTK S S := Ok.rf hG
  generalize hQQ : MQ below _ _ _ _ _ _ = QQ
  replace hQQ := hQQ.symm
  obtain ⟨v_1, ev_1⟩ : ∃ v, pI S 1201 x = v := ⟨_, rfl⟩
  have rg_2 := gI_12_1201 hO.1 ha_x; rw [ev_1] at rg_2
  have pz_3 : (pI S 1201 x).toInt = v_1.toInt := by rw [ev_1]
  have pz_4 : (pI S 1201 x).toInt = v_1.toInt := (congrArg Int32.toInt ev_1).trans rfl
  have hzm0 : ZM S S x := ZM_rf S x
  have hpw := hp_4
  obtain ⟨pw_5, pw_6, pw_7, pw_8, pw_9, pw_10, pw_11, pw_12, pw_13, pw_14⟩ := hpw
  obtain ⟨v_15, ev_15⟩ : ∃ v, pI S 1238 x = v := ⟨_, rfl⟩
  have rg_16 := gI_12_1238 hO.1 ha_x; rw [ev_15] at rg_16
  have pz_17 : (pI S 1238 x).toInt = v_15.toInt := by rw [ev_15]
  have pz_18 : (pI S 1238 x).toInt = v_15.toInt := (congrArg Int32.toInt ev_15).trans rfl
  have sl_19 := pw_10.1
  have sl_20 := pw_13.1
  refine lv_aload_n X.1 X.2.1 dX12_tick_0 rfl (lv_at hl 0 rfl) ?_
  obtain ⟨q_21, h_22, h_23, h_24⟩ := gQ_12_1217 hO.1 ha_x
  refine r_getR (g := 1217) X hw ha_x rfl 17 h_22 (by decide) rfl inn_X12_tick_12 (by decide) (X.2.2.2.1 (.fieldLink RX12 52 "SilkMillModel" "ticksEver" "[I") (by decide +kernel)) rfl (gv_1217 _ _) dX12_tick_1 ?_
  refine lv_iload_n X.1 X.2.1 dX12_tick_4 rfl (lv_at hl 1 rfl) ?_
  refine lv_dup2_11 X.1 X.2.1 dX12_tick_5 rfl rfl ?_
  refine r_iald X hw h_23 rfl (by rw [h_24]; exact z_ix hz_a1 (by omega) (by omega)) dX12_tick_6 ?_
  refine lv_topi (fun v_25 ev_25 => ?_)
  have rg_26 := And.intro (z_lo v_25) (z_hi v_25)
  have ev_25 := ev_25.symm
  have zf_27 : zA S x 1217 (a1_z).toNat = v_25.toInt := (zA_of h_22 hz_a1 (by omega) ev_25)
  have us_28 : v_25 = (qtk A) := Int32.toInt_inj.mp (rfl.trans (zf_27.symm.trans pw_12))
  refine lv_iconst (v := 1) X.1 X.2.1 dX12_tick_7 (by decide) ?_
  refine lv_iadd X.1 X.2.1 dX12_tick_8 ?_
  refine lv_topi (fun v_29 ev_29 => ?_)
  have rg_30 := And.intro (z_lo v_29) (z_hi v_29)
  refine r_iast X hw h_23 rfl (by rw [h_24]; exact z_ix hz_a1 (by omega) (by omega)) dX12_tick_9 (fun H locs hw => ?_)
  obtain ⟨S_31, eS_31⟩ : ∃ T, T = sA S q_21 (upd (pA S q_21) (Int32.toNatClampNeg (a1)) (v_29)) := ⟨_, rfl⟩
  rw [← eS_31] at hw
  have hO_32 : Ok MTK S S_31 := hO.sA eS_31 h_23 (by decide +kernel) (uA_554 hO.1 h_23)
  have h_33 : pA S_31 q_21 (Int32.toNatClampNeg (a1)) = v_29 := tA_sAs eS_31
  have t_34 : pR S_31 1217 x = some q_21 := tR_sA eS_31 h_22
  have t_36 : pR S 1217 x = some q_21 := by have h := t_34; rw [eS_31, pR_sA] at h; exact h
  have zs_35 : ∀ j, zA S_31 x 1217 j = if j = (a1_z).toNat then v_29.toInt else zA S x 1217 j := by have h := zA_sAs eS_31 t_36 rfl; rw [z_nc hz_a1 (by omega)] at h; exact h
  have t_46 : pI S_31 1201 x = v_1 := tI_sA eS_31 ev_1
  have L_37 : ∀ (T_38 : PS) (H : Heap) (locs : List Loc) (ls : Array Slot) , (Wd G cy (AS S s.heap.size) s.heap T_38 H locs) → (At T_38 x 12) → (Ok MTK S T_38) → (MIe T_38 x (-1)) → (GR T_38 x) → (ZM S T_38 x) → (PotW T_38 x a1_z (seaF Ev (wtk A (qtk A + 1)))) → (PwX S T_38 x a1_z) → (WsT S T_38 x Ev A (seaF Ev (wtk A (qtk A + 1)))) → (pI T_38 1201 x = v_1) → (lv_has ls 6 [(0, .ref x), (1, .int (a1))]) → W p l e ({ frames := 8, cells := 0, slots := 0, locals := 384 }) s m [.ref x, .int (a1)].toArray below meth c H locs 0 0 QQ (F0 m 87 ls []) := by
    intro T_38 H locs ls  hw ha_x_L_39 hO_T_38 mk_40 iv_41 iv_42 iv_43 iv_44 iv_45 ik_47 hl
    have pz_48 : (pI T_38 1201 x).toInt = v_1.toInt := (congrArg Int32.toInt ik_47).trans rfl
    have hpw_49 := iv_43
    obtain ⟨pw_50, pw_51, pw_52, pw_53, pw_54, pw_55, pw_56, pw_57, pw_58, pw_59⟩ := hpw_49
    obtain ⟨v_60, ev_60⟩ : ∃ v, pI T_38 1238 x = v := ⟨_, rfl⟩
    have rg_61 := gI_12_1238 hO_T_38.1 ha_x_L_39; rw [ev_60] at rg_61
    have pz_62 : (pI T_38 1238 x).toInt = v_60.toInt := by rw [ev_60]
    have pz_63 : (pI T_38 1238 x).toInt = v_60.toInt := (congrArg Int32.toInt ev_60).trans rfl
    have sl_64 := pw_55.1
    have sl_65 := pw_58.1
    refine lv_aload_n X.1 X.2.1 dX12_tick_87 rfl (lv_at hl 0 rfl) ?_
    have L_66 : ∀ (T_67 : PS) (H : Heap) (locs : List Loc) (ls : Array Slot) , (Wd G cy (AS S s.heap.size) s.heap T_67 H locs) → (At T_67 x 12) → (Ok MTK S T_67) → (MIe T_67 x (-1)) → (GR T_67 x) → (ZM S T_67 x) → (PotW T_67 x a1_z (ticB Ev Rl A)) → (PwX S T_67 x a1_z) → (WsT S T_67 x Ev A (ticB Ev Rl A)) → (pI T_67 1201 x = v_1) → (lv_has ls 6 [(0, .ref x), (1, .int (a1))]) → W p l e ({ frames := 8, cells := 0, slots := 0, locals := 384 }) s m [.ref x, .int (a1)].toArray below meth c H locs 0 0 QQ (F0 m 137 ls []) := by
      intro T_67 H locs ls  hw ha_x_L_68 hO_T_67 mk_69 iv_70 iv_71 iv_72 iv_73 iv_74 ik_75 hl
      have pz_76 : (pI T_67 1201 x).toInt = v_1.toInt := (congrArg Int32.toInt ik_75).trans rfl
      have hpw_77 := iv_72
      obtain ⟨pw_78, pw_79, pw_80, pw_81, pw_82, pw_83, pw_84, pw_85, pw_86, pw_87⟩ := hpw_77
      obtain ⟨v_88, ev_88⟩ : ∃ v, pI T_67 1238 x = v := ⟨_, rfl⟩
      have rg_89 := gI_12_1238 hO_T_67.1 ha_x_L_68; rw [ev_88] at rg_89
      have pz_90 : (pI T_67 1238 x).toInt = v_88.toInt := by rw [ev_88]
      have pz_91 : (pI T_67 1238 x).toInt = v_88.toInt := (congrArg Int32.toInt ev_88).trans rfl
      have sl_92 := pw_83.1
      have sl_93 := pw_86.1
      refine lv_aload_n X.1 X.2.1 dX12_tick_137 rfl (lv_at hl 0 rfl) ?_
      obtain ⟨q_94, h_95, h_96, h_97⟩ := gQ_12_1215 hO_T_67.1 ha_x_L_68
      refine r_getR (g := 1215) X hw ha_x_L_68 rfl 15 h_95 (by decide) rfl inn_X12_tick_12 (by decide) (X.2.2.2.1 (.fieldLink RX12 46 "SilkMillModel" "stop" "[I") (by decide +kernel)) rfl (gv_1215 _ _) dX12_tick_138 ?_
      refine lv_iload_n X.1 X.2.1 dX12_tick_141 rfl (lv_at hl 1 rfl) ?_
      refine r_iald X hw h_96 rfl (by rw [h_97]; exact z_ix hz_a1 (by omega) (by omega)) dX12_tick_142 ?_
      refine lv_topi (fun v_98 ev_98 => ?_)
      have rg_99 := And.intro (z_lo v_98) (z_hi v_98)
      have ev_98 := ev_98.symm
      have zf_100 : zA T_67 x 1215 (a1_z).toNat = v_98.toInt := (zA_of h_95 hz_a1 (by omega) ev_98)
      have us_101 : v_98 = (qst (ticB Ev Rl A)) := Int32.toInt_inj.mp (rfl.trans (zf_100.symm.trans pw_81))
      refine lv_if_le (tgt := 158) X.1 X.2.1 dX12_tick_143 (by decide) (fun c_102 => ?_) (fun c_102 => ?_)
      · have z_b_103 := trivial
        have k_104 : v_98.toInt ≤ 0 := z_le rfl ti_0 c_102
        refine lv_aload_n X.1 X.2.1 dX12_tick_158 rfl (lv_at hl 0 rfl) ?_
        refine lv_iload_n X.1 X.2.1 dX12_tick_159 rfl (lv_at hl 1 rfl) ?_
        refine lv_iconst (v := 1) X.1 X.2.1 dX12_tick_160 (by decide) ?_
        have ln_105 : zA T_67 x 1219 (3 * a1_z + 1).toNat = (((qe (ticB Ev Rl A))).length : Int) := pw_79.1
        refine k_i (rm := { frames := 1, cells := 0, slots := 0, locals := 48 }) (av := [.ref x, .int (a1), .int 1]) X hw (va_runV (As := [.int (a1), .int 1]) (rest := []) (cfix X) (k_X12_many2 l G cy κ T_67 _ x (a1) (a1_z) (1) (1) hO_T_67.1 ha_x_L_68 hz_a1 ti_1 (by first | assumption | omega) (by first | assumption | omega) (by first | assumption | omega) (by first | assumption | omega)) (cwV 2 X.2.2.2.1 gX12_tick_X12_many rfl rfl rfl (by decide +kernel) ⟨Nat.le_of_ble_eq_true rfl, Nat.le_of_ble_eq_true rfl⟩) (pre_V X hw _ ha_x_L_68 rfl (by decide) rfl) rfl rfl hl.1 rfl (lv_room (Nat.le_of_ble_eq_true rfl)) dX12_tick_161 ⟨Nat.le_of_ble_eq_true rfl, Nat.le_of_ble_eq_true rfl⟩) 0 0 (Nat.le_of_ble_eq_true rfl) (Nat.le_of_ble_eq_true rfl) (fun rr_106 S_107 H locs hp hw hfr hnw => ?_)
        obtain ⟨e2, hp⟩ := hp
        subst e2
        obtain ⟨f_108, f_109, f_110⟩ := hp
        refine lv_istore_n (lv' := [(2, .int (rr_106)), (0, .ref x), (1, .int (a1))]) X.1 X.2.1 dX12_tick_164 rfl hl (by decide) rfl (fun ls hl => ?_)
        refine lv_iload_n X.1 X.2.1 dX12_tick_165 rfl (lv_at hl 0 rfl) ?_
        refine lv_if_ne (tgt := 171) X.1 X.2.1 dX12_tick_166 (by decide) (fun c_111 => ?_) (fun c_111 => ?_)
        · have z_b_112 := trivial
          have k_113 : rr_106.toInt ≠ 0 := z_ne rfl ti_0 c_111
          have m4_114 := mk_69.2.2.2.1.1 a1_z.toNat (by omega); rw [show 3 * a1_z.toNat + 1 = (3 * a1_z + 1).toNat by omega] at m4_114
          have n12_115 : (qe (ticB Ev Rl A)).length ≤ 12 := by have := pw_79.1; omega
          have ne_116 : qe (ticB Ev Rl A) ≠ [] := fun z => by have e0 := congrArg List.length z; have e1 : ([] : List Nat).length = 0 := rfl; have := pw_79.1; omega
          refine lv_aload_n X.1 X.2.1 dX12_tick_171 rfl (lv_at hl 1 rfl) ?_
          refine lv_iload_n X.1 X.2.1 dX12_tick_172 rfl (lv_at hl 2 rfl) ?_
          refine k_i (rm := { frames := 1, cells := 0, slots := 0, locals := 48 }) (av := [.ref x, .int (a1)]) X hw (va_runV (As := [.int (a1)]) (rest := []) (cfix X) (k_X12_growing l G cy κ T_67 _ x (a1) (a1_z) hO_T_67.1 ha_x_L_68 hz_a1 (by first | assumption | omega) (by first | assumption | omega)) (cwV 1 X.2.2.2.1 gX12_tick_X12_growing rfl rfl rfl (by decide +kernel) ⟨Nat.le_of_ble_eq_true rfl, Nat.le_of_ble_eq_true rfl⟩) (pre_V X hw _ ha_x_L_68 rfl (by decide) rfl) rfl rfl hl.1 rfl (lv_room (Nat.le_of_ble_eq_true rfl)) dX12_tick_173 ⟨Nat.le_of_ble_eq_true rfl, Nat.le_of_ble_eq_true rfl⟩) 0 0 (Nat.le_of_ble_eq_true rfl) (Nat.le_of_ble_eq_true rfl) (fun rr_117 S_118 H locs hp hw hfr hnw => ?_)
          obtain ⟨e2, hp⟩ := hp
          subst e2
          have f_119 := hp
          refine lv_aload_n X.1 X.2.1 dX12_tick_176 rfl (lv_at hl 1 rfl) ?_
          obtain ⟨q_120, h_121, h_122, h_123⟩ := gQ_12_1237 hO_T_67.1 ha_x_L_68
          refine r_getR (g := 1237) X hw ha_x_L_68 rfl 37 h_121 (by decide) rfl inn_X12_tick_12 (by decide) (X.2.2.2.1 (.fieldLink RX12 97 "SilkMillModel" "grown" "[I") (by decide +kernel)) rfl (gv_1237 _ _) dX12_tick_177 ?_
          refine lv_iload_n X.1 X.2.1 dX12_tick_180 rfl (lv_at hl 2 rfl) ?_
          refine r_iald X hw h_122 rfl (by rw [h_123]; exact z_ix hz_a1 (by omega) (by omega)) dX12_tick_181 ?_
          refine lv_topi (fun v_124 ev_124 => ?_)
          have z_125 := gE_954 hO_T_67.1 h_122 (Int32.toNatClampNeg (a1)); rw [← ev_124] at z_125
          have ev_124 := ev_124.symm
          have zf_126 : zA T_67 x 1237 (a1_z).toNat = v_124.toInt := (zA_of h_121 hz_a1 (by omega) ev_124)
          have gl_127 := iv_70 (a1_z).toNat (by omega); rw [zf_126] at gl_127
          refine lv_iadd X.1 X.2.1 dX12_tick_182 ?_
          refine lv_topi (fun v_128 ev_128 => ?_)
          have z_129 : v_128.toInt = rr_117.toInt + v_124.toInt := z_add ev_128 rfl rfl (by omega) (by omega)
          refine lv_istore_n (lv' := [(3, .int (v_128)), (2, .int (rr_106)), (0, .ref x), (1, .int (a1))]) X.1 X.2.1 dX12_tick_183 rfl hl (by decide) rfl (fun ls hl => ?_)
          refine lv_aload_n X.1 X.2.1 dX12_tick_184 rfl (lv_at hl 2 rfl) ?_
          obtain ⟨q_130, h_131, h_132, h_133⟩ := gQ_12_1235 hO_T_67.1 ha_x_L_68
          refine r_getR (g := 1235) X hw ha_x_L_68 rfl 35 h_131 (by decide) rfl inn_X12_tick_12 (by decide) (X.2.2.2.1 (.fieldLink RX12 90 "SilkMillModel" "metreEnds" "[I") (by decide +kernel)) rfl (gv_1235 _ _) dX12_tick_185 ?_
          refine lv_iload_n X.1 X.2.1 dX12_tick_188 rfl (lv_at hl 0 rfl) ?_
          refine lv_iload_n X.1 X.2.1 dX12_tick_189 rfl (lv_at hl 1 rfl) ?_
          refine r_iast X hw h_132 rfl (by rw [h_133]; exact z_ix z_129 (by omega) (by omega)) dX12_tick_190 (fun H locs hw => ?_)
          obtain ⟨S_134, eS_134⟩ : ∃ T, T = sA T_67 q_130 (upd (pA T_67 q_130) (Int32.toNatClampNeg (v_128)) (rr_106)) := ⟨_, rfl⟩
          rw [← eS_134] at hw
          have hO_135 : Ok MTK S S_134 := hO_T_67.sA eS_134 h_132 (by decide +kernel) (uA_914 hO_T_67.1 h_132 (by omega) (by omega))
          have h_136 : pA S_134 q_130 (Int32.toNatClampNeg (v_128)) = rr_106 := tA_sAs eS_134
          have t_137 : pR S_134 1235 x = some q_130 := tR_sA eS_134 h_131
          have t_139 : pR T_67 1235 x = some q_130 := by have h := t_137; rw [eS_134, pR_sA] at h; exact h
          have zs_138 : ∀ j, zA S_134 x 1235 j = if j = ((rr_117.toInt + v_124.toInt)).toNat then rr_106.toInt else zA T_67 x 1235 j := by have h := zA_sAs eS_134 t_139 rfl; rw [z_nc z_129 (by omega)] at h; exact h
          have mt_140 : zA S_134 x 1235 ((rr_117.toInt + v_124.toInt)).toNat = rr_106.toInt := by rw [zs_138, if_pos rfl]
          refine lv_iconst (v := 0) X.1 X.2.1 dX12_tick_191 (by decide) ?_
          refine lv_istore (lv' := [(4, .int 0), (3, .int (v_128)), (2, .int (rr_106)), (0, .ref x), (1, .int (a1))]) X.1 X.2.1 dX12_tick_192 hl (by decide) rfl (fun ls hl => ?_)
          have zc_145 : zA S_134 x 1219 = zA T_67 x 1219 := zA_sAn eS_134 (ex3 (gQ_12_1219 hO_T_67.1 ha_x_L_68)) h_132 rfl
          have zc_147 : zA S_134 x 1237 = zA T_67 x 1237 := zA_sAn eS_134 (ex3 (gQ_12_1237 hO_T_67.1 ha_x_L_68)) h_132 rfl
          have t_157 : pI S_134 1201 x = v_1 := tI_sA eS_134 ik_75
          have L_141 : ∀ (n : Nat) (T_143 : PS) (H : Heap) (locs : List Loc) (ls : Array Slot) (i4_142 : Int32) (i4_142_z : Int), ((12 - i4_142_z).toNat = n) → (Wd G cy (AS S s.heap.size) s.heap T_143 H locs) → (i4_142.toInt = i4_142_z) → (0 ≤ i4_142_z ∧ i4_142_z ≤ 12) → (At T_143 x 12) → (Ok MTK S T_143) → (zA T_143 x 1219 = zA T_67 x 1219) → (zA T_143 x 1237 = zA T_67 x 1237) → (MIe T_143 x (-1)) → (ZM S T_143 x) → (PotW T_143 x a1_z (ticB Ev Rl A)) → (PwX S T_143 x a1_z) → (WsT S T_143 x Ev A (ticB Ev Rl A)) → (zA T_143 x 1235 ((rr_117.toInt + v_124.toInt)).toNat = rr_106.toInt) → (MtL T_143 x ((rr_117.toInt + v_124.toInt)) i4_142_z (qe (ticB Ev Rl A)) (qpl (ticB Ev Rl A))) → (i4_142_z ≤ rr_106.toInt) → (pI T_143 1201 x = v_1) → (lv_has ls 6 [(4, .int (i4_142)), (3, .int (v_128)), (2, .int (rr_106)), (0, .ref x), (1, .int (a1))]) → W p l e ({ frames := 8, cells := 0, slots := 0, locals := 384 }) s m [.ref x, .int (a1)].toArray below meth c H locs 0 0 QQ (F0 m 194 ls []) := by
            intro n
            induction n using Nat.strongRecOn with
            | ind n ih_L_141 =>
            intro T_143 H locs ls i4_142 i4_142_z hn hw hz_i4_142 hr_i4_142 ha_x_L_144 hO_T_143 zk_146 zk_148 mk_149 iv_150 iv_151 iv_152 iv_153 iv_154 iv_155 iv_156 ik_158 hl
            have rg_159 : (-2147483648) ≤ i4_142_z ∧ i4_142_z ≤ 2147483647 := by rw [← hz_i4_142]; exact ⟨z_lo _, z_hi _⟩
            have pz_160 : (pI T_143 1201 x).toInt = v_1.toInt := (congrArg Int32.toInt ik_158).trans rfl
            have hpw_161 := iv_151
            obtain ⟨pw_162, pw_163, pw_164, pw_165, pw_166, pw_167, pw_168, pw_169, pw_170, pw_171⟩ := hpw_161
            obtain ⟨v_172, ev_172⟩ : ∃ v, pI T_143 1238 x = v := ⟨_, rfl⟩
            have rg_173 := gI_12_1238 hO_T_143.1 ha_x_L_144; rw [ev_172] at rg_173
            have pz_174 : (pI T_143 1238 x).toInt = v_172.toInt := by rw [ev_172]
            have pz_175 : (pI T_143 1238 x).toInt = v_172.toInt := (congrArg Int32.toInt ev_172).trans rfl
            have sl_176 := pw_167.1
            have sl_177 := pw_170.1
            refine lv_iload X.1 X.2.1 dX12_tick_194 (lv_at hl 0 rfl) ?_
            refine lv_iload_n X.1 X.2.1 dX12_tick_196 rfl (lv_at hl 2 rfl) ?_
            refine lv_icmp_ge (tgt := 244) X.1 X.2.1 dX12_tick_197 (by decide) (fun c_178 => ?_) (fun c_178 => ?_)
            · have z_b_179 := trivial
              have k_180 : i4_142_z ≥ rr_106.toInt := z_le rfl hz_i4_142 c_178
              refine lv_aload_n X.1 X.2.1 dX12_tick_244 rfl (lv_at hl 3 rfl) ?_
              obtain ⟨q_181, h_182, h_183, h_184⟩ := gQ_12_1237 hO_T_143.1 ha_x_L_144
              refine r_getR (g := 1237) X hw ha_x_L_144 rfl 37 h_182 (by decide) rfl inn_X12_tick_12 (by decide) (X.2.2.2.1 (.fieldLink RX12 97 "SilkMillModel" "grown" "[I") (by decide +kernel)) rfl (gv_1237 _ _) dX12_tick_245 ?_
              refine lv_iload_n X.1 X.2.1 dX12_tick_248 rfl (lv_at hl 4 rfl) ?_
              refine lv_dup2_11 X.1 X.2.1 dX12_tick_249 rfl rfl ?_
              refine r_iald X hw h_183 rfl (by rw [h_184]; exact z_ix hz_a1 (by omega) (by omega)) dX12_tick_250 ?_
              refine lv_topi (fun v_185 ev_185 => ?_)
              have z_186 := gE_954 hO_T_143.1 h_183 (Int32.toNatClampNeg (a1)); rw [← ev_185] at z_186
              have ev_185 := ev_185.symm
              have zf_187 : zA T_143 x 1237 (a1_z).toNat = v_185.toInt := (zA_of h_182 hz_a1 (by omega) ev_185)
              have gl_188 := (GR_eq zk_148 iv_70) (a1_z).toNat (by omega); rw [zf_187] at gl_188
              have zf_189 : zA T_143 x 1237 (a1_z).toNat = v_185.toInt := (zA_of h_182 hz_a1 (by omega) ev_185)
              have gl_190 : v_185.toInt = ((qg (ticB Ev Rl A)).length : Int) := by rw [← pw_167.1, ← zf_189, show a1_z.toNat = (a1_z).toNat by omega]
              refine lv_iconst (v := 1) X.1 X.2.1 dX12_tick_251 (by decide) ?_
              refine lv_iadd X.1 X.2.1 dX12_tick_252 ?_
              refine lv_topi (fun v_191 ev_191 => ?_)
              have z_192 : v_191.toInt = v_185.toInt + 1 := z_add ev_191 rfl ti_1 (by omega) (by omega)
              refine r_iast X hw h_183 rfl (by rw [h_184]; exact z_ix hz_a1 (by omega) (by omega)) dX12_tick_253 (fun H locs hw => ?_)
              obtain ⟨S_193, eS_193⟩ : ∃ T, T = sA T_143 q_181 (upd (pA T_143 q_181) (Int32.toNatClampNeg (a1)) (v_191)) := ⟨_, rfl⟩
              rw [← eS_193] at hw
              have hO_194 : Ok MTK S S_193 := hO_T_143.sA eS_193 h_183 (by decide +kernel) (uA_954 hO_T_143.1 h_183 (by omega) (by omega))
              have h_195 : pA S_193 q_181 (Int32.toNatClampNeg (a1)) = v_191 := tA_sAs eS_193
              have t_196 : pR S_193 1237 x = some q_181 := tR_sA eS_193 h_182
              have t_198 : pR T_143 1237 x = some q_181 := by have h := t_196; rw [eS_193, pR_sA] at h; exact h
              have zs_197 : ∀ j, zA S_193 x 1237 j = if j = (a1_z).toNat then (v_185.toInt + 1) else zA T_143 x 1237 j := by have h := zA_sAs eS_193 t_198 z_192; rw [z_nc hz_a1 (by omega)] at h; exact h
              have zs_199 : ∀ j, zA S_193 x 1237 j = if j = (a1_z).toNat then (v_185.toInt + 1) else zA T_67 x 1237 j := fun j => by rw [zs_197 j, zk_148]
              have gb_200 : GR T_143 x := (GR_eq zk_148 iv_70)
              have t_202 : pR T_143 1237 x = some q_181 := by have h := t_196; rw [eS_193, pR_sA] at h; exact h
              have zs_201 : ∀ j, zA S_193 x 1237 j = if j = (a1_z).toNat then (v_185.toInt + 1) else zA T_143 x 1237 j := by have h := zA_sAs eS_193 t_202 z_192; rw [z_nc hz_a1 (by omega)] at h; exact h
              have t_204 : pR T_143 1237 x = some q_181 := by have h := t_196; rw [eS_193, pR_sA] at h; exact h
              have zs_203 : ∀ j, zA S_193 x 1237 j = if j = (a1_z).toNat then (v_185.toInt + 1) else zA T_143 x 1237 j := by have h := zA_sAs eS_193 t_204 z_192; rw [z_nc hz_a1 (by omega)] at h; exact h
              refine lv_aload_n X.1 X.2.1 dX12_tick_254 rfl (lv_at hl 3 rfl) ?_
              have t_205 : At S_193 x 12 := tAt_sA eS_193 ha_x_L_144
              obtain ⟨q_206, h_207, h_208, h_209⟩ := gQ_12_1216 hO_194.1 t_205
              refine r_getR (g := 1216) X hw t_205 rfl 16 h_207 (by decide) rfl inn_X12_tick_12 (by decide) (X.2.2.2.1 (.fieldLink RX12 49 "SilkMillModel" "drawnEver" "[I") (by decide +kernel)) rfl (gv_1216 _ _) dX12_tick_255 ?_
              refine lv_iload_n X.1 X.2.1 dX12_tick_258 rfl (lv_at hl 4 rfl) ?_
              refine lv_dup2_11 X.1 X.2.1 dX12_tick_259 rfl rfl ?_
              refine r_iald X hw h_208 rfl (by rw [h_209]; exact z_ix hz_a1 (by omega) (by omega)) dX12_tick_260 ?_
              refine lv_topi (fun v_210 ev_210 => ?_)
              have rg_211 := And.intro (z_lo v_210) (z_hi v_210)
              have ev_210 := ev_210.symm
              have zR_212 : zA S_193 x 1216 a1_z.toNat = ((qdr (ticB Ev Rl A))).toInt := (congrFun (zA_sAn eS_193 (ex3 (gQ_12_1216 hO_T_143.1 ha_x_L_144)) h_183 rfl) _).trans pw_168
              have zf_213 : zA S_193 x 1216 (a1_z).toNat = v_210.toInt := (zA_of h_207 hz_a1 (by omega) ev_210)
              have us_214 : v_210 = (qdr (ticB Ev Rl A)) := Int32.toInt_inj.mp (rfl.trans (zf_213.symm.trans zR_212))
              refine lv_iconst (v := 1) X.1 X.2.1 dX12_tick_261 (by decide) ?_
              refine lv_iadd X.1 X.2.1 dX12_tick_262 ?_
              refine lv_topi (fun v_215 ev_215 => ?_)
              have rg_216 := And.intro (z_lo v_215) (z_hi v_215)
              refine r_iast X hw h_208 rfl (by rw [h_209]; exact z_ix hz_a1 (by omega) (by omega)) dX12_tick_263 (fun H locs hw => ?_)
              obtain ⟨S_217, eS_217⟩ : ∃ T, T = sA S_193 q_206 (upd (pA S_193 q_206) (Int32.toNatClampNeg (a1)) (v_215)) := ⟨_, rfl⟩
              rw [← eS_217] at hw
              have hO_218 : Ok MTK S S_217 := hO_194.sA eS_217 h_208 (by decide +kernel) (uA_534 hO_194.1 h_208)
              have h_219 : pA S_217 q_206 (Int32.toNatClampNeg (a1)) = v_215 := tA_sAs eS_217
              have t_220 : pR S_217 1216 x = some q_206 := tR_sA eS_217 h_207
              have t_222 : pR S_193 1216 x = some q_206 := by have h := t_220; rw [eS_217, pR_sA] at h; exact h
              have zs_221 : ∀ j, zA S_217 x 1216 j = if j = (a1_z).toNat then v_215.toInt else zA S_193 x 1216 j := by have h := zA_sAs eS_217 t_222 rfl; rw [z_nc hz_a1 (by omega)] at h; exact h
              refine lv_iconst (v := 0) X.1 X.2.1 dX12_tick_264 (by decide) ?_
              refine lv_istore (lv' := [(4, .int 0), (3, .int (v_128)), (2, .int (rr_106)), (0, .ref x), (1, .int (a1))]) X.1 X.2.1 dX12_tick_265 hl (by decide) rfl (fun ls hl => ?_)
              have zc_227 : zA S_217 x 1237 = zA S_193 x 1237 := zA_sAn eS_217 (ex3 (gQ_12_1237 hO_194.1 t_205)) h_208 rfl
              have t_234 : pI S_193 1201 x = v_1 := tI_sA eS_193 ik_158
              have t_235 : pI S_217 1201 x = v_1 := tI_sA eS_217 t_234
              have L_223 : ∀ (n : Nat) (T_225 : PS) (H : Heap) (locs : List Loc) (ls : Array Slot) (i4_224 : Int32) (i4_224_z : Int), ((zA T_225 x 1219 (3 * a1_z + 1).toNat - i4_224_z).toNat = n) → (Wd G cy (AS S s.heap.size) s.heap T_225 H locs) → (i4_224.toInt = i4_224_z) → (0 ≤ i4_224_z ∧ i4_224_z ≤ 600) → (At T_225 x 12) → (Ok MTK S T_225) → (zA T_225 x 1237 = zA S_193 x 1237) → (MIe T_225 x (-1)) → (ZM S T_225 x) → (∃ dn rs, qe (ticB Ev Rl A) = dn ++ rs ∧ PotW T_225 x a1_z (we (folF Ev dn (we (wdr (wg (ticB Ev Rl A) (capG (qg (ticB Ev Rl A)) ((qe (ticB Ev Rl A)).map (fun c => (c, qpl (ticB Ev Rl A) c))))) (qdr (ticB Ev Rl A) + 1)) [])) (qe (folF Ev dn (we (wdr (wg (ticB Ev Rl A) (capG (qg (ticB Ev Rl A)) ((qe (ticB Ev Rl A)).map (fun c => (c, qpl (ticB Ev Rl A) c))))) (qdr (ticB Ev Rl A) + 1)) [])) ++ rs)) ∧ i4_224_z = ((qe (folF Ev dn (we (wdr (wg (ticB Ev Rl A) (capG (qg (ticB Ev Rl A)) ((qe (ticB Ev Rl A)).map (fun c => (c, qpl (ticB Ev Rl A) c))))) (qdr (ticB Ev Rl A) + 1)) []))).length : Int)) → (PwX S T_225 x a1_z) → (WsT S T_225 x Ev A (ticB Ev Rl A)) → (pI T_225 1201 x = v_1) → (lv_has ls 6 [(4, .int (i4_224)), (3, .int (v_128)), (2, .int (rr_106)), (0, .ref x), (1, .int (a1))]) → W p l e ({ frames := 8, cells := 0, slots := 0, locals := 384 }) s m [.ref x, .int (a1)].toArray below meth c H locs 0 0 QQ (F0 m 267 ls []) := by
                intro n
                induction n using Nat.strongRecOn with
                | ind n ih_L_223 =>
                intro T_225 H locs ls i4_224 i4_224_z hn hw hz_i4_224 hr_i4_224 ha_x_L_226 hO_T_225 zk_228 mk_229 iv_230 iv_231 iv_232 iv_233 ik_236 hl
                have rg_237 : (-2147483648) ≤ i4_224_z ∧ i4_224_z ≤ 2147483647 := by rw [← hz_i4_224]; exact ⟨z_lo _, z_hi _⟩
                have pz_238 : (pI T_225 1201 x).toInt = v_1.toInt := (congrArg Int32.toInt ik_236).trans rfl
                obtain ⟨dn_239, rs_240, ed_241, hpw_242, ek_243⟩ := iv_231
                have hpw_244 := hpw_242
                obtain ⟨pw_245, pw_246, pw_247, pw_248, pw_249, pw_250, pw_251, pw_252, pw_253, pw_254⟩ := hpw_244
                obtain ⟨v_255, ev_255⟩ : ∃ v, pI T_225 1238 x = v := ⟨_, rfl⟩
                have rg_256 := gI_12_1238 hO_T_225.1 ha_x_L_226; rw [ev_255] at rg_256
                have pz_257 : (pI T_225 1238 x).toInt = v_255.toInt := by rw [ev_255]
                have pz_258 : (pI T_225 1238 x).toInt = v_255.toInt := (congrArg Int32.toInt ev_255).trans rfl
                have sl_259 := pw_250.1
                have sl_260 := pw_253.1
                have fw_261 : RowR T_225 x (3 * a1_z + 0).toNat (qb (folF Ev dn_239 (we (wdr (wg (ticB Ev Rl A) (capG (qg (ticB Ev Rl A)) ((qe (ticB Ev Rl A)).map (fun c => (c, qpl (ticB Ev Rl A) c))))) (qdr (ticB Ev Rl A) + 1)) []))) := pw_245
                have fw_262 : RowR T_225 x (3 * a1_z + 1).toNat (qe (folF Ev dn_239 (we (wdr (wg (ticB Ev Rl A) (capG (qg (ticB Ev Rl A)) ((qe (ticB Ev Rl A)).map (fun c => (c, qpl (ticB Ev Rl A) c))))) (qdr (ticB Ev Rl A) + 1)) [])) ++ rs_240) := pw_246
                have fw_263 : RowR T_225 x (3 * a1_z + 2).toNat (ql (folF Ev dn_239 (we (wdr (wg (ticB Ev Rl A) (capG (qg (ticB Ev Rl A)) ((qe (ticB Ev Rl A)).map (fun c => (c, qpl (ticB Ev Rl A) c))))) (qdr (ticB Ev Rl A) + 1)) []))) := pw_247
                have lq_264 : ((qe (folF Ev dn_239 (we (wdr (wg (ticB Ev Rl A) (capG (qg (ticB Ev Rl A)) ((qe (ticB Ev Rl A)).map (fun c => (c, qpl (ticB Ev Rl A) c))))) (qdr (ticB Ev Rl A) + 1)) [])) ++ rs_240).length : Int) = ((qe (folF Ev dn_239 (we (wdr (wg (ticB Ev Rl A) (capG (qg (ticB Ev Rl A)) ((qe (ticB Ev Rl A)).map (fun c => (c, qpl (ticB Ev Rl A) c))))) (qdr (ticB Ev Rl A) + 1)) []))).length : Int) + (rs_240.length : Int) := by rw [List.length_append]; rfl
                have ln_265 : zA T_225 x 1219 (3 * a1_z + 1).toNat = (((qe (folF Ev dn_239 (we (wdr (wg (ticB Ev Rl A) (capG (qg (ticB Ev Rl A)) ((qe (ticB Ev Rl A)).map (fun c => (c, qpl (ticB Ev Rl A) c))))) (qdr (ticB Ev Rl A) + 1)) [])) ++ rs_240)).length : Int) := fw_262.1
                have ln_266 : zA T_225 x 1219 (3 * a1_z + 2).toNat = (((ql (folF Ev dn_239 (we (wdr (wg (ticB Ev Rl A) (capG (qg (ticB Ev Rl A)) ((qe (ticB Ev Rl A)).map (fun c => (c, qpl (ticB Ev Rl A) c))))) (qdr (ticB Ev Rl A) + 1)) [])))).length : Int) := fw_263.1
                have fw_267 : PlZ T_225 x (qpl (folF Ev dn_239 (we (wdr (wg (ticB Ev Rl A) (capG (qg (ticB Ev Rl A)) ((qe (ticB Ev Rl A)).map (fun c => (c, qpl (ticB Ev Rl A) c))))) (qdr (ticB Ev Rl A) + 1)) []))) (qsd (folF Ev dn_239 (we (wdr (wg (ticB Ev Rl A) (capG (qg (ticB Ev Rl A)) ((qe (ticB Ev Rl A)).map (fun c => (c, qpl (ticB Ev Rl A) c))))) (qdr (ticB Ev Rl A) + 1)) []))) := pw_254
                have fw_268 : zA T_225 x 1215 a1_z.toNat = (qst (folF Ev dn_239 (we (wdr (wg (ticB Ev Rl A) (capG (qg (ticB Ev Rl A)) ((qe (ticB Ev Rl A)).map (fun c => (c, qpl (ticB Ev Rl A) c))))) (qdr (ticB Ev Rl A) + 1)) []))).toInt := pw_248
                have fw_269 : zA T_225 x 1214 a1_z.toNat = (qse (folF Ev dn_239 (we (wdr (wg (ticB Ev Rl A) (capG (qg (ticB Ev Rl A)) ((qe (ticB Ev Rl A)).map (fun c => (c, qpl (ticB Ev Rl A) c))))) (qdr (ticB Ev Rl A) + 1)) []))).toInt := pw_249
                have fw_270 : zA T_225 x 1216 a1_z.toNat = (qdr (folF Ev dn_239 (we (wdr (wg (ticB Ev Rl A) (capG (qg (ticB Ev Rl A)) ((qe (ticB Ev Rl A)).map (fun c => (c, qpl (ticB Ev Rl A) c))))) (qdr (ticB Ev Rl A) + 1)) []))).toInt := pw_251
                have fw_271 : zA T_225 x 1217 a1_z.toNat = (qtk (folF Ev dn_239 (we (wdr (wg (ticB Ev Rl A) (capG (qg (ticB Ev Rl A)) ((qe (ticB Ev Rl A)).map (fun c => (c, qpl (ticB Ev Rl A) c))))) (qdr (ticB Ev Rl A) + 1)) []))).toInt := pw_252
                have fw_272 : GrW T_225 x a1_z.toNat (qg (folF Ev dn_239 (we (wdr (wg (ticB Ev Rl A) (capG (qg (ticB Ev Rl A)) ((qe (ticB Ev Rl A)).map (fun c => (c, qpl (ticB Ev Rl A) c))))) (qdr (ticB Ev Rl A) + 1)) []))) := pw_250
                have fw_273 : SkW T_225 x (qsk (folF Ev dn_239 (we (wdr (wg (ticB Ev Rl A) (capG (qg (ticB Ev Rl A)) ((qe (ticB Ev Rl A)).map (fun c => (c, qpl (ticB Ev Rl A) c))))) (qdr (ticB Ev Rl A) + 1)) []))) := pw_253
                have kq_274 : (pI T_225 1238 x).toInt = ((qsk (folF Ev dn_239 (we (wdr (wg (ticB Ev Rl A) (capG (qg (ticB Ev Rl A)) ((qe (ticB Ev Rl A)).map (fun c => (c, qpl (ticB Ev Rl A) c))))) (qdr (ticB Ev Rl A) + 1)) []))).length : Int) := pw_253.1
                have gq_275 : zA T_225 x 1237 a1_z.toNat = ((qg (folF Ev dn_239 (we (wdr (wg (ticB Ev Rl A) (capG (qg (ticB Ev Rl A)) ((qe (ticB Ev Rl A)).map (fun c => (c, qpl (ticB Ev Rl A) c))))) (qdr (ticB Ev Rl A) + 1)) []))).length : Int) := fw_272.1
                have en_276 : EnR T_225 x a1_z Ev := EnR_fr hG ha_x hO_T_225.fr (by decide +kernel) hp_5
                refine lv_iload X.1 X.2.1 dX12_tick_267 (lv_at hl 0 rfl) ?_
                refine lv_aload_n X.1 X.2.1 dX12_tick_269 rfl (lv_at hl 3 rfl) ?_
                refine lv_iload_n X.1 X.2.1 dX12_tick_270 rfl (lv_at hl 4 rfl) ?_
                refine lv_iconst (v := 1) X.1 X.2.1 dX12_tick_271 (by decide) ?_
                refine k_i (rm := { frames := 1, cells := 0, slots := 0, locals := 48 }) (av := [.ref x, .int (a1), .int 1]) X hw (va_runV (As := [.int (a1), .int 1]) (rest := [.int (i4_224)]) (cfix X) (k_X12_many2 l G cy κ T_225 _ x (a1) (a1_z) (1) (1) hO_T_225.1 ha_x_L_226 hz_a1 ti_1 (by first | assumption | omega) (by first | assumption | omega) (by first | assumption | omega) (by first | assumption | omega)) (cwV 2 X.2.2.2.1 gX12_tick_X12_many rfl rfl rfl (by decide +kernel) ⟨Nat.le_of_ble_eq_true rfl, Nat.le_of_ble_eq_true rfl⟩) (pre_V X hw _ ha_x_L_226 rfl (by decide) rfl) rfl rfl hl.1 rfl (lv_room (Nat.le_of_ble_eq_true rfl)) dX12_tick_272 ⟨Nat.le_of_ble_eq_true rfl, Nat.le_of_ble_eq_true rfl⟩) 0 0 (Nat.le_of_ble_eq_true rfl) (Nat.le_of_ble_eq_true rfl) (fun rr_277 S_278 H locs hp hw hfr hnw => ?_)
                obtain ⟨e2, hp⟩ := hp
                subst e2
                obtain ⟨f_279, f_280, f_281⟩ := hp
                refine lv_icmp_ge (tgt := 379) X.1 X.2.1 dX12_tick_275 (by decide) (fun c_282 => ?_) (fun c_282 => ?_)
                · have z_b_283 := trivial
                  have k_284 : i4_224_z ≥ rr_277.toInt := z_le rfl hz_i4_224 c_282
                  have rz_285 : rs_240 = [] := List.eq_nil_of_length_eq_zero (by omega)
                  have db_286 : drwB Ev (ticB Ev Rl A) = (we (folF Ev dn_239 (we (wdr (wg (ticB Ev Rl A) (capG (qg (ticB Ev Rl A)) ((qe (ticB Ev Rl A)).map (fun c => (c, qpl (ticB Ev Rl A) c))))) (qdr (ticB Ev Rl A) + 1)) [])) (qe (folF Ev dn_239 (we (wdr (wg (ticB Ev Rl A) (capG (qg (ticB Ev Rl A)) ((qe (ticB Ev Rl A)).map (fun c => (c, qpl (ticB Ev Rl A) c))))) (qdr (ticB Ev Rl A) + 1)) [])) ++ rs_240)) := (dr_end (A := A) (B := (wdr (wg (ticB Ev Rl A) (capG (qg (ticB Ev Rl A)) ((qe (ticB Ev Rl A)).map (fun c => (c, qpl (ticB Ev Rl A) c))))) (qdr (ticB Ev Rl A) + 1))) ed_241 rz_285 (show (qe (wdr (wg (ticB Ev Rl A) (capG (qg (ticB Ev Rl A)) ((qe (ticB Ev Rl A)).map (fun c => (c, qpl (ticB Ev Rl A) c))))) (qdr (ticB Ev Rl A) + 1))).length ≤ 12 from n12_115)).symm
                  have gl_287 := fw_272.1
                  refine lv_aload_n X.1 X.2.1 dX12_tick_379 rfl (lv_at hl 3 rfl) ?_
                  obtain ⟨q_288, h_289, h_290, h_291⟩ := gQ_12_1237 hO_T_225.1 ha_x_L_226
                  refine r_getR (g := 1237) X hw ha_x_L_226 rfl 37 h_289 (by decide) rfl inn_X12_tick_12 (by decide) (X.2.2.2.1 (.fieldLink RX12 97 "SilkMillModel" "grown" "[I") (by decide +kernel)) rfl (gv_1237 _ _) dX12_tick_380 ?_
                  refine lv_iload_n X.1 X.2.1 dX12_tick_383 rfl (lv_at hl 4 rfl) ?_
                  refine r_iald X hw h_290 rfl (by rw [h_291]; exact z_ix hz_a1 (by omega) (by omega)) dX12_tick_384 ?_
                  refine lv_topi (fun v_292 ev_292 => ?_)
                  have z_293 := gE_954 hO_T_225.1 h_290 (Int32.toNatClampNeg (a1)); rw [← ev_292] at z_293
                  have ev_292 := ev_292.symm
                  have zf_294 : zA T_225 x 1237 (a1_z).toNat = v_292.toInt := (zA_of h_289 hz_a1 (by omega) ev_292)
                  have zz_295 := congrFun zk_228 (a1_z).toNat
                  have zz_296 := zs_201 (a1_z).toNat; rw [if_pos rfl] at zz_296
                  refine lv_sipush (v := 300) X.1 X.2.1 dX12_tick_385 (by decide) ?_
                  refine lv_icmp_ne (tgt := 400) X.1 X.2.1 dX12_tick_388 (by decide) (fun c_297 => ?_) (fun c_297 => ?_)
                  · have z_b_298 := trivial
                    have k_299 : v_292.toInt ≠ 300 := z_ne rfl ti_300 c_297
                    refine lv_iconst (v := 1) X.1 X.2.1 dX12_tick_400 (by decide) ?_
                    have pz_300 : (pI T_225 1238 x).toInt = v_255.toInt := (congrArg Int32.toInt ev_255).trans rfl
                    rw [hQQ]
                    exact ret_z X hw hr hlocks (Nat.le_of_ble_eq_true rfl) (Nat.le_of_ble_eq_true rfl) (by decide) ⟨hO_T_225, Or.inl ⟨⟨mk_229, (GR_eq zk_228 (GR_set zs_201 (by omega) gb_200)), iv_230, PotW_of (show (ticF Ev Rl A).1 = (we (folF Ev dn_239 (we (wdr (wg (ticB Ev Rl A) (capG (qg (ticB Ev Rl A)) ((qe (ticB Ev Rl A)).map (fun c => (c, qpl (ticB Ev Rl A) c))))) (qdr (ticB Ev Rl A) + 1)) [])) (qe (folF Ev dn_239 (we (wdr (wg (ticB Ev Rl A) (capG (qg (ticB Ev Rl A)) ((qe (ticB Ev Rl A)).map (fun c => (c, qpl (ticB Ev Rl A) c))))) (qdr (ticB Ev Rl A) + 1)) [])) ++ rs_240)) by rw [ticF_d (show ¬ 0 < (qst (ticB Ev Rl A)).toInt by have e9 := congrArg Int32.toInt us_101; have e : (v_98 : Int32).toInt = v_98.toInt := rfl; omega) ne_116]; exact (drwF_n (by rw [db_286]; show ¬ 300 ≤ (qg (folF Ev dn_239 (we (wdr (wg (ticB Ev Rl A) (capG (qg (ticB Ev Rl A)) ((qe (ticB Ev Rl A)).map (fun c => (c, qpl (ticB Ev Rl A) c))))) (qdr (ticB Ev Rl A) + 1)) []))).length; omega)).trans db_286) fw_261 fw_262 fw_263 fw_268 fw_269 fw_272 fw_270 fw_271 fw_273 fw_267, iv_232, by rw [ticF_d (show ¬ 0 < (qst (ticB Ev Rl A)).toInt by have e9 := congrArg Int32.toInt us_101; have e : (v_98 : Int32).toInt = v_98.toInt := rfl; omega) ne_116]; exact trivial, (WsT_q iv_233 ((congrArg qws (show (ticF Ev Rl A).1 = (we (folF Ev dn_239 (we (wdr (wg (ticB Ev Rl A) (capG (qg (ticB Ev Rl A)) ((qe (ticB Ev Rl A)).map (fun c => (c, qpl (ticB Ev Rl A) c))))) (qdr (ticB Ev Rl A) + 1)) [])) (qe (folF Ev dn_239 (we (wdr (wg (ticB Ev Rl A) (capG (qg (ticB Ev Rl A)) ((qe (ticB Ev Rl A)).map (fun c => (c, qpl (ticB Ev Rl A) c))))) (qdr (ticB Ev Rl A) + 1)) [])) ++ rs_240)) by rw [ticF_d (show ¬ 0 < (qst (ticB Ev Rl A)).toInt by have e9 := congrArg Int32.toInt us_101; have e : (v_98 : Int32).toInt = v_98.toInt := rfl; omega) ne_116]; exact (drwF_n (by rw [db_286]; show ¬ 300 ≤ (qg (folF Ev dn_239 (we (wdr (wg (ticB Ev Rl A) (capG (qg (ticB Ev Rl A)) ((qe (ticB Ev Rl A)).map (fun c => (c, qpl (ticB Ev Rl A) c))))) (qdr (ticB Ev Rl A) + 1)) []))).length; omega)).trans db_286)).trans (show qws (folF Ev dn_239 (we (wdr (wg (ticB Ev Rl A) (capG (qg (ticB Ev Rl A)) ((qe (ticB Ev Rl A)).map (fun c => (c, qpl (ticB Ev Rl A) c))))) (qdr (ticB Ev Rl A) + 1)) [])) = qws (ticB Ev Rl A) from fol_ws)))⟩, rfl⟩⟩ dX12_tick_401
                  · have z_b_301 := trivial
                    have k_302 : v_292.toInt = 300 := z_eq rfl ti_300 c_297
                    refine lv_aload_n X.1 X.2.1 dX12_tick_391 rfl (lv_at hl 3 rfl) ?_
                    refine lv_aload_n X.1 X.2.1 dX12_tick_392 rfl (lv_at hl 3 rfl) ?_
                    refine lv_iload_n X.1 X.2.1 dX12_tick_393 rfl (lv_at hl 4 rfl) ?_
                    have en_303 : EnR T_225 x a1_z Ev := EnR_fr hG ha_x hO_T_225.fr (by decide +kernel) hp_5
                    refine k_i (rm := { frames := 6, cells := 0, slots := 0, locals := 288 }) (av := [.ref x, .int (a1)]) X hw (va_runV (As := [.int (a1)]) (rest := [.ref x]) (cfix X) (k_X12_cuts5 l G cy κ T_225 _ x (a1) (a1_z) (qg (folF Ev dn_239 (we (wdr (wg (ticB Ev Rl A) (capG (qg (ticB Ev Rl A)) ((qe (ticB Ev Rl A)).map (fun c => (c, qpl (ticB Ev Rl A) c))))) (qdr (ticB Ev Rl A) + 1)) []))) hO_T_225.1 ha_x_L_226 hz_a1 (by first | assumption | omega) (by first | assumption | omega) mk_229 fw_272) (cwV 1 X.2.2.2.1 gX12_tick_X12_cuts rfl rfl rfl (by decide +kernel) ⟨Nat.le_of_ble_eq_true rfl, Nat.le_of_ble_eq_true rfl⟩) (pre_V X hw _ ha_x_L_226 rfl (by decide) rfl) rfl rfl hl.1 rfl (lv_room (Nat.le_of_ble_eq_true rfl)) dX12_tick_394 ⟨Nat.le_of_ble_eq_true rfl, Nat.le_of_ble_eq_true rfl⟩) 0 0 (Nat.le_of_ble_eq_true rfl) (Nat.le_of_ble_eq_true rfl) (fun rr_304 S_305 H locs hp hw hfr hnw => ?_)
                    obtain ⟨hk_306, hp⟩ := hp
                    have hO_307 : Ok MTK S S_305 := hO_T_225.call hk_306 (by decide +kernel)
                    obtain ⟨mi_308, cu_309, cc_310, cc_311, cc_312, cc_313⟩ := hp
                    have rg_314 := And.intro (z_lo rr_304) (z_hi rr_304)
                    have f_316 : ∀ j, zA S_305 x 1237 j = if j = (a1_z).toNat then 0 else zA T_143 x 1237 j := fun j => by rw [cu_309 j, zk_228, zs_201 j]; split <;> rfl
                    have gr_315 : GR S_305 x := GR_set f_316 (by omega) gb_200
                    have rR_317 : RowR S_305 x (3 * a1_z + 0).toNat (qb (folF Ev dn_239 (we (wdr (wg (ticB Ev Rl A) (capG (qg (ticB Ev Rl A)) ((qe (ticB Ev Rl A)).map (fun c => (c, qpl (ticB Ev Rl A) c))))) (qdr (ticB Ev Rl A) + 1)) []))) := RowR_eq fw_261 (zA_fr hk_306.fr ha_x_L_226 (ex3 (gQ_12_1218 hO_T_225.1 ha_x_L_226)) (by decide +kernel) (by decide +kernel)) (zA_fr hk_306.fr ha_x_L_226 (ex3 (gQ_12_1219 hO_T_225.1 ha_x_L_226)) (by decide +kernel) (by decide +kernel))
                    have rR_318 : RowR S_305 x (3 * a1_z + 1).toNat (qe (folF Ev dn_239 (we (wdr (wg (ticB Ev Rl A) (capG (qg (ticB Ev Rl A)) ((qe (ticB Ev Rl A)).map (fun c => (c, qpl (ticB Ev Rl A) c))))) (qdr (ticB Ev Rl A) + 1)) [])) ++ rs_240) := RowR_eq fw_262 (zA_fr hk_306.fr ha_x_L_226 (ex3 (gQ_12_1218 hO_T_225.1 ha_x_L_226)) (by decide +kernel) (by decide +kernel)) (zA_fr hk_306.fr ha_x_L_226 (ex3 (gQ_12_1219 hO_T_225.1 ha_x_L_226)) (by decide +kernel) (by decide +kernel))
                    have rR_319 : RowR S_305 x (3 * a1_z + 2).toNat (ql (folF Ev dn_239 (we (wdr (wg (ticB Ev Rl A) (capG (qg (ticB Ev Rl A)) ((qe (ticB Ev Rl A)).map (fun c => (c, qpl (ticB Ev Rl A) c))))) (qdr (ticB Ev Rl A) + 1)) []))) := RowR_eq fw_263 (zA_fr hk_306.fr ha_x_L_226 (ex3 (gQ_12_1218 hO_T_225.1 ha_x_L_226)) (by decide +kernel) (by decide +kernel)) (zA_fr hk_306.fr ha_x_L_226 (ex3 (gQ_12_1219 hO_T_225.1 ha_x_L_226)) (by decide +kernel) (by decide +kernel))
                    have zR_320 : zA S_305 x 1215 a1_z.toNat = ((qst (folF Ev dn_239 (we (wdr (wg (ticB Ev Rl A) (capG (qg (ticB Ev Rl A)) ((qe (ticB Ev Rl A)).map (fun c => (c, qpl (ticB Ev Rl A) c))))) (qdr (ticB Ev Rl A) + 1)) [])))).toInt := (congrFun (zA_fr hk_306.fr ha_x_L_226 (ex3 (gQ_12_1215 hO_T_225.1 ha_x_L_226)) (by decide +kernel) (by decide +kernel)) _).trans fw_268
                    have zR_321 : zA S_305 x 1214 a1_z.toNat = ((qse (folF Ev dn_239 (we (wdr (wg (ticB Ev Rl A) (capG (qg (ticB Ev Rl A)) ((qe (ticB Ev Rl A)).map (fun c => (c, qpl (ticB Ev Rl A) c))))) (qdr (ticB Ev Rl A) + 1)) [])))).toInt := (congrFun (zA_fr hk_306.fr ha_x_L_226 (ex3 (gQ_12_1214 hO_T_225.1 ha_x_L_226)) (by decide +kernel) (by decide +kernel)) _).trans fw_269
                    have zR_322 : zA S_305 x 1216 a1_z.toNat = ((qdr (folF Ev dn_239 (we (wdr (wg (ticB Ev Rl A) (capG (qg (ticB Ev Rl A)) ((qe (ticB Ev Rl A)).map (fun c => (c, qpl (ticB Ev Rl A) c))))) (qdr (ticB Ev Rl A) + 1)) [])))).toInt := (congrFun (zA_fr hk_306.fr ha_x_L_226 (ex3 (gQ_12_1216 hO_T_225.1 ha_x_L_226)) (by decide +kernel) (by decide +kernel)) _).trans fw_270
                    have zR_323 : zA S_305 x 1217 a1_z.toNat = ((qtk (folF Ev dn_239 (we (wdr (wg (ticB Ev Rl A) (capG (qg (ticB Ev Rl A)) ((qe (ticB Ev Rl A)).map (fun c => (c, qpl (ticB Ev Rl A) c))))) (qdr (ticB Ev Rl A) + 1)) [])))).toInt := (congrFun (zA_fr hk_306.fr ha_x_L_226 (ex3 (gQ_12_1217 hO_T_225.1 ha_x_L_226)) (by decide +kernel) (by decide +kernel)) _).trans fw_271
                    have pz_324 : PlZ S_305 x (qpl (folF Ev dn_239 (we (wdr (wg (ticB Ev Rl A) (capG (qg (ticB Ev Rl A)) ((qe (ticB Ev Rl A)).map (fun c => (c, qpl (ticB Ev Rl A) c))))) (qdr (ticB Ev Rl A) + 1)) []))) (qsd (folF Ev dn_239 (we (wdr (wg (ticB Ev Rl A) (capG (qg (ticB Ev Rl A)) ((qe (ticB Ev Rl A)).map (fun c => (c, qpl (ticB Ev Rl A) c))))) (qdr (ticB Ev Rl A) + 1)) []))) := PlZ_eq fw_267 (zA_fr hk_306.fr ha_x_L_226 (ex3 (gQ_12_1208 hO_T_225.1 ha_x_L_226)) (by decide +kernel) (by decide +kernel)) (zA_fr hk_306.fr ha_x_L_226 (ex3 (gQ_12_1207 hO_T_225.1 ha_x_L_226)) (by decide +kernel) (by decide +kernel))
                    have pw_325 : PotW S_305 x a1_z (cutF Ev (we (folF Ev dn_239 (we (wdr (wg (ticB Ev Rl A) (capG (qg (ticB Ev Rl A)) ((qe (ticB Ev Rl A)).map (fun c => (c, qpl (ticB Ev Rl A) c))))) (qdr (ticB Ev Rl A) + 1)) [])) (qe (folF Ev dn_239 (we (wdr (wg (ticB Ev Rl A) (capG (qg (ticB Ev Rl A)) ((qe (ticB Ev Rl A)).map (fun c => (c, qpl (ticB Ev Rl A) c))))) (qdr (ticB Ev Rl A) + 1)) [])) ++ rs_240))) := (PotW_cut (A := (we (folF Ev dn_239 (we (wdr (wg (ticB Ev Rl A) (capG (qg (ticB Ev Rl A)) ((qe (ticB Ev Rl A)).map (fun c => (c, qpl (ticB Ev Rl A) c))))) (qdr (ticB Ev Rl A) + 1)) [])) (qe (folF Ev dn_239 (we (wdr (wg (ticB Ev Rl A) (capG (qg (ticB Ev Rl A)) ((qe (ticB Ev Rl A)).map (fun c => (c, qpl (ticB Ev Rl A) c))))) (qdr (ticB Ev Rl A) + 1)) [])) ++ rs_240))) hO_T_225.1 ha_x_L_226 (by omega) en_303 fw_272 fw_273 cc_310 cc_311 cc_312 (by rw [cu_309, if_pos rfl]) rR_317 rR_318 rR_319 zR_320 zR_321 zR_322 zR_323 pz_324).1
                    have gl_327 : ((qg (folF Ev dn_239 (we (wdr (wg (ticB Ev Rl A) (capG (qg (ticB Ev Rl A)) ((qe (ticB Ev Rl A)).map (fun c => (c, qpl (ticB Ev Rl A) c))))) (qdr (ticB Ev Rl A) + 1)) [])))).length ≤ 300 := by have h1 := fw_272.1; have h2 := z1237 hO_T_225.1 ha_x_L_226 a1_z.toNat; omega
                    have wq_326 : WsT T_225 S_305 x Ev (we (folF Ev dn_239 (we (wdr (wg (ticB Ev Rl A) (capG (qg (ticB Ev Rl A)) ((qe (ticB Ev Rl A)).map (fun c => (c, qpl (ticB Ev Rl A) c))))) (qdr (ticB Ev Rl A) + 1)) [])) (qe (folF Ev dn_239 (we (wdr (wg (ticB Ev Rl A) (capG (qg (ticB Ev Rl A)) ((qe (ticB Ev Rl A)).map (fun c => (c, qpl (ticB Ev Rl A) c))))) (qdr (ticB Ev Rl A) + 1)) [])) ++ rs_240)) (cutF Ev (we (folF Ev dn_239 (we (wdr (wg (ticB Ev Rl A) (capG (qg (ticB Ev Rl A)) ((qe (ticB Ev Rl A)).map (fun c => (c, qpl (ticB Ev Rl A) c))))) (qdr (ticB Ev Rl A) + 1)) [])) (qe (folF Ev dn_239 (we (wdr (wg (ticB Ev Rl A) (capG (qg (ticB Ev Rl A)) ((qe (ticB Ev Rl A)).map (fun c => (c, qpl (ticB Ev Rl A) c))))) (qdr (ticB Ev Rl A) + 1)) [])) ++ rs_240))) := WsT_cut hO_T_225.1 ha_x_L_226 (by omega) (by omega) mk_229 en_303 fw_272 gl_327 fw_273 cc_313
                    have wq_328 : WsT S T_225 x Ev A (we (folF Ev dn_239 (we (wdr (wg (ticB Ev Rl A) (capG (qg (ticB Ev Rl A)) ((qe (ticB Ev Rl A)).map (fun c => (c, qpl (ticB Ev Rl A) c))))) (qdr (ticB Ev Rl A) + 1)) [])) (qe (folF Ev dn_239 (we (wdr (wg (ticB Ev Rl A) (capG (qg (ticB Ev Rl A)) ((qe (ticB Ev Rl A)).map (fun c => (c, qpl (ticB Ev Rl A) c))))) (qdr (ticB Ev Rl A) + 1)) [])) ++ rs_240)) := WsT_q iv_233 (show qws (folF Ev dn_239 (we (wdr (wg (ticB Ev Rl A) (capG (qg (ticB Ev Rl A)) ((qe (ticB Ev Rl A)).map (fun c => (c, qpl (ticB Ev Rl A) c))))) (qdr (ticB Ev Rl A) + 1)) [])) = qws (ticB Ev Rl A) from fol_ws)
                    have wq_329 := WsT_tr wq_328 wq_326
                    have t_330 : At S_305 x 12 := hk_306.fr.at ha_x_L_226
                    refine r_putI (v := rr_304) X hw t_330 rfl 47 1247 tyX12 (by decide) rfl inn_X12_tick_12 tyX12_ok nmX12 (by decide) (X.2.2.2.1 (.fieldLink RX12 330 "SilkMillModel" "cutAtOnce" "I") (by decide +kernel)) rfl (Or.inl rfl) rfl rfl (Nat.le_of_ble_eq_true rfl) (st_1247 _ _) dX12_tick_397 (fun H locs hw => ?_)
                    obtain ⟨S_331, eS_331⟩ : ∃ T, T = sI S_305 1247 x (rr_304) := ⟨_, rfl⟩
                    rw [← eS_331] at hw
                    have hO_332 : Ok MTK S S_331 := hO_307.sI eS_331 (by decide +kernel) (uI_12_1247 hO_307.1 t_330)
                    have h_333 : pI S_331 1247 x = rr_304 := tI_sIs eS_331
                    refine lv_iconst (v := 1) X.1 X.2.1 dX12_tick_400 (by decide) ?_
                    have zm_334 : ZM S S_305 x := ZM_eq iv_230 (zA_fr hk_306.fr ha_x_L_226 (ex3 (gQ_12_1207 hO_T_225.1 ha_x_L_226)) (by decide +kernel) (by decide +kernel))
                    have zm_335 : ZM S S_331 x := ZM_eq zm_334 (zA_sI eS_331)
                    have mi_336 : MIe S_331 x (-1) := MIe_sI mi_308 hO_307.1 t_330 eS_331 (by decide +kernel)
                    have zc_337 : zA S_331 x 1237 = zA S_305 x 1237 := zA_sI eS_331
                    have rR_338 : RowR S_331 x (3 * a1_z + 0).toNat (qb (folF Ev dn_239 (we (wdr (wg (ticB Ev Rl A) (capG (qg (ticB Ev Rl A)) ((qe (ticB Ev Rl A)).map (fun c => (c, qpl (ticB Ev Rl A) c))))) (qdr (ticB Ev Rl A) + 1)) []))) := RowR_eq rR_317 (zA_sI eS_331) (zA_sI eS_331)
                    have rR_339 : RowR S_331 x (3 * a1_z + 1).toNat (qe (folF Ev dn_239 (we (wdr (wg (ticB Ev Rl A) (capG (qg (ticB Ev Rl A)) ((qe (ticB Ev Rl A)).map (fun c => (c, qpl (ticB Ev Rl A) c))))) (qdr (ticB Ev Rl A) + 1)) [])) ++ rs_240) := RowR_eq rR_318 (zA_sI eS_331) (zA_sI eS_331)
                    have rR_340 : RowR S_331 x (3 * a1_z + 2).toNat (ql (folF Ev dn_239 (we (wdr (wg (ticB Ev Rl A) (capG (qg (ticB Ev Rl A)) ((qe (ticB Ev Rl A)).map (fun c => (c, qpl (ticB Ev Rl A) c))))) (qdr (ticB Ev Rl A) + 1)) []))) := RowR_eq rR_319 (zA_sI eS_331) (zA_sI eS_331)
                    have zR_341 : zA S_331 x 1215 a1_z.toNat = ((qst (folF Ev dn_239 (we (wdr (wg (ticB Ev Rl A) (capG (qg (ticB Ev Rl A)) ((qe (ticB Ev Rl A)).map (fun c => (c, qpl (ticB Ev Rl A) c))))) (qdr (ticB Ev Rl A) + 1)) [])))).toInt := (congrFun (zA_sI eS_331) _).trans zR_320
                    have zR_342 : zA S_331 x 1214 a1_z.toNat = ((qse (folF Ev dn_239 (we (wdr (wg (ticB Ev Rl A) (capG (qg (ticB Ev Rl A)) ((qe (ticB Ev Rl A)).map (fun c => (c, qpl (ticB Ev Rl A) c))))) (qdr (ticB Ev Rl A) + 1)) [])))).toInt := (congrFun (zA_sI eS_331) _).trans zR_321
                    have zR_343 : zA S_331 x 1216 a1_z.toNat = ((qdr (folF Ev dn_239 (we (wdr (wg (ticB Ev Rl A) (capG (qg (ticB Ev Rl A)) ((qe (ticB Ev Rl A)).map (fun c => (c, qpl (ticB Ev Rl A) c))))) (qdr (ticB Ev Rl A) + 1)) [])))).toInt := (congrFun (zA_sI eS_331) _).trans zR_322
                    have zR_344 : zA S_331 x 1217 a1_z.toNat = ((qtk (folF Ev dn_239 (we (wdr (wg (ticB Ev Rl A) (capG (qg (ticB Ev Rl A)) ((qe (ticB Ev Rl A)).map (fun c => (c, qpl (ticB Ev Rl A) c))))) (qdr (ticB Ev Rl A) + 1)) [])))).toInt := (congrFun (zA_sI eS_331) _).trans zR_323
                    have pz_345 : PlZ S_331 x (qpl (folF Ev dn_239 (we (wdr (wg (ticB Ev Rl A) (capG (qg (ticB Ev Rl A)) ((qe (ticB Ev Rl A)).map (fun c => (c, qpl (ticB Ev Rl A) c))))) (qdr (ticB Ev Rl A) + 1)) []))) (qsd (folF Ev dn_239 (we (wdr (wg (ticB Ev Rl A) (capG (qg (ticB Ev Rl A)) ((qe (ticB Ev Rl A)).map (fun c => (c, qpl (ticB Ev Rl A) c))))) (qdr (ticB Ev Rl A) + 1)) []))) := PlZ_eq pz_324 (zA_sI eS_331) (zA_sI eS_331)
                    have px_346 : PwX S S_305 x a1_z := PwX_cu iv_232 hO_T_225.1 ha_x_L_226 (zA_fr hk_306.fr ha_x_L_226 (ex3 (gQ_12_1218 hO_T_225.1 ha_x_L_226)) (by decide +kernel) (by decide +kernel)) (zA_fr hk_306.fr ha_x_L_226 (ex3 (gQ_12_1219 hO_T_225.1 ha_x_L_226)) (by decide +kernel) (by decide +kernel)) cu_309 (pw4 (fun _ => zA_fr hk_306.fr ha_x_L_226 (ex3 (gQ_12_1214 hO_T_225.1 ha_x_L_226)) (by decide +kernel) (by decide +kernel)) (fun _ => zA_fr hk_306.fr ha_x_L_226 (ex3 (gQ_12_1215 hO_T_225.1 ha_x_L_226)) (by decide +kernel) (by decide +kernel)) (fun _ => zA_fr hk_306.fr ha_x_L_226 (ex3 (gQ_12_1216 hO_T_225.1 ha_x_L_226)) (by decide +kernel) (by decide +kernel)) (fun _ => zA_fr hk_306.fr ha_x_L_226 (ex3 (gQ_12_1217 hO_T_225.1 ha_x_L_226)) (by decide +kernel) (by decide +kernel)) (fun h => absurd rfl h)) cc_310 cc_311 cc_312
                    have px_347 : PwX S S_331 x a1_z := PwX_to px_346 (zA_sI eS_331) (zA_sI eS_331) (zA_sI eS_331) (zA_sI eS_331) (pw5 (zA_sI eS_331) (zA_sI eS_331) (zA_sI eS_331) (zA_sI eS_331) (zA_sI eS_331))
                    have wt_348 : WsT S S_331 x Ev A (cutF Ev (we (folF Ev dn_239 (we (wdr (wg (ticB Ev Rl A) (capG (qg (ticB Ev Rl A)) ((qe (ticB Ev Rl A)).map (fun c => (c, qpl (ticB Ev Rl A) c))))) (qdr (ticB Ev Rl A) + 1)) [])) (qe (folF Ev dn_239 (we (wdr (wg (ticB Ev Rl A) (capG (qg (ticB Ev Rl A)) ((qe (ticB Ev Rl A)).map (fun c => (c, qpl (ticB Ev Rl A) c))))) (qdr (ticB Ev Rl A) + 1)) [])) ++ rs_240))) := WsT_f wq_329 (by rw [eS_331]; exact pI_sI_nf (by decide))
                    rw [hQQ]
                    exact ret_z X hw hr hlocks (Nat.le_of_ble_eq_true rfl) (Nat.le_of_ble_eq_true rfl) (by decide) ⟨hO_332, Or.inl ⟨⟨mi_336, (GR_eq zc_337 gr_315), zm_335, (by rw [show (ticF Ev Rl A).1 = cutF Ev (we (folF Ev dn_239 (we (wdr (wg (ticB Ev Rl A) (capG (qg (ticB Ev Rl A)) ((qe (ticB Ev Rl A)).map (fun c => (c, qpl (ticB Ev Rl A) c))))) (qdr (ticB Ev Rl A) + 1)) [])) (qe (folF Ev dn_239 (we (wdr (wg (ticB Ev Rl A) (capG (qg (ticB Ev Rl A)) ((qe (ticB Ev Rl A)).map (fun c => (c, qpl (ticB Ev Rl A) c))))) (qdr (ticB Ev Rl A) + 1)) [])) ++ rs_240)) by rw [ticF_d (show ¬ 0 < (qst (ticB Ev Rl A)).toInt by have e9 := congrArg Int32.toInt us_101; have e : (v_98 : Int32).toInt = v_98.toInt := rfl; omega) ne_116]; exact (drwF_c (by rw [db_286]; show 300 ≤ (qg (folF Ev dn_239 (we (wdr (wg (ticB Ev Rl A) (capG (qg (ticB Ev Rl A)) ((qe (ticB Ev Rl A)).map (fun c => (c, qpl (ticB Ev Rl A) c))))) (qdr (ticB Ev Rl A) + 1)) []))).length; omega)).trans (by rw [db_286])]; exact PotW_sI pw_325 eS_331 (by decide)), px_347, by rw [ticF_d (show ¬ 0 < (qst (ticB Ev Rl A)).toInt by have e9 := congrArg Int32.toInt us_101; have e : (v_98 : Int32).toInt = v_98.toInt := rfl; omega) ne_116]; exact trivial, (WsT_e wt_348 (show (ticF Ev Rl A).1 = cutF Ev (we (folF Ev dn_239 (we (wdr (wg (ticB Ev Rl A) (capG (qg (ticB Ev Rl A)) ((qe (ticB Ev Rl A)).map (fun c => (c, qpl (ticB Ev Rl A) c))))) (qdr (ticB Ev Rl A) + 1)) [])) (qe (folF Ev dn_239 (we (wdr (wg (ticB Ev Rl A) (capG (qg (ticB Ev Rl A)) ((qe (ticB Ev Rl A)).map (fun c => (c, qpl (ticB Ev Rl A) c))))) (qdr (ticB Ev Rl A) + 1)) [])) ++ rs_240)) by rw [ticF_d (show ¬ 0 < (qst (ticB Ev Rl A)).toInt by have e9 := congrArg Int32.toInt us_101; have e : (v_98 : Int32).toInt = v_98.toInt := rfl; omega) ne_116]; exact (drwF_c (by rw [db_286]; show 300 ≤ (qg (folF Ev dn_239 (we (wdr (wg (ticB Ev Rl A) (capG (qg (ticB Ev Rl A)) ((qe (ticB Ev Rl A)).map (fun c => (c, qpl (ticB Ev Rl A) c))))) (qdr (ticB Ev Rl A) + 1)) []))).length; omega)).trans (by rw [db_286])))⟩, rfl⟩⟩ dX12_tick_401
                · have z_b_349 := trivial
                  have k_350 : i4_224_z < rr_277.toInt := z_nle rfl hz_i4_224 c_282
                  refine lv_aload_n X.1 X.2.1 dX12_tick_278 rfl (lv_at hl 3 rfl) ?_
                  refine lv_iload_n X.1 X.2.1 dX12_tick_279 rfl (lv_at hl 4 rfl) ?_
                  refine lv_iconst (v := 1) X.1 X.2.1 dX12_tick_280 (by decide) ?_
                  refine lv_iload X.1 X.2.1 dX12_tick_281 (lv_at hl 0 rfl) ?_
                  refine k_i (rm := { frames := 1, cells := 0, slots := 0, locals := 48 }) (av := [.ref x, .int (a1), .int 1, .int (i4_224)]) X hw (va_runV (As := [.int (a1), .int 1, .int (i4_224)]) (rest := []) (cfix X) (k_X12_at2 l G cy κ T_225 _ x (a1) (a1_z) (1) (1) (i4_224) (i4_224_z) hO_T_225.1 ha_x_L_226 hz_a1 ti_1 hz_i4_224 (by first | assumption | omega) (by first | assumption | omega) (by first | assumption | omega) (by first | assumption | omega) (by first | assumption | omega) (by first | assumption | omega)) (cwV 3 X.2.2.2.1 gX12_tick_X12_at rfl rfl rfl (by decide +kernel) ⟨Nat.le_of_ble_eq_true rfl, Nat.le_of_ble_eq_true rfl⟩) (pre_V X hw _ ha_x_L_226 rfl (by decide) rfl) rfl rfl hl.1 rfl (lv_room (Nat.le_of_ble_eq_true rfl)) dX12_tick_283 ⟨Nat.le_of_ble_eq_true rfl, Nat.le_of_ble_eq_true rfl⟩) 0 0 (Nat.le_of_ble_eq_true rfl) (Nat.le_of_ble_eq_true rfl) (fun rr_351 S_352 H locs hp hw hfr hnw => ?_)
                  obtain ⟨e2, hp⟩ := hp
                  subst e2
                  obtain ⟨f_353, f_354, f_355⟩ := hp
                  refine lv_istore (lv' := [(5, .int (rr_351)), (4, .int (i4_224)), (3, .int (v_128)), (2, .int (rr_106)), (0, .ref x), (1, .int (a1))]) X.1 X.2.1 dX12_tick_286 hl (by decide) rfl (fun ls hl => ?_)
                  have m8_356 := MI_alive mk_229 (c := rr_351.toInt) (r := 3 * a1_z + 1) (k := i4_224_z) (gI_12_1201 hO_T_225.1 ha_x_L_226).2 (by omega) (by omega) (by omega) (by omega) (by omega)
                  have lg_357 := lenZ_le hO_T_225.1 ha_x_L_226 (rr_351.toInt)
                  obtain ⟨c_358, t_359, er_360⟩ : ∃ c t, rs_240 = c :: t := (match rs_240, (show 0 < rs_240.length by omega) with | [], h => absurd h (Nat.lt_irrefl _) | c :: t, _ => ⟨c, t, rfl⟩)
                  have ix_361 : (qe (folF Ev dn_239 (we (wdr (wg (ticB Ev Rl A) (capG (qg (ticB Ev Rl A)) ((qe (ticB Ev Rl A)).map (fun c => (c, qpl (ticB Ev Rl A) c))))) (qdr (ticB Ev Rl A) + 1)) [])) ++ rs_240)[(i4_224_z).toNat]? = some c_358 := by rw [er_360, show (i4_224_z).toNat = (qe (folF Ev dn_239 (we (wdr (wg (ticB Ev Rl A) (capG (qg (ticB Ev Rl A)) ((qe (ticB Ev Rl A)).map (fun c => (c, qpl (ticB Ev Rl A) c))))) (qdr (ticB Ev Rl A) + 1)) []))).length by omega]; exact ix_app
                  have h8_362 : rr_351.toInt = (c_358 : Int) := by have h := fw_262.2 _ _ ix_361; have hi : (600 * (3 * a1_z + 1) + i4_224_z).toNat = 600 * (3 * a1_z + 1).toNat + (i4_224_z).toNat := (by omega); rw [← hi] at h; omega
                  have e2_363 : (qsd (folF Ev dn_239 (we (wdr (wg (ticB Ev Rl A) (capG (qg (ticB Ev Rl A)) ((qe (ticB Ev Rl A)).map (fun c => (c, qpl (ticB Ev Rl A) c))))) (qdr (ticB Ev Rl A) + 1)) [])) c_358).toInt = 2 := by have h := MI_2 mk_229 (r := 3 * a1_z + 1) (k := i4_224_z) (by omega) (by omega) (by omega) (by omega); have h1 := (fw_267 c_358 (by omega)).2; have h3 := fw_262.2 _ _ ix_361; have hi : (600 * (3 * a1_z + 1) + i4_224_z).toNat = 600 * (3 * a1_z + 1).toNat + (i4_224_z).toNat := (by omega); rw [hi, h3, Int.toNat_natCast] at h; have h4 := h.2.2.1; omega
                  refine lv_aload_n X.1 X.2.1 dX12_tick_288 rfl (lv_at hl 4 rfl) ?_
                  obtain ⟨q_365, h_366, h_367, h_368⟩ := gQ_12_1208 hO_T_225.1 ha_x_L_226
                  refine r_getR (g := 1208) X hw ha_x_L_226 rfl 8 h_366 (by decide) rfl inn_X12_tick_12 (by decide) (X.2.2.2.1 (.fieldLink RX12 28 "SilkMillModel" "place" "[I") (by decide +kernel)) rfl (gv_1208 _ _) dX12_tick_289 ?_
                  refine lv_iload X.1 X.2.1 dX12_tick_292 (lv_at hl 0 rfl) ?_
                  refine lv_dup2_11 X.1 X.2.1 dX12_tick_294 rfl rfl ?_
                  refine r_iald X hw h_367 rfl (by rw [h_368]; exact z_ix rfl (by omega) (by omega)) dX12_tick_295 ?_
                  refine lv_topi (fun v_369 ev_369 => ?_)
                  have z_370 := gE_374 hO_T_225.1 h_367 (Int32.toNatClampNeg (rr_351)); rw [← ev_369] at z_370
                  have ev_369 := ev_369.symm
                  have zf_371 : zA T_225 x 1208 (rr_351.toInt).toNat = v_369.toInt := (zA_of h_366 rfl (by omega) ev_369)
                  rw [zf_371] at m8_356
                  have pz_372 : (pI T_225 1201 x).toInt = v_1.toInt := (congrArg Int32.toInt ik_236).trans rfl
                  have up_373 : v_369 = qpl (folF Ev dn_239 (we (wdr (wg (ticB Ev Rl A) (capG (qg (ticB Ev Rl A)) ((qe (ticB Ev Rl A)).map (fun c => (c, qpl (ticB Ev Rl A) c))))) (qdr (ticB Ev Rl A) + 1)) [])) c_358 := Int32.toInt_inj.mp (by rw [← (fw_267 c_358 (by omega)).1, show c_358 = (rr_351.toInt).toNat by omega, zf_371])
                  refine lv_iconst (v := 1) X.1 X.2.1 dX12_tick_296 (by decide) ?_
                  refine lv_iadd X.1 X.2.1 dX12_tick_297 ?_
                  refine lv_topi (fun v_374 ev_374 => ?_)
                  have z_375 : v_374.toInt = v_369.toInt + 1 := z_add ev_374 rfl ti_1 (by omega) (by omega)
                  refine r_iast X hw h_367 rfl (by rw [h_368]; exact z_ix rfl (by omega) (by omega)) dX12_tick_298 (fun H locs hw => ?_)
                  obtain ⟨S_376, eS_376⟩ : ∃ T, T = sA T_225 q_365 (upd (pA T_225 q_365) (Int32.toNatClampNeg (rr_351)) (v_374)) := ⟨_, rfl⟩
                  rw [← eS_376] at hw
                  have hO_377 : Ok MTK S S_376 := hO_T_225.sA eS_376 h_367 (by decide +kernel) (uA_374 hO_T_225.1 h_367 (by omega) (by omega))
                  have h_378 : pA S_376 q_365 (Int32.toNatClampNeg (rr_351)) = v_374 := tA_sAs eS_376
                  have t_379 : pR S_376 1208 x = some q_365 := tR_sA eS_376 h_366
                  have t_381 : pR T_225 1208 x = some q_365 := by have h := t_379; rw [eS_376, pR_sA] at h; exact h
                  have zs_380 : ∀ j, zA S_376 x 1208 j = if j = (rr_351.toInt).toNat then (v_369.toInt + 1) else zA T_225 x 1208 j := by have h := zA_sAs eS_376 t_381 z_375; rw [z_nc rfl (by omega)] at h; exact h
                  have mi_382 : MIe S_376 x rr_351.toInt := place_MI (c := rr_351.toInt) hO_T_225.1 ha_x_L_226 (show Fr [10374] T_225 S_376 by rw [eS_376]; exact Fr_sA h_367 List.mem_cons_self) mk_229 (by omega) (by omega) (by omega) (by omega) (by omega) zs_380
                  have zp_383 : zA S_376 x 1208 (rr_351.toInt).toNat = (v_369.toInt + 1) := by have h := zs_380 (rr_351.toInt).toNat; rw [if_pos rfl] at h; exact h
                  have le_384 : lenZ S_376 x = lenZ T_225 x := lenZ_fr (show Fr [10374] T_225 S_376 by rw [eS_376]; exact Fr_sA h_367 List.mem_cons_self) ha_x_L_226 (ex3 (gQ_12_1203 hO_T_225.1 ha_x_L_226)) (ex3 (gQ_12_1205 hO_T_225.1 ha_x_L_226)) (by decide +kernel) (by decide +kernel) (by decide +kernel) (by decide +kernel)
                  have lf_385 := congrFun le_384 (rr_351.toInt)
                  have zc_386 : zA S_376 x 1219 = zA T_225 x 1219 := zA_sAn eS_376 (ex3 (gQ_12_1219 hO_T_225.1 ha_x_L_226)) h_367 rfl
                  have zz_387 := congrFun zc_386 ((3 * a1_z + 1).toNat)
                  have zc_388 : zA S_376 x 1218 = zA T_225 x 1218 := zA_sAn eS_376 (ex3 (gQ_12_1218 hO_T_225.1 ha_x_L_226)) h_367 rfl
                  have zz_389 := congrFun zc_388 ((600 * (3 * a1_z + 1) + i4_224_z).toNat)
                  have t_390 : pI S_376 1201 x = v_1 := tI_sA eS_376 ik_236
                  have pz_391 : (pI S_376 1201 x).toInt = v_1.toInt := (congrArg Int32.toInt t_390).trans rfl
                  have t_393 : pR T_225 1208 x = some q_365 := by have h := t_379; rw [eS_376, pR_sA] at h; exact h
                  have zs_392 : ∀ j, zA S_376 x 1208 j = if j = (rr_351.toInt).toNat then (v_369.toInt + 1) else zA T_225 x 1208 j := by have h := zA_sAs eS_376 t_393 z_375; rw [z_nc rfl (by omega)] at h; exact h
                  have q1_394 : (qpl (folF Ev dn_239 (we (wdr (wg (ticB Ev Rl A) (capG (qg (ticB Ev Rl A)) ((qe (ticB Ev Rl A)).map (fun c => (c, qpl (ticB Ev Rl A) c))))) (qdr (ticB Ev Rl A) + 1)) [])) c_358 + 1).toInt = (v_369.toInt + 1) := (congrArg Int32.toInt (ev_374.trans (by rw [up_373]))).symm.trans z_375
                  have el_395 : (elen Ev c_358).toInt = lenZ T_225 x (c_358 : Int) := (en_276.1 c_358 (by omega)).1
                  rw [← h8_362] at el_395
                  refine lv_aload_n X.1 X.2.1 dX12_tick_299 rfl (lv_at hl 4 rfl) ?_
                  have t_396 : At S_376 x 12 := tAt_sA eS_376 ha_x_L_226
                  refine r_getR (g := 1208) X hw t_396 rfl 8 t_379 (by decide) rfl inn_X12_tick_12 (by decide) (X.2.2.2.1 (.fieldLink RX12 28 "SilkMillModel" "place" "[I") (by decide +kernel)) rfl (gv_1208 _ _) dX12_tick_300 ?_
                  refine lv_iload X.1 X.2.1 dX12_tick_303 (lv_at hl 0 rfl) ?_
                  have t_397 : At S_376 q_365 374 := tAt_sA eS_376 h_367
                  have t_398 : pN S_376 q_365 = 600 := tN_sA eS_376 h_368
                  clear h_368
                  refine r_iald X hw t_397 rfl (by rw [t_398]; exact z_ix rfl (by omega) (by omega)) dX12_tick_305 ?_
                  rw [h_378]
                  refine lv_aload_n X.1 X.2.1 dX12_tick_306 rfl (lv_at hl 4 rfl) ?_
                  refine lv_iload X.1 X.2.1 dX12_tick_307 (lv_at hl 0 rfl) ?_
                  refine k_i (rm := { frames := 2, cells := 0, slots := 0, locals := 96 }) (av := [.ref x, .int (rr_351)]) X hw (va_runV (As := [.int (rr_351)]) (rest := [.int (v_374)]) (cfix X) (k_X12_lengthOf l G cy κ S_376 _ x (rr_351) (rr_351.toInt) hO_377.1 t_396 rfl (by first | assumption | omega) (by first | assumption | omega)) (cwV 1 X.2.2.2.1 gX12_tick_X12_lengthOf rfl rfl rfl (by decide +kernel) ⟨Nat.le_of_ble_eq_true rfl, Nat.le_of_ble_eq_true rfl⟩) (pre_V X hw _ t_396 rfl (by decide) rfl) rfl rfl hl.1 rfl (lv_room (Nat.le_of_ble_eq_true rfl)) dX12_tick_309 ⟨Nat.le_of_ble_eq_true rfl, Nat.le_of_ble_eq_true rfl⟩) 0 0 (Nat.le_of_ble_eq_true rfl) (Nat.le_of_ble_eq_true rfl) (fun rr_399 S_400 H locs hp hw hfr hnw => ?_)
                  obtain ⟨e2, hp⟩ := hp
                  subst e2
                  obtain ⟨f_401, f_402, f_403⟩ := hp
                  refine lv_icmp_ne (tgt := 332) X.1 X.2.1 dX12_tick_312 (by decide) (fun c_404 => ?_) (fun c_404 => ?_)
                  · have z_b_405 := trivial
                    have k_406 : (v_369.toInt + 1) ≠ rr_399.toInt := z_ne z_375 rfl c_404
                    have mi_407 : MI S_376 x := back_MI mi_382 (by omega) (Or.inr (by omega))
                    refine lv_aload_n X.1 X.2.1 dX12_tick_332 rfl (lv_at hl 4 rfl) ?_
                    refine lv_iload X.1 X.2.1 dX12_tick_333 (lv_at hl 0 rfl) ?_
                    refine lv_aload_n X.1 X.2.1 dX12_tick_335 rfl (lv_at hl 4 rfl) ?_
                    refine r_getR (g := 1208) X hw t_396 rfl 8 t_379 (by decide) rfl inn_X12_tick_12 (by decide) (X.2.2.2.1 (.fieldLink RX12 28 "SilkMillModel" "place" "[I") (by decide +kernel)) rfl (gv_1208 _ _) dX12_tick_336 ?_
                    refine lv_iload X.1 X.2.1 dX12_tick_339 (lv_at hl 0 rfl) ?_
                    refine r_iald X hw t_397 rfl (by rw [t_398]; exact z_ix rfl (by omega) (by omega)) dX12_tick_341 ?_
                    rw [h_378]
                    refine lv_iconst (v := 1) X.1 X.2.1 dX12_tick_342 (by decide) ?_
                    refine lv_isub X.1 X.2.1 dX12_tick_343 ?_
                    refine lv_topi (fun v_408 ev_408 => ?_)
                    have z_409 : v_408.toInt = (v_369.toInt + 1) - 1 := z_sub ev_408 z_375 ti_1 (by omega) (by omega)
                    refine k_i (rm := { frames := 2, cells := 0, slots := 0, locals := 96 }) (av := [.ref x, .int (rr_351), .int (v_408)]) X hw (va_runV (As := [.int (rr_351), .int (v_408)]) (rest := []) (cfix X) (k_X12_breaks3 l G cy κ S_376 _ x (rr_351) (rr_351.toInt) (v_408) (((v_369.toInt + 1) - 1)) hO_377.1 t_396 rfl z_409 (by first | assumption | omega) (by first | assumption | omega)) (cwV 2 X.2.2.2.1 gX12_tick_X12_breaks rfl rfl rfl (by decide +kernel) ⟨Nat.le_of_ble_eq_true rfl, Nat.le_of_ble_eq_true rfl⟩) (pre_V X hw _ t_396 rfl (by decide) rfl) rfl rfl hl.1 rfl (lv_room (Nat.le_of_ble_eq_true rfl)) dX12_tick_344 ⟨Nat.le_of_ble_eq_true rfl, Nat.le_of_ble_eq_true rfl⟩) 0 0 (Nat.le_of_ble_eq_true rfl) (Nat.le_of_ble_eq_true rfl) (fun rr_410 S_411 H locs hp hw hfr hnw => ?_)
                    obtain ⟨e2, hp⟩ := hp
                    subst e2
                    rcases hp with ⟨f_412, er_413⟩ | ⟨f_412, er_413⟩ <;> subst er_413
                    · have z_b_414 := trivial
                      refine lv_if_eq (tgt := 373) X.1 X.2.1 dX12_tick_347 (by decide) (fun c_415 => absurd c_415 (by decide)) (fun c_415 => ?_)
                      have rR_416 : RowR S_376 x (3 * a1_z + 2).toNat (ql (folF Ev dn_239 (we (wdr (wg (ticB Ev Rl A) (capG (qg (ticB Ev Rl A)) ((qe (ticB Ev Rl A)).map (fun c => (c, qpl (ticB Ev Rl A) c))))) (qdr (ticB Ev Rl A) + 1)) []))) := RowR_eq fw_263 (zA_sAn eS_376 (ex3 (gQ_12_1218 hO_T_225.1 ha_x_L_226)) h_367 rfl) (zA_sAn eS_376 (ex3 (gQ_12_1219 hO_T_225.1 ha_x_L_226)) h_367 rfl)
                      have pe_419 : v_408 = qpl (folF Ev dn_239 (we (wdr (wg (ticB Ev Rl A) (capG (qg (ticB Ev Rl A)) ((qe (ticB Ev Rl A)).map (fun c => (c, qpl (ticB Ev Rl A) c))))) (qdr (ticB Ev Rl A) + 1)) [])) c_358 := Int32.toInt_inj.mp (by have h1 := congrArg Int32.toInt up_373; have h2 : (v_408).toInt = ((v_369.toInt + 1) - 1) := z_409; have h3 : (v_369).toInt = v_369.toInt := rfl; omega)
                      have bk_417 : ebr Ev c_358 (qpl (folF Ev dn_239 (we (wdr (wg (ticB Ev Rl A) (capG (qg (ticB Ev Rl A)) ((qe (ticB Ev Rl A)).map (fun c => (c, qpl (ticB Ev Rl A) c))))) (qdr (ticB Ev Rl A) + 1)) [])) c_358) := by rw [(hp_5.1 c_358 (by omega)).2.2]; have h := f_412; rw [mA_fr hO_377.fr ha_x (ex3 (gQ_12_1203 hG ha_x)) (by decide +kernel) (by decide +kernel), mA_fr hO_377.fr ha_x (ex3 (gQ_12_1206 hG ha_x)) (by decide +kernel) (by decide +kernel), h8_362, pe_419] at h; exact h
                      have bs_418 : sdV Ev (folF Ev dn_239 (we (wdr (wg (ticB Ev Rl A) (capG (qg (ticB Ev Rl A)) ((qe (ticB Ev Rl A)).map (fun c => (c, qpl (ticB Ev Rl A) c))))) (qdr (ticB Ev Rl A) + 1)) [])) c_358 = 3 := sdV_3 (by omega) bk_417
                      refine lv_aload_n X.1 X.2.1 dX12_tick_350 rfl (lv_at hl 4 rfl) ?_
                      refine lv_iload_n X.1 X.2.1 dX12_tick_351 rfl (lv_at hl 5 rfl) ?_
                      refine lv_iconst (v := 2) X.1 X.2.1 dX12_tick_352 (by decide) ?_
                      refine lv_aload_n X.1 X.2.1 dX12_tick_353 rfl (lv_at hl 4 rfl) ?_
                      refine lv_iload_n X.1 X.2.1 dX12_tick_354 rfl (lv_at hl 5 rfl) ?_
                      refine lv_iconst (v := 1) X.1 X.2.1 dX12_tick_355 (by decide) ?_
                      refine lv_iload X.1 X.2.1 dX12_tick_356 (lv_at hl 1 rfl) ?_
                      have pz_420 : (pI S_376 1201 x).toInt = v_1.toInt := (congrArg Int32.toInt t_390).trans rfl
                      have rR_421 : RowR S_376 x (3 * a1_z + 0).toNat (qb (folF Ev dn_239 (we (wdr (wg (ticB Ev Rl A) (capG (qg (ticB Ev Rl A)) ((qe (ticB Ev Rl A)).map (fun c => (c, qpl (ticB Ev Rl A) c))))) (qdr (ticB Ev Rl A) + 1)) []))) := RowR_eq fw_261 (zA_sAn eS_376 (ex3 (gQ_12_1218 hO_T_225.1 ha_x_L_226)) h_367 rfl) (zA_sAn eS_376 (ex3 (gQ_12_1219 hO_T_225.1 ha_x_L_226)) h_367 rfl)
                      have rR_422 : RowR S_376 x (3 * a1_z + 1).toNat (qe (folF Ev dn_239 (we (wdr (wg (ticB Ev Rl A) (capG (qg (ticB Ev Rl A)) ((qe (ticB Ev Rl A)).map (fun c => (c, qpl (ticB Ev Rl A) c))))) (qdr (ticB Ev Rl A) + 1)) [])) ++ rs_240) := RowR_eq fw_262 (zA_sAn eS_376 (ex3 (gQ_12_1218 hO_T_225.1 ha_x_L_226)) h_367 rfl) (zA_sAn eS_376 (ex3 (gQ_12_1219 hO_T_225.1 ha_x_L_226)) h_367 rfl)
                      refine k_i (rm := { frames := 1, cells := 0, slots := 0, locals := 48 }) (av := [.ref x, .int (a1), .int 1, .int (i4_224)]) X hw (va_runV (As := [.int (a1), .int 1, .int (i4_224)]) (rest := [.int 2, .int (a1), .ref x]) (cfix X) (k_X12_goes5 l G cy κ S_376 _ x (a1) (a1_z) (1) (1) (i4_224) (i4_224_z) (-1) hO_377.1 t_396 hz_a1 ti_1 hz_i4_224 (by first | assumption | omega) (by first | assumption | omega) (by first | assumption | omega) (by first | assumption | omega) (by first | assumption | omega) (by first | assumption | omega) mi_407) (cwV 3 X.2.2.2.1 gX12_tick_X12_goes rfl rfl rfl (by decide +kernel) ⟨Nat.le_of_ble_eq_true rfl, Nat.le_of_ble_eq_true rfl⟩) (pre_V X hw _ t_396 rfl (by decide) rfl) rfl rfl hl.1 rfl (lv_room (Nat.le_of_ble_eq_true rfl)) dX12_tick_358 ⟨Nat.le_of_ble_eq_true rfl, Nat.le_of_ble_eq_true rfl⟩) 0 0 (Nat.le_of_ble_eq_true rfl) (Nat.le_of_ble_eq_true rfl) (fun rr_423 S_424 H locs hp hw hfr hnw => ?_)
                      obtain ⟨hk_425, hp⟩ := hp
                      have hO_426 : Ok MTK S S_424 := hO_377.call hk_425 (by decide +kernel)
                      obtain ⟨g_427, g_428, g_429, g_430, g_431, g_432, g_433, g_434, g_435⟩ := hp
                      have dn_438 : rr_423.toInt = (c_358 : Int) := by have h8 := rR_422.2 _ _ ix_361; have hi : (600 * (3 * a1_z + 1) + i4_224_z).toNat = 600 * (3 * a1_z + 1).toNat + ((i4_224_z : Int)).toNat := (by omega); rw [← hi] at h8; omega
                      have t_439 : pI S_424 1201 x = v_1 := hk_425.fr.I' (by decide +kernel) t_396 t_390
                      have pz_440 : (pI S_424 1201 x).toInt = v_1.toInt := (congrArg Int32.toInt t_439).trans rfl
                      have zl_441 : zA S_424 x 1207 = zA S_376 x 1207 := zA_fr hk_425.fr t_396 (ex3 (gQ_12_1207 hO_377.1 t_396)) (by decide +kernel) (by decide +kernel)
                      have zz_442 := congrFun zl_441 (rr_423.toInt).toNat
                      have al_443 := ((MI_1 g_432 (c := rr_423.toInt) (by omega) (by omega)).2 (by omega)).2 (by omega) (by omega)
                      have gi_444 := g_434 (3 * a1_z + 1).toNat; rw [if_pos (by omega)] at gi_444
                      have m4_445 := g_432.2.2.2.1.2 (3 * a1_z + 1).toNat (by omega)
                      have gi_446 := g_434 (3 * a1_z + 2).toNat; rw [if_neg (by omega)] at gi_446
                      have m4_447 := g_432.2.2.2.1.2 (3 * a1_z + 2).toNat (by omega)
                      refine lv_aload_n X.1 X.2.1 dX12_tick_361 rfl (lv_at hl 4 rfl) ?_
                      refine lv_iload_n X.1 X.2.1 dX12_tick_362 rfl (lv_at hl 5 rfl) ?_
                      refine lv_iconst (v := 2) X.1 X.2.1 dX12_tick_363 (by decide) ?_
                      have t_448 : At S_424 x 12 := hk_425.fr.at t_396
                      refine k_i (rm := { frames := 1, cells := 0, slots := 0, locals := 48 }) (av := [.ref x, .int (a1), .int 2]) X hw (va_runV (As := [.int (a1), .int 2]) (rest := [.int (rr_423), .int 2, .int (a1), .ref x]) (cfix X) (k_X12_many2 l G cy κ S_424 _ x (a1) (a1_z) (2) (2) hO_426.1 t_448 hz_a1 ti_2 (by first | assumption | omega) (by first | assumption | omega) (by first | assumption | omega) (by first | assumption | omega)) (cwV 2 X.2.2.2.1 gX12_tick_X12_many rfl rfl rfl (by decide +kernel) ⟨Nat.le_of_ble_eq_true rfl, Nat.le_of_ble_eq_true rfl⟩) (pre_V X hw _ t_448 rfl (by decide) rfl) rfl rfl hl.1 rfl (lv_room (Nat.le_of_ble_eq_true rfl)) dX12_tick_364 ⟨Nat.le_of_ble_eq_true rfl, Nat.le_of_ble_eq_true rfl⟩) 0 0 (Nat.le_of_ble_eq_true rfl) (Nat.le_of_ble_eq_true rfl) (fun rr_449 S_450 H locs hp hw hfr hnw => ?_)
                      obtain ⟨e2, hp⟩ := hp
                      subst e2
                      obtain ⟨f_451, f_452, f_453⟩ := hp
                      refine k_v (rm := { frames := 1, cells := 0, slots := 0, locals := 48 }) (av := [.ref x, .int (a1), .int 2, .int (rr_423), .int (rr_449)]) X hw (va_runV (As := [.int (a1), .int 2, .int (rr_423), .int (rr_449)]) (rest := []) (cfix X) (k_X12_comes5 l G cy κ S_424 _ x (a1) (a1_z) (2) (2) (rr_423) (rr_423.toInt) (rr_449) (rr_449.toInt) hO_426.1 t_448 hz_a1 ti_2 rfl rfl (by first | assumption | omega) (by first | assumption | omega) (by first | assumption | omega) (by first | assumption | omega) (by first | assumption | omega) (by first | assumption | omega) (by first | assumption | omega) (by first | assumption | omega) (by first | assumption | omega) (by first | assumption | omega) g_432 (by first | assumption | omega) (by first | assumption | omega)) (cwV 4 X.2.2.2.1 gX12_tick_X12_comes rfl rfl rfl (by decide +kernel) ⟨Nat.le_of_ble_eq_true rfl, Nat.le_of_ble_eq_true rfl⟩) (pre_V X hw _ t_448 rfl (by decide) rfl) rfl rfl hl.1 rfl (lv_room (Nat.le_of_ble_eq_true rfl)) dX12_tick_367 ⟨Nat.le_of_ble_eq_true rfl, Nat.le_of_ble_eq_true rfl⟩) 0 0 (Nat.le_of_ble_eq_true rfl) (Nat.le_of_ble_eq_true rfl) (fun S_455 H locs hp hw hfr hnw => ?_)
                      obtain ⟨hk_456, hp⟩ := hp
                      have hO_457 : Ok MTK S S_455 := hO_426.call hk_456 (by decide +kernel)
                      obtain ⟨mi_458, cm_459, cs_460, cx_461⟩ := hp
                      have gi_462 := cm_459 (3 * a1_z + 1).toNat; rw [if_neg (by omega)] at gi_462
                      refine lv_goto (tgt := 376) X.1 X.2.1 dX12_tick_370 (by decide) ?_
                      refine lv_goto (tgt := 267) X.1 X.2.1 dX12_tick_376 (by decide) ?_
                      have t_463 : At S_455 x 12 := hk_456.fr.at t_448
                      have zc_464 : zA S_376 x 1237 = zA S_193 x 1237 := (zA_sAn eS_376 (ex3 (gQ_12_1237 hO_T_225.1 ha_x_L_226)) h_367 rfl).trans zk_228
                      have zc_465 : zA S_424 x 1237 = zA S_193 x 1237 := (zA_fr hk_425.fr t_396 (ex3 (gQ_12_1237 hO_377.1 t_396)) (by decide +kernel) (by decide +kernel)).trans zc_464
                      have zc_466 : zA S_455 x 1237 = zA S_193 x 1237 := (zA_fr hk_456.fr t_448 (ex3 (gQ_12_1237 hO_426.1 t_448)) (by decide +kernel) (by decide +kernel)).trans zc_465
                      have zm_467 : ZM S S_376 x := ZM_eq iv_230 (zA_sAn eS_376 (ex3 (gQ_12_1207 hO_T_225.1 ha_x_L_226)) h_367 rfl)
                      have zm_468 : ZM S S_424 x := ZM_eq zm_467 (zA_fr hk_425.fr t_396 (ex3 (gQ_12_1207 hO_377.1 t_396)) (by decide +kernel) (by decide +kernel))
                      have zm_469 : ZM S S_455 x := ZM_set zm_468 cs_460 ⟨by omega, by omega⟩ ⟨by omega, by omega⟩
                      have rR_470 : RowR S_424 x (3 * a1_z + 0).toNat (qb (folF Ev dn_239 (we (wdr (wg (ticB Ev Rl A) (capG (qg (ticB Ev Rl A)) ((qe (ticB Ev Rl A)).map (fun c => (c, qpl (ticB Ev Rl A) c))))) (qdr (ticB Ev Rl A) + 1)) []))) := RowR_gox hO_377.1 t_396 (by omega) rR_421 g_435
                      have rR_471 : RowR S_455 x (3 * a1_z + 0).toNat (qb (folF Ev dn_239 (we (wdr (wg (ticB Ev Rl A) (capG (qg (ticB Ev Rl A)) ((qe (ticB Ev Rl A)).map (fun c => (c, qpl (ticB Ev Rl A) c))))) (qdr (ticB Ev Rl A) + 1)) []))) := RowR_cmx hO_426.1 t_448 (by omega) rR_470 cx_461
                      have rR_472 : RowR S_424 x (3 * a1_z + 1).toNat ((qe (folF Ev dn_239 (we (wdr (wg (ticB Ev Rl A) (capG (qg (ticB Ev Rl A)) ((qe (ticB Ev Rl A)).map (fun c => (c, qpl (ticB Ev Rl A) c))))) (qdr (ticB Ev Rl A) + 1)) [])) ++ rs_240).eraseIdx (i4_224_z).toNat) := RowR_goes rR_422 g_435 (by have := rR_422.1; omega)
                      have rR_473 : RowR S_455 x (3 * a1_z + 1).toNat ((qe (folF Ev dn_239 (we (wdr (wg (ticB Ev Rl A) (capG (qg (ticB Ev Rl A)) ((qe (ticB Ev Rl A)).map (fun c => (c, qpl (ticB Ev Rl A) c))))) (qdr (ticB Ev Rl A) + 1)) [])) ++ rs_240).eraseIdx (i4_224_z).toNat) := RowR_cmx hO_426.1 t_448 (by omega) rR_472 cx_461
                      have rR_474 : RowR S_424 x (3 * a1_z + 2).toNat (ql (folF Ev dn_239 (we (wdr (wg (ticB Ev Rl A) (capG (qg (ticB Ev Rl A)) ((qe (ticB Ev Rl A)).map (fun c => (c, qpl (ticB Ev Rl A) c))))) (qdr (ticB Ev Rl A) + 1)) []))) := RowR_gox hO_377.1 t_396 (by omega) rR_416 g_435
                      have cap_476 : ((ql (folF Ev dn_239 (we (wdr (wg (ticB Ev Rl A) (capG (qg (ticB Ev Rl A)) ((qe (ticB Ev Rl A)).map (fun c => (c, qpl (ticB Ev Rl A) c))))) (qdr (ticB Ev Rl A) + 1)) [])))).length < 600 := by have h1 := rR_474.1; have h2 := cx_461.2.2.2.1; omega
                      have rR_475 : RowR S_455 x (3 * a1_z + 2).toNat ((ql (folF Ev dn_239 (we (wdr (wg (ticB Ev Rl A) (capG (qg (ticB Ev Rl A)) ((qe (ticB Ev Rl A)).map (fun c => (c, qpl (ticB Ev Rl A) c))))) (qdr (ticB Ev Rl A) + 1)) []))) ++ [c_358]) := RowR_last rR_474 (show CmO S_424 S_455 x (3 * a1_z + 2).toNat ((ql (folF Ev dn_239 (we (wdr (wg (ticB Ev Rl A) (capG (qg (ticB Ev Rl A)) ((qe (ticB Ev Rl A)).map (fun c => (c, qpl (ticB Ev Rl A) c))))) (qdr (ticB Ev Rl A) + 1)) [])))).length (rr_423.toInt) by rw [show ((ql (folF Ev dn_239 (we (wdr (wg (ticB Ev Rl A) (capG (qg (ticB Ev Rl A)) ((qe (ticB Ev Rl A)).map (fun c => (c, qpl (ticB Ev Rl A) c))))) (qdr (ticB Ev Rl A) + 1)) [])))).length = (rr_449.toInt).toNat by have := rR_474.1; omega]; exact cx_461) dn_438
                      have zR_477 : zA S_376 x 1215 a1_z.toNat = ((qst (folF Ev dn_239 (we (wdr (wg (ticB Ev Rl A) (capG (qg (ticB Ev Rl A)) ((qe (ticB Ev Rl A)).map (fun c => (c, qpl (ticB Ev Rl A) c))))) (qdr (ticB Ev Rl A) + 1)) [])))).toInt := (congrFun (zA_sAn eS_376 (ex3 (gQ_12_1215 hO_T_225.1 ha_x_L_226)) h_367 rfl) _).trans fw_268
                      have zR_478 : zA S_424 x 1215 a1_z.toNat = ((qst (folF Ev dn_239 (we (wdr (wg (ticB Ev Rl A) (capG (qg (ticB Ev Rl A)) ((qe (ticB Ev Rl A)).map (fun c => (c, qpl (ticB Ev Rl A) c))))) (qdr (ticB Ev Rl A) + 1)) [])))).toInt := (congrFun (zA_fr hk_425.fr t_396 (ex3 (gQ_12_1215 hO_377.1 t_396)) (by decide +kernel) (by decide +kernel)) _).trans zR_477
                      have zR_479 : zA S_455 x 1215 a1_z.toNat = ((qst (folF Ev dn_239 (we (wdr (wg (ticB Ev Rl A) (capG (qg (ticB Ev Rl A)) ((qe (ticB Ev Rl A)).map (fun c => (c, qpl (ticB Ev Rl A) c))))) (qdr (ticB Ev Rl A) + 1)) [])))).toInt := (congrFun (zA_fr hk_456.fr t_448 (ex3 (gQ_12_1215 hO_426.1 t_448)) (by decide +kernel) (by decide +kernel)) _).trans zR_478
                      have zR_480 : zA S_376 x 1214 a1_z.toNat = ((qse (folF Ev dn_239 (we (wdr (wg (ticB Ev Rl A) (capG (qg (ticB Ev Rl A)) ((qe (ticB Ev Rl A)).map (fun c => (c, qpl (ticB Ev Rl A) c))))) (qdr (ticB Ev Rl A) + 1)) [])))).toInt := (congrFun (zA_sAn eS_376 (ex3 (gQ_12_1214 hO_T_225.1 ha_x_L_226)) h_367 rfl) _).trans fw_269
                      have zR_481 : zA S_424 x 1214 a1_z.toNat = ((qse (folF Ev dn_239 (we (wdr (wg (ticB Ev Rl A) (capG (qg (ticB Ev Rl A)) ((qe (ticB Ev Rl A)).map (fun c => (c, qpl (ticB Ev Rl A) c))))) (qdr (ticB Ev Rl A) + 1)) [])))).toInt := (congrFun (zA_fr hk_425.fr t_396 (ex3 (gQ_12_1214 hO_377.1 t_396)) (by decide +kernel) (by decide +kernel)) _).trans zR_480
                      have zR_482 : zA S_455 x 1214 a1_z.toNat = ((qse (folF Ev dn_239 (we (wdr (wg (ticB Ev Rl A) (capG (qg (ticB Ev Rl A)) ((qe (ticB Ev Rl A)).map (fun c => (c, qpl (ticB Ev Rl A) c))))) (qdr (ticB Ev Rl A) + 1)) [])))).toInt := (congrFun (zA_fr hk_456.fr t_448 (ex3 (gQ_12_1214 hO_426.1 t_448)) (by decide +kernel) (by decide +kernel)) _).trans zR_481
                      have zR_483 : zA S_376 x 1216 a1_z.toNat = ((qdr (folF Ev dn_239 (we (wdr (wg (ticB Ev Rl A) (capG (qg (ticB Ev Rl A)) ((qe (ticB Ev Rl A)).map (fun c => (c, qpl (ticB Ev Rl A) c))))) (qdr (ticB Ev Rl A) + 1)) [])))).toInt := (congrFun (zA_sAn eS_376 (ex3 (gQ_12_1216 hO_T_225.1 ha_x_L_226)) h_367 rfl) _).trans fw_270
                      have zR_484 : zA S_424 x 1216 a1_z.toNat = ((qdr (folF Ev dn_239 (we (wdr (wg (ticB Ev Rl A) (capG (qg (ticB Ev Rl A)) ((qe (ticB Ev Rl A)).map (fun c => (c, qpl (ticB Ev Rl A) c))))) (qdr (ticB Ev Rl A) + 1)) [])))).toInt := (congrFun (zA_fr hk_425.fr t_396 (ex3 (gQ_12_1216 hO_377.1 t_396)) (by decide +kernel) (by decide +kernel)) _).trans zR_483
                      have zR_485 : zA S_455 x 1216 a1_z.toNat = ((qdr (folF Ev dn_239 (we (wdr (wg (ticB Ev Rl A) (capG (qg (ticB Ev Rl A)) ((qe (ticB Ev Rl A)).map (fun c => (c, qpl (ticB Ev Rl A) c))))) (qdr (ticB Ev Rl A) + 1)) [])))).toInt := (congrFun (zA_fr hk_456.fr t_448 (ex3 (gQ_12_1216 hO_426.1 t_448)) (by decide +kernel) (by decide +kernel)) _).trans zR_484
                      have zR_486 : zA S_376 x 1217 a1_z.toNat = ((qtk (folF Ev dn_239 (we (wdr (wg (ticB Ev Rl A) (capG (qg (ticB Ev Rl A)) ((qe (ticB Ev Rl A)).map (fun c => (c, qpl (ticB Ev Rl A) c))))) (qdr (ticB Ev Rl A) + 1)) [])))).toInt := (congrFun (zA_sAn eS_376 (ex3 (gQ_12_1217 hO_T_225.1 ha_x_L_226)) h_367 rfl) _).trans fw_271
                      have zR_487 : zA S_424 x 1217 a1_z.toNat = ((qtk (folF Ev dn_239 (we (wdr (wg (ticB Ev Rl A) (capG (qg (ticB Ev Rl A)) ((qe (ticB Ev Rl A)).map (fun c => (c, qpl (ticB Ev Rl A) c))))) (qdr (ticB Ev Rl A) + 1)) [])))).toInt := (congrFun (zA_fr hk_425.fr t_396 (ex3 (gQ_12_1217 hO_377.1 t_396)) (by decide +kernel) (by decide +kernel)) _).trans zR_486
                      have zR_488 : zA S_455 x 1217 a1_z.toNat = ((qtk (folF Ev dn_239 (we (wdr (wg (ticB Ev Rl A) (capG (qg (ticB Ev Rl A)) ((qe (ticB Ev Rl A)).map (fun c => (c, qpl (ticB Ev Rl A) c))))) (qdr (ticB Ev Rl A) + 1)) [])))).toInt := (congrFun (zA_fr hk_456.fr t_448 (ex3 (gQ_12_1217 hO_426.1 t_448)) (by decide +kernel) (by decide +kernel)) _).trans zR_487
                      have gR_489 : GrW S_376 x a1_z.toNat (qg (folF Ev dn_239 (we (wdr (wg (ticB Ev Rl A) (capG (qg (ticB Ev Rl A)) ((qe (ticB Ev Rl A)).map (fun c => (c, qpl (ticB Ev Rl A) c))))) (qdr (ticB Ev Rl A) + 1)) []))) := GrW_eq (zA_sAn eS_376 (ex3 (gQ_12_1235 hO_T_225.1 ha_x_L_226)) h_367 rfl) (zA_sAn eS_376 (ex3 (gQ_12_1236 hO_T_225.1 ha_x_L_226)) h_367 rfl) (congrFun (zA_sAn eS_376 (ex3 (gQ_12_1237 hO_T_225.1 ha_x_L_226)) h_367 rfl) _) fw_272
                      have gR_490 : GrW S_424 x a1_z.toNat (qg (folF Ev dn_239 (we (wdr (wg (ticB Ev Rl A) (capG (qg (ticB Ev Rl A)) ((qe (ticB Ev Rl A)).map (fun c => (c, qpl (ticB Ev Rl A) c))))) (qdr (ticB Ev Rl A) + 1)) []))) := GrW_eq (zA_fr hk_425.fr t_396 (ex3 (gQ_12_1235 hO_377.1 t_396)) (by decide +kernel) (by decide +kernel)) (zA_fr hk_425.fr t_396 (ex3 (gQ_12_1236 hO_377.1 t_396)) (by decide +kernel) (by decide +kernel)) (congrFun (zA_fr hk_425.fr t_396 (ex3 (gQ_12_1237 hO_377.1 t_396)) (by decide +kernel) (by decide +kernel)) _) gR_489
                      have gR_491 : GrW S_455 x a1_z.toNat (qg (folF Ev dn_239 (we (wdr (wg (ticB Ev Rl A) (capG (qg (ticB Ev Rl A)) ((qe (ticB Ev Rl A)).map (fun c => (c, qpl (ticB Ev Rl A) c))))) (qdr (ticB Ev Rl A) + 1)) []))) := GrW_eq (zA_fr hk_456.fr t_448 (ex3 (gQ_12_1235 hO_426.1 t_448)) (by decide +kernel) (by decide +kernel)) (zA_fr hk_456.fr t_448 (ex3 (gQ_12_1236 hO_426.1 t_448)) (by decide +kernel) (by decide +kernel)) (congrFun (zA_fr hk_456.fr t_448 (ex3 (gQ_12_1237 hO_426.1 t_448)) (by decide +kernel) (by decide +kernel)) _) gR_490
                      have pz_492 : PlZ S_376 x (fuI (qpl (folF Ev dn_239 (we (wdr (wg (ticB Ev Rl A) (capG (qg (ticB Ev Rl A)) ((qe (ticB Ev Rl A)).map (fun c => (c, qpl (ticB Ev Rl A) c))))) (qdr (ticB Ev Rl A) + 1)) []))) c_358 (qpl (folF Ev dn_239 (we (wdr (wg (ticB Ev Rl A) (capG (qg (ticB Ev Rl A)) ((qe (ticB Ev Rl A)).map (fun c => (c, qpl (ticB Ev Rl A) c))))) (qdr (ticB Ev Rl A) + 1)) [])) c_358 + 1)) (qsd (folF Ev dn_239 (we (wdr (wg (ticB Ev Rl A) (capG (qg (ticB Ev Rl A)) ((qe (ticB Ev Rl A)).map (fun c => (c, qpl (ticB Ev Rl A) c))))) (qdr (ticB Ev Rl A) + 1)) []))) := PlZ_8 fw_267 (zA_sAn eS_376 (ex3 (gQ_12_1207 hO_T_225.1 ha_x_L_226)) h_367 rfl) zs_392 (by omega) (z_375.symm.trans (congrArg Int32.toInt (ev_374.trans (by rw [up_373]))))
                      have pz_493 : PlZ S_424 x (fuI (qpl (folF Ev dn_239 (we (wdr (wg (ticB Ev Rl A) (capG (qg (ticB Ev Rl A)) ((qe (ticB Ev Rl A)).map (fun c => (c, qpl (ticB Ev Rl A) c))))) (qdr (ticB Ev Rl A) + 1)) []))) c_358 (qpl (folF Ev dn_239 (we (wdr (wg (ticB Ev Rl A) (capG (qg (ticB Ev Rl A)) ((qe (ticB Ev Rl A)).map (fun c => (c, qpl (ticB Ev Rl A) c))))) (qdr (ticB Ev Rl A) + 1)) [])) c_358 + 1)) (qsd (folF Ev dn_239 (we (wdr (wg (ticB Ev Rl A) (capG (qg (ticB Ev Rl A)) ((qe (ticB Ev Rl A)).map (fun c => (c, qpl (ticB Ev Rl A) c))))) (qdr (ticB Ev Rl A) + 1)) []))) := PlZ_eq pz_492 (zA_fr hk_425.fr t_396 (ex3 (gQ_12_1208 hO_377.1 t_396)) (by decide +kernel) (by decide +kernel)) (zA_fr hk_425.fr t_396 (ex3 (gQ_12_1207 hO_377.1 t_396)) (by decide +kernel) (by decide +kernel))
                      have pz_494 : PlZ S_455 x (fuI (qpl (folF Ev dn_239 (we (wdr (wg (ticB Ev Rl A) (capG (qg (ticB Ev Rl A)) ((qe (ticB Ev Rl A)).map (fun c => (c, qpl (ticB Ev Rl A) c))))) (qdr (ticB Ev Rl A) + 1)) []))) c_358 (qpl (folF Ev dn_239 (we (wdr (wg (ticB Ev Rl A) (capG (qg (ticB Ev Rl A)) ((qe (ticB Ev Rl A)).map (fun c => (c, qpl (ticB Ev Rl A) c))))) (qdr (ticB Ev Rl A) + 1)) [])) c_358 + 1)) (fuI (qsd (folF Ev dn_239 (we (wdr (wg (ticB Ev Rl A) (capG (qg (ticB Ev Rl A)) ((qe (ticB Ev Rl A)).map (fun c => (c, qpl (ticB Ev Rl A) c))))) (qdr (ticB Ev Rl A) + 1)) []))) c_358 3) := PlZ_7 pz_493 (zA_fr hk_456.fr t_448 (ex3 (gQ_12_1208 hO_426.1 t_448)) (by decide +kernel) (by decide +kernel)) cs_460 (by omega) (by decide)
                      have t_495 : pI S_376 1238 x = v_255 := tI_sA eS_376 ev_255
                      have t_496 : pI S_424 1238 x = v_255 := hk_425.fr.I' (by decide +kernel) t_396 t_495
                      have t_497 : pI S_455 1238 x = v_255 := hk_456.fr.I' (by decide +kernel) t_448 t_496
                      have pz_498 : (pI S_455 1238 x).toInt = v_255.toInt := (congrArg Int32.toInt t_497).trans rfl
                      have kR_499 : SkW S_376 x (qsk (folF Ev dn_239 (we (wdr (wg (ticB Ev Rl A) (capG (qg (ticB Ev Rl A)) ((qe (ticB Ev Rl A)).map (fun c => (c, qpl (ticB Ev Rl A) c))))) (qdr (ticB Ev Rl A) + 1)) []))) := SkW_n (by rw [eS_376]; rfl) ⟨zA_sAn eS_376 (ex3 (gQ_12_1235 hO_T_225.1 ha_x_L_226)) h_367 rfl, zA_sAn eS_376 (ex3 (gQ_12_1236 hO_T_225.1 ha_x_L_226)) h_367 rfl, zA_sAn eS_376 (ex3 (gQ_12_1239 hO_T_225.1 ha_x_L_226)) h_367 rfl, zA_sAn eS_376 (ex3 (gQ_12_1240 hO_T_225.1 ha_x_L_226)) h_367 rfl, zA_sAn eS_376 (ex3 (gQ_12_1241 hO_T_225.1 ha_x_L_226)) h_367 rfl, zA_sAn eS_376 (ex3 (gQ_12_1242 hO_T_225.1 ha_x_L_226)) h_367 rfl⟩ fw_273
                      have kR_500 : SkW S_424 x (qsk (folF Ev dn_239 (we (wdr (wg (ticB Ev Rl A) (capG (qg (ticB Ev Rl A)) ((qe (ticB Ev Rl A)).map (fun c => (c, qpl (ticB Ev Rl A) c))))) (qdr (ticB Ev Rl A) + 1)) []))) := SkW_n (congrArg Int32.toInt (hk_425.fr.I' (by decide +kernel) t_396 rfl)) ⟨zA_fr hk_425.fr t_396 (ex3 (gQ_12_1235 hO_377.1 t_396)) (by decide +kernel) (by decide +kernel), zA_fr hk_425.fr t_396 (ex3 (gQ_12_1236 hO_377.1 t_396)) (by decide +kernel) (by decide +kernel), zA_fr hk_425.fr t_396 (ex3 (gQ_12_1239 hO_377.1 t_396)) (by decide +kernel) (by decide +kernel), zA_fr hk_425.fr t_396 (ex3 (gQ_12_1240 hO_377.1 t_396)) (by decide +kernel) (by decide +kernel), zA_fr hk_425.fr t_396 (ex3 (gQ_12_1241 hO_377.1 t_396)) (by decide +kernel) (by decide +kernel), zA_fr hk_425.fr t_396 (ex3 (gQ_12_1242 hO_377.1 t_396)) (by decide +kernel) (by decide +kernel)⟩ kR_499
                      have kR_501 : SkW S_455 x (qsk (folF Ev dn_239 (we (wdr (wg (ticB Ev Rl A) (capG (qg (ticB Ev Rl A)) ((qe (ticB Ev Rl A)).map (fun c => (c, qpl (ticB Ev Rl A) c))))) (qdr (ticB Ev Rl A) + 1)) []))) := SkW_n (congrArg Int32.toInt (hk_456.fr.I' (by decide +kernel) t_448 rfl)) ⟨zA_fr hk_456.fr t_448 (ex3 (gQ_12_1235 hO_426.1 t_448)) (by decide +kernel) (by decide +kernel), zA_fr hk_456.fr t_448 (ex3 (gQ_12_1236 hO_426.1 t_448)) (by decide +kernel) (by decide +kernel), zA_fr hk_456.fr t_448 (ex3 (gQ_12_1239 hO_426.1 t_448)) (by decide +kernel) (by decide +kernel), zA_fr hk_456.fr t_448 (ex3 (gQ_12_1240 hO_426.1 t_448)) (by decide +kernel) (by decide +kernel), zA_fr hk_456.fr t_448 (ex3 (gQ_12_1241 hO_426.1 t_448)) (by decide +kernel) (by decide +kernel), zA_fr hk_456.fr t_448 (ex3 (gQ_12_1242 hO_426.1 t_448)) (by decide +kernel) (by decide +kernel)⟩ kR_500
                      have px_502 : PwX S S_376 x a1_z := PwX_to iv_232 (zA_sAn eS_376 (ex3 (gQ_12_1218 hO_T_225.1 ha_x_L_226)) h_367 rfl) (zA_sAn eS_376 (ex3 (gQ_12_1219 hO_T_225.1 ha_x_L_226)) h_367 rfl) (zA_sAn eS_376 (ex3 (gQ_12_1235 hO_T_225.1 ha_x_L_226)) h_367 rfl) (zA_sAn eS_376 (ex3 (gQ_12_1236 hO_T_225.1 ha_x_L_226)) h_367 rfl) (pw5 (zA_sAn eS_376 (ex3 (gQ_12_1214 hO_T_225.1 ha_x_L_226)) h_367 rfl) (zA_sAn eS_376 (ex3 (gQ_12_1215 hO_T_225.1 ha_x_L_226)) h_367 rfl) (zA_sAn eS_376 (ex3 (gQ_12_1216 hO_T_225.1 ha_x_L_226)) h_367 rfl) (zA_sAn eS_376 (ex3 (gQ_12_1217 hO_T_225.1 ha_x_L_226)) h_367 rfl) (zA_sAn eS_376 (ex3 (gQ_12_1237 hO_T_225.1 ha_x_L_226)) h_367 rfl))
                      have px_503 : PwX S S_424 x a1_z := PwX_go px_502 hO_377.1 t_396 (by omega) g_435 (zA_fr hk_425.fr t_396 (ex3 (gQ_12_1235 hO_377.1 t_396)) (by decide +kernel) (by decide +kernel)) (zA_fr hk_425.fr t_396 (ex3 (gQ_12_1236 hO_377.1 t_396)) (by decide +kernel) (by decide +kernel)) (pw5 (zA_fr hk_425.fr t_396 (ex3 (gQ_12_1214 hO_377.1 t_396)) (by decide +kernel) (by decide +kernel)) (zA_fr hk_425.fr t_396 (ex3 (gQ_12_1215 hO_377.1 t_396)) (by decide +kernel) (by decide +kernel)) (zA_fr hk_425.fr t_396 (ex3 (gQ_12_1216 hO_377.1 t_396)) (by decide +kernel) (by decide +kernel)) (zA_fr hk_425.fr t_396 (ex3 (gQ_12_1217 hO_377.1 t_396)) (by decide +kernel) (by decide +kernel)) (zA_fr hk_425.fr t_396 (ex3 (gQ_12_1237 hO_377.1 t_396)) (by decide +kernel) (by decide +kernel)))
                      have px_504 : PwX S S_455 x a1_z := PwX_cm px_503 hO_426.1 t_448 (by omega) cx_461 (zA_fr hk_456.fr t_448 (ex3 (gQ_12_1235 hO_426.1 t_448)) (by decide +kernel) (by decide +kernel)) (zA_fr hk_456.fr t_448 (ex3 (gQ_12_1236 hO_426.1 t_448)) (by decide +kernel) (by decide +kernel)) (pw5 (zA_fr hk_456.fr t_448 (ex3 (gQ_12_1214 hO_426.1 t_448)) (by decide +kernel) (by decide +kernel)) (zA_fr hk_456.fr t_448 (ex3 (gQ_12_1215 hO_426.1 t_448)) (by decide +kernel) (by decide +kernel)) (zA_fr hk_456.fr t_448 (ex3 (gQ_12_1216 hO_426.1 t_448)) (by decide +kernel) (by decide +kernel)) (zA_fr hk_456.fr t_448 (ex3 (gQ_12_1217 hO_426.1 t_448)) (by decide +kernel) (by decide +kernel)) (zA_fr hk_456.fr t_448 (ex3 (gQ_12_1237 hO_426.1 t_448)) (by decide +kernel) (by decide +kernel)))
                      have wt_505 : WsT S S_376 x Ev A (ticB Ev Rl A) := WsT_f iv_233 (by rw [eS_376]; rfl)
                      have wt_506 : WsT S S_424 x Ev A (ticB Ev Rl A) := WsT_f wt_505 (hk_425.fr.I' (g := 1246) (by decide +kernel) t_396 rfl)
                      have wt_507 : WsT S S_455 x Ev A (ticB Ev Rl A) := WsT_f wt_506 (hk_456.fr.I' (g := 1246) (by decide +kernel) t_448 rfl)
                      have t_508 : pI S_455 1201 x = v_1 := hk_456.fr.I' (by decide +kernel) t_448 t_439
                      exact ih_L_223 _ (by omega) _ _ _ _ (i4_224) (i4_224_z) rfl hw hz_i4_224 (by omega) t_463 hO_457 zc_466 mi_458 zm_469 ⟨dn_239 ++ [c_358], t_359, (by rw [List.append_assoc]; exact (by rw [ed_241, er_360]; rfl)), (by rw [show we (folF Ev (dn_239 ++ [c_358]) (we (wdr (wg (ticB Ev Rl A) (capG (qg (ticB Ev Rl A)) ((qe (ticB Ev Rl A)).map (fun c => (c, qpl (ticB Ev Rl A) c))))) (qdr (ticB Ev Rl A) + 1)) [])) (qe (folF Ev (dn_239 ++ [c_358]) (we (wdr (wg (ticB Ev Rl A) (capG (qg (ticB Ev Rl A)) ((qe (ticB Ev Rl A)).map (fun c => (c, qpl (ticB Ev Rl A) c))))) (qdr (ticB Ev Rl A) + 1)) [])) ++ t_359) = (we (wl (wsd (wpl (folF Ev dn_239 (we (wdr (wg (ticB Ev Rl A) (capG (qg (ticB Ev Rl A)) ((qe (ticB Ev Rl A)).map (fun c => (c, qpl (ticB Ev Rl A) c))))) (qdr (ticB Ev Rl A) + 1)) [])) (fuI (qpl (folF Ev dn_239 (we (wdr (wg (ticB Ev Rl A) (capG (qg (ticB Ev Rl A)) ((qe (ticB Ev Rl A)).map (fun c => (c, qpl (ticB Ev Rl A) c))))) (qdr (ticB Ev Rl A) + 1)) []))) c_358 (qpl (folF Ev dn_239 (we (wdr (wg (ticB Ev Rl A) (capG (qg (ticB Ev Rl A)) ((qe (ticB Ev Rl A)).map (fun c => (c, qpl (ticB Ev Rl A) c))))) (qdr (ticB Ev Rl A) + 1)) [])) c_358 + 1))) (fuI (qsd (folF Ev dn_239 (we (wdr (wg (ticB Ev Rl A) (capG (qg (ticB Ev Rl A)) ((qe (ticB Ev Rl A)).map (fun c => (c, qpl (ticB Ev Rl A) c))))) (qdr (ticB Ev Rl A) + 1)) []))) c_358 (sdV Ev (folF Ev dn_239 (we (wdr (wg (ticB Ev Rl A) (capG (qg (ticB Ev Rl A)) ((qe (ticB Ev Rl A)).map (fun c => (c, qpl (ticB Ev Rl A) c))))) (qdr (ticB Ev Rl A) + 1)) [])) c_358))) (capL 600 (ql (folF Ev dn_239 (we (wdr (wg (ticB Ev Rl A) (capG (qg (ticB Ev Rl A)) ((qe (ticB Ev Rl A)).map (fun c => (c, qpl (ticB Ev Rl A) c))))) (qdr (ticB Ev Rl A) + 1)) []))) c_358)) (qe (folF Ev dn_239 (we (wdr (wg (ticB Ev Rl A) (capG (qg (ticB Ev Rl A)) ((qe (ticB Ev Rl A)).map (fun c => (c, qpl (ticB Ev Rl A) c))))) (qdr (ticB Ev Rl A) + 1)) [])) ++ t_359)) by rw [fol_s, endK_3 bs_418]; rfl]; exact PotW_of (rfl : (we (wl (wsd (wpl (folF Ev dn_239 (we (wdr (wg (ticB Ev Rl A) (capG (qg (ticB Ev Rl A)) ((qe (ticB Ev Rl A)).map (fun c => (c, qpl (ticB Ev Rl A) c))))) (qdr (ticB Ev Rl A) + 1)) [])) (fuI (qpl (folF Ev dn_239 (we (wdr (wg (ticB Ev Rl A) (capG (qg (ticB Ev Rl A)) ((qe (ticB Ev Rl A)).map (fun c => (c, qpl (ticB Ev Rl A) c))))) (qdr (ticB Ev Rl A) + 1)) []))) c_358 (qpl (folF Ev dn_239 (we (wdr (wg (ticB Ev Rl A) (capG (qg (ticB Ev Rl A)) ((qe (ticB Ev Rl A)).map (fun c => (c, qpl (ticB Ev Rl A) c))))) (qdr (ticB Ev Rl A) + 1)) [])) c_358 + 1))) (fuI (qsd (folF Ev dn_239 (we (wdr (wg (ticB Ev Rl A) (capG (qg (ticB Ev Rl A)) ((qe (ticB Ev Rl A)).map (fun c => (c, qpl (ticB Ev Rl A) c))))) (qdr (ticB Ev Rl A) + 1)) []))) c_358 (sdV Ev (folF Ev dn_239 (we (wdr (wg (ticB Ev Rl A) (capG (qg (ticB Ev Rl A)) ((qe (ticB Ev Rl A)).map (fun c => (c, qpl (ticB Ev Rl A) c))))) (qdr (ticB Ev Rl A) + 1)) [])) c_358))) (capL 600 (ql (folF Ev dn_239 (we (wdr (wg (ticB Ev Rl A) (capG (qg (ticB Ev Rl A)) ((qe (ticB Ev Rl A)).map (fun c => (c, qpl (ticB Ev Rl A) c))))) (qdr (ticB Ev Rl A) + 1)) []))) c_358)) (qe (folF Ev dn_239 (we (wdr (wg (ticB Ev Rl A) (capG (qg (ticB Ev Rl A)) ((qe (ticB Ev Rl A)).map (fun c => (c, qpl (ticB Ev Rl A) c))))) (qdr (ticB Ev Rl A) + 1)) [])) ++ t_359)) = (we (wl (wsd (wpl (folF Ev dn_239 (we (wdr (wg (ticB Ev Rl A) (capG (qg (ticB Ev Rl A)) ((qe (ticB Ev Rl A)).map (fun c => (c, qpl (ticB Ev Rl A) c))))) (qdr (ticB Ev Rl A) + 1)) [])) (fuI (qpl (folF Ev dn_239 (we (wdr (wg (ticB Ev Rl A) (capG (qg (ticB Ev Rl A)) ((qe (ticB Ev Rl A)).map (fun c => (c, qpl (ticB Ev Rl A) c))))) (qdr (ticB Ev Rl A) + 1)) []))) c_358 (qpl (folF Ev dn_239 (we (wdr (wg (ticB Ev Rl A) (capG (qg (ticB Ev Rl A)) ((qe (ticB Ev Rl A)).map (fun c => (c, qpl (ticB Ev Rl A) c))))) (qdr (ticB Ev Rl A) + 1)) [])) c_358 + 1))) (fuI (qsd (folF Ev dn_239 (we (wdr (wg (ticB Ev Rl A) (capG (qg (ticB Ev Rl A)) ((qe (ticB Ev Rl A)).map (fun c => (c, qpl (ticB Ev Rl A) c))))) (qdr (ticB Ev Rl A) + 1)) []))) c_358 (sdV Ev (folF Ev dn_239 (we (wdr (wg (ticB Ev Rl A) (capG (qg (ticB Ev Rl A)) ((qe (ticB Ev Rl A)).map (fun c => (c, qpl (ticB Ev Rl A) c))))) (qdr (ticB Ev Rl A) + 1)) [])) c_358))) (capL 600 (ql (folF Ev dn_239 (we (wdr (wg (ticB Ev Rl A) (capG (qg (ticB Ev Rl A)) ((qe (ticB Ev Rl A)).map (fun c => (c, qpl (ticB Ev Rl A) c))))) (qdr (ticB Ev Rl A) + 1)) []))) c_358)) (qe (folF Ev dn_239 (we (wdr (wg (ticB Ev Rl A) (capG (qg (ticB Ev Rl A)) ((qe (ticB Ev Rl A)).map (fun c => (c, qpl (ticB Ev Rl A) c))))) (qdr (ticB Ev Rl A) + 1)) [])) ++ t_359))) rR_471 (show RowR S_455 x (3 * a1_z + 1).toNat (qe (folF Ev dn_239 (we (wdr (wg (ticB Ev Rl A) (capG (qg (ticB Ev Rl A)) ((qe (ticB Ev Rl A)).map (fun c => (c, qpl (ticB Ev Rl A) c))))) (qdr (ticB Ev Rl A) + 1)) [])) ++ t_359) by rw [show (qe (folF Ev dn_239 (we (wdr (wg (ticB Ev Rl A) (capG (qg (ticB Ev Rl A)) ((qe (ticB Ev Rl A)).map (fun c => (c, qpl (ticB Ev Rl A) c))))) (qdr (ticB Ev Rl A) + 1)) [])) ++ t_359) = ((qe (folF Ev dn_239 (we (wdr (wg (ticB Ev Rl A) (capG (qg (ticB Ev Rl A)) ((qe (ticB Ev Rl A)).map (fun c => (c, qpl (ticB Ev Rl A) c))))) (qdr (ticB Ev Rl A) + 1)) [])) ++ rs_240).eraseIdx (i4_224_z).toNat) from (by rw [er_360, show ((i4_224_z : Int)).toNat = (qe (folF Ev dn_239 (we (wdr (wg (ticB Ev Rl A) (capG (qg (ticB Ev Rl A)) ((qe (ticB Ev Rl A)).map (fun c => (c, qpl (ticB Ev Rl A) c))))) (qdr (ticB Ev Rl A) + 1)) []))).length by omega]; exact er_app.symm)]; exact rR_473) (show RowR S_455 x (3 * a1_z + 2).toNat (capL 600 (ql (folF Ev dn_239 (we (wdr (wg (ticB Ev Rl A) (capG (qg (ticB Ev Rl A)) ((qe (ticB Ev Rl A)).map (fun c => (c, qpl (ticB Ev Rl A) c))))) (qdr (ticB Ev Rl A) + 1)) []))) c_358) by rw [capL_y (by have := rR_416.1; omega)]; exact rR_475) zR_479 zR_482 gR_491 zR_485 zR_488 kR_501 (show PlZ S_455 x (fuI (qpl (folF Ev dn_239 (we (wdr (wg (ticB Ev Rl A) (capG (qg (ticB Ev Rl A)) ((qe (ticB Ev Rl A)).map (fun c => (c, qpl (ticB Ev Rl A) c))))) (qdr (ticB Ev Rl A) + 1)) []))) c_358 (qpl (folF Ev dn_239 (we (wdr (wg (ticB Ev Rl A) (capG (qg (ticB Ev Rl A)) ((qe (ticB Ev Rl A)).map (fun c => (c, qpl (ticB Ev Rl A) c))))) (qdr (ticB Ev Rl A) + 1)) [])) c_358 + 1)) (fuI (qsd (folF Ev dn_239 (we (wdr (wg (ticB Ev Rl A) (capG (qg (ticB Ev Rl A)) ((qe (ticB Ev Rl A)).map (fun c => (c, qpl (ticB Ev Rl A) c))))) (qdr (ticB Ev Rl A) + 1)) []))) c_358 (sdV Ev (folF Ev dn_239 (we (wdr (wg (ticB Ev Rl A) (capG (qg (ticB Ev Rl A)) ((qe (ticB Ev Rl A)).map (fun c => (c, qpl (ticB Ev Rl A) c))))) (qdr (ticB Ev Rl A) + 1)) [])) c_358)) by rw [bs_418]; exact pz_494)), (by rw [fol_s, endK_3 bs_418]; show _ = ((qe (folF Ev dn_239 (we (wdr (wg (ticB Ev Rl A) (capG (qg (ticB Ev Rl A)) ((qe (ticB Ev Rl A)).map (fun c => (c, qpl (ticB Ev Rl A) c))))) (qdr (ticB Ev Rl A) + 1)) []))).length : Int); omega)⟩ px_504 wt_507 t_508 (lv_sub hl [1, 2, 3, 4, 5] rfl)
                    · have z_b_509 := trivial
                      refine lv_if_eq (tgt := 373) X.1 X.2.1 dX12_tick_347 (by decide) (fun c_510 => ?_) (fun c_510 => absurd c_510 (by decide))
                      have pe_513 : v_408 = qpl (folF Ev dn_239 (we (wdr (wg (ticB Ev Rl A) (capG (qg (ticB Ev Rl A)) ((qe (ticB Ev Rl A)).map (fun c => (c, qpl (ticB Ev Rl A) c))))) (qdr (ticB Ev Rl A) + 1)) [])) c_358 := Int32.toInt_inj.mp (by have h1 := congrArg Int32.toInt up_373; have h2 : (v_408).toInt = ((v_369.toInt + 1) - 1) := z_409; have h3 : (v_369).toInt = v_369.toInt := rfl; omega)
                      have bk_511 : ¬ ebr Ev c_358 (qpl (folF Ev dn_239 (we (wdr (wg (ticB Ev Rl A) (capG (qg (ticB Ev Rl A)) ((qe (ticB Ev Rl A)).map (fun c => (c, qpl (ticB Ev Rl A) c))))) (qdr (ticB Ev Rl A) + 1)) [])) c_358) := by rw [(hp_5.1 c_358 (by omega)).2.2]; have h := f_412; rw [mA_fr hO_377.fr ha_x (ex3 (gQ_12_1203 hG ha_x)) (by decide +kernel) (by decide +kernel), mA_fr hO_377.fr ha_x (ex3 (gQ_12_1206 hG ha_x)) (by decide +kernel) (by decide +kernel), h8_362, pe_513] at h; exact h
                      have bs_512 : sdV Ev (folF Ev dn_239 (we (wdr (wg (ticB Ev Rl A) (capG (qg (ticB Ev Rl A)) ((qe (ticB Ev Rl A)).map (fun c => (c, qpl (ticB Ev Rl A) c))))) (qdr (ticB Ev Rl A) + 1)) [])) c_358 = qsd (folF Ev dn_239 (we (wdr (wg (ticB Ev Rl A) (capG (qg (ticB Ev Rl A)) ((qe (ticB Ev Rl A)).map (fun c => (c, qpl (ticB Ev Rl A) c))))) (qdr (ticB Ev Rl A) + 1)) [])) c_358 := sdV_s (by omega) bk_511
                      have s2_514 : sdV Ev (folF Ev dn_239 (we (wdr (wg (ticB Ev Rl A) (capG (qg (ticB Ev Rl A)) ((qe (ticB Ev Rl A)).map (fun c => (c, qpl (ticB Ev Rl A) c))))) (qdr (ticB Ev Rl A) + 1)) [])) c_358 = 2 := bs_512.trans (i32_eq e2_363 t2 rfl)
                      have q2_515 : qsd (folF Ev dn_239 (we (wdr (wg (ticB Ev Rl A) (capG (qg (ticB Ev Rl A)) ((qe (ticB Ev Rl A)).map (fun c => (c, qpl (ticB Ev Rl A) c))))) (qdr (ticB Ev Rl A) + 1)) [])) c_358 = 2 := i32_eq e2_363 t2 rfl
                      obtain ⟨x_516, ex_516⟩ : ∃ y : Int32, y = i4_224 + 1 := ⟨_, rfl⟩
                      have z_517 : x_516.toInt = i4_224_z + 1 := z_add ex_516 hz_i4_224 ti_1 (by omega) (by omega)
                      refine lv_iinc (v := x_516) (lv' := [(4, .int (x_516)), (5, .int (rr_351)), (3, .int (v_128)), (2, .int (rr_106)), (0, .ref x), (1, .int (a1))]) X.1 X.2.1 dX12_tick_373 hl (k := 1) rfl (by rw [ex_516]; rfl) (by decide) rfl (fun ls hl => ?_)
                      refine lv_goto (tgt := 267) X.1 X.2.1 dX12_tick_376 (by decide) ?_
                      have zc_518 : zA S_376 x 1237 = zA S_193 x 1237 := (zA_sAn eS_376 (ex3 (gQ_12_1237 hO_T_225.1 ha_x_L_226)) h_367 rfl).trans zk_228
                      have zm_519 : ZM S S_376 x := ZM_eq iv_230 (zA_sAn eS_376 (ex3 (gQ_12_1207 hO_T_225.1 ha_x_L_226)) h_367 rfl)
                      have rR_520 : RowR S_376 x (3 * a1_z + 0).toNat (qb (folF Ev dn_239 (we (wdr (wg (ticB Ev Rl A) (capG (qg (ticB Ev Rl A)) ((qe (ticB Ev Rl A)).map (fun c => (c, qpl (ticB Ev Rl A) c))))) (qdr (ticB Ev Rl A) + 1)) []))) := RowR_eq fw_261 (zA_sAn eS_376 (ex3 (gQ_12_1218 hO_T_225.1 ha_x_L_226)) h_367 rfl) (zA_sAn eS_376 (ex3 (gQ_12_1219 hO_T_225.1 ha_x_L_226)) h_367 rfl)
                      have rR_521 : RowR S_376 x (3 * a1_z + 1).toNat (qe (folF Ev dn_239 (we (wdr (wg (ticB Ev Rl A) (capG (qg (ticB Ev Rl A)) ((qe (ticB Ev Rl A)).map (fun c => (c, qpl (ticB Ev Rl A) c))))) (qdr (ticB Ev Rl A) + 1)) [])) ++ rs_240) := RowR_eq fw_262 (zA_sAn eS_376 (ex3 (gQ_12_1218 hO_T_225.1 ha_x_L_226)) h_367 rfl) (zA_sAn eS_376 (ex3 (gQ_12_1219 hO_T_225.1 ha_x_L_226)) h_367 rfl)
                      have rR_522 : RowR S_376 x (3 * a1_z + 2).toNat (ql (folF Ev dn_239 (we (wdr (wg (ticB Ev Rl A) (capG (qg (ticB Ev Rl A)) ((qe (ticB Ev Rl A)).map (fun c => (c, qpl (ticB Ev Rl A) c))))) (qdr (ticB Ev Rl A) + 1)) []))) := RowR_eq fw_263 (zA_sAn eS_376 (ex3 (gQ_12_1218 hO_T_225.1 ha_x_L_226)) h_367 rfl) (zA_sAn eS_376 (ex3 (gQ_12_1219 hO_T_225.1 ha_x_L_226)) h_367 rfl)
                      have zR_523 : zA S_376 x 1215 a1_z.toNat = ((qst (folF Ev dn_239 (we (wdr (wg (ticB Ev Rl A) (capG (qg (ticB Ev Rl A)) ((qe (ticB Ev Rl A)).map (fun c => (c, qpl (ticB Ev Rl A) c))))) (qdr (ticB Ev Rl A) + 1)) [])))).toInt := (congrFun (zA_sAn eS_376 (ex3 (gQ_12_1215 hO_T_225.1 ha_x_L_226)) h_367 rfl) _).trans fw_268
                      have zR_524 : zA S_376 x 1214 a1_z.toNat = ((qse (folF Ev dn_239 (we (wdr (wg (ticB Ev Rl A) (capG (qg (ticB Ev Rl A)) ((qe (ticB Ev Rl A)).map (fun c => (c, qpl (ticB Ev Rl A) c))))) (qdr (ticB Ev Rl A) + 1)) [])))).toInt := (congrFun (zA_sAn eS_376 (ex3 (gQ_12_1214 hO_T_225.1 ha_x_L_226)) h_367 rfl) _).trans fw_269
                      have zR_525 : zA S_376 x 1216 a1_z.toNat = ((qdr (folF Ev dn_239 (we (wdr (wg (ticB Ev Rl A) (capG (qg (ticB Ev Rl A)) ((qe (ticB Ev Rl A)).map (fun c => (c, qpl (ticB Ev Rl A) c))))) (qdr (ticB Ev Rl A) + 1)) [])))).toInt := (congrFun (zA_sAn eS_376 (ex3 (gQ_12_1216 hO_T_225.1 ha_x_L_226)) h_367 rfl) _).trans fw_270
                      have zR_526 : zA S_376 x 1217 a1_z.toNat = ((qtk (folF Ev dn_239 (we (wdr (wg (ticB Ev Rl A) (capG (qg (ticB Ev Rl A)) ((qe (ticB Ev Rl A)).map (fun c => (c, qpl (ticB Ev Rl A) c))))) (qdr (ticB Ev Rl A) + 1)) [])))).toInt := (congrFun (zA_sAn eS_376 (ex3 (gQ_12_1217 hO_T_225.1 ha_x_L_226)) h_367 rfl) _).trans fw_271
                      have gR_527 : GrW S_376 x a1_z.toNat (qg (folF Ev dn_239 (we (wdr (wg (ticB Ev Rl A) (capG (qg (ticB Ev Rl A)) ((qe (ticB Ev Rl A)).map (fun c => (c, qpl (ticB Ev Rl A) c))))) (qdr (ticB Ev Rl A) + 1)) []))) := GrW_eq (zA_sAn eS_376 (ex3 (gQ_12_1235 hO_T_225.1 ha_x_L_226)) h_367 rfl) (zA_sAn eS_376 (ex3 (gQ_12_1236 hO_T_225.1 ha_x_L_226)) h_367 rfl) (congrFun (zA_sAn eS_376 (ex3 (gQ_12_1237 hO_T_225.1 ha_x_L_226)) h_367 rfl) _) fw_272
                      have pz_528 : PlZ S_376 x (fuI (qpl (folF Ev dn_239 (we (wdr (wg (ticB Ev Rl A) (capG (qg (ticB Ev Rl A)) ((qe (ticB Ev Rl A)).map (fun c => (c, qpl (ticB Ev Rl A) c))))) (qdr (ticB Ev Rl A) + 1)) []))) c_358 (qpl (folF Ev dn_239 (we (wdr (wg (ticB Ev Rl A) (capG (qg (ticB Ev Rl A)) ((qe (ticB Ev Rl A)).map (fun c => (c, qpl (ticB Ev Rl A) c))))) (qdr (ticB Ev Rl A) + 1)) [])) c_358 + 1)) (qsd (folF Ev dn_239 (we (wdr (wg (ticB Ev Rl A) (capG (qg (ticB Ev Rl A)) ((qe (ticB Ev Rl A)).map (fun c => (c, qpl (ticB Ev Rl A) c))))) (qdr (ticB Ev Rl A) + 1)) []))) := PlZ_8 fw_267 (zA_sAn eS_376 (ex3 (gQ_12_1207 hO_T_225.1 ha_x_L_226)) h_367 rfl) zs_392 (by omega) (z_375.symm.trans (congrArg Int32.toInt (ev_374.trans (by rw [up_373]))))
                      have t_529 : pI S_376 1238 x = v_255 := tI_sA eS_376 ev_255
                      have pz_530 : (pI S_376 1238 x).toInt = v_255.toInt := (congrArg Int32.toInt t_529).trans rfl
                      have kR_531 : SkW S_376 x (qsk (folF Ev dn_239 (we (wdr (wg (ticB Ev Rl A) (capG (qg (ticB Ev Rl A)) ((qe (ticB Ev Rl A)).map (fun c => (c, qpl (ticB Ev Rl A) c))))) (qdr (ticB Ev Rl A) + 1)) []))) := SkW_n (by rw [eS_376]; rfl) ⟨zA_sAn eS_376 (ex3 (gQ_12_1235 hO_T_225.1 ha_x_L_226)) h_367 rfl, zA_sAn eS_376 (ex3 (gQ_12_1236 hO_T_225.1 ha_x_L_226)) h_367 rfl, zA_sAn eS_376 (ex3 (gQ_12_1239 hO_T_225.1 ha_x_L_226)) h_367 rfl, zA_sAn eS_376 (ex3 (gQ_12_1240 hO_T_225.1 ha_x_L_226)) h_367 rfl, zA_sAn eS_376 (ex3 (gQ_12_1241 hO_T_225.1 ha_x_L_226)) h_367 rfl, zA_sAn eS_376 (ex3 (gQ_12_1242 hO_T_225.1 ha_x_L_226)) h_367 rfl⟩ fw_273
                      have px_532 : PwX S S_376 x a1_z := PwX_to iv_232 (zA_sAn eS_376 (ex3 (gQ_12_1218 hO_T_225.1 ha_x_L_226)) h_367 rfl) (zA_sAn eS_376 (ex3 (gQ_12_1219 hO_T_225.1 ha_x_L_226)) h_367 rfl) (zA_sAn eS_376 (ex3 (gQ_12_1235 hO_T_225.1 ha_x_L_226)) h_367 rfl) (zA_sAn eS_376 (ex3 (gQ_12_1236 hO_T_225.1 ha_x_L_226)) h_367 rfl) (pw5 (zA_sAn eS_376 (ex3 (gQ_12_1214 hO_T_225.1 ha_x_L_226)) h_367 rfl) (zA_sAn eS_376 (ex3 (gQ_12_1215 hO_T_225.1 ha_x_L_226)) h_367 rfl) (zA_sAn eS_376 (ex3 (gQ_12_1216 hO_T_225.1 ha_x_L_226)) h_367 rfl) (zA_sAn eS_376 (ex3 (gQ_12_1217 hO_T_225.1 ha_x_L_226)) h_367 rfl) (zA_sAn eS_376 (ex3 (gQ_12_1237 hO_T_225.1 ha_x_L_226)) h_367 rfl))
                      have wt_533 : WsT S S_376 x Ev A (ticB Ev Rl A) := WsT_f iv_233 (by rw [eS_376]; rfl)
                      exact ih_L_223 _ (by omega) _ _ _ _ (x_516) (x_516.toInt) rfl hw rfl (by omega) t_396 hO_377 zc_518 mi_407 zm_519 ⟨dn_239 ++ [c_358], t_359, (by rw [List.append_assoc]; exact (by rw [ed_241, er_360]; rfl)), (by rw [show we (folF Ev (dn_239 ++ [c_358]) (we (wdr (wg (ticB Ev Rl A) (capG (qg (ticB Ev Rl A)) ((qe (ticB Ev Rl A)).map (fun c => (c, qpl (ticB Ev Rl A) c))))) (qdr (ticB Ev Rl A) + 1)) [])) (qe (folF Ev (dn_239 ++ [c_358]) (we (wdr (wg (ticB Ev Rl A) (capG (qg (ticB Ev Rl A)) ((qe (ticB Ev Rl A)).map (fun c => (c, qpl (ticB Ev Rl A) c))))) (qdr (ticB Ev Rl A) + 1)) [])) ++ t_359) = (we (wsd (wpl (folF Ev dn_239 (we (wdr (wg (ticB Ev Rl A) (capG (qg (ticB Ev Rl A)) ((qe (ticB Ev Rl A)).map (fun c => (c, qpl (ticB Ev Rl A) c))))) (qdr (ticB Ev Rl A) + 1)) [])) (fuI (qpl (folF Ev dn_239 (we (wdr (wg (ticB Ev Rl A) (capG (qg (ticB Ev Rl A)) ((qe (ticB Ev Rl A)).map (fun c => (c, qpl (ticB Ev Rl A) c))))) (qdr (ticB Ev Rl A) + 1)) []))) c_358 (qpl (folF Ev dn_239 (we (wdr (wg (ticB Ev Rl A) (capG (qg (ticB Ev Rl A)) ((qe (ticB Ev Rl A)).map (fun c => (c, qpl (ticB Ev Rl A) c))))) (qdr (ticB Ev Rl A) + 1)) [])) c_358 + 1))) (fuI (qsd (folF Ev dn_239 (we (wdr (wg (ticB Ev Rl A) (capG (qg (ticB Ev Rl A)) ((qe (ticB Ev Rl A)).map (fun c => (c, qpl (ticB Ev Rl A) c))))) (qdr (ticB Ev Rl A) + 1)) []))) c_358 (sdV Ev (folF Ev dn_239 (we (wdr (wg (ticB Ev Rl A) (capG (qg (ticB Ev Rl A)) ((qe (ticB Ev Rl A)).map (fun c => (c, qpl (ticB Ev Rl A) c))))) (qdr (ticB Ev Rl A) + 1)) [])) c_358))) ((qe (folF Ev dn_239 (we (wdr (wg (ticB Ev Rl A) (capG (qg (ticB Ev Rl A)) ((qe (ticB Ev Rl A)).map (fun c => (c, qpl (ticB Ev Rl A) c))))) (qdr (ticB Ev Rl A) + 1)) [])) ++ [c_358]) ++ t_359)) by rw [fol_s, endK_2 s2_514]; rfl]; exact PotW_of (rfl : (we (wsd (wpl (folF Ev dn_239 (we (wdr (wg (ticB Ev Rl A) (capG (qg (ticB Ev Rl A)) ((qe (ticB Ev Rl A)).map (fun c => (c, qpl (ticB Ev Rl A) c))))) (qdr (ticB Ev Rl A) + 1)) [])) (fuI (qpl (folF Ev dn_239 (we (wdr (wg (ticB Ev Rl A) (capG (qg (ticB Ev Rl A)) ((qe (ticB Ev Rl A)).map (fun c => (c, qpl (ticB Ev Rl A) c))))) (qdr (ticB Ev Rl A) + 1)) []))) c_358 (qpl (folF Ev dn_239 (we (wdr (wg (ticB Ev Rl A) (capG (qg (ticB Ev Rl A)) ((qe (ticB Ev Rl A)).map (fun c => (c, qpl (ticB Ev Rl A) c))))) (qdr (ticB Ev Rl A) + 1)) [])) c_358 + 1))) (fuI (qsd (folF Ev dn_239 (we (wdr (wg (ticB Ev Rl A) (capG (qg (ticB Ev Rl A)) ((qe (ticB Ev Rl A)).map (fun c => (c, qpl (ticB Ev Rl A) c))))) (qdr (ticB Ev Rl A) + 1)) []))) c_358 (sdV Ev (folF Ev dn_239 (we (wdr (wg (ticB Ev Rl A) (capG (qg (ticB Ev Rl A)) ((qe (ticB Ev Rl A)).map (fun c => (c, qpl (ticB Ev Rl A) c))))) (qdr (ticB Ev Rl A) + 1)) [])) c_358))) ((qe (folF Ev dn_239 (we (wdr (wg (ticB Ev Rl A) (capG (qg (ticB Ev Rl A)) ((qe (ticB Ev Rl A)).map (fun c => (c, qpl (ticB Ev Rl A) c))))) (qdr (ticB Ev Rl A) + 1)) [])) ++ [c_358]) ++ t_359)) = (we (wsd (wpl (folF Ev dn_239 (we (wdr (wg (ticB Ev Rl A) (capG (qg (ticB Ev Rl A)) ((qe (ticB Ev Rl A)).map (fun c => (c, qpl (ticB Ev Rl A) c))))) (qdr (ticB Ev Rl A) + 1)) [])) (fuI (qpl (folF Ev dn_239 (we (wdr (wg (ticB Ev Rl A) (capG (qg (ticB Ev Rl A)) ((qe (ticB Ev Rl A)).map (fun c => (c, qpl (ticB Ev Rl A) c))))) (qdr (ticB Ev Rl A) + 1)) []))) c_358 (qpl (folF Ev dn_239 (we (wdr (wg (ticB Ev Rl A) (capG (qg (ticB Ev Rl A)) ((qe (ticB Ev Rl A)).map (fun c => (c, qpl (ticB Ev Rl A) c))))) (qdr (ticB Ev Rl A) + 1)) [])) c_358 + 1))) (fuI (qsd (folF Ev dn_239 (we (wdr (wg (ticB Ev Rl A) (capG (qg (ticB Ev Rl A)) ((qe (ticB Ev Rl A)).map (fun c => (c, qpl (ticB Ev Rl A) c))))) (qdr (ticB Ev Rl A) + 1)) []))) c_358 (sdV Ev (folF Ev dn_239 (we (wdr (wg (ticB Ev Rl A) (capG (qg (ticB Ev Rl A)) ((qe (ticB Ev Rl A)).map (fun c => (c, qpl (ticB Ev Rl A) c))))) (qdr (ticB Ev Rl A) + 1)) [])) c_358))) ((qe (folF Ev dn_239 (we (wdr (wg (ticB Ev Rl A) (capG (qg (ticB Ev Rl A)) ((qe (ticB Ev Rl A)).map (fun c => (c, qpl (ticB Ev Rl A) c))))) (qdr (ticB Ev Rl A) + 1)) [])) ++ [c_358]) ++ t_359))) rR_520 (show RowR S_376 x (3 * a1_z + 1).toNat ((qe (folF Ev dn_239 (we (wdr (wg (ticB Ev Rl A) (capG (qg (ticB Ev Rl A)) ((qe (ticB Ev Rl A)).map (fun c => (c, qpl (ticB Ev Rl A) c))))) (qdr (ticB Ev Rl A) + 1)) [])) ++ [c_358]) ++ t_359) by rw [List.append_assoc]; have h := rR_521; rw [er_360] at h; exact h) rR_522 zR_523 zR_524 gR_527 zR_525 zR_526 kR_531 (PlZ_st pz_528 (s2_514.trans q2_515.symm))), (by rw [fol_s, endK_2 s2_514]; show _ = ((qe (folF Ev dn_239 (we (wdr (wg (ticB Ev Rl A) (capG (qg (ticB Ev Rl A)) ((qe (ticB Ev Rl A)).map (fun c => (c, qpl (ticB Ev Rl A) c))))) (qdr (ticB Ev Rl A) + 1)) [])) ++ [c_358]).length : Int); rw [List.length_append]; show _ = (((qe (folF Ev dn_239 (we (wdr (wg (ticB Ev Rl A) (capG (qg (ticB Ev Rl A)) ((qe (ticB Ev Rl A)).map (fun c => (c, qpl (ticB Ev Rl A) c))))) (qdr (ticB Ev Rl A) + 1)) []))).length + 1 : Nat) : Int); omega)⟩ px_532 wt_533 t_390 (lv_sub hl [0, 2, 3, 4, 5] rfl)
                  · have z_b_534 := trivial
                    have k_535 : (v_369.toInt + 1) = rr_399.toInt := z_eq z_375 rfl c_404
                    have s4_536 : sdV Ev (folF Ev dn_239 (we (wdr (wg (ticB Ev Rl A) (capG (qg (ticB Ev Rl A)) ((qe (ticB Ev Rl A)).map (fun c => (c, qpl (ticB Ev Rl A) c))))) (qdr (ticB Ev Rl A) + 1)) [])) c_358 = 4 := sdV_4 (by omega)
                    refine lv_aload_n X.1 X.2.1 dX12_tick_315 rfl (lv_at hl 4 rfl) ?_
                    obtain ⟨q_537, h_538, h_539, h_540⟩ := gQ_12_1207 hO_377.1 t_396
                    refine r_getR (g := 1207) X hw t_396 rfl 7 h_538 (by decide) rfl inn_X12_tick_12 (by decide) (X.2.2.2.1 (.fieldLink RX12 25 "SilkMillModel" "stand" "[I") (by decide +kernel)) rfl (gv_1207 _ _) dX12_tick_316 ?_
                    refine lv_aload_n X.1 X.2.1 dX12_tick_319 rfl (lv_at hl 4 rfl) ?_
                    refine lv_iload_n X.1 X.2.1 dX12_tick_320 rfl (lv_at hl 5 rfl) ?_
                    refine lv_iconst (v := 1) X.1 X.2.1 dX12_tick_321 (by decide) ?_
                    refine lv_iload X.1 X.2.1 dX12_tick_322 (lv_at hl 1 rfl) ?_
                    have pz_541 : (pI S_376 1201 x).toInt = v_1.toInt := (congrArg Int32.toInt t_390).trans rfl
                    have rR_542 : RowR S_376 x (3 * a1_z + 0).toNat (qb (folF Ev dn_239 (we (wdr (wg (ticB Ev Rl A) (capG (qg (ticB Ev Rl A)) ((qe (ticB Ev Rl A)).map (fun c => (c, qpl (ticB Ev Rl A) c))))) (qdr (ticB Ev Rl A) + 1)) []))) := RowR_eq fw_261 (zA_sAn eS_376 (ex3 (gQ_12_1218 hO_T_225.1 ha_x_L_226)) h_367 rfl) (zA_sAn eS_376 (ex3 (gQ_12_1219 hO_T_225.1 ha_x_L_226)) h_367 rfl)
                    have rR_543 : RowR S_376 x (3 * a1_z + 1).toNat (qe (folF Ev dn_239 (we (wdr (wg (ticB Ev Rl A) (capG (qg (ticB Ev Rl A)) ((qe (ticB Ev Rl A)).map (fun c => (c, qpl (ticB Ev Rl A) c))))) (qdr (ticB Ev Rl A) + 1)) [])) ++ rs_240) := RowR_eq fw_262 (zA_sAn eS_376 (ex3 (gQ_12_1218 hO_T_225.1 ha_x_L_226)) h_367 rfl) (zA_sAn eS_376 (ex3 (gQ_12_1219 hO_T_225.1 ha_x_L_226)) h_367 rfl)
                    have rR_544 : RowR S_376 x (3 * a1_z + 2).toNat (ql (folF Ev dn_239 (we (wdr (wg (ticB Ev Rl A) (capG (qg (ticB Ev Rl A)) ((qe (ticB Ev Rl A)).map (fun c => (c, qpl (ticB Ev Rl A) c))))) (qdr (ticB Ev Rl A) + 1)) []))) := RowR_eq fw_263 (zA_sAn eS_376 (ex3 (gQ_12_1218 hO_T_225.1 ha_x_L_226)) h_367 rfl) (zA_sAn eS_376 (ex3 (gQ_12_1219 hO_T_225.1 ha_x_L_226)) h_367 rfl)
                    refine k_i (rm := { frames := 1, cells := 0, slots := 0, locals := 48 }) (av := [.ref x, .int (a1), .int 1, .int (i4_224)]) X hw (va_runV (As := [.int (a1), .int 1, .int (i4_224)]) (rest := [.ref q_537]) (cfix X) (k_X12_goes5 l G cy κ S_376 _ x (a1) (a1_z) (1) (1) (i4_224) (i4_224_z) rr_351.toInt hO_377.1 t_396 hz_a1 ti_1 hz_i4_224 (by first | assumption | omega) (by first | assumption | omega) (by first | assumption | omega) (by first | assumption | omega) (by first | assumption | omega) (by first | assumption | omega) mi_382) (cwV 3 X.2.2.2.1 gX12_tick_X12_goes rfl rfl rfl (by decide +kernel) ⟨Nat.le_of_ble_eq_true rfl, Nat.le_of_ble_eq_true rfl⟩) (pre_V X hw _ t_396 rfl (by decide) rfl) rfl rfl hl.1 rfl (lv_room (Nat.le_of_ble_eq_true rfl)) dX12_tick_324 ⟨Nat.le_of_ble_eq_true rfl, Nat.le_of_ble_eq_true rfl⟩) 0 0 (Nat.le_of_ble_eq_true rfl) (Nat.le_of_ble_eq_true rfl) (fun rr_545 S_546 H locs hp hw hfr hnw => ?_)
                    obtain ⟨hk_547, hp⟩ := hp
                    have hO_548 : Ok MTK S S_546 := hO_377.call hk_547 (by decide +kernel)
                    obtain ⟨g_549, g_550, g_551, g_552, g_553, g_554, g_555, g_556, g_557⟩ := hp
                    have dn_560 : rr_545.toInt = (c_358 : Int) := by have h8 := rR_543.2 _ _ ix_361; have hi : (600 * (3 * a1_z + 1) + i4_224_z).toNat = 600 * (3 * a1_z + 1).toNat + ((i4_224_z : Int)).toNat := (by omega); rw [← hi] at h8; omega
                    have zl_561 : zA S_546 x 1207 = zA S_376 x 1207 := zA_fr hk_547.fr t_396 (ex3 (gQ_12_1207 hO_377.1 t_396)) (by decide +kernel) (by decide +kernel)
                    have zz_562 := congrFun zl_561 (rr_545.toInt).toNat
                    have hrc : rr_545.toInt = rr_351.toInt := by omega
                    have t_563 : pI S_546 1201 x = v_1 := hk_547.fr.I' (by decide +kernel) t_396 t_390
                    have pz_564 : (pI S_546 1201 x).toInt = v_1.toInt := (congrArg Int32.toInt t_563).trans rfl
                    have gi_565 := g_556 (3 * a1_z + 1).toNat; rw [if_pos (by omega)] at gi_565
                    refine lv_iconst (v := 4) X.1 X.2.1 dX12_tick_327 (by decide) ?_
                    have t_566 : At S_546 q_537 354 := hk_547.fr.at h_539
                    have t_567 : pN S_546 q_537 = 600 := hk_547.fr.N h_539 h_540
                    clear h_540
                    refine r_iast X hw t_566 rfl (by rw [t_567]; exact z_ix rfl (by omega) (by omega)) dX12_tick_328 (fun H locs hw => ?_)
                    obtain ⟨S_568, eS_568⟩ : ∃ T, T = sA S_546 q_537 (upd (pA S_546 q_537) (Int32.toNatClampNeg (rr_545)) (4)) := ⟨_, rfl⟩
                    rw [← eS_568] at hw
                    have hO_569 : Ok MTK S S_568 := hO_548.sA eS_568 t_566 (by decide +kernel) (uA_354 hO_548.1 t_566)
                    have h_570 : pA S_568 q_537 (Int32.toNatClampNeg (rr_545)) = 4 := tA_sAs eS_568
                    have t_571 : pR S_546 1207 x = some q_537 := hk_547.fr.R' (by decide +kernel) t_396 h_538
                    have t_572 : pR S_568 1207 x = some q_537 := tR_sA eS_568 t_571
                    have t_574 : pR S_546 1207 x = some q_537 := by have h := t_572; rw [eS_568, pR_sA] at h; exact h
                    have zs_573 : ∀ j, zA S_568 x 1207 j = if j = (rr_545.toInt).toNat then 4 else zA S_546 x 1207 j := by have h := zA_sAs eS_568 t_574 ti_4; rw [z_nc rfl (by omega)] at h; exact h
                    have t_576 : At S_546 x 12 := hk_547.fr.at t_396
                    have mi_575 : MIe S_568 x rr_351.toInt := stand_MI (c := rr_545.toInt) hO_548.1 t_576 (show Fr [10354] S_546 S_568 by rw [eS_568]; exact Fr_sA t_566 List.mem_cons_self) g_554 (by omega) (by omega) g_555 zs_573 (Or.inl rfl)
                    have mi_577 : MI S_568 x := back_MI mi_575 (by omega) (Or.inl (by rw [← hrc, zs_573, if_pos rfl]))
                    have zc_578 : zA S_568 x 1219 = zA S_546 x 1219 := zA_sAn eS_568 (ex3 (gQ_12_1219 hO_548.1 t_576)) t_566 rfl
                    have zz_579 := congrFun zc_578 (3 * a1_z + 1).toNat
                    have t_581 : pR S_546 1207 x = some q_537 := by have h := t_572; rw [eS_568, pR_sA] at h; exact h
                    have zs_580 : ∀ j, zA S_568 x 1207 j = if j = (rr_545.toInt).toNat then 4 else zA S_546 x 1207 j := by have h := zA_sAs eS_568 t_581 ti_4; rw [z_nc rfl (by omega)] at h; exact h
                    have zm_582 : ZM S S_376 x := ZM_eq iv_230 (zA_sAn eS_376 (ex3 (gQ_12_1207 hO_T_225.1 ha_x_L_226)) h_367 rfl)
                    have zm_583 : ZM S S_546 x := ZM_eq zm_582 (zA_fr hk_547.fr t_396 (ex3 (gQ_12_1207 hO_377.1 t_396)) (by decide +kernel) (by decide +kernel))
                    have zm_584 : ZM S S_568 x := ZM_set zm_583 zs_580 ⟨by omega, by omega⟩ ⟨by omega, by omega⟩
                    refine lv_goto (tgt := 376) X.1 X.2.1 dX12_tick_329 (by decide) ?_
                    refine lv_goto (tgt := 267) X.1 X.2.1 dX12_tick_376 (by decide) ?_
                    have t_585 : At S_568 x 12 := tAt_sA eS_568 t_576
                    have zc_586 : zA S_376 x 1237 = zA S_193 x 1237 := (zA_sAn eS_376 (ex3 (gQ_12_1237 hO_T_225.1 ha_x_L_226)) h_367 rfl).trans zk_228
                    have zc_587 : zA S_546 x 1237 = zA S_193 x 1237 := (zA_fr hk_547.fr t_396 (ex3 (gQ_12_1237 hO_377.1 t_396)) (by decide +kernel) (by decide +kernel)).trans zc_586
                    have zc_588 : zA S_568 x 1237 = zA S_193 x 1237 := (zA_sAn eS_568 (ex3 (gQ_12_1237 hO_548.1 t_576)) t_566 rfl).trans zc_587
                    have rR_589 : RowR S_546 x (3 * a1_z + 0).toNat (qb (folF Ev dn_239 (we (wdr (wg (ticB Ev Rl A) (capG (qg (ticB Ev Rl A)) ((qe (ticB Ev Rl A)).map (fun c => (c, qpl (ticB Ev Rl A) c))))) (qdr (ticB Ev Rl A) + 1)) []))) := RowR_gox hO_377.1 t_396 (by omega) rR_542 g_557
                    have rR_590 : RowR S_568 x (3 * a1_z + 0).toNat (qb (folF Ev dn_239 (we (wdr (wg (ticB Ev Rl A) (capG (qg (ticB Ev Rl A)) ((qe (ticB Ev Rl A)).map (fun c => (c, qpl (ticB Ev Rl A) c))))) (qdr (ticB Ev Rl A) + 1)) []))) := RowR_eq rR_589 (zA_sAn eS_568 (ex3 (gQ_12_1218 hO_548.1 t_576)) t_566 rfl) (zA_sAn eS_568 (ex3 (gQ_12_1219 hO_548.1 t_576)) t_566 rfl)
                    have rR_591 : RowR S_546 x (3 * a1_z + 1).toNat ((qe (folF Ev dn_239 (we (wdr (wg (ticB Ev Rl A) (capG (qg (ticB Ev Rl A)) ((qe (ticB Ev Rl A)).map (fun c => (c, qpl (ticB Ev Rl A) c))))) (qdr (ticB Ev Rl A) + 1)) [])) ++ rs_240).eraseIdx (i4_224_z).toNat) := RowR_goes rR_543 g_557 (by have := rR_543.1; omega)
                    have rR_592 : RowR S_568 x (3 * a1_z + 1).toNat ((qe (folF Ev dn_239 (we (wdr (wg (ticB Ev Rl A) (capG (qg (ticB Ev Rl A)) ((qe (ticB Ev Rl A)).map (fun c => (c, qpl (ticB Ev Rl A) c))))) (qdr (ticB Ev Rl A) + 1)) [])) ++ rs_240).eraseIdx (i4_224_z).toNat) := RowR_eq rR_591 (zA_sAn eS_568 (ex3 (gQ_12_1218 hO_548.1 t_576)) t_566 rfl) (zA_sAn eS_568 (ex3 (gQ_12_1219 hO_548.1 t_576)) t_566 rfl)
                    have rR_593 : RowR S_546 x (3 * a1_z + 2).toNat (ql (folF Ev dn_239 (we (wdr (wg (ticB Ev Rl A) (capG (qg (ticB Ev Rl A)) ((qe (ticB Ev Rl A)).map (fun c => (c, qpl (ticB Ev Rl A) c))))) (qdr (ticB Ev Rl A) + 1)) []))) := RowR_gox hO_377.1 t_396 (by omega) rR_544 g_557
                    have rR_594 : RowR S_568 x (3 * a1_z + 2).toNat (ql (folF Ev dn_239 (we (wdr (wg (ticB Ev Rl A) (capG (qg (ticB Ev Rl A)) ((qe (ticB Ev Rl A)).map (fun c => (c, qpl (ticB Ev Rl A) c))))) (qdr (ticB Ev Rl A) + 1)) []))) := RowR_eq rR_593 (zA_sAn eS_568 (ex3 (gQ_12_1218 hO_548.1 t_576)) t_566 rfl) (zA_sAn eS_568 (ex3 (gQ_12_1219 hO_548.1 t_576)) t_566 rfl)
                    have zR_595 : zA S_376 x 1215 a1_z.toNat = ((qst (folF Ev dn_239 (we (wdr (wg (ticB Ev Rl A) (capG (qg (ticB Ev Rl A)) ((qe (ticB Ev Rl A)).map (fun c => (c, qpl (ticB Ev Rl A) c))))) (qdr (ticB Ev Rl A) + 1)) [])))).toInt := (congrFun (zA_sAn eS_376 (ex3 (gQ_12_1215 hO_T_225.1 ha_x_L_226)) h_367 rfl) _).trans fw_268
                    have zR_596 : zA S_546 x 1215 a1_z.toNat = ((qst (folF Ev dn_239 (we (wdr (wg (ticB Ev Rl A) (capG (qg (ticB Ev Rl A)) ((qe (ticB Ev Rl A)).map (fun c => (c, qpl (ticB Ev Rl A) c))))) (qdr (ticB Ev Rl A) + 1)) [])))).toInt := (congrFun (zA_fr hk_547.fr t_396 (ex3 (gQ_12_1215 hO_377.1 t_396)) (by decide +kernel) (by decide +kernel)) _).trans zR_595
                    have zR_597 : zA S_568 x 1215 a1_z.toNat = ((qst (folF Ev dn_239 (we (wdr (wg (ticB Ev Rl A) (capG (qg (ticB Ev Rl A)) ((qe (ticB Ev Rl A)).map (fun c => (c, qpl (ticB Ev Rl A) c))))) (qdr (ticB Ev Rl A) + 1)) [])))).toInt := (congrFun (zA_sAn eS_568 (ex3 (gQ_12_1215 hO_548.1 t_576)) t_566 rfl) _).trans zR_596
                    have zR_598 : zA S_376 x 1214 a1_z.toNat = ((qse (folF Ev dn_239 (we (wdr (wg (ticB Ev Rl A) (capG (qg (ticB Ev Rl A)) ((qe (ticB Ev Rl A)).map (fun c => (c, qpl (ticB Ev Rl A) c))))) (qdr (ticB Ev Rl A) + 1)) [])))).toInt := (congrFun (zA_sAn eS_376 (ex3 (gQ_12_1214 hO_T_225.1 ha_x_L_226)) h_367 rfl) _).trans fw_269
                    have zR_599 : zA S_546 x 1214 a1_z.toNat = ((qse (folF Ev dn_239 (we (wdr (wg (ticB Ev Rl A) (capG (qg (ticB Ev Rl A)) ((qe (ticB Ev Rl A)).map (fun c => (c, qpl (ticB Ev Rl A) c))))) (qdr (ticB Ev Rl A) + 1)) [])))).toInt := (congrFun (zA_fr hk_547.fr t_396 (ex3 (gQ_12_1214 hO_377.1 t_396)) (by decide +kernel) (by decide +kernel)) _).trans zR_598
                    have zR_600 : zA S_568 x 1214 a1_z.toNat = ((qse (folF Ev dn_239 (we (wdr (wg (ticB Ev Rl A) (capG (qg (ticB Ev Rl A)) ((qe (ticB Ev Rl A)).map (fun c => (c, qpl (ticB Ev Rl A) c))))) (qdr (ticB Ev Rl A) + 1)) [])))).toInt := (congrFun (zA_sAn eS_568 (ex3 (gQ_12_1214 hO_548.1 t_576)) t_566 rfl) _).trans zR_599
                    have zR_601 : zA S_376 x 1216 a1_z.toNat = ((qdr (folF Ev dn_239 (we (wdr (wg (ticB Ev Rl A) (capG (qg (ticB Ev Rl A)) ((qe (ticB Ev Rl A)).map (fun c => (c, qpl (ticB Ev Rl A) c))))) (qdr (ticB Ev Rl A) + 1)) [])))).toInt := (congrFun (zA_sAn eS_376 (ex3 (gQ_12_1216 hO_T_225.1 ha_x_L_226)) h_367 rfl) _).trans fw_270
                    have zR_602 : zA S_546 x 1216 a1_z.toNat = ((qdr (folF Ev dn_239 (we (wdr (wg (ticB Ev Rl A) (capG (qg (ticB Ev Rl A)) ((qe (ticB Ev Rl A)).map (fun c => (c, qpl (ticB Ev Rl A) c))))) (qdr (ticB Ev Rl A) + 1)) [])))).toInt := (congrFun (zA_fr hk_547.fr t_396 (ex3 (gQ_12_1216 hO_377.1 t_396)) (by decide +kernel) (by decide +kernel)) _).trans zR_601
                    have zR_603 : zA S_568 x 1216 a1_z.toNat = ((qdr (folF Ev dn_239 (we (wdr (wg (ticB Ev Rl A) (capG (qg (ticB Ev Rl A)) ((qe (ticB Ev Rl A)).map (fun c => (c, qpl (ticB Ev Rl A) c))))) (qdr (ticB Ev Rl A) + 1)) [])))).toInt := (congrFun (zA_sAn eS_568 (ex3 (gQ_12_1216 hO_548.1 t_576)) t_566 rfl) _).trans zR_602
                    have zR_604 : zA S_376 x 1217 a1_z.toNat = ((qtk (folF Ev dn_239 (we (wdr (wg (ticB Ev Rl A) (capG (qg (ticB Ev Rl A)) ((qe (ticB Ev Rl A)).map (fun c => (c, qpl (ticB Ev Rl A) c))))) (qdr (ticB Ev Rl A) + 1)) [])))).toInt := (congrFun (zA_sAn eS_376 (ex3 (gQ_12_1217 hO_T_225.1 ha_x_L_226)) h_367 rfl) _).trans fw_271
                    have zR_605 : zA S_546 x 1217 a1_z.toNat = ((qtk (folF Ev dn_239 (we (wdr (wg (ticB Ev Rl A) (capG (qg (ticB Ev Rl A)) ((qe (ticB Ev Rl A)).map (fun c => (c, qpl (ticB Ev Rl A) c))))) (qdr (ticB Ev Rl A) + 1)) [])))).toInt := (congrFun (zA_fr hk_547.fr t_396 (ex3 (gQ_12_1217 hO_377.1 t_396)) (by decide +kernel) (by decide +kernel)) _).trans zR_604
                    have zR_606 : zA S_568 x 1217 a1_z.toNat = ((qtk (folF Ev dn_239 (we (wdr (wg (ticB Ev Rl A) (capG (qg (ticB Ev Rl A)) ((qe (ticB Ev Rl A)).map (fun c => (c, qpl (ticB Ev Rl A) c))))) (qdr (ticB Ev Rl A) + 1)) [])))).toInt := (congrFun (zA_sAn eS_568 (ex3 (gQ_12_1217 hO_548.1 t_576)) t_566 rfl) _).trans zR_605
                    have gR_607 : GrW S_376 x a1_z.toNat (qg (folF Ev dn_239 (we (wdr (wg (ticB Ev Rl A) (capG (qg (ticB Ev Rl A)) ((qe (ticB Ev Rl A)).map (fun c => (c, qpl (ticB Ev Rl A) c))))) (qdr (ticB Ev Rl A) + 1)) []))) := GrW_eq (zA_sAn eS_376 (ex3 (gQ_12_1235 hO_T_225.1 ha_x_L_226)) h_367 rfl) (zA_sAn eS_376 (ex3 (gQ_12_1236 hO_T_225.1 ha_x_L_226)) h_367 rfl) (congrFun (zA_sAn eS_376 (ex3 (gQ_12_1237 hO_T_225.1 ha_x_L_226)) h_367 rfl) _) fw_272
                    have gR_608 : GrW S_546 x a1_z.toNat (qg (folF Ev dn_239 (we (wdr (wg (ticB Ev Rl A) (capG (qg (ticB Ev Rl A)) ((qe (ticB Ev Rl A)).map (fun c => (c, qpl (ticB Ev Rl A) c))))) (qdr (ticB Ev Rl A) + 1)) []))) := GrW_eq (zA_fr hk_547.fr t_396 (ex3 (gQ_12_1235 hO_377.1 t_396)) (by decide +kernel) (by decide +kernel)) (zA_fr hk_547.fr t_396 (ex3 (gQ_12_1236 hO_377.1 t_396)) (by decide +kernel) (by decide +kernel)) (congrFun (zA_fr hk_547.fr t_396 (ex3 (gQ_12_1237 hO_377.1 t_396)) (by decide +kernel) (by decide +kernel)) _) gR_607
                    have gR_609 : GrW S_568 x a1_z.toNat (qg (folF Ev dn_239 (we (wdr (wg (ticB Ev Rl A) (capG (qg (ticB Ev Rl A)) ((qe (ticB Ev Rl A)).map (fun c => (c, qpl (ticB Ev Rl A) c))))) (qdr (ticB Ev Rl A) + 1)) []))) := GrW_eq (zA_sAn eS_568 (ex3 (gQ_12_1235 hO_548.1 t_576)) t_566 rfl) (zA_sAn eS_568 (ex3 (gQ_12_1236 hO_548.1 t_576)) t_566 rfl) (congrFun (zA_sAn eS_568 (ex3 (gQ_12_1237 hO_548.1 t_576)) t_566 rfl) _) gR_608
                    have pz_610 : PlZ S_376 x (fuI (qpl (folF Ev dn_239 (we (wdr (wg (ticB Ev Rl A) (capG (qg (ticB Ev Rl A)) ((qe (ticB Ev Rl A)).map (fun c => (c, qpl (ticB Ev Rl A) c))))) (qdr (ticB Ev Rl A) + 1)) []))) c_358 (qpl (folF Ev dn_239 (we (wdr (wg (ticB Ev Rl A) (capG (qg (ticB Ev Rl A)) ((qe (ticB Ev Rl A)).map (fun c => (c, qpl (ticB Ev Rl A) c))))) (qdr (ticB Ev Rl A) + 1)) [])) c_358 + 1)) (qsd (folF Ev dn_239 (we (wdr (wg (ticB Ev Rl A) (capG (qg (ticB Ev Rl A)) ((qe (ticB Ev Rl A)).map (fun c => (c, qpl (ticB Ev Rl A) c))))) (qdr (ticB Ev Rl A) + 1)) []))) := PlZ_8 fw_267 (zA_sAn eS_376 (ex3 (gQ_12_1207 hO_T_225.1 ha_x_L_226)) h_367 rfl) zs_392 (by omega) (z_375.symm.trans (congrArg Int32.toInt (ev_374.trans (by rw [up_373]))))
                    have pz_611 : PlZ S_546 x (fuI (qpl (folF Ev dn_239 (we (wdr (wg (ticB Ev Rl A) (capG (qg (ticB Ev Rl A)) ((qe (ticB Ev Rl A)).map (fun c => (c, qpl (ticB Ev Rl A) c))))) (qdr (ticB Ev Rl A) + 1)) []))) c_358 (qpl (folF Ev dn_239 (we (wdr (wg (ticB Ev Rl A) (capG (qg (ticB Ev Rl A)) ((qe (ticB Ev Rl A)).map (fun c => (c, qpl (ticB Ev Rl A) c))))) (qdr (ticB Ev Rl A) + 1)) [])) c_358 + 1)) (qsd (folF Ev dn_239 (we (wdr (wg (ticB Ev Rl A) (capG (qg (ticB Ev Rl A)) ((qe (ticB Ev Rl A)).map (fun c => (c, qpl (ticB Ev Rl A) c))))) (qdr (ticB Ev Rl A) + 1)) []))) := PlZ_eq pz_610 (zA_fr hk_547.fr t_396 (ex3 (gQ_12_1208 hO_377.1 t_396)) (by decide +kernel) (by decide +kernel)) (zA_fr hk_547.fr t_396 (ex3 (gQ_12_1207 hO_377.1 t_396)) (by decide +kernel) (by decide +kernel))
                    have pz_612 : PlZ S_568 x (fuI (qpl (folF Ev dn_239 (we (wdr (wg (ticB Ev Rl A) (capG (qg (ticB Ev Rl A)) ((qe (ticB Ev Rl A)).map (fun c => (c, qpl (ticB Ev Rl A) c))))) (qdr (ticB Ev Rl A) + 1)) []))) c_358 (qpl (folF Ev dn_239 (we (wdr (wg (ticB Ev Rl A) (capG (qg (ticB Ev Rl A)) ((qe (ticB Ev Rl A)).map (fun c => (c, qpl (ticB Ev Rl A) c))))) (qdr (ticB Ev Rl A) + 1)) [])) c_358 + 1)) (fuI (qsd (folF Ev dn_239 (we (wdr (wg (ticB Ev Rl A) (capG (qg (ticB Ev Rl A)) ((qe (ticB Ev Rl A)).map (fun c => (c, qpl (ticB Ev Rl A) c))))) (qdr (ticB Ev Rl A) + 1)) []))) c_358 4) := PlZ_7 pz_611 (zA_sAn eS_568 (ex3 (gQ_12_1208 hO_548.1 t_576)) t_566 rfl) zs_580 (by omega) (by decide)
                    have t_613 : pI S_376 1238 x = v_255 := tI_sA eS_376 ev_255
                    have t_614 : pI S_546 1238 x = v_255 := hk_547.fr.I' (by decide +kernel) t_396 t_613
                    have t_615 : pI S_568 1238 x = v_255 := tI_sA eS_568 t_614
                    have pz_616 : (pI S_568 1238 x).toInt = v_255.toInt := (congrArg Int32.toInt t_615).trans rfl
                    have kR_617 : SkW S_376 x (qsk (folF Ev dn_239 (we (wdr (wg (ticB Ev Rl A) (capG (qg (ticB Ev Rl A)) ((qe (ticB Ev Rl A)).map (fun c => (c, qpl (ticB Ev Rl A) c))))) (qdr (ticB Ev Rl A) + 1)) []))) := SkW_n (by rw [eS_376]; rfl) ⟨zA_sAn eS_376 (ex3 (gQ_12_1235 hO_T_225.1 ha_x_L_226)) h_367 rfl, zA_sAn eS_376 (ex3 (gQ_12_1236 hO_T_225.1 ha_x_L_226)) h_367 rfl, zA_sAn eS_376 (ex3 (gQ_12_1239 hO_T_225.1 ha_x_L_226)) h_367 rfl, zA_sAn eS_376 (ex3 (gQ_12_1240 hO_T_225.1 ha_x_L_226)) h_367 rfl, zA_sAn eS_376 (ex3 (gQ_12_1241 hO_T_225.1 ha_x_L_226)) h_367 rfl, zA_sAn eS_376 (ex3 (gQ_12_1242 hO_T_225.1 ha_x_L_226)) h_367 rfl⟩ fw_273
                    have kR_618 : SkW S_546 x (qsk (folF Ev dn_239 (we (wdr (wg (ticB Ev Rl A) (capG (qg (ticB Ev Rl A)) ((qe (ticB Ev Rl A)).map (fun c => (c, qpl (ticB Ev Rl A) c))))) (qdr (ticB Ev Rl A) + 1)) []))) := SkW_n (congrArg Int32.toInt (hk_547.fr.I' (by decide +kernel) t_396 rfl)) ⟨zA_fr hk_547.fr t_396 (ex3 (gQ_12_1235 hO_377.1 t_396)) (by decide +kernel) (by decide +kernel), zA_fr hk_547.fr t_396 (ex3 (gQ_12_1236 hO_377.1 t_396)) (by decide +kernel) (by decide +kernel), zA_fr hk_547.fr t_396 (ex3 (gQ_12_1239 hO_377.1 t_396)) (by decide +kernel) (by decide +kernel), zA_fr hk_547.fr t_396 (ex3 (gQ_12_1240 hO_377.1 t_396)) (by decide +kernel) (by decide +kernel), zA_fr hk_547.fr t_396 (ex3 (gQ_12_1241 hO_377.1 t_396)) (by decide +kernel) (by decide +kernel), zA_fr hk_547.fr t_396 (ex3 (gQ_12_1242 hO_377.1 t_396)) (by decide +kernel) (by decide +kernel)⟩ kR_617
                    have kR_619 : SkW S_568 x (qsk (folF Ev dn_239 (we (wdr (wg (ticB Ev Rl A) (capG (qg (ticB Ev Rl A)) ((qe (ticB Ev Rl A)).map (fun c => (c, qpl (ticB Ev Rl A) c))))) (qdr (ticB Ev Rl A) + 1)) []))) := SkW_n (by rw [eS_568]; rfl) ⟨zA_sAn eS_568 (ex3 (gQ_12_1235 hO_548.1 t_576)) t_566 rfl, zA_sAn eS_568 (ex3 (gQ_12_1236 hO_548.1 t_576)) t_566 rfl, zA_sAn eS_568 (ex3 (gQ_12_1239 hO_548.1 t_576)) t_566 rfl, zA_sAn eS_568 (ex3 (gQ_12_1240 hO_548.1 t_576)) t_566 rfl, zA_sAn eS_568 (ex3 (gQ_12_1241 hO_548.1 t_576)) t_566 rfl, zA_sAn eS_568 (ex3 (gQ_12_1242 hO_548.1 t_576)) t_566 rfl⟩ kR_618
                    have px_620 : PwX S S_376 x a1_z := PwX_to iv_232 (zA_sAn eS_376 (ex3 (gQ_12_1218 hO_T_225.1 ha_x_L_226)) h_367 rfl) (zA_sAn eS_376 (ex3 (gQ_12_1219 hO_T_225.1 ha_x_L_226)) h_367 rfl) (zA_sAn eS_376 (ex3 (gQ_12_1235 hO_T_225.1 ha_x_L_226)) h_367 rfl) (zA_sAn eS_376 (ex3 (gQ_12_1236 hO_T_225.1 ha_x_L_226)) h_367 rfl) (pw5 (zA_sAn eS_376 (ex3 (gQ_12_1214 hO_T_225.1 ha_x_L_226)) h_367 rfl) (zA_sAn eS_376 (ex3 (gQ_12_1215 hO_T_225.1 ha_x_L_226)) h_367 rfl) (zA_sAn eS_376 (ex3 (gQ_12_1216 hO_T_225.1 ha_x_L_226)) h_367 rfl) (zA_sAn eS_376 (ex3 (gQ_12_1217 hO_T_225.1 ha_x_L_226)) h_367 rfl) (zA_sAn eS_376 (ex3 (gQ_12_1237 hO_T_225.1 ha_x_L_226)) h_367 rfl))
                    have px_621 : PwX S S_546 x a1_z := PwX_go px_620 hO_377.1 t_396 (by omega) g_557 (zA_fr hk_547.fr t_396 (ex3 (gQ_12_1235 hO_377.1 t_396)) (by decide +kernel) (by decide +kernel)) (zA_fr hk_547.fr t_396 (ex3 (gQ_12_1236 hO_377.1 t_396)) (by decide +kernel) (by decide +kernel)) (pw5 (zA_fr hk_547.fr t_396 (ex3 (gQ_12_1214 hO_377.1 t_396)) (by decide +kernel) (by decide +kernel)) (zA_fr hk_547.fr t_396 (ex3 (gQ_12_1215 hO_377.1 t_396)) (by decide +kernel) (by decide +kernel)) (zA_fr hk_547.fr t_396 (ex3 (gQ_12_1216 hO_377.1 t_396)) (by decide +kernel) (by decide +kernel)) (zA_fr hk_547.fr t_396 (ex3 (gQ_12_1217 hO_377.1 t_396)) (by decide +kernel) (by decide +kernel)) (zA_fr hk_547.fr t_396 (ex3 (gQ_12_1237 hO_377.1 t_396)) (by decide +kernel) (by decide +kernel)))
                    have px_622 : PwX S S_568 x a1_z := PwX_to px_621 (zA_sAn eS_568 (ex3 (gQ_12_1218 hO_548.1 t_576)) t_566 rfl) (zA_sAn eS_568 (ex3 (gQ_12_1219 hO_548.1 t_576)) t_566 rfl) (zA_sAn eS_568 (ex3 (gQ_12_1235 hO_548.1 t_576)) t_566 rfl) (zA_sAn eS_568 (ex3 (gQ_12_1236 hO_548.1 t_576)) t_566 rfl) (pw5 (zA_sAn eS_568 (ex3 (gQ_12_1214 hO_548.1 t_576)) t_566 rfl) (zA_sAn eS_568 (ex3 (gQ_12_1215 hO_548.1 t_576)) t_566 rfl) (zA_sAn eS_568 (ex3 (gQ_12_1216 hO_548.1 t_576)) t_566 rfl) (zA_sAn eS_568 (ex3 (gQ_12_1217 hO_548.1 t_576)) t_566 rfl) (zA_sAn eS_568 (ex3 (gQ_12_1237 hO_548.1 t_576)) t_566 rfl))
                    have wt_623 : WsT S S_376 x Ev A (ticB Ev Rl A) := WsT_f iv_233 (by rw [eS_376]; rfl)
                    have wt_624 : WsT S S_546 x Ev A (ticB Ev Rl A) := WsT_f wt_623 (hk_547.fr.I' (g := 1246) (by decide +kernel) t_396 rfl)
                    have wt_625 : WsT S S_568 x Ev A (ticB Ev Rl A) := WsT_f wt_624 (by rw [eS_568]; rfl)
                    have t_626 : pI S_568 1201 x = v_1 := tI_sA eS_568 t_563
                    exact ih_L_223 _ (by omega) _ _ _ _ (i4_224) (i4_224_z) rfl hw hz_i4_224 (by omega) t_585 hO_569 zc_588 mi_577 zm_584 ⟨dn_239 ++ [c_358], t_359, (by rw [List.append_assoc]; exact (by rw [ed_241, er_360]; rfl)), (by rw [show we (folF Ev (dn_239 ++ [c_358]) (we (wdr (wg (ticB Ev Rl A) (capG (qg (ticB Ev Rl A)) ((qe (ticB Ev Rl A)).map (fun c => (c, qpl (ticB Ev Rl A) c))))) (qdr (ticB Ev Rl A) + 1)) [])) (qe (folF Ev (dn_239 ++ [c_358]) (we (wdr (wg (ticB Ev Rl A) (capG (qg (ticB Ev Rl A)) ((qe (ticB Ev Rl A)).map (fun c => (c, qpl (ticB Ev Rl A) c))))) (qdr (ticB Ev Rl A) + 1)) [])) ++ t_359) = (we (wsd (wpl (folF Ev dn_239 (we (wdr (wg (ticB Ev Rl A) (capG (qg (ticB Ev Rl A)) ((qe (ticB Ev Rl A)).map (fun c => (c, qpl (ticB Ev Rl A) c))))) (qdr (ticB Ev Rl A) + 1)) [])) (fuI (qpl (folF Ev dn_239 (we (wdr (wg (ticB Ev Rl A) (capG (qg (ticB Ev Rl A)) ((qe (ticB Ev Rl A)).map (fun c => (c, qpl (ticB Ev Rl A) c))))) (qdr (ticB Ev Rl A) + 1)) []))) c_358 (qpl (folF Ev dn_239 (we (wdr (wg (ticB Ev Rl A) (capG (qg (ticB Ev Rl A)) ((qe (ticB Ev Rl A)).map (fun c => (c, qpl (ticB Ev Rl A) c))))) (qdr (ticB Ev Rl A) + 1)) [])) c_358 + 1))) (fuI (qsd (folF Ev dn_239 (we (wdr (wg (ticB Ev Rl A) (capG (qg (ticB Ev Rl A)) ((qe (ticB Ev Rl A)).map (fun c => (c, qpl (ticB Ev Rl A) c))))) (qdr (ticB Ev Rl A) + 1)) []))) c_358 (sdV Ev (folF Ev dn_239 (we (wdr (wg (ticB Ev Rl A) (capG (qg (ticB Ev Rl A)) ((qe (ticB Ev Rl A)).map (fun c => (c, qpl (ticB Ev Rl A) c))))) (qdr (ticB Ev Rl A) + 1)) [])) c_358))) (qe (folF Ev dn_239 (we (wdr (wg (ticB Ev Rl A) (capG (qg (ticB Ev Rl A)) ((qe (ticB Ev Rl A)).map (fun c => (c, qpl (ticB Ev Rl A) c))))) (qdr (ticB Ev Rl A) + 1)) [])) ++ t_359)) by rw [fol_s, endK_n (by rw [s4_536]; decide) (by rw [s4_536]; decide)]; rfl]; exact PotW_of (rfl : (we (wsd (wpl (folF Ev dn_239 (we (wdr (wg (ticB Ev Rl A) (capG (qg (ticB Ev Rl A)) ((qe (ticB Ev Rl A)).map (fun c => (c, qpl (ticB Ev Rl A) c))))) (qdr (ticB Ev Rl A) + 1)) [])) (fuI (qpl (folF Ev dn_239 (we (wdr (wg (ticB Ev Rl A) (capG (qg (ticB Ev Rl A)) ((qe (ticB Ev Rl A)).map (fun c => (c, qpl (ticB Ev Rl A) c))))) (qdr (ticB Ev Rl A) + 1)) []))) c_358 (qpl (folF Ev dn_239 (we (wdr (wg (ticB Ev Rl A) (capG (qg (ticB Ev Rl A)) ((qe (ticB Ev Rl A)).map (fun c => (c, qpl (ticB Ev Rl A) c))))) (qdr (ticB Ev Rl A) + 1)) [])) c_358 + 1))) (fuI (qsd (folF Ev dn_239 (we (wdr (wg (ticB Ev Rl A) (capG (qg (ticB Ev Rl A)) ((qe (ticB Ev Rl A)).map (fun c => (c, qpl (ticB Ev Rl A) c))))) (qdr (ticB Ev Rl A) + 1)) []))) c_358 (sdV Ev (folF Ev dn_239 (we (wdr (wg (ticB Ev Rl A) (capG (qg (ticB Ev Rl A)) ((qe (ticB Ev Rl A)).map (fun c => (c, qpl (ticB Ev Rl A) c))))) (qdr (ticB Ev Rl A) + 1)) [])) c_358))) (qe (folF Ev dn_239 (we (wdr (wg (ticB Ev Rl A) (capG (qg (ticB Ev Rl A)) ((qe (ticB Ev Rl A)).map (fun c => (c, qpl (ticB Ev Rl A) c))))) (qdr (ticB Ev Rl A) + 1)) [])) ++ t_359)) = (we (wsd (wpl (folF Ev dn_239 (we (wdr (wg (ticB Ev Rl A) (capG (qg (ticB Ev Rl A)) ((qe (ticB Ev Rl A)).map (fun c => (c, qpl (ticB Ev Rl A) c))))) (qdr (ticB Ev Rl A) + 1)) [])) (fuI (qpl (folF Ev dn_239 (we (wdr (wg (ticB Ev Rl A) (capG (qg (ticB Ev Rl A)) ((qe (ticB Ev Rl A)).map (fun c => (c, qpl (ticB Ev Rl A) c))))) (qdr (ticB Ev Rl A) + 1)) []))) c_358 (qpl (folF Ev dn_239 (we (wdr (wg (ticB Ev Rl A) (capG (qg (ticB Ev Rl A)) ((qe (ticB Ev Rl A)).map (fun c => (c, qpl (ticB Ev Rl A) c))))) (qdr (ticB Ev Rl A) + 1)) [])) c_358 + 1))) (fuI (qsd (folF Ev dn_239 (we (wdr (wg (ticB Ev Rl A) (capG (qg (ticB Ev Rl A)) ((qe (ticB Ev Rl A)).map (fun c => (c, qpl (ticB Ev Rl A) c))))) (qdr (ticB Ev Rl A) + 1)) []))) c_358 (sdV Ev (folF Ev dn_239 (we (wdr (wg (ticB Ev Rl A) (capG (qg (ticB Ev Rl A)) ((qe (ticB Ev Rl A)).map (fun c => (c, qpl (ticB Ev Rl A) c))))) (qdr (ticB Ev Rl A) + 1)) [])) c_358))) (qe (folF Ev dn_239 (we (wdr (wg (ticB Ev Rl A) (capG (qg (ticB Ev Rl A)) ((qe (ticB Ev Rl A)).map (fun c => (c, qpl (ticB Ev Rl A) c))))) (qdr (ticB Ev Rl A) + 1)) [])) ++ t_359))) rR_590 (show RowR S_568 x (3 * a1_z + 1).toNat (qe (folF Ev dn_239 (we (wdr (wg (ticB Ev Rl A) (capG (qg (ticB Ev Rl A)) ((qe (ticB Ev Rl A)).map (fun c => (c, qpl (ticB Ev Rl A) c))))) (qdr (ticB Ev Rl A) + 1)) [])) ++ t_359) by rw [show (qe (folF Ev dn_239 (we (wdr (wg (ticB Ev Rl A) (capG (qg (ticB Ev Rl A)) ((qe (ticB Ev Rl A)).map (fun c => (c, qpl (ticB Ev Rl A) c))))) (qdr (ticB Ev Rl A) + 1)) [])) ++ t_359) = ((qe (folF Ev dn_239 (we (wdr (wg (ticB Ev Rl A) (capG (qg (ticB Ev Rl A)) ((qe (ticB Ev Rl A)).map (fun c => (c, qpl (ticB Ev Rl A) c))))) (qdr (ticB Ev Rl A) + 1)) [])) ++ rs_240).eraseIdx (i4_224_z).toNat) from (by rw [er_360, show ((i4_224_z : Int)).toNat = (qe (folF Ev dn_239 (we (wdr (wg (ticB Ev Rl A) (capG (qg (ticB Ev Rl A)) ((qe (ticB Ev Rl A)).map (fun c => (c, qpl (ticB Ev Rl A) c))))) (qdr (ticB Ev Rl A) + 1)) []))).length by omega]; exact er_app.symm)]; exact rR_592) rR_594 zR_597 zR_600 gR_609 zR_603 zR_606 kR_619 (show PlZ S_568 x (fuI (qpl (folF Ev dn_239 (we (wdr (wg (ticB Ev Rl A) (capG (qg (ticB Ev Rl A)) ((qe (ticB Ev Rl A)).map (fun c => (c, qpl (ticB Ev Rl A) c))))) (qdr (ticB Ev Rl A) + 1)) []))) c_358 (qpl (folF Ev dn_239 (we (wdr (wg (ticB Ev Rl A) (capG (qg (ticB Ev Rl A)) ((qe (ticB Ev Rl A)).map (fun c => (c, qpl (ticB Ev Rl A) c))))) (qdr (ticB Ev Rl A) + 1)) [])) c_358 + 1)) (fuI (qsd (folF Ev dn_239 (we (wdr (wg (ticB Ev Rl A) (capG (qg (ticB Ev Rl A)) ((qe (ticB Ev Rl A)).map (fun c => (c, qpl (ticB Ev Rl A) c))))) (qdr (ticB Ev Rl A) + 1)) []))) c_358 (sdV Ev (folF Ev dn_239 (we (wdr (wg (ticB Ev Rl A) (capG (qg (ticB Ev Rl A)) ((qe (ticB Ev Rl A)).map (fun c => (c, qpl (ticB Ev Rl A) c))))) (qdr (ticB Ev Rl A) + 1)) [])) c_358)) by rw [s4_536]; exact pz_612)), (by rw [fol_s, endK_n (by rw [s4_536]; decide) (by rw [s4_536]; decide)]; show _ = ((qe (folF Ev dn_239 (we (wdr (wg (ticB Ev Rl A) (capG (qg (ticB Ev Rl A)) ((qe (ticB Ev Rl A)).map (fun c => (c, qpl (ticB Ev Rl A) c))))) (qdr (ticB Ev Rl A) + 1)) []))).length : Int); omega)⟩ px_622 wt_625 t_626 (lv_sub hl [1, 2, 3, 4, 5] rfl)
              have t_627 : At S_217 x 12 := tAt_sA eS_217 t_205
              have mi_628 : MIe S_193 x (-1) := MIe_37 mk_149 hO_T_143.1 ha_x_L_144 h_183 eS_193
              have mi_629 : MIe S_217 x (-1) := MIe_sA mi_628 hO_194.1 t_205 h_208 eS_217 (by decide +kernel)
              have zm_630 : ZM S S_193 x := ZM_eq iv_150 (zA_sAn eS_193 (ex3 (gQ_12_1207 hO_T_143.1 ha_x_L_144)) h_183 rfl)
              have zm_631 : ZM S S_217 x := ZM_eq zm_630 (zA_sAn eS_217 (ex3 (gQ_12_1207 hO_194.1 t_205)) h_208 rfl)
              have rR_632 : RowR S_193 x (3 * a1_z + 0).toNat (qb (ticB Ev Rl A)) := RowR_eq pw_162 (zA_sAn eS_193 (ex3 (gQ_12_1218 hO_T_143.1 ha_x_L_144)) h_183 rfl) (zA_sAn eS_193 (ex3 (gQ_12_1219 hO_T_143.1 ha_x_L_144)) h_183 rfl)
              have rR_633 : RowR S_217 x (3 * a1_z + 0).toNat (qb (ticB Ev Rl A)) := RowR_eq rR_632 (zA_sAn eS_217 (ex3 (gQ_12_1218 hO_194.1 t_205)) h_208 rfl) (zA_sAn eS_217 (ex3 (gQ_12_1219 hO_194.1 t_205)) h_208 rfl)
              have rR_634 : RowR S_193 x (3 * a1_z + 1).toNat (qe (ticB Ev Rl A)) := RowR_eq pw_163 (zA_sAn eS_193 (ex3 (gQ_12_1218 hO_T_143.1 ha_x_L_144)) h_183 rfl) (zA_sAn eS_193 (ex3 (gQ_12_1219 hO_T_143.1 ha_x_L_144)) h_183 rfl)
              have rR_635 : RowR S_217 x (3 * a1_z + 1).toNat (qe (ticB Ev Rl A)) := RowR_eq rR_634 (zA_sAn eS_217 (ex3 (gQ_12_1218 hO_194.1 t_205)) h_208 rfl) (zA_sAn eS_217 (ex3 (gQ_12_1219 hO_194.1 t_205)) h_208 rfl)
              have rR_636 : RowR S_193 x (3 * a1_z + 2).toNat (ql (ticB Ev Rl A)) := RowR_eq pw_164 (zA_sAn eS_193 (ex3 (gQ_12_1218 hO_T_143.1 ha_x_L_144)) h_183 rfl) (zA_sAn eS_193 (ex3 (gQ_12_1219 hO_T_143.1 ha_x_L_144)) h_183 rfl)
              have rR_637 : RowR S_217 x (3 * a1_z + 2).toNat (ql (ticB Ev Rl A)) := RowR_eq rR_636 (zA_sAn eS_217 (ex3 (gQ_12_1218 hO_194.1 t_205)) h_208 rfl) (zA_sAn eS_217 (ex3 (gQ_12_1219 hO_194.1 t_205)) h_208 rfl)
              have zR_638 : zA S_193 x 1215 a1_z.toNat = ((qst (ticB Ev Rl A))).toInt := (congrFun (zA_sAn eS_193 (ex3 (gQ_12_1215 hO_T_143.1 ha_x_L_144)) h_183 rfl) _).trans pw_165
              have zR_639 : zA S_217 x 1215 a1_z.toNat = ((qst (ticB Ev Rl A))).toInt := (congrFun (zA_sAn eS_217 (ex3 (gQ_12_1215 hO_194.1 t_205)) h_208 rfl) _).trans zR_638
              have zR_640 : zA S_193 x 1214 a1_z.toNat = ((qse (ticB Ev Rl A))).toInt := (congrFun (zA_sAn eS_193 (ex3 (gQ_12_1214 hO_T_143.1 ha_x_L_144)) h_183 rfl) _).trans pw_166
              have zR_641 : zA S_217 x 1214 a1_z.toNat = ((qse (ticB Ev Rl A))).toInt := (congrFun (zA_sAn eS_217 (ex3 (gQ_12_1214 hO_194.1 t_205)) h_208 rfl) _).trans zR_640
              have zR_642 : zA S_217 x 1216 a1_z.toNat = ((qdr (ticB Ev Rl A) + 1)).toInt := (by rw [zs_221, if_pos (by omega)]; exact (congrArg Int32.toInt (ev_215.trans (by rw [us_214]))))
              have zR_643 : zA S_193 x 1217 a1_z.toNat = ((qtk (ticB Ev Rl A))).toInt := (congrFun (zA_sAn eS_193 (ex3 (gQ_12_1217 hO_T_143.1 ha_x_L_144)) h_183 rfl) _).trans pw_169
              have zR_644 : zA S_217 x 1217 a1_z.toNat = ((qtk (ticB Ev Rl A))).toInt := (congrFun (zA_sAn eS_217 (ex3 (gQ_12_1217 hO_194.1 t_205)) h_208 rfl) _).trans zR_643
              have gR_645 : GrW S_193 x a1_z.toNat (capG (qg (ticB Ev Rl A)) ((qe (ticB Ev Rl A)).map (fun c => (c, qpl (ticB Ev Rl A) c)))) := GrW_draw (m := (rr_117.toInt + v_124.toInt)) (by omega) (by omega) (by rw [iv_154]; have := pw_163.1; omega) (by have h := iv_155; rw [show (i4_142_z : Int) = ((qe (ticB Ev Rl A)).length : Int) by have := pw_163.1; omega] at h; exact h) (by have hg9 := pw_167.1; omega) (zA_sAn eS_193 (ex3 (gQ_12_1235 hO_T_143.1 ha_x_L_144)) h_183 rfl) (zA_sAn eS_193 (ex3 (gQ_12_1236 hO_T_143.1 ha_x_L_144)) h_183 rfl) (by rw [zs_203, if_pos (by omega)]; omega) pw_167
              have gR_646 : GrW S_217 x a1_z.toNat (capG (qg (ticB Ev Rl A)) ((qe (ticB Ev Rl A)).map (fun c => (c, qpl (ticB Ev Rl A) c)))) := GrW_eq (zA_sAn eS_217 (ex3 (gQ_12_1235 hO_194.1 t_205)) h_208 rfl) (zA_sAn eS_217 (ex3 (gQ_12_1236 hO_194.1 t_205)) h_208 rfl) (congrFun (zA_sAn eS_217 (ex3 (gQ_12_1237 hO_194.1 t_205)) h_208 rfl) _) gR_645
              have pz_647 : PlZ S_193 x (qpl (ticB Ev Rl A)) (qsd (ticB Ev Rl A)) := PlZ_eq pw_171 (zA_sAn eS_193 (ex3 (gQ_12_1208 hO_T_143.1 ha_x_L_144)) h_183 rfl) (zA_sAn eS_193 (ex3 (gQ_12_1207 hO_T_143.1 ha_x_L_144)) h_183 rfl)
              have pz_648 : PlZ S_217 x (qpl (ticB Ev Rl A)) (qsd (ticB Ev Rl A)) := PlZ_eq pz_647 (zA_sAn eS_217 (ex3 (gQ_12_1208 hO_194.1 t_205)) h_208 rfl) (zA_sAn eS_217 (ex3 (gQ_12_1207 hO_194.1 t_205)) h_208 rfl)
              have t_649 : pI S_193 1238 x = v_172 := tI_sA eS_193 ev_172
              have t_650 : pI S_217 1238 x = v_172 := tI_sA eS_217 t_649
              have pz_651 : (pI S_217 1238 x).toInt = v_172.toInt := (congrArg Int32.toInt t_650).trans rfl
              have kR_652 : SkW S_193 x (qsk (ticB Ev Rl A)) := SkW_n (by rw [eS_193]; rfl) ⟨zA_sAn eS_193 (ex3 (gQ_12_1235 hO_T_143.1 ha_x_L_144)) h_183 rfl, zA_sAn eS_193 (ex3 (gQ_12_1236 hO_T_143.1 ha_x_L_144)) h_183 rfl, zA_sAn eS_193 (ex3 (gQ_12_1239 hO_T_143.1 ha_x_L_144)) h_183 rfl, zA_sAn eS_193 (ex3 (gQ_12_1240 hO_T_143.1 ha_x_L_144)) h_183 rfl, zA_sAn eS_193 (ex3 (gQ_12_1241 hO_T_143.1 ha_x_L_144)) h_183 rfl, zA_sAn eS_193 (ex3 (gQ_12_1242 hO_T_143.1 ha_x_L_144)) h_183 rfl⟩ pw_170
              have kR_653 : SkW S_217 x (qsk (ticB Ev Rl A)) := SkW_n (by rw [eS_217]; rfl) ⟨zA_sAn eS_217 (ex3 (gQ_12_1235 hO_194.1 t_205)) h_208 rfl, zA_sAn eS_217 (ex3 (gQ_12_1236 hO_194.1 t_205)) h_208 rfl, zA_sAn eS_217 (ex3 (gQ_12_1239 hO_194.1 t_205)) h_208 rfl, zA_sAn eS_217 (ex3 (gQ_12_1240 hO_194.1 t_205)) h_208 rfl, zA_sAn eS_217 (ex3 (gQ_12_1241 hO_194.1 t_205)) h_208 rfl, zA_sAn eS_217 (ex3 (gQ_12_1242 hO_194.1 t_205)) h_208 rfl⟩ kR_652
              have px_654 : PwX S S_193 x a1_z := PwX_z iv_152 (zA_sAn eS_193 (ex3 (gQ_12_1218 hO_T_143.1 ha_x_L_144)) h_183 rfl) (zA_sAn eS_193 (ex3 (gQ_12_1219 hO_T_143.1 ha_x_L_144)) h_183 rfl) (zA_sAn eS_193 (ex3 (gQ_12_1235 hO_T_143.1 ha_x_L_144)) h_183 rfl) (zA_sAn eS_193 (ex3 (gQ_12_1236 hO_T_143.1 ha_x_L_144)) h_183 rfl) zs_203 (by omega) (pw4 (fun _ => zA_sAn eS_193 (ex3 (gQ_12_1214 hO_T_143.1 ha_x_L_144)) h_183 rfl) (fun _ => zA_sAn eS_193 (ex3 (gQ_12_1215 hO_T_143.1 ha_x_L_144)) h_183 rfl) (fun _ => zA_sAn eS_193 (ex3 (gQ_12_1216 hO_T_143.1 ha_x_L_144)) h_183 rfl) (fun _ => zA_sAn eS_193 (ex3 (gQ_12_1217 hO_T_143.1 ha_x_L_144)) h_183 rfl) (fun h => absurd rfl h))
              have px_655 : PwX S S_217 x a1_z := PwX_z px_654 (zA_sAn eS_217 (ex3 (gQ_12_1218 hO_194.1 t_205)) h_208 rfl) (zA_sAn eS_217 (ex3 (gQ_12_1219 hO_194.1 t_205)) h_208 rfl) (zA_sAn eS_217 (ex3 (gQ_12_1235 hO_194.1 t_205)) h_208 rfl) (zA_sAn eS_217 (ex3 (gQ_12_1236 hO_194.1 t_205)) h_208 rfl) zs_221 (by omega) (pw4 (fun _ => zA_sAn eS_217 (ex3 (gQ_12_1214 hO_194.1 t_205)) h_208 rfl) (fun _ => zA_sAn eS_217 (ex3 (gQ_12_1215 hO_194.1 t_205)) h_208 rfl) (fun h => absurd rfl h) (fun _ => zA_sAn eS_217 (ex3 (gQ_12_1217 hO_194.1 t_205)) h_208 rfl) (fun _ => zA_sAn eS_217 (ex3 (gQ_12_1237 hO_194.1 t_205)) h_208 rfl))
              have wt_656 : WsT S S_193 x Ev A (ticB Ev Rl A) := WsT_f iv_153 (by rw [eS_193]; rfl)
              have wt_657 : WsT S S_217 x Ev A (ticB Ev Rl A) := WsT_f wt_656 (by rw [eS_217]; rfl)
              exact L_223 _ _ _ _ _ (0) (0) rfl hw ti_0 (by omega) t_627 hO_218 zc_227 mi_629 zm_631 ⟨[], qe (ticB Ev Rl A), rfl, PotW_of (show we (we (wdr (wg (ticB Ev Rl A) (capG (qg (ticB Ev Rl A)) ((qe (ticB Ev Rl A)).map (fun c => (c, qpl (ticB Ev Rl A) c))))) (qdr (ticB Ev Rl A) + 1)) []) ([] ++ qe (ticB Ev Rl A)) = (wdr (wg (ticB Ev Rl A) (capG (qg (ticB Ev Rl A)) ((qe (ticB Ev Rl A)).map (fun c => (c, qpl (ticB Ev Rl A) c))))) (qdr (ticB Ev Rl A) + 1)) from rfl) rR_633 rR_635 rR_637 zR_639 zR_641 gR_646 zR_642 zR_644 kR_653 pz_648, (by show (0 : Int) = ((0 : Nat) : Int); rfl)⟩ px_655 wt_657 t_235 (lv_sub hl [0, 1, 2, 3, 4] rfl)
            · have z_b_658 := trivial
              have k_659 : i4_142_z < rr_106.toInt := z_nle rfl hz_i4_142 c_178
              have zz_660 := congrFun zk_146 (3 * a1_z + 1).toNat
              refine lv_aload_n X.1 X.2.1 dX12_tick_200 rfl (lv_at hl 3 rfl) ?_
              obtain ⟨q_661, h_662, h_663, h_664⟩ := gQ_12_1236 hO_T_143.1 ha_x_L_144
              refine r_getR (g := 1236) X hw ha_x_L_144 rfl 36 h_662 (by decide) rfl inn_X12_tick_12 (by decide) (X.2.2.2.1 (.fieldLink RX12 94 "SilkMillModel" "drawn" "[I") (by decide +kernel)) rfl (gv_1236 _ _) dX12_tick_201 ?_
              refine lv_bipush (v := 12) X.1 X.2.1 dX12_tick_204 (by decide) ?_
              refine lv_iload_n X.1 X.2.1 dX12_tick_206 rfl (lv_at hl 1 rfl) ?_
              refine lv_imul X.1 X.2.1 dX12_tick_207 ?_
              refine lv_topi (fun v_665 ev_665 => ?_)
              have z_666 : v_665.toInt = 12 * (rr_117.toInt + v_124.toInt) := z_mul ev_665 ti_12 z_129 (by omega) (by omega)
              refine lv_iload X.1 X.2.1 dX12_tick_208 (lv_at hl 0 rfl) ?_
              refine lv_iadd X.1 X.2.1 dX12_tick_210 ?_
              refine lv_topi (fun v_667 ev_667 => ?_)
              have z_668 : v_667.toInt = (12 * (rr_117.toInt + v_124.toInt)) + i4_142_z := z_add ev_667 z_666 hz_i4_142 (by omega) (by omega)
              refine lv_sipush (v := 1000) X.1 X.2.1 dX12_tick_211 (by decide) ?_
              refine lv_aload_n X.1 X.2.1 dX12_tick_214 rfl (lv_at hl 3 rfl) ?_
              refine lv_iload_n X.1 X.2.1 dX12_tick_215 rfl (lv_at hl 4 rfl) ?_
              refine lv_iconst (v := 1) X.1 X.2.1 dX12_tick_216 (by decide) ?_
              refine lv_iload X.1 X.2.1 dX12_tick_217 (lv_at hl 0 rfl) ?_
              refine k_i (rm := { frames := 1, cells := 0, slots := 0, locals := 48 }) (av := [.ref x, .int (a1), .int 1, .int (i4_142)]) X hw (va_runV (As := [.int (a1), .int 1, .int (i4_142)]) (rest := [.int 1000, .int (v_667), .ref q_661]) (cfix X) (k_X12_at2 l G cy κ T_143 _ x (a1) (a1_z) (1) (1) (i4_142) (i4_142_z) hO_T_143.1 ha_x_L_144 hz_a1 ti_1 hz_i4_142 (by first | assumption | omega) (by first | assumption | omega) (by first | assumption | omega) (by first | assumption | omega) (by first | assumption | omega) (by first | assumption | omega)) (cwV 3 X.2.2.2.1 gX12_tick_X12_at rfl rfl rfl (by decide +kernel) ⟨Nat.le_of_ble_eq_true rfl, Nat.le_of_ble_eq_true rfl⟩) (pre_V X hw _ ha_x_L_144 rfl (by decide) rfl) rfl rfl hl.1 rfl (lv_room (Nat.le_of_ble_eq_true rfl)) dX12_tick_219 ⟨Nat.le_of_ble_eq_true rfl, Nat.le_of_ble_eq_true rfl⟩) 0 0 (Nat.le_of_ble_eq_true rfl) (Nat.le_of_ble_eq_true rfl) (fun rr_669 S_670 H locs hp hw hfr hnw => ?_)
              obtain ⟨e2, hp⟩ := hp
              subst e2
              obtain ⟨f_671, f_672, f_673⟩ := hp
              refine lv_imul X.1 X.2.1 dX12_tick_222 ?_
              refine lv_topi (fun v_674 ev_674 => ?_)
              have z_675 : v_674.toInt = 1000 * rr_669.toInt := z_mul ev_674 ti_1000 rfl (by omega) (by omega)
              refine lv_aload_n X.1 X.2.1 dX12_tick_223 rfl (lv_at hl 3 rfl) ?_
              obtain ⟨q_676, h_677, h_678, h_679⟩ := gQ_12_1208 hO_T_143.1 ha_x_L_144
              refine r_getR (g := 1208) X hw ha_x_L_144 rfl 8 h_677 (by decide) rfl inn_X12_tick_12 (by decide) (X.2.2.2.1 (.fieldLink RX12 28 "SilkMillModel" "place" "[I") (by decide +kernel)) rfl (gv_1208 _ _) dX12_tick_224 ?_
              refine lv_aload_n X.1 X.2.1 dX12_tick_227 rfl (lv_at hl 3 rfl) ?_
              refine lv_iload_n X.1 X.2.1 dX12_tick_228 rfl (lv_at hl 4 rfl) ?_
              refine lv_iconst (v := 1) X.1 X.2.1 dX12_tick_229 (by decide) ?_
              refine lv_iload X.1 X.2.1 dX12_tick_230 (lv_at hl 0 rfl) ?_
              refine k_i (rm := { frames := 1, cells := 0, slots := 0, locals := 48 }) (av := [.ref x, .int (a1), .int 1, .int (i4_142)]) X hw (va_runV (As := [.int (a1), .int 1, .int (i4_142)]) (rest := [.ref q_676, .int (v_674), .int (v_667), .ref q_661]) (cfix X) (k_X12_at2 l G cy κ T_143 _ x (a1) (a1_z) (1) (1) (i4_142) (i4_142_z) hO_T_143.1 ha_x_L_144 hz_a1 ti_1 hz_i4_142 (by first | assumption | omega) (by first | assumption | omega) (by first | assumption | omega) (by first | assumption | omega) (by first | assumption | omega) (by first | assumption | omega)) (cwV 3 X.2.2.2.1 gX12_tick_X12_at rfl rfl rfl (by decide +kernel) ⟨Nat.le_of_ble_eq_true rfl, Nat.le_of_ble_eq_true rfl⟩) (pre_V X hw _ ha_x_L_144 rfl (by decide) rfl) rfl rfl hl.1 rfl (lv_room (Nat.le_of_ble_eq_true rfl)) dX12_tick_232 ⟨Nat.le_of_ble_eq_true rfl, Nat.le_of_ble_eq_true rfl⟩) 0 0 (Nat.le_of_ble_eq_true rfl) (Nat.le_of_ble_eq_true rfl) (fun rr_680 S_681 H locs hp hw hfr hnw => ?_)
              obtain ⟨e2, hp⟩ := hp
              subst e2
              obtain ⟨f_682, f_683, f_684⟩ := hp
              refine r_iald X hw h_678 rfl (by rw [h_679]; exact z_ix rfl (by omega) (by omega)) dX12_tick_235 ?_
              refine lv_topi (fun v_685 ev_685 => ?_)
              have z_686 := gE_374 hO_T_143.1 h_678 (Int32.toNatClampNeg (rr_680)); rw [← ev_685] at z_686
              have ev_685 := ev_685.symm
              have zf_687 : zA T_143 x 1208 (rr_680.toInt).toNat = v_685.toInt := (zA_of h_677 rfl (by omega) ev_685)
              have m8_688 := MI_alive mk_149 (c := rr_680.toInt) (r := 3 * a1_z + 1) (k := i4_142_z) (gI_12_1201 hO_T_143.1 ha_x_L_144).2 (by omega) (by omega) (by omega) (by omega) (by omega)
              have hh_689 : rr_680.toInt = rr_669.toInt := by omega
              rw [hh_689] at m8_688 zf_687
              rw [zf_687] at m8_688
              have lg_690 := lenZ_le hO_T_143.1 ha_x_L_144 (rr_669.toInt)
              have dk_691 : dOK T_143 x (1000 * rr_669.toInt + v_685.toInt) := dOK_new (by omega) (by omega) (by omega) (by omega) lg_690
              have zf_692 : zA T_143 x 1208 (rr_680.toInt).toNat = v_685.toInt := (zA_of h_677 rfl (by omega) ev_685)
              refine lv_iadd X.1 X.2.1 dX12_tick_236 ?_
              refine lv_topi (fun v_693 ev_693 => ?_)
              have z_694 : v_693.toInt = (1000 * rr_669.toInt) + v_685.toInt := z_add ev_693 z_675 rfl (by omega) (by omega)
              refine r_iast X hw h_663 rfl (by rw [h_664]; exact z_ix z_668 (by omega) (by omega)) dX12_tick_237 (fun H locs hw => ?_)
              obtain ⟨S_695, eS_695⟩ : ∃ T, T = sA T_143 q_661 (upd (pA T_143 q_661) (Int32.toNatClampNeg (v_667)) (v_693)) := ⟨_, rfl⟩
              rw [← eS_695] at hw
              have hO_696 : Ok MTK S S_695 := hO_T_143.sA eS_695 h_663 (by decide +kernel) (uA_934 hO_T_143.1 h_663 (by omega) (by omega))
              have h_697 : pA S_695 q_661 (Int32.toNatClampNeg (v_667)) = v_693 := tA_sAs eS_695
              have t_698 : pR S_695 1236 x = some q_661 := tR_sA eS_695 h_662
              have t_700 : pR T_143 1236 x = some q_661 := by have h := t_698; rw [eS_695, pR_sA] at h; exact h
              have zs_699 : ∀ j, zA S_695 x 1236 j = if j = (((12 * (rr_117.toInt + v_124.toInt)) + i4_142_z)).toNat then ((1000 * rr_669.toInt) + v_685.toInt) else zA T_143 x 1236 j := by have h := zA_sAs eS_695 t_700 z_694; rw [z_nc z_668 (by omega)] at h; exact h
              have mi_701 : MIe S_695 x (-1) := drawn_MI hO_T_143.1 ha_x_L_144 (show Fr [10934] T_143 S_695 by rw [eS_695]; exact Fr_sA h_663 List.mem_cons_self) mk_149 zs_699 dk_691
              obtain ⟨mc_702, mc_703⟩ : ∃ c, (qe (ticB Ev Rl A))[(i4_142_z).toNat]? = some c := ⟨_, List.getElem?_eq_getElem (by have := pw_163.1; omega)⟩
              have mc_704 : ((1000 * rr_669.toInt) + v_685.toInt) = 1000 * (mc_702 : Int) + (qpl (ticB Ev Rl A) mc_702).toInt ∧ 0 ≤ (qpl (ticB Ev Rl A) mc_702).toInt ∧ (qpl (ticB Ev Rl A) mc_702).toInt < 1000 := by have h18 := pw_163.2 _ _ mc_703; have hi : (600 * (3 * a1_z + 1) + i4_142_z).toNat = 600 * (3 * a1_z + 1).toNat + (i4_142_z).toNat := (by omega); rw [← hi] at h18; have hr : rr_680.toInt = (mc_702 : Int) := (by omega); have h8 := (pw_171 mc_702 (by omega)).1; have h9 := zf_692; rw [hr, Int.toNat_natCast] at h9; omega
              have mt_705 : MtL S_695 x ((rr_117.toInt + v_124.toInt)) (i4_142_z + 1) (qe (ticB Ev Rl A)) (qpl (ticB Ev Rl A)) := MtL_s (i := ((12 * (rr_117.toInt + v_124.toInt)) + i4_142_z)) (by omega) (by omega) mc_703 (by omega) mc_704 zs_699 iv_155
              have mt_706 : zA S_695 x 1235 ((rr_117.toInt + v_124.toInt)).toNat = rr_106.toInt := (congrFun (zA_sAn eS_695 (ex3 (gQ_12_1235 hO_T_143.1 ha_x_L_144)) h_663 rfl) _).trans iv_154
              obtain ⟨x_707, ex_707⟩ : ∃ y : Int32, y = i4_142 + 1 := ⟨_, rfl⟩
              have z_708 : x_707.toInt = i4_142_z + 1 := z_add ex_707 hz_i4_142 ti_1 (by omega) (by omega)
              refine lv_iinc (v := x_707) (lv' := [(4, .int (x_707)), (3, .int (v_128)), (2, .int (rr_106)), (0, .ref x), (1, .int (a1))]) X.1 X.2.1 dX12_tick_238 hl (k := 0) rfl (by rw [ex_707]; rfl) (by decide) rfl (fun ls hl => ?_)
              refine lv_goto (tgt := 194) X.1 X.2.1 dX12_tick_241 (by decide) ?_
              have t_709 : At S_695 x 12 := tAt_sA eS_695 ha_x_L_144
              have zc_710 : zA S_695 x 1219 = zA T_67 x 1219 := (zA_sAn eS_695 (ex3 (gQ_12_1219 hO_T_143.1 ha_x_L_144)) h_663 rfl).trans zk_146
              have zc_711 : zA S_695 x 1237 = zA T_67 x 1237 := (zA_sAn eS_695 (ex3 (gQ_12_1237 hO_T_143.1 ha_x_L_144)) h_663 rfl).trans zk_148
              have zm_712 : ZM S S_695 x := ZM_eq iv_150 (zA_sAn eS_695 (ex3 (gQ_12_1207 hO_T_143.1 ha_x_L_144)) h_663 rfl)
              have rR_713 : RowR S_695 x (3 * a1_z + 0).toNat (qb (ticB Ev Rl A)) := RowR_eq pw_162 (zA_sAn eS_695 (ex3 (gQ_12_1218 hO_T_143.1 ha_x_L_144)) h_663 rfl) (zA_sAn eS_695 (ex3 (gQ_12_1219 hO_T_143.1 ha_x_L_144)) h_663 rfl)
              have rR_714 : RowR S_695 x (3 * a1_z + 1).toNat (qe (ticB Ev Rl A)) := RowR_eq pw_163 (zA_sAn eS_695 (ex3 (gQ_12_1218 hO_T_143.1 ha_x_L_144)) h_663 rfl) (zA_sAn eS_695 (ex3 (gQ_12_1219 hO_T_143.1 ha_x_L_144)) h_663 rfl)
              have rR_715 : RowR S_695 x (3 * a1_z + 2).toNat (ql (ticB Ev Rl A)) := RowR_eq pw_164 (zA_sAn eS_695 (ex3 (gQ_12_1218 hO_T_143.1 ha_x_L_144)) h_663 rfl) (zA_sAn eS_695 (ex3 (gQ_12_1219 hO_T_143.1 ha_x_L_144)) h_663 rfl)
              have zR_716 : zA S_695 x 1215 a1_z.toNat = ((qst (ticB Ev Rl A))).toInt := (congrFun (zA_sAn eS_695 (ex3 (gQ_12_1215 hO_T_143.1 ha_x_L_144)) h_663 rfl) _).trans pw_165
              have zR_717 : zA S_695 x 1214 a1_z.toNat = ((qse (ticB Ev Rl A))).toInt := (congrFun (zA_sAn eS_695 (ex3 (gQ_12_1214 hO_T_143.1 ha_x_L_144)) h_663 rfl) _).trans pw_166
              have zR_718 : zA S_695 x 1216 a1_z.toNat = ((qdr (ticB Ev Rl A))).toInt := (congrFun (zA_sAn eS_695 (ex3 (gQ_12_1216 hO_T_143.1 ha_x_L_144)) h_663 rfl) _).trans pw_168
              have zR_719 : zA S_695 x 1217 a1_z.toNat = ((qtk (ticB Ev Rl A))).toInt := (congrFun (zA_sAn eS_695 (ex3 (gQ_12_1217 hO_T_143.1 ha_x_L_144)) h_663 rfl) _).trans pw_169
              have gR_720 : GrW S_695 x a1_z.toNat (qg (ticB Ev Rl A)) := GrW_m6 (i := ((12 * (rr_117.toInt + v_124.toInt)) + i4_142_z)) hO_T_143.1 ha_x_L_144 (fun k hk => by omega) (by omega) zs_699 (zA_sAn eS_695 (ex3 (gQ_12_1235 hO_T_143.1 ha_x_L_144)) h_663 rfl) (congrFun (zA_sAn eS_695 (ex3 (gQ_12_1237 hO_T_143.1 ha_x_L_144)) h_663 rfl) _) pw_167
              have pz_721 : PlZ S_695 x (qpl (ticB Ev Rl A)) (qsd (ticB Ev Rl A)) := PlZ_eq pw_171 (zA_sAn eS_695 (ex3 (gQ_12_1208 hO_T_143.1 ha_x_L_144)) h_663 rfl) (zA_sAn eS_695 (ex3 (gQ_12_1207 hO_T_143.1 ha_x_L_144)) h_663 rfl)
              have t_722 : pI S_695 1238 x = v_172 := tI_sA eS_695 ev_172
              have pz_723 : (pI S_695 1238 x).toInt = v_172.toInt := (congrArg Int32.toInt t_722).trans rfl
              have kR_724 : SkW S_695 x (qsk (ticB Ev Rl A)) := SkW_m6 (m := ((12 * (rr_117.toInt + v_124.toInt)) + i4_142_z)) hO_T_143.1 ha_x_L_144 (by rw [eS_695]; rfl) (zA_sAn eS_695 (ex3 (gQ_12_1240 hO_T_143.1 ha_x_L_144)) h_663 rfl) (zA_sAn eS_695 (ex3 (gQ_12_1241 hO_T_143.1 ha_x_L_144)) h_663 rfl) (zA_sAn eS_695 (ex3 (gQ_12_1242 hO_T_143.1 ha_x_L_144)) h_663 rfl) (zA_sAn eS_695 (ex3 (gQ_12_1239 hO_T_143.1 ha_x_L_144)) h_663 rfl) (by omega) zs_699 (zA_sAn eS_695 (ex3 (gQ_12_1235 hO_T_143.1 ha_x_L_144)) h_663 rfl) pw_170
              have px_725 : PwX S S_695 x a1_z := PwX_m6 (i := ((12 * (rr_117.toInt + v_124.toInt)) + i4_142_z)) iv_152 hO_T_143.1 ha_x_L_144 (by omega) (by omega) (zA_sAn eS_695 (ex3 (gQ_12_1218 hO_T_143.1 ha_x_L_144)) h_663 rfl) (zA_sAn eS_695 (ex3 (gQ_12_1219 hO_T_143.1 ha_x_L_144)) h_663 rfl) zs_699 (zA_sAn eS_695 (ex3 (gQ_12_1235 hO_T_143.1 ha_x_L_144)) h_663 rfl) (pw5 (zA_sAn eS_695 (ex3 (gQ_12_1214 hO_T_143.1 ha_x_L_144)) h_663 rfl) (zA_sAn eS_695 (ex3 (gQ_12_1215 hO_T_143.1 ha_x_L_144)) h_663 rfl) (zA_sAn eS_695 (ex3 (gQ_12_1216 hO_T_143.1 ha_x_L_144)) h_663 rfl) (zA_sAn eS_695 (ex3 (gQ_12_1217 hO_T_143.1 ha_x_L_144)) h_663 rfl) (zA_sAn eS_695 (ex3 (gQ_12_1237 hO_T_143.1 ha_x_L_144)) h_663 rfl))
              have wt_726 : WsT S S_695 x Ev A (ticB Ev Rl A) := WsT_f iv_153 (by rw [eS_695]; rfl)
              have t_727 : pI S_695 1201 x = v_1 := tI_sA eS_695 ik_158
              exact ih_L_141 _ (by omega) _ _ _ _ (x_707) (x_707.toInt) rfl hw rfl (by omega) t_709 hO_696 zc_710 zc_711 mi_701 zm_712 (PotW_of (rfl : (ticB Ev Rl A) = (ticB Ev Rl A)) rR_713 rR_714 rR_715 zR_716 zR_717 gR_720 zR_718 zR_719 kR_724 pz_721) px_725 wt_726 mt_706 (by have h := mt_705; have e9 : (i4_142_z + 1 : Int) = x_707.toInt := (by omega); rw [e9] at h; exact h) (by omega) t_727 (lv_sub hl [0, 1, 2, 3, 4] rfl)
          have t_728 : At S_134 x 12 := tAt_sA eS_134 ha_x_L_68
          have mi_729 : MIe S_134 x (-1) := MIe_sA mk_69 hO_T_67.1 ha_x_L_68 h_132 eS_134 (by decide +kernel)
          have zm_730 : ZM S S_134 x := ZM_eq iv_71 (zA_sAn eS_134 (ex3 (gQ_12_1207 hO_T_67.1 ha_x_L_68)) h_132 rfl)
          have rR_731 : RowR S_134 x (3 * a1_z + 0).toNat (qb (ticB Ev Rl A)) := RowR_eq pw_78 (zA_sAn eS_134 (ex3 (gQ_12_1218 hO_T_67.1 ha_x_L_68)) h_132 rfl) (zA_sAn eS_134 (ex3 (gQ_12_1219 hO_T_67.1 ha_x_L_68)) h_132 rfl)
          have rR_732 : RowR S_134 x (3 * a1_z + 1).toNat (qe (ticB Ev Rl A)) := RowR_eq pw_79 (zA_sAn eS_134 (ex3 (gQ_12_1218 hO_T_67.1 ha_x_L_68)) h_132 rfl) (zA_sAn eS_134 (ex3 (gQ_12_1219 hO_T_67.1 ha_x_L_68)) h_132 rfl)
          have rR_733 : RowR S_134 x (3 * a1_z + 2).toNat (ql (ticB Ev Rl A)) := RowR_eq pw_80 (zA_sAn eS_134 (ex3 (gQ_12_1218 hO_T_67.1 ha_x_L_68)) h_132 rfl) (zA_sAn eS_134 (ex3 (gQ_12_1219 hO_T_67.1 ha_x_L_68)) h_132 rfl)
          have zR_734 : zA S_134 x 1215 a1_z.toNat = ((qst (ticB Ev Rl A))).toInt := (congrFun (zA_sAn eS_134 (ex3 (gQ_12_1215 hO_T_67.1 ha_x_L_68)) h_132 rfl) _).trans pw_81
          have zR_735 : zA S_134 x 1214 a1_z.toNat = ((qse (ticB Ev Rl A))).toInt := (congrFun (zA_sAn eS_134 (ex3 (gQ_12_1214 hO_T_67.1 ha_x_L_68)) h_132 rfl) _).trans pw_82
          have zR_736 : zA S_134 x 1216 a1_z.toNat = ((qdr (ticB Ev Rl A))).toInt := (congrFun (zA_sAn eS_134 (ex3 (gQ_12_1216 hO_T_67.1 ha_x_L_68)) h_132 rfl) _).trans pw_84
          have zR_737 : zA S_134 x 1217 a1_z.toNat = ((qtk (ticB Ev Rl A))).toInt := (congrFun (zA_sAn eS_134 (ex3 (gQ_12_1217 hO_T_67.1 ha_x_L_68)) h_132 rfl) _).trans pw_85
          have gR_738 : GrW S_134 x a1_z.toNat (qg (ticB Ev Rl A)) := GrW_m5 (m := (rr_117.toInt + v_124.toInt)) hO_T_67.1 ha_x_L_68 (fun k hk => by omega) (by omega) zs_138 (zA_sAn eS_134 (ex3 (gQ_12_1236 hO_T_67.1 ha_x_L_68)) h_132 rfl) (congrFun (zA_sAn eS_134 (ex3 (gQ_12_1237 hO_T_67.1 ha_x_L_68)) h_132 rfl) _) pw_83
          have pz_739 : PlZ S_134 x (qpl (ticB Ev Rl A)) (qsd (ticB Ev Rl A)) := PlZ_eq pw_87 (zA_sAn eS_134 (ex3 (gQ_12_1208 hO_T_67.1 ha_x_L_68)) h_132 rfl) (zA_sAn eS_134 (ex3 (gQ_12_1207 hO_T_67.1 ha_x_L_68)) h_132 rfl)
          have t_740 : pI S_134 1238 x = v_88 := tI_sA eS_134 ev_88
          have pz_741 : (pI S_134 1238 x).toInt = v_88.toInt := (congrArg Int32.toInt t_740).trans rfl
          have kR_742 : SkW S_134 x (qsk (ticB Ev Rl A)) := SkW_m5 (m := (rr_117.toInt + v_124.toInt)) hO_T_67.1 ha_x_L_68 (by rw [eS_134]; rfl) (zA_sAn eS_134 (ex3 (gQ_12_1240 hO_T_67.1 ha_x_L_68)) h_132 rfl) (zA_sAn eS_134 (ex3 (gQ_12_1241 hO_T_67.1 ha_x_L_68)) h_132 rfl) (zA_sAn eS_134 (ex3 (gQ_12_1242 hO_T_67.1 ha_x_L_68)) h_132 rfl) (zA_sAn eS_134 (ex3 (gQ_12_1239 hO_T_67.1 ha_x_L_68)) h_132 rfl) (by omega) zs_138 (zA_sAn eS_134 (ex3 (gQ_12_1236 hO_T_67.1 ha_x_L_68)) h_132 rfl) pw_86
          have px_743 : PwX S S_134 x a1_z := PwX_m5 (m := (rr_117.toInt + v_124.toInt)) iv_73 hO_T_67.1 ha_x_L_68 (by omega) (by omega) (zA_sAn eS_134 (ex3 (gQ_12_1218 hO_T_67.1 ha_x_L_68)) h_132 rfl) (zA_sAn eS_134 (ex3 (gQ_12_1219 hO_T_67.1 ha_x_L_68)) h_132 rfl) zs_138 (zA_sAn eS_134 (ex3 (gQ_12_1236 hO_T_67.1 ha_x_L_68)) h_132 rfl) (pw5 (zA_sAn eS_134 (ex3 (gQ_12_1214 hO_T_67.1 ha_x_L_68)) h_132 rfl) (zA_sAn eS_134 (ex3 (gQ_12_1215 hO_T_67.1 ha_x_L_68)) h_132 rfl) (zA_sAn eS_134 (ex3 (gQ_12_1216 hO_T_67.1 ha_x_L_68)) h_132 rfl) (zA_sAn eS_134 (ex3 (gQ_12_1217 hO_T_67.1 ha_x_L_68)) h_132 rfl) (zA_sAn eS_134 (ex3 (gQ_12_1237 hO_T_67.1 ha_x_L_68)) h_132 rfl))
          have wt_744 : WsT S S_134 x Ev A (ticB Ev Rl A) := WsT_f iv_74 (by rw [eS_134]; rfl)
          exact L_141 _ _ _ _ _ (0) (0) rfl hw ti_0 (by omega) t_728 hO_135 zc_145 zc_147 mi_729 zm_730 (PotW_of (rfl : (ticB Ev Rl A) = (ticB Ev Rl A)) rR_731 rR_732 rR_733 zR_734 zR_735 gR_738 zR_736 zR_737 kR_742 pz_739) px_743 wt_744 mt_140 MtL_0 (by omega) t_157 (lv_sub hl [0, 1, 2, 3, 4] rfl)
        · have z_b_745 := trivial
          have k_746 : rr_106.toInt = 0 := z_eq rfl ti_0 c_111
          refine lv_iconst (v := 0) X.1 X.2.1 dX12_tick_169 (by decide) ?_
          have pz_747 : (pI T_67 1238 x).toInt = v_88.toInt := (congrArg Int32.toInt ev_88).trans rfl
          rw [hQQ]
          exact ret_z X hw hr hlocks (Nat.le_of_ble_eq_true rfl) (Nat.le_of_ble_eq_true rfl) (by decide) ⟨hO_T_67, Or.inr ⟨⟨mk_69, iv_70, iv_71, PotW_of (show (ticF Ev Rl A).1 = (ticB Ev Rl A) by rw [ticF_0 (show ¬ 0 < (qst (ticB Ev Rl A)).toInt by have e9 := congrArg Int32.toInt us_101; have e : (v_98 : Int32).toInt = v_98.toInt := rfl; omega) (List.eq_nil_of_length_eq_zero (by have := pw_79.1; omega))]) pw_78 pw_79 pw_80 pw_81 pw_82 pw_83 pw_84 pw_85 pw_86 pw_87, iv_73, fun h => (by rw [ticF_0 (show ¬ 0 < (qst (ticB Ev Rl A)).toInt by have e9 := congrArg Int32.toInt us_101; have e : (v_98 : Int32).toInt = v_98.toInt := rfl; omega) (List.eq_nil_of_length_eq_zero (by have := pw_79.1; omega))] at h; exact h), (WsT_q iv_74 ((congrArg qws (show (ticF Ev Rl A).1 = (ticB Ev Rl A) by rw [ticF_0 (show ¬ 0 < (qst (ticB Ev Rl A)).toInt by have e9 := congrArg Int32.toInt us_101; have e : (v_98 : Int32).toInt = v_98.toInt := rfl; omega) (List.eq_nil_of_length_eq_zero (by have := pw_79.1; omega))])).trans rfl))⟩, rfl⟩⟩ dX12_tick_170
      · have z_b_748 := trivial
        have k_749 : v_98.toInt > 0 := z_nle rfl ti_0 c_102
        refine lv_aload_n X.1 X.2.1 dX12_tick_146 rfl (lv_at hl 0 rfl) ?_
        refine r_getR (g := 1215) X hw ha_x_L_68 rfl 15 h_95 (by decide) rfl inn_X12_tick_12 (by decide) (X.2.2.2.1 (.fieldLink RX12 46 "SilkMillModel" "stop" "[I") (by decide +kernel)) rfl (gv_1215 _ _) dX12_tick_147 ?_
        refine lv_iload_n X.1 X.2.1 dX12_tick_150 rfl (lv_at hl 1 rfl) ?_
        refine lv_dup2_11 X.1 X.2.1 dX12_tick_151 rfl rfl ?_
        refine r_iald X hw h_96 rfl (by rw [h_97]; exact z_ix hz_a1 (by omega) (by omega)) dX12_tick_152 ?_
        rw [ev_98]
        refine lv_iconst (v := 1) X.1 X.2.1 dX12_tick_153 (by decide) ?_
        refine lv_isub X.1 X.2.1 dX12_tick_154 ?_
        refine lv_topi (fun v_750 ev_750 => ?_)
        have z_751 : v_750.toInt = v_98.toInt - 1 := z_sub ev_750 rfl ti_1 (by omega) (by omega)
        refine r_iast X hw h_96 rfl (by rw [h_97]; exact z_ix hz_a1 (by omega) (by omega)) dX12_tick_155 (fun H locs hw => ?_)
        obtain ⟨S_752, eS_752⟩ : ∃ T, T = sA T_67 q_94 (upd (pA T_67 q_94) (Int32.toNatClampNeg (a1)) (v_750)) := ⟨_, rfl⟩
        rw [← eS_752] at hw
        have hO_753 : Ok MTK S S_752 := hO_T_67.sA eS_752 h_96 (by decide +kernel) (uA_514 hO_T_67.1 h_96)
        have h_754 : pA S_752 q_94 (Int32.toNatClampNeg (a1)) = v_750 := tA_sAs eS_752
        have t_755 : pR S_752 1215 x = some q_94 := tR_sA eS_752 h_95
        have t_757 : pR T_67 1215 x = some q_94 := by have h := t_755; rw [eS_752, pR_sA] at h; exact h
        have zs_756 : ∀ j, zA S_752 x 1215 j = if j = (a1_z).toNat then (v_98.toInt - 1) else zA T_67 x 1215 j := by have h := zA_sAs eS_752 t_757 z_751; rw [z_nc hz_a1 (by omega)] at h; exact h
        refine lv_iconst (v := 0) X.1 X.2.1 dX12_tick_156 (by decide) ?_
        have zm_758 : ZM S S_752 x := ZM_eq iv_71 (zA_sAn eS_752 (ex3 (gQ_12_1207 hO_T_67.1 ha_x_L_68)) h_96 rfl)
        have mi_759 : MIe S_752 x (-1) := MIe_sA mk_69 hO_T_67.1 ha_x_L_68 h_96 eS_752 (by decide +kernel)
        have zc_760 : zA S_752 x 1237 = zA T_67 x 1237 := zA_sAn eS_752 (ex3 (gQ_12_1237 hO_T_67.1 ha_x_L_68)) h_96 rfl
        have rR_761 : RowR S_752 x (3 * a1_z + 0).toNat (qb (ticB Ev Rl A)) := RowR_eq pw_78 (zA_sAn eS_752 (ex3 (gQ_12_1218 hO_T_67.1 ha_x_L_68)) h_96 rfl) (zA_sAn eS_752 (ex3 (gQ_12_1219 hO_T_67.1 ha_x_L_68)) h_96 rfl)
        have rR_762 : RowR S_752 x (3 * a1_z + 1).toNat (qe (ticB Ev Rl A)) := RowR_eq pw_79 (zA_sAn eS_752 (ex3 (gQ_12_1218 hO_T_67.1 ha_x_L_68)) h_96 rfl) (zA_sAn eS_752 (ex3 (gQ_12_1219 hO_T_67.1 ha_x_L_68)) h_96 rfl)
        have rR_763 : RowR S_752 x (3 * a1_z + 2).toNat (ql (ticB Ev Rl A)) := RowR_eq pw_80 (zA_sAn eS_752 (ex3 (gQ_12_1218 hO_T_67.1 ha_x_L_68)) h_96 rfl) (zA_sAn eS_752 (ex3 (gQ_12_1219 hO_T_67.1 ha_x_L_68)) h_96 rfl)
        have zR_764 : zA S_752 x 1215 a1_z.toNat = ((qst (ticB Ev Rl A) - 1)).toInt := (by rw [zs_756, if_pos (by omega)]; exact z_751.symm.trans (congrArg Int32.toInt (ev_750.trans (by rw [us_101]))))
        have zR_765 : zA S_752 x 1214 a1_z.toNat = ((qse (ticB Ev Rl A))).toInt := (congrFun (zA_sAn eS_752 (ex3 (gQ_12_1214 hO_T_67.1 ha_x_L_68)) h_96 rfl) _).trans pw_82
        have zR_766 : zA S_752 x 1216 a1_z.toNat = ((qdr (ticB Ev Rl A))).toInt := (congrFun (zA_sAn eS_752 (ex3 (gQ_12_1216 hO_T_67.1 ha_x_L_68)) h_96 rfl) _).trans pw_84
        have zR_767 : zA S_752 x 1217 a1_z.toNat = ((qtk (ticB Ev Rl A))).toInt := (congrFun (zA_sAn eS_752 (ex3 (gQ_12_1217 hO_T_67.1 ha_x_L_68)) h_96 rfl) _).trans pw_85
        have gR_768 : GrW S_752 x a1_z.toNat (qg (ticB Ev Rl A)) := GrW_eq (zA_sAn eS_752 (ex3 (gQ_12_1235 hO_T_67.1 ha_x_L_68)) h_96 rfl) (zA_sAn eS_752 (ex3 (gQ_12_1236 hO_T_67.1 ha_x_L_68)) h_96 rfl) (congrFun (zA_sAn eS_752 (ex3 (gQ_12_1237 hO_T_67.1 ha_x_L_68)) h_96 rfl) _) pw_83
        have pz_769 : PlZ S_752 x (qpl (ticB Ev Rl A)) (qsd (ticB Ev Rl A)) := PlZ_eq pw_87 (zA_sAn eS_752 (ex3 (gQ_12_1208 hO_T_67.1 ha_x_L_68)) h_96 rfl) (zA_sAn eS_752 (ex3 (gQ_12_1207 hO_T_67.1 ha_x_L_68)) h_96 rfl)
        have t_770 : pI S_752 1238 x = v_88 := tI_sA eS_752 ev_88
        have pz_771 : (pI S_752 1238 x).toInt = v_88.toInt := (congrArg Int32.toInt t_770).trans rfl
        have kR_772 : SkW S_752 x (qsk (ticB Ev Rl A)) := SkW_n (by rw [eS_752]; rfl) ⟨zA_sAn eS_752 (ex3 (gQ_12_1235 hO_T_67.1 ha_x_L_68)) h_96 rfl, zA_sAn eS_752 (ex3 (gQ_12_1236 hO_T_67.1 ha_x_L_68)) h_96 rfl, zA_sAn eS_752 (ex3 (gQ_12_1239 hO_T_67.1 ha_x_L_68)) h_96 rfl, zA_sAn eS_752 (ex3 (gQ_12_1240 hO_T_67.1 ha_x_L_68)) h_96 rfl, zA_sAn eS_752 (ex3 (gQ_12_1241 hO_T_67.1 ha_x_L_68)) h_96 rfl, zA_sAn eS_752 (ex3 (gQ_12_1242 hO_T_67.1 ha_x_L_68)) h_96 rfl⟩ pw_86
        have px_773 : PwX S S_752 x a1_z := PwX_z iv_73 (zA_sAn eS_752 (ex3 (gQ_12_1218 hO_T_67.1 ha_x_L_68)) h_96 rfl) (zA_sAn eS_752 (ex3 (gQ_12_1219 hO_T_67.1 ha_x_L_68)) h_96 rfl) (zA_sAn eS_752 (ex3 (gQ_12_1235 hO_T_67.1 ha_x_L_68)) h_96 rfl) (zA_sAn eS_752 (ex3 (gQ_12_1236 hO_T_67.1 ha_x_L_68)) h_96 rfl) zs_756 (by omega) (pw4 (fun _ => zA_sAn eS_752 (ex3 (gQ_12_1214 hO_T_67.1 ha_x_L_68)) h_96 rfl) (fun h => absurd rfl h) (fun _ => zA_sAn eS_752 (ex3 (gQ_12_1216 hO_T_67.1 ha_x_L_68)) h_96 rfl) (fun _ => zA_sAn eS_752 (ex3 (gQ_12_1217 hO_T_67.1 ha_x_L_68)) h_96 rfl) (fun _ => zA_sAn eS_752 (ex3 (gQ_12_1237 hO_T_67.1 ha_x_L_68)) h_96 rfl))
        have wt_774 : WsT S S_752 x Ev A (ticB Ev Rl A) := WsT_f iv_74 (by rw [eS_752]; rfl)
        rw [hQQ]
        exact ret_z X hw hr hlocks (Nat.le_of_ble_eq_true rfl) (Nat.le_of_ble_eq_true rfl) (by decide) ⟨hO_753, Or.inr ⟨⟨mi_759, (GR_eq zc_760 iv_70), zm_758, PotW_of (show (ticF Ev Rl A).1 = wst (ticB Ev Rl A) (qst (ticB Ev Rl A) - 1) by rw [ticF_s (show 0 < (qst (ticB Ev Rl A)).toInt by have e9 := congrArg Int32.toInt us_101; have e : (v_98 : Int32).toInt = v_98.toInt := rfl; omega)]) rR_761 rR_762 rR_763 zR_764 zR_765 gR_768 zR_766 zR_767 kR_772 pz_769, px_773, fun h => (by rw [ticF_s (show 0 < (qst (ticB Ev Rl A)).toInt by have e9 := congrArg Int32.toInt us_101; have e : (v_98 : Int32).toInt = v_98.toInt := rfl; omega)] at h; exact h), (WsT_q wt_774 ((congrArg qws (show (ticF Ev Rl A).1 = wst (ticB Ev Rl A) (qst (ticB Ev Rl A) - 1) by rw [ticF_s (show 0 < (qst (ticB Ev Rl A)).toInt by have e9 := congrArg Int32.toInt us_101; have e : (v_98 : Int32).toInt = v_98.toInt := rfl; omega)])).trans rfl))⟩, rfl⟩⟩ dX12_tick_157
    obtain ⟨q_775, h_776, h_777, h_778⟩ := gQ_12_1215 hO_T_38.1 ha_x_L_39
    refine r_getR (g := 1215) X hw ha_x_L_39 rfl 15 h_776 (by decide) rfl inn_X12_tick_12 (by decide) (X.2.2.2.1 (.fieldLink RX12 46 "SilkMillModel" "stop" "[I") (by decide +kernel)) rfl (gv_1215 _ _) dX12_tick_88 ?_
    refine lv_iload_n X.1 X.2.1 dX12_tick_91 rfl (lv_at hl 1 rfl) ?_
    refine r_iald X hw h_777 rfl (by rw [h_778]; exact z_ix hz_a1 (by omega) (by omega)) dX12_tick_92 ?_
    refine lv_topi (fun v_779 ev_779 => ?_)
    have rg_780 := And.intro (z_lo v_779) (z_hi v_779)
    have ev_779 := ev_779.symm
    have zf_781 : zA T_38 x 1215 (a1_z).toNat = v_779.toInt := (zA_of h_776 hz_a1 (by omega) ev_779)
    have us_782 : v_779 = (qst (seaF Ev (wtk A (qtk A + 1)))) := Int32.toInt_inj.mp (rfl.trans (zf_781.symm.trans pw_53))
    refine lv_if_ne (tgt := 137) X.1 X.2.1 dX12_tick_93 (by decide) (fun c_783 => ?_) (fun c_783 => ?_)
    · have z_b_784 := trivial
      have k_785 : v_779.toInt ≠ 0 := z_ne rfl ti_0 c_783
      have pz_786 : (pI T_38 1238 x).toInt = v_60.toInt := (congrArg Int32.toInt ev_60).trans rfl
      exact L_66 _ _ _ _  hw ha_x_L_39 hO_T_38 mk_40 iv_41 iv_42 (PotW_of (show ticB Ev Rl A = (seaF Ev (wtk A (qtk A + 1))) from (if_neg (i32_ne (congrArg Int32.toInt us_782.symm) t0 (by have e : (v_779 : Int32).toInt = v_779.toInt := rfl; omega)))) pw_50 pw_51 pw_52 pw_53 pw_54 pw_55 pw_56 pw_57 pw_58 pw_59) iv_44 (WsT_e iv_45 (show ticB Ev Rl A = (seaF Ev (wtk A (qtk A + 1))) from (if_neg (i32_ne (congrArg Int32.toInt us_782.symm) t0 (by have e : (v_779 : Int32).toInt = v_779.toInt := rfl; omega))))) ik_47 (lv_sub hl [0, 1] rfl)
    · have z_b_787 := trivial
      have k_788 : v_779.toInt = 0 := z_eq rfl ti_0 c_783
      refine lv_bipush (v := 12) X.1 X.2.1 dX12_tick_96 (by decide) ?_
      refine lv_iload_n X.1 X.2.1 dX12_tick_98 rfl (lv_at hl 1 rfl) ?_
      refine lv_imul X.1 X.2.1 dX12_tick_99 ?_
      refine lv_topi (fun v_789 ev_789 => ?_)
      have z_790 : v_789.toInt = 12 * a1_z := z_mul ev_789 ti_12 hz_a1 (by omega) (by omega)
      refine lv_istore_n (lv' := [(2, .int (v_789)), (0, .ref x), (1, .int (a1))]) X.1 X.2.1 dX12_tick_100 rfl hl (by decide) rfl (fun ls hl => ?_)
      have L_791 : ∀ (n : Nat) (T_793 : PS) (H : Heap) (locs : List Loc) (ls : Array Slot) (i2_792 : Int32) (i2_792_z : Int), ((48 - i2_792_z).toNat = n) → (Wd G cy (AS S s.heap.size) s.heap T_793 H locs) → (i2_792.toInt = i2_792_z) → (0 ≤ i2_792_z ∧ i2_792_z ≤ 48) → (At T_793 x 12) → (Ok MTK S T_793) → (MIe T_793 x (-1)) → (12 * a1_z ≤ i2_792_z) → (i2_792_z ≤ 12 * a1_z + 12) → (GR T_793 x) → (ZM S T_793 x) → (PotW T_793 x a1_z (rusF Ev (seaF Ev (wtk A (qtk A + 1))) (Rl.take (i2_792_z - 12 * a1_z).toNat))) → (i2_792_z - 12 * a1_z ≤ (Rl.length : Int)) → (PwX S T_793 x a1_z) → (WsT S T_793 x Ev A (rusF Ev (seaF Ev (wtk A (qtk A + 1))) (Rl.take (i2_792_z - 12 * a1_z).toNat))) → (pI T_793 1201 x = v_1) → (lv_has ls 6 [(2, .int (i2_792)), (0, .ref x), (1, .int (a1))]) → W p l e ({ frames := 8, cells := 0, slots := 0, locals := 384 }) s m [.ref x, .int (a1)].toArray below meth c H locs 0 0 QQ (F0 m 101 ls []) := by
        intro n
        induction n using Nat.strongRecOn with
        | ind n ih_L_791 =>
        intro T_793 H locs ls i2_792 i2_792_z hn hw hz_i2_792 hr_i2_792 ha_x_L_794 hO_T_793 mk_795 iv_796 iv_797 iv_798 iv_799 iv_800 iv_801 iv_802 iv_803 ik_804 hl
        have rg_805 : (-2147483648) ≤ i2_792_z ∧ i2_792_z ≤ 2147483647 := by rw [← hz_i2_792]; exact ⟨z_lo _, z_hi _⟩
        have pz_806 : (pI T_793 1201 x).toInt = v_1.toInt := (congrArg Int32.toInt ik_804).trans rfl
        have hpw_807 := iv_800
        obtain ⟨pw_808, pw_809, pw_810, pw_811, pw_812, pw_813, pw_814, pw_815, pw_816, pw_817⟩ := hpw_807
        obtain ⟨v_818, ev_818⟩ : ∃ v, pI T_793 1238 x = v := ⟨_, rfl⟩
        have rg_819 := gI_12_1238 hO_T_793.1 ha_x_L_794; rw [ev_818] at rg_819
        have pz_820 : (pI T_793 1238 x).toInt = v_818.toInt := by rw [ev_818]
        have pz_821 : (pI T_793 1238 x).toInt = v_818.toInt := (congrArg Int32.toInt ev_818).trans rfl
        have sl_822 := pw_813.1
        have sl_823 := pw_816.1
        refine lv_iload_n X.1 X.2.1 dX12_tick_101 rfl (lv_at hl 0 rfl) ?_
        refine lv_bipush (v := 12) X.1 X.2.1 dX12_tick_102 (by decide) ?_
        refine lv_iload_n X.1 X.2.1 dX12_tick_104 rfl (lv_at hl 2 rfl) ?_
        refine lv_imul X.1 X.2.1 dX12_tick_105 ?_
        refine lv_topi (fun v_824 ev_824 => ?_)
        have z_825 : v_824.toInt = 12 * a1_z := z_mul ev_824 ti_12 hz_a1 (by omega) (by omega)
        refine lv_aload_n X.1 X.2.1 dX12_tick_106 rfl (lv_at hl 1 rfl) ?_
        obtain ⟨q_826, h_827, h_828, h_829⟩ := gQ_12_1220 hO_T_793.1 ha_x_L_794
        refine r_getR (g := 1220) X hw ha_x_L_794 rfl 20 h_827 (by decide) rfl inn_X12_tick_12 (by decide) (X.2.2.2.1 (.fieldLink RX12 61 "SilkMillModel" "rules" "[I") (by decide +kernel)) rfl (gv_1220 _ _) dX12_tick_107 ?_
        refine lv_iload_n X.1 X.2.1 dX12_tick_110 rfl (lv_at hl 2 rfl) ?_
        refine r_iald X hw h_828 rfl (by rw [h_829]; exact z_ix hz_a1 (by omega) (by omega)) dX12_tick_111 ?_
        refine lv_topi (fun v_830 ev_830 => ?_)
        have z_831 := gE_614 hO_T_793.1 h_828 (Int32.toNatClampNeg (a1)); rw [← ev_830] at z_831
        have ev_830 := ev_830.symm
        have rn_832 : RuR T_793 x a1_z Rl := RuR_fr hG ha_x hO_T_793.fr (by decide +kernel) hp_6
        have zf_833 : zA T_793 x 1220 (a1_z).toNat = v_830.toInt := (zA_of h_827 hz_a1 (by omega) ev_830)
        have rl_834 := rn_832.1
        refine lv_iadd X.1 X.2.1 dX12_tick_112 ?_
        refine lv_topi (fun v_835 ev_835 => ?_)
        have z_836 : v_835.toInt = (12 * a1_z) + v_830.toInt := z_add ev_835 z_825 rfl (by omega) (by omega)
        refine lv_icmp_ge (tgt := 137) X.1 X.2.1 dX12_tick_113 (by decide) (fun c_837 => ?_) (fun c_837 => ?_)
        · have z_b_838 := trivial
          have k_839 : i2_792_z ≥ ((12 * a1_z) + v_830.toInt) := z_le z_836 hz_i2_792 c_837
          have pz_840 : (pI T_793 1238 x).toInt = v_818.toInt := (congrArg Int32.toInt ev_818).trans rfl
          exact L_66 _ _ _ _  hw ha_x_L_794 hO_T_793 mk_795 iv_798 iv_799 (PotW_of (show ticB Ev Rl A = (rusF Ev (seaF Ev (wtk A (qtk A + 1))) (Rl.take (i2_792_z - 12 * a1_z).toNat)) from ((if_pos (i32_eq (congrArg Int32.toInt us_782.symm) t0 (by have e : (v_779 : Int32).toInt = v_779.toInt := rfl; omega))).trans (show rusF Ev (seaF Ev (wtk A (qtk A + 1))) Rl = (rusF Ev (seaF Ev (wtk A (qtk A + 1))) (Rl.take (i2_792_z - 12 * a1_z).toNat)) by rw [show (i2_792_z - 12 * a1_z).toNat = Rl.length by omega, List.take_length]))) pw_808 pw_809 pw_810 pw_811 pw_812 pw_813 pw_814 pw_815 pw_816 pw_817) iv_802 (WsT_e iv_803 (show ticB Ev Rl A = (rusF Ev (seaF Ev (wtk A (qtk A + 1))) (Rl.take (i2_792_z - 12 * a1_z).toNat)) from ((if_pos (i32_eq (congrArg Int32.toInt us_782.symm) t0 (by have e : (v_779 : Int32).toInt = v_779.toInt := rfl; omega))).trans (show rusF Ev (seaF Ev (wtk A (qtk A + 1))) Rl = (rusF Ev (seaF Ev (wtk A (qtk A + 1))) (Rl.take (i2_792_z - 12 * a1_z).toNat)) by rw [show (i2_792_z - 12 * a1_z).toNat = Rl.length by omega, List.take_length])))) ik_804 (lv_sub hl [1, 2] rfl)
        · have z_b_841 := trivial
          have k_842 : i2_792_z < ((12 * a1_z) + v_830.toInt) := z_nle z_836 hz_i2_792 c_837
          obtain ⟨ru_843, ru_844⟩ : ∃ r, Rl[(i2_792_z - 12 * a1_z).toNat]? = some r := ⟨_, List.getElem?_eq_getElem (by omega)⟩
          have ru_845 : RuX T_793 x (i2_792_z) ru_843 := by have h := rn_832.2 _ _ ru_844; rw [show 12 * a1_z + (((i2_792_z - 12 * a1_z).toNat : Nat) : Int) = i2_792_z by omega] at h; exact h
          refine lv_aload_n X.1 X.2.1 dX12_tick_116 rfl (lv_at hl 1 rfl) ?_
          refine lv_iload_n X.1 X.2.1 dX12_tick_117 rfl (lv_at hl 2 rfl) ?_
          refine lv_iload_n X.1 X.2.1 dX12_tick_118 rfl (lv_at hl 0 rfl) ?_
          have pz_846 : (pI T_793 1238 x).toInt = v_818.toInt := (congrArg Int32.toInt ev_818).trans rfl
          have en_847 : EnR T_793 x a1_z Ev := EnR_fr hG ha_x hO_T_793.fr (by decide +kernel) hp_5
          refine k_i (rm := { frames := 6, cells := 0, slots := 0, locals := 288 }) (av := [.ref x, .int (a1), .int (i2_792)]) X hw (va_runV (As := [.int (a1), .int (i2_792)]) (rest := []) (cfix X) (k_X12_holds5 l G cy κ T_793 _ x (a1) (a1_z) (i2_792) (i2_792_z) (rusF Ev (seaF Ev (wtk A (qtk A + 1))) (Rl.take (i2_792_z - 12 * a1_z).toNat)) Ev ru_843 hO_T_793.1 ha_x_L_794 hz_a1 hz_i2_792 (by omega) (by omega) (by omega) (by omega) mk_795 (PotW_of (rfl : (rusF Ev (seaF Ev (wtk A (qtk A + 1))) (Rl.take (i2_792_z - 12 * a1_z).toNat)) = (rusF Ev (seaF Ev (wtk A (qtk A + 1))) (Rl.take (i2_792_z - 12 * a1_z).toNat))) pw_808 pw_809 pw_810 pw_811 pw_812 pw_813 pw_814 pw_815 pw_816 pw_817) en_847 ru_845) (cwV 2 X.2.2.2.1 gX12_tick_X12_holds rfl rfl rfl (by decide +kernel) ⟨Nat.le_of_ble_eq_true rfl, Nat.le_of_ble_eq_true rfl⟩) (pre_V X hw _ ha_x_L_794 rfl (by decide) rfl) rfl rfl hl.1 rfl (lv_room (Nat.le_of_ble_eq_true rfl)) dX12_tick_119 ⟨Nat.le_of_ble_eq_true rfl, Nat.le_of_ble_eq_true rfl⟩) 0 0 (Nat.le_of_ble_eq_true rfl) (Nat.le_of_ble_eq_true rfl) (fun rr_848 S_849 H locs hp hw hfr hnw => ?_)
          obtain ⟨e2, hp⟩ := hp
          subst e2
          rcases hp with ⟨f_850, er_851⟩ | ⟨f_850, er_851⟩ <;> subst er_851
          · have z_b_852 := trivial
            refine lv_if_eq (tgt := 131) X.1 X.2.1 dX12_tick_122 (by decide) (fun c_853 => absurd c_853 (by decide)) (fun c_853 => ?_)
            refine lv_aload_n X.1 X.2.1 dX12_tick_125 rfl (lv_at hl 1 rfl) ?_
            refine lv_iload_n X.1 X.2.1 dX12_tick_126 rfl (lv_at hl 2 rfl) ?_
            refine lv_iload_n X.1 X.2.1 dX12_tick_127 rfl (lv_at hl 0 rfl) ?_
            have pz_854 : (pI T_793 1238 x).toInt = v_818.toInt := (congrArg Int32.toInt ev_818).trans rfl
            have en_855 : EnR T_793 x a1_z Ev := EnR_fr hG ha_x hO_T_793.fr (by decide +kernel) hp_5
            refine k_v (rm := { frames := 7, cells := 0, slots := 0, locals := 336 }) (av := [.ref x, .int (a1), .int (i2_792)]) X hw (va_runV (As := [.int (a1), .int (i2_792)]) (rest := []) (cfix X) (k_X12_acts5 l G cy κ T_793 _ x (a1) (a1_z) (i2_792) (i2_792_z) (rusF Ev (seaF Ev (wtk A (qtk A + 1))) (Rl.take (i2_792_z - 12 * a1_z).toNat)) Ev ru_843 hO_T_793.1 ha_x_L_794 hz_a1 hz_i2_792 (by omega) (by omega) (by omega) (by omega) mk_795 (PotW_of (rfl : (rusF Ev (seaF Ev (wtk A (qtk A + 1))) (Rl.take (i2_792_z - 12 * a1_z).toNat)) = (rusF Ev (seaF Ev (wtk A (qtk A + 1))) (Rl.take (i2_792_z - 12 * a1_z).toNat))) pw_808 pw_809 pw_810 pw_811 pw_812 pw_813 pw_814 pw_815 pw_816 pw_817) en_855 ru_845) (cwV 2 X.2.2.2.1 gX12_tick_X12_acts rfl rfl rfl (by decide +kernel) ⟨Nat.le_of_ble_eq_true rfl, Nat.le_of_ble_eq_true rfl⟩) (pre_V X hw _ ha_x_L_794 rfl (by decide) rfl) rfl rfl hl.1 rfl (lv_room (Nat.le_of_ble_eq_true rfl)) dX12_tick_128 ⟨Nat.le_of_ble_eq_true rfl, Nat.le_of_ble_eq_true rfl⟩) 0 0 (Nat.le_of_ble_eq_true rfl) (Nat.le_of_ble_eq_true rfl) (fun S_857 H locs hp hw hfr hnw => ?_)
            obtain ⟨hk_858, hp⟩ := hp
            have hO_859 : Ok MTK S S_857 := hO_T_793.call hk_858 (by decide +kernel)
            obtain ⟨mi_860, gr_861, zm_862, pw_863, px_864, wq_865⟩ := hp
            have gr_866 : GR S_857 x := gr_861 iv_798
            have hpw_867 := pw_863
            obtain ⟨pw_868, pw_869, pw_870, pw_871, pw_872, pw_873, pw_874, pw_875, pw_876, pw_877⟩ := hpw_867
            obtain ⟨v_879, ev_879⟩ : ∃ v, pI S_857 1238 x = v := ⟨_, rfl⟩
            have t_881 : At S_857 x 12 := hk_858.fr.at ha_x_L_794
            have rg_880 := gI_12_1238 hO_859.1 t_881; rw [ev_879] at rg_880
            have pz_882 : (pI S_857 1238 x).toInt = v_879.toInt := by rw [ev_879]
            have pz_883 : (pI S_857 1238 x).toInt = v_879.toInt := (congrArg Int32.toInt ev_879).trans rfl
            have sl_884 := pw_873.1
            have sl_885 := pw_876.1
            obtain ⟨x_886, ex_886⟩ : ∃ y : Int32, y = i2_792 + 1 := ⟨_, rfl⟩
            have z_887 : x_886.toInt = i2_792_z + 1 := z_add ex_886 hz_i2_792 ti_1 (by omega) (by omega)
            refine lv_iinc (v := x_886) (lv' := [(2, .int (x_886)), (0, .ref x), (1, .int (a1))]) X.1 X.2.1 dX12_tick_131 hl (k := 0) rfl (by rw [ex_886]; rfl) (by decide) rfl (fun ls hl => ?_)
            refine lv_goto (tgt := 101) X.1 X.2.1 dX12_tick_134 (by decide) ?_
            have zm_888 : ZM S S_857 x := ZM_tr iv_799 zm_862
            have pz_889 : (pI S_857 1238 x).toInt = v_879.toInt := (congrArg Int32.toInt ev_879).trans rfl
            have px_890 : PwX S S_857 x a1_z := PwX_tr iv_802 px_864
            have wt_891 : WsT S S_857 x Ev A (actF Ev ru_843.1 ru_843.2.1 (rusF Ev (seaF Ev (wtk A (qtk A + 1))) (Rl.take (i2_792_z - 12 * a1_z).toNat))) := WsT_tr iv_803 wq_865
            have t_892 : pI S_857 1201 x = v_1 := hk_858.fr.I' (by decide +kernel) ha_x_L_794 ik_804
            exact ih_L_791 _ (by omega) _ _ _ _ (x_886) (x_886.toInt) rfl hw rfl (by omega) t_881 hO_859 mi_860 (by omega) (by omega) gr_866 zm_888 (PotW_of (show rusF Ev (seaF Ev (wtk A (qtk A + 1))) (Rl.take (x_886.toInt - 12 * a1_z).toNat) = (actF Ev ru_843.1 ru_843.2.1 (rusF Ev (seaF Ev (wtk A (qtk A + 1))) (Rl.take (i2_792_z - 12 * a1_z).toNat))) by rw [show (x_886.toInt - 12 * a1_z).toNat = (i2_792_z - 12 * a1_z).toNat + 1 by omega, rusF_s ru_844, ruF_y f_850]) pw_868 pw_869 pw_870 pw_871 pw_872 pw_873 pw_874 pw_875 pw_876 pw_877) (by omega) px_890 (WsT_e wt_891 (show rusF Ev (seaF Ev (wtk A (qtk A + 1))) (Rl.take (x_886.toInt - 12 * a1_z).toNat) = (actF Ev ru_843.1 ru_843.2.1 (rusF Ev (seaF Ev (wtk A (qtk A + 1))) (Rl.take (i2_792_z - 12 * a1_z).toNat))) by rw [show (x_886.toInt - 12 * a1_z).toNat = (i2_792_z - 12 * a1_z).toNat + 1 by omega, rusF_s ru_844, ruF_y f_850])) t_892 (lv_sub hl [0, 1, 2] rfl)
          · have z_b_893 := trivial
            refine lv_if_eq (tgt := 131) X.1 X.2.1 dX12_tick_122 (by decide) (fun c_894 => ?_) (fun c_894 => absurd c_894 (by decide))
            obtain ⟨x_895, ex_895⟩ : ∃ y : Int32, y = i2_792 + 1 := ⟨_, rfl⟩
            have z_896 : x_895.toInt = i2_792_z + 1 := z_add ex_895 hz_i2_792 ti_1 (by omega) (by omega)
            refine lv_iinc (v := x_895) (lv' := [(2, .int (x_895)), (0, .ref x), (1, .int (a1))]) X.1 X.2.1 dX12_tick_131 hl (k := 0) rfl (by rw [ex_895]; rfl) (by decide) rfl (fun ls hl => ?_)
            refine lv_goto (tgt := 101) X.1 X.2.1 dX12_tick_134 (by decide) ?_
            have pz_897 : (pI T_793 1238 x).toInt = v_818.toInt := (congrArg Int32.toInt ev_818).trans rfl
            exact ih_L_791 _ (by omega) _ _ _ _ (x_895) (x_895.toInt) rfl hw rfl (by omega) ha_x_L_794 hO_T_793 mk_795 (by omega) (by omega) iv_798 iv_799 (PotW_of (show rusF Ev (seaF Ev (wtk A (qtk A + 1))) (Rl.take (x_895.toInt - 12 * a1_z).toNat) = (rusF Ev (seaF Ev (wtk A (qtk A + 1))) (Rl.take (i2_792_z - 12 * a1_z).toNat)) by rw [show (x_895.toInt - 12 * a1_z).toNat = (i2_792_z - 12 * a1_z).toNat + 1 by omega, rusF_s ru_844, ruF_n f_850]) pw_808 pw_809 pw_810 pw_811 pw_812 pw_813 pw_814 pw_815 pw_816 pw_817) (by omega) iv_802 (WsT_e iv_803 (show rusF Ev (seaF Ev (wtk A (qtk A + 1))) (Rl.take (x_895.toInt - 12 * a1_z).toNat) = (rusF Ev (seaF Ev (wtk A (qtk A + 1))) (Rl.take (i2_792_z - 12 * a1_z).toNat)) by rw [show (x_895.toInt - 12 * a1_z).toNat = (i2_792_z - 12 * a1_z).toNat + 1 by omega, rusF_s ru_844, ruF_n f_850])) ik_804 (lv_sub hl [0, 1, 2] rfl)
      have pz_898 : (pI T_38 1238 x).toInt = v_60.toInt := (congrArg Int32.toInt ev_60).trans rfl
      exact L_791 _ _ _ _ _ (v_789) ((12 * a1_z)) rfl hw z_790 (by omega) ha_x_L_39 hO_T_38 mk_40 (by omega) (by omega) iv_41 iv_42 (PotW_of (show rusF Ev (seaF Ev (wtk A (qtk A + 1))) (Rl.take ((12 * a1_z) - 12 * a1_z).toNat) = (seaF Ev (wtk A (qtk A + 1))) by rw [show ((12 * a1_z) - 12 * a1_z).toNat = 0 by omega]; rfl) pw_50 pw_51 pw_52 pw_53 pw_54 pw_55 pw_56 pw_57 pw_58 pw_59) (by omega) iv_44 (WsT_e iv_45 (show rusF Ev (seaF Ev (wtk A (qtk A + 1))) (Rl.take ((12 * a1_z) - 12 * a1_z).toNat) = (seaF Ev (wtk A (qtk A + 1))) by rw [show ((12 * a1_z) - 12 * a1_z).toNat = 0 by omega]; rfl)) ik_47 (lv_sub hl [0, 1, 2] rfl)
  refine lv_aload_n X.1 X.2.1 dX12_tick_10 rfl (lv_at hl 0 rfl) ?_
  have t_899 : At S_31 x 12 := tAt_sA eS_31 ha_x
  obtain ⟨q_900, h_901, h_902, h_903⟩ := gQ_12_1214 hO_32.1 t_899
  refine r_getR (g := 1214) X hw t_899 rfl 14 h_901 (by decide) rfl inn_X12_tick_12 (by decide) (X.2.2.2.1 (.fieldLink RX12 43 "SilkMillModel" "search" "[I") (by decide +kernel)) rfl (gv_1214 _ _) dX12_tick_11 ?_
  refine lv_iload_n X.1 X.2.1 dX12_tick_14 rfl (lv_at hl 1 rfl) ?_
  refine lv_aload_n X.1 X.2.1 dX12_tick_15 rfl (lv_at hl 0 rfl) ?_
  refine lv_iload_n X.1 X.2.1 dX12_tick_16 rfl (lv_at hl 1 rfl) ?_
  refine lv_iconst (v := 2) X.1 X.2.1 dX12_tick_17 (by decide) ?_
  have rR_904 : RowR S_31 x (3 * a1_z + 2).toNat (ql A) := RowR_eq pw_7 (zA_sAn eS_31 (ex3 (gQ_12_1218 hO.1 ha_x)) h_23 rfl) (zA_sAn eS_31 (ex3 (gQ_12_1219 hO.1 ha_x)) h_23 rfl)
  have ln_905 : zA S_31 x 1219 (3 * a1_z + 2).toNat = (((ql A)).length : Int) := rR_904.1
  refine k_i (rm := { frames := 1, cells := 0, slots := 0, locals := 48 }) (av := [.ref x, .int (a1), .int 2]) X hw (va_runV (As := [.int (a1), .int 2]) (rest := [.int (a1), .ref q_900]) (cfix X) (k_X12_many2 l G cy κ S_31 _ x (a1) (a1_z) (2) (2) hO_32.1 t_899 hz_a1 ti_2 (by first | assumption | omega) (by first | assumption | omega) (by first | assumption | omega) (by first | assumption | omega)) (cwV 2 X.2.2.2.1 gX12_tick_X12_many rfl rfl rfl (by decide +kernel) ⟨Nat.le_of_ble_eq_true rfl, Nat.le_of_ble_eq_true rfl⟩) (pre_V X hw _ t_899 rfl (by decide) rfl) rfl rfl hl.1 rfl (lv_room (Nat.le_of_ble_eq_true rfl)) dX12_tick_18 ⟨Nat.le_of_ble_eq_true rfl, Nat.le_of_ble_eq_true rfl⟩) 0 0 (Nat.le_of_ble_eq_true rfl) (Nat.le_of_ble_eq_true rfl) (fun rr_906 S_907 H locs hp hw hfr hnw => ?_)
  obtain ⟨e2, hp⟩ := hp
  subst e2
  obtain ⟨f_908, f_909, f_910⟩ := hp
  refine lv_if_ne (tgt := 28) X.1 X.2.1 dX12_tick_21 (by decide) (fun c_911 => ?_) (fun c_911 => ?_)
  · have z_b_912 := trivial
    have k_913 : rr_906.toInt ≠ 0 := z_ne rfl ti_0 c_911
    refine lv_aload_n X.1 X.2.1 dX12_tick_28 rfl (lv_at hl 0 rfl) ?_
    refine r_getR (g := 1214) X hw t_899 rfl 14 h_901 (by decide) rfl inn_X12_tick_12 (by decide) (X.2.2.2.1 (.fieldLink RX12 43 "SilkMillModel" "search" "[I") (by decide +kernel)) rfl (gv_1214 _ _) dX12_tick_29 ?_
    refine lv_iload_n X.1 X.2.1 dX12_tick_32 rfl (lv_at hl 1 rfl) ?_
    refine r_iald X hw h_902 rfl (by rw [h_903]; exact z_ix hz_a1 (by omega) (by omega)) dX12_tick_33 ?_
    refine lv_topi (fun v_914 ev_914 => ?_)
    have rg_915 := And.intro (z_lo v_914) (z_hi v_914)
    have ev_914 := ev_914.symm
    have zR_916 : zA S_31 x 1214 a1_z.toNat = ((qse A)).toInt := (congrFun (zA_sAn eS_31 (ex3 (gQ_12_1214 hO.1 ha_x)) h_23 rfl) _).trans pw_9
    have zf_917 : zA S_31 x 1214 (a1_z).toNat = v_914.toInt := (zA_of h_901 hz_a1 (by omega) ev_914)
    have us_918 : v_914 = (qse A) := Int32.toInt_inj.mp (rfl.trans (zf_917.symm.trans zR_916))
    have iq_919 : 0 ≤ v_914.toInt ∧ v_914.toInt < (efind Ev).toInt := by have h := hp_7; have h2 := congrArg Int32.toInt us_918; exact ⟨by have := h.2.1; have e : (v_914 : Int32).toInt = v_914.toInt := rfl; omega, by have := h.2.2; have e : (v_914 : Int32).toInt = v_914.toInt := rfl; omega⟩
    have zh_920 := z_hi (efind Ev)
    refine lv_iconst (v := 1) X.1 X.2.1 dX12_tick_34 (by decide) ?_
    refine lv_iadd X.1 X.2.1 dX12_tick_35 ?_
    refine lv_topi (fun v_921 ev_921 => ?_)
    have z_922 : v_921.toInt = v_914.toInt + 1 := z_add ev_921 rfl ti_1 (by omega) (by omega)
    refine r_iast X hw h_902 rfl (by rw [h_903]; exact z_ix hz_a1 (by omega) (by omega)) dX12_tick_36 (fun H locs hw => ?_)
    obtain ⟨S_923, eS_923⟩ : ∃ T, T = sA S_31 q_900 (upd (pA S_31 q_900) (Int32.toNatClampNeg (a1)) (v_921)) := ⟨_, rfl⟩
    rw [← eS_923] at hw
    have hO_924 : Ok MTK S S_923 := hO_32.sA eS_923 h_902 (by decide +kernel) (uA_494 hO_32.1 h_902)
    have h_925 : pA S_923 q_900 (Int32.toNatClampNeg (a1)) = v_921 := tA_sAs eS_923
    have t_926 : pR S_923 1214 x = some q_900 := tR_sA eS_923 h_901
    have t_928 : pR S_31 1214 x = some q_900 := by have h := t_926; rw [eS_923, pR_sA] at h; exact h
    have zs_927 : ∀ j, zA S_923 x 1214 j = if j = (a1_z).toNat then (v_914.toInt + 1) else zA S_31 x 1214 j := by have h := zA_sAs eS_923 t_928 z_922; rw [z_nc hz_a1 (by omega)] at h; exact h
    refine lv_aload_n X.1 X.2.1 dX12_tick_37 rfl (lv_at hl 0 rfl) ?_
    refine lv_iload_n X.1 X.2.1 dX12_tick_38 rfl (lv_at hl 1 rfl) ?_
    refine lv_iconst (v := 2) X.1 X.2.1 dX12_tick_39 (by decide) ?_
    have rR_929 : RowR S_923 x (3 * a1_z + 2).toNat (ql A) := RowR_eq rR_904 (zA_sAn eS_923 (ex3 (gQ_12_1218 hO_32.1 t_899)) h_902 rfl) (zA_sAn eS_923 (ex3 (gQ_12_1219 hO_32.1 t_899)) h_902 rfl)
    have ln_930 : zA S_923 x 1219 (3 * a1_z + 2).toNat = (((ql A)).length : Int) := rR_929.1
    have t_931 : At S_923 x 12 := tAt_sA eS_923 t_899
    refine k_i (rm := { frames := 1, cells := 0, slots := 0, locals := 48 }) (av := [.ref x, .int (a1), .int 2]) X hw (va_runV (As := [.int (a1), .int 2]) (rest := []) (cfix X) (k_X12_many2 l G cy κ S_923 _ x (a1) (a1_z) (2) (2) hO_924.1 t_931 hz_a1 ti_2 (by first | assumption | omega) (by first | assumption | omega) (by first | assumption | omega) (by first | assumption | omega)) (cwV 2 X.2.2.2.1 gX12_tick_X12_many rfl rfl rfl (by decide +kernel) ⟨Nat.le_of_ble_eq_true rfl, Nat.le_of_ble_eq_true rfl⟩) (pre_V X hw _ t_931 rfl (by decide) rfl) rfl rfl hl.1 rfl (lv_room (Nat.le_of_ble_eq_true rfl)) dX12_tick_40 ⟨Nat.le_of_ble_eq_true rfl, Nat.le_of_ble_eq_true rfl⟩) 0 0 (Nat.le_of_ble_eq_true rfl) (Nat.le_of_ble_eq_true rfl) (fun rr_932 S_933 H locs hp hw hfr hnw => ?_)
    obtain ⟨e2, hp⟩ := hp
    subst e2
    obtain ⟨f_934, f_935, f_936⟩ := hp
    refine lv_if_le (tgt := 87) X.1 X.2.1 dX12_tick_43 (by decide) (fun c_937 => ?_) (fun c_937 => ?_)
    · exfalso
      have k_938 : rr_932.toInt ≤ 0 := z_le rfl ti_0 c_937
      omega
    have k_939 : rr_932.toInt > 0 := z_nle rfl ti_0 c_937
    refine lv_aload_n X.1 X.2.1 dX12_tick_46 rfl (lv_at hl 0 rfl) ?_
    refine r_getR (g := 1214) X hw t_931 rfl 14 t_926 (by decide) rfl inn_X12_tick_12 (by decide) (X.2.2.2.1 (.fieldLink RX12 43 "SilkMillModel" "search" "[I") (by decide +kernel)) rfl (gv_1214 _ _) dX12_tick_47 ?_
    refine lv_iload_n X.1 X.2.1 dX12_tick_50 rfl (lv_at hl 1 rfl) ?_
    have t_940 : At S_923 q_900 494 := tAt_sA eS_923 h_902
    have t_941 : pN S_923 q_900 = 4 := tN_sA eS_923 h_903
    clear h_903
    refine r_iald X hw t_940 rfl (by rw [t_941]; exact z_ix hz_a1 (by omega) (by omega)) dX12_tick_51 ?_
    rw [h_925]
    refine lv_aload_n X.1 X.2.1 dX12_tick_52 rfl (lv_at hl 0 rfl) ?_
    obtain ⟨q_942, h_943, h_944, h_945⟩ := gQ_12_1213 hO_924.1 t_931
    refine r_getR (g := 1213) X hw t_931 rfl 13 h_943 (by decide) rfl inn_X12_tick_12 (by decide) (X.2.2.2.1 (.fieldLink RX12 40 "SilkMillModel" "find" "[I") (by decide +kernel)) rfl (gv_1213 _ _) dX12_tick_53 ?_
    refine lv_iload_n X.1 X.2.1 dX12_tick_56 rfl (lv_at hl 1 rfl) ?_
    refine r_iald X hw h_944 rfl (by rw [h_945]; exact z_ix hz_a1 (by omega) (by omega)) dX12_tick_57 ?_
    refine lv_topi (fun v_946 ev_946 => ?_)
    have rg_947 := And.intro (z_lo v_946) (z_hi v_946)
    have ev_946 := ev_946.symm
    have zf_948 : zA S_923 x 1213 (a1_z).toNat = v_946.toInt := (zA_of h_943 hz_a1 (by omega) ev_946)
    have en_949 : EnR S_923 x a1_z Ev := EnR_fr hG ha_x hO_924.fr (by decide +kernel) hp_5
    have fd_950 : (efind Ev).toInt = v_946.toInt := by rw [en_949.2.2.2.2, ← zA_eq, show a1_z.toNat = (a1_z).toNat by omega]; exact zf_948
    refine lv_icmp_ne (tgt := 87) X.1 X.2.1 dX12_tick_58 (by decide) (fun c_951 => ?_) (fun c_951 => ?_)
    · have z_b_952 := trivial
      have k_953 : (v_914.toInt + 1) ≠ v_946.toInt := z_ne z_922 rfl c_951
      have mi_954 : MIe S_31 x (-1) := MIe_sA hp_2 hO.1 ha_x h_23 eS_31 (by decide +kernel)
      have mi_955 : MIe S_923 x (-1) := MIe_sA mi_954 hO_32.1 t_899 h_902 eS_923 (by decide +kernel)
      have zc_956 : zA S_31 x 1237 = zA S x 1237 := zA_sAn eS_31 (ex3 (gQ_12_1237 hO.1 ha_x)) h_23 rfl
      have zc_957 : zA S_923 x 1237 = zA S x 1237 := (zA_sAn eS_923 (ex3 (gQ_12_1237 hO_32.1 t_899)) h_902 rfl).trans zc_956
      have zm_958 : ZM S S_31 x := ZM_eq hzm0 (zA_sAn eS_31 (ex3 (gQ_12_1207 hO.1 ha_x)) h_23 rfl)
      have zm_959 : ZM S S_923 x := ZM_eq zm_958 (zA_sAn eS_923 (ex3 (gQ_12_1207 hO_32.1 t_899)) h_902 rfl)
      have rR_960 : RowR S_31 x (3 * a1_z + 0).toNat (qb A) := RowR_eq pw_5 (zA_sAn eS_31 (ex3 (gQ_12_1218 hO.1 ha_x)) h_23 rfl) (zA_sAn eS_31 (ex3 (gQ_12_1219 hO.1 ha_x)) h_23 rfl)
      have rR_961 : RowR S_923 x (3 * a1_z + 0).toNat (qb A) := RowR_eq rR_960 (zA_sAn eS_923 (ex3 (gQ_12_1218 hO_32.1 t_899)) h_902 rfl) (zA_sAn eS_923 (ex3 (gQ_12_1219 hO_32.1 t_899)) h_902 rfl)
      have rR_962 : RowR S_31 x (3 * a1_z + 1).toNat (qe A) := RowR_eq pw_6 (zA_sAn eS_31 (ex3 (gQ_12_1218 hO.1 ha_x)) h_23 rfl) (zA_sAn eS_31 (ex3 (gQ_12_1219 hO.1 ha_x)) h_23 rfl)
      have rR_963 : RowR S_923 x (3 * a1_z + 1).toNat (qe A) := RowR_eq rR_962 (zA_sAn eS_923 (ex3 (gQ_12_1218 hO_32.1 t_899)) h_902 rfl) (zA_sAn eS_923 (ex3 (gQ_12_1219 hO_32.1 t_899)) h_902 rfl)
      have zR_964 : zA S_31 x 1215 a1_z.toNat = ((qst A)).toInt := (congrFun (zA_sAn eS_31 (ex3 (gQ_12_1215 hO.1 ha_x)) h_23 rfl) _).trans pw_8
      have zR_965 : zA S_923 x 1215 a1_z.toNat = ((qst A)).toInt := (congrFun (zA_sAn eS_923 (ex3 (gQ_12_1215 hO_32.1 t_899)) h_902 rfl) _).trans zR_964
      have zR_966 : zA S_923 x 1214 a1_z.toNat = ((qse A + 1)).toInt := (by rw [zs_927, if_pos (by omega)]; exact z_922.symm.trans (congrArg Int32.toInt (ev_921.trans (by rw [us_918]))))
      have zR_967 : zA S_31 x 1216 a1_z.toNat = ((qdr A)).toInt := (congrFun (zA_sAn eS_31 (ex3 (gQ_12_1216 hO.1 ha_x)) h_23 rfl) _).trans pw_11
      have zR_968 : zA S_923 x 1216 a1_z.toNat = ((qdr A)).toInt := (congrFun (zA_sAn eS_923 (ex3 (gQ_12_1216 hO_32.1 t_899)) h_902 rfl) _).trans zR_967
      have zR_969 : zA S_31 x 1217 a1_z.toNat = ((qtk A + 1)).toInt := (by rw [zs_35, if_pos (by omega)]; exact (congrArg Int32.toInt (ev_29.trans (by rw [us_28]))))
      have zR_970 : zA S_923 x 1217 a1_z.toNat = ((qtk A + 1)).toInt := (congrFun (zA_sAn eS_923 (ex3 (gQ_12_1217 hO_32.1 t_899)) h_902 rfl) _).trans zR_969
      have gR_971 : GrW S_31 x a1_z.toNat (qg A) := GrW_eq (zA_sAn eS_31 (ex3 (gQ_12_1235 hO.1 ha_x)) h_23 rfl) (zA_sAn eS_31 (ex3 (gQ_12_1236 hO.1 ha_x)) h_23 rfl) (congrFun (zA_sAn eS_31 (ex3 (gQ_12_1237 hO.1 ha_x)) h_23 rfl) _) pw_10
      have gR_972 : GrW S_923 x a1_z.toNat (qg A) := GrW_eq (zA_sAn eS_923 (ex3 (gQ_12_1235 hO_32.1 t_899)) h_902 rfl) (zA_sAn eS_923 (ex3 (gQ_12_1236 hO_32.1 t_899)) h_902 rfl) (congrFun (zA_sAn eS_923 (ex3 (gQ_12_1237 hO_32.1 t_899)) h_902 rfl) _) gR_971
      have pz_973 : PlZ S_31 x (qpl A) (qsd A) := PlZ_eq pw_14 (zA_sAn eS_31 (ex3 (gQ_12_1208 hO.1 ha_x)) h_23 rfl) (zA_sAn eS_31 (ex3 (gQ_12_1207 hO.1 ha_x)) h_23 rfl)
      have pz_974 : PlZ S_923 x (qpl A) (qsd A) := PlZ_eq pz_973 (zA_sAn eS_923 (ex3 (gQ_12_1208 hO_32.1 t_899)) h_902 rfl) (zA_sAn eS_923 (ex3 (gQ_12_1207 hO_32.1 t_899)) h_902 rfl)
      have t_975 : pI S_31 1238 x = v_15 := tI_sA eS_31 ev_15
      have t_976 : pI S_923 1238 x = v_15 := tI_sA eS_923 t_975
      have pz_977 : (pI S_923 1238 x).toInt = v_15.toInt := (congrArg Int32.toInt t_976).trans rfl
      have kR_978 : SkW S_31 x (qsk A) := SkW_n (by rw [eS_31]; rfl) ⟨zA_sAn eS_31 (ex3 (gQ_12_1235 hO.1 ha_x)) h_23 rfl, zA_sAn eS_31 (ex3 (gQ_12_1236 hO.1 ha_x)) h_23 rfl, zA_sAn eS_31 (ex3 (gQ_12_1239 hO.1 ha_x)) h_23 rfl, zA_sAn eS_31 (ex3 (gQ_12_1240 hO.1 ha_x)) h_23 rfl, zA_sAn eS_31 (ex3 (gQ_12_1241 hO.1 ha_x)) h_23 rfl, zA_sAn eS_31 (ex3 (gQ_12_1242 hO.1 ha_x)) h_23 rfl⟩ pw_13
      have kR_979 : SkW S_923 x (qsk A) := SkW_n (by rw [eS_923]; rfl) ⟨zA_sAn eS_923 (ex3 (gQ_12_1235 hO_32.1 t_899)) h_902 rfl, zA_sAn eS_923 (ex3 (gQ_12_1236 hO_32.1 t_899)) h_902 rfl, zA_sAn eS_923 (ex3 (gQ_12_1239 hO_32.1 t_899)) h_902 rfl, zA_sAn eS_923 (ex3 (gQ_12_1240 hO_32.1 t_899)) h_902 rfl, zA_sAn eS_923 (ex3 (gQ_12_1241 hO_32.1 t_899)) h_902 rfl, zA_sAn eS_923 (ex3 (gQ_12_1242 hO_32.1 t_899)) h_902 rfl⟩ kR_978
      have px_980 : PwX S S_31 x a1_z := PwX_z (PwX_rf S x a1_z) (zA_sAn eS_31 (ex3 (gQ_12_1218 hO.1 ha_x)) h_23 rfl) (zA_sAn eS_31 (ex3 (gQ_12_1219 hO.1 ha_x)) h_23 rfl) (zA_sAn eS_31 (ex3 (gQ_12_1235 hO.1 ha_x)) h_23 rfl) (zA_sAn eS_31 (ex3 (gQ_12_1236 hO.1 ha_x)) h_23 rfl) zs_35 (by omega) (pw4 (fun _ => zA_sAn eS_31 (ex3 (gQ_12_1214 hO.1 ha_x)) h_23 rfl) (fun _ => zA_sAn eS_31 (ex3 (gQ_12_1215 hO.1 ha_x)) h_23 rfl) (fun _ => zA_sAn eS_31 (ex3 (gQ_12_1216 hO.1 ha_x)) h_23 rfl) (fun h => absurd rfl h) (fun _ => zA_sAn eS_31 (ex3 (gQ_12_1237 hO.1 ha_x)) h_23 rfl))
      have px_981 : PwX S S_923 x a1_z := PwX_z px_980 (zA_sAn eS_923 (ex3 (gQ_12_1218 hO_32.1 t_899)) h_902 rfl) (zA_sAn eS_923 (ex3 (gQ_12_1219 hO_32.1 t_899)) h_902 rfl) (zA_sAn eS_923 (ex3 (gQ_12_1235 hO_32.1 t_899)) h_902 rfl) (zA_sAn eS_923 (ex3 (gQ_12_1236 hO_32.1 t_899)) h_902 rfl) zs_927 (by omega) (pw4 (fun h => absurd rfl h) (fun _ => zA_sAn eS_923 (ex3 (gQ_12_1215 hO_32.1 t_899)) h_902 rfl) (fun _ => zA_sAn eS_923 (ex3 (gQ_12_1216 hO_32.1 t_899)) h_902 rfl) (fun _ => zA_sAn eS_923 (ex3 (gQ_12_1217 hO_32.1 t_899)) h_902 rfl) (fun _ => zA_sAn eS_923 (ex3 (gQ_12_1237 hO_32.1 t_899)) h_902 rfl))
      have wt_982 : WsT S S_31 x Ev A A := WsT_f (WsT_rf S x Ev A) (by rw [eS_31]; rfl)
      have wt_983 : WsT S S_923 x Ev A A := WsT_f wt_982 (by rw [eS_923]; rfl)
      have t_984 : pI S_923 1201 x = v_1 := tI_sA eS_923 t_46
      exact L_37 _ _ _ _  hw t_931 hO_924 mi_955 (GR_eq zc_957 hp_3) zm_959 (PotW_of (seaF_w (A := (wtk A (qtk A + 1))) (show ql A ≠ [] from fun z => by have e0 := congrArg List.length z; have e1 : ([] : List Nat).length = 0 := rfl; have := pw_7.1; omega) (show (qse (wtk A (qtk A + 1)) + 1).toInt < (efind Ev).toInt by have e2 : (qse A + 1).toInt = (v_914.toInt + 1) := (congrArg Int32.toInt (ev_921.trans (by rw [us_918]))).symm.trans z_922; show (qse A + 1).toInt < _; omega)) rR_961 rR_963 rR_929 zR_965 zR_966 gR_972 zR_968 zR_970 kR_979 pz_974) px_981 (WsT_q wt_983 (show qws (seaF Ev (wtk A (qtk A + 1))) = qws A from sea_ws)) t_984 (lv_sub hl [0, 1] rfl)
    · have z_b_985 := trivial
      have k_986 : (v_914.toInt + 1) = v_946.toInt := z_eq z_922 rfl c_951
      refine lv_aload_n X.1 X.2.1 dX12_tick_61 rfl (lv_at hl 0 rfl) ?_
      refine r_getR (g := 1214) X hw t_931 rfl 14 t_926 (by decide) rfl inn_X12_tick_12 (by decide) (X.2.2.2.1 (.fieldLink RX12 43 "SilkMillModel" "search" "[I") (by decide +kernel)) rfl (gv_1214 _ _) dX12_tick_62 ?_
      refine lv_iload_n X.1 X.2.1 dX12_tick_65 rfl (lv_at hl 1 rfl) ?_
      refine lv_iconst (v := 0) X.1 X.2.1 dX12_tick_66 (by decide) ?_
      refine r_iast X hw t_940 rfl (by rw [t_941]; exact z_ix hz_a1 (by omega) (by omega)) dX12_tick_67 (fun H locs hw => ?_)
      obtain ⟨S_987, eS_987⟩ : ∃ T, T = sA S_923 q_900 (upd (pA S_923 q_900) (Int32.toNatClampNeg (a1)) (0)) := ⟨_, rfl⟩
      rw [← eS_987] at hw
      have hO_988 : Ok MTK S S_987 := hO_924.sA eS_987 t_940 (by decide +kernel) (uA_494 hO_924.1 t_940)
      have h_989 : pA S_987 q_900 (Int32.toNatClampNeg (a1)) = 0 := tA_sAs eS_987
      have t_990 : pR S_987 1214 x = some q_900 := tR_sA eS_987 t_926
      have t_992 : pR S_923 1214 x = some q_900 := by have h := t_990; rw [eS_987, pR_sA] at h; exact h
      have zs_991 : ∀ j, zA S_987 x 1214 j = if j = (a1_z).toNat then 0 else zA S_923 x 1214 j := by have h := zA_sAs eS_987 t_992 ti_0; rw [z_nc hz_a1 (by omega)] at h; exact h
      refine lv_aload_n X.1 X.2.1 dX12_tick_68 rfl (lv_at hl 0 rfl) ?_
      refine lv_iload_n X.1 X.2.1 dX12_tick_69 rfl (lv_at hl 1 rfl) ?_
      refine lv_iconst (v := 0) X.1 X.2.1 dX12_tick_70 (by decide) ?_
      refine lv_aload_n X.1 X.2.1 dX12_tick_71 rfl (lv_at hl 0 rfl) ?_
      refine lv_iload_n X.1 X.2.1 dX12_tick_72 rfl (lv_at hl 1 rfl) ?_
      refine lv_iconst (v := 2) X.1 X.2.1 dX12_tick_73 (by decide) ?_
      refine lv_iconst (v := 0) X.1 X.2.1 dX12_tick_74 (by decide) ?_
      have t_993 : pI S_923 1201 x = v_1 := tI_sA eS_923 t_46
      have t_994 : pI S_987 1201 x = v_1 := tI_sA eS_987 t_993
      have pz_995 : (pI S_987 1201 x).toInt = v_1.toInt := (congrArg Int32.toInt t_994).trans rfl
      have zc_996 : zA S_31 x 1219 = zA S x 1219 := zA_sAn eS_31 (ex3 (gQ_12_1219 hO.1 ha_x)) h_23 rfl
      have zc_997 : zA S_923 x 1219 = zA S x 1219 := (zA_sAn eS_923 (ex3 (gQ_12_1219 hO_32.1 t_899)) h_902 rfl).trans zc_996
      have zc_998 : zA S_987 x 1219 = zA S x 1219 := (zA_sAn eS_987 (ex3 (gQ_12_1219 hO_924.1 t_931)) t_940 rfl).trans zc_997
      have zz_999 := congrFun zc_998 ((3 * a1_z + 2).toNat)
      have rR_1000 : RowR S_31 x (3 * a1_z + 0).toNat (qb A) := RowR_eq pw_5 (zA_sAn eS_31 (ex3 (gQ_12_1218 hO.1 ha_x)) h_23 rfl) (zA_sAn eS_31 (ex3 (gQ_12_1219 hO.1 ha_x)) h_23 rfl)
      have rR_1001 : RowR S_923 x (3 * a1_z + 0).toNat (qb A) := RowR_eq rR_1000 (zA_sAn eS_923 (ex3 (gQ_12_1218 hO_32.1 t_899)) h_902 rfl) (zA_sAn eS_923 (ex3 (gQ_12_1219 hO_32.1 t_899)) h_902 rfl)
      have rR_1002 : RowR S_987 x (3 * a1_z + 0).toNat (qb A) := RowR_eq rR_1001 (zA_sAn eS_987 (ex3 (gQ_12_1218 hO_924.1 t_931)) t_940 rfl) (zA_sAn eS_987 (ex3 (gQ_12_1219 hO_924.1 t_931)) t_940 rfl)
      have rR_1003 : RowR S_987 x (3 * a1_z + 2).toNat (ql A) := RowR_eq rR_929 (zA_sAn eS_987 (ex3 (gQ_12_1218 hO_924.1 t_931)) t_940 rfl) (zA_sAn eS_987 (ex3 (gQ_12_1219 hO_924.1 t_931)) t_940 rfl)
      have ln_1004 : zA S_987 x 1219 (3 * a1_z + 2).toNat = (((ql A)).length : Int) := rR_1003.1
      have t_1005 : At S_987 x 12 := tAt_sA eS_987 t_931
      have rR_1006 : RowR S_31 x (3 * a1_z + 1).toNat (qe A) := RowR_eq pw_6 (zA_sAn eS_31 (ex3 (gQ_12_1218 hO.1 ha_x)) h_23 rfl) (zA_sAn eS_31 (ex3 (gQ_12_1219 hO.1 ha_x)) h_23 rfl)
      have rR_1007 : RowR S_923 x (3 * a1_z + 1).toNat (qe A) := RowR_eq rR_1006 (zA_sAn eS_923 (ex3 (gQ_12_1218 hO_32.1 t_899)) h_902 rfl) (zA_sAn eS_923 (ex3 (gQ_12_1219 hO_32.1 t_899)) h_902 rfl)
      have rR_1008 : RowR S_987 x (3 * a1_z + 1).toNat (qe A) := RowR_eq rR_1007 (zA_sAn eS_987 (ex3 (gQ_12_1218 hO_924.1 t_931)) t_940 rfl) (zA_sAn eS_987 (ex3 (gQ_12_1219 hO_924.1 t_931)) t_940 rfl)
      have mi_1009 : MIe S_31 x (-1) := MIe_sA hp_2 hO.1 ha_x h_23 eS_31 (by decide +kernel)
      have mi_1010 : MIe S_923 x (-1) := MIe_sA mi_1009 hO_32.1 t_899 h_902 eS_923 (by decide +kernel)
      have mi_1011 : MIe S_987 x (-1) := MIe_sA mi_1010 hO_924.1 t_931 t_940 eS_987 (by decide +kernel)
      refine k_i (rm := { frames := 1, cells := 0, slots := 0, locals := 48 }) (av := [.ref x, .int (a1), .int 2, .int 0]) X hw (va_runV (As := [.int (a1), .int 2, .int 0]) (rest := [.int 0, .int (a1), .ref x]) (cfix X) (k_X12_goes5 l G cy κ S_987 _ x (a1) (a1_z) (2) (2) (0) (0) (-1) hO_988.1 t_1005 hz_a1 ti_2 ti_0 (by first | assumption | omega) (by first | assumption | omega) (by first | assumption | omega) (by first | assumption | omega) (by first | assumption | omega) (by first | assumption | omega) mi_1011) (cwV 3 X.2.2.2.1 gX12_tick_X12_goes rfl rfl rfl (by decide +kernel) ⟨Nat.le_of_ble_eq_true rfl, Nat.le_of_ble_eq_true rfl⟩) (pre_V X hw _ t_1005 rfl (by decide) rfl) rfl rfl hl.1 rfl (lv_room (Nat.le_of_ble_eq_true rfl)) dX12_tick_75 ⟨Nat.le_of_ble_eq_true rfl, Nat.le_of_ble_eq_true rfl⟩) 0 0 (Nat.le_of_ble_eq_true rfl) (Nat.le_of_ble_eq_true rfl) (fun rr_1012 S_1013 H locs hp hw hfr hnw => ?_)
      obtain ⟨hk_1014, hp⟩ := hp
      have hO_1015 : Ok MTK S S_1013 := hO_988.call hk_1014 (by decide +kernel)
      obtain ⟨g_1016, g_1017, g_1018, g_1019, g_1020, g_1021, g_1022, g_1023, g_1024⟩ := hp
      obtain ⟨dn_1025, dn_1026⟩ : ∃ d, ((ql A))[((0 : Int)).toNat]? = some d := ⟨_, List.getElem?_eq_getElem (by have := rR_1003.1; omega)⟩
      have dn_1027 : rr_1012.toInt = (dn_1025 : Int) := by have h8 := rR_1003.2 _ _ dn_1026; have hi : (600 * (3 * a1_z + 2) + 0).toNat = 600 * (3 * a1_z + 2).toNat + ((0 : Int)).toNat := (by omega); rw [← hi] at h8; omega
      have t_1028 : pI S_1013 1201 x = v_1 := hk_1014.fr.I' (by decide +kernel) t_1005 t_994
      have pz_1029 : (pI S_1013 1201 x).toInt = v_1.toInt := (congrArg Int32.toInt t_1028).trans rfl
      have zl_1030 : zA S_1013 x 1207 = zA S_987 x 1207 := zA_fr hk_1014.fr t_1005 (ex3 (gQ_12_1207 hO_988.1 t_1005)) (by decide +kernel) (by decide +kernel)
      have zz_1031 := congrFun zl_1030 (rr_1012.toInt).toNat
      have al_1032 := ((MI_1 g_1021 (c := rr_1012.toInt) (by omega) (by omega)).2 (by omega)).2 (by omega) (by omega)
      have gi_1033 := g_1023 (3 * a1_z + 0).toNat; rw [if_neg (by omega)] at gi_1033
      have m4_1034 := g_1021.2.2.2.1.2 (3 * a1_z + 0).toNat (by omega)
      refine lv_aload_n X.1 X.2.1 dX12_tick_78 rfl (lv_at hl 0 rfl) ?_
      refine lv_iload_n X.1 X.2.1 dX12_tick_79 rfl (lv_at hl 1 rfl) ?_
      refine lv_iconst (v := 0) X.1 X.2.1 dX12_tick_80 (by decide) ?_
      have t_1035 : At S_1013 x 12 := hk_1014.fr.at t_1005
      refine k_i (rm := { frames := 1, cells := 0, slots := 0, locals := 48 }) (av := [.ref x, .int (a1), .int 0]) X hw (va_runV (As := [.int (a1), .int 0]) (rest := [.int (rr_1012), .int 0, .int (a1), .ref x]) (cfix X) (k_X12_many2 l G cy κ S_1013 _ x (a1) (a1_z) (0) (0) hO_1015.1 t_1035 hz_a1 ti_0 (by first | assumption | omega) (by first | assumption | omega) (by first | assumption | omega) (by first | assumption | omega)) (cwV 2 X.2.2.2.1 gX12_tick_X12_many rfl rfl rfl (by decide +kernel) ⟨Nat.le_of_ble_eq_true rfl, Nat.le_of_ble_eq_true rfl⟩) (pre_V X hw _ t_1035 rfl (by decide) rfl) rfl rfl hl.1 rfl (lv_room (Nat.le_of_ble_eq_true rfl)) dX12_tick_81 ⟨Nat.le_of_ble_eq_true rfl, Nat.le_of_ble_eq_true rfl⟩) 0 0 (Nat.le_of_ble_eq_true rfl) (Nat.le_of_ble_eq_true rfl) (fun rr_1036 S_1037 H locs hp hw hfr hnw => ?_)
      obtain ⟨e2, hp⟩ := hp
      subst e2
      obtain ⟨f_1038, f_1039, f_1040⟩ := hp
      refine k_v (rm := { frames := 1, cells := 0, slots := 0, locals := 48 }) (av := [.ref x, .int (a1), .int 0, .int (rr_1012), .int (rr_1036)]) X hw (va_runV (As := [.int (a1), .int 0, .int (rr_1012), .int (rr_1036)]) (rest := []) (cfix X) (k_X12_comes5 l G cy κ S_1013 _ x (a1) (a1_z) (0) (0) (rr_1012) (rr_1012.toInt) (rr_1036) (rr_1036.toInt) hO_1015.1 t_1035 hz_a1 ti_0 rfl rfl (by first | assumption | omega) (by first | assumption | omega) (by first | assumption | omega) (by first | assumption | omega) (by first | assumption | omega) (by first | assumption | omega) (by first | assumption | omega) (by first | assumption | omega) (by first | assumption | omega) (by first | assumption | omega) g_1021 (by first | assumption | omega) (by first | assumption | omega)) (cwV 4 X.2.2.2.1 gX12_tick_X12_comes rfl rfl rfl (by decide +kernel) ⟨Nat.le_of_ble_eq_true rfl, Nat.le_of_ble_eq_true rfl⟩) (pre_V X hw _ t_1035 rfl (by decide) rfl) rfl rfl hl.1 rfl (lv_room (Nat.le_of_ble_eq_true rfl)) dX12_tick_84 ⟨Nat.le_of_ble_eq_true rfl, Nat.le_of_ble_eq_true rfl⟩) 0 0 (Nat.le_of_ble_eq_true rfl) (Nat.le_of_ble_eq_true rfl) (fun S_1042 H locs hp hw hfr hnw => ?_)
      obtain ⟨hk_1043, hp⟩ := hp
      have hO_1044 : Ok MTK S S_1042 := hO_1015.call hk_1043 (by decide +kernel)
      obtain ⟨mi_1045, cm_1046, cs_1047, cx_1048⟩ := hp
      have t_1049 : At S_1042 x 12 := hk_1043.fr.at t_1035
      have zc_1050 : zA S_31 x 1237 = zA S x 1237 := zA_sAn eS_31 (ex3 (gQ_12_1237 hO.1 ha_x)) h_23 rfl
      have zc_1051 : zA S_923 x 1237 = zA S x 1237 := (zA_sAn eS_923 (ex3 (gQ_12_1237 hO_32.1 t_899)) h_902 rfl).trans zc_1050
      have zc_1052 : zA S_987 x 1237 = zA S x 1237 := (zA_sAn eS_987 (ex3 (gQ_12_1237 hO_924.1 t_931)) t_940 rfl).trans zc_1051
      have zc_1053 : zA S_1013 x 1237 = zA S x 1237 := (zA_fr hk_1014.fr t_1005 (ex3 (gQ_12_1237 hO_988.1 t_1005)) (by decide +kernel) (by decide +kernel)).trans zc_1052
      have zc_1054 : zA S_1042 x 1237 = zA S x 1237 := (zA_fr hk_1043.fr t_1035 (ex3 (gQ_12_1237 hO_1015.1 t_1035)) (by decide +kernel) (by decide +kernel)).trans zc_1053
      have zm_1055 : ZM S S_31 x := ZM_eq hzm0 (zA_sAn eS_31 (ex3 (gQ_12_1207 hO.1 ha_x)) h_23 rfl)
      have zm_1056 : ZM S S_923 x := ZM_eq zm_1055 (zA_sAn eS_923 (ex3 (gQ_12_1207 hO_32.1 t_899)) h_902 rfl)
      have zm_1057 : ZM S S_987 x := ZM_eq zm_1056 (zA_sAn eS_987 (ex3 (gQ_12_1207 hO_924.1 t_931)) t_940 rfl)
      have zm_1058 : ZM S S_1013 x := ZM_eq zm_1057 (zA_fr hk_1014.fr t_1005 (ex3 (gQ_12_1207 hO_988.1 t_1005)) (by decide +kernel) (by decide +kernel))
      have zm_1059 : ZM S S_1042 x := ZM_set zm_1058 cs_1047 ⟨by omega, by omega⟩ ⟨by omega, by omega⟩
      have rR_1060 : RowR S_1013 x (3 * a1_z + 0).toNat (qb A) := RowR_gox hO_988.1 t_1005 (by omega) rR_1002 g_1024
      have cap_1062 : ((qb A)).length < 600 := by have h1 := rR_1060.1; have h2 := cx_1048.2.2.2.1; omega
      have rR_1061 : RowR S_1042 x (3 * a1_z + 0).toNat ((qb A) ++ [dn_1025]) := RowR_last rR_1060 (show CmO S_1013 S_1042 x (3 * a1_z + 0).toNat ((qb A)).length (rr_1012.toInt) by rw [show ((qb A)).length = (rr_1036.toInt).toNat by have := rR_1060.1; omega]; exact cx_1048) dn_1027
      have rR_1063 : RowR S_1013 x (3 * a1_z + 1).toNat (qe A) := RowR_gox hO_988.1 t_1005 (by omega) rR_1008 g_1024
      have rR_1064 : RowR S_1042 x (3 * a1_z + 1).toNat (qe A) := RowR_cmx hO_1015.1 t_1035 (by omega) rR_1063 cx_1048
      have rR_1065 : RowR S_1013 x (3 * a1_z + 2).toNat ((ql A).tail) := RowR_goes0 rR_1003 g_1024 (by have := rR_1003.1; omega)
      have rR_1066 : RowR S_1042 x (3 * a1_z + 2).toNat ((ql A).tail) := RowR_cmx hO_1015.1 t_1035 (by omega) rR_1065 cx_1048
      have zR_1067 : zA S_31 x 1215 a1_z.toNat = ((qst A)).toInt := (congrFun (zA_sAn eS_31 (ex3 (gQ_12_1215 hO.1 ha_x)) h_23 rfl) _).trans pw_8
      have zR_1068 : zA S_923 x 1215 a1_z.toNat = ((qst A)).toInt := (congrFun (zA_sAn eS_923 (ex3 (gQ_12_1215 hO_32.1 t_899)) h_902 rfl) _).trans zR_1067
      have zR_1069 : zA S_987 x 1215 a1_z.toNat = ((qst A)).toInt := (congrFun (zA_sAn eS_987 (ex3 (gQ_12_1215 hO_924.1 t_931)) t_940 rfl) _).trans zR_1068
      have zR_1070 : zA S_1013 x 1215 a1_z.toNat = ((qst A)).toInt := (congrFun (zA_fr hk_1014.fr t_1005 (ex3 (gQ_12_1215 hO_988.1 t_1005)) (by decide +kernel) (by decide +kernel)) _).trans zR_1069
      have zR_1071 : zA S_1042 x 1215 a1_z.toNat = ((qst A)).toInt := (congrFun (zA_fr hk_1043.fr t_1035 (ex3 (gQ_12_1215 hO_1015.1 t_1035)) (by decide +kernel) (by decide +kernel)) _).trans zR_1070
      have zR_1072 : zA S_923 x 1214 a1_z.toNat = ((qse A + 1)).toInt := (by rw [zs_927, if_pos (by omega)]; exact z_922.symm.trans (congrArg Int32.toInt (ev_921.trans (by rw [us_918]))))
      have zR_1073 : zA S_987 x 1214 a1_z.toNat = ((0 : Int32)).toInt := (by rw [zs_991, if_pos (by omega)]; decide)
      have zR_1074 : zA S_1013 x 1214 a1_z.toNat = ((0 : Int32)).toInt := (congrFun (zA_fr hk_1014.fr t_1005 (ex3 (gQ_12_1214 hO_988.1 t_1005)) (by decide +kernel) (by decide +kernel)) _).trans zR_1073
      have zR_1075 : zA S_1042 x 1214 a1_z.toNat = ((0 : Int32)).toInt := (congrFun (zA_fr hk_1043.fr t_1035 (ex3 (gQ_12_1214 hO_1015.1 t_1035)) (by decide +kernel) (by decide +kernel)) _).trans zR_1074
      have zR_1076 : zA S_31 x 1216 a1_z.toNat = ((qdr A)).toInt := (congrFun (zA_sAn eS_31 (ex3 (gQ_12_1216 hO.1 ha_x)) h_23 rfl) _).trans pw_11
      have zR_1077 : zA S_923 x 1216 a1_z.toNat = ((qdr A)).toInt := (congrFun (zA_sAn eS_923 (ex3 (gQ_12_1216 hO_32.1 t_899)) h_902 rfl) _).trans zR_1076
      have zR_1078 : zA S_987 x 1216 a1_z.toNat = ((qdr A)).toInt := (congrFun (zA_sAn eS_987 (ex3 (gQ_12_1216 hO_924.1 t_931)) t_940 rfl) _).trans zR_1077
      have zR_1079 : zA S_1013 x 1216 a1_z.toNat = ((qdr A)).toInt := (congrFun (zA_fr hk_1014.fr t_1005 (ex3 (gQ_12_1216 hO_988.1 t_1005)) (by decide +kernel) (by decide +kernel)) _).trans zR_1078
      have zR_1080 : zA S_1042 x 1216 a1_z.toNat = ((qdr A)).toInt := (congrFun (zA_fr hk_1043.fr t_1035 (ex3 (gQ_12_1216 hO_1015.1 t_1035)) (by decide +kernel) (by decide +kernel)) _).trans zR_1079
      have zR_1081 : zA S_31 x 1217 a1_z.toNat = ((qtk A + 1)).toInt := (by rw [zs_35, if_pos (by omega)]; exact (congrArg Int32.toInt (ev_29.trans (by rw [us_28]))))
      have zR_1082 : zA S_923 x 1217 a1_z.toNat = ((qtk A + 1)).toInt := (congrFun (zA_sAn eS_923 (ex3 (gQ_12_1217 hO_32.1 t_899)) h_902 rfl) _).trans zR_1081
      have zR_1083 : zA S_987 x 1217 a1_z.toNat = ((qtk A + 1)).toInt := (congrFun (zA_sAn eS_987 (ex3 (gQ_12_1217 hO_924.1 t_931)) t_940 rfl) _).trans zR_1082
      have zR_1084 : zA S_1013 x 1217 a1_z.toNat = ((qtk A + 1)).toInt := (congrFun (zA_fr hk_1014.fr t_1005 (ex3 (gQ_12_1217 hO_988.1 t_1005)) (by decide +kernel) (by decide +kernel)) _).trans zR_1083
      have zR_1085 : zA S_1042 x 1217 a1_z.toNat = ((qtk A + 1)).toInt := (congrFun (zA_fr hk_1043.fr t_1035 (ex3 (gQ_12_1217 hO_1015.1 t_1035)) (by decide +kernel) (by decide +kernel)) _).trans zR_1084
      have gR_1086 : GrW S_31 x a1_z.toNat (qg A) := GrW_eq (zA_sAn eS_31 (ex3 (gQ_12_1235 hO.1 ha_x)) h_23 rfl) (zA_sAn eS_31 (ex3 (gQ_12_1236 hO.1 ha_x)) h_23 rfl) (congrFun (zA_sAn eS_31 (ex3 (gQ_12_1237 hO.1 ha_x)) h_23 rfl) _) pw_10
      have gR_1087 : GrW S_923 x a1_z.toNat (qg A) := GrW_eq (zA_sAn eS_923 (ex3 (gQ_12_1235 hO_32.1 t_899)) h_902 rfl) (zA_sAn eS_923 (ex3 (gQ_12_1236 hO_32.1 t_899)) h_902 rfl) (congrFun (zA_sAn eS_923 (ex3 (gQ_12_1237 hO_32.1 t_899)) h_902 rfl) _) gR_1086
      have gR_1088 : GrW S_987 x a1_z.toNat (qg A) := GrW_eq (zA_sAn eS_987 (ex3 (gQ_12_1235 hO_924.1 t_931)) t_940 rfl) (zA_sAn eS_987 (ex3 (gQ_12_1236 hO_924.1 t_931)) t_940 rfl) (congrFun (zA_sAn eS_987 (ex3 (gQ_12_1237 hO_924.1 t_931)) t_940 rfl) _) gR_1087
      have gR_1089 : GrW S_1013 x a1_z.toNat (qg A) := GrW_eq (zA_fr hk_1014.fr t_1005 (ex3 (gQ_12_1235 hO_988.1 t_1005)) (by decide +kernel) (by decide +kernel)) (zA_fr hk_1014.fr t_1005 (ex3 (gQ_12_1236 hO_988.1 t_1005)) (by decide +kernel) (by decide +kernel)) (congrFun (zA_fr hk_1014.fr t_1005 (ex3 (gQ_12_1237 hO_988.1 t_1005)) (by decide +kernel) (by decide +kernel)) _) gR_1088
      have gR_1090 : GrW S_1042 x a1_z.toNat (qg A) := GrW_eq (zA_fr hk_1043.fr t_1035 (ex3 (gQ_12_1235 hO_1015.1 t_1035)) (by decide +kernel) (by decide +kernel)) (zA_fr hk_1043.fr t_1035 (ex3 (gQ_12_1236 hO_1015.1 t_1035)) (by decide +kernel) (by decide +kernel)) (congrFun (zA_fr hk_1043.fr t_1035 (ex3 (gQ_12_1237 hO_1015.1 t_1035)) (by decide +kernel) (by decide +kernel)) _) gR_1089
      have pz_1091 : PlZ S_31 x (qpl A) (qsd A) := PlZ_eq pw_14 (zA_sAn eS_31 (ex3 (gQ_12_1208 hO.1 ha_x)) h_23 rfl) (zA_sAn eS_31 (ex3 (gQ_12_1207 hO.1 ha_x)) h_23 rfl)
      have pz_1092 : PlZ S_923 x (qpl A) (qsd A) := PlZ_eq pz_1091 (zA_sAn eS_923 (ex3 (gQ_12_1208 hO_32.1 t_899)) h_902 rfl) (zA_sAn eS_923 (ex3 (gQ_12_1207 hO_32.1 t_899)) h_902 rfl)
      have pz_1093 : PlZ S_987 x (qpl A) (qsd A) := PlZ_eq pz_1092 (zA_sAn eS_987 (ex3 (gQ_12_1208 hO_924.1 t_931)) t_940 rfl) (zA_sAn eS_987 (ex3 (gQ_12_1207 hO_924.1 t_931)) t_940 rfl)
      have pz_1094 : PlZ S_1013 x (qpl A) (qsd A) := PlZ_eq pz_1093 (zA_fr hk_1014.fr t_1005 (ex3 (gQ_12_1208 hO_988.1 t_1005)) (by decide +kernel) (by decide +kernel)) (zA_fr hk_1014.fr t_1005 (ex3 (gQ_12_1207 hO_988.1 t_1005)) (by decide +kernel) (by decide +kernel))
      have pz_1095 : PlZ S_1042 x (qpl A) (fuI (qsd A) dn_1025 1) := PlZ_7 pz_1094 (zA_fr hk_1043.fr t_1035 (ex3 (gQ_12_1208 hO_1015.1 t_1035)) (by decide +kernel) (by decide +kernel)) cs_1047 (by omega) (by decide)
      have t_1096 : pI S_31 1238 x = v_15 := tI_sA eS_31 ev_15
      have t_1097 : pI S_923 1238 x = v_15 := tI_sA eS_923 t_1096
      have t_1098 : pI S_987 1238 x = v_15 := tI_sA eS_987 t_1097
      have t_1099 : pI S_1013 1238 x = v_15 := hk_1014.fr.I' (by decide +kernel) t_1005 t_1098
      have t_1100 : pI S_1042 1238 x = v_15 := hk_1043.fr.I' (by decide +kernel) t_1035 t_1099
      have pz_1101 : (pI S_1042 1238 x).toInt = v_15.toInt := (congrArg Int32.toInt t_1100).trans rfl
      have kR_1102 : SkW S_31 x (qsk A) := SkW_n (by rw [eS_31]; rfl) ⟨zA_sAn eS_31 (ex3 (gQ_12_1235 hO.1 ha_x)) h_23 rfl, zA_sAn eS_31 (ex3 (gQ_12_1236 hO.1 ha_x)) h_23 rfl, zA_sAn eS_31 (ex3 (gQ_12_1239 hO.1 ha_x)) h_23 rfl, zA_sAn eS_31 (ex3 (gQ_12_1240 hO.1 ha_x)) h_23 rfl, zA_sAn eS_31 (ex3 (gQ_12_1241 hO.1 ha_x)) h_23 rfl, zA_sAn eS_31 (ex3 (gQ_12_1242 hO.1 ha_x)) h_23 rfl⟩ pw_13
      have kR_1103 : SkW S_923 x (qsk A) := SkW_n (by rw [eS_923]; rfl) ⟨zA_sAn eS_923 (ex3 (gQ_12_1235 hO_32.1 t_899)) h_902 rfl, zA_sAn eS_923 (ex3 (gQ_12_1236 hO_32.1 t_899)) h_902 rfl, zA_sAn eS_923 (ex3 (gQ_12_1239 hO_32.1 t_899)) h_902 rfl, zA_sAn eS_923 (ex3 (gQ_12_1240 hO_32.1 t_899)) h_902 rfl, zA_sAn eS_923 (ex3 (gQ_12_1241 hO_32.1 t_899)) h_902 rfl, zA_sAn eS_923 (ex3 (gQ_12_1242 hO_32.1 t_899)) h_902 rfl⟩ kR_1102
      have kR_1104 : SkW S_987 x (qsk A) := SkW_n (by rw [eS_987]; rfl) ⟨zA_sAn eS_987 (ex3 (gQ_12_1235 hO_924.1 t_931)) t_940 rfl, zA_sAn eS_987 (ex3 (gQ_12_1236 hO_924.1 t_931)) t_940 rfl, zA_sAn eS_987 (ex3 (gQ_12_1239 hO_924.1 t_931)) t_940 rfl, zA_sAn eS_987 (ex3 (gQ_12_1240 hO_924.1 t_931)) t_940 rfl, zA_sAn eS_987 (ex3 (gQ_12_1241 hO_924.1 t_931)) t_940 rfl, zA_sAn eS_987 (ex3 (gQ_12_1242 hO_924.1 t_931)) t_940 rfl⟩ kR_1103
      have kR_1105 : SkW S_1013 x (qsk A) := SkW_n (congrArg Int32.toInt (hk_1014.fr.I' (by decide +kernel) t_1005 rfl)) ⟨zA_fr hk_1014.fr t_1005 (ex3 (gQ_12_1235 hO_988.1 t_1005)) (by decide +kernel) (by decide +kernel), zA_fr hk_1014.fr t_1005 (ex3 (gQ_12_1236 hO_988.1 t_1005)) (by decide +kernel) (by decide +kernel), zA_fr hk_1014.fr t_1005 (ex3 (gQ_12_1239 hO_988.1 t_1005)) (by decide +kernel) (by decide +kernel), zA_fr hk_1014.fr t_1005 (ex3 (gQ_12_1240 hO_988.1 t_1005)) (by decide +kernel) (by decide +kernel), zA_fr hk_1014.fr t_1005 (ex3 (gQ_12_1241 hO_988.1 t_1005)) (by decide +kernel) (by decide +kernel), zA_fr hk_1014.fr t_1005 (ex3 (gQ_12_1242 hO_988.1 t_1005)) (by decide +kernel) (by decide +kernel)⟩ kR_1104
      have kR_1106 : SkW S_1042 x (qsk A) := SkW_n (congrArg Int32.toInt (hk_1043.fr.I' (by decide +kernel) t_1035 rfl)) ⟨zA_fr hk_1043.fr t_1035 (ex3 (gQ_12_1235 hO_1015.1 t_1035)) (by decide +kernel) (by decide +kernel), zA_fr hk_1043.fr t_1035 (ex3 (gQ_12_1236 hO_1015.1 t_1035)) (by decide +kernel) (by decide +kernel), zA_fr hk_1043.fr t_1035 (ex3 (gQ_12_1239 hO_1015.1 t_1035)) (by decide +kernel) (by decide +kernel), zA_fr hk_1043.fr t_1035 (ex3 (gQ_12_1240 hO_1015.1 t_1035)) (by decide +kernel) (by decide +kernel), zA_fr hk_1043.fr t_1035 (ex3 (gQ_12_1241 hO_1015.1 t_1035)) (by decide +kernel) (by decide +kernel), zA_fr hk_1043.fr t_1035 (ex3 (gQ_12_1242 hO_1015.1 t_1035)) (by decide +kernel) (by decide +kernel)⟩ kR_1105
      have px_1107 : PwX S S_31 x a1_z := PwX_z (PwX_rf S x a1_z) (zA_sAn eS_31 (ex3 (gQ_12_1218 hO.1 ha_x)) h_23 rfl) (zA_sAn eS_31 (ex3 (gQ_12_1219 hO.1 ha_x)) h_23 rfl) (zA_sAn eS_31 (ex3 (gQ_12_1235 hO.1 ha_x)) h_23 rfl) (zA_sAn eS_31 (ex3 (gQ_12_1236 hO.1 ha_x)) h_23 rfl) zs_35 (by omega) (pw4 (fun _ => zA_sAn eS_31 (ex3 (gQ_12_1214 hO.1 ha_x)) h_23 rfl) (fun _ => zA_sAn eS_31 (ex3 (gQ_12_1215 hO.1 ha_x)) h_23 rfl) (fun _ => zA_sAn eS_31 (ex3 (gQ_12_1216 hO.1 ha_x)) h_23 rfl) (fun h => absurd rfl h) (fun _ => zA_sAn eS_31 (ex3 (gQ_12_1237 hO.1 ha_x)) h_23 rfl))
      have px_1108 : PwX S S_923 x a1_z := PwX_z px_1107 (zA_sAn eS_923 (ex3 (gQ_12_1218 hO_32.1 t_899)) h_902 rfl) (zA_sAn eS_923 (ex3 (gQ_12_1219 hO_32.1 t_899)) h_902 rfl) (zA_sAn eS_923 (ex3 (gQ_12_1235 hO_32.1 t_899)) h_902 rfl) (zA_sAn eS_923 (ex3 (gQ_12_1236 hO_32.1 t_899)) h_902 rfl) zs_927 (by omega) (pw4 (fun h => absurd rfl h) (fun _ => zA_sAn eS_923 (ex3 (gQ_12_1215 hO_32.1 t_899)) h_902 rfl) (fun _ => zA_sAn eS_923 (ex3 (gQ_12_1216 hO_32.1 t_899)) h_902 rfl) (fun _ => zA_sAn eS_923 (ex3 (gQ_12_1217 hO_32.1 t_899)) h_902 rfl) (fun _ => zA_sAn eS_923 (ex3 (gQ_12_1237 hO_32.1 t_899)) h_902 rfl))
      have px_1109 : PwX S S_987 x a1_z := PwX_z px_1108 (zA_sAn eS_987 (ex3 (gQ_12_1218 hO_924.1 t_931)) t_940 rfl) (zA_sAn eS_987 (ex3 (gQ_12_1219 hO_924.1 t_931)) t_940 rfl) (zA_sAn eS_987 (ex3 (gQ_12_1235 hO_924.1 t_931)) t_940 rfl) (zA_sAn eS_987 (ex3 (gQ_12_1236 hO_924.1 t_931)) t_940 rfl) zs_991 (by omega) (pw4 (fun h => absurd rfl h) (fun _ => zA_sAn eS_987 (ex3 (gQ_12_1215 hO_924.1 t_931)) t_940 rfl) (fun _ => zA_sAn eS_987 (ex3 (gQ_12_1216 hO_924.1 t_931)) t_940 rfl) (fun _ => zA_sAn eS_987 (ex3 (gQ_12_1217 hO_924.1 t_931)) t_940 rfl) (fun _ => zA_sAn eS_987 (ex3 (gQ_12_1237 hO_924.1 t_931)) t_940 rfl))
      have px_1110 : PwX S S_1013 x a1_z := PwX_go px_1109 hO_988.1 t_1005 (by omega) g_1024 (zA_fr hk_1014.fr t_1005 (ex3 (gQ_12_1235 hO_988.1 t_1005)) (by decide +kernel) (by decide +kernel)) (zA_fr hk_1014.fr t_1005 (ex3 (gQ_12_1236 hO_988.1 t_1005)) (by decide +kernel) (by decide +kernel)) (pw5 (zA_fr hk_1014.fr t_1005 (ex3 (gQ_12_1214 hO_988.1 t_1005)) (by decide +kernel) (by decide +kernel)) (zA_fr hk_1014.fr t_1005 (ex3 (gQ_12_1215 hO_988.1 t_1005)) (by decide +kernel) (by decide +kernel)) (zA_fr hk_1014.fr t_1005 (ex3 (gQ_12_1216 hO_988.1 t_1005)) (by decide +kernel) (by decide +kernel)) (zA_fr hk_1014.fr t_1005 (ex3 (gQ_12_1217 hO_988.1 t_1005)) (by decide +kernel) (by decide +kernel)) (zA_fr hk_1014.fr t_1005 (ex3 (gQ_12_1237 hO_988.1 t_1005)) (by decide +kernel) (by decide +kernel)))
      have px_1111 : PwX S S_1042 x a1_z := PwX_cm px_1110 hO_1015.1 t_1035 (by omega) cx_1048 (zA_fr hk_1043.fr t_1035 (ex3 (gQ_12_1235 hO_1015.1 t_1035)) (by decide +kernel) (by decide +kernel)) (zA_fr hk_1043.fr t_1035 (ex3 (gQ_12_1236 hO_1015.1 t_1035)) (by decide +kernel) (by decide +kernel)) (pw5 (zA_fr hk_1043.fr t_1035 (ex3 (gQ_12_1214 hO_1015.1 t_1035)) (by decide +kernel) (by decide +kernel)) (zA_fr hk_1043.fr t_1035 (ex3 (gQ_12_1215 hO_1015.1 t_1035)) (by decide +kernel) (by decide +kernel)) (zA_fr hk_1043.fr t_1035 (ex3 (gQ_12_1216 hO_1015.1 t_1035)) (by decide +kernel) (by decide +kernel)) (zA_fr hk_1043.fr t_1035 (ex3 (gQ_12_1217 hO_1015.1 t_1035)) (by decide +kernel) (by decide +kernel)) (zA_fr hk_1043.fr t_1035 (ex3 (gQ_12_1237 hO_1015.1 t_1035)) (by decide +kernel) (by decide +kernel)))
      have wt_1112 : WsT S S_31 x Ev A A := WsT_f (WsT_rf S x Ev A) (by rw [eS_31]; rfl)
      have wt_1113 : WsT S S_923 x Ev A A := WsT_f wt_1112 (by rw [eS_923]; rfl)
      have wt_1114 : WsT S S_987 x Ev A A := WsT_f wt_1113 (by rw [eS_987]; rfl)
      have wt_1115 : WsT S S_1013 x Ev A A := WsT_f wt_1114 (hk_1014.fr.I' (g := 1246) (by decide +kernel) t_1005 rfl)
      have wt_1116 : WsT S S_1042 x Ev A A := WsT_f wt_1115 (hk_1043.fr.I' (g := 1246) (by decide +kernel) t_1035 rfl)
      have t_1117 : pI S_1042 1201 x = v_1 := hk_1043.fr.I' (by decide +kernel) t_1035 t_1028
      exact L_37 _ _ _ _  hw t_1049 hO_1044 mi_1045 (GR_eq zc_1054 hp_3) zm_1059 (PotW_of (B := pmk ((qb A) ++ [dn_1025]) (qe A) ((ql A).tail) (qst A) (0 : Int32) (qg A) (qpl A) (fuI (qsd A) dn_1025 1) (qsk A) (qws A) (qdr A) (qtk A + 1)) ((seaF_f (A := (wtk A (qtk A + 1))) (show ql A ≠ [] from fun z => by have e0 := congrArg List.length z; have e1 : ([] : List Nat).length = 0 := rfl; have := pw_7.1; omega) (show ¬ (qse (wtk A (qtk A + 1)) + 1).toInt < (efind Ev).toInt by have e2 : (qse A + 1).toInt = (v_914.toInt + 1) := (congrArg Int32.toInt (ev_921.trans (by rw [us_918]))).symm.trans z_922; show ¬ (qse A + 1).toInt < _; omega)).trans ((fetF_c (A := wse (wtk A (qtk A + 1)) 0) (hd_cons dn_1026)).trans (by rw [capL_y (show (qb (wse (wtk A (qtk A + 1)) 0)).length < 600 from cap_1062)]; show wse (wl (wb (wsd (wse (wtk A (qtk A + 1)) 0) (fuI (qsd A) dn_1025 1)) (qb A ++ [dn_1025])) (ql A).tail) (if (ql A).tail = [] then (0 : Int32) else 0) = _; rw [ite_s]; rfl))) rR_1061 rR_1064 rR_1066 zR_1071 zR_1075 gR_1090 zR_1080 zR_1085 kR_1106 pz_1095) px_1111 (WsT_q wt_1116 (show qws (seaF Ev (wtk A (qtk A + 1))) = qws A from sea_ws)) t_1117 (lv_sub hl [0, 1] rfl)
  · have z_b_1118 := trivial
    have k_1119 : rr_906.toInt = 0 := z_eq rfl ti_0 c_911
    refine lv_iconst (v := 0) X.1 X.2.1 dX12_tick_24 (by decide) ?_
    refine lv_goto (tgt := 36) X.1 X.2.1 dX12_tick_25 (by decide) ?_
    refine r_iast X hw h_902 rfl (by rw [h_903]; exact z_ix hz_a1 (by omega) (by omega)) dX12_tick_36 (fun H locs hw => ?_)
    obtain ⟨S_1120, eS_1120⟩ : ∃ T, T = sA S_31 q_900 (upd (pA S_31 q_900) (Int32.toNatClampNeg (a1)) (0)) := ⟨_, rfl⟩
    rw [← eS_1120] at hw
    have hO_1121 : Ok MTK S S_1120 := hO_32.sA eS_1120 h_902 (by decide +kernel) (uA_494 hO_32.1 h_902)
    have h_1122 : pA S_1120 q_900 (Int32.toNatClampNeg (a1)) = 0 := tA_sAs eS_1120
    have t_1123 : pR S_1120 1214 x = some q_900 := tR_sA eS_1120 h_901
    have t_1125 : pR S_31 1214 x = some q_900 := by have h := t_1123; rw [eS_1120, pR_sA] at h; exact h
    have zs_1124 : ∀ j, zA S_1120 x 1214 j = if j = (a1_z).toNat then 0 else zA S_31 x 1214 j := by have h := zA_sAs eS_1120 t_1125 ti_0; rw [z_nc hz_a1 (by omega)] at h; exact h
    refine lv_aload_n X.1 X.2.1 dX12_tick_37 rfl (lv_at hl 0 rfl) ?_
    refine lv_iload_n X.1 X.2.1 dX12_tick_38 rfl (lv_at hl 1 rfl) ?_
    refine lv_iconst (v := 2) X.1 X.2.1 dX12_tick_39 (by decide) ?_
    have rR_1126 : RowR S_1120 x (3 * a1_z + 2).toNat (ql A) := RowR_eq rR_904 (zA_sAn eS_1120 (ex3 (gQ_12_1218 hO_32.1 t_899)) h_902 rfl) (zA_sAn eS_1120 (ex3 (gQ_12_1219 hO_32.1 t_899)) h_902 rfl)
    have ln_1127 : zA S_1120 x 1219 (3 * a1_z + 2).toNat = (((ql A)).length : Int) := rR_1126.1
    have t_1128 : At S_1120 x 12 := tAt_sA eS_1120 t_899
    refine k_i (rm := { frames := 1, cells := 0, slots := 0, locals := 48 }) (av := [.ref x, .int (a1), .int 2]) X hw (va_runV (As := [.int (a1), .int 2]) (rest := []) (cfix X) (k_X12_many2 l G cy κ S_1120 _ x (a1) (a1_z) (2) (2) hO_1121.1 t_1128 hz_a1 ti_2 (by first | assumption | omega) (by first | assumption | omega) (by first | assumption | omega) (by first | assumption | omega)) (cwV 2 X.2.2.2.1 gX12_tick_X12_many rfl rfl rfl (by decide +kernel) ⟨Nat.le_of_ble_eq_true rfl, Nat.le_of_ble_eq_true rfl⟩) (pre_V X hw _ t_1128 rfl (by decide) rfl) rfl rfl hl.1 rfl (lv_room (Nat.le_of_ble_eq_true rfl)) dX12_tick_40 ⟨Nat.le_of_ble_eq_true rfl, Nat.le_of_ble_eq_true rfl⟩) 0 0 (Nat.le_of_ble_eq_true rfl) (Nat.le_of_ble_eq_true rfl) (fun rr_1129 S_1130 H locs hp hw hfr hnw => ?_)
    obtain ⟨e2, hp⟩ := hp
    subst e2
    obtain ⟨f_1131, f_1132, f_1133⟩ := hp
    refine lv_if_le (tgt := 87) X.1 X.2.1 dX12_tick_43 (by decide) (fun c_1134 => ?_) (fun c_1134 => ?_)
    rotate_left
    · exfalso
      have k_1135 : rr_1129.toInt > 0 := z_nle rfl ti_0 c_1134
      omega
    have k_1136 : rr_1129.toInt ≤ 0 := z_le rfl ti_0 c_1134
    have mi_1137 : MIe S_31 x (-1) := MIe_sA hp_2 hO.1 ha_x h_23 eS_31 (by decide +kernel)
    have mi_1138 : MIe S_1120 x (-1) := MIe_sA mi_1137 hO_32.1 t_899 h_902 eS_1120 (by decide +kernel)
    have zc_1139 : zA S_31 x 1237 = zA S x 1237 := zA_sAn eS_31 (ex3 (gQ_12_1237 hO.1 ha_x)) h_23 rfl
    have zc_1140 : zA S_1120 x 1237 = zA S x 1237 := (zA_sAn eS_1120 (ex3 (gQ_12_1237 hO_32.1 t_899)) h_902 rfl).trans zc_1139
    have zm_1141 : ZM S S_31 x := ZM_eq hzm0 (zA_sAn eS_31 (ex3 (gQ_12_1207 hO.1 ha_x)) h_23 rfl)
    have zm_1142 : ZM S S_1120 x := ZM_eq zm_1141 (zA_sAn eS_1120 (ex3 (gQ_12_1207 hO_32.1 t_899)) h_902 rfl)
    have rR_1143 : RowR S_31 x (3 * a1_z + 0).toNat (qb A) := RowR_eq pw_5 (zA_sAn eS_31 (ex3 (gQ_12_1218 hO.1 ha_x)) h_23 rfl) (zA_sAn eS_31 (ex3 (gQ_12_1219 hO.1 ha_x)) h_23 rfl)
    have rR_1144 : RowR S_1120 x (3 * a1_z + 0).toNat (qb A) := RowR_eq rR_1143 (zA_sAn eS_1120 (ex3 (gQ_12_1218 hO_32.1 t_899)) h_902 rfl) (zA_sAn eS_1120 (ex3 (gQ_12_1219 hO_32.1 t_899)) h_902 rfl)
    have rR_1145 : RowR S_31 x (3 * a1_z + 1).toNat (qe A) := RowR_eq pw_6 (zA_sAn eS_31 (ex3 (gQ_12_1218 hO.1 ha_x)) h_23 rfl) (zA_sAn eS_31 (ex3 (gQ_12_1219 hO.1 ha_x)) h_23 rfl)
    have rR_1146 : RowR S_1120 x (3 * a1_z + 1).toNat (qe A) := RowR_eq rR_1145 (zA_sAn eS_1120 (ex3 (gQ_12_1218 hO_32.1 t_899)) h_902 rfl) (zA_sAn eS_1120 (ex3 (gQ_12_1219 hO_32.1 t_899)) h_902 rfl)
    have zR_1147 : zA S_31 x 1215 a1_z.toNat = ((qst A)).toInt := (congrFun (zA_sAn eS_31 (ex3 (gQ_12_1215 hO.1 ha_x)) h_23 rfl) _).trans pw_8
    have zR_1148 : zA S_1120 x 1215 a1_z.toNat = ((qst A)).toInt := (congrFun (zA_sAn eS_1120 (ex3 (gQ_12_1215 hO_32.1 t_899)) h_902 rfl) _).trans zR_1147
    have zR_1149 : zA S_31 x 1214 a1_z.toNat = ((qse A)).toInt := (congrFun (zA_sAn eS_31 (ex3 (gQ_12_1214 hO.1 ha_x)) h_23 rfl) _).trans pw_9
    have zR_1150 : zA S_1120 x 1214 a1_z.toNat = ((0 : Int32)).toInt := (by rw [zs_1124, if_pos (by omega)]; decide)
    have zR_1151 : zA S_31 x 1216 a1_z.toNat = ((qdr A)).toInt := (congrFun (zA_sAn eS_31 (ex3 (gQ_12_1216 hO.1 ha_x)) h_23 rfl) _).trans pw_11
    have zR_1152 : zA S_1120 x 1216 a1_z.toNat = ((qdr A)).toInt := (congrFun (zA_sAn eS_1120 (ex3 (gQ_12_1216 hO_32.1 t_899)) h_902 rfl) _).trans zR_1151
    have zR_1153 : zA S_31 x 1217 a1_z.toNat = ((qtk A + 1)).toInt := (by rw [zs_35, if_pos (by omega)]; exact (congrArg Int32.toInt (ev_29.trans (by rw [us_28]))))
    have zR_1154 : zA S_1120 x 1217 a1_z.toNat = ((qtk A + 1)).toInt := (congrFun (zA_sAn eS_1120 (ex3 (gQ_12_1217 hO_32.1 t_899)) h_902 rfl) _).trans zR_1153
    have gR_1155 : GrW S_31 x a1_z.toNat (qg A) := GrW_eq (zA_sAn eS_31 (ex3 (gQ_12_1235 hO.1 ha_x)) h_23 rfl) (zA_sAn eS_31 (ex3 (gQ_12_1236 hO.1 ha_x)) h_23 rfl) (congrFun (zA_sAn eS_31 (ex3 (gQ_12_1237 hO.1 ha_x)) h_23 rfl) _) pw_10
    have gR_1156 : GrW S_1120 x a1_z.toNat (qg A) := GrW_eq (zA_sAn eS_1120 (ex3 (gQ_12_1235 hO_32.1 t_899)) h_902 rfl) (zA_sAn eS_1120 (ex3 (gQ_12_1236 hO_32.1 t_899)) h_902 rfl) (congrFun (zA_sAn eS_1120 (ex3 (gQ_12_1237 hO_32.1 t_899)) h_902 rfl) _) gR_1155
    have pz_1157 : PlZ S_31 x (qpl A) (qsd A) := PlZ_eq pw_14 (zA_sAn eS_31 (ex3 (gQ_12_1208 hO.1 ha_x)) h_23 rfl) (zA_sAn eS_31 (ex3 (gQ_12_1207 hO.1 ha_x)) h_23 rfl)
    have pz_1158 : PlZ S_1120 x (qpl A) (qsd A) := PlZ_eq pz_1157 (zA_sAn eS_1120 (ex3 (gQ_12_1208 hO_32.1 t_899)) h_902 rfl) (zA_sAn eS_1120 (ex3 (gQ_12_1207 hO_32.1 t_899)) h_902 rfl)
    have t_1159 : pI S_31 1238 x = v_15 := tI_sA eS_31 ev_15
    have t_1160 : pI S_1120 1238 x = v_15 := tI_sA eS_1120 t_1159
    have pz_1161 : (pI S_1120 1238 x).toInt = v_15.toInt := (congrArg Int32.toInt t_1160).trans rfl
    have kR_1162 : SkW S_31 x (qsk A) := SkW_n (by rw [eS_31]; rfl) ⟨zA_sAn eS_31 (ex3 (gQ_12_1235 hO.1 ha_x)) h_23 rfl, zA_sAn eS_31 (ex3 (gQ_12_1236 hO.1 ha_x)) h_23 rfl, zA_sAn eS_31 (ex3 (gQ_12_1239 hO.1 ha_x)) h_23 rfl, zA_sAn eS_31 (ex3 (gQ_12_1240 hO.1 ha_x)) h_23 rfl, zA_sAn eS_31 (ex3 (gQ_12_1241 hO.1 ha_x)) h_23 rfl, zA_sAn eS_31 (ex3 (gQ_12_1242 hO.1 ha_x)) h_23 rfl⟩ pw_13
    have kR_1163 : SkW S_1120 x (qsk A) := SkW_n (by rw [eS_1120]; rfl) ⟨zA_sAn eS_1120 (ex3 (gQ_12_1235 hO_32.1 t_899)) h_902 rfl, zA_sAn eS_1120 (ex3 (gQ_12_1236 hO_32.1 t_899)) h_902 rfl, zA_sAn eS_1120 (ex3 (gQ_12_1239 hO_32.1 t_899)) h_902 rfl, zA_sAn eS_1120 (ex3 (gQ_12_1240 hO_32.1 t_899)) h_902 rfl, zA_sAn eS_1120 (ex3 (gQ_12_1241 hO_32.1 t_899)) h_902 rfl, zA_sAn eS_1120 (ex3 (gQ_12_1242 hO_32.1 t_899)) h_902 rfl⟩ kR_1162
    have px_1164 : PwX S S_31 x a1_z := PwX_z (PwX_rf S x a1_z) (zA_sAn eS_31 (ex3 (gQ_12_1218 hO.1 ha_x)) h_23 rfl) (zA_sAn eS_31 (ex3 (gQ_12_1219 hO.1 ha_x)) h_23 rfl) (zA_sAn eS_31 (ex3 (gQ_12_1235 hO.1 ha_x)) h_23 rfl) (zA_sAn eS_31 (ex3 (gQ_12_1236 hO.1 ha_x)) h_23 rfl) zs_35 (by omega) (pw4 (fun _ => zA_sAn eS_31 (ex3 (gQ_12_1214 hO.1 ha_x)) h_23 rfl) (fun _ => zA_sAn eS_31 (ex3 (gQ_12_1215 hO.1 ha_x)) h_23 rfl) (fun _ => zA_sAn eS_31 (ex3 (gQ_12_1216 hO.1 ha_x)) h_23 rfl) (fun h => absurd rfl h) (fun _ => zA_sAn eS_31 (ex3 (gQ_12_1237 hO.1 ha_x)) h_23 rfl))
    have px_1165 : PwX S S_1120 x a1_z := PwX_z px_1164 (zA_sAn eS_1120 (ex3 (gQ_12_1218 hO_32.1 t_899)) h_902 rfl) (zA_sAn eS_1120 (ex3 (gQ_12_1219 hO_32.1 t_899)) h_902 rfl) (zA_sAn eS_1120 (ex3 (gQ_12_1235 hO_32.1 t_899)) h_902 rfl) (zA_sAn eS_1120 (ex3 (gQ_12_1236 hO_32.1 t_899)) h_902 rfl) zs_1124 (by omega) (pw4 (fun h => absurd rfl h) (fun _ => zA_sAn eS_1120 (ex3 (gQ_12_1215 hO_32.1 t_899)) h_902 rfl) (fun _ => zA_sAn eS_1120 (ex3 (gQ_12_1216 hO_32.1 t_899)) h_902 rfl) (fun _ => zA_sAn eS_1120 (ex3 (gQ_12_1217 hO_32.1 t_899)) h_902 rfl) (fun _ => zA_sAn eS_1120 (ex3 (gQ_12_1237 hO_32.1 t_899)) h_902 rfl))
    have wt_1166 : WsT S S_31 x Ev A A := WsT_f (WsT_rf S x Ev A) (by rw [eS_31]; rfl)
    have wt_1167 : WsT S S_1120 x Ev A A := WsT_f wt_1166 (by rw [eS_1120]; rfl)
    have t_1168 : pI S_1120 1201 x = v_1 := tI_sA eS_1120 t_46
    exact L_37 _ _ _ _  hw t_1128 hO_1121 mi_1138 (GR_eq zc_1140 hp_3) zm_1142 (PotW_of ((seaF_n (A := (wtk A (qtk A + 1))) (show ql A = [] from List.eq_nil_of_length_eq_zero (by have := pw_7.1; omega))).trans (wse_id (A := (wtk A (qtk A + 1))) (hp_7.1 (show ql A = [] from List.eq_nil_of_length_eq_zero (by have := pw_7.1; omega)))).symm) rR_1144 rR_1146 rR_1126 zR_1148 zR_1150 gR_1156 zR_1152 zR_1154 kR_1163 pz_1158) px_1165 (WsT_q wt_1167 (show qws (seaF Ev (wtk A (qtk A + 1))) = qws A from sea_ws)) t_1168 (lv_sub hl [0, 1] rfl)
