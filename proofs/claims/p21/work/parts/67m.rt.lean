/-! ===== the reference's tick ===== -/
theorem wse_id {A : Pt} {v : Int32} (h : qse A = v) : wse A v = A := by
  subst h
  rfl
theorem er_app {L t : List Nat} {c : Nat} : (L ++ c :: t).eraseIdx L.length = L ++ t := by
  induction L with
  | nil => rfl
  | cons a s ih =>
    show a :: (s ++ c :: t).eraseIdx s.length = a :: (s ++ t)
    rw [ih]
theorem ix_app {L t : List Nat} {c : Nat} : (L ++ c :: t)[L.length]? = some c := by
  rw [List.getElem?_append_right (Nat.le_refl _), Nat.sub_self]
  rfl
theorem fol_s {E : En} {dn : List Nat} {c : Nat} {A : Pt} : folF E (dn ++ [c]) A = endK E (folF E dn A) c := by
  rw [folF_app]
  rfl
theorem dr_end {E : En} {A B : Pt} {dn rs : List Nat} (hA : qe B = dn ++ rs) (hr : rs = []) (h12 : (qe B).length ≤ 12) : we (folF E dn (we B [])) (qe (folF E dn (we B [])) ++ rs) = endsF E (qe B).length B := by
  subst hr
  rw [List.append_nil] at hA
  rw [← hA, ends_all h12, List.append_nil]
  rfl
theorem sdV_4 {E : En} {A : Pt} {c : Nat} (h : (elen E c).toInt ≤ (qpl A c + 1).toInt) : sdV E A c = 4 := if_pos h
theorem sdV_3 {E : En} {A : Pt} {c : Nat} (h : ¬ (elen E c).toInt ≤ (qpl A c + 1).toInt) (hb : ebr E c (qpl A c)) : sdV E A c = 3 := (if_neg h).trans (if_pos hb)
theorem sdV_s {E : En} {A : Pt} {c : Nat} (h : ¬ (elen E c).toInt ≤ (qpl A c + 1).toInt) (hb : ¬ ebr E c (qpl A c)) : sdV E A c = qsd A c := (if_neg h).trans (if_neg hb)
theorem ite_s {α : Type} {p : Prop} [Decidable p] {a : α} : (if p then a else a) = a := by
  split <;> rfl
theorem capG_l {g : List Mt} {m : Mt} (h : g.length < 300) : ((capG g m).length : Int) = (g.length : Int) + 1 := capG_y h
theorem qg_end {E : En} {A : Pt} {c : Nat} : qg (endK E A c) = qg A := by
  by_cases k2 : sdV E A c = 2
  · rw [endK_2 k2]; rfl
  · by_cases k3 : sdV E A c = 3
    · rw [endK_3 k3]; rfl
    · rw [endK_n k2 k3]; rfl
theorem PotW_sI {S T : PS} {x g a : Nat} {p : Int} {v : Int32} {A : Pt} (h : PotW S x p A) (e : T = sI S g a v) (hg : 1238 ≠ g) : PotW T x p A := by
  obtain ⟨h0, h1, h2, h3, h4, h5, h6, h7, h8, h9⟩ := h
  have z : ∀ k, zA T x k = zA S x k := fun k => zA_sI e
  refine ⟨RowR_eq h0 (z _) (z _), RowR_eq h1 (z _) (z _), RowR_eq h2 (z _) (z _), by rw [z]; exact h3, by rw [z]; exact h4, GrW_eq (z _) (z _) (by rw [z]) h5, by rw [z]; exact h6, by rw [z]; exact h7, ?_, PlZ_eq h9 (z _) (z _)⟩
  exact SkW_n (by rw [e, pI_sI_nf hg]) ⟨z _, z _, z _, z _, z _, z _⟩ h8
theorem PlZ_st {S : PS} {x d : Nat} {v : Int32} {pl sd : Nat → Int32} (h : PlZ S x pl sd) (e : v = sd d) : PlZ S x pl (fuI sd d v) := fun c hc => by
  refine ⟨(h c hc).1, ?_⟩
  unfold fuI
  by_cases z : c = d
  · rw [if_pos z, e, ← z]; exact (h c hc).2
  · rw [if_neg z]; exact (h c hc).2

set_option maxHeartbeats 4000000 in
set_option maxRecDepth 100000 in
theorem k_X12_tick6 (l : Launch) (G : va_G) (cy : Nat → ClassId) (κ : Nat → Nat) (S : PS) (sz : Nat) (x : Nat) (a1 : Int32) (a1_z : Int) (A : Pt) (Ev : En) (Rl : List Ru) (hG : GX S) (ha_x : At S x 12) (hz_a1 : a1.toInt = a1_z) (hp_0 : 0 ≤ a1_z) (hp_1 : a1_z ≤ 3) (hp_2 : MI S x) (hp_3 : GR S x) (hp_4 : PotW S x a1_z A) (hp_5 : EnR S x a1_z Ev) (hp_6 : RuR S x a1_z Rl) (hp_7 : IvQ (efind Ev).toInt A) (hp_8 : 1 ≤ (efind Ev).toInt) : Ci l yX12_tick wsX12_tick ({ frames := 8, cells := 0, slots := 0, locals := 384 }) G cy κ S sz [.ref x, .int (a1)] (fun (r : Int32) (S9 : PS) => Ok MTK S S9 ∧ (((MI S9 x ∧ GR S9 x ∧ ZM S S9 x ∧ PotW S9 x a1_z (ticF Ev Rl A).1 ∧ PwX S S9 x a1_z ∧ (ticF Ev Rl A).2) ∧ r = 1) ∨ ((MI S9 x ∧ GR S9 x ∧ ZM S S9 x ∧ PotW S9 x a1_z (ticF Ev Rl A).1 ∧ PwX S S9 x a1_z ∧ ¬ (ticF Ev Rl A).2) ∧ r = 0))) := by
  refine ent_m (cc := cX12_tick) (maxL := 6) (ret := (some .boolean)) (by decide) rfl (Nat.le_of_ble_eq_true rfl) ?_
  intro p e s m below meth c ls X hr hlocks hin hw hl hsz
  subst hsz
  have X : Cx p c cX12_tick 6 s [.ref x, .int (a1)].toArray wsX12_tick RX12 m G cy κ (AS S s.heap.size) := X
  have hl : lv_has ls 6 [(0, .ref x), (1, .int (a1))] := hl
  have rg_a1 : (-2147483648) ≤ a1_z ∧ a1_z ≤ 2147483647 := by rw [← hz_a1]; exact ⟨z_lo _, z_hi _⟩
  have hO : Ok MTK S S := Ok.rf hG
  generalize hQQ : MQ below _ _ _ _ _ _ = QQ
  replace hQQ := hQQ.symm
  obtain ⟨v_1, ev_1⟩ : ∃ v, pI S 1201 x = v := ⟨_, rfl⟩
  have rg_2 := gI_12_1201 hO.1 ha_x; rw [ev_1] at rg_2
  have pz_3 : (pI S 1201 x).toInt = v_1.toInt := by rw [ev_1]
  have pz_4 : (pI S 1201 x).toInt = v_1.toInt := (congrArg Int32.toInt ev_1).trans rfl
  have hzm0 : ZM S S x := ZM_rf S x
  have hpw := hp_4
  obtain ⟨pw_5, pw_6, pw_7, pw_8, pw_9, pw_10, pw_11, pw_12, pw_13, pw_14⟩ := hpw
  obtain ⟨v_15, ev_15⟩ : ∃ v, pI S 1238 x = v := ⟨_, rfl⟩
  have rg_16 := gI_12_1238 hO.1 ha_x; rw [ev_15] at rg_16
  have pz_17 : (pI S 1238 x).toInt = v_15.toInt := by rw [ev_15]
  have pz_18 : (pI S 1238 x).toInt = v_15.toInt := (congrArg Int32.toInt ev_15).trans rfl
  have sl_19 := pw_10.1
  have sl_20 := pw_13.1
  refine lv_aload_n X.1 X.2.1 dX12_tick_0 rfl (lv_at hl 0 rfl) ?_
  obtain ⟨q_21, h_22, h_23, h_24⟩ := gQ_12_1217 hO.1 ha_x
  refine r_getR (g := 1217) X hw ha_x rfl 17 h_22 (by decide) rfl inn_X12_tick_12 (by decide) (X.2.2.2.1 (.fieldLink RX12 52 "SilkMillModel" "ticksEver" "[I") (by decide +kernel)) rfl (gv_1217 _ _) dX12_tick_1 ?_
  refine lv_iload_n X.1 X.2.1 dX12_tick_4 rfl (lv_at hl 1 rfl) ?_
  refine lv_dup2_11 X.1 X.2.1 dX12_tick_5 rfl rfl ?_
  refine r_iald X hw h_23 rfl (by rw [h_24]; exact z_ix hz_a1 (by omega) (by omega)) dX12_tick_6 ?_
  refine lv_topi (fun v_25 ev_25 => ?_)
  have rg_26 := And.intro (z_lo v_25) (z_hi v_25)
  have ev_25 := ev_25.symm
  have zf_27 : zA S x 1217 (a1_z).toNat = v_25.toInt := (zA_of h_22 hz_a1 (by omega) ev_25)
  have us_28 : v_25 = (qtk A) := Int32.toInt_inj.mp (rfl.trans (zf_27.symm.trans pw_12))
  refine lv_iconst (v := 1) X.1 X.2.1 dX12_tick_7 (by decide) ?_
  refine lv_iadd X.1 X.2.1 dX12_tick_8 ?_
  refine lv_topi (fun v_29 ev_29 => ?_)
  have rg_30 := And.intro (z_lo v_29) (z_hi v_29)
  refine r_iast X hw h_23 rfl (by rw [h_24]; exact z_ix hz_a1 (by omega) (by omega)) dX12_tick_9 (fun H locs hw => ?_)
  obtain ⟨S_31, eS_31⟩ : ∃ T, T = sA S q_21 (upd (pA S q_21) (Int32.toNatClampNeg (a1)) (v_29)) := ⟨_, rfl⟩
  rw [← eS_31] at hw
  have hO_32 : Ok MTK S S_31 := hO.sA eS_31 h_23 (by decide +kernel) (uA_554 hO.1 h_23)
  have h_33 : pA S_31 q_21 (Int32.toNatClampNeg (a1)) = v_29 := tA_sAs eS_31
  have t_34 : pR S_31 1217 x = some q_21 := tR_sA eS_31 h_22
  have t_36 : pR S 1217 x = some q_21 := by have h := t_34; rw [eS_31, pR_sA] at h; exact h
  have zs_35 : ∀ j, zA S_31 x 1217 j = if j = (a1_z).toNat then v_29.toInt else zA S x 1217 j := by have h := zA_sAs eS_31 t_36 rfl; rw [z_nc hz_a1 (by omega)] at h; exact h
  have t_45 : pI S_31 1201 x = v_1 := tI_sA eS_31 ev_1
  have L_37 : ∀ (T_38 : PS) (H : Heap) (locs : List Loc) (ls : Array Slot) , (Wd G cy (AS S s.heap.size) s.heap T_38 H locs) → (At T_38 x 12) → (Ok MTK S T_38) → (MIe T_38 x (-1)) → (GR T_38 x) → (ZM S T_38 x) → (PotW T_38 x a1_z (seaF Ev (wtk A (qtk A + 1)))) → (PwX S T_38 x a1_z) → (pI T_38 1201 x = v_1) → (lv_has ls 6 [(0, .ref x), (1, .int (a1))]) → W p l e ({ frames := 8, cells := 0, slots := 0, locals := 384 }) s m [.ref x, .int (a1)].toArray below meth c H locs 0 0 QQ (F0 m 87 ls []) := by
    intro T_38 H locs ls  hw ha_x_L_39 hO_T_38 mk_40 iv_41 iv_42 iv_43 iv_44 ik_46 hl
    have pz_47 : (pI T_38 1201 x).toInt = v_1.toInt := (congrArg Int32.toInt ik_46).trans rfl
    have hpw_48 := iv_43
    obtain ⟨pw_49, pw_50, pw_51, pw_52, pw_53, pw_54, pw_55, pw_56, pw_57, pw_58⟩ := hpw_48
    obtain ⟨v_59, ev_59⟩ : ∃ v, pI T_38 1238 x = v := ⟨_, rfl⟩
    have rg_60 := gI_12_1238 hO_T_38.1 ha_x_L_39; rw [ev_59] at rg_60
    have pz_61 : (pI T_38 1238 x).toInt = v_59.toInt := by rw [ev_59]
    have pz_62 : (pI T_38 1238 x).toInt = v_59.toInt := (congrArg Int32.toInt ev_59).trans rfl
    have sl_63 := pw_54.1
    have sl_64 := pw_57.1
    refine lv_aload_n X.1 X.2.1 dX12_tick_87 rfl (lv_at hl 0 rfl) ?_
    have L_65 : ∀ (T_66 : PS) (H : Heap) (locs : List Loc) (ls : Array Slot) , (Wd G cy (AS S s.heap.size) s.heap T_66 H locs) → (At T_66 x 12) → (Ok MTK S T_66) → (MIe T_66 x (-1)) → (GR T_66 x) → (ZM S T_66 x) → (PotW T_66 x a1_z (ticB Ev Rl A)) → (PwX S T_66 x a1_z) → (pI T_66 1201 x = v_1) → (lv_has ls 6 [(0, .ref x), (1, .int (a1))]) → W p l e ({ frames := 8, cells := 0, slots := 0, locals := 384 }) s m [.ref x, .int (a1)].toArray below meth c H locs 0 0 QQ (F0 m 137 ls []) := by
      intro T_66 H locs ls  hw ha_x_L_67 hO_T_66 mk_68 iv_69 iv_70 iv_71 iv_72 ik_73 hl
      have pz_74 : (pI T_66 1201 x).toInt = v_1.toInt := (congrArg Int32.toInt ik_73).trans rfl
      have hpw_75 := iv_71
      obtain ⟨pw_76, pw_77, pw_78, pw_79, pw_80, pw_81, pw_82, pw_83, pw_84, pw_85⟩ := hpw_75
      obtain ⟨v_86, ev_86⟩ : ∃ v, pI T_66 1238 x = v := ⟨_, rfl⟩
      have rg_87 := gI_12_1238 hO_T_66.1 ha_x_L_67; rw [ev_86] at rg_87
      have pz_88 : (pI T_66 1238 x).toInt = v_86.toInt := by rw [ev_86]
      have pz_89 : (pI T_66 1238 x).toInt = v_86.toInt := (congrArg Int32.toInt ev_86).trans rfl
      have sl_90 := pw_81.1
      have sl_91 := pw_84.1
      refine lv_aload_n X.1 X.2.1 dX12_tick_137 rfl (lv_at hl 0 rfl) ?_
      obtain ⟨q_92, h_93, h_94, h_95⟩ := gQ_12_1215 hO_T_66.1 ha_x_L_67
      refine r_getR (g := 1215) X hw ha_x_L_67 rfl 15 h_93 (by decide) rfl inn_X12_tick_12 (by decide) (X.2.2.2.1 (.fieldLink RX12 46 "SilkMillModel" "stop" "[I") (by decide +kernel)) rfl (gv_1215 _ _) dX12_tick_138 ?_
      refine lv_iload_n X.1 X.2.1 dX12_tick_141 rfl (lv_at hl 1 rfl) ?_
      refine r_iald X hw h_94 rfl (by rw [h_95]; exact z_ix hz_a1 (by omega) (by omega)) dX12_tick_142 ?_
      refine lv_topi (fun v_96 ev_96 => ?_)
      have rg_97 := And.intro (z_lo v_96) (z_hi v_96)
      have ev_96 := ev_96.symm
      have zf_98 : zA T_66 x 1215 (a1_z).toNat = v_96.toInt := (zA_of h_93 hz_a1 (by omega) ev_96)
      have us_99 : v_96 = (qst (ticB Ev Rl A)) := Int32.toInt_inj.mp (rfl.trans (zf_98.symm.trans pw_79))
      refine lv_if_le (tgt := 158) X.1 X.2.1 dX12_tick_143 (by decide) (fun c_100 => ?_) (fun c_100 => ?_)
      · have z_b_101 := trivial
        have k_102 : v_96.toInt ≤ 0 := z_le rfl ti_0 c_100
        refine lv_aload_n X.1 X.2.1 dX12_tick_158 rfl (lv_at hl 0 rfl) ?_
        refine lv_iload_n X.1 X.2.1 dX12_tick_159 rfl (lv_at hl 1 rfl) ?_
        refine lv_iconst (v := 1) X.1 X.2.1 dX12_tick_160 (by decide) ?_
        have ln_103 : zA T_66 x 1219 (3 * a1_z + 1).toNat = (((qe (ticB Ev Rl A))).length : Int) := pw_77.1
        refine k_i (rm := { frames := 1, cells := 0, slots := 0, locals := 48 }) (av := [.ref x, .int (a1), .int 1]) X hw (va_runV (As := [.int (a1), .int 1]) (rest := []) (cfix X) (k_X12_many2 l G cy κ T_66 _ x (a1) (a1_z) (1) (1) hO_T_66.1 ha_x_L_67 hz_a1 ti_1 (by first | assumption | omega) (by first | assumption | omega) (by first | assumption | omega) (by first | assumption | omega)) (cwV 2 X.2.2.2.1 gX12_tick_X12_many rfl rfl rfl (by decide +kernel) ⟨Nat.le_of_ble_eq_true rfl, Nat.le_of_ble_eq_true rfl⟩) (pre_V X hw _ ha_x_L_67 rfl (by decide) rfl) rfl rfl hl.1 rfl (lv_room (Nat.le_of_ble_eq_true rfl)) dX12_tick_161 ⟨Nat.le_of_ble_eq_true rfl, Nat.le_of_ble_eq_true rfl⟩) 0 0 (Nat.le_of_ble_eq_true rfl) (Nat.le_of_ble_eq_true rfl) (fun rr_104 S_105 H locs hp hw hfr hnw => ?_)
        obtain ⟨e2, hp⟩ := hp
        subst e2
        obtain ⟨f_106, f_107, f_108⟩ := hp
        refine lv_istore_n (lv' := [(2, .int (rr_104)), (0, .ref x), (1, .int (a1))]) X.1 X.2.1 dX12_tick_164 rfl hl (by decide) rfl (fun ls hl => ?_)
        refine lv_iload_n X.1 X.2.1 dX12_tick_165 rfl (lv_at hl 0 rfl) ?_
        refine lv_if_ne (tgt := 171) X.1 X.2.1 dX12_tick_166 (by decide) (fun c_109 => ?_) (fun c_109 => ?_)
        · have z_b_110 := trivial
          have k_111 : rr_104.toInt ≠ 0 := z_ne rfl ti_0 c_109
          have m4_112 := mk_68.2.2.2.1.1 a1_z.toNat (by omega); rw [show 3 * a1_z.toNat + 1 = (3 * a1_z + 1).toNat by omega] at m4_112
          have n12_113 : (qe (ticB Ev Rl A)).length ≤ 12 := by have := pw_77.1; omega
          have ne_114 : qe (ticB Ev Rl A) ≠ [] := fun z => by have e0 := congrArg List.length z; have e1 : ([] : List Nat).length = 0 := rfl; have := pw_77.1; omega
          refine lv_aload_n X.1 X.2.1 dX12_tick_171 rfl (lv_at hl 1 rfl) ?_
          refine lv_iload_n X.1 X.2.1 dX12_tick_172 rfl (lv_at hl 2 rfl) ?_
          refine k_i (rm := { frames := 1, cells := 0, slots := 0, locals := 48 }) (av := [.ref x, .int (a1)]) X hw (va_runV (As := [.int (a1)]) (rest := []) (cfix X) (k_X12_growing l G cy κ T_66 _ x (a1) (a1_z) hO_T_66.1 ha_x_L_67 hz_a1 (by first | assumption | omega) (by first | assumption | omega)) (cwV 1 X.2.2.2.1 gX12_tick_X12_growing rfl rfl rfl (by decide +kernel) ⟨Nat.le_of_ble_eq_true rfl, Nat.le_of_ble_eq_true rfl⟩) (pre_V X hw _ ha_x_L_67 rfl (by decide) rfl) rfl rfl hl.1 rfl (lv_room (Nat.le_of_ble_eq_true rfl)) dX12_tick_173 ⟨Nat.le_of_ble_eq_true rfl, Nat.le_of_ble_eq_true rfl⟩) 0 0 (Nat.le_of_ble_eq_true rfl) (Nat.le_of_ble_eq_true rfl) (fun rr_115 S_116 H locs hp hw hfr hnw => ?_)
          obtain ⟨e2, hp⟩ := hp
          subst e2
          have f_117 := hp
          refine lv_aload_n X.1 X.2.1 dX12_tick_176 rfl (lv_at hl 1 rfl) ?_
          obtain ⟨q_118, h_119, h_120, h_121⟩ := gQ_12_1237 hO_T_66.1 ha_x_L_67
          refine r_getR (g := 1237) X hw ha_x_L_67 rfl 37 h_119 (by decide) rfl inn_X12_tick_12 (by decide) (X.2.2.2.1 (.fieldLink RX12 97 "SilkMillModel" "grown" "[I") (by decide +kernel)) rfl (gv_1237 _ _) dX12_tick_177 ?_
          refine lv_iload_n X.1 X.2.1 dX12_tick_180 rfl (lv_at hl 2 rfl) ?_
          refine r_iald X hw h_120 rfl (by rw [h_121]; exact z_ix hz_a1 (by omega) (by omega)) dX12_tick_181 ?_
          refine lv_topi (fun v_122 ev_122 => ?_)
          have z_123 := gE_954 hO_T_66.1 h_120 (Int32.toNatClampNeg (a1)); rw [← ev_122] at z_123
          have ev_122 := ev_122.symm
          have zf_124 : zA T_66 x 1237 (a1_z).toNat = v_122.toInt := (zA_of h_119 hz_a1 (by omega) ev_122)
          have gl_125 := iv_69 (a1_z).toNat (by omega); rw [zf_124] at gl_125
          refine lv_iadd X.1 X.2.1 dX12_tick_182 ?_
          refine lv_topi (fun v_126 ev_126 => ?_)
          have z_127 : v_126.toInt = rr_115.toInt + v_122.toInt := z_add ev_126 rfl rfl (by omega) (by omega)
          refine lv_istore_n (lv' := [(3, .int (v_126)), (2, .int (rr_104)), (0, .ref x), (1, .int (a1))]) X.1 X.2.1 dX12_tick_183 rfl hl (by decide) rfl (fun ls hl => ?_)
          refine lv_aload_n X.1 X.2.1 dX12_tick_184 rfl (lv_at hl 2 rfl) ?_
          obtain ⟨q_128, h_129, h_130, h_131⟩ := gQ_12_1235 hO_T_66.1 ha_x_L_67
          refine r_getR (g := 1235) X hw ha_x_L_67 rfl 35 h_129 (by decide) rfl inn_X12_tick_12 (by decide) (X.2.2.2.1 (.fieldLink RX12 90 "SilkMillModel" "metreEnds" "[I") (by decide +kernel)) rfl (gv_1235 _ _) dX12_tick_185 ?_
          refine lv_iload_n X.1 X.2.1 dX12_tick_188 rfl (lv_at hl 0 rfl) ?_
          refine lv_iload_n X.1 X.2.1 dX12_tick_189 rfl (lv_at hl 1 rfl) ?_
          refine r_iast X hw h_130 rfl (by rw [h_131]; exact z_ix z_127 (by omega) (by omega)) dX12_tick_190 (fun H locs hw => ?_)
          obtain ⟨S_132, eS_132⟩ : ∃ T, T = sA T_66 q_128 (upd (pA T_66 q_128) (Int32.toNatClampNeg (v_126)) (rr_104)) := ⟨_, rfl⟩
          rw [← eS_132] at hw
          have hO_133 : Ok MTK S S_132 := hO_T_66.sA eS_132 h_130 (by decide +kernel) (uA_914 hO_T_66.1 h_130 (by omega) (by omega))
          have h_134 : pA S_132 q_128 (Int32.toNatClampNeg (v_126)) = rr_104 := tA_sAs eS_132
          have t_135 : pR S_132 1235 x = some q_128 := tR_sA eS_132 h_129
          have t_137 : pR T_66 1235 x = some q_128 := by have h := t_135; rw [eS_132, pR_sA] at h; exact h
          have zs_136 : ∀ j, zA S_132 x 1235 j = if j = ((rr_115.toInt + v_122.toInt)).toNat then rr_104.toInt else zA T_66 x 1235 j := by have h := zA_sAs eS_132 t_137 rfl; rw [z_nc z_127 (by omega)] at h; exact h
          have mt_138 : zA S_132 x 1235 ((rr_115.toInt + v_122.toInt)).toNat = rr_104.toInt := by rw [zs_136, if_pos rfl]
          refine lv_iconst (v := 0) X.1 X.2.1 dX12_tick_191 (by decide) ?_
          refine lv_istore (lv' := [(4, .int 0), (3, .int (v_126)), (2, .int (rr_104)), (0, .ref x), (1, .int (a1))]) X.1 X.2.1 dX12_tick_192 hl (by decide) rfl (fun ls hl => ?_)
          have zc_143 : zA S_132 x 1219 = zA T_66 x 1219 := zA_sAn eS_132 (ex3 (gQ_12_1219 hO_T_66.1 ha_x_L_67)) h_130 rfl
          have zc_145 : zA S_132 x 1237 = zA T_66 x 1237 := zA_sAn eS_132 (ex3 (gQ_12_1237 hO_T_66.1 ha_x_L_67)) h_130 rfl
          have t_154 : pI S_132 1201 x = v_1 := tI_sA eS_132 ik_73
          have L_139 : ∀ (n : Nat) (T_141 : PS) (H : Heap) (locs : List Loc) (ls : Array Slot) (i4_140 : Int32) (i4_140_z : Int), ((12 - i4_140_z).toNat = n) → (Wd G cy (AS S s.heap.size) s.heap T_141 H locs) → (i4_140.toInt = i4_140_z) → (0 ≤ i4_140_z ∧ i4_140_z ≤ 12) → (At T_141 x 12) → (Ok MTK S T_141) → (zA T_141 x 1219 = zA T_66 x 1219) → (zA T_141 x 1237 = zA T_66 x 1237) → (MIe T_141 x (-1)) → (ZM S T_141 x) → (PotW T_141 x a1_z (ticB Ev Rl A)) → (PwX S T_141 x a1_z) → (zA T_141 x 1235 ((rr_115.toInt + v_122.toInt)).toNat = rr_104.toInt) → (MtL T_141 x ((rr_115.toInt + v_122.toInt)) i4_140_z (qe (ticB Ev Rl A)) (qpl (ticB Ev Rl A))) → (i4_140_z ≤ rr_104.toInt) → (pI T_141 1201 x = v_1) → (lv_has ls 6 [(4, .int (i4_140)), (3, .int (v_126)), (2, .int (rr_104)), (0, .ref x), (1, .int (a1))]) → W p l e ({ frames := 8, cells := 0, slots := 0, locals := 384 }) s m [.ref x, .int (a1)].toArray below meth c H locs 0 0 QQ (F0 m 194 ls []) := by
            intro n
            induction n using Nat.strongRecOn with
            | ind n ih_L_139 =>
            intro T_141 H locs ls i4_140 i4_140_z hn hw hz_i4_140 hr_i4_140 ha_x_L_142 hO_T_141 zk_144 zk_146 mk_147 iv_148 iv_149 iv_150 iv_151 iv_152 iv_153 ik_155 hl
            have rg_156 : (-2147483648) ≤ i4_140_z ∧ i4_140_z ≤ 2147483647 := by rw [← hz_i4_140]; exact ⟨z_lo _, z_hi _⟩
            have pz_157 : (pI T_141 1201 x).toInt = v_1.toInt := (congrArg Int32.toInt ik_155).trans rfl
            have hpw_158 := iv_149
            obtain ⟨pw_159, pw_160, pw_161, pw_162, pw_163, pw_164, pw_165, pw_166, pw_167, pw_168⟩ := hpw_158
            obtain ⟨v_169, ev_169⟩ : ∃ v, pI T_141 1238 x = v := ⟨_, rfl⟩
            have rg_170 := gI_12_1238 hO_T_141.1 ha_x_L_142; rw [ev_169] at rg_170
            have pz_171 : (pI T_141 1238 x).toInt = v_169.toInt := by rw [ev_169]
            have pz_172 : (pI T_141 1238 x).toInt = v_169.toInt := (congrArg Int32.toInt ev_169).trans rfl
            have sl_173 := pw_164.1
            have sl_174 := pw_167.1
            refine lv_iload X.1 X.2.1 dX12_tick_194 (lv_at hl 0 rfl) ?_
            refine lv_iload_n X.1 X.2.1 dX12_tick_196 rfl (lv_at hl 2 rfl) ?_
            refine lv_icmp_ge (tgt := 244) X.1 X.2.1 dX12_tick_197 (by decide) (fun c_175 => ?_) (fun c_175 => ?_)
            · have z_b_176 := trivial
              have k_177 : i4_140_z ≥ rr_104.toInt := z_le rfl hz_i4_140 c_175
              refine lv_aload_n X.1 X.2.1 dX12_tick_244 rfl (lv_at hl 3 rfl) ?_
              obtain ⟨q_178, h_179, h_180, h_181⟩ := gQ_12_1237 hO_T_141.1 ha_x_L_142
              refine r_getR (g := 1237) X hw ha_x_L_142 rfl 37 h_179 (by decide) rfl inn_X12_tick_12 (by decide) (X.2.2.2.1 (.fieldLink RX12 97 "SilkMillModel" "grown" "[I") (by decide +kernel)) rfl (gv_1237 _ _) dX12_tick_245 ?_
              refine lv_iload_n X.1 X.2.1 dX12_tick_248 rfl (lv_at hl 4 rfl) ?_
              refine lv_dup2_11 X.1 X.2.1 dX12_tick_249 rfl rfl ?_
              refine r_iald X hw h_180 rfl (by rw [h_181]; exact z_ix hz_a1 (by omega) (by omega)) dX12_tick_250 ?_
              refine lv_topi (fun v_182 ev_182 => ?_)
              have z_183 := gE_954 hO_T_141.1 h_180 (Int32.toNatClampNeg (a1)); rw [← ev_182] at z_183
              have ev_182 := ev_182.symm
              have zf_184 : zA T_141 x 1237 (a1_z).toNat = v_182.toInt := (zA_of h_179 hz_a1 (by omega) ev_182)
              have gl_185 := (GR_eq zk_146 iv_69) (a1_z).toNat (by omega); rw [zf_184] at gl_185
              have zf_186 : zA T_141 x 1237 (a1_z).toNat = v_182.toInt := (zA_of h_179 hz_a1 (by omega) ev_182)
              have gl_187 : v_182.toInt = ((qg (ticB Ev Rl A)).length : Int) := by rw [← pw_164.1, ← zf_186, show a1_z.toNat = (a1_z).toNat by omega]
              refine lv_iconst (v := 1) X.1 X.2.1 dX12_tick_251 (by decide) ?_
              refine lv_iadd X.1 X.2.1 dX12_tick_252 ?_
              refine lv_topi (fun v_188 ev_188 => ?_)
              have z_189 : v_188.toInt = v_182.toInt + 1 := z_add ev_188 rfl ti_1 (by omega) (by omega)
              refine r_iast X hw h_180 rfl (by rw [h_181]; exact z_ix hz_a1 (by omega) (by omega)) dX12_tick_253 (fun H locs hw => ?_)
              obtain ⟨S_190, eS_190⟩ : ∃ T, T = sA T_141 q_178 (upd (pA T_141 q_178) (Int32.toNatClampNeg (a1)) (v_188)) := ⟨_, rfl⟩
              rw [← eS_190] at hw
              have hO_191 : Ok MTK S S_190 := hO_T_141.sA eS_190 h_180 (by decide +kernel) (uA_954 hO_T_141.1 h_180 (by omega) (by omega))
              have h_192 : pA S_190 q_178 (Int32.toNatClampNeg (a1)) = v_188 := tA_sAs eS_190
              have t_193 : pR S_190 1237 x = some q_178 := tR_sA eS_190 h_179
              have t_195 : pR T_141 1237 x = some q_178 := by have h := t_193; rw [eS_190, pR_sA] at h; exact h
              have zs_194 : ∀ j, zA S_190 x 1237 j = if j = (a1_z).toNat then (v_182.toInt + 1) else zA T_141 x 1237 j := by have h := zA_sAs eS_190 t_195 z_189; rw [z_nc hz_a1 (by omega)] at h; exact h
              have zs_196 : ∀ j, zA S_190 x 1237 j = if j = (a1_z).toNat then (v_182.toInt + 1) else zA T_66 x 1237 j := fun j => by rw [zs_194 j, zk_146]
              have gb_197 : GR T_141 x := (GR_eq zk_146 iv_69)
              have t_199 : pR T_141 1237 x = some q_178 := by have h := t_193; rw [eS_190, pR_sA] at h; exact h
              have zs_198 : ∀ j, zA S_190 x 1237 j = if j = (a1_z).toNat then (v_182.toInt + 1) else zA T_141 x 1237 j := by have h := zA_sAs eS_190 t_199 z_189; rw [z_nc hz_a1 (by omega)] at h; exact h
              have t_201 : pR T_141 1237 x = some q_178 := by have h := t_193; rw [eS_190, pR_sA] at h; exact h
              have zs_200 : ∀ j, zA S_190 x 1237 j = if j = (a1_z).toNat then (v_182.toInt + 1) else zA T_141 x 1237 j := by have h := zA_sAs eS_190 t_201 z_189; rw [z_nc hz_a1 (by omega)] at h; exact h
              refine lv_aload_n X.1 X.2.1 dX12_tick_254 rfl (lv_at hl 3 rfl) ?_
              have t_202 : At S_190 x 12 := tAt_sA eS_190 ha_x_L_142
              obtain ⟨q_203, h_204, h_205, h_206⟩ := gQ_12_1216 hO_191.1 t_202
              refine r_getR (g := 1216) X hw t_202 rfl 16 h_204 (by decide) rfl inn_X12_tick_12 (by decide) (X.2.2.2.1 (.fieldLink RX12 49 "SilkMillModel" "drawnEver" "[I") (by decide +kernel)) rfl (gv_1216 _ _) dX12_tick_255 ?_
              refine lv_iload_n X.1 X.2.1 dX12_tick_258 rfl (lv_at hl 4 rfl) ?_
              refine lv_dup2_11 X.1 X.2.1 dX12_tick_259 rfl rfl ?_
              refine r_iald X hw h_205 rfl (by rw [h_206]; exact z_ix hz_a1 (by omega) (by omega)) dX12_tick_260 ?_
              refine lv_topi (fun v_207 ev_207 => ?_)
              have rg_208 := And.intro (z_lo v_207) (z_hi v_207)
              have ev_207 := ev_207.symm
              have zR_209 : zA S_190 x 1216 a1_z.toNat = ((qdr (ticB Ev Rl A))).toInt := (congrFun (zA_sAn eS_190 (ex3 (gQ_12_1216 hO_T_141.1 ha_x_L_142)) h_180 rfl) _).trans pw_165
              have zf_210 : zA S_190 x 1216 (a1_z).toNat = v_207.toInt := (zA_of h_204 hz_a1 (by omega) ev_207)
              have us_211 : v_207 = (qdr (ticB Ev Rl A)) := Int32.toInt_inj.mp (rfl.trans (zf_210.symm.trans zR_209))
              refine lv_iconst (v := 1) X.1 X.2.1 dX12_tick_261 (by decide) ?_
              refine lv_iadd X.1 X.2.1 dX12_tick_262 ?_
              refine lv_topi (fun v_212 ev_212 => ?_)
              have rg_213 := And.intro (z_lo v_212) (z_hi v_212)
              refine r_iast X hw h_205 rfl (by rw [h_206]; exact z_ix hz_a1 (by omega) (by omega)) dX12_tick_263 (fun H locs hw => ?_)
              obtain ⟨S_214, eS_214⟩ : ∃ T, T = sA S_190 q_203 (upd (pA S_190 q_203) (Int32.toNatClampNeg (a1)) (v_212)) := ⟨_, rfl⟩
              rw [← eS_214] at hw
              have hO_215 : Ok MTK S S_214 := hO_191.sA eS_214 h_205 (by decide +kernel) (uA_534 hO_191.1 h_205)
              have h_216 : pA S_214 q_203 (Int32.toNatClampNeg (a1)) = v_212 := tA_sAs eS_214
              have t_217 : pR S_214 1216 x = some q_203 := tR_sA eS_214 h_204
              have t_219 : pR S_190 1216 x = some q_203 := by have h := t_217; rw [eS_214, pR_sA] at h; exact h
              have zs_218 : ∀ j, zA S_214 x 1216 j = if j = (a1_z).toNat then v_212.toInt else zA S_190 x 1216 j := by have h := zA_sAs eS_214 t_219 rfl; rw [z_nc hz_a1 (by omega)] at h; exact h
              refine lv_iconst (v := 0) X.1 X.2.1 dX12_tick_264 (by decide) ?_
              refine lv_istore (lv' := [(4, .int 0), (3, .int (v_126)), (2, .int (rr_104)), (0, .ref x), (1, .int (a1))]) X.1 X.2.1 dX12_tick_265 hl (by decide) rfl (fun ls hl => ?_)
              have zc_224 : zA S_214 x 1237 = zA S_190 x 1237 := zA_sAn eS_214 (ex3 (gQ_12_1237 hO_191.1 t_202)) h_205 rfl
              have t_230 : pI S_190 1201 x = v_1 := tI_sA eS_190 ik_155
              have t_231 : pI S_214 1201 x = v_1 := tI_sA eS_214 t_230
              have L_220 : ∀ (n : Nat) (T_222 : PS) (H : Heap) (locs : List Loc) (ls : Array Slot) (i4_221 : Int32) (i4_221_z : Int), ((zA T_222 x 1219 (3 * a1_z + 1).toNat - i4_221_z).toNat = n) → (Wd G cy (AS S s.heap.size) s.heap T_222 H locs) → (i4_221.toInt = i4_221_z) → (0 ≤ i4_221_z ∧ i4_221_z ≤ 600) → (At T_222 x 12) → (Ok MTK S T_222) → (zA T_222 x 1237 = zA S_190 x 1237) → (MIe T_222 x (-1)) → (ZM S T_222 x) → (∃ dn rs, qe (ticB Ev Rl A) = dn ++ rs ∧ PotW T_222 x a1_z (we (folF Ev dn (we (wdr (wg (ticB Ev Rl A) (capG (qg (ticB Ev Rl A)) ((qe (ticB Ev Rl A)).map (fun c => (c, qpl (ticB Ev Rl A) c))))) (qdr (ticB Ev Rl A) + 1)) [])) (qe (folF Ev dn (we (wdr (wg (ticB Ev Rl A) (capG (qg (ticB Ev Rl A)) ((qe (ticB Ev Rl A)).map (fun c => (c, qpl (ticB Ev Rl A) c))))) (qdr (ticB Ev Rl A) + 1)) [])) ++ rs)) ∧ i4_221_z = ((qe (folF Ev dn (we (wdr (wg (ticB Ev Rl A) (capG (qg (ticB Ev Rl A)) ((qe (ticB Ev Rl A)).map (fun c => (c, qpl (ticB Ev Rl A) c))))) (qdr (ticB Ev Rl A) + 1)) []))).length : Int)) → (PwX S T_222 x a1_z) → (pI T_222 1201 x = v_1) → (lv_has ls 6 [(4, .int (i4_221)), (3, .int (v_126)), (2, .int (rr_104)), (0, .ref x), (1, .int (a1))]) → W p l e ({ frames := 8, cells := 0, slots := 0, locals := 384 }) s m [.ref x, .int (a1)].toArray below meth c H locs 0 0 QQ (F0 m 267 ls []) := by
                intro n
                induction n using Nat.strongRecOn with
                | ind n ih_L_220 =>
                intro T_222 H locs ls i4_221 i4_221_z hn hw hz_i4_221 hr_i4_221 ha_x_L_223 hO_T_222 zk_225 mk_226 iv_227 iv_228 iv_229 ik_232 hl
                have rg_233 : (-2147483648) ≤ i4_221_z ∧ i4_221_z ≤ 2147483647 := by rw [← hz_i4_221]; exact ⟨z_lo _, z_hi _⟩
                have pz_234 : (pI T_222 1201 x).toInt = v_1.toInt := (congrArg Int32.toInt ik_232).trans rfl
                obtain ⟨dn_235, rs_236, ed_237, hpw_238, ek_239⟩ := iv_228
                have hpw_240 := hpw_238
                obtain ⟨pw_241, pw_242, pw_243, pw_244, pw_245, pw_246, pw_247, pw_248, pw_249, pw_250⟩ := hpw_240
                obtain ⟨v_251, ev_251⟩ : ∃ v, pI T_222 1238 x = v := ⟨_, rfl⟩
                have rg_252 := gI_12_1238 hO_T_222.1 ha_x_L_223; rw [ev_251] at rg_252
                have pz_253 : (pI T_222 1238 x).toInt = v_251.toInt := by rw [ev_251]
                have pz_254 : (pI T_222 1238 x).toInt = v_251.toInt := (congrArg Int32.toInt ev_251).trans rfl
                have sl_255 := pw_246.1
                have sl_256 := pw_249.1
                have fw_257 : RowR T_222 x (3 * a1_z + 0).toNat (qb (folF Ev dn_235 (we (wdr (wg (ticB Ev Rl A) (capG (qg (ticB Ev Rl A)) ((qe (ticB Ev Rl A)).map (fun c => (c, qpl (ticB Ev Rl A) c))))) (qdr (ticB Ev Rl A) + 1)) []))) := pw_241
                have fw_258 : RowR T_222 x (3 * a1_z + 1).toNat (qe (folF Ev dn_235 (we (wdr (wg (ticB Ev Rl A) (capG (qg (ticB Ev Rl A)) ((qe (ticB Ev Rl A)).map (fun c => (c, qpl (ticB Ev Rl A) c))))) (qdr (ticB Ev Rl A) + 1)) [])) ++ rs_236) := pw_242
                have fw_259 : RowR T_222 x (3 * a1_z + 2).toNat (ql (folF Ev dn_235 (we (wdr (wg (ticB Ev Rl A) (capG (qg (ticB Ev Rl A)) ((qe (ticB Ev Rl A)).map (fun c => (c, qpl (ticB Ev Rl A) c))))) (qdr (ticB Ev Rl A) + 1)) []))) := pw_243
                have lq_260 : ((qe (folF Ev dn_235 (we (wdr (wg (ticB Ev Rl A) (capG (qg (ticB Ev Rl A)) ((qe (ticB Ev Rl A)).map (fun c => (c, qpl (ticB Ev Rl A) c))))) (qdr (ticB Ev Rl A) + 1)) [])) ++ rs_236).length : Int) = ((qe (folF Ev dn_235 (we (wdr (wg (ticB Ev Rl A) (capG (qg (ticB Ev Rl A)) ((qe (ticB Ev Rl A)).map (fun c => (c, qpl (ticB Ev Rl A) c))))) (qdr (ticB Ev Rl A) + 1)) []))).length : Int) + (rs_236.length : Int) := by rw [List.length_append]; rfl
                have ln_261 : zA T_222 x 1219 (3 * a1_z + 1).toNat = (((qe (folF Ev dn_235 (we (wdr (wg (ticB Ev Rl A) (capG (qg (ticB Ev Rl A)) ((qe (ticB Ev Rl A)).map (fun c => (c, qpl (ticB Ev Rl A) c))))) (qdr (ticB Ev Rl A) + 1)) [])) ++ rs_236)).length : Int) := fw_258.1
                have ln_262 : zA T_222 x 1219 (3 * a1_z + 2).toNat = (((ql (folF Ev dn_235 (we (wdr (wg (ticB Ev Rl A) (capG (qg (ticB Ev Rl A)) ((qe (ticB Ev Rl A)).map (fun c => (c, qpl (ticB Ev Rl A) c))))) (qdr (ticB Ev Rl A) + 1)) [])))).length : Int) := fw_259.1
                have fw_263 : PlZ T_222 x (qpl (folF Ev dn_235 (we (wdr (wg (ticB Ev Rl A) (capG (qg (ticB Ev Rl A)) ((qe (ticB Ev Rl A)).map (fun c => (c, qpl (ticB Ev Rl A) c))))) (qdr (ticB Ev Rl A) + 1)) []))) (qsd (folF Ev dn_235 (we (wdr (wg (ticB Ev Rl A) (capG (qg (ticB Ev Rl A)) ((qe (ticB Ev Rl A)).map (fun c => (c, qpl (ticB Ev Rl A) c))))) (qdr (ticB Ev Rl A) + 1)) []))) := pw_250
                have fw_264 : zA T_222 x 1215 a1_z.toNat = (qst (folF Ev dn_235 (we (wdr (wg (ticB Ev Rl A) (capG (qg (ticB Ev Rl A)) ((qe (ticB Ev Rl A)).map (fun c => (c, qpl (ticB Ev Rl A) c))))) (qdr (ticB Ev Rl A) + 1)) []))).toInt := pw_244
                have fw_265 : zA T_222 x 1214 a1_z.toNat = (qse (folF Ev dn_235 (we (wdr (wg (ticB Ev Rl A) (capG (qg (ticB Ev Rl A)) ((qe (ticB Ev Rl A)).map (fun c => (c, qpl (ticB Ev Rl A) c))))) (qdr (ticB Ev Rl A) + 1)) []))).toInt := pw_245
                have fw_266 : zA T_222 x 1216 a1_z.toNat = (qdr (folF Ev dn_235 (we (wdr (wg (ticB Ev Rl A) (capG (qg (ticB Ev Rl A)) ((qe (ticB Ev Rl A)).map (fun c => (c, qpl (ticB Ev Rl A) c))))) (qdr (ticB Ev Rl A) + 1)) []))).toInt := pw_247
                have fw_267 : zA T_222 x 1217 a1_z.toNat = (qtk (folF Ev dn_235 (we (wdr (wg (ticB Ev Rl A) (capG (qg (ticB Ev Rl A)) ((qe (ticB Ev Rl A)).map (fun c => (c, qpl (ticB Ev Rl A) c))))) (qdr (ticB Ev Rl A) + 1)) []))).toInt := pw_248
                have fw_268 : GrW T_222 x a1_z.toNat (qg (folF Ev dn_235 (we (wdr (wg (ticB Ev Rl A) (capG (qg (ticB Ev Rl A)) ((qe (ticB Ev Rl A)).map (fun c => (c, qpl (ticB Ev Rl A) c))))) (qdr (ticB Ev Rl A) + 1)) []))) := pw_246
                have fw_269 : SkW T_222 x (qsk (folF Ev dn_235 (we (wdr (wg (ticB Ev Rl A) (capG (qg (ticB Ev Rl A)) ((qe (ticB Ev Rl A)).map (fun c => (c, qpl (ticB Ev Rl A) c))))) (qdr (ticB Ev Rl A) + 1)) []))) := pw_249
                have kq_270 : (pI T_222 1238 x).toInt = ((qsk (folF Ev dn_235 (we (wdr (wg (ticB Ev Rl A) (capG (qg (ticB Ev Rl A)) ((qe (ticB Ev Rl A)).map (fun c => (c, qpl (ticB Ev Rl A) c))))) (qdr (ticB Ev Rl A) + 1)) []))).length : Int) := pw_249.1
                have gq_271 : zA T_222 x 1237 a1_z.toNat = ((qg (folF Ev dn_235 (we (wdr (wg (ticB Ev Rl A) (capG (qg (ticB Ev Rl A)) ((qe (ticB Ev Rl A)).map (fun c => (c, qpl (ticB Ev Rl A) c))))) (qdr (ticB Ev Rl A) + 1)) []))).length : Int) := fw_268.1
                have en_272 : EnR T_222 x a1_z Ev := EnR_fr hG ha_x hO_T_222.fr (by decide +kernel) hp_5
                refine lv_iload X.1 X.2.1 dX12_tick_267 (lv_at hl 0 rfl) ?_
                refine lv_aload_n X.1 X.2.1 dX12_tick_269 rfl (lv_at hl 3 rfl) ?_
                refine lv_iload_n X.1 X.2.1 dX12_tick_270 rfl (lv_at hl 4 rfl) ?_
                refine lv_iconst (v := 1) X.1 X.2.1 dX12_tick_271 (by decide) ?_
                refine k_i (rm := { frames := 1, cells := 0, slots := 0, locals := 48 }) (av := [.ref x, .int (a1), .int 1]) X hw (va_runV (As := [.int (a1), .int 1]) (rest := [.int (i4_221)]) (cfix X) (k_X12_many2 l G cy κ T_222 _ x (a1) (a1_z) (1) (1) hO_T_222.1 ha_x_L_223 hz_a1 ti_1 (by first | assumption | omega) (by first | assumption | omega) (by first | assumption | omega) (by first | assumption | omega)) (cwV 2 X.2.2.2.1 gX12_tick_X12_many rfl rfl rfl (by decide +kernel) ⟨Nat.le_of_ble_eq_true rfl, Nat.le_of_ble_eq_true rfl⟩) (pre_V X hw _ ha_x_L_223 rfl (by decide) rfl) rfl rfl hl.1 rfl (lv_room (Nat.le_of_ble_eq_true rfl)) dX12_tick_272 ⟨Nat.le_of_ble_eq_true rfl, Nat.le_of_ble_eq_true rfl⟩) 0 0 (Nat.le_of_ble_eq_true rfl) (Nat.le_of_ble_eq_true rfl) (fun rr_273 S_274 H locs hp hw hfr hnw => ?_)
                obtain ⟨e2, hp⟩ := hp
                subst e2
                obtain ⟨f_275, f_276, f_277⟩ := hp
                refine lv_icmp_ge (tgt := 379) X.1 X.2.1 dX12_tick_275 (by decide) (fun c_278 => ?_) (fun c_278 => ?_)
                · have z_b_279 := trivial
                  have k_280 : i4_221_z ≥ rr_273.toInt := z_le rfl hz_i4_221 c_278
                  have rz_281 : rs_236 = [] := List.eq_nil_of_length_eq_zero (by omega)
                  have db_282 : drwB Ev (ticB Ev Rl A) = (we (folF Ev dn_235 (we (wdr (wg (ticB Ev Rl A) (capG (qg (ticB Ev Rl A)) ((qe (ticB Ev Rl A)).map (fun c => (c, qpl (ticB Ev Rl A) c))))) (qdr (ticB Ev Rl A) + 1)) [])) (qe (folF Ev dn_235 (we (wdr (wg (ticB Ev Rl A) (capG (qg (ticB Ev Rl A)) ((qe (ticB Ev Rl A)).map (fun c => (c, qpl (ticB Ev Rl A) c))))) (qdr (ticB Ev Rl A) + 1)) [])) ++ rs_236)) := (dr_end (A := A) (B := (wdr (wg (ticB Ev Rl A) (capG (qg (ticB Ev Rl A)) ((qe (ticB Ev Rl A)).map (fun c => (c, qpl (ticB Ev Rl A) c))))) (qdr (ticB Ev Rl A) + 1))) ed_237 rz_281 (show (qe (wdr (wg (ticB Ev Rl A) (capG (qg (ticB Ev Rl A)) ((qe (ticB Ev Rl A)).map (fun c => (c, qpl (ticB Ev Rl A) c))))) (qdr (ticB Ev Rl A) + 1))).length ≤ 12 from n12_113)).symm
                  have gl_283 := fw_268.1
                  refine lv_aload_n X.1 X.2.1 dX12_tick_379 rfl (lv_at hl 3 rfl) ?_
                  obtain ⟨q_284, h_285, h_286, h_287⟩ := gQ_12_1237 hO_T_222.1 ha_x_L_223
                  refine r_getR (g := 1237) X hw ha_x_L_223 rfl 37 h_285 (by decide) rfl inn_X12_tick_12 (by decide) (X.2.2.2.1 (.fieldLink RX12 97 "SilkMillModel" "grown" "[I") (by decide +kernel)) rfl (gv_1237 _ _) dX12_tick_380 ?_
                  refine lv_iload_n X.1 X.2.1 dX12_tick_383 rfl (lv_at hl 4 rfl) ?_
                  refine r_iald X hw h_286 rfl (by rw [h_287]; exact z_ix hz_a1 (by omega) (by omega)) dX12_tick_384 ?_
                  refine lv_topi (fun v_288 ev_288 => ?_)
                  have z_289 := gE_954 hO_T_222.1 h_286 (Int32.toNatClampNeg (a1)); rw [← ev_288] at z_289
                  have ev_288 := ev_288.symm
                  have zf_290 : zA T_222 x 1237 (a1_z).toNat = v_288.toInt := (zA_of h_285 hz_a1 (by omega) ev_288)
                  have zz_291 := congrFun zk_225 (a1_z).toNat
                  have zz_292 := zs_198 (a1_z).toNat; rw [if_pos rfl] at zz_292
                  refine lv_sipush (v := 300) X.1 X.2.1 dX12_tick_385 (by decide) ?_
                  refine lv_icmp_ne (tgt := 400) X.1 X.2.1 dX12_tick_388 (by decide) (fun c_293 => ?_) (fun c_293 => ?_)
                  · have z_b_294 := trivial
                    have k_295 : v_288.toInt ≠ 300 := z_ne rfl ti_300 c_293
                    refine lv_iconst (v := 1) X.1 X.2.1 dX12_tick_400 (by decide) ?_
                    have pz_296 : (pI T_222 1238 x).toInt = v_251.toInt := (congrArg Int32.toInt ev_251).trans rfl
                    rw [hQQ]
                    exact ret_z X hw hr hlocks (Nat.le_of_ble_eq_true rfl) (Nat.le_of_ble_eq_true rfl) (by decide) ⟨hO_T_222, Or.inl ⟨⟨mk_226, (GR_eq zk_225 (GR_set zs_198 (by omega) gb_197)), iv_227, PotW_of (show (ticF Ev Rl A).1 = (we (folF Ev dn_235 (we (wdr (wg (ticB Ev Rl A) (capG (qg (ticB Ev Rl A)) ((qe (ticB Ev Rl A)).map (fun c => (c, qpl (ticB Ev Rl A) c))))) (qdr (ticB Ev Rl A) + 1)) [])) (qe (folF Ev dn_235 (we (wdr (wg (ticB Ev Rl A) (capG (qg (ticB Ev Rl A)) ((qe (ticB Ev Rl A)).map (fun c => (c, qpl (ticB Ev Rl A) c))))) (qdr (ticB Ev Rl A) + 1)) [])) ++ rs_236)) by rw [ticF_d (show ¬ 0 < (qst (ticB Ev Rl A)).toInt by have e9 := congrArg Int32.toInt us_99; have e : (v_96 : Int32).toInt = v_96.toInt := rfl; omega) ne_114]; exact (drwF_n (by rw [db_282]; show ¬ 300 ≤ (qg (folF Ev dn_235 (we (wdr (wg (ticB Ev Rl A) (capG (qg (ticB Ev Rl A)) ((qe (ticB Ev Rl A)).map (fun c => (c, qpl (ticB Ev Rl A) c))))) (qdr (ticB Ev Rl A) + 1)) []))).length; omega)).trans db_282) fw_257 fw_258 fw_259 fw_264 fw_265 fw_268 fw_266 fw_267 fw_269 fw_263, iv_229, by rw [ticF_d (show ¬ 0 < (qst (ticB Ev Rl A)).toInt by have e9 := congrArg Int32.toInt us_99; have e : (v_96 : Int32).toInt = v_96.toInt := rfl; omega) ne_114]; exact trivial⟩, rfl⟩⟩ dX12_tick_401
                  · have z_b_297 := trivial
                    have k_298 : v_288.toInt = 300 := z_eq rfl ti_300 c_293
                    refine lv_aload_n X.1 X.2.1 dX12_tick_391 rfl (lv_at hl 3 rfl) ?_
                    refine lv_aload_n X.1 X.2.1 dX12_tick_392 rfl (lv_at hl 3 rfl) ?_
                    refine lv_iload_n X.1 X.2.1 dX12_tick_393 rfl (lv_at hl 4 rfl) ?_
                    have en_299 : EnR T_222 x a1_z Ev := EnR_fr hG ha_x hO_T_222.fr (by decide +kernel) hp_5
                    refine k_i (rm := { frames := 6, cells := 0, slots := 0, locals := 288 }) (av := [.ref x, .int (a1)]) X hw (va_runV (As := [.int (a1)]) (rest := [.ref x]) (cfix X) (k_X12_cuts5 l G cy κ T_222 _ x (a1) (a1_z) hO_T_222.1 ha_x_L_223 hz_a1 (by first | assumption | omega) (by first | assumption | omega) mk_226) (cwV 1 X.2.2.2.1 gX12_tick_X12_cuts rfl rfl rfl (by decide +kernel) ⟨Nat.le_of_ble_eq_true rfl, Nat.le_of_ble_eq_true rfl⟩) (pre_V X hw _ ha_x_L_223 rfl (by decide) rfl) rfl rfl hl.1 rfl (lv_room (Nat.le_of_ble_eq_true rfl)) dX12_tick_394 ⟨Nat.le_of_ble_eq_true rfl, Nat.le_of_ble_eq_true rfl⟩) 0 0 (Nat.le_of_ble_eq_true rfl) (Nat.le_of_ble_eq_true rfl) (fun rr_300 S_301 H locs hp hw hfr hnw => ?_)
                    obtain ⟨hk_302, hp⟩ := hp
                    have hO_303 : Ok MTK S S_301 := hO_T_222.call hk_302 (by decide +kernel)
                    obtain ⟨mi_304, cu_305, cc_306, cc_307, cc_308⟩ := hp
                    have rg_309 := And.intro (z_lo rr_300) (z_hi rr_300)
                    have f_311 : ∀ j, zA S_301 x 1237 j = if j = (a1_z).toNat then 0 else zA T_141 x 1237 j := fun j => by rw [cu_305 j, zk_225, zs_198 j]; split <;> rfl
                    have gr_310 : GR S_301 x := GR_set f_311 (by omega) gb_197
                    have rR_312 : RowR S_301 x (3 * a1_z + 0).toNat (qb (folF Ev dn_235 (we (wdr (wg (ticB Ev Rl A) (capG (qg (ticB Ev Rl A)) ((qe (ticB Ev Rl A)).map (fun c => (c, qpl (ticB Ev Rl A) c))))) (qdr (ticB Ev Rl A) + 1)) []))) := RowR_eq fw_257 (zA_fr hk_302.fr ha_x_L_223 (ex3 (gQ_12_1218 hO_T_222.1 ha_x_L_223)) (by decide +kernel) (by decide +kernel)) (zA_fr hk_302.fr ha_x_L_223 (ex3 (gQ_12_1219 hO_T_222.1 ha_x_L_223)) (by decide +kernel) (by decide +kernel))
                    have rR_313 : RowR S_301 x (3 * a1_z + 1).toNat (qe (folF Ev dn_235 (we (wdr (wg (ticB Ev Rl A) (capG (qg (ticB Ev Rl A)) ((qe (ticB Ev Rl A)).map (fun c => (c, qpl (ticB Ev Rl A) c))))) (qdr (ticB Ev Rl A) + 1)) [])) ++ rs_236) := RowR_eq fw_258 (zA_fr hk_302.fr ha_x_L_223 (ex3 (gQ_12_1218 hO_T_222.1 ha_x_L_223)) (by decide +kernel) (by decide +kernel)) (zA_fr hk_302.fr ha_x_L_223 (ex3 (gQ_12_1219 hO_T_222.1 ha_x_L_223)) (by decide +kernel) (by decide +kernel))
                    have rR_314 : RowR S_301 x (3 * a1_z + 2).toNat (ql (folF Ev dn_235 (we (wdr (wg (ticB Ev Rl A) (capG (qg (ticB Ev Rl A)) ((qe (ticB Ev Rl A)).map (fun c => (c, qpl (ticB Ev Rl A) c))))) (qdr (ticB Ev Rl A) + 1)) []))) := RowR_eq fw_259 (zA_fr hk_302.fr ha_x_L_223 (ex3 (gQ_12_1218 hO_T_222.1 ha_x_L_223)) (by decide +kernel) (by decide +kernel)) (zA_fr hk_302.fr ha_x_L_223 (ex3 (gQ_12_1219 hO_T_222.1 ha_x_L_223)) (by decide +kernel) (by decide +kernel))
                    have zR_315 : zA S_301 x 1215 a1_z.toNat = ((qst (folF Ev dn_235 (we (wdr (wg (ticB Ev Rl A) (capG (qg (ticB Ev Rl A)) ((qe (ticB Ev Rl A)).map (fun c => (c, qpl (ticB Ev Rl A) c))))) (qdr (ticB Ev Rl A) + 1)) [])))).toInt := (congrFun (zA_fr hk_302.fr ha_x_L_223 (ex3 (gQ_12_1215 hO_T_222.1 ha_x_L_223)) (by decide +kernel) (by decide +kernel)) _).trans fw_264
                    have zR_316 : zA S_301 x 1214 a1_z.toNat = ((qse (folF Ev dn_235 (we (wdr (wg (ticB Ev Rl A) (capG (qg (ticB Ev Rl A)) ((qe (ticB Ev Rl A)).map (fun c => (c, qpl (ticB Ev Rl A) c))))) (qdr (ticB Ev Rl A) + 1)) [])))).toInt := (congrFun (zA_fr hk_302.fr ha_x_L_223 (ex3 (gQ_12_1214 hO_T_222.1 ha_x_L_223)) (by decide +kernel) (by decide +kernel)) _).trans fw_265
                    have zR_317 : zA S_301 x 1216 a1_z.toNat = ((qdr (folF Ev dn_235 (we (wdr (wg (ticB Ev Rl A) (capG (qg (ticB Ev Rl A)) ((qe (ticB Ev Rl A)).map (fun c => (c, qpl (ticB Ev Rl A) c))))) (qdr (ticB Ev Rl A) + 1)) [])))).toInt := (congrFun (zA_fr hk_302.fr ha_x_L_223 (ex3 (gQ_12_1216 hO_T_222.1 ha_x_L_223)) (by decide +kernel) (by decide +kernel)) _).trans fw_266
                    have zR_318 : zA S_301 x 1217 a1_z.toNat = ((qtk (folF Ev dn_235 (we (wdr (wg (ticB Ev Rl A) (capG (qg (ticB Ev Rl A)) ((qe (ticB Ev Rl A)).map (fun c => (c, qpl (ticB Ev Rl A) c))))) (qdr (ticB Ev Rl A) + 1)) [])))).toInt := (congrFun (zA_fr hk_302.fr ha_x_L_223 (ex3 (gQ_12_1217 hO_T_222.1 ha_x_L_223)) (by decide +kernel) (by decide +kernel)) _).trans fw_267
                    have pz_319 : PlZ S_301 x (qpl (folF Ev dn_235 (we (wdr (wg (ticB Ev Rl A) (capG (qg (ticB Ev Rl A)) ((qe (ticB Ev Rl A)).map (fun c => (c, qpl (ticB Ev Rl A) c))))) (qdr (ticB Ev Rl A) + 1)) []))) (qsd (folF Ev dn_235 (we (wdr (wg (ticB Ev Rl A) (capG (qg (ticB Ev Rl A)) ((qe (ticB Ev Rl A)).map (fun c => (c, qpl (ticB Ev Rl A) c))))) (qdr (ticB Ev Rl A) + 1)) []))) := PlZ_eq fw_263 (zA_fr hk_302.fr ha_x_L_223 (ex3 (gQ_12_1208 hO_T_222.1 ha_x_L_223)) (by decide +kernel) (by decide +kernel)) (zA_fr hk_302.fr ha_x_L_223 (ex3 (gQ_12_1207 hO_T_222.1 ha_x_L_223)) (by decide +kernel) (by decide +kernel))
                    have pw_320 : PotW S_301 x a1_z (cutF Ev (we (folF Ev dn_235 (we (wdr (wg (ticB Ev Rl A) (capG (qg (ticB Ev Rl A)) ((qe (ticB Ev Rl A)).map (fun c => (c, qpl (ticB Ev Rl A) c))))) (qdr (ticB Ev Rl A) + 1)) [])) (qe (folF Ev dn_235 (we (wdr (wg (ticB Ev Rl A) (capG (qg (ticB Ev Rl A)) ((qe (ticB Ev Rl A)).map (fun c => (c, qpl (ticB Ev Rl A) c))))) (qdr (ticB Ev Rl A) + 1)) [])) ++ rs_236))) := (PotW_cut (A := (we (folF Ev dn_235 (we (wdr (wg (ticB Ev Rl A) (capG (qg (ticB Ev Rl A)) ((qe (ticB Ev Rl A)).map (fun c => (c, qpl (ticB Ev Rl A) c))))) (qdr (ticB Ev Rl A) + 1)) [])) (qe (folF Ev dn_235 (we (wdr (wg (ticB Ev Rl A) (capG (qg (ticB Ev Rl A)) ((qe (ticB Ev Rl A)).map (fun c => (c, qpl (ticB Ev Rl A) c))))) (qdr (ticB Ev Rl A) + 1)) [])) ++ rs_236))) hO_T_222.1 ha_x_L_223 (by omega) en_299 fw_268 fw_269 cc_306 cc_307 cc_308 (by rw [cu_305, if_pos rfl]) rR_312 rR_313 rR_314 zR_315 zR_316 zR_317 zR_318 pz_319).1
                    have t_321 : At S_301 x 12 := hk_302.fr.at ha_x_L_223
                    refine r_putI (v := rr_300) X hw t_321 rfl 47 1247 tyX12 (by decide) rfl inn_X12_tick_12 tyX12_ok nmX12 (by decide) (X.2.2.2.1 (.fieldLink RX12 330 "SilkMillModel" "cutAtOnce" "I") (by decide +kernel)) rfl (Or.inl rfl) rfl rfl (Nat.le_of_ble_eq_true rfl) (st_1247 _ _) dX12_tick_397 (fun H locs hw => ?_)
                    obtain ⟨S_322, eS_322⟩ : ∃ T, T = sI S_301 1247 x (rr_300) := ⟨_, rfl⟩
                    rw [← eS_322] at hw
                    have hO_323 : Ok MTK S S_322 := hO_303.sI eS_322 (by decide +kernel) (uI_12_1247 hO_303.1 t_321)
                    have h_324 : pI S_322 1247 x = rr_300 := tI_sIs eS_322
                    refine lv_iconst (v := 1) X.1 X.2.1 dX12_tick_400 (by decide) ?_
                    have zm_325 : ZM S S_301 x := ZM_eq iv_227 (zA_fr hk_302.fr ha_x_L_223 (ex3 (gQ_12_1207 hO_T_222.1 ha_x_L_223)) (by decide +kernel) (by decide +kernel))
                    have zm_326 : ZM S S_322 x := ZM_eq zm_325 (zA_sI eS_322)
                    have mi_327 : MIe S_322 x (-1) := MIe_sI mi_304 hO_303.1 t_321 eS_322 (by decide +kernel)
                    have zc_328 : zA S_322 x 1237 = zA S_301 x 1237 := zA_sI eS_322
                    have rR_329 : RowR S_322 x (3 * a1_z + 0).toNat (qb (folF Ev dn_235 (we (wdr (wg (ticB Ev Rl A) (capG (qg (ticB Ev Rl A)) ((qe (ticB Ev Rl A)).map (fun c => (c, qpl (ticB Ev Rl A) c))))) (qdr (ticB Ev Rl A) + 1)) []))) := RowR_eq rR_312 (zA_sI eS_322) (zA_sI eS_322)
                    have rR_330 : RowR S_322 x (3 * a1_z + 1).toNat (qe (folF Ev dn_235 (we (wdr (wg (ticB Ev Rl A) (capG (qg (ticB Ev Rl A)) ((qe (ticB Ev Rl A)).map (fun c => (c, qpl (ticB Ev Rl A) c))))) (qdr (ticB Ev Rl A) + 1)) [])) ++ rs_236) := RowR_eq rR_313 (zA_sI eS_322) (zA_sI eS_322)
                    have rR_331 : RowR S_322 x (3 * a1_z + 2).toNat (ql (folF Ev dn_235 (we (wdr (wg (ticB Ev Rl A) (capG (qg (ticB Ev Rl A)) ((qe (ticB Ev Rl A)).map (fun c => (c, qpl (ticB Ev Rl A) c))))) (qdr (ticB Ev Rl A) + 1)) []))) := RowR_eq rR_314 (zA_sI eS_322) (zA_sI eS_322)
                    have zR_332 : zA S_322 x 1215 a1_z.toNat = ((qst (folF Ev dn_235 (we (wdr (wg (ticB Ev Rl A) (capG (qg (ticB Ev Rl A)) ((qe (ticB Ev Rl A)).map (fun c => (c, qpl (ticB Ev Rl A) c))))) (qdr (ticB Ev Rl A) + 1)) [])))).toInt := (congrFun (zA_sI eS_322) _).trans zR_315
                    have zR_333 : zA S_322 x 1214 a1_z.toNat = ((qse (folF Ev dn_235 (we (wdr (wg (ticB Ev Rl A) (capG (qg (ticB Ev Rl A)) ((qe (ticB Ev Rl A)).map (fun c => (c, qpl (ticB Ev Rl A) c))))) (qdr (ticB Ev Rl A) + 1)) [])))).toInt := (congrFun (zA_sI eS_322) _).trans zR_316
                    have zR_334 : zA S_322 x 1216 a1_z.toNat = ((qdr (folF Ev dn_235 (we (wdr (wg (ticB Ev Rl A) (capG (qg (ticB Ev Rl A)) ((qe (ticB Ev Rl A)).map (fun c => (c, qpl (ticB Ev Rl A) c))))) (qdr (ticB Ev Rl A) + 1)) [])))).toInt := (congrFun (zA_sI eS_322) _).trans zR_317
                    have zR_335 : zA S_322 x 1217 a1_z.toNat = ((qtk (folF Ev dn_235 (we (wdr (wg (ticB Ev Rl A) (capG (qg (ticB Ev Rl A)) ((qe (ticB Ev Rl A)).map (fun c => (c, qpl (ticB Ev Rl A) c))))) (qdr (ticB Ev Rl A) + 1)) [])))).toInt := (congrFun (zA_sI eS_322) _).trans zR_318
                    have pz_336 : PlZ S_322 x (qpl (folF Ev dn_235 (we (wdr (wg (ticB Ev Rl A) (capG (qg (ticB Ev Rl A)) ((qe (ticB Ev Rl A)).map (fun c => (c, qpl (ticB Ev Rl A) c))))) (qdr (ticB Ev Rl A) + 1)) []))) (qsd (folF Ev dn_235 (we (wdr (wg (ticB Ev Rl A) (capG (qg (ticB Ev Rl A)) ((qe (ticB Ev Rl A)).map (fun c => (c, qpl (ticB Ev Rl A) c))))) (qdr (ticB Ev Rl A) + 1)) []))) := PlZ_eq pz_319 (zA_sI eS_322) (zA_sI eS_322)
                    have px_337 : PwX S S_301 x a1_z := PwX_cu iv_229 hO_T_222.1 ha_x_L_223 (zA_fr hk_302.fr ha_x_L_223 (ex3 (gQ_12_1218 hO_T_222.1 ha_x_L_223)) (by decide +kernel) (by decide +kernel)) (zA_fr hk_302.fr ha_x_L_223 (ex3 (gQ_12_1219 hO_T_222.1 ha_x_L_223)) (by decide +kernel) (by decide +kernel)) cu_305 (pw4 (fun _ => zA_fr hk_302.fr ha_x_L_223 (ex3 (gQ_12_1214 hO_T_222.1 ha_x_L_223)) (by decide +kernel) (by decide +kernel)) (fun _ => zA_fr hk_302.fr ha_x_L_223 (ex3 (gQ_12_1215 hO_T_222.1 ha_x_L_223)) (by decide +kernel) (by decide +kernel)) (fun _ => zA_fr hk_302.fr ha_x_L_223 (ex3 (gQ_12_1216 hO_T_222.1 ha_x_L_223)) (by decide +kernel) (by decide +kernel)) (fun _ => zA_fr hk_302.fr ha_x_L_223 (ex3 (gQ_12_1217 hO_T_222.1 ha_x_L_223)) (by decide +kernel) (by decide +kernel)) (fun h => absurd rfl h)) cc_306 cc_307 cc_308
                    have px_338 : PwX S S_322 x a1_z := PwX_to px_337 (zA_sI eS_322) (zA_sI eS_322) (zA_sI eS_322) (zA_sI eS_322) (pw5 (zA_sI eS_322) (zA_sI eS_322) (zA_sI eS_322) (zA_sI eS_322) (zA_sI eS_322))
                    rw [hQQ]
                    exact ret_z X hw hr hlocks (Nat.le_of_ble_eq_true rfl) (Nat.le_of_ble_eq_true rfl) (by decide) ⟨hO_323, Or.inl ⟨⟨mi_327, (GR_eq zc_328 gr_310), zm_326, (by rw [show (ticF Ev Rl A).1 = cutF Ev (we (folF Ev dn_235 (we (wdr (wg (ticB Ev Rl A) (capG (qg (ticB Ev Rl A)) ((qe (ticB Ev Rl A)).map (fun c => (c, qpl (ticB Ev Rl A) c))))) (qdr (ticB Ev Rl A) + 1)) [])) (qe (folF Ev dn_235 (we (wdr (wg (ticB Ev Rl A) (capG (qg (ticB Ev Rl A)) ((qe (ticB Ev Rl A)).map (fun c => (c, qpl (ticB Ev Rl A) c))))) (qdr (ticB Ev Rl A) + 1)) [])) ++ rs_236)) by rw [ticF_d (show ¬ 0 < (qst (ticB Ev Rl A)).toInt by have e9 := congrArg Int32.toInt us_99; have e : (v_96 : Int32).toInt = v_96.toInt := rfl; omega) ne_114]; exact (drwF_c (by rw [db_282]; show 300 ≤ (qg (folF Ev dn_235 (we (wdr (wg (ticB Ev Rl A) (capG (qg (ticB Ev Rl A)) ((qe (ticB Ev Rl A)).map (fun c => (c, qpl (ticB Ev Rl A) c))))) (qdr (ticB Ev Rl A) + 1)) []))).length; omega)).trans (by rw [db_282])]; exact PotW_sI pw_320 eS_322 (by decide)), px_338, by rw [ticF_d (show ¬ 0 < (qst (ticB Ev Rl A)).toInt by have e9 := congrArg Int32.toInt us_99; have e : (v_96 : Int32).toInt = v_96.toInt := rfl; omega) ne_114]; exact trivial⟩, rfl⟩⟩ dX12_tick_401
                · have z_b_339 := trivial
                  have k_340 : i4_221_z < rr_273.toInt := z_nle rfl hz_i4_221 c_278
                  refine lv_aload_n X.1 X.2.1 dX12_tick_278 rfl (lv_at hl 3 rfl) ?_
                  refine lv_iload_n X.1 X.2.1 dX12_tick_279 rfl (lv_at hl 4 rfl) ?_
                  refine lv_iconst (v := 1) X.1 X.2.1 dX12_tick_280 (by decide) ?_
                  refine lv_iload X.1 X.2.1 dX12_tick_281 (lv_at hl 0 rfl) ?_
                  refine k_i (rm := { frames := 1, cells := 0, slots := 0, locals := 48 }) (av := [.ref x, .int (a1), .int 1, .int (i4_221)]) X hw (va_runV (As := [.int (a1), .int 1, .int (i4_221)]) (rest := []) (cfix X) (k_X12_at2 l G cy κ T_222 _ x (a1) (a1_z) (1) (1) (i4_221) (i4_221_z) hO_T_222.1 ha_x_L_223 hz_a1 ti_1 hz_i4_221 (by first | assumption | omega) (by first | assumption | omega) (by first | assumption | omega) (by first | assumption | omega) (by first | assumption | omega) (by first | assumption | omega)) (cwV 3 X.2.2.2.1 gX12_tick_X12_at rfl rfl rfl (by decide +kernel) ⟨Nat.le_of_ble_eq_true rfl, Nat.le_of_ble_eq_true rfl⟩) (pre_V X hw _ ha_x_L_223 rfl (by decide) rfl) rfl rfl hl.1 rfl (lv_room (Nat.le_of_ble_eq_true rfl)) dX12_tick_283 ⟨Nat.le_of_ble_eq_true rfl, Nat.le_of_ble_eq_true rfl⟩) 0 0 (Nat.le_of_ble_eq_true rfl) (Nat.le_of_ble_eq_true rfl) (fun rr_341 S_342 H locs hp hw hfr hnw => ?_)
                  obtain ⟨e2, hp⟩ := hp
                  subst e2
                  obtain ⟨f_343, f_344, f_345⟩ := hp
                  refine lv_istore (lv' := [(5, .int (rr_341)), (4, .int (i4_221)), (3, .int (v_126)), (2, .int (rr_104)), (0, .ref x), (1, .int (a1))]) X.1 X.2.1 dX12_tick_286 hl (by decide) rfl (fun ls hl => ?_)
                  have m8_346 := MI_alive mk_226 (c := rr_341.toInt) (r := 3 * a1_z + 1) (k := i4_221_z) (gI_12_1201 hO_T_222.1 ha_x_L_223).2 (by omega) (by omega) (by omega) (by omega) (by omega)
                  have lg_347 := lenZ_le hO_T_222.1 ha_x_L_223 (rr_341.toInt)
                  obtain ⟨c_348, t_349, er_350⟩ : ∃ c t, rs_236 = c :: t := (match rs_236, (show 0 < rs_236.length by omega) with | [], h => absurd h (Nat.lt_irrefl _) | c :: t, _ => ⟨c, t, rfl⟩)
                  have ix_351 : (qe (folF Ev dn_235 (we (wdr (wg (ticB Ev Rl A) (capG (qg (ticB Ev Rl A)) ((qe (ticB Ev Rl A)).map (fun c => (c, qpl (ticB Ev Rl A) c))))) (qdr (ticB Ev Rl A) + 1)) [])) ++ rs_236)[(i4_221_z).toNat]? = some c_348 := by rw [er_350, show (i4_221_z).toNat = (qe (folF Ev dn_235 (we (wdr (wg (ticB Ev Rl A) (capG (qg (ticB Ev Rl A)) ((qe (ticB Ev Rl A)).map (fun c => (c, qpl (ticB Ev Rl A) c))))) (qdr (ticB Ev Rl A) + 1)) []))).length by omega]; exact ix_app
                  have h8_352 : rr_341.toInt = (c_348 : Int) := by have h := fw_258.2 _ _ ix_351; have hi : (600 * (3 * a1_z + 1) + i4_221_z).toNat = 600 * (3 * a1_z + 1).toNat + (i4_221_z).toNat := (by omega); rw [← hi] at h; omega
                  have e2_353 : (qsd (folF Ev dn_235 (we (wdr (wg (ticB Ev Rl A) (capG (qg (ticB Ev Rl A)) ((qe (ticB Ev Rl A)).map (fun c => (c, qpl (ticB Ev Rl A) c))))) (qdr (ticB Ev Rl A) + 1)) [])) c_348).toInt = 2 := by have h := MI_2 mk_226 (r := 3 * a1_z + 1) (k := i4_221_z) (by omega) (by omega) (by omega) (by omega); have h1 := (fw_263 c_348 (by omega)).2; have h3 := fw_258.2 _ _ ix_351; have hi : (600 * (3 * a1_z + 1) + i4_221_z).toNat = 600 * (3 * a1_z + 1).toNat + (i4_221_z).toNat := (by omega); rw [hi, h3, Int.toNat_natCast] at h; have h4 := h.2.2.1; omega
                  refine lv_aload_n X.1 X.2.1 dX12_tick_288 rfl (lv_at hl 4 rfl) ?_
                  obtain ⟨q_355, h_356, h_357, h_358⟩ := gQ_12_1208 hO_T_222.1 ha_x_L_223
                  refine r_getR (g := 1208) X hw ha_x_L_223 rfl 8 h_356 (by decide) rfl inn_X12_tick_12 (by decide) (X.2.2.2.1 (.fieldLink RX12 28 "SilkMillModel" "place" "[I") (by decide +kernel)) rfl (gv_1208 _ _) dX12_tick_289 ?_
                  refine lv_iload X.1 X.2.1 dX12_tick_292 (lv_at hl 0 rfl) ?_
                  refine lv_dup2_11 X.1 X.2.1 dX12_tick_294 rfl rfl ?_
                  refine r_iald X hw h_357 rfl (by rw [h_358]; exact z_ix rfl (by omega) (by omega)) dX12_tick_295 ?_
                  refine lv_topi (fun v_359 ev_359 => ?_)
                  have z_360 := gE_374 hO_T_222.1 h_357 (Int32.toNatClampNeg (rr_341)); rw [← ev_359] at z_360
                  have ev_359 := ev_359.symm
                  have zf_361 : zA T_222 x 1208 (rr_341.toInt).toNat = v_359.toInt := (zA_of h_356 rfl (by omega) ev_359)
                  rw [zf_361] at m8_346
                  have pz_362 : (pI T_222 1201 x).toInt = v_1.toInt := (congrArg Int32.toInt ik_232).trans rfl
                  have up_363 : v_359 = qpl (folF Ev dn_235 (we (wdr (wg (ticB Ev Rl A) (capG (qg (ticB Ev Rl A)) ((qe (ticB Ev Rl A)).map (fun c => (c, qpl (ticB Ev Rl A) c))))) (qdr (ticB Ev Rl A) + 1)) [])) c_348 := Int32.toInt_inj.mp (by rw [← (fw_263 c_348 (by omega)).1, show c_348 = (rr_341.toInt).toNat by omega, zf_361])
                  refine lv_iconst (v := 1) X.1 X.2.1 dX12_tick_296 (by decide) ?_
                  refine lv_iadd X.1 X.2.1 dX12_tick_297 ?_
                  refine lv_topi (fun v_364 ev_364 => ?_)
                  have z_365 : v_364.toInt = v_359.toInt + 1 := z_add ev_364 rfl ti_1 (by omega) (by omega)
                  refine r_iast X hw h_357 rfl (by rw [h_358]; exact z_ix rfl (by omega) (by omega)) dX12_tick_298 (fun H locs hw => ?_)
                  obtain ⟨S_366, eS_366⟩ : ∃ T, T = sA T_222 q_355 (upd (pA T_222 q_355) (Int32.toNatClampNeg (rr_341)) (v_364)) := ⟨_, rfl⟩
                  rw [← eS_366] at hw
                  have hO_367 : Ok MTK S S_366 := hO_T_222.sA eS_366 h_357 (by decide +kernel) (uA_374 hO_T_222.1 h_357 (by omega) (by omega))
                  have h_368 : pA S_366 q_355 (Int32.toNatClampNeg (rr_341)) = v_364 := tA_sAs eS_366
                  have t_369 : pR S_366 1208 x = some q_355 := tR_sA eS_366 h_356
                  have t_371 : pR T_222 1208 x = some q_355 := by have h := t_369; rw [eS_366, pR_sA] at h; exact h
                  have zs_370 : ∀ j, zA S_366 x 1208 j = if j = (rr_341.toInt).toNat then (v_359.toInt + 1) else zA T_222 x 1208 j := by have h := zA_sAs eS_366 t_371 z_365; rw [z_nc rfl (by omega)] at h; exact h
                  have mi_372 : MIe S_366 x rr_341.toInt := place_MI (c := rr_341.toInt) hO_T_222.1 ha_x_L_223 (show Fr [10374] T_222 S_366 by rw [eS_366]; exact Fr_sA h_357 List.mem_cons_self) mk_226 (by omega) (by omega) (by omega) (by omega) (by omega) zs_370
                  have zp_373 : zA S_366 x 1208 (rr_341.toInt).toNat = (v_359.toInt + 1) := by have h := zs_370 (rr_341.toInt).toNat; rw [if_pos rfl] at h; exact h
                  have le_374 : lenZ S_366 x = lenZ T_222 x := lenZ_fr (show Fr [10374] T_222 S_366 by rw [eS_366]; exact Fr_sA h_357 List.mem_cons_self) ha_x_L_223 (ex3 (gQ_12_1203 hO_T_222.1 ha_x_L_223)) (ex3 (gQ_12_1205 hO_T_222.1 ha_x_L_223)) (by decide +kernel) (by decide +kernel) (by decide +kernel) (by decide +kernel)
                  have lf_375 := congrFun le_374 (rr_341.toInt)
                  have zc_376 : zA S_366 x 1219 = zA T_222 x 1219 := zA_sAn eS_366 (ex3 (gQ_12_1219 hO_T_222.1 ha_x_L_223)) h_357 rfl
                  have zz_377 := congrFun zc_376 ((3 * a1_z + 1).toNat)
                  have zc_378 : zA S_366 x 1218 = zA T_222 x 1218 := zA_sAn eS_366 (ex3 (gQ_12_1218 hO_T_222.1 ha_x_L_223)) h_357 rfl
                  have zz_379 := congrFun zc_378 ((600 * (3 * a1_z + 1) + i4_221_z).toNat)
                  have t_380 : pI S_366 1201 x = v_1 := tI_sA eS_366 ik_232
                  have pz_381 : (pI S_366 1201 x).toInt = v_1.toInt := (congrArg Int32.toInt t_380).trans rfl
                  have t_383 : pR T_222 1208 x = some q_355 := by have h := t_369; rw [eS_366, pR_sA] at h; exact h
                  have zs_382 : ∀ j, zA S_366 x 1208 j = if j = (rr_341.toInt).toNat then (v_359.toInt + 1) else zA T_222 x 1208 j := by have h := zA_sAs eS_366 t_383 z_365; rw [z_nc rfl (by omega)] at h; exact h
                  have q1_384 : (qpl (folF Ev dn_235 (we (wdr (wg (ticB Ev Rl A) (capG (qg (ticB Ev Rl A)) ((qe (ticB Ev Rl A)).map (fun c => (c, qpl (ticB Ev Rl A) c))))) (qdr (ticB Ev Rl A) + 1)) [])) c_348 + 1).toInt = (v_359.toInt + 1) := (congrArg Int32.toInt (ev_364.trans (by rw [up_363]))).symm.trans z_365
                  have el_385 : (elen Ev c_348).toInt = lenZ T_222 x (c_348 : Int) := (en_272.1 c_348 (by omega)).1
                  rw [← h8_352] at el_385
                  refine lv_aload_n X.1 X.2.1 dX12_tick_299 rfl (lv_at hl 4 rfl) ?_
                  have t_386 : At S_366 x 12 := tAt_sA eS_366 ha_x_L_223
                  refine r_getR (g := 1208) X hw t_386 rfl 8 t_369 (by decide) rfl inn_X12_tick_12 (by decide) (X.2.2.2.1 (.fieldLink RX12 28 "SilkMillModel" "place" "[I") (by decide +kernel)) rfl (gv_1208 _ _) dX12_tick_300 ?_
                  refine lv_iload X.1 X.2.1 dX12_tick_303 (lv_at hl 0 rfl) ?_
                  have t_387 : At S_366 q_355 374 := tAt_sA eS_366 h_357
                  have t_388 : pN S_366 q_355 = 600 := tN_sA eS_366 h_358
                  clear h_358
                  refine r_iald X hw t_387 rfl (by rw [t_388]; exact z_ix rfl (by omega) (by omega)) dX12_tick_305 ?_
                  rw [h_368]
                  refine lv_aload_n X.1 X.2.1 dX12_tick_306 rfl (lv_at hl 4 rfl) ?_
                  refine lv_iload X.1 X.2.1 dX12_tick_307 (lv_at hl 0 rfl) ?_
                  refine k_i (rm := { frames := 2, cells := 0, slots := 0, locals := 96 }) (av := [.ref x, .int (rr_341)]) X hw (va_runV (As := [.int (rr_341)]) (rest := [.int (v_364)]) (cfix X) (k_X12_lengthOf l G cy κ S_366 _ x (rr_341) (rr_341.toInt) hO_367.1 t_386 rfl (by first | assumption | omega) (by first | assumption | omega)) (cwV 1 X.2.2.2.1 gX12_tick_X12_lengthOf rfl rfl rfl (by decide +kernel) ⟨Nat.le_of_ble_eq_true rfl, Nat.le_of_ble_eq_true rfl⟩) (pre_V X hw _ t_386 rfl (by decide) rfl) rfl rfl hl.1 rfl (lv_room (Nat.le_of_ble_eq_true rfl)) dX12_tick_309 ⟨Nat.le_of_ble_eq_true rfl, Nat.le_of_ble_eq_true rfl⟩) 0 0 (Nat.le_of_ble_eq_true rfl) (Nat.le_of_ble_eq_true rfl) (fun rr_389 S_390 H locs hp hw hfr hnw => ?_)
                  obtain ⟨e2, hp⟩ := hp
                  subst e2
                  obtain ⟨f_391, f_392, f_393⟩ := hp
                  refine lv_icmp_ne (tgt := 332) X.1 X.2.1 dX12_tick_312 (by decide) (fun c_394 => ?_) (fun c_394 => ?_)
                  · have z_b_395 := trivial
                    have k_396 : (v_359.toInt + 1) ≠ rr_389.toInt := z_ne z_365 rfl c_394
                    have mi_397 : MI S_366 x := back_MI mi_372 (by omega) (Or.inr (by omega))
                    refine lv_aload_n X.1 X.2.1 dX12_tick_332 rfl (lv_at hl 4 rfl) ?_
                    refine lv_iload X.1 X.2.1 dX12_tick_333 (lv_at hl 0 rfl) ?_
                    refine lv_aload_n X.1 X.2.1 dX12_tick_335 rfl (lv_at hl 4 rfl) ?_
                    refine r_getR (g := 1208) X hw t_386 rfl 8 t_369 (by decide) rfl inn_X12_tick_12 (by decide) (X.2.2.2.1 (.fieldLink RX12 28 "SilkMillModel" "place" "[I") (by decide +kernel)) rfl (gv_1208 _ _) dX12_tick_336 ?_
                    refine lv_iload X.1 X.2.1 dX12_tick_339 (lv_at hl 0 rfl) ?_
                    refine r_iald X hw t_387 rfl (by rw [t_388]; exact z_ix rfl (by omega) (by omega)) dX12_tick_341 ?_
                    rw [h_368]
                    refine lv_iconst (v := 1) X.1 X.2.1 dX12_tick_342 (by decide) ?_
                    refine lv_isub X.1 X.2.1 dX12_tick_343 ?_
                    refine lv_topi (fun v_398 ev_398 => ?_)
                    have z_399 : v_398.toInt = (v_359.toInt + 1) - 1 := z_sub ev_398 z_365 ti_1 (by omega) (by omega)
                    refine k_i (rm := { frames := 2, cells := 0, slots := 0, locals := 96 }) (av := [.ref x, .int (rr_341), .int (v_398)]) X hw (va_runV (As := [.int (rr_341), .int (v_398)]) (rest := []) (cfix X) (k_X12_breaks3 l G cy κ S_366 _ x (rr_341) (rr_341.toInt) (v_398) (((v_359.toInt + 1) - 1)) hO_367.1 t_386 rfl z_399 (by first | assumption | omega) (by first | assumption | omega)) (cwV 2 X.2.2.2.1 gX12_tick_X12_breaks rfl rfl rfl (by decide +kernel) ⟨Nat.le_of_ble_eq_true rfl, Nat.le_of_ble_eq_true rfl⟩) (pre_V X hw _ t_386 rfl (by decide) rfl) rfl rfl hl.1 rfl (lv_room (Nat.le_of_ble_eq_true rfl)) dX12_tick_344 ⟨Nat.le_of_ble_eq_true rfl, Nat.le_of_ble_eq_true rfl⟩) 0 0 (Nat.le_of_ble_eq_true rfl) (Nat.le_of_ble_eq_true rfl) (fun rr_400 S_401 H locs hp hw hfr hnw => ?_)
                    obtain ⟨e2, hp⟩ := hp
                    subst e2
                    rcases hp with ⟨f_402, er_403⟩ | ⟨f_402, er_403⟩ <;> subst er_403
                    · have z_b_404 := trivial
                      refine lv_if_eq (tgt := 373) X.1 X.2.1 dX12_tick_347 (by decide) (fun c_405 => absurd c_405 (by decide)) (fun c_405 => ?_)
                      have rR_406 : RowR S_366 x (3 * a1_z + 2).toNat (ql (folF Ev dn_235 (we (wdr (wg (ticB Ev Rl A) (capG (qg (ticB Ev Rl A)) ((qe (ticB Ev Rl A)).map (fun c => (c, qpl (ticB Ev Rl A) c))))) (qdr (ticB Ev Rl A) + 1)) []))) := RowR_eq fw_259 (zA_sAn eS_366 (ex3 (gQ_12_1218 hO_T_222.1 ha_x_L_223)) h_357 rfl) (zA_sAn eS_366 (ex3 (gQ_12_1219 hO_T_222.1 ha_x_L_223)) h_357 rfl)
                      have pe_409 : v_398 = qpl (folF Ev dn_235 (we (wdr (wg (ticB Ev Rl A) (capG (qg (ticB Ev Rl A)) ((qe (ticB Ev Rl A)).map (fun c => (c, qpl (ticB Ev Rl A) c))))) (qdr (ticB Ev Rl A) + 1)) [])) c_348 := Int32.toInt_inj.mp (by have h1 := congrArg Int32.toInt up_363; have h2 : (v_398).toInt = ((v_359.toInt + 1) - 1) := z_399; have h3 : (v_359).toInt = v_359.toInt := rfl; omega)
                      have bk_407 : ebr Ev c_348 (qpl (folF Ev dn_235 (we (wdr (wg (ticB Ev Rl A) (capG (qg (ticB Ev Rl A)) ((qe (ticB Ev Rl A)).map (fun c => (c, qpl (ticB Ev Rl A) c))))) (qdr (ticB Ev Rl A) + 1)) [])) c_348) := by rw [(hp_5.1 c_348 (by omega)).2.2]; have h := f_402; rw [mA_fr hO_367.fr ha_x (ex3 (gQ_12_1203 hG ha_x)) (by decide +kernel) (by decide +kernel), mA_fr hO_367.fr ha_x (ex3 (gQ_12_1206 hG ha_x)) (by decide +kernel) (by decide +kernel), h8_352, pe_409] at h; exact h
                      have bs_408 : sdV Ev (folF Ev dn_235 (we (wdr (wg (ticB Ev Rl A) (capG (qg (ticB Ev Rl A)) ((qe (ticB Ev Rl A)).map (fun c => (c, qpl (ticB Ev Rl A) c))))) (qdr (ticB Ev Rl A) + 1)) [])) c_348 = 3 := sdV_3 (by omega) bk_407
                      refine lv_aload_n X.1 X.2.1 dX12_tick_350 rfl (lv_at hl 4 rfl) ?_
                      refine lv_iload_n X.1 X.2.1 dX12_tick_351 rfl (lv_at hl 5 rfl) ?_
                      refine lv_iconst (v := 2) X.1 X.2.1 dX12_tick_352 (by decide) ?_
                      refine lv_aload_n X.1 X.2.1 dX12_tick_353 rfl (lv_at hl 4 rfl) ?_
                      refine lv_iload_n X.1 X.2.1 dX12_tick_354 rfl (lv_at hl 5 rfl) ?_
                      refine lv_iconst (v := 1) X.1 X.2.1 dX12_tick_355 (by decide) ?_
                      refine lv_iload X.1 X.2.1 dX12_tick_356 (lv_at hl 1 rfl) ?_
                      have pz_410 : (pI S_366 1201 x).toInt = v_1.toInt := (congrArg Int32.toInt t_380).trans rfl
                      have rR_411 : RowR S_366 x (3 * a1_z + 0).toNat (qb (folF Ev dn_235 (we (wdr (wg (ticB Ev Rl A) (capG (qg (ticB Ev Rl A)) ((qe (ticB Ev Rl A)).map (fun c => (c, qpl (ticB Ev Rl A) c))))) (qdr (ticB Ev Rl A) + 1)) []))) := RowR_eq fw_257 (zA_sAn eS_366 (ex3 (gQ_12_1218 hO_T_222.1 ha_x_L_223)) h_357 rfl) (zA_sAn eS_366 (ex3 (gQ_12_1219 hO_T_222.1 ha_x_L_223)) h_357 rfl)
                      have rR_412 : RowR S_366 x (3 * a1_z + 1).toNat (qe (folF Ev dn_235 (we (wdr (wg (ticB Ev Rl A) (capG (qg (ticB Ev Rl A)) ((qe (ticB Ev Rl A)).map (fun c => (c, qpl (ticB Ev Rl A) c))))) (qdr (ticB Ev Rl A) + 1)) [])) ++ rs_236) := RowR_eq fw_258 (zA_sAn eS_366 (ex3 (gQ_12_1218 hO_T_222.1 ha_x_L_223)) h_357 rfl) (zA_sAn eS_366 (ex3 (gQ_12_1219 hO_T_222.1 ha_x_L_223)) h_357 rfl)
                      refine k_i (rm := { frames := 1, cells := 0, slots := 0, locals := 48 }) (av := [.ref x, .int (a1), .int 1, .int (i4_221)]) X hw (va_runV (As := [.int (a1), .int 1, .int (i4_221)]) (rest := [.int 2, .int (a1), .ref x]) (cfix X) (k_X12_goes5 l G cy κ S_366 _ x (a1) (a1_z) (1) (1) (i4_221) (i4_221_z) (-1) hO_367.1 t_386 hz_a1 ti_1 hz_i4_221 (by first | assumption | omega) (by first | assumption | omega) (by first | assumption | omega) (by first | assumption | omega) (by first | assumption | omega) (by first | assumption | omega) mi_397) (cwV 3 X.2.2.2.1 gX12_tick_X12_goes rfl rfl rfl (by decide +kernel) ⟨Nat.le_of_ble_eq_true rfl, Nat.le_of_ble_eq_true rfl⟩) (pre_V X hw _ t_386 rfl (by decide) rfl) rfl rfl hl.1 rfl (lv_room (Nat.le_of_ble_eq_true rfl)) dX12_tick_358 ⟨Nat.le_of_ble_eq_true rfl, Nat.le_of_ble_eq_true rfl⟩) 0 0 (Nat.le_of_ble_eq_true rfl) (Nat.le_of_ble_eq_true rfl) (fun rr_413 S_414 H locs hp hw hfr hnw => ?_)
                      obtain ⟨hk_415, hp⟩ := hp
                      have hO_416 : Ok MTK S S_414 := hO_367.call hk_415 (by decide +kernel)
                      obtain ⟨g_417, g_418, g_419, g_420, g_421, g_422, g_423, g_424, g_425⟩ := hp
                      have dn_428 : rr_413.toInt = (c_348 : Int) := by have h8 := rR_412.2 _ _ ix_351; have hi : (600 * (3 * a1_z + 1) + i4_221_z).toNat = 600 * (3 * a1_z + 1).toNat + ((i4_221_z : Int)).toNat := (by omega); rw [← hi] at h8; omega
                      have t_429 : pI S_414 1201 x = v_1 := hk_415.fr.I' (by decide +kernel) t_386 t_380
                      have pz_430 : (pI S_414 1201 x).toInt = v_1.toInt := (congrArg Int32.toInt t_429).trans rfl
                      have zl_431 : zA S_414 x 1207 = zA S_366 x 1207 := zA_fr hk_415.fr t_386 (ex3 (gQ_12_1207 hO_367.1 t_386)) (by decide +kernel) (by decide +kernel)
                      have zz_432 := congrFun zl_431 (rr_413.toInt).toNat
                      have al_433 := ((MI_1 g_422 (c := rr_413.toInt) (by omega) (by omega)).2 (by omega)).2 (by omega) (by omega)
                      have gi_434 := g_424 (3 * a1_z + 1).toNat; rw [if_pos (by omega)] at gi_434
                      have m4_435 := g_422.2.2.2.1.2 (3 * a1_z + 1).toNat (by omega)
                      have gi_436 := g_424 (3 * a1_z + 2).toNat; rw [if_neg (by omega)] at gi_436
                      have m4_437 := g_422.2.2.2.1.2 (3 * a1_z + 2).toNat (by omega)
                      refine lv_aload_n X.1 X.2.1 dX12_tick_361 rfl (lv_at hl 4 rfl) ?_
                      refine lv_iload_n X.1 X.2.1 dX12_tick_362 rfl (lv_at hl 5 rfl) ?_
                      refine lv_iconst (v := 2) X.1 X.2.1 dX12_tick_363 (by decide) ?_
                      have t_438 : At S_414 x 12 := hk_415.fr.at t_386
                      refine k_i (rm := { frames := 1, cells := 0, slots := 0, locals := 48 }) (av := [.ref x, .int (a1), .int 2]) X hw (va_runV (As := [.int (a1), .int 2]) (rest := [.int (rr_413), .int 2, .int (a1), .ref x]) (cfix X) (k_X12_many2 l G cy κ S_414 _ x (a1) (a1_z) (2) (2) hO_416.1 t_438 hz_a1 ti_2 (by first | assumption | omega) (by first | assumption | omega) (by first | assumption | omega) (by first | assumption | omega)) (cwV 2 X.2.2.2.1 gX12_tick_X12_many rfl rfl rfl (by decide +kernel) ⟨Nat.le_of_ble_eq_true rfl, Nat.le_of_ble_eq_true rfl⟩) (pre_V X hw _ t_438 rfl (by decide) rfl) rfl rfl hl.1 rfl (lv_room (Nat.le_of_ble_eq_true rfl)) dX12_tick_364 ⟨Nat.le_of_ble_eq_true rfl, Nat.le_of_ble_eq_true rfl⟩) 0 0 (Nat.le_of_ble_eq_true rfl) (Nat.le_of_ble_eq_true rfl) (fun rr_439 S_440 H locs hp hw hfr hnw => ?_)
                      obtain ⟨e2, hp⟩ := hp
                      subst e2
                      obtain ⟨f_441, f_442, f_443⟩ := hp
                      refine k_v (rm := { frames := 1, cells := 0, slots := 0, locals := 48 }) (av := [.ref x, .int (a1), .int 2, .int (rr_413), .int (rr_439)]) X hw (va_runV (As := [.int (a1), .int 2, .int (rr_413), .int (rr_439)]) (rest := []) (cfix X) (k_X12_comes5 l G cy κ S_414 _ x (a1) (a1_z) (2) (2) (rr_413) (rr_413.toInt) (rr_439) (rr_439.toInt) hO_416.1 t_438 hz_a1 ti_2 rfl rfl (by first | assumption | omega) (by first | assumption | omega) (by first | assumption | omega) (by first | assumption | omega) (by first | assumption | omega) (by first | assumption | omega) (by first | assumption | omega) (by first | assumption | omega) (by first | assumption | omega) (by first | assumption | omega) g_422 (by first | assumption | omega) (by first | assumption | omega)) (cwV 4 X.2.2.2.1 gX12_tick_X12_comes rfl rfl rfl (by decide +kernel) ⟨Nat.le_of_ble_eq_true rfl, Nat.le_of_ble_eq_true rfl⟩) (pre_V X hw _ t_438 rfl (by decide) rfl) rfl rfl hl.1 rfl (lv_room (Nat.le_of_ble_eq_true rfl)) dX12_tick_367 ⟨Nat.le_of_ble_eq_true rfl, Nat.le_of_ble_eq_true rfl⟩) 0 0 (Nat.le_of_ble_eq_true rfl) (Nat.le_of_ble_eq_true rfl) (fun S_445 H locs hp hw hfr hnw => ?_)
                      obtain ⟨hk_446, hp⟩ := hp
                      have hO_447 : Ok MTK S S_445 := hO_416.call hk_446 (by decide +kernel)
                      obtain ⟨mi_448, cm_449, cs_450, cx_451⟩ := hp
                      have gi_452 := cm_449 (3 * a1_z + 1).toNat; rw [if_neg (by omega)] at gi_452
                      refine lv_goto (tgt := 376) X.1 X.2.1 dX12_tick_370 (by decide) ?_
                      refine lv_goto (tgt := 267) X.1 X.2.1 dX12_tick_376 (by decide) ?_
                      have t_453 : At S_445 x 12 := hk_446.fr.at t_438
                      have zc_454 : zA S_366 x 1237 = zA S_190 x 1237 := (zA_sAn eS_366 (ex3 (gQ_12_1237 hO_T_222.1 ha_x_L_223)) h_357 rfl).trans zk_225
                      have zc_455 : zA S_414 x 1237 = zA S_190 x 1237 := (zA_fr hk_415.fr t_386 (ex3 (gQ_12_1237 hO_367.1 t_386)) (by decide +kernel) (by decide +kernel)).trans zc_454
                      have zc_456 : zA S_445 x 1237 = zA S_190 x 1237 := (zA_fr hk_446.fr t_438 (ex3 (gQ_12_1237 hO_416.1 t_438)) (by decide +kernel) (by decide +kernel)).trans zc_455
                      have zm_457 : ZM S S_366 x := ZM_eq iv_227 (zA_sAn eS_366 (ex3 (gQ_12_1207 hO_T_222.1 ha_x_L_223)) h_357 rfl)
                      have zm_458 : ZM S S_414 x := ZM_eq zm_457 (zA_fr hk_415.fr t_386 (ex3 (gQ_12_1207 hO_367.1 t_386)) (by decide +kernel) (by decide +kernel))
                      have zm_459 : ZM S S_445 x := ZM_set zm_458 cs_450 ⟨by omega, by omega⟩ ⟨by omega, by omega⟩
                      have rR_460 : RowR S_414 x (3 * a1_z + 0).toNat (qb (folF Ev dn_235 (we (wdr (wg (ticB Ev Rl A) (capG (qg (ticB Ev Rl A)) ((qe (ticB Ev Rl A)).map (fun c => (c, qpl (ticB Ev Rl A) c))))) (qdr (ticB Ev Rl A) + 1)) []))) := RowR_gox hO_367.1 t_386 (by omega) rR_411 g_425
                      have rR_461 : RowR S_445 x (3 * a1_z + 0).toNat (qb (folF Ev dn_235 (we (wdr (wg (ticB Ev Rl A) (capG (qg (ticB Ev Rl A)) ((qe (ticB Ev Rl A)).map (fun c => (c, qpl (ticB Ev Rl A) c))))) (qdr (ticB Ev Rl A) + 1)) []))) := RowR_cmx hO_416.1 t_438 (by omega) rR_460 cx_451
                      have rR_462 : RowR S_414 x (3 * a1_z + 1).toNat ((qe (folF Ev dn_235 (we (wdr (wg (ticB Ev Rl A) (capG (qg (ticB Ev Rl A)) ((qe (ticB Ev Rl A)).map (fun c => (c, qpl (ticB Ev Rl A) c))))) (qdr (ticB Ev Rl A) + 1)) [])) ++ rs_236).eraseIdx (i4_221_z).toNat) := RowR_goes rR_412 g_425 (by have := rR_412.1; omega)
                      have rR_463 : RowR S_445 x (3 * a1_z + 1).toNat ((qe (folF Ev dn_235 (we (wdr (wg (ticB Ev Rl A) (capG (qg (ticB Ev Rl A)) ((qe (ticB Ev Rl A)).map (fun c => (c, qpl (ticB Ev Rl A) c))))) (qdr (ticB Ev Rl A) + 1)) [])) ++ rs_236).eraseIdx (i4_221_z).toNat) := RowR_cmx hO_416.1 t_438 (by omega) rR_462 cx_451
                      have rR_464 : RowR S_414 x (3 * a1_z + 2).toNat (ql (folF Ev dn_235 (we (wdr (wg (ticB Ev Rl A) (capG (qg (ticB Ev Rl A)) ((qe (ticB Ev Rl A)).map (fun c => (c, qpl (ticB Ev Rl A) c))))) (qdr (ticB Ev Rl A) + 1)) []))) := RowR_gox hO_367.1 t_386 (by omega) rR_406 g_425
                      have cap_466 : ((ql (folF Ev dn_235 (we (wdr (wg (ticB Ev Rl A) (capG (qg (ticB Ev Rl A)) ((qe (ticB Ev Rl A)).map (fun c => (c, qpl (ticB Ev Rl A) c))))) (qdr (ticB Ev Rl A) + 1)) [])))).length < 600 := by have h1 := rR_464.1; have h2 := cx_451.2.2.2.1; omega
                      have rR_465 : RowR S_445 x (3 * a1_z + 2).toNat ((ql (folF Ev dn_235 (we (wdr (wg (ticB Ev Rl A) (capG (qg (ticB Ev Rl A)) ((qe (ticB Ev Rl A)).map (fun c => (c, qpl (ticB Ev Rl A) c))))) (qdr (ticB Ev Rl A) + 1)) []))) ++ [c_348]) := RowR_last rR_464 (show CmO S_414 S_445 x (3 * a1_z + 2).toNat ((ql (folF Ev dn_235 (we (wdr (wg (ticB Ev Rl A) (capG (qg (ticB Ev Rl A)) ((qe (ticB Ev Rl A)).map (fun c => (c, qpl (ticB Ev Rl A) c))))) (qdr (ticB Ev Rl A) + 1)) [])))).length (rr_413.toInt) by rw [show ((ql (folF Ev dn_235 (we (wdr (wg (ticB Ev Rl A) (capG (qg (ticB Ev Rl A)) ((qe (ticB Ev Rl A)).map (fun c => (c, qpl (ticB Ev Rl A) c))))) (qdr (ticB Ev Rl A) + 1)) [])))).length = (rr_439.toInt).toNat by have := rR_464.1; omega]; exact cx_451) dn_428
                      have zR_467 : zA S_366 x 1215 a1_z.toNat = ((qst (folF Ev dn_235 (we (wdr (wg (ticB Ev Rl A) (capG (qg (ticB Ev Rl A)) ((qe (ticB Ev Rl A)).map (fun c => (c, qpl (ticB Ev Rl A) c))))) (qdr (ticB Ev Rl A) + 1)) [])))).toInt := (congrFun (zA_sAn eS_366 (ex3 (gQ_12_1215 hO_T_222.1 ha_x_L_223)) h_357 rfl) _).trans fw_264
                      have zR_468 : zA S_414 x 1215 a1_z.toNat = ((qst (folF Ev dn_235 (we (wdr (wg (ticB Ev Rl A) (capG (qg (ticB Ev Rl A)) ((qe (ticB Ev Rl A)).map (fun c => (c, qpl (ticB Ev Rl A) c))))) (qdr (ticB Ev Rl A) + 1)) [])))).toInt := (congrFun (zA_fr hk_415.fr t_386 (ex3 (gQ_12_1215 hO_367.1 t_386)) (by decide +kernel) (by decide +kernel)) _).trans zR_467
                      have zR_469 : zA S_445 x 1215 a1_z.toNat = ((qst (folF Ev dn_235 (we (wdr (wg (ticB Ev Rl A) (capG (qg (ticB Ev Rl A)) ((qe (ticB Ev Rl A)).map (fun c => (c, qpl (ticB Ev Rl A) c))))) (qdr (ticB Ev Rl A) + 1)) [])))).toInt := (congrFun (zA_fr hk_446.fr t_438 (ex3 (gQ_12_1215 hO_416.1 t_438)) (by decide +kernel) (by decide +kernel)) _).trans zR_468
                      have zR_470 : zA S_366 x 1214 a1_z.toNat = ((qse (folF Ev dn_235 (we (wdr (wg (ticB Ev Rl A) (capG (qg (ticB Ev Rl A)) ((qe (ticB Ev Rl A)).map (fun c => (c, qpl (ticB Ev Rl A) c))))) (qdr (ticB Ev Rl A) + 1)) [])))).toInt := (congrFun (zA_sAn eS_366 (ex3 (gQ_12_1214 hO_T_222.1 ha_x_L_223)) h_357 rfl) _).trans fw_265
                      have zR_471 : zA S_414 x 1214 a1_z.toNat = ((qse (folF Ev dn_235 (we (wdr (wg (ticB Ev Rl A) (capG (qg (ticB Ev Rl A)) ((qe (ticB Ev Rl A)).map (fun c => (c, qpl (ticB Ev Rl A) c))))) (qdr (ticB Ev Rl A) + 1)) [])))).toInt := (congrFun (zA_fr hk_415.fr t_386 (ex3 (gQ_12_1214 hO_367.1 t_386)) (by decide +kernel) (by decide +kernel)) _).trans zR_470
                      have zR_472 : zA S_445 x 1214 a1_z.toNat = ((qse (folF Ev dn_235 (we (wdr (wg (ticB Ev Rl A) (capG (qg (ticB Ev Rl A)) ((qe (ticB Ev Rl A)).map (fun c => (c, qpl (ticB Ev Rl A) c))))) (qdr (ticB Ev Rl A) + 1)) [])))).toInt := (congrFun (zA_fr hk_446.fr t_438 (ex3 (gQ_12_1214 hO_416.1 t_438)) (by decide +kernel) (by decide +kernel)) _).trans zR_471
                      have zR_473 : zA S_366 x 1216 a1_z.toNat = ((qdr (folF Ev dn_235 (we (wdr (wg (ticB Ev Rl A) (capG (qg (ticB Ev Rl A)) ((qe (ticB Ev Rl A)).map (fun c => (c, qpl (ticB Ev Rl A) c))))) (qdr (ticB Ev Rl A) + 1)) [])))).toInt := (congrFun (zA_sAn eS_366 (ex3 (gQ_12_1216 hO_T_222.1 ha_x_L_223)) h_357 rfl) _).trans fw_266
                      have zR_474 : zA S_414 x 1216 a1_z.toNat = ((qdr (folF Ev dn_235 (we (wdr (wg (ticB Ev Rl A) (capG (qg (ticB Ev Rl A)) ((qe (ticB Ev Rl A)).map (fun c => (c, qpl (ticB Ev Rl A) c))))) (qdr (ticB Ev Rl A) + 1)) [])))).toInt := (congrFun (zA_fr hk_415.fr t_386 (ex3 (gQ_12_1216 hO_367.1 t_386)) (by decide +kernel) (by decide +kernel)) _).trans zR_473
                      have zR_475 : zA S_445 x 1216 a1_z.toNat = ((qdr (folF Ev dn_235 (we (wdr (wg (ticB Ev Rl A) (capG (qg (ticB Ev Rl A)) ((qe (ticB Ev Rl A)).map (fun c => (c, qpl (ticB Ev Rl A) c))))) (qdr (ticB Ev Rl A) + 1)) [])))).toInt := (congrFun (zA_fr hk_446.fr t_438 (ex3 (gQ_12_1216 hO_416.1 t_438)) (by decide +kernel) (by decide +kernel)) _).trans zR_474
                      have zR_476 : zA S_366 x 1217 a1_z.toNat = ((qtk (folF Ev dn_235 (we (wdr (wg (ticB Ev Rl A) (capG (qg (ticB Ev Rl A)) ((qe (ticB Ev Rl A)).map (fun c => (c, qpl (ticB Ev Rl A) c))))) (qdr (ticB Ev Rl A) + 1)) [])))).toInt := (congrFun (zA_sAn eS_366 (ex3 (gQ_12_1217 hO_T_222.1 ha_x_L_223)) h_357 rfl) _).trans fw_267
                      have zR_477 : zA S_414 x 1217 a1_z.toNat = ((qtk (folF Ev dn_235 (we (wdr (wg (ticB Ev Rl A) (capG (qg (ticB Ev Rl A)) ((qe (ticB Ev Rl A)).map (fun c => (c, qpl (ticB Ev Rl A) c))))) (qdr (ticB Ev Rl A) + 1)) [])))).toInt := (congrFun (zA_fr hk_415.fr t_386 (ex3 (gQ_12_1217 hO_367.1 t_386)) (by decide +kernel) (by decide +kernel)) _).trans zR_476
                      have zR_478 : zA S_445 x 1217 a1_z.toNat = ((qtk (folF Ev dn_235 (we (wdr (wg (ticB Ev Rl A) (capG (qg (ticB Ev Rl A)) ((qe (ticB Ev Rl A)).map (fun c => (c, qpl (ticB Ev Rl A) c))))) (qdr (ticB Ev Rl A) + 1)) [])))).toInt := (congrFun (zA_fr hk_446.fr t_438 (ex3 (gQ_12_1217 hO_416.1 t_438)) (by decide +kernel) (by decide +kernel)) _).trans zR_477
                      have gR_479 : GrW S_366 x a1_z.toNat (qg (folF Ev dn_235 (we (wdr (wg (ticB Ev Rl A) (capG (qg (ticB Ev Rl A)) ((qe (ticB Ev Rl A)).map (fun c => (c, qpl (ticB Ev Rl A) c))))) (qdr (ticB Ev Rl A) + 1)) []))) := GrW_eq (zA_sAn eS_366 (ex3 (gQ_12_1235 hO_T_222.1 ha_x_L_223)) h_357 rfl) (zA_sAn eS_366 (ex3 (gQ_12_1236 hO_T_222.1 ha_x_L_223)) h_357 rfl) (congrFun (zA_sAn eS_366 (ex3 (gQ_12_1237 hO_T_222.1 ha_x_L_223)) h_357 rfl) _) fw_268
                      have gR_480 : GrW S_414 x a1_z.toNat (qg (folF Ev dn_235 (we (wdr (wg (ticB Ev Rl A) (capG (qg (ticB Ev Rl A)) ((qe (ticB Ev Rl A)).map (fun c => (c, qpl (ticB Ev Rl A) c))))) (qdr (ticB Ev Rl A) + 1)) []))) := GrW_eq (zA_fr hk_415.fr t_386 (ex3 (gQ_12_1235 hO_367.1 t_386)) (by decide +kernel) (by decide +kernel)) (zA_fr hk_415.fr t_386 (ex3 (gQ_12_1236 hO_367.1 t_386)) (by decide +kernel) (by decide +kernel)) (congrFun (zA_fr hk_415.fr t_386 (ex3 (gQ_12_1237 hO_367.1 t_386)) (by decide +kernel) (by decide +kernel)) _) gR_479
                      have gR_481 : GrW S_445 x a1_z.toNat (qg (folF Ev dn_235 (we (wdr (wg (ticB Ev Rl A) (capG (qg (ticB Ev Rl A)) ((qe (ticB Ev Rl A)).map (fun c => (c, qpl (ticB Ev Rl A) c))))) (qdr (ticB Ev Rl A) + 1)) []))) := GrW_eq (zA_fr hk_446.fr t_438 (ex3 (gQ_12_1235 hO_416.1 t_438)) (by decide +kernel) (by decide +kernel)) (zA_fr hk_446.fr t_438 (ex3 (gQ_12_1236 hO_416.1 t_438)) (by decide +kernel) (by decide +kernel)) (congrFun (zA_fr hk_446.fr t_438 (ex3 (gQ_12_1237 hO_416.1 t_438)) (by decide +kernel) (by decide +kernel)) _) gR_480
                      have pz_482 : PlZ S_366 x (fuI (qpl (folF Ev dn_235 (we (wdr (wg (ticB Ev Rl A) (capG (qg (ticB Ev Rl A)) ((qe (ticB Ev Rl A)).map (fun c => (c, qpl (ticB Ev Rl A) c))))) (qdr (ticB Ev Rl A) + 1)) []))) c_348 (qpl (folF Ev dn_235 (we (wdr (wg (ticB Ev Rl A) (capG (qg (ticB Ev Rl A)) ((qe (ticB Ev Rl A)).map (fun c => (c, qpl (ticB Ev Rl A) c))))) (qdr (ticB Ev Rl A) + 1)) [])) c_348 + 1)) (qsd (folF Ev dn_235 (we (wdr (wg (ticB Ev Rl A) (capG (qg (ticB Ev Rl A)) ((qe (ticB Ev Rl A)).map (fun c => (c, qpl (ticB Ev Rl A) c))))) (qdr (ticB Ev Rl A) + 1)) []))) := PlZ_8 fw_263 (zA_sAn eS_366 (ex3 (gQ_12_1207 hO_T_222.1 ha_x_L_223)) h_357 rfl) zs_382 (by omega) (z_365.symm.trans (congrArg Int32.toInt (ev_364.trans (by rw [up_363]))))
                      have pz_483 : PlZ S_414 x (fuI (qpl (folF Ev dn_235 (we (wdr (wg (ticB Ev Rl A) (capG (qg (ticB Ev Rl A)) ((qe (ticB Ev Rl A)).map (fun c => (c, qpl (ticB Ev Rl A) c))))) (qdr (ticB Ev Rl A) + 1)) []))) c_348 (qpl (folF Ev dn_235 (we (wdr (wg (ticB Ev Rl A) (capG (qg (ticB Ev Rl A)) ((qe (ticB Ev Rl A)).map (fun c => (c, qpl (ticB Ev Rl A) c))))) (qdr (ticB Ev Rl A) + 1)) [])) c_348 + 1)) (qsd (folF Ev dn_235 (we (wdr (wg (ticB Ev Rl A) (capG (qg (ticB Ev Rl A)) ((qe (ticB Ev Rl A)).map (fun c => (c, qpl (ticB Ev Rl A) c))))) (qdr (ticB Ev Rl A) + 1)) []))) := PlZ_eq pz_482 (zA_fr hk_415.fr t_386 (ex3 (gQ_12_1208 hO_367.1 t_386)) (by decide +kernel) (by decide +kernel)) (zA_fr hk_415.fr t_386 (ex3 (gQ_12_1207 hO_367.1 t_386)) (by decide +kernel) (by decide +kernel))
                      have pz_484 : PlZ S_445 x (fuI (qpl (folF Ev dn_235 (we (wdr (wg (ticB Ev Rl A) (capG (qg (ticB Ev Rl A)) ((qe (ticB Ev Rl A)).map (fun c => (c, qpl (ticB Ev Rl A) c))))) (qdr (ticB Ev Rl A) + 1)) []))) c_348 (qpl (folF Ev dn_235 (we (wdr (wg (ticB Ev Rl A) (capG (qg (ticB Ev Rl A)) ((qe (ticB Ev Rl A)).map (fun c => (c, qpl (ticB Ev Rl A) c))))) (qdr (ticB Ev Rl A) + 1)) [])) c_348 + 1)) (fuI (qsd (folF Ev dn_235 (we (wdr (wg (ticB Ev Rl A) (capG (qg (ticB Ev Rl A)) ((qe (ticB Ev Rl A)).map (fun c => (c, qpl (ticB Ev Rl A) c))))) (qdr (ticB Ev Rl A) + 1)) []))) c_348 3) := PlZ_7 pz_483 (zA_fr hk_446.fr t_438 (ex3 (gQ_12_1208 hO_416.1 t_438)) (by decide +kernel) (by decide +kernel)) cs_450 (by omega) (by decide)
                      have t_485 : pI S_366 1238 x = v_251 := tI_sA eS_366 ev_251
                      have t_486 : pI S_414 1238 x = v_251 := hk_415.fr.I' (by decide +kernel) t_386 t_485
                      have t_487 : pI S_445 1238 x = v_251 := hk_446.fr.I' (by decide +kernel) t_438 t_486
                      have pz_488 : (pI S_445 1238 x).toInt = v_251.toInt := (congrArg Int32.toInt t_487).trans rfl
                      have kR_489 : SkW S_366 x (qsk (folF Ev dn_235 (we (wdr (wg (ticB Ev Rl A) (capG (qg (ticB Ev Rl A)) ((qe (ticB Ev Rl A)).map (fun c => (c, qpl (ticB Ev Rl A) c))))) (qdr (ticB Ev Rl A) + 1)) []))) := SkW_n (by rw [eS_366]; rfl) ⟨zA_sAn eS_366 (ex3 (gQ_12_1235 hO_T_222.1 ha_x_L_223)) h_357 rfl, zA_sAn eS_366 (ex3 (gQ_12_1236 hO_T_222.1 ha_x_L_223)) h_357 rfl, zA_sAn eS_366 (ex3 (gQ_12_1239 hO_T_222.1 ha_x_L_223)) h_357 rfl, zA_sAn eS_366 (ex3 (gQ_12_1240 hO_T_222.1 ha_x_L_223)) h_357 rfl, zA_sAn eS_366 (ex3 (gQ_12_1241 hO_T_222.1 ha_x_L_223)) h_357 rfl, zA_sAn eS_366 (ex3 (gQ_12_1242 hO_T_222.1 ha_x_L_223)) h_357 rfl⟩ fw_269
                      have kR_490 : SkW S_414 x (qsk (folF Ev dn_235 (we (wdr (wg (ticB Ev Rl A) (capG (qg (ticB Ev Rl A)) ((qe (ticB Ev Rl A)).map (fun c => (c, qpl (ticB Ev Rl A) c))))) (qdr (ticB Ev Rl A) + 1)) []))) := SkW_n (congrArg Int32.toInt (hk_415.fr.I' (by decide +kernel) t_386 rfl)) ⟨zA_fr hk_415.fr t_386 (ex3 (gQ_12_1235 hO_367.1 t_386)) (by decide +kernel) (by decide +kernel), zA_fr hk_415.fr t_386 (ex3 (gQ_12_1236 hO_367.1 t_386)) (by decide +kernel) (by decide +kernel), zA_fr hk_415.fr t_386 (ex3 (gQ_12_1239 hO_367.1 t_386)) (by decide +kernel) (by decide +kernel), zA_fr hk_415.fr t_386 (ex3 (gQ_12_1240 hO_367.1 t_386)) (by decide +kernel) (by decide +kernel), zA_fr hk_415.fr t_386 (ex3 (gQ_12_1241 hO_367.1 t_386)) (by decide +kernel) (by decide +kernel), zA_fr hk_415.fr t_386 (ex3 (gQ_12_1242 hO_367.1 t_386)) (by decide +kernel) (by decide +kernel)⟩ kR_489
                      have kR_491 : SkW S_445 x (qsk (folF Ev dn_235 (we (wdr (wg (ticB Ev Rl A) (capG (qg (ticB Ev Rl A)) ((qe (ticB Ev Rl A)).map (fun c => (c, qpl (ticB Ev Rl A) c))))) (qdr (ticB Ev Rl A) + 1)) []))) := SkW_n (congrArg Int32.toInt (hk_446.fr.I' (by decide +kernel) t_438 rfl)) ⟨zA_fr hk_446.fr t_438 (ex3 (gQ_12_1235 hO_416.1 t_438)) (by decide +kernel) (by decide +kernel), zA_fr hk_446.fr t_438 (ex3 (gQ_12_1236 hO_416.1 t_438)) (by decide +kernel) (by decide +kernel), zA_fr hk_446.fr t_438 (ex3 (gQ_12_1239 hO_416.1 t_438)) (by decide +kernel) (by decide +kernel), zA_fr hk_446.fr t_438 (ex3 (gQ_12_1240 hO_416.1 t_438)) (by decide +kernel) (by decide +kernel), zA_fr hk_446.fr t_438 (ex3 (gQ_12_1241 hO_416.1 t_438)) (by decide +kernel) (by decide +kernel), zA_fr hk_446.fr t_438 (ex3 (gQ_12_1242 hO_416.1 t_438)) (by decide +kernel) (by decide +kernel)⟩ kR_490
                      have px_492 : PwX S S_366 x a1_z := PwX_to iv_229 (zA_sAn eS_366 (ex3 (gQ_12_1218 hO_T_222.1 ha_x_L_223)) h_357 rfl) (zA_sAn eS_366 (ex3 (gQ_12_1219 hO_T_222.1 ha_x_L_223)) h_357 rfl) (zA_sAn eS_366 (ex3 (gQ_12_1235 hO_T_222.1 ha_x_L_223)) h_357 rfl) (zA_sAn eS_366 (ex3 (gQ_12_1236 hO_T_222.1 ha_x_L_223)) h_357 rfl) (pw5 (zA_sAn eS_366 (ex3 (gQ_12_1214 hO_T_222.1 ha_x_L_223)) h_357 rfl) (zA_sAn eS_366 (ex3 (gQ_12_1215 hO_T_222.1 ha_x_L_223)) h_357 rfl) (zA_sAn eS_366 (ex3 (gQ_12_1216 hO_T_222.1 ha_x_L_223)) h_357 rfl) (zA_sAn eS_366 (ex3 (gQ_12_1217 hO_T_222.1 ha_x_L_223)) h_357 rfl) (zA_sAn eS_366 (ex3 (gQ_12_1237 hO_T_222.1 ha_x_L_223)) h_357 rfl))
                      have px_493 : PwX S S_414 x a1_z := PwX_go px_492 hO_367.1 t_386 (by omega) g_425 (zA_fr hk_415.fr t_386 (ex3 (gQ_12_1235 hO_367.1 t_386)) (by decide +kernel) (by decide +kernel)) (zA_fr hk_415.fr t_386 (ex3 (gQ_12_1236 hO_367.1 t_386)) (by decide +kernel) (by decide +kernel)) (pw5 (zA_fr hk_415.fr t_386 (ex3 (gQ_12_1214 hO_367.1 t_386)) (by decide +kernel) (by decide +kernel)) (zA_fr hk_415.fr t_386 (ex3 (gQ_12_1215 hO_367.1 t_386)) (by decide +kernel) (by decide +kernel)) (zA_fr hk_415.fr t_386 (ex3 (gQ_12_1216 hO_367.1 t_386)) (by decide +kernel) (by decide +kernel)) (zA_fr hk_415.fr t_386 (ex3 (gQ_12_1217 hO_367.1 t_386)) (by decide +kernel) (by decide +kernel)) (zA_fr hk_415.fr t_386 (ex3 (gQ_12_1237 hO_367.1 t_386)) (by decide +kernel) (by decide +kernel)))
                      have px_494 : PwX S S_445 x a1_z := PwX_cm px_493 hO_416.1 t_438 (by omega) cx_451 (zA_fr hk_446.fr t_438 (ex3 (gQ_12_1235 hO_416.1 t_438)) (by decide +kernel) (by decide +kernel)) (zA_fr hk_446.fr t_438 (ex3 (gQ_12_1236 hO_416.1 t_438)) (by decide +kernel) (by decide +kernel)) (pw5 (zA_fr hk_446.fr t_438 (ex3 (gQ_12_1214 hO_416.1 t_438)) (by decide +kernel) (by decide +kernel)) (zA_fr hk_446.fr t_438 (ex3 (gQ_12_1215 hO_416.1 t_438)) (by decide +kernel) (by decide +kernel)) (zA_fr hk_446.fr t_438 (ex3 (gQ_12_1216 hO_416.1 t_438)) (by decide +kernel) (by decide +kernel)) (zA_fr hk_446.fr t_438 (ex3 (gQ_12_1217 hO_416.1 t_438)) (by decide +kernel) (by decide +kernel)) (zA_fr hk_446.fr t_438 (ex3 (gQ_12_1237 hO_416.1 t_438)) (by decide +kernel) (by decide +kernel)))
                      have t_495 : pI S_445 1201 x = v_1 := hk_446.fr.I' (by decide +kernel) t_438 t_429
                      exact ih_L_220 _ (by omega) _ _ _ _ (i4_221) (i4_221_z) rfl hw hz_i4_221 (by omega) t_453 hO_447 zc_456 mi_448 zm_459 ⟨dn_235 ++ [c_348], t_349, (by rw [List.append_assoc]; exact (by rw [ed_237, er_350]; rfl)), (by rw [show we (folF Ev (dn_235 ++ [c_348]) (we (wdr (wg (ticB Ev Rl A) (capG (qg (ticB Ev Rl A)) ((qe (ticB Ev Rl A)).map (fun c => (c, qpl (ticB Ev Rl A) c))))) (qdr (ticB Ev Rl A) + 1)) [])) (qe (folF Ev (dn_235 ++ [c_348]) (we (wdr (wg (ticB Ev Rl A) (capG (qg (ticB Ev Rl A)) ((qe (ticB Ev Rl A)).map (fun c => (c, qpl (ticB Ev Rl A) c))))) (qdr (ticB Ev Rl A) + 1)) [])) ++ t_349) = (we (wl (wsd (wpl (folF Ev dn_235 (we (wdr (wg (ticB Ev Rl A) (capG (qg (ticB Ev Rl A)) ((qe (ticB Ev Rl A)).map (fun c => (c, qpl (ticB Ev Rl A) c))))) (qdr (ticB Ev Rl A) + 1)) [])) (fuI (qpl (folF Ev dn_235 (we (wdr (wg (ticB Ev Rl A) (capG (qg (ticB Ev Rl A)) ((qe (ticB Ev Rl A)).map (fun c => (c, qpl (ticB Ev Rl A) c))))) (qdr (ticB Ev Rl A) + 1)) []))) c_348 (qpl (folF Ev dn_235 (we (wdr (wg (ticB Ev Rl A) (capG (qg (ticB Ev Rl A)) ((qe (ticB Ev Rl A)).map (fun c => (c, qpl (ticB Ev Rl A) c))))) (qdr (ticB Ev Rl A) + 1)) [])) c_348 + 1))) (fuI (qsd (folF Ev dn_235 (we (wdr (wg (ticB Ev Rl A) (capG (qg (ticB Ev Rl A)) ((qe (ticB Ev Rl A)).map (fun c => (c, qpl (ticB Ev Rl A) c))))) (qdr (ticB Ev Rl A) + 1)) []))) c_348 (sdV Ev (folF Ev dn_235 (we (wdr (wg (ticB Ev Rl A) (capG (qg (ticB Ev Rl A)) ((qe (ticB Ev Rl A)).map (fun c => (c, qpl (ticB Ev Rl A) c))))) (qdr (ticB Ev Rl A) + 1)) [])) c_348))) (capL 600 (ql (folF Ev dn_235 (we (wdr (wg (ticB Ev Rl A) (capG (qg (ticB Ev Rl A)) ((qe (ticB Ev Rl A)).map (fun c => (c, qpl (ticB Ev Rl A) c))))) (qdr (ticB Ev Rl A) + 1)) []))) c_348)) (qe (folF Ev dn_235 (we (wdr (wg (ticB Ev Rl A) (capG (qg (ticB Ev Rl A)) ((qe (ticB Ev Rl A)).map (fun c => (c, qpl (ticB Ev Rl A) c))))) (qdr (ticB Ev Rl A) + 1)) [])) ++ t_349)) by rw [fol_s, endK_3 bs_408]; rfl]; exact PotW_of (rfl : (we (wl (wsd (wpl (folF Ev dn_235 (we (wdr (wg (ticB Ev Rl A) (capG (qg (ticB Ev Rl A)) ((qe (ticB Ev Rl A)).map (fun c => (c, qpl (ticB Ev Rl A) c))))) (qdr (ticB Ev Rl A) + 1)) [])) (fuI (qpl (folF Ev dn_235 (we (wdr (wg (ticB Ev Rl A) (capG (qg (ticB Ev Rl A)) ((qe (ticB Ev Rl A)).map (fun c => (c, qpl (ticB Ev Rl A) c))))) (qdr (ticB Ev Rl A) + 1)) []))) c_348 (qpl (folF Ev dn_235 (we (wdr (wg (ticB Ev Rl A) (capG (qg (ticB Ev Rl A)) ((qe (ticB Ev Rl A)).map (fun c => (c, qpl (ticB Ev Rl A) c))))) (qdr (ticB Ev Rl A) + 1)) [])) c_348 + 1))) (fuI (qsd (folF Ev dn_235 (we (wdr (wg (ticB Ev Rl A) (capG (qg (ticB Ev Rl A)) ((qe (ticB Ev Rl A)).map (fun c => (c, qpl (ticB Ev Rl A) c))))) (qdr (ticB Ev Rl A) + 1)) []))) c_348 (sdV Ev (folF Ev dn_235 (we (wdr (wg (ticB Ev Rl A) (capG (qg (ticB Ev Rl A)) ((qe (ticB Ev Rl A)).map (fun c => (c, qpl (ticB Ev Rl A) c))))) (qdr (ticB Ev Rl A) + 1)) [])) c_348))) (capL 600 (ql (folF Ev dn_235 (we (wdr (wg (ticB Ev Rl A) (capG (qg (ticB Ev Rl A)) ((qe (ticB Ev Rl A)).map (fun c => (c, qpl (ticB Ev Rl A) c))))) (qdr (ticB Ev Rl A) + 1)) []))) c_348)) (qe (folF Ev dn_235 (we (wdr (wg (ticB Ev Rl A) (capG (qg (ticB Ev Rl A)) ((qe (ticB Ev Rl A)).map (fun c => (c, qpl (ticB Ev Rl A) c))))) (qdr (ticB Ev Rl A) + 1)) [])) ++ t_349)) = (we (wl (wsd (wpl (folF Ev dn_235 (we (wdr (wg (ticB Ev Rl A) (capG (qg (ticB Ev Rl A)) ((qe (ticB Ev Rl A)).map (fun c => (c, qpl (ticB Ev Rl A) c))))) (qdr (ticB Ev Rl A) + 1)) [])) (fuI (qpl (folF Ev dn_235 (we (wdr (wg (ticB Ev Rl A) (capG (qg (ticB Ev Rl A)) ((qe (ticB Ev Rl A)).map (fun c => (c, qpl (ticB Ev Rl A) c))))) (qdr (ticB Ev Rl A) + 1)) []))) c_348 (qpl (folF Ev dn_235 (we (wdr (wg (ticB Ev Rl A) (capG (qg (ticB Ev Rl A)) ((qe (ticB Ev Rl A)).map (fun c => (c, qpl (ticB Ev Rl A) c))))) (qdr (ticB Ev Rl A) + 1)) [])) c_348 + 1))) (fuI (qsd (folF Ev dn_235 (we (wdr (wg (ticB Ev Rl A) (capG (qg (ticB Ev Rl A)) ((qe (ticB Ev Rl A)).map (fun c => (c, qpl (ticB Ev Rl A) c))))) (qdr (ticB Ev Rl A) + 1)) []))) c_348 (sdV Ev (folF Ev dn_235 (we (wdr (wg (ticB Ev Rl A) (capG (qg (ticB Ev Rl A)) ((qe (ticB Ev Rl A)).map (fun c => (c, qpl (ticB Ev Rl A) c))))) (qdr (ticB Ev Rl A) + 1)) [])) c_348))) (capL 600 (ql (folF Ev dn_235 (we (wdr (wg (ticB Ev Rl A) (capG (qg (ticB Ev Rl A)) ((qe (ticB Ev Rl A)).map (fun c => (c, qpl (ticB Ev Rl A) c))))) (qdr (ticB Ev Rl A) + 1)) []))) c_348)) (qe (folF Ev dn_235 (we (wdr (wg (ticB Ev Rl A) (capG (qg (ticB Ev Rl A)) ((qe (ticB Ev Rl A)).map (fun c => (c, qpl (ticB Ev Rl A) c))))) (qdr (ticB Ev Rl A) + 1)) [])) ++ t_349))) rR_461 (show RowR S_445 x (3 * a1_z + 1).toNat (qe (folF Ev dn_235 (we (wdr (wg (ticB Ev Rl A) (capG (qg (ticB Ev Rl A)) ((qe (ticB Ev Rl A)).map (fun c => (c, qpl (ticB Ev Rl A) c))))) (qdr (ticB Ev Rl A) + 1)) [])) ++ t_349) by rw [show (qe (folF Ev dn_235 (we (wdr (wg (ticB Ev Rl A) (capG (qg (ticB Ev Rl A)) ((qe (ticB Ev Rl A)).map (fun c => (c, qpl (ticB Ev Rl A) c))))) (qdr (ticB Ev Rl A) + 1)) [])) ++ t_349) = ((qe (folF Ev dn_235 (we (wdr (wg (ticB Ev Rl A) (capG (qg (ticB Ev Rl A)) ((qe (ticB Ev Rl A)).map (fun c => (c, qpl (ticB Ev Rl A) c))))) (qdr (ticB Ev Rl A) + 1)) [])) ++ rs_236).eraseIdx (i4_221_z).toNat) from (by rw [er_350, show ((i4_221_z : Int)).toNat = (qe (folF Ev dn_235 (we (wdr (wg (ticB Ev Rl A) (capG (qg (ticB Ev Rl A)) ((qe (ticB Ev Rl A)).map (fun c => (c, qpl (ticB Ev Rl A) c))))) (qdr (ticB Ev Rl A) + 1)) []))).length by omega]; exact er_app.symm)]; exact rR_463) (show RowR S_445 x (3 * a1_z + 2).toNat (capL 600 (ql (folF Ev dn_235 (we (wdr (wg (ticB Ev Rl A) (capG (qg (ticB Ev Rl A)) ((qe (ticB Ev Rl A)).map (fun c => (c, qpl (ticB Ev Rl A) c))))) (qdr (ticB Ev Rl A) + 1)) []))) c_348) by rw [capL_y (by have := rR_406.1; omega)]; exact rR_465) zR_469 zR_472 gR_481 zR_475 zR_478 kR_491 (show PlZ S_445 x (fuI (qpl (folF Ev dn_235 (we (wdr (wg (ticB Ev Rl A) (capG (qg (ticB Ev Rl A)) ((qe (ticB Ev Rl A)).map (fun c => (c, qpl (ticB Ev Rl A) c))))) (qdr (ticB Ev Rl A) + 1)) []))) c_348 (qpl (folF Ev dn_235 (we (wdr (wg (ticB Ev Rl A) (capG (qg (ticB Ev Rl A)) ((qe (ticB Ev Rl A)).map (fun c => (c, qpl (ticB Ev Rl A) c))))) (qdr (ticB Ev Rl A) + 1)) [])) c_348 + 1)) (fuI (qsd (folF Ev dn_235 (we (wdr (wg (ticB Ev Rl A) (capG (qg (ticB Ev Rl A)) ((qe (ticB Ev Rl A)).map (fun c => (c, qpl (ticB Ev Rl A) c))))) (qdr (ticB Ev Rl A) + 1)) []))) c_348 (sdV Ev (folF Ev dn_235 (we (wdr (wg (ticB Ev Rl A) (capG (qg (ticB Ev Rl A)) ((qe (ticB Ev Rl A)).map (fun c => (c, qpl (ticB Ev Rl A) c))))) (qdr (ticB Ev Rl A) + 1)) [])) c_348)) by rw [bs_408]; exact pz_484)), (by rw [fol_s, endK_3 bs_408]; show _ = ((qe (folF Ev dn_235 (we (wdr (wg (ticB Ev Rl A) (capG (qg (ticB Ev Rl A)) ((qe (ticB Ev Rl A)).map (fun c => (c, qpl (ticB Ev Rl A) c))))) (qdr (ticB Ev Rl A) + 1)) []))).length : Int); omega)⟩ px_494 t_495 (lv_sub hl [1, 2, 3, 4, 5] rfl)
                    · have z_b_496 := trivial
                      refine lv_if_eq (tgt := 373) X.1 X.2.1 dX12_tick_347 (by decide) (fun c_497 => ?_) (fun c_497 => absurd c_497 (by decide))
                      have pe_500 : v_398 = qpl (folF Ev dn_235 (we (wdr (wg (ticB Ev Rl A) (capG (qg (ticB Ev Rl A)) ((qe (ticB Ev Rl A)).map (fun c => (c, qpl (ticB Ev Rl A) c))))) (qdr (ticB Ev Rl A) + 1)) [])) c_348 := Int32.toInt_inj.mp (by have h1 := congrArg Int32.toInt up_363; have h2 : (v_398).toInt = ((v_359.toInt + 1) - 1) := z_399; have h3 : (v_359).toInt = v_359.toInt := rfl; omega)
                      have bk_498 : ¬ ebr Ev c_348 (qpl (folF Ev dn_235 (we (wdr (wg (ticB Ev Rl A) (capG (qg (ticB Ev Rl A)) ((qe (ticB Ev Rl A)).map (fun c => (c, qpl (ticB Ev Rl A) c))))) (qdr (ticB Ev Rl A) + 1)) [])) c_348) := by rw [(hp_5.1 c_348 (by omega)).2.2]; have h := f_402; rw [mA_fr hO_367.fr ha_x (ex3 (gQ_12_1203 hG ha_x)) (by decide +kernel) (by decide +kernel), mA_fr hO_367.fr ha_x (ex3 (gQ_12_1206 hG ha_x)) (by decide +kernel) (by decide +kernel), h8_352, pe_500] at h; exact h
                      have bs_499 : sdV Ev (folF Ev dn_235 (we (wdr (wg (ticB Ev Rl A) (capG (qg (ticB Ev Rl A)) ((qe (ticB Ev Rl A)).map (fun c => (c, qpl (ticB Ev Rl A) c))))) (qdr (ticB Ev Rl A) + 1)) [])) c_348 = qsd (folF Ev dn_235 (we (wdr (wg (ticB Ev Rl A) (capG (qg (ticB Ev Rl A)) ((qe (ticB Ev Rl A)).map (fun c => (c, qpl (ticB Ev Rl A) c))))) (qdr (ticB Ev Rl A) + 1)) [])) c_348 := sdV_s (by omega) bk_498
                      have s2_501 : sdV Ev (folF Ev dn_235 (we (wdr (wg (ticB Ev Rl A) (capG (qg (ticB Ev Rl A)) ((qe (ticB Ev Rl A)).map (fun c => (c, qpl (ticB Ev Rl A) c))))) (qdr (ticB Ev Rl A) + 1)) [])) c_348 = 2 := bs_499.trans (i32_eq e2_353 t2 rfl)
                      have q2_502 : qsd (folF Ev dn_235 (we (wdr (wg (ticB Ev Rl A) (capG (qg (ticB Ev Rl A)) ((qe (ticB Ev Rl A)).map (fun c => (c, qpl (ticB Ev Rl A) c))))) (qdr (ticB Ev Rl A) + 1)) [])) c_348 = 2 := i32_eq e2_353 t2 rfl
                      obtain ⟨x_503, ex_503⟩ : ∃ y : Int32, y = i4_221 + 1 := ⟨_, rfl⟩
                      have z_504 : x_503.toInt = i4_221_z + 1 := z_add ex_503 hz_i4_221 ti_1 (by omega) (by omega)
                      refine lv_iinc (v := x_503) (lv' := [(4, .int (x_503)), (5, .int (rr_341)), (3, .int (v_126)), (2, .int (rr_104)), (0, .ref x), (1, .int (a1))]) X.1 X.2.1 dX12_tick_373 hl (k := 1) rfl (by rw [ex_503]; rfl) (by decide) rfl (fun ls hl => ?_)
                      refine lv_goto (tgt := 267) X.1 X.2.1 dX12_tick_376 (by decide) ?_
                      have zc_505 : zA S_366 x 1237 = zA S_190 x 1237 := (zA_sAn eS_366 (ex3 (gQ_12_1237 hO_T_222.1 ha_x_L_223)) h_357 rfl).trans zk_225
                      have zm_506 : ZM S S_366 x := ZM_eq iv_227 (zA_sAn eS_366 (ex3 (gQ_12_1207 hO_T_222.1 ha_x_L_223)) h_357 rfl)
                      have rR_507 : RowR S_366 x (3 * a1_z + 0).toNat (qb (folF Ev dn_235 (we (wdr (wg (ticB Ev Rl A) (capG (qg (ticB Ev Rl A)) ((qe (ticB Ev Rl A)).map (fun c => (c, qpl (ticB Ev Rl A) c))))) (qdr (ticB Ev Rl A) + 1)) []))) := RowR_eq fw_257 (zA_sAn eS_366 (ex3 (gQ_12_1218 hO_T_222.1 ha_x_L_223)) h_357 rfl) (zA_sAn eS_366 (ex3 (gQ_12_1219 hO_T_222.1 ha_x_L_223)) h_357 rfl)
                      have rR_508 : RowR S_366 x (3 * a1_z + 1).toNat (qe (folF Ev dn_235 (we (wdr (wg (ticB Ev Rl A) (capG (qg (ticB Ev Rl A)) ((qe (ticB Ev Rl A)).map (fun c => (c, qpl (ticB Ev Rl A) c))))) (qdr (ticB Ev Rl A) + 1)) [])) ++ rs_236) := RowR_eq fw_258 (zA_sAn eS_366 (ex3 (gQ_12_1218 hO_T_222.1 ha_x_L_223)) h_357 rfl) (zA_sAn eS_366 (ex3 (gQ_12_1219 hO_T_222.1 ha_x_L_223)) h_357 rfl)
                      have rR_509 : RowR S_366 x (3 * a1_z + 2).toNat (ql (folF Ev dn_235 (we (wdr (wg (ticB Ev Rl A) (capG (qg (ticB Ev Rl A)) ((qe (ticB Ev Rl A)).map (fun c => (c, qpl (ticB Ev Rl A) c))))) (qdr (ticB Ev Rl A) + 1)) []))) := RowR_eq fw_259 (zA_sAn eS_366 (ex3 (gQ_12_1218 hO_T_222.1 ha_x_L_223)) h_357 rfl) (zA_sAn eS_366 (ex3 (gQ_12_1219 hO_T_222.1 ha_x_L_223)) h_357 rfl)
                      have zR_510 : zA S_366 x 1215 a1_z.toNat = ((qst (folF Ev dn_235 (we (wdr (wg (ticB Ev Rl A) (capG (qg (ticB Ev Rl A)) ((qe (ticB Ev Rl A)).map (fun c => (c, qpl (ticB Ev Rl A) c))))) (qdr (ticB Ev Rl A) + 1)) [])))).toInt := (congrFun (zA_sAn eS_366 (ex3 (gQ_12_1215 hO_T_222.1 ha_x_L_223)) h_357 rfl) _).trans fw_264
                      have zR_511 : zA S_366 x 1214 a1_z.toNat = ((qse (folF Ev dn_235 (we (wdr (wg (ticB Ev Rl A) (capG (qg (ticB Ev Rl A)) ((qe (ticB Ev Rl A)).map (fun c => (c, qpl (ticB Ev Rl A) c))))) (qdr (ticB Ev Rl A) + 1)) [])))).toInt := (congrFun (zA_sAn eS_366 (ex3 (gQ_12_1214 hO_T_222.1 ha_x_L_223)) h_357 rfl) _).trans fw_265
                      have zR_512 : zA S_366 x 1216 a1_z.toNat = ((qdr (folF Ev dn_235 (we (wdr (wg (ticB Ev Rl A) (capG (qg (ticB Ev Rl A)) ((qe (ticB Ev Rl A)).map (fun c => (c, qpl (ticB Ev Rl A) c))))) (qdr (ticB Ev Rl A) + 1)) [])))).toInt := (congrFun (zA_sAn eS_366 (ex3 (gQ_12_1216 hO_T_222.1 ha_x_L_223)) h_357 rfl) _).trans fw_266
                      have zR_513 : zA S_366 x 1217 a1_z.toNat = ((qtk (folF Ev dn_235 (we (wdr (wg (ticB Ev Rl A) (capG (qg (ticB Ev Rl A)) ((qe (ticB Ev Rl A)).map (fun c => (c, qpl (ticB Ev Rl A) c))))) (qdr (ticB Ev Rl A) + 1)) [])))).toInt := (congrFun (zA_sAn eS_366 (ex3 (gQ_12_1217 hO_T_222.1 ha_x_L_223)) h_357 rfl) _).trans fw_267
                      have gR_514 : GrW S_366 x a1_z.toNat (qg (folF Ev dn_235 (we (wdr (wg (ticB Ev Rl A) (capG (qg (ticB Ev Rl A)) ((qe (ticB Ev Rl A)).map (fun c => (c, qpl (ticB Ev Rl A) c))))) (qdr (ticB Ev Rl A) + 1)) []))) := GrW_eq (zA_sAn eS_366 (ex3 (gQ_12_1235 hO_T_222.1 ha_x_L_223)) h_357 rfl) (zA_sAn eS_366 (ex3 (gQ_12_1236 hO_T_222.1 ha_x_L_223)) h_357 rfl) (congrFun (zA_sAn eS_366 (ex3 (gQ_12_1237 hO_T_222.1 ha_x_L_223)) h_357 rfl) _) fw_268
                      have pz_515 : PlZ S_366 x (fuI (qpl (folF Ev dn_235 (we (wdr (wg (ticB Ev Rl A) (capG (qg (ticB Ev Rl A)) ((qe (ticB Ev Rl A)).map (fun c => (c, qpl (ticB Ev Rl A) c))))) (qdr (ticB Ev Rl A) + 1)) []))) c_348 (qpl (folF Ev dn_235 (we (wdr (wg (ticB Ev Rl A) (capG (qg (ticB Ev Rl A)) ((qe (ticB Ev Rl A)).map (fun c => (c, qpl (ticB Ev Rl A) c))))) (qdr (ticB Ev Rl A) + 1)) [])) c_348 + 1)) (qsd (folF Ev dn_235 (we (wdr (wg (ticB Ev Rl A) (capG (qg (ticB Ev Rl A)) ((qe (ticB Ev Rl A)).map (fun c => (c, qpl (ticB Ev Rl A) c))))) (qdr (ticB Ev Rl A) + 1)) []))) := PlZ_8 fw_263 (zA_sAn eS_366 (ex3 (gQ_12_1207 hO_T_222.1 ha_x_L_223)) h_357 rfl) zs_382 (by omega) (z_365.symm.trans (congrArg Int32.toInt (ev_364.trans (by rw [up_363]))))
                      have t_516 : pI S_366 1238 x = v_251 := tI_sA eS_366 ev_251
                      have pz_517 : (pI S_366 1238 x).toInt = v_251.toInt := (congrArg Int32.toInt t_516).trans rfl
                      have kR_518 : SkW S_366 x (qsk (folF Ev dn_235 (we (wdr (wg (ticB Ev Rl A) (capG (qg (ticB Ev Rl A)) ((qe (ticB Ev Rl A)).map (fun c => (c, qpl (ticB Ev Rl A) c))))) (qdr (ticB Ev Rl A) + 1)) []))) := SkW_n (by rw [eS_366]; rfl) ⟨zA_sAn eS_366 (ex3 (gQ_12_1235 hO_T_222.1 ha_x_L_223)) h_357 rfl, zA_sAn eS_366 (ex3 (gQ_12_1236 hO_T_222.1 ha_x_L_223)) h_357 rfl, zA_sAn eS_366 (ex3 (gQ_12_1239 hO_T_222.1 ha_x_L_223)) h_357 rfl, zA_sAn eS_366 (ex3 (gQ_12_1240 hO_T_222.1 ha_x_L_223)) h_357 rfl, zA_sAn eS_366 (ex3 (gQ_12_1241 hO_T_222.1 ha_x_L_223)) h_357 rfl, zA_sAn eS_366 (ex3 (gQ_12_1242 hO_T_222.1 ha_x_L_223)) h_357 rfl⟩ fw_269
                      have px_519 : PwX S S_366 x a1_z := PwX_to iv_229 (zA_sAn eS_366 (ex3 (gQ_12_1218 hO_T_222.1 ha_x_L_223)) h_357 rfl) (zA_sAn eS_366 (ex3 (gQ_12_1219 hO_T_222.1 ha_x_L_223)) h_357 rfl) (zA_sAn eS_366 (ex3 (gQ_12_1235 hO_T_222.1 ha_x_L_223)) h_357 rfl) (zA_sAn eS_366 (ex3 (gQ_12_1236 hO_T_222.1 ha_x_L_223)) h_357 rfl) (pw5 (zA_sAn eS_366 (ex3 (gQ_12_1214 hO_T_222.1 ha_x_L_223)) h_357 rfl) (zA_sAn eS_366 (ex3 (gQ_12_1215 hO_T_222.1 ha_x_L_223)) h_357 rfl) (zA_sAn eS_366 (ex3 (gQ_12_1216 hO_T_222.1 ha_x_L_223)) h_357 rfl) (zA_sAn eS_366 (ex3 (gQ_12_1217 hO_T_222.1 ha_x_L_223)) h_357 rfl) (zA_sAn eS_366 (ex3 (gQ_12_1237 hO_T_222.1 ha_x_L_223)) h_357 rfl))
                      exact ih_L_220 _ (by omega) _ _ _ _ (x_503) (x_503.toInt) rfl hw rfl (by omega) t_386 hO_367 zc_505 mi_397 zm_506 ⟨dn_235 ++ [c_348], t_349, (by rw [List.append_assoc]; exact (by rw [ed_237, er_350]; rfl)), (by rw [show we (folF Ev (dn_235 ++ [c_348]) (we (wdr (wg (ticB Ev Rl A) (capG (qg (ticB Ev Rl A)) ((qe (ticB Ev Rl A)).map (fun c => (c, qpl (ticB Ev Rl A) c))))) (qdr (ticB Ev Rl A) + 1)) [])) (qe (folF Ev (dn_235 ++ [c_348]) (we (wdr (wg (ticB Ev Rl A) (capG (qg (ticB Ev Rl A)) ((qe (ticB Ev Rl A)).map (fun c => (c, qpl (ticB Ev Rl A) c))))) (qdr (ticB Ev Rl A) + 1)) [])) ++ t_349) = (we (wsd (wpl (folF Ev dn_235 (we (wdr (wg (ticB Ev Rl A) (capG (qg (ticB Ev Rl A)) ((qe (ticB Ev Rl A)).map (fun c => (c, qpl (ticB Ev Rl A) c))))) (qdr (ticB Ev Rl A) + 1)) [])) (fuI (qpl (folF Ev dn_235 (we (wdr (wg (ticB Ev Rl A) (capG (qg (ticB Ev Rl A)) ((qe (ticB Ev Rl A)).map (fun c => (c, qpl (ticB Ev Rl A) c))))) (qdr (ticB Ev Rl A) + 1)) []))) c_348 (qpl (folF Ev dn_235 (we (wdr (wg (ticB Ev Rl A) (capG (qg (ticB Ev Rl A)) ((qe (ticB Ev Rl A)).map (fun c => (c, qpl (ticB Ev Rl A) c))))) (qdr (ticB Ev Rl A) + 1)) [])) c_348 + 1))) (fuI (qsd (folF Ev dn_235 (we (wdr (wg (ticB Ev Rl A) (capG (qg (ticB Ev Rl A)) ((qe (ticB Ev Rl A)).map (fun c => (c, qpl (ticB Ev Rl A) c))))) (qdr (ticB Ev Rl A) + 1)) []))) c_348 (sdV Ev (folF Ev dn_235 (we (wdr (wg (ticB Ev Rl A) (capG (qg (ticB Ev Rl A)) ((qe (ticB Ev Rl A)).map (fun c => (c, qpl (ticB Ev Rl A) c))))) (qdr (ticB Ev Rl A) + 1)) [])) c_348))) ((qe (folF Ev dn_235 (we (wdr (wg (ticB Ev Rl A) (capG (qg (ticB Ev Rl A)) ((qe (ticB Ev Rl A)).map (fun c => (c, qpl (ticB Ev Rl A) c))))) (qdr (ticB Ev Rl A) + 1)) [])) ++ [c_348]) ++ t_349)) by rw [fol_s, endK_2 s2_501]; rfl]; exact PotW_of (rfl : (we (wsd (wpl (folF Ev dn_235 (we (wdr (wg (ticB Ev Rl A) (capG (qg (ticB Ev Rl A)) ((qe (ticB Ev Rl A)).map (fun c => (c, qpl (ticB Ev Rl A) c))))) (qdr (ticB Ev Rl A) + 1)) [])) (fuI (qpl (folF Ev dn_235 (we (wdr (wg (ticB Ev Rl A) (capG (qg (ticB Ev Rl A)) ((qe (ticB Ev Rl A)).map (fun c => (c, qpl (ticB Ev Rl A) c))))) (qdr (ticB Ev Rl A) + 1)) []))) c_348 (qpl (folF Ev dn_235 (we (wdr (wg (ticB Ev Rl A) (capG (qg (ticB Ev Rl A)) ((qe (ticB Ev Rl A)).map (fun c => (c, qpl (ticB Ev Rl A) c))))) (qdr (ticB Ev Rl A) + 1)) [])) c_348 + 1))) (fuI (qsd (folF Ev dn_235 (we (wdr (wg (ticB Ev Rl A) (capG (qg (ticB Ev Rl A)) ((qe (ticB Ev Rl A)).map (fun c => (c, qpl (ticB Ev Rl A) c))))) (qdr (ticB Ev Rl A) + 1)) []))) c_348 (sdV Ev (folF Ev dn_235 (we (wdr (wg (ticB Ev Rl A) (capG (qg (ticB Ev Rl A)) ((qe (ticB Ev Rl A)).map (fun c => (c, qpl (ticB Ev Rl A) c))))) (qdr (ticB Ev Rl A) + 1)) [])) c_348))) ((qe (folF Ev dn_235 (we (wdr (wg (ticB Ev Rl A) (capG (qg (ticB Ev Rl A)) ((qe (ticB Ev Rl A)).map (fun c => (c, qpl (ticB Ev Rl A) c))))) (qdr (ticB Ev Rl A) + 1)) [])) ++ [c_348]) ++ t_349)) = (we (wsd (wpl (folF Ev dn_235 (we (wdr (wg (ticB Ev Rl A) (capG (qg (ticB Ev Rl A)) ((qe (ticB Ev Rl A)).map (fun c => (c, qpl (ticB Ev Rl A) c))))) (qdr (ticB Ev Rl A) + 1)) [])) (fuI (qpl (folF Ev dn_235 (we (wdr (wg (ticB Ev Rl A) (capG (qg (ticB Ev Rl A)) ((qe (ticB Ev Rl A)).map (fun c => (c, qpl (ticB Ev Rl A) c))))) (qdr (ticB Ev Rl A) + 1)) []))) c_348 (qpl (folF Ev dn_235 (we (wdr (wg (ticB Ev Rl A) (capG (qg (ticB Ev Rl A)) ((qe (ticB Ev Rl A)).map (fun c => (c, qpl (ticB Ev Rl A) c))))) (qdr (ticB Ev Rl A) + 1)) [])) c_348 + 1))) (fuI (qsd (folF Ev dn_235 (we (wdr (wg (ticB Ev Rl A) (capG (qg (ticB Ev Rl A)) ((qe (ticB Ev Rl A)).map (fun c => (c, qpl (ticB Ev Rl A) c))))) (qdr (ticB Ev Rl A) + 1)) []))) c_348 (sdV Ev (folF Ev dn_235 (we (wdr (wg (ticB Ev Rl A) (capG (qg (ticB Ev Rl A)) ((qe (ticB Ev Rl A)).map (fun c => (c, qpl (ticB Ev Rl A) c))))) (qdr (ticB Ev Rl A) + 1)) [])) c_348))) ((qe (folF Ev dn_235 (we (wdr (wg (ticB Ev Rl A) (capG (qg (ticB Ev Rl A)) ((qe (ticB Ev Rl A)).map (fun c => (c, qpl (ticB Ev Rl A) c))))) (qdr (ticB Ev Rl A) + 1)) [])) ++ [c_348]) ++ t_349))) rR_507 (show RowR S_366 x (3 * a1_z + 1).toNat ((qe (folF Ev dn_235 (we (wdr (wg (ticB Ev Rl A) (capG (qg (ticB Ev Rl A)) ((qe (ticB Ev Rl A)).map (fun c => (c, qpl (ticB Ev Rl A) c))))) (qdr (ticB Ev Rl A) + 1)) [])) ++ [c_348]) ++ t_349) by rw [List.append_assoc]; have h := rR_508; rw [er_350] at h; exact h) rR_509 zR_510 zR_511 gR_514 zR_512 zR_513 kR_518 (PlZ_st pz_515 (s2_501.trans q2_502.symm))), (by rw [fol_s, endK_2 s2_501]; show _ = ((qe (folF Ev dn_235 (we (wdr (wg (ticB Ev Rl A) (capG (qg (ticB Ev Rl A)) ((qe (ticB Ev Rl A)).map (fun c => (c, qpl (ticB Ev Rl A) c))))) (qdr (ticB Ev Rl A) + 1)) [])) ++ [c_348]).length : Int); rw [List.length_append]; show _ = (((qe (folF Ev dn_235 (we (wdr (wg (ticB Ev Rl A) (capG (qg (ticB Ev Rl A)) ((qe (ticB Ev Rl A)).map (fun c => (c, qpl (ticB Ev Rl A) c))))) (qdr (ticB Ev Rl A) + 1)) []))).length + 1 : Nat) : Int); omega)⟩ px_519 t_380 (lv_sub hl [0, 2, 3, 4, 5] rfl)
                  · have z_b_520 := trivial
                    have k_521 : (v_359.toInt + 1) = rr_389.toInt := z_eq z_365 rfl c_394
                    have s4_522 : sdV Ev (folF Ev dn_235 (we (wdr (wg (ticB Ev Rl A) (capG (qg (ticB Ev Rl A)) ((qe (ticB Ev Rl A)).map (fun c => (c, qpl (ticB Ev Rl A) c))))) (qdr (ticB Ev Rl A) + 1)) [])) c_348 = 4 := sdV_4 (by omega)
                    refine lv_aload_n X.1 X.2.1 dX12_tick_315 rfl (lv_at hl 4 rfl) ?_
                    obtain ⟨q_523, h_524, h_525, h_526⟩ := gQ_12_1207 hO_367.1 t_386
                    refine r_getR (g := 1207) X hw t_386 rfl 7 h_524 (by decide) rfl inn_X12_tick_12 (by decide) (X.2.2.2.1 (.fieldLink RX12 25 "SilkMillModel" "stand" "[I") (by decide +kernel)) rfl (gv_1207 _ _) dX12_tick_316 ?_
                    refine lv_aload_n X.1 X.2.1 dX12_tick_319 rfl (lv_at hl 4 rfl) ?_
                    refine lv_iload_n X.1 X.2.1 dX12_tick_320 rfl (lv_at hl 5 rfl) ?_
                    refine lv_iconst (v := 1) X.1 X.2.1 dX12_tick_321 (by decide) ?_
                    refine lv_iload X.1 X.2.1 dX12_tick_322 (lv_at hl 1 rfl) ?_
                    have pz_527 : (pI S_366 1201 x).toInt = v_1.toInt := (congrArg Int32.toInt t_380).trans rfl
                    have rR_528 : RowR S_366 x (3 * a1_z + 0).toNat (qb (folF Ev dn_235 (we (wdr (wg (ticB Ev Rl A) (capG (qg (ticB Ev Rl A)) ((qe (ticB Ev Rl A)).map (fun c => (c, qpl (ticB Ev Rl A) c))))) (qdr (ticB Ev Rl A) + 1)) []))) := RowR_eq fw_257 (zA_sAn eS_366 (ex3 (gQ_12_1218 hO_T_222.1 ha_x_L_223)) h_357 rfl) (zA_sAn eS_366 (ex3 (gQ_12_1219 hO_T_222.1 ha_x_L_223)) h_357 rfl)
                    have rR_529 : RowR S_366 x (3 * a1_z + 1).toNat (qe (folF Ev dn_235 (we (wdr (wg (ticB Ev Rl A) (capG (qg (ticB Ev Rl A)) ((qe (ticB Ev Rl A)).map (fun c => (c, qpl (ticB Ev Rl A) c))))) (qdr (ticB Ev Rl A) + 1)) [])) ++ rs_236) := RowR_eq fw_258 (zA_sAn eS_366 (ex3 (gQ_12_1218 hO_T_222.1 ha_x_L_223)) h_357 rfl) (zA_sAn eS_366 (ex3 (gQ_12_1219 hO_T_222.1 ha_x_L_223)) h_357 rfl)
                    have rR_530 : RowR S_366 x (3 * a1_z + 2).toNat (ql (folF Ev dn_235 (we (wdr (wg (ticB Ev Rl A) (capG (qg (ticB Ev Rl A)) ((qe (ticB Ev Rl A)).map (fun c => (c, qpl (ticB Ev Rl A) c))))) (qdr (ticB Ev Rl A) + 1)) []))) := RowR_eq fw_259 (zA_sAn eS_366 (ex3 (gQ_12_1218 hO_T_222.1 ha_x_L_223)) h_357 rfl) (zA_sAn eS_366 (ex3 (gQ_12_1219 hO_T_222.1 ha_x_L_223)) h_357 rfl)
                    refine k_i (rm := { frames := 1, cells := 0, slots := 0, locals := 48 }) (av := [.ref x, .int (a1), .int 1, .int (i4_221)]) X hw (va_runV (As := [.int (a1), .int 1, .int (i4_221)]) (rest := [.ref q_523]) (cfix X) (k_X12_goes5 l G cy κ S_366 _ x (a1) (a1_z) (1) (1) (i4_221) (i4_221_z) rr_341.toInt hO_367.1 t_386 hz_a1 ti_1 hz_i4_221 (by first | assumption | omega) (by first | assumption | omega) (by first | assumption | omega) (by first | assumption | omega) (by first | assumption | omega) (by first | assumption | omega) mi_372) (cwV 3 X.2.2.2.1 gX12_tick_X12_goes rfl rfl rfl (by decide +kernel) ⟨Nat.le_of_ble_eq_true rfl, Nat.le_of_ble_eq_true rfl⟩) (pre_V X hw _ t_386 rfl (by decide) rfl) rfl rfl hl.1 rfl (lv_room (Nat.le_of_ble_eq_true rfl)) dX12_tick_324 ⟨Nat.le_of_ble_eq_true rfl, Nat.le_of_ble_eq_true rfl⟩) 0 0 (Nat.le_of_ble_eq_true rfl) (Nat.le_of_ble_eq_true rfl) (fun rr_531 S_532 H locs hp hw hfr hnw => ?_)
                    obtain ⟨hk_533, hp⟩ := hp
                    have hO_534 : Ok MTK S S_532 := hO_367.call hk_533 (by decide +kernel)
                    obtain ⟨g_535, g_536, g_537, g_538, g_539, g_540, g_541, g_542, g_543⟩ := hp
                    have dn_546 : rr_531.toInt = (c_348 : Int) := by have h8 := rR_529.2 _ _ ix_351; have hi : (600 * (3 * a1_z + 1) + i4_221_z).toNat = 600 * (3 * a1_z + 1).toNat + ((i4_221_z : Int)).toNat := (by omega); rw [← hi] at h8; omega
                    have zl_547 : zA S_532 x 1207 = zA S_366 x 1207 := zA_fr hk_533.fr t_386 (ex3 (gQ_12_1207 hO_367.1 t_386)) (by decide +kernel) (by decide +kernel)
                    have zz_548 := congrFun zl_547 (rr_531.toInt).toNat
                    have hrc : rr_531.toInt = rr_341.toInt := by omega
                    have t_549 : pI S_532 1201 x = v_1 := hk_533.fr.I' (by decide +kernel) t_386 t_380
                    have pz_550 : (pI S_532 1201 x).toInt = v_1.toInt := (congrArg Int32.toInt t_549).trans rfl
                    have gi_551 := g_542 (3 * a1_z + 1).toNat; rw [if_pos (by omega)] at gi_551
                    refine lv_iconst (v := 4) X.1 X.2.1 dX12_tick_327 (by decide) ?_
                    have t_552 : At S_532 q_523 354 := hk_533.fr.at h_525
                    have t_553 : pN S_532 q_523 = 600 := hk_533.fr.N h_525 h_526
                    clear h_526
                    refine r_iast X hw t_552 rfl (by rw [t_553]; exact z_ix rfl (by omega) (by omega)) dX12_tick_328 (fun H locs hw => ?_)
                    obtain ⟨S_554, eS_554⟩ : ∃ T, T = sA S_532 q_523 (upd (pA S_532 q_523) (Int32.toNatClampNeg (rr_531)) (4)) := ⟨_, rfl⟩
                    rw [← eS_554] at hw
                    have hO_555 : Ok MTK S S_554 := hO_534.sA eS_554 t_552 (by decide +kernel) (uA_354 hO_534.1 t_552)
                    have h_556 : pA S_554 q_523 (Int32.toNatClampNeg (rr_531)) = 4 := tA_sAs eS_554
                    have t_557 : pR S_532 1207 x = some q_523 := hk_533.fr.R' (by decide +kernel) t_386 h_524
                    have t_558 : pR S_554 1207 x = some q_523 := tR_sA eS_554 t_557
                    have t_560 : pR S_532 1207 x = some q_523 := by have h := t_558; rw [eS_554, pR_sA] at h; exact h
                    have zs_559 : ∀ j, zA S_554 x 1207 j = if j = (rr_531.toInt).toNat then 4 else zA S_532 x 1207 j := by have h := zA_sAs eS_554 t_560 ti_4; rw [z_nc rfl (by omega)] at h; exact h
                    have t_562 : At S_532 x 12 := hk_533.fr.at t_386
                    have mi_561 : MIe S_554 x rr_341.toInt := stand_MI (c := rr_531.toInt) hO_534.1 t_562 (show Fr [10354] S_532 S_554 by rw [eS_554]; exact Fr_sA t_552 List.mem_cons_self) g_540 (by omega) (by omega) g_541 zs_559 (Or.inl rfl)
                    have mi_563 : MI S_554 x := back_MI mi_561 (by omega) (Or.inl (by rw [← hrc, zs_559, if_pos rfl]))
                    have zc_564 : zA S_554 x 1219 = zA S_532 x 1219 := zA_sAn eS_554 (ex3 (gQ_12_1219 hO_534.1 t_562)) t_552 rfl
                    have zz_565 := congrFun zc_564 (3 * a1_z + 1).toNat
                    have t_567 : pR S_532 1207 x = some q_523 := by have h := t_558; rw [eS_554, pR_sA] at h; exact h
                    have zs_566 : ∀ j, zA S_554 x 1207 j = if j = (rr_531.toInt).toNat then 4 else zA S_532 x 1207 j := by have h := zA_sAs eS_554 t_567 ti_4; rw [z_nc rfl (by omega)] at h; exact h
                    have zm_568 : ZM S S_366 x := ZM_eq iv_227 (zA_sAn eS_366 (ex3 (gQ_12_1207 hO_T_222.1 ha_x_L_223)) h_357 rfl)
                    have zm_569 : ZM S S_532 x := ZM_eq zm_568 (zA_fr hk_533.fr t_386 (ex3 (gQ_12_1207 hO_367.1 t_386)) (by decide +kernel) (by decide +kernel))
                    have zm_570 : ZM S S_554 x := ZM_set zm_569 zs_566 ⟨by omega, by omega⟩ ⟨by omega, by omega⟩
                    refine lv_goto (tgt := 376) X.1 X.2.1 dX12_tick_329 (by decide) ?_
                    refine lv_goto (tgt := 267) X.1 X.2.1 dX12_tick_376 (by decide) ?_
                    have t_571 : At S_554 x 12 := tAt_sA eS_554 t_562
                    have zc_572 : zA S_366 x 1237 = zA S_190 x 1237 := (zA_sAn eS_366 (ex3 (gQ_12_1237 hO_T_222.1 ha_x_L_223)) h_357 rfl).trans zk_225
                    have zc_573 : zA S_532 x 1237 = zA S_190 x 1237 := (zA_fr hk_533.fr t_386 (ex3 (gQ_12_1237 hO_367.1 t_386)) (by decide +kernel) (by decide +kernel)).trans zc_572
                    have zc_574 : zA S_554 x 1237 = zA S_190 x 1237 := (zA_sAn eS_554 (ex3 (gQ_12_1237 hO_534.1 t_562)) t_552 rfl).trans zc_573
                    have rR_575 : RowR S_532 x (3 * a1_z + 0).toNat (qb (folF Ev dn_235 (we (wdr (wg (ticB Ev Rl A) (capG (qg (ticB Ev Rl A)) ((qe (ticB Ev Rl A)).map (fun c => (c, qpl (ticB Ev Rl A) c))))) (qdr (ticB Ev Rl A) + 1)) []))) := RowR_gox hO_367.1 t_386 (by omega) rR_528 g_543
                    have rR_576 : RowR S_554 x (3 * a1_z + 0).toNat (qb (folF Ev dn_235 (we (wdr (wg (ticB Ev Rl A) (capG (qg (ticB Ev Rl A)) ((qe (ticB Ev Rl A)).map (fun c => (c, qpl (ticB Ev Rl A) c))))) (qdr (ticB Ev Rl A) + 1)) []))) := RowR_eq rR_575 (zA_sAn eS_554 (ex3 (gQ_12_1218 hO_534.1 t_562)) t_552 rfl) (zA_sAn eS_554 (ex3 (gQ_12_1219 hO_534.1 t_562)) t_552 rfl)
                    have rR_577 : RowR S_532 x (3 * a1_z + 1).toNat ((qe (folF Ev dn_235 (we (wdr (wg (ticB Ev Rl A) (capG (qg (ticB Ev Rl A)) ((qe (ticB Ev Rl A)).map (fun c => (c, qpl (ticB Ev Rl A) c))))) (qdr (ticB Ev Rl A) + 1)) [])) ++ rs_236).eraseIdx (i4_221_z).toNat) := RowR_goes rR_529 g_543 (by have := rR_529.1; omega)
                    have rR_578 : RowR S_554 x (3 * a1_z + 1).toNat ((qe (folF Ev dn_235 (we (wdr (wg (ticB Ev Rl A) (capG (qg (ticB Ev Rl A)) ((qe (ticB Ev Rl A)).map (fun c => (c, qpl (ticB Ev Rl A) c))))) (qdr (ticB Ev Rl A) + 1)) [])) ++ rs_236).eraseIdx (i4_221_z).toNat) := RowR_eq rR_577 (zA_sAn eS_554 (ex3 (gQ_12_1218 hO_534.1 t_562)) t_552 rfl) (zA_sAn eS_554 (ex3 (gQ_12_1219 hO_534.1 t_562)) t_552 rfl)
                    have rR_579 : RowR S_532 x (3 * a1_z + 2).toNat (ql (folF Ev dn_235 (we (wdr (wg (ticB Ev Rl A) (capG (qg (ticB Ev Rl A)) ((qe (ticB Ev Rl A)).map (fun c => (c, qpl (ticB Ev Rl A) c))))) (qdr (ticB Ev Rl A) + 1)) []))) := RowR_gox hO_367.1 t_386 (by omega) rR_530 g_543
                    have rR_580 : RowR S_554 x (3 * a1_z + 2).toNat (ql (folF Ev dn_235 (we (wdr (wg (ticB Ev Rl A) (capG (qg (ticB Ev Rl A)) ((qe (ticB Ev Rl A)).map (fun c => (c, qpl (ticB Ev Rl A) c))))) (qdr (ticB Ev Rl A) + 1)) []))) := RowR_eq rR_579 (zA_sAn eS_554 (ex3 (gQ_12_1218 hO_534.1 t_562)) t_552 rfl) (zA_sAn eS_554 (ex3 (gQ_12_1219 hO_534.1 t_562)) t_552 rfl)
                    have zR_581 : zA S_366 x 1215 a1_z.toNat = ((qst (folF Ev dn_235 (we (wdr (wg (ticB Ev Rl A) (capG (qg (ticB Ev Rl A)) ((qe (ticB Ev Rl A)).map (fun c => (c, qpl (ticB Ev Rl A) c))))) (qdr (ticB Ev Rl A) + 1)) [])))).toInt := (congrFun (zA_sAn eS_366 (ex3 (gQ_12_1215 hO_T_222.1 ha_x_L_223)) h_357 rfl) _).trans fw_264
                    have zR_582 : zA S_532 x 1215 a1_z.toNat = ((qst (folF Ev dn_235 (we (wdr (wg (ticB Ev Rl A) (capG (qg (ticB Ev Rl A)) ((qe (ticB Ev Rl A)).map (fun c => (c, qpl (ticB Ev Rl A) c))))) (qdr (ticB Ev Rl A) + 1)) [])))).toInt := (congrFun (zA_fr hk_533.fr t_386 (ex3 (gQ_12_1215 hO_367.1 t_386)) (by decide +kernel) (by decide +kernel)) _).trans zR_581
                    have zR_583 : zA S_554 x 1215 a1_z.toNat = ((qst (folF Ev dn_235 (we (wdr (wg (ticB Ev Rl A) (capG (qg (ticB Ev Rl A)) ((qe (ticB Ev Rl A)).map (fun c => (c, qpl (ticB Ev Rl A) c))))) (qdr (ticB Ev Rl A) + 1)) [])))).toInt := (congrFun (zA_sAn eS_554 (ex3 (gQ_12_1215 hO_534.1 t_562)) t_552 rfl) _).trans zR_582
                    have zR_584 : zA S_366 x 1214 a1_z.toNat = ((qse (folF Ev dn_235 (we (wdr (wg (ticB Ev Rl A) (capG (qg (ticB Ev Rl A)) ((qe (ticB Ev Rl A)).map (fun c => (c, qpl (ticB Ev Rl A) c))))) (qdr (ticB Ev Rl A) + 1)) [])))).toInt := (congrFun (zA_sAn eS_366 (ex3 (gQ_12_1214 hO_T_222.1 ha_x_L_223)) h_357 rfl) _).trans fw_265
                    have zR_585 : zA S_532 x 1214 a1_z.toNat = ((qse (folF Ev dn_235 (we (wdr (wg (ticB Ev Rl A) (capG (qg (ticB Ev Rl A)) ((qe (ticB Ev Rl A)).map (fun c => (c, qpl (ticB Ev Rl A) c))))) (qdr (ticB Ev Rl A) + 1)) [])))).toInt := (congrFun (zA_fr hk_533.fr t_386 (ex3 (gQ_12_1214 hO_367.1 t_386)) (by decide +kernel) (by decide +kernel)) _).trans zR_584
                    have zR_586 : zA S_554 x 1214 a1_z.toNat = ((qse (folF Ev dn_235 (we (wdr (wg (ticB Ev Rl A) (capG (qg (ticB Ev Rl A)) ((qe (ticB Ev Rl A)).map (fun c => (c, qpl (ticB Ev Rl A) c))))) (qdr (ticB Ev Rl A) + 1)) [])))).toInt := (congrFun (zA_sAn eS_554 (ex3 (gQ_12_1214 hO_534.1 t_562)) t_552 rfl) _).trans zR_585
                    have zR_587 : zA S_366 x 1216 a1_z.toNat = ((qdr (folF Ev dn_235 (we (wdr (wg (ticB Ev Rl A) (capG (qg (ticB Ev Rl A)) ((qe (ticB Ev Rl A)).map (fun c => (c, qpl (ticB Ev Rl A) c))))) (qdr (ticB Ev Rl A) + 1)) [])))).toInt := (congrFun (zA_sAn eS_366 (ex3 (gQ_12_1216 hO_T_222.1 ha_x_L_223)) h_357 rfl) _).trans fw_266
                    have zR_588 : zA S_532 x 1216 a1_z.toNat = ((qdr (folF Ev dn_235 (we (wdr (wg (ticB Ev Rl A) (capG (qg (ticB Ev Rl A)) ((qe (ticB Ev Rl A)).map (fun c => (c, qpl (ticB Ev Rl A) c))))) (qdr (ticB Ev Rl A) + 1)) [])))).toInt := (congrFun (zA_fr hk_533.fr t_386 (ex3 (gQ_12_1216 hO_367.1 t_386)) (by decide +kernel) (by decide +kernel)) _).trans zR_587
                    have zR_589 : zA S_554 x 1216 a1_z.toNat = ((qdr (folF Ev dn_235 (we (wdr (wg (ticB Ev Rl A) (capG (qg (ticB Ev Rl A)) ((qe (ticB Ev Rl A)).map (fun c => (c, qpl (ticB Ev Rl A) c))))) (qdr (ticB Ev Rl A) + 1)) [])))).toInt := (congrFun (zA_sAn eS_554 (ex3 (gQ_12_1216 hO_534.1 t_562)) t_552 rfl) _).trans zR_588
                    have zR_590 : zA S_366 x 1217 a1_z.toNat = ((qtk (folF Ev dn_235 (we (wdr (wg (ticB Ev Rl A) (capG (qg (ticB Ev Rl A)) ((qe (ticB Ev Rl A)).map (fun c => (c, qpl (ticB Ev Rl A) c))))) (qdr (ticB Ev Rl A) + 1)) [])))).toInt := (congrFun (zA_sAn eS_366 (ex3 (gQ_12_1217 hO_T_222.1 ha_x_L_223)) h_357 rfl) _).trans fw_267
                    have zR_591 : zA S_532 x 1217 a1_z.toNat = ((qtk (folF Ev dn_235 (we (wdr (wg (ticB Ev Rl A) (capG (qg (ticB Ev Rl A)) ((qe (ticB Ev Rl A)).map (fun c => (c, qpl (ticB Ev Rl A) c))))) (qdr (ticB Ev Rl A) + 1)) [])))).toInt := (congrFun (zA_fr hk_533.fr t_386 (ex3 (gQ_12_1217 hO_367.1 t_386)) (by decide +kernel) (by decide +kernel)) _).trans zR_590
                    have zR_592 : zA S_554 x 1217 a1_z.toNat = ((qtk (folF Ev dn_235 (we (wdr (wg (ticB Ev Rl A) (capG (qg (ticB Ev Rl A)) ((qe (ticB Ev Rl A)).map (fun c => (c, qpl (ticB Ev Rl A) c))))) (qdr (ticB Ev Rl A) + 1)) [])))).toInt := (congrFun (zA_sAn eS_554 (ex3 (gQ_12_1217 hO_534.1 t_562)) t_552 rfl) _).trans zR_591
                    have gR_593 : GrW S_366 x a1_z.toNat (qg (folF Ev dn_235 (we (wdr (wg (ticB Ev Rl A) (capG (qg (ticB Ev Rl A)) ((qe (ticB Ev Rl A)).map (fun c => (c, qpl (ticB Ev Rl A) c))))) (qdr (ticB Ev Rl A) + 1)) []))) := GrW_eq (zA_sAn eS_366 (ex3 (gQ_12_1235 hO_T_222.1 ha_x_L_223)) h_357 rfl) (zA_sAn eS_366 (ex3 (gQ_12_1236 hO_T_222.1 ha_x_L_223)) h_357 rfl) (congrFun (zA_sAn eS_366 (ex3 (gQ_12_1237 hO_T_222.1 ha_x_L_223)) h_357 rfl) _) fw_268
                    have gR_594 : GrW S_532 x a1_z.toNat (qg (folF Ev dn_235 (we (wdr (wg (ticB Ev Rl A) (capG (qg (ticB Ev Rl A)) ((qe (ticB Ev Rl A)).map (fun c => (c, qpl (ticB Ev Rl A) c))))) (qdr (ticB Ev Rl A) + 1)) []))) := GrW_eq (zA_fr hk_533.fr t_386 (ex3 (gQ_12_1235 hO_367.1 t_386)) (by decide +kernel) (by decide +kernel)) (zA_fr hk_533.fr t_386 (ex3 (gQ_12_1236 hO_367.1 t_386)) (by decide +kernel) (by decide +kernel)) (congrFun (zA_fr hk_533.fr t_386 (ex3 (gQ_12_1237 hO_367.1 t_386)) (by decide +kernel) (by decide +kernel)) _) gR_593
                    have gR_595 : GrW S_554 x a1_z.toNat (qg (folF Ev dn_235 (we (wdr (wg (ticB Ev Rl A) (capG (qg (ticB Ev Rl A)) ((qe (ticB Ev Rl A)).map (fun c => (c, qpl (ticB Ev Rl A) c))))) (qdr (ticB Ev Rl A) + 1)) []))) := GrW_eq (zA_sAn eS_554 (ex3 (gQ_12_1235 hO_534.1 t_562)) t_552 rfl) (zA_sAn eS_554 (ex3 (gQ_12_1236 hO_534.1 t_562)) t_552 rfl) (congrFun (zA_sAn eS_554 (ex3 (gQ_12_1237 hO_534.1 t_562)) t_552 rfl) _) gR_594
                    have pz_596 : PlZ S_366 x (fuI (qpl (folF Ev dn_235 (we (wdr (wg (ticB Ev Rl A) (capG (qg (ticB Ev Rl A)) ((qe (ticB Ev Rl A)).map (fun c => (c, qpl (ticB Ev Rl A) c))))) (qdr (ticB Ev Rl A) + 1)) []))) c_348 (qpl (folF Ev dn_235 (we (wdr (wg (ticB Ev Rl A) (capG (qg (ticB Ev Rl A)) ((qe (ticB Ev Rl A)).map (fun c => (c, qpl (ticB Ev Rl A) c))))) (qdr (ticB Ev Rl A) + 1)) [])) c_348 + 1)) (qsd (folF Ev dn_235 (we (wdr (wg (ticB Ev Rl A) (capG (qg (ticB Ev Rl A)) ((qe (ticB Ev Rl A)).map (fun c => (c, qpl (ticB Ev Rl A) c))))) (qdr (ticB Ev Rl A) + 1)) []))) := PlZ_8 fw_263 (zA_sAn eS_366 (ex3 (gQ_12_1207 hO_T_222.1 ha_x_L_223)) h_357 rfl) zs_382 (by omega) (z_365.symm.trans (congrArg Int32.toInt (ev_364.trans (by rw [up_363]))))
                    have pz_597 : PlZ S_532 x (fuI (qpl (folF Ev dn_235 (we (wdr (wg (ticB Ev Rl A) (capG (qg (ticB Ev Rl A)) ((qe (ticB Ev Rl A)).map (fun c => (c, qpl (ticB Ev Rl A) c))))) (qdr (ticB Ev Rl A) + 1)) []))) c_348 (qpl (folF Ev dn_235 (we (wdr (wg (ticB Ev Rl A) (capG (qg (ticB Ev Rl A)) ((qe (ticB Ev Rl A)).map (fun c => (c, qpl (ticB Ev Rl A) c))))) (qdr (ticB Ev Rl A) + 1)) [])) c_348 + 1)) (qsd (folF Ev dn_235 (we (wdr (wg (ticB Ev Rl A) (capG (qg (ticB Ev Rl A)) ((qe (ticB Ev Rl A)).map (fun c => (c, qpl (ticB Ev Rl A) c))))) (qdr (ticB Ev Rl A) + 1)) []))) := PlZ_eq pz_596 (zA_fr hk_533.fr t_386 (ex3 (gQ_12_1208 hO_367.1 t_386)) (by decide +kernel) (by decide +kernel)) (zA_fr hk_533.fr t_386 (ex3 (gQ_12_1207 hO_367.1 t_386)) (by decide +kernel) (by decide +kernel))
                    have pz_598 : PlZ S_554 x (fuI (qpl (folF Ev dn_235 (we (wdr (wg (ticB Ev Rl A) (capG (qg (ticB Ev Rl A)) ((qe (ticB Ev Rl A)).map (fun c => (c, qpl (ticB Ev Rl A) c))))) (qdr (ticB Ev Rl A) + 1)) []))) c_348 (qpl (folF Ev dn_235 (we (wdr (wg (ticB Ev Rl A) (capG (qg (ticB Ev Rl A)) ((qe (ticB Ev Rl A)).map (fun c => (c, qpl (ticB Ev Rl A) c))))) (qdr (ticB Ev Rl A) + 1)) [])) c_348 + 1)) (fuI (qsd (folF Ev dn_235 (we (wdr (wg (ticB Ev Rl A) (capG (qg (ticB Ev Rl A)) ((qe (ticB Ev Rl A)).map (fun c => (c, qpl (ticB Ev Rl A) c))))) (qdr (ticB Ev Rl A) + 1)) []))) c_348 4) := PlZ_7 pz_597 (zA_sAn eS_554 (ex3 (gQ_12_1208 hO_534.1 t_562)) t_552 rfl) zs_566 (by omega) (by decide)
                    have t_599 : pI S_366 1238 x = v_251 := tI_sA eS_366 ev_251
                    have t_600 : pI S_532 1238 x = v_251 := hk_533.fr.I' (by decide +kernel) t_386 t_599
                    have t_601 : pI S_554 1238 x = v_251 := tI_sA eS_554 t_600
                    have pz_602 : (pI S_554 1238 x).toInt = v_251.toInt := (congrArg Int32.toInt t_601).trans rfl
                    have kR_603 : SkW S_366 x (qsk (folF Ev dn_235 (we (wdr (wg (ticB Ev Rl A) (capG (qg (ticB Ev Rl A)) ((qe (ticB Ev Rl A)).map (fun c => (c, qpl (ticB Ev Rl A) c))))) (qdr (ticB Ev Rl A) + 1)) []))) := SkW_n (by rw [eS_366]; rfl) ⟨zA_sAn eS_366 (ex3 (gQ_12_1235 hO_T_222.1 ha_x_L_223)) h_357 rfl, zA_sAn eS_366 (ex3 (gQ_12_1236 hO_T_222.1 ha_x_L_223)) h_357 rfl, zA_sAn eS_366 (ex3 (gQ_12_1239 hO_T_222.1 ha_x_L_223)) h_357 rfl, zA_sAn eS_366 (ex3 (gQ_12_1240 hO_T_222.1 ha_x_L_223)) h_357 rfl, zA_sAn eS_366 (ex3 (gQ_12_1241 hO_T_222.1 ha_x_L_223)) h_357 rfl, zA_sAn eS_366 (ex3 (gQ_12_1242 hO_T_222.1 ha_x_L_223)) h_357 rfl⟩ fw_269
                    have kR_604 : SkW S_532 x (qsk (folF Ev dn_235 (we (wdr (wg (ticB Ev Rl A) (capG (qg (ticB Ev Rl A)) ((qe (ticB Ev Rl A)).map (fun c => (c, qpl (ticB Ev Rl A) c))))) (qdr (ticB Ev Rl A) + 1)) []))) := SkW_n (congrArg Int32.toInt (hk_533.fr.I' (by decide +kernel) t_386 rfl)) ⟨zA_fr hk_533.fr t_386 (ex3 (gQ_12_1235 hO_367.1 t_386)) (by decide +kernel) (by decide +kernel), zA_fr hk_533.fr t_386 (ex3 (gQ_12_1236 hO_367.1 t_386)) (by decide +kernel) (by decide +kernel), zA_fr hk_533.fr t_386 (ex3 (gQ_12_1239 hO_367.1 t_386)) (by decide +kernel) (by decide +kernel), zA_fr hk_533.fr t_386 (ex3 (gQ_12_1240 hO_367.1 t_386)) (by decide +kernel) (by decide +kernel), zA_fr hk_533.fr t_386 (ex3 (gQ_12_1241 hO_367.1 t_386)) (by decide +kernel) (by decide +kernel), zA_fr hk_533.fr t_386 (ex3 (gQ_12_1242 hO_367.1 t_386)) (by decide +kernel) (by decide +kernel)⟩ kR_603
                    have kR_605 : SkW S_554 x (qsk (folF Ev dn_235 (we (wdr (wg (ticB Ev Rl A) (capG (qg (ticB Ev Rl A)) ((qe (ticB Ev Rl A)).map (fun c => (c, qpl (ticB Ev Rl A) c))))) (qdr (ticB Ev Rl A) + 1)) []))) := SkW_n (by rw [eS_554]; rfl) ⟨zA_sAn eS_554 (ex3 (gQ_12_1235 hO_534.1 t_562)) t_552 rfl, zA_sAn eS_554 (ex3 (gQ_12_1236 hO_534.1 t_562)) t_552 rfl, zA_sAn eS_554 (ex3 (gQ_12_1239 hO_534.1 t_562)) t_552 rfl, zA_sAn eS_554 (ex3 (gQ_12_1240 hO_534.1 t_562)) t_552 rfl, zA_sAn eS_554 (ex3 (gQ_12_1241 hO_534.1 t_562)) t_552 rfl, zA_sAn eS_554 (ex3 (gQ_12_1242 hO_534.1 t_562)) t_552 rfl⟩ kR_604
                    have px_606 : PwX S S_366 x a1_z := PwX_to iv_229 (zA_sAn eS_366 (ex3 (gQ_12_1218 hO_T_222.1 ha_x_L_223)) h_357 rfl) (zA_sAn eS_366 (ex3 (gQ_12_1219 hO_T_222.1 ha_x_L_223)) h_357 rfl) (zA_sAn eS_366 (ex3 (gQ_12_1235 hO_T_222.1 ha_x_L_223)) h_357 rfl) (zA_sAn eS_366 (ex3 (gQ_12_1236 hO_T_222.1 ha_x_L_223)) h_357 rfl) (pw5 (zA_sAn eS_366 (ex3 (gQ_12_1214 hO_T_222.1 ha_x_L_223)) h_357 rfl) (zA_sAn eS_366 (ex3 (gQ_12_1215 hO_T_222.1 ha_x_L_223)) h_357 rfl) (zA_sAn eS_366 (ex3 (gQ_12_1216 hO_T_222.1 ha_x_L_223)) h_357 rfl) (zA_sAn eS_366 (ex3 (gQ_12_1217 hO_T_222.1 ha_x_L_223)) h_357 rfl) (zA_sAn eS_366 (ex3 (gQ_12_1237 hO_T_222.1 ha_x_L_223)) h_357 rfl))
                    have px_607 : PwX S S_532 x a1_z := PwX_go px_606 hO_367.1 t_386 (by omega) g_543 (zA_fr hk_533.fr t_386 (ex3 (gQ_12_1235 hO_367.1 t_386)) (by decide +kernel) (by decide +kernel)) (zA_fr hk_533.fr t_386 (ex3 (gQ_12_1236 hO_367.1 t_386)) (by decide +kernel) (by decide +kernel)) (pw5 (zA_fr hk_533.fr t_386 (ex3 (gQ_12_1214 hO_367.1 t_386)) (by decide +kernel) (by decide +kernel)) (zA_fr hk_533.fr t_386 (ex3 (gQ_12_1215 hO_367.1 t_386)) (by decide +kernel) (by decide +kernel)) (zA_fr hk_533.fr t_386 (ex3 (gQ_12_1216 hO_367.1 t_386)) (by decide +kernel) (by decide +kernel)) (zA_fr hk_533.fr t_386 (ex3 (gQ_12_1217 hO_367.1 t_386)) (by decide +kernel) (by decide +kernel)) (zA_fr hk_533.fr t_386 (ex3 (gQ_12_1237 hO_367.1 t_386)) (by decide +kernel) (by decide +kernel)))
                    have px_608 : PwX S S_554 x a1_z := PwX_to px_607 (zA_sAn eS_554 (ex3 (gQ_12_1218 hO_534.1 t_562)) t_552 rfl) (zA_sAn eS_554 (ex3 (gQ_12_1219 hO_534.1 t_562)) t_552 rfl) (zA_sAn eS_554 (ex3 (gQ_12_1235 hO_534.1 t_562)) t_552 rfl) (zA_sAn eS_554 (ex3 (gQ_12_1236 hO_534.1 t_562)) t_552 rfl) (pw5 (zA_sAn eS_554 (ex3 (gQ_12_1214 hO_534.1 t_562)) t_552 rfl) (zA_sAn eS_554 (ex3 (gQ_12_1215 hO_534.1 t_562)) t_552 rfl) (zA_sAn eS_554 (ex3 (gQ_12_1216 hO_534.1 t_562)) t_552 rfl) (zA_sAn eS_554 (ex3 (gQ_12_1217 hO_534.1 t_562)) t_552 rfl) (zA_sAn eS_554 (ex3 (gQ_12_1237 hO_534.1 t_562)) t_552 rfl))
                    have t_609 : pI S_554 1201 x = v_1 := tI_sA eS_554 t_549
                    exact ih_L_220 _ (by omega) _ _ _ _ (i4_221) (i4_221_z) rfl hw hz_i4_221 (by omega) t_571 hO_555 zc_574 mi_563 zm_570 ⟨dn_235 ++ [c_348], t_349, (by rw [List.append_assoc]; exact (by rw [ed_237, er_350]; rfl)), (by rw [show we (folF Ev (dn_235 ++ [c_348]) (we (wdr (wg (ticB Ev Rl A) (capG (qg (ticB Ev Rl A)) ((qe (ticB Ev Rl A)).map (fun c => (c, qpl (ticB Ev Rl A) c))))) (qdr (ticB Ev Rl A) + 1)) [])) (qe (folF Ev (dn_235 ++ [c_348]) (we (wdr (wg (ticB Ev Rl A) (capG (qg (ticB Ev Rl A)) ((qe (ticB Ev Rl A)).map (fun c => (c, qpl (ticB Ev Rl A) c))))) (qdr (ticB Ev Rl A) + 1)) [])) ++ t_349) = (we (wsd (wpl (folF Ev dn_235 (we (wdr (wg (ticB Ev Rl A) (capG (qg (ticB Ev Rl A)) ((qe (ticB Ev Rl A)).map (fun c => (c, qpl (ticB Ev Rl A) c))))) (qdr (ticB Ev Rl A) + 1)) [])) (fuI (qpl (folF Ev dn_235 (we (wdr (wg (ticB Ev Rl A) (capG (qg (ticB Ev Rl A)) ((qe (ticB Ev Rl A)).map (fun c => (c, qpl (ticB Ev Rl A) c))))) (qdr (ticB Ev Rl A) + 1)) []))) c_348 (qpl (folF Ev dn_235 (we (wdr (wg (ticB Ev Rl A) (capG (qg (ticB Ev Rl A)) ((qe (ticB Ev Rl A)).map (fun c => (c, qpl (ticB Ev Rl A) c))))) (qdr (ticB Ev Rl A) + 1)) [])) c_348 + 1))) (fuI (qsd (folF Ev dn_235 (we (wdr (wg (ticB Ev Rl A) (capG (qg (ticB Ev Rl A)) ((qe (ticB Ev Rl A)).map (fun c => (c, qpl (ticB Ev Rl A) c))))) (qdr (ticB Ev Rl A) + 1)) []))) c_348 (sdV Ev (folF Ev dn_235 (we (wdr (wg (ticB Ev Rl A) (capG (qg (ticB Ev Rl A)) ((qe (ticB Ev Rl A)).map (fun c => (c, qpl (ticB Ev Rl A) c))))) (qdr (ticB Ev Rl A) + 1)) [])) c_348))) (qe (folF Ev dn_235 (we (wdr (wg (ticB Ev Rl A) (capG (qg (ticB Ev Rl A)) ((qe (ticB Ev Rl A)).map (fun c => (c, qpl (ticB Ev Rl A) c))))) (qdr (ticB Ev Rl A) + 1)) [])) ++ t_349)) by rw [fol_s, endK_n (by rw [s4_522]; decide) (by rw [s4_522]; decide)]; rfl]; exact PotW_of (rfl : (we (wsd (wpl (folF Ev dn_235 (we (wdr (wg (ticB Ev Rl A) (capG (qg (ticB Ev Rl A)) ((qe (ticB Ev Rl A)).map (fun c => (c, qpl (ticB Ev Rl A) c))))) (qdr (ticB Ev Rl A) + 1)) [])) (fuI (qpl (folF Ev dn_235 (we (wdr (wg (ticB Ev Rl A) (capG (qg (ticB Ev Rl A)) ((qe (ticB Ev Rl A)).map (fun c => (c, qpl (ticB Ev Rl A) c))))) (qdr (ticB Ev Rl A) + 1)) []))) c_348 (qpl (folF Ev dn_235 (we (wdr (wg (ticB Ev Rl A) (capG (qg (ticB Ev Rl A)) ((qe (ticB Ev Rl A)).map (fun c => (c, qpl (ticB Ev Rl A) c))))) (qdr (ticB Ev Rl A) + 1)) [])) c_348 + 1))) (fuI (qsd (folF Ev dn_235 (we (wdr (wg (ticB Ev Rl A) (capG (qg (ticB Ev Rl A)) ((qe (ticB Ev Rl A)).map (fun c => (c, qpl (ticB Ev Rl A) c))))) (qdr (ticB Ev Rl A) + 1)) []))) c_348 (sdV Ev (folF Ev dn_235 (we (wdr (wg (ticB Ev Rl A) (capG (qg (ticB Ev Rl A)) ((qe (ticB Ev Rl A)).map (fun c => (c, qpl (ticB Ev Rl A) c))))) (qdr (ticB Ev Rl A) + 1)) [])) c_348))) (qe (folF Ev dn_235 (we (wdr (wg (ticB Ev Rl A) (capG (qg (ticB Ev Rl A)) ((qe (ticB Ev Rl A)).map (fun c => (c, qpl (ticB Ev Rl A) c))))) (qdr (ticB Ev Rl A) + 1)) [])) ++ t_349)) = (we (wsd (wpl (folF Ev dn_235 (we (wdr (wg (ticB Ev Rl A) (capG (qg (ticB Ev Rl A)) ((qe (ticB Ev Rl A)).map (fun c => (c, qpl (ticB Ev Rl A) c))))) (qdr (ticB Ev Rl A) + 1)) [])) (fuI (qpl (folF Ev dn_235 (we (wdr (wg (ticB Ev Rl A) (capG (qg (ticB Ev Rl A)) ((qe (ticB Ev Rl A)).map (fun c => (c, qpl (ticB Ev Rl A) c))))) (qdr (ticB Ev Rl A) + 1)) []))) c_348 (qpl (folF Ev dn_235 (we (wdr (wg (ticB Ev Rl A) (capG (qg (ticB Ev Rl A)) ((qe (ticB Ev Rl A)).map (fun c => (c, qpl (ticB Ev Rl A) c))))) (qdr (ticB Ev Rl A) + 1)) [])) c_348 + 1))) (fuI (qsd (folF Ev dn_235 (we (wdr (wg (ticB Ev Rl A) (capG (qg (ticB Ev Rl A)) ((qe (ticB Ev Rl A)).map (fun c => (c, qpl (ticB Ev Rl A) c))))) (qdr (ticB Ev Rl A) + 1)) []))) c_348 (sdV Ev (folF Ev dn_235 (we (wdr (wg (ticB Ev Rl A) (capG (qg (ticB Ev Rl A)) ((qe (ticB Ev Rl A)).map (fun c => (c, qpl (ticB Ev Rl A) c))))) (qdr (ticB Ev Rl A) + 1)) [])) c_348))) (qe (folF Ev dn_235 (we (wdr (wg (ticB Ev Rl A) (capG (qg (ticB Ev Rl A)) ((qe (ticB Ev Rl A)).map (fun c => (c, qpl (ticB Ev Rl A) c))))) (qdr (ticB Ev Rl A) + 1)) [])) ++ t_349))) rR_576 (show RowR S_554 x (3 * a1_z + 1).toNat (qe (folF Ev dn_235 (we (wdr (wg (ticB Ev Rl A) (capG (qg (ticB Ev Rl A)) ((qe (ticB Ev Rl A)).map (fun c => (c, qpl (ticB Ev Rl A) c))))) (qdr (ticB Ev Rl A) + 1)) [])) ++ t_349) by rw [show (qe (folF Ev dn_235 (we (wdr (wg (ticB Ev Rl A) (capG (qg (ticB Ev Rl A)) ((qe (ticB Ev Rl A)).map (fun c => (c, qpl (ticB Ev Rl A) c))))) (qdr (ticB Ev Rl A) + 1)) [])) ++ t_349) = ((qe (folF Ev dn_235 (we (wdr (wg (ticB Ev Rl A) (capG (qg (ticB Ev Rl A)) ((qe (ticB Ev Rl A)).map (fun c => (c, qpl (ticB Ev Rl A) c))))) (qdr (ticB Ev Rl A) + 1)) [])) ++ rs_236).eraseIdx (i4_221_z).toNat) from (by rw [er_350, show ((i4_221_z : Int)).toNat = (qe (folF Ev dn_235 (we (wdr (wg (ticB Ev Rl A) (capG (qg (ticB Ev Rl A)) ((qe (ticB Ev Rl A)).map (fun c => (c, qpl (ticB Ev Rl A) c))))) (qdr (ticB Ev Rl A) + 1)) []))).length by omega]; exact er_app.symm)]; exact rR_578) rR_580 zR_583 zR_586 gR_595 zR_589 zR_592 kR_605 (show PlZ S_554 x (fuI (qpl (folF Ev dn_235 (we (wdr (wg (ticB Ev Rl A) (capG (qg (ticB Ev Rl A)) ((qe (ticB Ev Rl A)).map (fun c => (c, qpl (ticB Ev Rl A) c))))) (qdr (ticB Ev Rl A) + 1)) []))) c_348 (qpl (folF Ev dn_235 (we (wdr (wg (ticB Ev Rl A) (capG (qg (ticB Ev Rl A)) ((qe (ticB Ev Rl A)).map (fun c => (c, qpl (ticB Ev Rl A) c))))) (qdr (ticB Ev Rl A) + 1)) [])) c_348 + 1)) (fuI (qsd (folF Ev dn_235 (we (wdr (wg (ticB Ev Rl A) (capG (qg (ticB Ev Rl A)) ((qe (ticB Ev Rl A)).map (fun c => (c, qpl (ticB Ev Rl A) c))))) (qdr (ticB Ev Rl A) + 1)) []))) c_348 (sdV Ev (folF Ev dn_235 (we (wdr (wg (ticB Ev Rl A) (capG (qg (ticB Ev Rl A)) ((qe (ticB Ev Rl A)).map (fun c => (c, qpl (ticB Ev Rl A) c))))) (qdr (ticB Ev Rl A) + 1)) [])) c_348)) by rw [s4_522]; exact pz_598)), (by rw [fol_s, endK_n (by rw [s4_522]; decide) (by rw [s4_522]; decide)]; show _ = ((qe (folF Ev dn_235 (we (wdr (wg (ticB Ev Rl A) (capG (qg (ticB Ev Rl A)) ((qe (ticB Ev Rl A)).map (fun c => (c, qpl (ticB Ev Rl A) c))))) (qdr (ticB Ev Rl A) + 1)) []))).length : Int); omega)⟩ px_608 t_609 (lv_sub hl [1, 2, 3, 4, 5] rfl)
              have t_610 : At S_214 x 12 := tAt_sA eS_214 t_202
              have mi_611 : MIe S_190 x (-1) := MIe_37 mk_147 hO_T_141.1 ha_x_L_142 h_180 eS_190
              have mi_612 : MIe S_214 x (-1) := MIe_sA mi_611 hO_191.1 t_202 h_205 eS_214 (by decide +kernel)
              have zm_613 : ZM S S_190 x := ZM_eq iv_148 (zA_sAn eS_190 (ex3 (gQ_12_1207 hO_T_141.1 ha_x_L_142)) h_180 rfl)
              have zm_614 : ZM S S_214 x := ZM_eq zm_613 (zA_sAn eS_214 (ex3 (gQ_12_1207 hO_191.1 t_202)) h_205 rfl)
              have rR_615 : RowR S_190 x (3 * a1_z + 0).toNat (qb (ticB Ev Rl A)) := RowR_eq pw_159 (zA_sAn eS_190 (ex3 (gQ_12_1218 hO_T_141.1 ha_x_L_142)) h_180 rfl) (zA_sAn eS_190 (ex3 (gQ_12_1219 hO_T_141.1 ha_x_L_142)) h_180 rfl)
              have rR_616 : RowR S_214 x (3 * a1_z + 0).toNat (qb (ticB Ev Rl A)) := RowR_eq rR_615 (zA_sAn eS_214 (ex3 (gQ_12_1218 hO_191.1 t_202)) h_205 rfl) (zA_sAn eS_214 (ex3 (gQ_12_1219 hO_191.1 t_202)) h_205 rfl)
              have rR_617 : RowR S_190 x (3 * a1_z + 1).toNat (qe (ticB Ev Rl A)) := RowR_eq pw_160 (zA_sAn eS_190 (ex3 (gQ_12_1218 hO_T_141.1 ha_x_L_142)) h_180 rfl) (zA_sAn eS_190 (ex3 (gQ_12_1219 hO_T_141.1 ha_x_L_142)) h_180 rfl)
              have rR_618 : RowR S_214 x (3 * a1_z + 1).toNat (qe (ticB Ev Rl A)) := RowR_eq rR_617 (zA_sAn eS_214 (ex3 (gQ_12_1218 hO_191.1 t_202)) h_205 rfl) (zA_sAn eS_214 (ex3 (gQ_12_1219 hO_191.1 t_202)) h_205 rfl)
              have rR_619 : RowR S_190 x (3 * a1_z + 2).toNat (ql (ticB Ev Rl A)) := RowR_eq pw_161 (zA_sAn eS_190 (ex3 (gQ_12_1218 hO_T_141.1 ha_x_L_142)) h_180 rfl) (zA_sAn eS_190 (ex3 (gQ_12_1219 hO_T_141.1 ha_x_L_142)) h_180 rfl)
              have rR_620 : RowR S_214 x (3 * a1_z + 2).toNat (ql (ticB Ev Rl A)) := RowR_eq rR_619 (zA_sAn eS_214 (ex3 (gQ_12_1218 hO_191.1 t_202)) h_205 rfl) (zA_sAn eS_214 (ex3 (gQ_12_1219 hO_191.1 t_202)) h_205 rfl)
              have zR_621 : zA S_190 x 1215 a1_z.toNat = ((qst (ticB Ev Rl A))).toInt := (congrFun (zA_sAn eS_190 (ex3 (gQ_12_1215 hO_T_141.1 ha_x_L_142)) h_180 rfl) _).trans pw_162
              have zR_622 : zA S_214 x 1215 a1_z.toNat = ((qst (ticB Ev Rl A))).toInt := (congrFun (zA_sAn eS_214 (ex3 (gQ_12_1215 hO_191.1 t_202)) h_205 rfl) _).trans zR_621
              have zR_623 : zA S_190 x 1214 a1_z.toNat = ((qse (ticB Ev Rl A))).toInt := (congrFun (zA_sAn eS_190 (ex3 (gQ_12_1214 hO_T_141.1 ha_x_L_142)) h_180 rfl) _).trans pw_163
              have zR_624 : zA S_214 x 1214 a1_z.toNat = ((qse (ticB Ev Rl A))).toInt := (congrFun (zA_sAn eS_214 (ex3 (gQ_12_1214 hO_191.1 t_202)) h_205 rfl) _).trans zR_623
              have zR_625 : zA S_214 x 1216 a1_z.toNat = ((qdr (ticB Ev Rl A) + 1)).toInt := (by rw [zs_218, if_pos (by omega)]; exact (congrArg Int32.toInt (ev_212.trans (by rw [us_211]))))
              have zR_626 : zA S_190 x 1217 a1_z.toNat = ((qtk (ticB Ev Rl A))).toInt := (congrFun (zA_sAn eS_190 (ex3 (gQ_12_1217 hO_T_141.1 ha_x_L_142)) h_180 rfl) _).trans pw_166
              have zR_627 : zA S_214 x 1217 a1_z.toNat = ((qtk (ticB Ev Rl A))).toInt := (congrFun (zA_sAn eS_214 (ex3 (gQ_12_1217 hO_191.1 t_202)) h_205 rfl) _).trans zR_626
              have gR_628 : GrW S_190 x a1_z.toNat (capG (qg (ticB Ev Rl A)) ((qe (ticB Ev Rl A)).map (fun c => (c, qpl (ticB Ev Rl A) c)))) := GrW_draw (m := (rr_115.toInt + v_122.toInt)) (by omega) (by omega) (by rw [iv_151]; have := pw_160.1; omega) (by have h := iv_152; rw [show (i4_140_z : Int) = ((qe (ticB Ev Rl A)).length : Int) by have := pw_160.1; omega] at h; exact h) (by have hg9 := pw_164.1; omega) (zA_sAn eS_190 (ex3 (gQ_12_1235 hO_T_141.1 ha_x_L_142)) h_180 rfl) (zA_sAn eS_190 (ex3 (gQ_12_1236 hO_T_141.1 ha_x_L_142)) h_180 rfl) (by rw [zs_200, if_pos (by omega)]; omega) pw_164
              have gR_629 : GrW S_214 x a1_z.toNat (capG (qg (ticB Ev Rl A)) ((qe (ticB Ev Rl A)).map (fun c => (c, qpl (ticB Ev Rl A) c)))) := GrW_eq (zA_sAn eS_214 (ex3 (gQ_12_1235 hO_191.1 t_202)) h_205 rfl) (zA_sAn eS_214 (ex3 (gQ_12_1236 hO_191.1 t_202)) h_205 rfl) (congrFun (zA_sAn eS_214 (ex3 (gQ_12_1237 hO_191.1 t_202)) h_205 rfl) _) gR_628
              have pz_630 : PlZ S_190 x (qpl (ticB Ev Rl A)) (qsd (ticB Ev Rl A)) := PlZ_eq pw_168 (zA_sAn eS_190 (ex3 (gQ_12_1208 hO_T_141.1 ha_x_L_142)) h_180 rfl) (zA_sAn eS_190 (ex3 (gQ_12_1207 hO_T_141.1 ha_x_L_142)) h_180 rfl)
              have pz_631 : PlZ S_214 x (qpl (ticB Ev Rl A)) (qsd (ticB Ev Rl A)) := PlZ_eq pz_630 (zA_sAn eS_214 (ex3 (gQ_12_1208 hO_191.1 t_202)) h_205 rfl) (zA_sAn eS_214 (ex3 (gQ_12_1207 hO_191.1 t_202)) h_205 rfl)
              have t_632 : pI S_190 1238 x = v_169 := tI_sA eS_190 ev_169
              have t_633 : pI S_214 1238 x = v_169 := tI_sA eS_214 t_632
              have pz_634 : (pI S_214 1238 x).toInt = v_169.toInt := (congrArg Int32.toInt t_633).trans rfl
              have kR_635 : SkW S_190 x (qsk (ticB Ev Rl A)) := SkW_n (by rw [eS_190]; rfl) ⟨zA_sAn eS_190 (ex3 (gQ_12_1235 hO_T_141.1 ha_x_L_142)) h_180 rfl, zA_sAn eS_190 (ex3 (gQ_12_1236 hO_T_141.1 ha_x_L_142)) h_180 rfl, zA_sAn eS_190 (ex3 (gQ_12_1239 hO_T_141.1 ha_x_L_142)) h_180 rfl, zA_sAn eS_190 (ex3 (gQ_12_1240 hO_T_141.1 ha_x_L_142)) h_180 rfl, zA_sAn eS_190 (ex3 (gQ_12_1241 hO_T_141.1 ha_x_L_142)) h_180 rfl, zA_sAn eS_190 (ex3 (gQ_12_1242 hO_T_141.1 ha_x_L_142)) h_180 rfl⟩ pw_167
              have kR_636 : SkW S_214 x (qsk (ticB Ev Rl A)) := SkW_n (by rw [eS_214]; rfl) ⟨zA_sAn eS_214 (ex3 (gQ_12_1235 hO_191.1 t_202)) h_205 rfl, zA_sAn eS_214 (ex3 (gQ_12_1236 hO_191.1 t_202)) h_205 rfl, zA_sAn eS_214 (ex3 (gQ_12_1239 hO_191.1 t_202)) h_205 rfl, zA_sAn eS_214 (ex3 (gQ_12_1240 hO_191.1 t_202)) h_205 rfl, zA_sAn eS_214 (ex3 (gQ_12_1241 hO_191.1 t_202)) h_205 rfl, zA_sAn eS_214 (ex3 (gQ_12_1242 hO_191.1 t_202)) h_205 rfl⟩ kR_635
              have px_637 : PwX S S_190 x a1_z := PwX_z iv_150 (zA_sAn eS_190 (ex3 (gQ_12_1218 hO_T_141.1 ha_x_L_142)) h_180 rfl) (zA_sAn eS_190 (ex3 (gQ_12_1219 hO_T_141.1 ha_x_L_142)) h_180 rfl) (zA_sAn eS_190 (ex3 (gQ_12_1235 hO_T_141.1 ha_x_L_142)) h_180 rfl) (zA_sAn eS_190 (ex3 (gQ_12_1236 hO_T_141.1 ha_x_L_142)) h_180 rfl) zs_200 (by omega) (pw4 (fun _ => zA_sAn eS_190 (ex3 (gQ_12_1214 hO_T_141.1 ha_x_L_142)) h_180 rfl) (fun _ => zA_sAn eS_190 (ex3 (gQ_12_1215 hO_T_141.1 ha_x_L_142)) h_180 rfl) (fun _ => zA_sAn eS_190 (ex3 (gQ_12_1216 hO_T_141.1 ha_x_L_142)) h_180 rfl) (fun _ => zA_sAn eS_190 (ex3 (gQ_12_1217 hO_T_141.1 ha_x_L_142)) h_180 rfl) (fun h => absurd rfl h))
              have px_638 : PwX S S_214 x a1_z := PwX_z px_637 (zA_sAn eS_214 (ex3 (gQ_12_1218 hO_191.1 t_202)) h_205 rfl) (zA_sAn eS_214 (ex3 (gQ_12_1219 hO_191.1 t_202)) h_205 rfl) (zA_sAn eS_214 (ex3 (gQ_12_1235 hO_191.1 t_202)) h_205 rfl) (zA_sAn eS_214 (ex3 (gQ_12_1236 hO_191.1 t_202)) h_205 rfl) zs_218 (by omega) (pw4 (fun _ => zA_sAn eS_214 (ex3 (gQ_12_1214 hO_191.1 t_202)) h_205 rfl) (fun _ => zA_sAn eS_214 (ex3 (gQ_12_1215 hO_191.1 t_202)) h_205 rfl) (fun h => absurd rfl h) (fun _ => zA_sAn eS_214 (ex3 (gQ_12_1217 hO_191.1 t_202)) h_205 rfl) (fun _ => zA_sAn eS_214 (ex3 (gQ_12_1237 hO_191.1 t_202)) h_205 rfl))
              exact L_220 _ _ _ _ _ (0) (0) rfl hw ti_0 (by omega) t_610 hO_215 zc_224 mi_612 zm_614 ⟨[], qe (ticB Ev Rl A), rfl, PotW_of (show we (we (wdr (wg (ticB Ev Rl A) (capG (qg (ticB Ev Rl A)) ((qe (ticB Ev Rl A)).map (fun c => (c, qpl (ticB Ev Rl A) c))))) (qdr (ticB Ev Rl A) + 1)) []) ([] ++ qe (ticB Ev Rl A)) = (wdr (wg (ticB Ev Rl A) (capG (qg (ticB Ev Rl A)) ((qe (ticB Ev Rl A)).map (fun c => (c, qpl (ticB Ev Rl A) c))))) (qdr (ticB Ev Rl A) + 1)) from rfl) rR_616 rR_618 rR_620 zR_622 zR_624 gR_629 zR_625 zR_627 kR_636 pz_631, (by show (0 : Int) = ((0 : Nat) : Int); rfl)⟩ px_638 t_231 (lv_sub hl [0, 1, 2, 3, 4] rfl)
            · have z_b_639 := trivial
              have k_640 : i4_140_z < rr_104.toInt := z_nle rfl hz_i4_140 c_175
              have zz_641 := congrFun zk_144 (3 * a1_z + 1).toNat
              refine lv_aload_n X.1 X.2.1 dX12_tick_200 rfl (lv_at hl 3 rfl) ?_
              obtain ⟨q_642, h_643, h_644, h_645⟩ := gQ_12_1236 hO_T_141.1 ha_x_L_142
              refine r_getR (g := 1236) X hw ha_x_L_142 rfl 36 h_643 (by decide) rfl inn_X12_tick_12 (by decide) (X.2.2.2.1 (.fieldLink RX12 94 "SilkMillModel" "drawn" "[I") (by decide +kernel)) rfl (gv_1236 _ _) dX12_tick_201 ?_
              refine lv_bipush (v := 12) X.1 X.2.1 dX12_tick_204 (by decide) ?_
              refine lv_iload_n X.1 X.2.1 dX12_tick_206 rfl (lv_at hl 1 rfl) ?_
              refine lv_imul X.1 X.2.1 dX12_tick_207 ?_
              refine lv_topi (fun v_646 ev_646 => ?_)
              have z_647 : v_646.toInt = 12 * (rr_115.toInt + v_122.toInt) := z_mul ev_646 ti_12 z_127 (by omega) (by omega)
              refine lv_iload X.1 X.2.1 dX12_tick_208 (lv_at hl 0 rfl) ?_
              refine lv_iadd X.1 X.2.1 dX12_tick_210 ?_
              refine lv_topi (fun v_648 ev_648 => ?_)
              have z_649 : v_648.toInt = (12 * (rr_115.toInt + v_122.toInt)) + i4_140_z := z_add ev_648 z_647 hz_i4_140 (by omega) (by omega)
              refine lv_sipush (v := 1000) X.1 X.2.1 dX12_tick_211 (by decide) ?_
              refine lv_aload_n X.1 X.2.1 dX12_tick_214 rfl (lv_at hl 3 rfl) ?_
              refine lv_iload_n X.1 X.2.1 dX12_tick_215 rfl (lv_at hl 4 rfl) ?_
              refine lv_iconst (v := 1) X.1 X.2.1 dX12_tick_216 (by decide) ?_
              refine lv_iload X.1 X.2.1 dX12_tick_217 (lv_at hl 0 rfl) ?_
              refine k_i (rm := { frames := 1, cells := 0, slots := 0, locals := 48 }) (av := [.ref x, .int (a1), .int 1, .int (i4_140)]) X hw (va_runV (As := [.int (a1), .int 1, .int (i4_140)]) (rest := [.int 1000, .int (v_648), .ref q_642]) (cfix X) (k_X12_at2 l G cy κ T_141 _ x (a1) (a1_z) (1) (1) (i4_140) (i4_140_z) hO_T_141.1 ha_x_L_142 hz_a1 ti_1 hz_i4_140 (by first | assumption | omega) (by first | assumption | omega) (by first | assumption | omega) (by first | assumption | omega) (by first | assumption | omega) (by first | assumption | omega)) (cwV 3 X.2.2.2.1 gX12_tick_X12_at rfl rfl rfl (by decide +kernel) ⟨Nat.le_of_ble_eq_true rfl, Nat.le_of_ble_eq_true rfl⟩) (pre_V X hw _ ha_x_L_142 rfl (by decide) rfl) rfl rfl hl.1 rfl (lv_room (Nat.le_of_ble_eq_true rfl)) dX12_tick_219 ⟨Nat.le_of_ble_eq_true rfl, Nat.le_of_ble_eq_true rfl⟩) 0 0 (Nat.le_of_ble_eq_true rfl) (Nat.le_of_ble_eq_true rfl) (fun rr_650 S_651 H locs hp hw hfr hnw => ?_)
              obtain ⟨e2, hp⟩ := hp
              subst e2
              obtain ⟨f_652, f_653, f_654⟩ := hp
              refine lv_imul X.1 X.2.1 dX12_tick_222 ?_
              refine lv_topi (fun v_655 ev_655 => ?_)
              have z_656 : v_655.toInt = 1000 * rr_650.toInt := z_mul ev_655 ti_1000 rfl (by omega) (by omega)
              refine lv_aload_n X.1 X.2.1 dX12_tick_223 rfl (lv_at hl 3 rfl) ?_
              obtain ⟨q_657, h_658, h_659, h_660⟩ := gQ_12_1208 hO_T_141.1 ha_x_L_142
              refine r_getR (g := 1208) X hw ha_x_L_142 rfl 8 h_658 (by decide) rfl inn_X12_tick_12 (by decide) (X.2.2.2.1 (.fieldLink RX12 28 "SilkMillModel" "place" "[I") (by decide +kernel)) rfl (gv_1208 _ _) dX12_tick_224 ?_
              refine lv_aload_n X.1 X.2.1 dX12_tick_227 rfl (lv_at hl 3 rfl) ?_
              refine lv_iload_n X.1 X.2.1 dX12_tick_228 rfl (lv_at hl 4 rfl) ?_
              refine lv_iconst (v := 1) X.1 X.2.1 dX12_tick_229 (by decide) ?_
              refine lv_iload X.1 X.2.1 dX12_tick_230 (lv_at hl 0 rfl) ?_
              refine k_i (rm := { frames := 1, cells := 0, slots := 0, locals := 48 }) (av := [.ref x, .int (a1), .int 1, .int (i4_140)]) X hw (va_runV (As := [.int (a1), .int 1, .int (i4_140)]) (rest := [.ref q_657, .int (v_655), .int (v_648), .ref q_642]) (cfix X) (k_X12_at2 l G cy κ T_141 _ x (a1) (a1_z) (1) (1) (i4_140) (i4_140_z) hO_T_141.1 ha_x_L_142 hz_a1 ti_1 hz_i4_140 (by first | assumption | omega) (by first | assumption | omega) (by first | assumption | omega) (by first | assumption | omega) (by first | assumption | omega) (by first | assumption | omega)) (cwV 3 X.2.2.2.1 gX12_tick_X12_at rfl rfl rfl (by decide +kernel) ⟨Nat.le_of_ble_eq_true rfl, Nat.le_of_ble_eq_true rfl⟩) (pre_V X hw _ ha_x_L_142 rfl (by decide) rfl) rfl rfl hl.1 rfl (lv_room (Nat.le_of_ble_eq_true rfl)) dX12_tick_232 ⟨Nat.le_of_ble_eq_true rfl, Nat.le_of_ble_eq_true rfl⟩) 0 0 (Nat.le_of_ble_eq_true rfl) (Nat.le_of_ble_eq_true rfl) (fun rr_661 S_662 H locs hp hw hfr hnw => ?_)
              obtain ⟨e2, hp⟩ := hp
              subst e2
              obtain ⟨f_663, f_664, f_665⟩ := hp
              refine r_iald X hw h_659 rfl (by rw [h_660]; exact z_ix rfl (by omega) (by omega)) dX12_tick_235 ?_
              refine lv_topi (fun v_666 ev_666 => ?_)
              have z_667 := gE_374 hO_T_141.1 h_659 (Int32.toNatClampNeg (rr_661)); rw [← ev_666] at z_667
              have ev_666 := ev_666.symm
              have zf_668 : zA T_141 x 1208 (rr_661.toInt).toNat = v_666.toInt := (zA_of h_658 rfl (by omega) ev_666)
              have m8_669 := MI_alive mk_147 (c := rr_661.toInt) (r := 3 * a1_z + 1) (k := i4_140_z) (gI_12_1201 hO_T_141.1 ha_x_L_142).2 (by omega) (by omega) (by omega) (by omega) (by omega)
              have hh_670 : rr_661.toInt = rr_650.toInt := by omega
              rw [hh_670] at m8_669 zf_668
              rw [zf_668] at m8_669
              have lg_671 := lenZ_le hO_T_141.1 ha_x_L_142 (rr_650.toInt)
              have dk_672 : dOK T_141 x (1000 * rr_650.toInt + v_666.toInt) := dOK_new (by omega) (by omega) (by omega) (by omega) lg_671
              have zf_673 : zA T_141 x 1208 (rr_661.toInt).toNat = v_666.toInt := (zA_of h_658 rfl (by omega) ev_666)
              refine lv_iadd X.1 X.2.1 dX12_tick_236 ?_
              refine lv_topi (fun v_674 ev_674 => ?_)
              have z_675 : v_674.toInt = (1000 * rr_650.toInt) + v_666.toInt := z_add ev_674 z_656 rfl (by omega) (by omega)
              refine r_iast X hw h_644 rfl (by rw [h_645]; exact z_ix z_649 (by omega) (by omega)) dX12_tick_237 (fun H locs hw => ?_)
              obtain ⟨S_676, eS_676⟩ : ∃ T, T = sA T_141 q_642 (upd (pA T_141 q_642) (Int32.toNatClampNeg (v_648)) (v_674)) := ⟨_, rfl⟩
              rw [← eS_676] at hw
              have hO_677 : Ok MTK S S_676 := hO_T_141.sA eS_676 h_644 (by decide +kernel) (uA_934 hO_T_141.1 h_644 (by omega) (by omega))
              have h_678 : pA S_676 q_642 (Int32.toNatClampNeg (v_648)) = v_674 := tA_sAs eS_676
              have t_679 : pR S_676 1236 x = some q_642 := tR_sA eS_676 h_643
              have t_681 : pR T_141 1236 x = some q_642 := by have h := t_679; rw [eS_676, pR_sA] at h; exact h
              have zs_680 : ∀ j, zA S_676 x 1236 j = if j = (((12 * (rr_115.toInt + v_122.toInt)) + i4_140_z)).toNat then ((1000 * rr_650.toInt) + v_666.toInt) else zA T_141 x 1236 j := by have h := zA_sAs eS_676 t_681 z_675; rw [z_nc z_649 (by omega)] at h; exact h
              have mi_682 : MIe S_676 x (-1) := drawn_MI hO_T_141.1 ha_x_L_142 (show Fr [10934] T_141 S_676 by rw [eS_676]; exact Fr_sA h_644 List.mem_cons_self) mk_147 zs_680 dk_672
              obtain ⟨mc_683, mc_684⟩ : ∃ c, (qe (ticB Ev Rl A))[(i4_140_z).toNat]? = some c := ⟨_, List.getElem?_eq_getElem (by have := pw_160.1; omega)⟩
              have mc_685 : ((1000 * rr_650.toInt) + v_666.toInt) = 1000 * (mc_683 : Int) + (qpl (ticB Ev Rl A) mc_683).toInt ∧ 0 ≤ (qpl (ticB Ev Rl A) mc_683).toInt ∧ (qpl (ticB Ev Rl A) mc_683).toInt < 1000 := by have h18 := pw_160.2 _ _ mc_684; have hi : (600 * (3 * a1_z + 1) + i4_140_z).toNat = 600 * (3 * a1_z + 1).toNat + (i4_140_z).toNat := (by omega); rw [← hi] at h18; have hr : rr_661.toInt = (mc_683 : Int) := (by omega); have h8 := (pw_168 mc_683 (by omega)).1; have h9 := zf_673; rw [hr, Int.toNat_natCast] at h9; omega
              have mt_686 : MtL S_676 x ((rr_115.toInt + v_122.toInt)) (i4_140_z + 1) (qe (ticB Ev Rl A)) (qpl (ticB Ev Rl A)) := MtL_s (i := ((12 * (rr_115.toInt + v_122.toInt)) + i4_140_z)) (by omega) (by omega) mc_684 (by omega) mc_685 zs_680 iv_152
              have mt_687 : zA S_676 x 1235 ((rr_115.toInt + v_122.toInt)).toNat = rr_104.toInt := (congrFun (zA_sAn eS_676 (ex3 (gQ_12_1235 hO_T_141.1 ha_x_L_142)) h_644 rfl) _).trans iv_151
              obtain ⟨x_688, ex_688⟩ : ∃ y : Int32, y = i4_140 + 1 := ⟨_, rfl⟩
              have z_689 : x_688.toInt = i4_140_z + 1 := z_add ex_688 hz_i4_140 ti_1 (by omega) (by omega)
              refine lv_iinc (v := x_688) (lv' := [(4, .int (x_688)), (3, .int (v_126)), (2, .int (rr_104)), (0, .ref x), (1, .int (a1))]) X.1 X.2.1 dX12_tick_238 hl (k := 0) rfl (by rw [ex_688]; rfl) (by decide) rfl (fun ls hl => ?_)
              refine lv_goto (tgt := 194) X.1 X.2.1 dX12_tick_241 (by decide) ?_
              have t_690 : At S_676 x 12 := tAt_sA eS_676 ha_x_L_142
              have zc_691 : zA S_676 x 1219 = zA T_66 x 1219 := (zA_sAn eS_676 (ex3 (gQ_12_1219 hO_T_141.1 ha_x_L_142)) h_644 rfl).trans zk_144
              have zc_692 : zA S_676 x 1237 = zA T_66 x 1237 := (zA_sAn eS_676 (ex3 (gQ_12_1237 hO_T_141.1 ha_x_L_142)) h_644 rfl).trans zk_146
              have zm_693 : ZM S S_676 x := ZM_eq iv_148 (zA_sAn eS_676 (ex3 (gQ_12_1207 hO_T_141.1 ha_x_L_142)) h_644 rfl)
              have rR_694 : RowR S_676 x (3 * a1_z + 0).toNat (qb (ticB Ev Rl A)) := RowR_eq pw_159 (zA_sAn eS_676 (ex3 (gQ_12_1218 hO_T_141.1 ha_x_L_142)) h_644 rfl) (zA_sAn eS_676 (ex3 (gQ_12_1219 hO_T_141.1 ha_x_L_142)) h_644 rfl)
              have rR_695 : RowR S_676 x (3 * a1_z + 1).toNat (qe (ticB Ev Rl A)) := RowR_eq pw_160 (zA_sAn eS_676 (ex3 (gQ_12_1218 hO_T_141.1 ha_x_L_142)) h_644 rfl) (zA_sAn eS_676 (ex3 (gQ_12_1219 hO_T_141.1 ha_x_L_142)) h_644 rfl)
              have rR_696 : RowR S_676 x (3 * a1_z + 2).toNat (ql (ticB Ev Rl A)) := RowR_eq pw_161 (zA_sAn eS_676 (ex3 (gQ_12_1218 hO_T_141.1 ha_x_L_142)) h_644 rfl) (zA_sAn eS_676 (ex3 (gQ_12_1219 hO_T_141.1 ha_x_L_142)) h_644 rfl)
              have zR_697 : zA S_676 x 1215 a1_z.toNat = ((qst (ticB Ev Rl A))).toInt := (congrFun (zA_sAn eS_676 (ex3 (gQ_12_1215 hO_T_141.1 ha_x_L_142)) h_644 rfl) _).trans pw_162
              have zR_698 : zA S_676 x 1214 a1_z.toNat = ((qse (ticB Ev Rl A))).toInt := (congrFun (zA_sAn eS_676 (ex3 (gQ_12_1214 hO_T_141.1 ha_x_L_142)) h_644 rfl) _).trans pw_163
              have zR_699 : zA S_676 x 1216 a1_z.toNat = ((qdr (ticB Ev Rl A))).toInt := (congrFun (zA_sAn eS_676 (ex3 (gQ_12_1216 hO_T_141.1 ha_x_L_142)) h_644 rfl) _).trans pw_165
              have zR_700 : zA S_676 x 1217 a1_z.toNat = ((qtk (ticB Ev Rl A))).toInt := (congrFun (zA_sAn eS_676 (ex3 (gQ_12_1217 hO_T_141.1 ha_x_L_142)) h_644 rfl) _).trans pw_166
              have gR_701 : GrW S_676 x a1_z.toNat (qg (ticB Ev Rl A)) := GrW_m6 (i := ((12 * (rr_115.toInt + v_122.toInt)) + i4_140_z)) hO_T_141.1 ha_x_L_142 (fun k hk => by omega) (by omega) zs_680 (zA_sAn eS_676 (ex3 (gQ_12_1235 hO_T_141.1 ha_x_L_142)) h_644 rfl) (congrFun (zA_sAn eS_676 (ex3 (gQ_12_1237 hO_T_141.1 ha_x_L_142)) h_644 rfl) _) pw_164
              have pz_702 : PlZ S_676 x (qpl (ticB Ev Rl A)) (qsd (ticB Ev Rl A)) := PlZ_eq pw_168 (zA_sAn eS_676 (ex3 (gQ_12_1208 hO_T_141.1 ha_x_L_142)) h_644 rfl) (zA_sAn eS_676 (ex3 (gQ_12_1207 hO_T_141.1 ha_x_L_142)) h_644 rfl)
              have t_703 : pI S_676 1238 x = v_169 := tI_sA eS_676 ev_169
              have pz_704 : (pI S_676 1238 x).toInt = v_169.toInt := (congrArg Int32.toInt t_703).trans rfl
              have kR_705 : SkW S_676 x (qsk (ticB Ev Rl A)) := SkW_m6 (m := ((12 * (rr_115.toInt + v_122.toInt)) + i4_140_z)) hO_T_141.1 ha_x_L_142 (by rw [eS_676]; rfl) (zA_sAn eS_676 (ex3 (gQ_12_1240 hO_T_141.1 ha_x_L_142)) h_644 rfl) (zA_sAn eS_676 (ex3 (gQ_12_1241 hO_T_141.1 ha_x_L_142)) h_644 rfl) (zA_sAn eS_676 (ex3 (gQ_12_1242 hO_T_141.1 ha_x_L_142)) h_644 rfl) (zA_sAn eS_676 (ex3 (gQ_12_1239 hO_T_141.1 ha_x_L_142)) h_644 rfl) (by omega) zs_680 (zA_sAn eS_676 (ex3 (gQ_12_1235 hO_T_141.1 ha_x_L_142)) h_644 rfl) pw_167
              have px_706 : PwX S S_676 x a1_z := PwX_m6 (i := ((12 * (rr_115.toInt + v_122.toInt)) + i4_140_z)) iv_150 hO_T_141.1 ha_x_L_142 (by omega) (by omega) (zA_sAn eS_676 (ex3 (gQ_12_1218 hO_T_141.1 ha_x_L_142)) h_644 rfl) (zA_sAn eS_676 (ex3 (gQ_12_1219 hO_T_141.1 ha_x_L_142)) h_644 rfl) zs_680 (zA_sAn eS_676 (ex3 (gQ_12_1235 hO_T_141.1 ha_x_L_142)) h_644 rfl) (pw5 (zA_sAn eS_676 (ex3 (gQ_12_1214 hO_T_141.1 ha_x_L_142)) h_644 rfl) (zA_sAn eS_676 (ex3 (gQ_12_1215 hO_T_141.1 ha_x_L_142)) h_644 rfl) (zA_sAn eS_676 (ex3 (gQ_12_1216 hO_T_141.1 ha_x_L_142)) h_644 rfl) (zA_sAn eS_676 (ex3 (gQ_12_1217 hO_T_141.1 ha_x_L_142)) h_644 rfl) (zA_sAn eS_676 (ex3 (gQ_12_1237 hO_T_141.1 ha_x_L_142)) h_644 rfl))
              have t_707 : pI S_676 1201 x = v_1 := tI_sA eS_676 ik_155
              exact ih_L_139 _ (by omega) _ _ _ _ (x_688) (x_688.toInt) rfl hw rfl (by omega) t_690 hO_677 zc_691 zc_692 mi_682 zm_693 (PotW_of (rfl : (ticB Ev Rl A) = (ticB Ev Rl A)) rR_694 rR_695 rR_696 zR_697 zR_698 gR_701 zR_699 zR_700 kR_705 pz_702) px_706 mt_687 (by have h := mt_686; have e9 : (i4_140_z + 1 : Int) = x_688.toInt := (by omega); rw [e9] at h; exact h) (by omega) t_707 (lv_sub hl [0, 1, 2, 3, 4] rfl)
          have t_708 : At S_132 x 12 := tAt_sA eS_132 ha_x_L_67
          have mi_709 : MIe S_132 x (-1) := MIe_sA mk_68 hO_T_66.1 ha_x_L_67 h_130 eS_132 (by decide +kernel)
          have zm_710 : ZM S S_132 x := ZM_eq iv_70 (zA_sAn eS_132 (ex3 (gQ_12_1207 hO_T_66.1 ha_x_L_67)) h_130 rfl)
          have rR_711 : RowR S_132 x (3 * a1_z + 0).toNat (qb (ticB Ev Rl A)) := RowR_eq pw_76 (zA_sAn eS_132 (ex3 (gQ_12_1218 hO_T_66.1 ha_x_L_67)) h_130 rfl) (zA_sAn eS_132 (ex3 (gQ_12_1219 hO_T_66.1 ha_x_L_67)) h_130 rfl)
          have rR_712 : RowR S_132 x (3 * a1_z + 1).toNat (qe (ticB Ev Rl A)) := RowR_eq pw_77 (zA_sAn eS_132 (ex3 (gQ_12_1218 hO_T_66.1 ha_x_L_67)) h_130 rfl) (zA_sAn eS_132 (ex3 (gQ_12_1219 hO_T_66.1 ha_x_L_67)) h_130 rfl)
          have rR_713 : RowR S_132 x (3 * a1_z + 2).toNat (ql (ticB Ev Rl A)) := RowR_eq pw_78 (zA_sAn eS_132 (ex3 (gQ_12_1218 hO_T_66.1 ha_x_L_67)) h_130 rfl) (zA_sAn eS_132 (ex3 (gQ_12_1219 hO_T_66.1 ha_x_L_67)) h_130 rfl)
          have zR_714 : zA S_132 x 1215 a1_z.toNat = ((qst (ticB Ev Rl A))).toInt := (congrFun (zA_sAn eS_132 (ex3 (gQ_12_1215 hO_T_66.1 ha_x_L_67)) h_130 rfl) _).trans pw_79
          have zR_715 : zA S_132 x 1214 a1_z.toNat = ((qse (ticB Ev Rl A))).toInt := (congrFun (zA_sAn eS_132 (ex3 (gQ_12_1214 hO_T_66.1 ha_x_L_67)) h_130 rfl) _).trans pw_80
          have zR_716 : zA S_132 x 1216 a1_z.toNat = ((qdr (ticB Ev Rl A))).toInt := (congrFun (zA_sAn eS_132 (ex3 (gQ_12_1216 hO_T_66.1 ha_x_L_67)) h_130 rfl) _).trans pw_82
          have zR_717 : zA S_132 x 1217 a1_z.toNat = ((qtk (ticB Ev Rl A))).toInt := (congrFun (zA_sAn eS_132 (ex3 (gQ_12_1217 hO_T_66.1 ha_x_L_67)) h_130 rfl) _).trans pw_83
          have gR_718 : GrW S_132 x a1_z.toNat (qg (ticB Ev Rl A)) := GrW_m5 (m := (rr_115.toInt + v_122.toInt)) hO_T_66.1 ha_x_L_67 (fun k hk => by omega) (by omega) zs_136 (zA_sAn eS_132 (ex3 (gQ_12_1236 hO_T_66.1 ha_x_L_67)) h_130 rfl) (congrFun (zA_sAn eS_132 (ex3 (gQ_12_1237 hO_T_66.1 ha_x_L_67)) h_130 rfl) _) pw_81
          have pz_719 : PlZ S_132 x (qpl (ticB Ev Rl A)) (qsd (ticB Ev Rl A)) := PlZ_eq pw_85 (zA_sAn eS_132 (ex3 (gQ_12_1208 hO_T_66.1 ha_x_L_67)) h_130 rfl) (zA_sAn eS_132 (ex3 (gQ_12_1207 hO_T_66.1 ha_x_L_67)) h_130 rfl)
          have t_720 : pI S_132 1238 x = v_86 := tI_sA eS_132 ev_86
          have pz_721 : (pI S_132 1238 x).toInt = v_86.toInt := (congrArg Int32.toInt t_720).trans rfl
          have kR_722 : SkW S_132 x (qsk (ticB Ev Rl A)) := SkW_m5 (m := (rr_115.toInt + v_122.toInt)) hO_T_66.1 ha_x_L_67 (by rw [eS_132]; rfl) (zA_sAn eS_132 (ex3 (gQ_12_1240 hO_T_66.1 ha_x_L_67)) h_130 rfl) (zA_sAn eS_132 (ex3 (gQ_12_1241 hO_T_66.1 ha_x_L_67)) h_130 rfl) (zA_sAn eS_132 (ex3 (gQ_12_1242 hO_T_66.1 ha_x_L_67)) h_130 rfl) (zA_sAn eS_132 (ex3 (gQ_12_1239 hO_T_66.1 ha_x_L_67)) h_130 rfl) (by omega) zs_136 (zA_sAn eS_132 (ex3 (gQ_12_1236 hO_T_66.1 ha_x_L_67)) h_130 rfl) pw_84
          have px_723 : PwX S S_132 x a1_z := PwX_m5 (m := (rr_115.toInt + v_122.toInt)) iv_72 hO_T_66.1 ha_x_L_67 (by omega) (by omega) (zA_sAn eS_132 (ex3 (gQ_12_1218 hO_T_66.1 ha_x_L_67)) h_130 rfl) (zA_sAn eS_132 (ex3 (gQ_12_1219 hO_T_66.1 ha_x_L_67)) h_130 rfl) zs_136 (zA_sAn eS_132 (ex3 (gQ_12_1236 hO_T_66.1 ha_x_L_67)) h_130 rfl) (pw5 (zA_sAn eS_132 (ex3 (gQ_12_1214 hO_T_66.1 ha_x_L_67)) h_130 rfl) (zA_sAn eS_132 (ex3 (gQ_12_1215 hO_T_66.1 ha_x_L_67)) h_130 rfl) (zA_sAn eS_132 (ex3 (gQ_12_1216 hO_T_66.1 ha_x_L_67)) h_130 rfl) (zA_sAn eS_132 (ex3 (gQ_12_1217 hO_T_66.1 ha_x_L_67)) h_130 rfl) (zA_sAn eS_132 (ex3 (gQ_12_1237 hO_T_66.1 ha_x_L_67)) h_130 rfl))
          exact L_139 _ _ _ _ _ (0) (0) rfl hw ti_0 (by omega) t_708 hO_133 zc_143 zc_145 mi_709 zm_710 (PotW_of (rfl : (ticB Ev Rl A) = (ticB Ev Rl A)) rR_711 rR_712 rR_713 zR_714 zR_715 gR_718 zR_716 zR_717 kR_722 pz_719) px_723 mt_138 MtL_0 (by omega) t_154 (lv_sub hl [0, 1, 2, 3, 4] rfl)
        · have z_b_724 := trivial
          have k_725 : rr_104.toInt = 0 := z_eq rfl ti_0 c_109
          refine lv_iconst (v := 0) X.1 X.2.1 dX12_tick_169 (by decide) ?_
          have pz_726 : (pI T_66 1238 x).toInt = v_86.toInt := (congrArg Int32.toInt ev_86).trans rfl
          rw [hQQ]
          exact ret_z X hw hr hlocks (Nat.le_of_ble_eq_true rfl) (Nat.le_of_ble_eq_true rfl) (by decide) ⟨hO_T_66, Or.inr ⟨⟨mk_68, iv_69, iv_70, PotW_of (show (ticF Ev Rl A).1 = (ticB Ev Rl A) by rw [ticF_0 (show ¬ 0 < (qst (ticB Ev Rl A)).toInt by have e9 := congrArg Int32.toInt us_99; have e : (v_96 : Int32).toInt = v_96.toInt := rfl; omega) (List.eq_nil_of_length_eq_zero (by have := pw_77.1; omega))]) pw_76 pw_77 pw_78 pw_79 pw_80 pw_81 pw_82 pw_83 pw_84 pw_85, iv_72, fun h => (by rw [ticF_0 (show ¬ 0 < (qst (ticB Ev Rl A)).toInt by have e9 := congrArg Int32.toInt us_99; have e : (v_96 : Int32).toInt = v_96.toInt := rfl; omega) (List.eq_nil_of_length_eq_zero (by have := pw_77.1; omega))] at h; exact h)⟩, rfl⟩⟩ dX12_tick_170
      · have z_b_727 := trivial
        have k_728 : v_96.toInt > 0 := z_nle rfl ti_0 c_100
        refine lv_aload_n X.1 X.2.1 dX12_tick_146 rfl (lv_at hl 0 rfl) ?_
        refine r_getR (g := 1215) X hw ha_x_L_67 rfl 15 h_93 (by decide) rfl inn_X12_tick_12 (by decide) (X.2.2.2.1 (.fieldLink RX12 46 "SilkMillModel" "stop" "[I") (by decide +kernel)) rfl (gv_1215 _ _) dX12_tick_147 ?_
        refine lv_iload_n X.1 X.2.1 dX12_tick_150 rfl (lv_at hl 1 rfl) ?_
        refine lv_dup2_11 X.1 X.2.1 dX12_tick_151 rfl rfl ?_
        refine r_iald X hw h_94 rfl (by rw [h_95]; exact z_ix hz_a1 (by omega) (by omega)) dX12_tick_152 ?_
        rw [ev_96]
        refine lv_iconst (v := 1) X.1 X.2.1 dX12_tick_153 (by decide) ?_
        refine lv_isub X.1 X.2.1 dX12_tick_154 ?_
        refine lv_topi (fun v_729 ev_729 => ?_)
        have z_730 : v_729.toInt = v_96.toInt - 1 := z_sub ev_729 rfl ti_1 (by omega) (by omega)
        refine r_iast X hw h_94 rfl (by rw [h_95]; exact z_ix hz_a1 (by omega) (by omega)) dX12_tick_155 (fun H locs hw => ?_)
        obtain ⟨S_731, eS_731⟩ : ∃ T, T = sA T_66 q_92 (upd (pA T_66 q_92) (Int32.toNatClampNeg (a1)) (v_729)) := ⟨_, rfl⟩
        rw [← eS_731] at hw
        have hO_732 : Ok MTK S S_731 := hO_T_66.sA eS_731 h_94 (by decide +kernel) (uA_514 hO_T_66.1 h_94)
        have h_733 : pA S_731 q_92 (Int32.toNatClampNeg (a1)) = v_729 := tA_sAs eS_731
        have t_734 : pR S_731 1215 x = some q_92 := tR_sA eS_731 h_93
        have t_736 : pR T_66 1215 x = some q_92 := by have h := t_734; rw [eS_731, pR_sA] at h; exact h
        have zs_735 : ∀ j, zA S_731 x 1215 j = if j = (a1_z).toNat then (v_96.toInt - 1) else zA T_66 x 1215 j := by have h := zA_sAs eS_731 t_736 z_730; rw [z_nc hz_a1 (by omega)] at h; exact h
        refine lv_iconst (v := 0) X.1 X.2.1 dX12_tick_156 (by decide) ?_
        have zm_737 : ZM S S_731 x := ZM_eq iv_70 (zA_sAn eS_731 (ex3 (gQ_12_1207 hO_T_66.1 ha_x_L_67)) h_94 rfl)
        have mi_738 : MIe S_731 x (-1) := MIe_sA mk_68 hO_T_66.1 ha_x_L_67 h_94 eS_731 (by decide +kernel)
        have zc_739 : zA S_731 x 1237 = zA T_66 x 1237 := zA_sAn eS_731 (ex3 (gQ_12_1237 hO_T_66.1 ha_x_L_67)) h_94 rfl
        have rR_740 : RowR S_731 x (3 * a1_z + 0).toNat (qb (ticB Ev Rl A)) := RowR_eq pw_76 (zA_sAn eS_731 (ex3 (gQ_12_1218 hO_T_66.1 ha_x_L_67)) h_94 rfl) (zA_sAn eS_731 (ex3 (gQ_12_1219 hO_T_66.1 ha_x_L_67)) h_94 rfl)
        have rR_741 : RowR S_731 x (3 * a1_z + 1).toNat (qe (ticB Ev Rl A)) := RowR_eq pw_77 (zA_sAn eS_731 (ex3 (gQ_12_1218 hO_T_66.1 ha_x_L_67)) h_94 rfl) (zA_sAn eS_731 (ex3 (gQ_12_1219 hO_T_66.1 ha_x_L_67)) h_94 rfl)
        have rR_742 : RowR S_731 x (3 * a1_z + 2).toNat (ql (ticB Ev Rl A)) := RowR_eq pw_78 (zA_sAn eS_731 (ex3 (gQ_12_1218 hO_T_66.1 ha_x_L_67)) h_94 rfl) (zA_sAn eS_731 (ex3 (gQ_12_1219 hO_T_66.1 ha_x_L_67)) h_94 rfl)
        have zR_743 : zA S_731 x 1215 a1_z.toNat = ((qst (ticB Ev Rl A) - 1)).toInt := (by rw [zs_735, if_pos (by omega)]; exact z_730.symm.trans (congrArg Int32.toInt (ev_729.trans (by rw [us_99]))))
        have zR_744 : zA S_731 x 1214 a1_z.toNat = ((qse (ticB Ev Rl A))).toInt := (congrFun (zA_sAn eS_731 (ex3 (gQ_12_1214 hO_T_66.1 ha_x_L_67)) h_94 rfl) _).trans pw_80
        have zR_745 : zA S_731 x 1216 a1_z.toNat = ((qdr (ticB Ev Rl A))).toInt := (congrFun (zA_sAn eS_731 (ex3 (gQ_12_1216 hO_T_66.1 ha_x_L_67)) h_94 rfl) _).trans pw_82
        have zR_746 : zA S_731 x 1217 a1_z.toNat = ((qtk (ticB Ev Rl A))).toInt := (congrFun (zA_sAn eS_731 (ex3 (gQ_12_1217 hO_T_66.1 ha_x_L_67)) h_94 rfl) _).trans pw_83
        have gR_747 : GrW S_731 x a1_z.toNat (qg (ticB Ev Rl A)) := GrW_eq (zA_sAn eS_731 (ex3 (gQ_12_1235 hO_T_66.1 ha_x_L_67)) h_94 rfl) (zA_sAn eS_731 (ex3 (gQ_12_1236 hO_T_66.1 ha_x_L_67)) h_94 rfl) (congrFun (zA_sAn eS_731 (ex3 (gQ_12_1237 hO_T_66.1 ha_x_L_67)) h_94 rfl) _) pw_81
        have pz_748 : PlZ S_731 x (qpl (ticB Ev Rl A)) (qsd (ticB Ev Rl A)) := PlZ_eq pw_85 (zA_sAn eS_731 (ex3 (gQ_12_1208 hO_T_66.1 ha_x_L_67)) h_94 rfl) (zA_sAn eS_731 (ex3 (gQ_12_1207 hO_T_66.1 ha_x_L_67)) h_94 rfl)
        have t_749 : pI S_731 1238 x = v_86 := tI_sA eS_731 ev_86
        have pz_750 : (pI S_731 1238 x).toInt = v_86.toInt := (congrArg Int32.toInt t_749).trans rfl
        have kR_751 : SkW S_731 x (qsk (ticB Ev Rl A)) := SkW_n (by rw [eS_731]; rfl) ⟨zA_sAn eS_731 (ex3 (gQ_12_1235 hO_T_66.1 ha_x_L_67)) h_94 rfl, zA_sAn eS_731 (ex3 (gQ_12_1236 hO_T_66.1 ha_x_L_67)) h_94 rfl, zA_sAn eS_731 (ex3 (gQ_12_1239 hO_T_66.1 ha_x_L_67)) h_94 rfl, zA_sAn eS_731 (ex3 (gQ_12_1240 hO_T_66.1 ha_x_L_67)) h_94 rfl, zA_sAn eS_731 (ex3 (gQ_12_1241 hO_T_66.1 ha_x_L_67)) h_94 rfl, zA_sAn eS_731 (ex3 (gQ_12_1242 hO_T_66.1 ha_x_L_67)) h_94 rfl⟩ pw_84
        have px_752 : PwX S S_731 x a1_z := PwX_z iv_72 (zA_sAn eS_731 (ex3 (gQ_12_1218 hO_T_66.1 ha_x_L_67)) h_94 rfl) (zA_sAn eS_731 (ex3 (gQ_12_1219 hO_T_66.1 ha_x_L_67)) h_94 rfl) (zA_sAn eS_731 (ex3 (gQ_12_1235 hO_T_66.1 ha_x_L_67)) h_94 rfl) (zA_sAn eS_731 (ex3 (gQ_12_1236 hO_T_66.1 ha_x_L_67)) h_94 rfl) zs_735 (by omega) (pw4 (fun _ => zA_sAn eS_731 (ex3 (gQ_12_1214 hO_T_66.1 ha_x_L_67)) h_94 rfl) (fun h => absurd rfl h) (fun _ => zA_sAn eS_731 (ex3 (gQ_12_1216 hO_T_66.1 ha_x_L_67)) h_94 rfl) (fun _ => zA_sAn eS_731 (ex3 (gQ_12_1217 hO_T_66.1 ha_x_L_67)) h_94 rfl) (fun _ => zA_sAn eS_731 (ex3 (gQ_12_1237 hO_T_66.1 ha_x_L_67)) h_94 rfl))
        rw [hQQ]
        exact ret_z X hw hr hlocks (Nat.le_of_ble_eq_true rfl) (Nat.le_of_ble_eq_true rfl) (by decide) ⟨hO_732, Or.inr ⟨⟨mi_738, (GR_eq zc_739 iv_69), zm_737, PotW_of (show (ticF Ev Rl A).1 = wst (ticB Ev Rl A) (qst (ticB Ev Rl A) - 1) by rw [ticF_s (show 0 < (qst (ticB Ev Rl A)).toInt by have e9 := congrArg Int32.toInt us_99; have e : (v_96 : Int32).toInt = v_96.toInt := rfl; omega)]) rR_740 rR_741 rR_742 zR_743 zR_744 gR_747 zR_745 zR_746 kR_751 pz_748, px_752, fun h => (by rw [ticF_s (show 0 < (qst (ticB Ev Rl A)).toInt by have e9 := congrArg Int32.toInt us_99; have e : (v_96 : Int32).toInt = v_96.toInt := rfl; omega)] at h; exact h)⟩, rfl⟩⟩ dX12_tick_157
    obtain ⟨q_753, h_754, h_755, h_756⟩ := gQ_12_1215 hO_T_38.1 ha_x_L_39
    refine r_getR (g := 1215) X hw ha_x_L_39 rfl 15 h_754 (by decide) rfl inn_X12_tick_12 (by decide) (X.2.2.2.1 (.fieldLink RX12 46 "SilkMillModel" "stop" "[I") (by decide +kernel)) rfl (gv_1215 _ _) dX12_tick_88 ?_
    refine lv_iload_n X.1 X.2.1 dX12_tick_91 rfl (lv_at hl 1 rfl) ?_
    refine r_iald X hw h_755 rfl (by rw [h_756]; exact z_ix hz_a1 (by omega) (by omega)) dX12_tick_92 ?_
    refine lv_topi (fun v_757 ev_757 => ?_)
    have rg_758 := And.intro (z_lo v_757) (z_hi v_757)
    have ev_757 := ev_757.symm
    have zf_759 : zA T_38 x 1215 (a1_z).toNat = v_757.toInt := (zA_of h_754 hz_a1 (by omega) ev_757)
    have us_760 : v_757 = (qst (seaF Ev (wtk A (qtk A + 1)))) := Int32.toInt_inj.mp (rfl.trans (zf_759.symm.trans pw_52))
    refine lv_if_ne (tgt := 137) X.1 X.2.1 dX12_tick_93 (by decide) (fun c_761 => ?_) (fun c_761 => ?_)
    · have z_b_762 := trivial
      have k_763 : v_757.toInt ≠ 0 := z_ne rfl ti_0 c_761
      have pz_764 : (pI T_38 1238 x).toInt = v_59.toInt := (congrArg Int32.toInt ev_59).trans rfl
      exact L_65 _ _ _ _  hw ha_x_L_39 hO_T_38 mk_40 iv_41 iv_42 (PotW_of (show ticB Ev Rl A = (seaF Ev (wtk A (qtk A + 1))) from (if_neg (i32_ne (congrArg Int32.toInt us_760.symm) t0 (by have e : (v_757 : Int32).toInt = v_757.toInt := rfl; omega)))) pw_49 pw_50 pw_51 pw_52 pw_53 pw_54 pw_55 pw_56 pw_57 pw_58) iv_44 ik_46 (lv_sub hl [0, 1] rfl)
    · have z_b_765 := trivial
      have k_766 : v_757.toInt = 0 := z_eq rfl ti_0 c_761
      refine lv_bipush (v := 12) X.1 X.2.1 dX12_tick_96 (by decide) ?_
      refine lv_iload_n X.1 X.2.1 dX12_tick_98 rfl (lv_at hl 1 rfl) ?_
      refine lv_imul X.1 X.2.1 dX12_tick_99 ?_
      refine lv_topi (fun v_767 ev_767 => ?_)
      have z_768 : v_767.toInt = 12 * a1_z := z_mul ev_767 ti_12 hz_a1 (by omega) (by omega)
      refine lv_istore_n (lv' := [(2, .int (v_767)), (0, .ref x), (1, .int (a1))]) X.1 X.2.1 dX12_tick_100 rfl hl (by decide) rfl (fun ls hl => ?_)
      have L_769 : ∀ (n : Nat) (T_771 : PS) (H : Heap) (locs : List Loc) (ls : Array Slot) (i2_770 : Int32) (i2_770_z : Int), ((48 - i2_770_z).toNat = n) → (Wd G cy (AS S s.heap.size) s.heap T_771 H locs) → (i2_770.toInt = i2_770_z) → (0 ≤ i2_770_z ∧ i2_770_z ≤ 48) → (At T_771 x 12) → (Ok MTK S T_771) → (MIe T_771 x (-1)) → (12 * a1_z ≤ i2_770_z) → (i2_770_z ≤ 12 * a1_z + 12) → (GR T_771 x) → (ZM S T_771 x) → (PotW T_771 x a1_z (rusF Ev (seaF Ev (wtk A (qtk A + 1))) (Rl.take (i2_770_z - 12 * a1_z).toNat))) → (i2_770_z - 12 * a1_z ≤ (Rl.length : Int)) → (PwX S T_771 x a1_z) → (pI T_771 1201 x = v_1) → (lv_has ls 6 [(2, .int (i2_770)), (0, .ref x), (1, .int (a1))]) → W p l e ({ frames := 8, cells := 0, slots := 0, locals := 384 }) s m [.ref x, .int (a1)].toArray below meth c H locs 0 0 QQ (F0 m 101 ls []) := by
        intro n
        induction n using Nat.strongRecOn with
        | ind n ih_L_769 =>
        intro T_771 H locs ls i2_770 i2_770_z hn hw hz_i2_770 hr_i2_770 ha_x_L_772 hO_T_771 mk_773 iv_774 iv_775 iv_776 iv_777 iv_778 iv_779 iv_780 ik_781 hl
        have rg_782 : (-2147483648) ≤ i2_770_z ∧ i2_770_z ≤ 2147483647 := by rw [← hz_i2_770]; exact ⟨z_lo _, z_hi _⟩
        have pz_783 : (pI T_771 1201 x).toInt = v_1.toInt := (congrArg Int32.toInt ik_781).trans rfl
        have hpw_784 := iv_778
        obtain ⟨pw_785, pw_786, pw_787, pw_788, pw_789, pw_790, pw_791, pw_792, pw_793, pw_794⟩ := hpw_784
        obtain ⟨v_795, ev_795⟩ : ∃ v, pI T_771 1238 x = v := ⟨_, rfl⟩
        have rg_796 := gI_12_1238 hO_T_771.1 ha_x_L_772; rw [ev_795] at rg_796
        have pz_797 : (pI T_771 1238 x).toInt = v_795.toInt := by rw [ev_795]
        have pz_798 : (pI T_771 1238 x).toInt = v_795.toInt := (congrArg Int32.toInt ev_795).trans rfl
        have sl_799 := pw_790.1
        have sl_800 := pw_793.1
        refine lv_iload_n X.1 X.2.1 dX12_tick_101 rfl (lv_at hl 0 rfl) ?_
        refine lv_bipush (v := 12) X.1 X.2.1 dX12_tick_102 (by decide) ?_
        refine lv_iload_n X.1 X.2.1 dX12_tick_104 rfl (lv_at hl 2 rfl) ?_
        refine lv_imul X.1 X.2.1 dX12_tick_105 ?_
        refine lv_topi (fun v_801 ev_801 => ?_)
        have z_802 : v_801.toInt = 12 * a1_z := z_mul ev_801 ti_12 hz_a1 (by omega) (by omega)
        refine lv_aload_n X.1 X.2.1 dX12_tick_106 rfl (lv_at hl 1 rfl) ?_
        obtain ⟨q_803, h_804, h_805, h_806⟩ := gQ_12_1220 hO_T_771.1 ha_x_L_772
        refine r_getR (g := 1220) X hw ha_x_L_772 rfl 20 h_804 (by decide) rfl inn_X12_tick_12 (by decide) (X.2.2.2.1 (.fieldLink RX12 61 "SilkMillModel" "rules" "[I") (by decide +kernel)) rfl (gv_1220 _ _) dX12_tick_107 ?_
        refine lv_iload_n X.1 X.2.1 dX12_tick_110 rfl (lv_at hl 2 rfl) ?_
        refine r_iald X hw h_805 rfl (by rw [h_806]; exact z_ix hz_a1 (by omega) (by omega)) dX12_tick_111 ?_
        refine lv_topi (fun v_807 ev_807 => ?_)
        have z_808 := gE_614 hO_T_771.1 h_805 (Int32.toNatClampNeg (a1)); rw [← ev_807] at z_808
        have ev_807 := ev_807.symm
        have rn_809 : RuR T_771 x a1_z Rl := RuR_fr hG ha_x hO_T_771.fr (by decide +kernel) hp_6
        have zf_810 : zA T_771 x 1220 (a1_z).toNat = v_807.toInt := (zA_of h_804 hz_a1 (by omega) ev_807)
        have rl_811 := rn_809.1
        refine lv_iadd X.1 X.2.1 dX12_tick_112 ?_
        refine lv_topi (fun v_812 ev_812 => ?_)
        have z_813 : v_812.toInt = (12 * a1_z) + v_807.toInt := z_add ev_812 z_802 rfl (by omega) (by omega)
        refine lv_icmp_ge (tgt := 137) X.1 X.2.1 dX12_tick_113 (by decide) (fun c_814 => ?_) (fun c_814 => ?_)
        · have z_b_815 := trivial
          have k_816 : i2_770_z ≥ ((12 * a1_z) + v_807.toInt) := z_le z_813 hz_i2_770 c_814
          have pz_817 : (pI T_771 1238 x).toInt = v_795.toInt := (congrArg Int32.toInt ev_795).trans rfl
          exact L_65 _ _ _ _  hw ha_x_L_772 hO_T_771 mk_773 iv_776 iv_777 (PotW_of (show ticB Ev Rl A = (rusF Ev (seaF Ev (wtk A (qtk A + 1))) (Rl.take (i2_770_z - 12 * a1_z).toNat)) from ((if_pos (i32_eq (congrArg Int32.toInt us_760.symm) t0 (by have e : (v_757 : Int32).toInt = v_757.toInt := rfl; omega))).trans (show rusF Ev (seaF Ev (wtk A (qtk A + 1))) Rl = (rusF Ev (seaF Ev (wtk A (qtk A + 1))) (Rl.take (i2_770_z - 12 * a1_z).toNat)) by rw [show (i2_770_z - 12 * a1_z).toNat = Rl.length by omega, List.take_length]))) pw_785 pw_786 pw_787 pw_788 pw_789 pw_790 pw_791 pw_792 pw_793 pw_794) iv_780 ik_781 (lv_sub hl [1, 2] rfl)
        · have z_b_818 := trivial
          have k_819 : i2_770_z < ((12 * a1_z) + v_807.toInt) := z_nle z_813 hz_i2_770 c_814
          obtain ⟨ru_820, ru_821⟩ : ∃ r, Rl[(i2_770_z - 12 * a1_z).toNat]? = some r := ⟨_, List.getElem?_eq_getElem (by omega)⟩
          have ru_822 : RuX T_771 x (i2_770_z) ru_820 := by have h := rn_809.2 _ _ ru_821; rw [show 12 * a1_z + (((i2_770_z - 12 * a1_z).toNat : Nat) : Int) = i2_770_z by omega] at h; exact h
          refine lv_aload_n X.1 X.2.1 dX12_tick_116 rfl (lv_at hl 1 rfl) ?_
          refine lv_iload_n X.1 X.2.1 dX12_tick_117 rfl (lv_at hl 2 rfl) ?_
          refine lv_iload_n X.1 X.2.1 dX12_tick_118 rfl (lv_at hl 0 rfl) ?_
          have pz_823 : (pI T_771 1238 x).toInt = v_795.toInt := (congrArg Int32.toInt ev_795).trans rfl
          have en_824 : EnR T_771 x a1_z Ev := EnR_fr hG ha_x hO_T_771.fr (by decide +kernel) hp_5
          refine k_i (rm := { frames := 6, cells := 0, slots := 0, locals := 288 }) (av := [.ref x, .int (a1), .int (i2_770)]) X hw (va_runV (As := [.int (a1), .int (i2_770)]) (rest := []) (cfix X) (k_X12_holds5 l G cy κ T_771 _ x (a1) (a1_z) (i2_770) (i2_770_z) (rusF Ev (seaF Ev (wtk A (qtk A + 1))) (Rl.take (i2_770_z - 12 * a1_z).toNat)) Ev ru_820 hO_T_771.1 ha_x_L_772 hz_a1 hz_i2_770 (by omega) (by omega) (by omega) (by omega) mk_773 (PotW_of (rfl : (rusF Ev (seaF Ev (wtk A (qtk A + 1))) (Rl.take (i2_770_z - 12 * a1_z).toNat)) = (rusF Ev (seaF Ev (wtk A (qtk A + 1))) (Rl.take (i2_770_z - 12 * a1_z).toNat))) pw_785 pw_786 pw_787 pw_788 pw_789 pw_790 pw_791 pw_792 pw_793 pw_794) en_824 ru_822) (cwV 2 X.2.2.2.1 gX12_tick_X12_holds rfl rfl rfl (by decide +kernel) ⟨Nat.le_of_ble_eq_true rfl, Nat.le_of_ble_eq_true rfl⟩) (pre_V X hw _ ha_x_L_772 rfl (by decide) rfl) rfl rfl hl.1 rfl (lv_room (Nat.le_of_ble_eq_true rfl)) dX12_tick_119 ⟨Nat.le_of_ble_eq_true rfl, Nat.le_of_ble_eq_true rfl⟩) 0 0 (Nat.le_of_ble_eq_true rfl) (Nat.le_of_ble_eq_true rfl) (fun rr_825 S_826 H locs hp hw hfr hnw => ?_)
          obtain ⟨e2, hp⟩ := hp
          subst e2
          rcases hp with ⟨f_827, er_828⟩ | ⟨f_827, er_828⟩ <;> subst er_828
          · have z_b_829 := trivial
            refine lv_if_eq (tgt := 131) X.1 X.2.1 dX12_tick_122 (by decide) (fun c_830 => absurd c_830 (by decide)) (fun c_830 => ?_)
            refine lv_aload_n X.1 X.2.1 dX12_tick_125 rfl (lv_at hl 1 rfl) ?_
            refine lv_iload_n X.1 X.2.1 dX12_tick_126 rfl (lv_at hl 2 rfl) ?_
            refine lv_iload_n X.1 X.2.1 dX12_tick_127 rfl (lv_at hl 0 rfl) ?_
            have pz_831 : (pI T_771 1238 x).toInt = v_795.toInt := (congrArg Int32.toInt ev_795).trans rfl
            have en_832 : EnR T_771 x a1_z Ev := EnR_fr hG ha_x hO_T_771.fr (by decide +kernel) hp_5
            refine k_v (rm := { frames := 7, cells := 0, slots := 0, locals := 336 }) (av := [.ref x, .int (a1), .int (i2_770)]) X hw (va_runV (As := [.int (a1), .int (i2_770)]) (rest := []) (cfix X) (k_X12_acts5 l G cy κ T_771 _ x (a1) (a1_z) (i2_770) (i2_770_z) (rusF Ev (seaF Ev (wtk A (qtk A + 1))) (Rl.take (i2_770_z - 12 * a1_z).toNat)) Ev ru_820 hO_T_771.1 ha_x_L_772 hz_a1 hz_i2_770 (by omega) (by omega) (by omega) (by omega) mk_773 (PotW_of (rfl : (rusF Ev (seaF Ev (wtk A (qtk A + 1))) (Rl.take (i2_770_z - 12 * a1_z).toNat)) = (rusF Ev (seaF Ev (wtk A (qtk A + 1))) (Rl.take (i2_770_z - 12 * a1_z).toNat))) pw_785 pw_786 pw_787 pw_788 pw_789 pw_790 pw_791 pw_792 pw_793 pw_794) en_832 ru_822) (cwV 2 X.2.2.2.1 gX12_tick_X12_acts rfl rfl rfl (by decide +kernel) ⟨Nat.le_of_ble_eq_true rfl, Nat.le_of_ble_eq_true rfl⟩) (pre_V X hw _ ha_x_L_772 rfl (by decide) rfl) rfl rfl hl.1 rfl (lv_room (Nat.le_of_ble_eq_true rfl)) dX12_tick_128 ⟨Nat.le_of_ble_eq_true rfl, Nat.le_of_ble_eq_true rfl⟩) 0 0 (Nat.le_of_ble_eq_true rfl) (Nat.le_of_ble_eq_true rfl) (fun S_834 H locs hp hw hfr hnw => ?_)
            obtain ⟨hk_835, hp⟩ := hp
            have hO_836 : Ok MTK S S_834 := hO_T_771.call hk_835 (by decide +kernel)
            obtain ⟨mi_837, gr_838, zm_839, pw_840, px_841⟩ := hp
            have gr_842 : GR S_834 x := gr_838 iv_776
            have hpw_843 := pw_840
            obtain ⟨pw_844, pw_845, pw_846, pw_847, pw_848, pw_849, pw_850, pw_851, pw_852, pw_853⟩ := hpw_843
            obtain ⟨v_855, ev_855⟩ : ∃ v, pI S_834 1238 x = v := ⟨_, rfl⟩
            have t_857 : At S_834 x 12 := hk_835.fr.at ha_x_L_772
            have rg_856 := gI_12_1238 hO_836.1 t_857; rw [ev_855] at rg_856
            have pz_858 : (pI S_834 1238 x).toInt = v_855.toInt := by rw [ev_855]
            have pz_859 : (pI S_834 1238 x).toInt = v_855.toInt := (congrArg Int32.toInt ev_855).trans rfl
            have sl_860 := pw_849.1
            have sl_861 := pw_852.1
            obtain ⟨x_862, ex_862⟩ : ∃ y : Int32, y = i2_770 + 1 := ⟨_, rfl⟩
            have z_863 : x_862.toInt = i2_770_z + 1 := z_add ex_862 hz_i2_770 ti_1 (by omega) (by omega)
            refine lv_iinc (v := x_862) (lv' := [(2, .int (x_862)), (0, .ref x), (1, .int (a1))]) X.1 X.2.1 dX12_tick_131 hl (k := 0) rfl (by rw [ex_862]; rfl) (by decide) rfl (fun ls hl => ?_)
            refine lv_goto (tgt := 101) X.1 X.2.1 dX12_tick_134 (by decide) ?_
            have zm_864 : ZM S S_834 x := ZM_tr iv_777 zm_839
            have pz_865 : (pI S_834 1238 x).toInt = v_855.toInt := (congrArg Int32.toInt ev_855).trans rfl
            have px_866 : PwX S S_834 x a1_z := PwX_tr iv_780 px_841
            have t_867 : pI S_834 1201 x = v_1 := hk_835.fr.I' (by decide +kernel) ha_x_L_772 ik_781
            exact ih_L_769 _ (by omega) _ _ _ _ (x_862) (x_862.toInt) rfl hw rfl (by omega) t_857 hO_836 mi_837 (by omega) (by omega) gr_842 zm_864 (PotW_of (show rusF Ev (seaF Ev (wtk A (qtk A + 1))) (Rl.take (x_862.toInt - 12 * a1_z).toNat) = (actF Ev ru_820.1 ru_820.2.1 (rusF Ev (seaF Ev (wtk A (qtk A + 1))) (Rl.take (i2_770_z - 12 * a1_z).toNat))) by rw [show (x_862.toInt - 12 * a1_z).toNat = (i2_770_z - 12 * a1_z).toNat + 1 by omega, rusF_s ru_821, ruF_y f_827]) pw_844 pw_845 pw_846 pw_847 pw_848 pw_849 pw_850 pw_851 pw_852 pw_853) (by omega) px_866 t_867 (lv_sub hl [0, 1, 2] rfl)
          · have z_b_868 := trivial
            refine lv_if_eq (tgt := 131) X.1 X.2.1 dX12_tick_122 (by decide) (fun c_869 => ?_) (fun c_869 => absurd c_869 (by decide))
            obtain ⟨x_870, ex_870⟩ : ∃ y : Int32, y = i2_770 + 1 := ⟨_, rfl⟩
            have z_871 : x_870.toInt = i2_770_z + 1 := z_add ex_870 hz_i2_770 ti_1 (by omega) (by omega)
            refine lv_iinc (v := x_870) (lv' := [(2, .int (x_870)), (0, .ref x), (1, .int (a1))]) X.1 X.2.1 dX12_tick_131 hl (k := 0) rfl (by rw [ex_870]; rfl) (by decide) rfl (fun ls hl => ?_)
            refine lv_goto (tgt := 101) X.1 X.2.1 dX12_tick_134 (by decide) ?_
            have pz_872 : (pI T_771 1238 x).toInt = v_795.toInt := (congrArg Int32.toInt ev_795).trans rfl
            exact ih_L_769 _ (by omega) _ _ _ _ (x_870) (x_870.toInt) rfl hw rfl (by omega) ha_x_L_772 hO_T_771 mk_773 (by omega) (by omega) iv_776 iv_777 (PotW_of (show rusF Ev (seaF Ev (wtk A (qtk A + 1))) (Rl.take (x_870.toInt - 12 * a1_z).toNat) = (rusF Ev (seaF Ev (wtk A (qtk A + 1))) (Rl.take (i2_770_z - 12 * a1_z).toNat)) by rw [show (x_870.toInt - 12 * a1_z).toNat = (i2_770_z - 12 * a1_z).toNat + 1 by omega, rusF_s ru_821, ruF_n f_827]) pw_785 pw_786 pw_787 pw_788 pw_789 pw_790 pw_791 pw_792 pw_793 pw_794) (by omega) iv_780 ik_781 (lv_sub hl [0, 1, 2] rfl)
      have pz_873 : (pI T_38 1238 x).toInt = v_59.toInt := (congrArg Int32.toInt ev_59).trans rfl
      exact L_769 _ _ _ _ _ (v_767) ((12 * a1_z)) rfl hw z_768 (by omega) ha_x_L_39 hO_T_38 mk_40 (by omega) (by omega) iv_41 iv_42 (PotW_of (show rusF Ev (seaF Ev (wtk A (qtk A + 1))) (Rl.take ((12 * a1_z) - 12 * a1_z).toNat) = (seaF Ev (wtk A (qtk A + 1))) by rw [show ((12 * a1_z) - 12 * a1_z).toNat = 0 by omega]; rfl) pw_49 pw_50 pw_51 pw_52 pw_53 pw_54 pw_55 pw_56 pw_57 pw_58) (by omega) iv_44 ik_46 (lv_sub hl [0, 1, 2] rfl)
  refine lv_aload_n X.1 X.2.1 dX12_tick_10 rfl (lv_at hl 0 rfl) ?_
  have t_874 : At S_31 x 12 := tAt_sA eS_31 ha_x
  obtain ⟨q_875, h_876, h_877, h_878⟩ := gQ_12_1214 hO_32.1 t_874
  refine r_getR (g := 1214) X hw t_874 rfl 14 h_876 (by decide) rfl inn_X12_tick_12 (by decide) (X.2.2.2.1 (.fieldLink RX12 43 "SilkMillModel" "search" "[I") (by decide +kernel)) rfl (gv_1214 _ _) dX12_tick_11 ?_
  refine lv_iload_n X.1 X.2.1 dX12_tick_14 rfl (lv_at hl 1 rfl) ?_
  refine lv_aload_n X.1 X.2.1 dX12_tick_15 rfl (lv_at hl 0 rfl) ?_
  refine lv_iload_n X.1 X.2.1 dX12_tick_16 rfl (lv_at hl 1 rfl) ?_
  refine lv_iconst (v := 2) X.1 X.2.1 dX12_tick_17 (by decide) ?_
  have rR_879 : RowR S_31 x (3 * a1_z + 2).toNat (ql A) := RowR_eq pw_7 (zA_sAn eS_31 (ex3 (gQ_12_1218 hO.1 ha_x)) h_23 rfl) (zA_sAn eS_31 (ex3 (gQ_12_1219 hO.1 ha_x)) h_23 rfl)
  have ln_880 : zA S_31 x 1219 (3 * a1_z + 2).toNat = (((ql A)).length : Int) := rR_879.1
  refine k_i (rm := { frames := 1, cells := 0, slots := 0, locals := 48 }) (av := [.ref x, .int (a1), .int 2]) X hw (va_runV (As := [.int (a1), .int 2]) (rest := [.int (a1), .ref q_875]) (cfix X) (k_X12_many2 l G cy κ S_31 _ x (a1) (a1_z) (2) (2) hO_32.1 t_874 hz_a1 ti_2 (by first | assumption | omega) (by first | assumption | omega) (by first | assumption | omega) (by first | assumption | omega)) (cwV 2 X.2.2.2.1 gX12_tick_X12_many rfl rfl rfl (by decide +kernel) ⟨Nat.le_of_ble_eq_true rfl, Nat.le_of_ble_eq_true rfl⟩) (pre_V X hw _ t_874 rfl (by decide) rfl) rfl rfl hl.1 rfl (lv_room (Nat.le_of_ble_eq_true rfl)) dX12_tick_18 ⟨Nat.le_of_ble_eq_true rfl, Nat.le_of_ble_eq_true rfl⟩) 0 0 (Nat.le_of_ble_eq_true rfl) (Nat.le_of_ble_eq_true rfl) (fun rr_881 S_882 H locs hp hw hfr hnw => ?_)
  obtain ⟨e2, hp⟩ := hp
  subst e2
  obtain ⟨f_883, f_884, f_885⟩ := hp
  refine lv_if_ne (tgt := 28) X.1 X.2.1 dX12_tick_21 (by decide) (fun c_886 => ?_) (fun c_886 => ?_)
  · have z_b_887 := trivial
    have k_888 : rr_881.toInt ≠ 0 := z_ne rfl ti_0 c_886
    refine lv_aload_n X.1 X.2.1 dX12_tick_28 rfl (lv_at hl 0 rfl) ?_
    refine r_getR (g := 1214) X hw t_874 rfl 14 h_876 (by decide) rfl inn_X12_tick_12 (by decide) (X.2.2.2.1 (.fieldLink RX12 43 "SilkMillModel" "search" "[I") (by decide +kernel)) rfl (gv_1214 _ _) dX12_tick_29 ?_
    refine lv_iload_n X.1 X.2.1 dX12_tick_32 rfl (lv_at hl 1 rfl) ?_
    refine r_iald X hw h_877 rfl (by rw [h_878]; exact z_ix hz_a1 (by omega) (by omega)) dX12_tick_33 ?_
    refine lv_topi (fun v_889 ev_889 => ?_)
    have rg_890 := And.intro (z_lo v_889) (z_hi v_889)
    have ev_889 := ev_889.symm
    have zR_891 : zA S_31 x 1214 a1_z.toNat = ((qse A)).toInt := (congrFun (zA_sAn eS_31 (ex3 (gQ_12_1214 hO.1 ha_x)) h_23 rfl) _).trans pw_9
    have zf_892 : zA S_31 x 1214 (a1_z).toNat = v_889.toInt := (zA_of h_876 hz_a1 (by omega) ev_889)
    have us_893 : v_889 = (qse A) := Int32.toInt_inj.mp (rfl.trans (zf_892.symm.trans zR_891))
    have iq_894 : 0 ≤ v_889.toInt ∧ v_889.toInt < (efind Ev).toInt := by have h := hp_7; have h2 := congrArg Int32.toInt us_893; exact ⟨by have := h.2.1; have e : (v_889 : Int32).toInt = v_889.toInt := rfl; omega, by have := h.2.2; have e : (v_889 : Int32).toInt = v_889.toInt := rfl; omega⟩
    have zh_895 := z_hi (efind Ev)
    refine lv_iconst (v := 1) X.1 X.2.1 dX12_tick_34 (by decide) ?_
    refine lv_iadd X.1 X.2.1 dX12_tick_35 ?_
    refine lv_topi (fun v_896 ev_896 => ?_)
    have z_897 : v_896.toInt = v_889.toInt + 1 := z_add ev_896 rfl ti_1 (by omega) (by omega)
    refine r_iast X hw h_877 rfl (by rw [h_878]; exact z_ix hz_a1 (by omega) (by omega)) dX12_tick_36 (fun H locs hw => ?_)
    obtain ⟨S_898, eS_898⟩ : ∃ T, T = sA S_31 q_875 (upd (pA S_31 q_875) (Int32.toNatClampNeg (a1)) (v_896)) := ⟨_, rfl⟩
    rw [← eS_898] at hw
    have hO_899 : Ok MTK S S_898 := hO_32.sA eS_898 h_877 (by decide +kernel) (uA_494 hO_32.1 h_877)
    have h_900 : pA S_898 q_875 (Int32.toNatClampNeg (a1)) = v_896 := tA_sAs eS_898
    have t_901 : pR S_898 1214 x = some q_875 := tR_sA eS_898 h_876
    have t_903 : pR S_31 1214 x = some q_875 := by have h := t_901; rw [eS_898, pR_sA] at h; exact h
    have zs_902 : ∀ j, zA S_898 x 1214 j = if j = (a1_z).toNat then (v_889.toInt + 1) else zA S_31 x 1214 j := by have h := zA_sAs eS_898 t_903 z_897; rw [z_nc hz_a1 (by omega)] at h; exact h
    refine lv_aload_n X.1 X.2.1 dX12_tick_37 rfl (lv_at hl 0 rfl) ?_
    refine lv_iload_n X.1 X.2.1 dX12_tick_38 rfl (lv_at hl 1 rfl) ?_
    refine lv_iconst (v := 2) X.1 X.2.1 dX12_tick_39 (by decide) ?_
    have rR_904 : RowR S_898 x (3 * a1_z + 2).toNat (ql A) := RowR_eq rR_879 (zA_sAn eS_898 (ex3 (gQ_12_1218 hO_32.1 t_874)) h_877 rfl) (zA_sAn eS_898 (ex3 (gQ_12_1219 hO_32.1 t_874)) h_877 rfl)
    have ln_905 : zA S_898 x 1219 (3 * a1_z + 2).toNat = (((ql A)).length : Int) := rR_904.1
    have t_906 : At S_898 x 12 := tAt_sA eS_898 t_874
    refine k_i (rm := { frames := 1, cells := 0, slots := 0, locals := 48 }) (av := [.ref x, .int (a1), .int 2]) X hw (va_runV (As := [.int (a1), .int 2]) (rest := []) (cfix X) (k_X12_many2 l G cy κ S_898 _ x (a1) (a1_z) (2) (2) hO_899.1 t_906 hz_a1 ti_2 (by first | assumption | omega) (by first | assumption | omega) (by first | assumption | omega) (by first | assumption | omega)) (cwV 2 X.2.2.2.1 gX12_tick_X12_many rfl rfl rfl (by decide +kernel) ⟨Nat.le_of_ble_eq_true rfl, Nat.le_of_ble_eq_true rfl⟩) (pre_V X hw _ t_906 rfl (by decide) rfl) rfl rfl hl.1 rfl (lv_room (Nat.le_of_ble_eq_true rfl)) dX12_tick_40 ⟨Nat.le_of_ble_eq_true rfl, Nat.le_of_ble_eq_true rfl⟩) 0 0 (Nat.le_of_ble_eq_true rfl) (Nat.le_of_ble_eq_true rfl) (fun rr_907 S_908 H locs hp hw hfr hnw => ?_)
    obtain ⟨e2, hp⟩ := hp
    subst e2
    obtain ⟨f_909, f_910, f_911⟩ := hp
    refine lv_if_le (tgt := 87) X.1 X.2.1 dX12_tick_43 (by decide) (fun c_912 => ?_) (fun c_912 => ?_)
    · exfalso
      have k_913 : rr_907.toInt ≤ 0 := z_le rfl ti_0 c_912
      omega
    have k_914 : rr_907.toInt > 0 := z_nle rfl ti_0 c_912
    refine lv_aload_n X.1 X.2.1 dX12_tick_46 rfl (lv_at hl 0 rfl) ?_
    refine r_getR (g := 1214) X hw t_906 rfl 14 t_901 (by decide) rfl inn_X12_tick_12 (by decide) (X.2.2.2.1 (.fieldLink RX12 43 "SilkMillModel" "search" "[I") (by decide +kernel)) rfl (gv_1214 _ _) dX12_tick_47 ?_
    refine lv_iload_n X.1 X.2.1 dX12_tick_50 rfl (lv_at hl 1 rfl) ?_
    have t_915 : At S_898 q_875 494 := tAt_sA eS_898 h_877
    have t_916 : pN S_898 q_875 = 4 := tN_sA eS_898 h_878
    clear h_878
    refine r_iald X hw t_915 rfl (by rw [t_916]; exact z_ix hz_a1 (by omega) (by omega)) dX12_tick_51 ?_
    rw [h_900]
    refine lv_aload_n X.1 X.2.1 dX12_tick_52 rfl (lv_at hl 0 rfl) ?_
    obtain ⟨q_917, h_918, h_919, h_920⟩ := gQ_12_1213 hO_899.1 t_906
    refine r_getR (g := 1213) X hw t_906 rfl 13 h_918 (by decide) rfl inn_X12_tick_12 (by decide) (X.2.2.2.1 (.fieldLink RX12 40 "SilkMillModel" "find" "[I") (by decide +kernel)) rfl (gv_1213 _ _) dX12_tick_53 ?_
    refine lv_iload_n X.1 X.2.1 dX12_tick_56 rfl (lv_at hl 1 rfl) ?_
    refine r_iald X hw h_919 rfl (by rw [h_920]; exact z_ix hz_a1 (by omega) (by omega)) dX12_tick_57 ?_
    refine lv_topi (fun v_921 ev_921 => ?_)
    have rg_922 := And.intro (z_lo v_921) (z_hi v_921)
    have ev_921 := ev_921.symm
    have zf_923 : zA S_898 x 1213 (a1_z).toNat = v_921.toInt := (zA_of h_918 hz_a1 (by omega) ev_921)
    have en_924 : EnR S_898 x a1_z Ev := EnR_fr hG ha_x hO_899.fr (by decide +kernel) hp_5
    have fd_925 : (efind Ev).toInt = v_921.toInt := by rw [en_924.2.2.2.2, ← zA_eq, show a1_z.toNat = (a1_z).toNat by omega]; exact zf_923
    refine lv_icmp_ne (tgt := 87) X.1 X.2.1 dX12_tick_58 (by decide) (fun c_926 => ?_) (fun c_926 => ?_)
    · have z_b_927 := trivial
      have k_928 : (v_889.toInt + 1) ≠ v_921.toInt := z_ne z_897 rfl c_926
      have mi_929 : MIe S_31 x (-1) := MIe_sA hp_2 hO.1 ha_x h_23 eS_31 (by decide +kernel)
      have mi_930 : MIe S_898 x (-1) := MIe_sA mi_929 hO_32.1 t_874 h_877 eS_898 (by decide +kernel)
      have zc_931 : zA S_31 x 1237 = zA S x 1237 := zA_sAn eS_31 (ex3 (gQ_12_1237 hO.1 ha_x)) h_23 rfl
      have zc_932 : zA S_898 x 1237 = zA S x 1237 := (zA_sAn eS_898 (ex3 (gQ_12_1237 hO_32.1 t_874)) h_877 rfl).trans zc_931
      have zm_933 : ZM S S_31 x := ZM_eq hzm0 (zA_sAn eS_31 (ex3 (gQ_12_1207 hO.1 ha_x)) h_23 rfl)
      have zm_934 : ZM S S_898 x := ZM_eq zm_933 (zA_sAn eS_898 (ex3 (gQ_12_1207 hO_32.1 t_874)) h_877 rfl)
      have rR_935 : RowR S_31 x (3 * a1_z + 0).toNat (qb A) := RowR_eq pw_5 (zA_sAn eS_31 (ex3 (gQ_12_1218 hO.1 ha_x)) h_23 rfl) (zA_sAn eS_31 (ex3 (gQ_12_1219 hO.1 ha_x)) h_23 rfl)
      have rR_936 : RowR S_898 x (3 * a1_z + 0).toNat (qb A) := RowR_eq rR_935 (zA_sAn eS_898 (ex3 (gQ_12_1218 hO_32.1 t_874)) h_877 rfl) (zA_sAn eS_898 (ex3 (gQ_12_1219 hO_32.1 t_874)) h_877 rfl)
      have rR_937 : RowR S_31 x (3 * a1_z + 1).toNat (qe A) := RowR_eq pw_6 (zA_sAn eS_31 (ex3 (gQ_12_1218 hO.1 ha_x)) h_23 rfl) (zA_sAn eS_31 (ex3 (gQ_12_1219 hO.1 ha_x)) h_23 rfl)
      have rR_938 : RowR S_898 x (3 * a1_z + 1).toNat (qe A) := RowR_eq rR_937 (zA_sAn eS_898 (ex3 (gQ_12_1218 hO_32.1 t_874)) h_877 rfl) (zA_sAn eS_898 (ex3 (gQ_12_1219 hO_32.1 t_874)) h_877 rfl)
      have zR_939 : zA S_31 x 1215 a1_z.toNat = ((qst A)).toInt := (congrFun (zA_sAn eS_31 (ex3 (gQ_12_1215 hO.1 ha_x)) h_23 rfl) _).trans pw_8
      have zR_940 : zA S_898 x 1215 a1_z.toNat = ((qst A)).toInt := (congrFun (zA_sAn eS_898 (ex3 (gQ_12_1215 hO_32.1 t_874)) h_877 rfl) _).trans zR_939
      have zR_941 : zA S_898 x 1214 a1_z.toNat = ((qse A + 1)).toInt := (by rw [zs_902, if_pos (by omega)]; exact z_897.symm.trans (congrArg Int32.toInt (ev_896.trans (by rw [us_893]))))
      have zR_942 : zA S_31 x 1216 a1_z.toNat = ((qdr A)).toInt := (congrFun (zA_sAn eS_31 (ex3 (gQ_12_1216 hO.1 ha_x)) h_23 rfl) _).trans pw_11
      have zR_943 : zA S_898 x 1216 a1_z.toNat = ((qdr A)).toInt := (congrFun (zA_sAn eS_898 (ex3 (gQ_12_1216 hO_32.1 t_874)) h_877 rfl) _).trans zR_942
      have zR_944 : zA S_31 x 1217 a1_z.toNat = ((qtk A + 1)).toInt := (by rw [zs_35, if_pos (by omega)]; exact (congrArg Int32.toInt (ev_29.trans (by rw [us_28]))))
      have zR_945 : zA S_898 x 1217 a1_z.toNat = ((qtk A + 1)).toInt := (congrFun (zA_sAn eS_898 (ex3 (gQ_12_1217 hO_32.1 t_874)) h_877 rfl) _).trans zR_944
      have gR_946 : GrW S_31 x a1_z.toNat (qg A) := GrW_eq (zA_sAn eS_31 (ex3 (gQ_12_1235 hO.1 ha_x)) h_23 rfl) (zA_sAn eS_31 (ex3 (gQ_12_1236 hO.1 ha_x)) h_23 rfl) (congrFun (zA_sAn eS_31 (ex3 (gQ_12_1237 hO.1 ha_x)) h_23 rfl) _) pw_10
      have gR_947 : GrW S_898 x a1_z.toNat (qg A) := GrW_eq (zA_sAn eS_898 (ex3 (gQ_12_1235 hO_32.1 t_874)) h_877 rfl) (zA_sAn eS_898 (ex3 (gQ_12_1236 hO_32.1 t_874)) h_877 rfl) (congrFun (zA_sAn eS_898 (ex3 (gQ_12_1237 hO_32.1 t_874)) h_877 rfl) _) gR_946
      have pz_948 : PlZ S_31 x (qpl A) (qsd A) := PlZ_eq pw_14 (zA_sAn eS_31 (ex3 (gQ_12_1208 hO.1 ha_x)) h_23 rfl) (zA_sAn eS_31 (ex3 (gQ_12_1207 hO.1 ha_x)) h_23 rfl)
      have pz_949 : PlZ S_898 x (qpl A) (qsd A) := PlZ_eq pz_948 (zA_sAn eS_898 (ex3 (gQ_12_1208 hO_32.1 t_874)) h_877 rfl) (zA_sAn eS_898 (ex3 (gQ_12_1207 hO_32.1 t_874)) h_877 rfl)
      have t_950 : pI S_31 1238 x = v_15 := tI_sA eS_31 ev_15
      have t_951 : pI S_898 1238 x = v_15 := tI_sA eS_898 t_950
      have pz_952 : (pI S_898 1238 x).toInt = v_15.toInt := (congrArg Int32.toInt t_951).trans rfl
      have kR_953 : SkW S_31 x (qsk A) := SkW_n (by rw [eS_31]; rfl) ⟨zA_sAn eS_31 (ex3 (gQ_12_1235 hO.1 ha_x)) h_23 rfl, zA_sAn eS_31 (ex3 (gQ_12_1236 hO.1 ha_x)) h_23 rfl, zA_sAn eS_31 (ex3 (gQ_12_1239 hO.1 ha_x)) h_23 rfl, zA_sAn eS_31 (ex3 (gQ_12_1240 hO.1 ha_x)) h_23 rfl, zA_sAn eS_31 (ex3 (gQ_12_1241 hO.1 ha_x)) h_23 rfl, zA_sAn eS_31 (ex3 (gQ_12_1242 hO.1 ha_x)) h_23 rfl⟩ pw_13
      have kR_954 : SkW S_898 x (qsk A) := SkW_n (by rw [eS_898]; rfl) ⟨zA_sAn eS_898 (ex3 (gQ_12_1235 hO_32.1 t_874)) h_877 rfl, zA_sAn eS_898 (ex3 (gQ_12_1236 hO_32.1 t_874)) h_877 rfl, zA_sAn eS_898 (ex3 (gQ_12_1239 hO_32.1 t_874)) h_877 rfl, zA_sAn eS_898 (ex3 (gQ_12_1240 hO_32.1 t_874)) h_877 rfl, zA_sAn eS_898 (ex3 (gQ_12_1241 hO_32.1 t_874)) h_877 rfl, zA_sAn eS_898 (ex3 (gQ_12_1242 hO_32.1 t_874)) h_877 rfl⟩ kR_953
      have px_955 : PwX S S_31 x a1_z := PwX_z (PwX_rf S x a1_z) (zA_sAn eS_31 (ex3 (gQ_12_1218 hO.1 ha_x)) h_23 rfl) (zA_sAn eS_31 (ex3 (gQ_12_1219 hO.1 ha_x)) h_23 rfl) (zA_sAn eS_31 (ex3 (gQ_12_1235 hO.1 ha_x)) h_23 rfl) (zA_sAn eS_31 (ex3 (gQ_12_1236 hO.1 ha_x)) h_23 rfl) zs_35 (by omega) (pw4 (fun _ => zA_sAn eS_31 (ex3 (gQ_12_1214 hO.1 ha_x)) h_23 rfl) (fun _ => zA_sAn eS_31 (ex3 (gQ_12_1215 hO.1 ha_x)) h_23 rfl) (fun _ => zA_sAn eS_31 (ex3 (gQ_12_1216 hO.1 ha_x)) h_23 rfl) (fun h => absurd rfl h) (fun _ => zA_sAn eS_31 (ex3 (gQ_12_1237 hO.1 ha_x)) h_23 rfl))
      have px_956 : PwX S S_898 x a1_z := PwX_z px_955 (zA_sAn eS_898 (ex3 (gQ_12_1218 hO_32.1 t_874)) h_877 rfl) (zA_sAn eS_898 (ex3 (gQ_12_1219 hO_32.1 t_874)) h_877 rfl) (zA_sAn eS_898 (ex3 (gQ_12_1235 hO_32.1 t_874)) h_877 rfl) (zA_sAn eS_898 (ex3 (gQ_12_1236 hO_32.1 t_874)) h_877 rfl) zs_902 (by omega) (pw4 (fun h => absurd rfl h) (fun _ => zA_sAn eS_898 (ex3 (gQ_12_1215 hO_32.1 t_874)) h_877 rfl) (fun _ => zA_sAn eS_898 (ex3 (gQ_12_1216 hO_32.1 t_874)) h_877 rfl) (fun _ => zA_sAn eS_898 (ex3 (gQ_12_1217 hO_32.1 t_874)) h_877 rfl) (fun _ => zA_sAn eS_898 (ex3 (gQ_12_1237 hO_32.1 t_874)) h_877 rfl))
      have t_957 : pI S_898 1201 x = v_1 := tI_sA eS_898 t_45
      exact L_37 _ _ _ _  hw t_906 hO_899 mi_930 (GR_eq zc_932 hp_3) zm_934 (PotW_of (seaF_w (A := (wtk A (qtk A + 1))) (show ql A ≠ [] from fun z => by have e0 := congrArg List.length z; have e1 : ([] : List Nat).length = 0 := rfl; have := pw_7.1; omega) (show (qse (wtk A (qtk A + 1)) + 1).toInt < (efind Ev).toInt by have e2 : (qse A + 1).toInt = (v_889.toInt + 1) := (congrArg Int32.toInt (ev_896.trans (by rw [us_893]))).symm.trans z_897; show (qse A + 1).toInt < _; omega)) rR_936 rR_938 rR_904 zR_940 zR_941 gR_947 zR_943 zR_945 kR_954 pz_949) px_956 t_957 (lv_sub hl [0, 1] rfl)
    · have z_b_958 := trivial
      have k_959 : (v_889.toInt + 1) = v_921.toInt := z_eq z_897 rfl c_926
      refine lv_aload_n X.1 X.2.1 dX12_tick_61 rfl (lv_at hl 0 rfl) ?_
      refine r_getR (g := 1214) X hw t_906 rfl 14 t_901 (by decide) rfl inn_X12_tick_12 (by decide) (X.2.2.2.1 (.fieldLink RX12 43 "SilkMillModel" "search" "[I") (by decide +kernel)) rfl (gv_1214 _ _) dX12_tick_62 ?_
      refine lv_iload_n X.1 X.2.1 dX12_tick_65 rfl (lv_at hl 1 rfl) ?_
      refine lv_iconst (v := 0) X.1 X.2.1 dX12_tick_66 (by decide) ?_
      refine r_iast X hw t_915 rfl (by rw [t_916]; exact z_ix hz_a1 (by omega) (by omega)) dX12_tick_67 (fun H locs hw => ?_)
      obtain ⟨S_960, eS_960⟩ : ∃ T, T = sA S_898 q_875 (upd (pA S_898 q_875) (Int32.toNatClampNeg (a1)) (0)) := ⟨_, rfl⟩
      rw [← eS_960] at hw
      have hO_961 : Ok MTK S S_960 := hO_899.sA eS_960 t_915 (by decide +kernel) (uA_494 hO_899.1 t_915)
      have h_962 : pA S_960 q_875 (Int32.toNatClampNeg (a1)) = 0 := tA_sAs eS_960
      have t_963 : pR S_960 1214 x = some q_875 := tR_sA eS_960 t_901
      have t_965 : pR S_898 1214 x = some q_875 := by have h := t_963; rw [eS_960, pR_sA] at h; exact h
      have zs_964 : ∀ j, zA S_960 x 1214 j = if j = (a1_z).toNat then 0 else zA S_898 x 1214 j := by have h := zA_sAs eS_960 t_965 ti_0; rw [z_nc hz_a1 (by omega)] at h; exact h
      refine lv_aload_n X.1 X.2.1 dX12_tick_68 rfl (lv_at hl 0 rfl) ?_
      refine lv_iload_n X.1 X.2.1 dX12_tick_69 rfl (lv_at hl 1 rfl) ?_
      refine lv_iconst (v := 0) X.1 X.2.1 dX12_tick_70 (by decide) ?_
      refine lv_aload_n X.1 X.2.1 dX12_tick_71 rfl (lv_at hl 0 rfl) ?_
      refine lv_iload_n X.1 X.2.1 dX12_tick_72 rfl (lv_at hl 1 rfl) ?_
      refine lv_iconst (v := 2) X.1 X.2.1 dX12_tick_73 (by decide) ?_
      refine lv_iconst (v := 0) X.1 X.2.1 dX12_tick_74 (by decide) ?_
      have t_966 : pI S_898 1201 x = v_1 := tI_sA eS_898 t_45
      have t_967 : pI S_960 1201 x = v_1 := tI_sA eS_960 t_966
      have pz_968 : (pI S_960 1201 x).toInt = v_1.toInt := (congrArg Int32.toInt t_967).trans rfl
      have zc_969 : zA S_31 x 1219 = zA S x 1219 := zA_sAn eS_31 (ex3 (gQ_12_1219 hO.1 ha_x)) h_23 rfl
      have zc_970 : zA S_898 x 1219 = zA S x 1219 := (zA_sAn eS_898 (ex3 (gQ_12_1219 hO_32.1 t_874)) h_877 rfl).trans zc_969
      have zc_971 : zA S_960 x 1219 = zA S x 1219 := (zA_sAn eS_960 (ex3 (gQ_12_1219 hO_899.1 t_906)) t_915 rfl).trans zc_970
      have zz_972 := congrFun zc_971 ((3 * a1_z + 2).toNat)
      have rR_973 : RowR S_31 x (3 * a1_z + 0).toNat (qb A) := RowR_eq pw_5 (zA_sAn eS_31 (ex3 (gQ_12_1218 hO.1 ha_x)) h_23 rfl) (zA_sAn eS_31 (ex3 (gQ_12_1219 hO.1 ha_x)) h_23 rfl)
      have rR_974 : RowR S_898 x (3 * a1_z + 0).toNat (qb A) := RowR_eq rR_973 (zA_sAn eS_898 (ex3 (gQ_12_1218 hO_32.1 t_874)) h_877 rfl) (zA_sAn eS_898 (ex3 (gQ_12_1219 hO_32.1 t_874)) h_877 rfl)
      have rR_975 : RowR S_960 x (3 * a1_z + 0).toNat (qb A) := RowR_eq rR_974 (zA_sAn eS_960 (ex3 (gQ_12_1218 hO_899.1 t_906)) t_915 rfl) (zA_sAn eS_960 (ex3 (gQ_12_1219 hO_899.1 t_906)) t_915 rfl)
      have rR_976 : RowR S_960 x (3 * a1_z + 2).toNat (ql A) := RowR_eq rR_904 (zA_sAn eS_960 (ex3 (gQ_12_1218 hO_899.1 t_906)) t_915 rfl) (zA_sAn eS_960 (ex3 (gQ_12_1219 hO_899.1 t_906)) t_915 rfl)
      have ln_977 : zA S_960 x 1219 (3 * a1_z + 2).toNat = (((ql A)).length : Int) := rR_976.1
      have t_978 : At S_960 x 12 := tAt_sA eS_960 t_906
      have rR_979 : RowR S_31 x (3 * a1_z + 1).toNat (qe A) := RowR_eq pw_6 (zA_sAn eS_31 (ex3 (gQ_12_1218 hO.1 ha_x)) h_23 rfl) (zA_sAn eS_31 (ex3 (gQ_12_1219 hO.1 ha_x)) h_23 rfl)
      have rR_980 : RowR S_898 x (3 * a1_z + 1).toNat (qe A) := RowR_eq rR_979 (zA_sAn eS_898 (ex3 (gQ_12_1218 hO_32.1 t_874)) h_877 rfl) (zA_sAn eS_898 (ex3 (gQ_12_1219 hO_32.1 t_874)) h_877 rfl)
      have rR_981 : RowR S_960 x (3 * a1_z + 1).toNat (qe A) := RowR_eq rR_980 (zA_sAn eS_960 (ex3 (gQ_12_1218 hO_899.1 t_906)) t_915 rfl) (zA_sAn eS_960 (ex3 (gQ_12_1219 hO_899.1 t_906)) t_915 rfl)
      have mi_982 : MIe S_31 x (-1) := MIe_sA hp_2 hO.1 ha_x h_23 eS_31 (by decide +kernel)
      have mi_983 : MIe S_898 x (-1) := MIe_sA mi_982 hO_32.1 t_874 h_877 eS_898 (by decide +kernel)
      have mi_984 : MIe S_960 x (-1) := MIe_sA mi_983 hO_899.1 t_906 t_915 eS_960 (by decide +kernel)
      refine k_i (rm := { frames := 1, cells := 0, slots := 0, locals := 48 }) (av := [.ref x, .int (a1), .int 2, .int 0]) X hw (va_runV (As := [.int (a1), .int 2, .int 0]) (rest := [.int 0, .int (a1), .ref x]) (cfix X) (k_X12_goes5 l G cy κ S_960 _ x (a1) (a1_z) (2) (2) (0) (0) (-1) hO_961.1 t_978 hz_a1 ti_2 ti_0 (by first | assumption | omega) (by first | assumption | omega) (by first | assumption | omega) (by first | assumption | omega) (by first | assumption | omega) (by first | assumption | omega) mi_984) (cwV 3 X.2.2.2.1 gX12_tick_X12_goes rfl rfl rfl (by decide +kernel) ⟨Nat.le_of_ble_eq_true rfl, Nat.le_of_ble_eq_true rfl⟩) (pre_V X hw _ t_978 rfl (by decide) rfl) rfl rfl hl.1 rfl (lv_room (Nat.le_of_ble_eq_true rfl)) dX12_tick_75 ⟨Nat.le_of_ble_eq_true rfl, Nat.le_of_ble_eq_true rfl⟩) 0 0 (Nat.le_of_ble_eq_true rfl) (Nat.le_of_ble_eq_true rfl) (fun rr_985 S_986 H locs hp hw hfr hnw => ?_)
      obtain ⟨hk_987, hp⟩ := hp
      have hO_988 : Ok MTK S S_986 := hO_961.call hk_987 (by decide +kernel)
      obtain ⟨g_989, g_990, g_991, g_992, g_993, g_994, g_995, g_996, g_997⟩ := hp
      obtain ⟨dn_998, dn_999⟩ : ∃ d, ((ql A))[((0 : Int)).toNat]? = some d := ⟨_, List.getElem?_eq_getElem (by have := rR_976.1; omega)⟩
      have dn_1000 : rr_985.toInt = (dn_998 : Int) := by have h8 := rR_976.2 _ _ dn_999; have hi : (600 * (3 * a1_z + 2) + 0).toNat = 600 * (3 * a1_z + 2).toNat + ((0 : Int)).toNat := (by omega); rw [← hi] at h8; omega
      have t_1001 : pI S_986 1201 x = v_1 := hk_987.fr.I' (by decide +kernel) t_978 t_967
      have pz_1002 : (pI S_986 1201 x).toInt = v_1.toInt := (congrArg Int32.toInt t_1001).trans rfl
      have zl_1003 : zA S_986 x 1207 = zA S_960 x 1207 := zA_fr hk_987.fr t_978 (ex3 (gQ_12_1207 hO_961.1 t_978)) (by decide +kernel) (by decide +kernel)
      have zz_1004 := congrFun zl_1003 (rr_985.toInt).toNat
      have al_1005 := ((MI_1 g_994 (c := rr_985.toInt) (by omega) (by omega)).2 (by omega)).2 (by omega) (by omega)
      have gi_1006 := g_996 (3 * a1_z + 0).toNat; rw [if_neg (by omega)] at gi_1006
      have m4_1007 := g_994.2.2.2.1.2 (3 * a1_z + 0).toNat (by omega)
      refine lv_aload_n X.1 X.2.1 dX12_tick_78 rfl (lv_at hl 0 rfl) ?_
      refine lv_iload_n X.1 X.2.1 dX12_tick_79 rfl (lv_at hl 1 rfl) ?_
      refine lv_iconst (v := 0) X.1 X.2.1 dX12_tick_80 (by decide) ?_
      have t_1008 : At S_986 x 12 := hk_987.fr.at t_978
      refine k_i (rm := { frames := 1, cells := 0, slots := 0, locals := 48 }) (av := [.ref x, .int (a1), .int 0]) X hw (va_runV (As := [.int (a1), .int 0]) (rest := [.int (rr_985), .int 0, .int (a1), .ref x]) (cfix X) (k_X12_many2 l G cy κ S_986 _ x (a1) (a1_z) (0) (0) hO_988.1 t_1008 hz_a1 ti_0 (by first | assumption | omega) (by first | assumption | omega) (by first | assumption | omega) (by first | assumption | omega)) (cwV 2 X.2.2.2.1 gX12_tick_X12_many rfl rfl rfl (by decide +kernel) ⟨Nat.le_of_ble_eq_true rfl, Nat.le_of_ble_eq_true rfl⟩) (pre_V X hw _ t_1008 rfl (by decide) rfl) rfl rfl hl.1 rfl (lv_room (Nat.le_of_ble_eq_true rfl)) dX12_tick_81 ⟨Nat.le_of_ble_eq_true rfl, Nat.le_of_ble_eq_true rfl⟩) 0 0 (Nat.le_of_ble_eq_true rfl) (Nat.le_of_ble_eq_true rfl) (fun rr_1009 S_1010 H locs hp hw hfr hnw => ?_)
      obtain ⟨e2, hp⟩ := hp
      subst e2
      obtain ⟨f_1011, f_1012, f_1013⟩ := hp
      refine k_v (rm := { frames := 1, cells := 0, slots := 0, locals := 48 }) (av := [.ref x, .int (a1), .int 0, .int (rr_985), .int (rr_1009)]) X hw (va_runV (As := [.int (a1), .int 0, .int (rr_985), .int (rr_1009)]) (rest := []) (cfix X) (k_X12_comes5 l G cy κ S_986 _ x (a1) (a1_z) (0) (0) (rr_985) (rr_985.toInt) (rr_1009) (rr_1009.toInt) hO_988.1 t_1008 hz_a1 ti_0 rfl rfl (by first | assumption | omega) (by first | assumption | omega) (by first | assumption | omega) (by first | assumption | omega) (by first | assumption | omega) (by first | assumption | omega) (by first | assumption | omega) (by first | assumption | omega) (by first | assumption | omega) (by first | assumption | omega) g_994 (by first | assumption | omega) (by first | assumption | omega)) (cwV 4 X.2.2.2.1 gX12_tick_X12_comes rfl rfl rfl (by decide +kernel) ⟨Nat.le_of_ble_eq_true rfl, Nat.le_of_ble_eq_true rfl⟩) (pre_V X hw _ t_1008 rfl (by decide) rfl) rfl rfl hl.1 rfl (lv_room (Nat.le_of_ble_eq_true rfl)) dX12_tick_84 ⟨Nat.le_of_ble_eq_true rfl, Nat.le_of_ble_eq_true rfl⟩) 0 0 (Nat.le_of_ble_eq_true rfl) (Nat.le_of_ble_eq_true rfl) (fun S_1015 H locs hp hw hfr hnw => ?_)
      obtain ⟨hk_1016, hp⟩ := hp
      have hO_1017 : Ok MTK S S_1015 := hO_988.call hk_1016 (by decide +kernel)
      obtain ⟨mi_1018, cm_1019, cs_1020, cx_1021⟩ := hp
      have t_1022 : At S_1015 x 12 := hk_1016.fr.at t_1008
      have zc_1023 : zA S_31 x 1237 = zA S x 1237 := zA_sAn eS_31 (ex3 (gQ_12_1237 hO.1 ha_x)) h_23 rfl
      have zc_1024 : zA S_898 x 1237 = zA S x 1237 := (zA_sAn eS_898 (ex3 (gQ_12_1237 hO_32.1 t_874)) h_877 rfl).trans zc_1023
      have zc_1025 : zA S_960 x 1237 = zA S x 1237 := (zA_sAn eS_960 (ex3 (gQ_12_1237 hO_899.1 t_906)) t_915 rfl).trans zc_1024
      have zc_1026 : zA S_986 x 1237 = zA S x 1237 := (zA_fr hk_987.fr t_978 (ex3 (gQ_12_1237 hO_961.1 t_978)) (by decide +kernel) (by decide +kernel)).trans zc_1025
      have zc_1027 : zA S_1015 x 1237 = zA S x 1237 := (zA_fr hk_1016.fr t_1008 (ex3 (gQ_12_1237 hO_988.1 t_1008)) (by decide +kernel) (by decide +kernel)).trans zc_1026
      have zm_1028 : ZM S S_31 x := ZM_eq hzm0 (zA_sAn eS_31 (ex3 (gQ_12_1207 hO.1 ha_x)) h_23 rfl)
      have zm_1029 : ZM S S_898 x := ZM_eq zm_1028 (zA_sAn eS_898 (ex3 (gQ_12_1207 hO_32.1 t_874)) h_877 rfl)
      have zm_1030 : ZM S S_960 x := ZM_eq zm_1029 (zA_sAn eS_960 (ex3 (gQ_12_1207 hO_899.1 t_906)) t_915 rfl)
      have zm_1031 : ZM S S_986 x := ZM_eq zm_1030 (zA_fr hk_987.fr t_978 (ex3 (gQ_12_1207 hO_961.1 t_978)) (by decide +kernel) (by decide +kernel))
      have zm_1032 : ZM S S_1015 x := ZM_set zm_1031 cs_1020 ⟨by omega, by omega⟩ ⟨by omega, by omega⟩
      have rR_1033 : RowR S_986 x (3 * a1_z + 0).toNat (qb A) := RowR_gox hO_961.1 t_978 (by omega) rR_975 g_997
      have cap_1035 : ((qb A)).length < 600 := by have h1 := rR_1033.1; have h2 := cx_1021.2.2.2.1; omega
      have rR_1034 : RowR S_1015 x (3 * a1_z + 0).toNat ((qb A) ++ [dn_998]) := RowR_last rR_1033 (show CmO S_986 S_1015 x (3 * a1_z + 0).toNat ((qb A)).length (rr_985.toInt) by rw [show ((qb A)).length = (rr_1009.toInt).toNat by have := rR_1033.1; omega]; exact cx_1021) dn_1000
      have rR_1036 : RowR S_986 x (3 * a1_z + 1).toNat (qe A) := RowR_gox hO_961.1 t_978 (by omega) rR_981 g_997
      have rR_1037 : RowR S_1015 x (3 * a1_z + 1).toNat (qe A) := RowR_cmx hO_988.1 t_1008 (by omega) rR_1036 cx_1021
      have rR_1038 : RowR S_986 x (3 * a1_z + 2).toNat ((ql A).tail) := RowR_goes0 rR_976 g_997 (by have := rR_976.1; omega)
      have rR_1039 : RowR S_1015 x (3 * a1_z + 2).toNat ((ql A).tail) := RowR_cmx hO_988.1 t_1008 (by omega) rR_1038 cx_1021
      have zR_1040 : zA S_31 x 1215 a1_z.toNat = ((qst A)).toInt := (congrFun (zA_sAn eS_31 (ex3 (gQ_12_1215 hO.1 ha_x)) h_23 rfl) _).trans pw_8
      have zR_1041 : zA S_898 x 1215 a1_z.toNat = ((qst A)).toInt := (congrFun (zA_sAn eS_898 (ex3 (gQ_12_1215 hO_32.1 t_874)) h_877 rfl) _).trans zR_1040
      have zR_1042 : zA S_960 x 1215 a1_z.toNat = ((qst A)).toInt := (congrFun (zA_sAn eS_960 (ex3 (gQ_12_1215 hO_899.1 t_906)) t_915 rfl) _).trans zR_1041
      have zR_1043 : zA S_986 x 1215 a1_z.toNat = ((qst A)).toInt := (congrFun (zA_fr hk_987.fr t_978 (ex3 (gQ_12_1215 hO_961.1 t_978)) (by decide +kernel) (by decide +kernel)) _).trans zR_1042
      have zR_1044 : zA S_1015 x 1215 a1_z.toNat = ((qst A)).toInt := (congrFun (zA_fr hk_1016.fr t_1008 (ex3 (gQ_12_1215 hO_988.1 t_1008)) (by decide +kernel) (by decide +kernel)) _).trans zR_1043
      have zR_1045 : zA S_898 x 1214 a1_z.toNat = ((qse A + 1)).toInt := (by rw [zs_902, if_pos (by omega)]; exact z_897.symm.trans (congrArg Int32.toInt (ev_896.trans (by rw [us_893]))))
      have zR_1046 : zA S_960 x 1214 a1_z.toNat = ((0 : Int32)).toInt := (by rw [zs_964, if_pos (by omega)]; decide)
      have zR_1047 : zA S_986 x 1214 a1_z.toNat = ((0 : Int32)).toInt := (congrFun (zA_fr hk_987.fr t_978 (ex3 (gQ_12_1214 hO_961.1 t_978)) (by decide +kernel) (by decide +kernel)) _).trans zR_1046
      have zR_1048 : zA S_1015 x 1214 a1_z.toNat = ((0 : Int32)).toInt := (congrFun (zA_fr hk_1016.fr t_1008 (ex3 (gQ_12_1214 hO_988.1 t_1008)) (by decide +kernel) (by decide +kernel)) _).trans zR_1047
      have zR_1049 : zA S_31 x 1216 a1_z.toNat = ((qdr A)).toInt := (congrFun (zA_sAn eS_31 (ex3 (gQ_12_1216 hO.1 ha_x)) h_23 rfl) _).trans pw_11
      have zR_1050 : zA S_898 x 1216 a1_z.toNat = ((qdr A)).toInt := (congrFun (zA_sAn eS_898 (ex3 (gQ_12_1216 hO_32.1 t_874)) h_877 rfl) _).trans zR_1049
      have zR_1051 : zA S_960 x 1216 a1_z.toNat = ((qdr A)).toInt := (congrFun (zA_sAn eS_960 (ex3 (gQ_12_1216 hO_899.1 t_906)) t_915 rfl) _).trans zR_1050
      have zR_1052 : zA S_986 x 1216 a1_z.toNat = ((qdr A)).toInt := (congrFun (zA_fr hk_987.fr t_978 (ex3 (gQ_12_1216 hO_961.1 t_978)) (by decide +kernel) (by decide +kernel)) _).trans zR_1051
      have zR_1053 : zA S_1015 x 1216 a1_z.toNat = ((qdr A)).toInt := (congrFun (zA_fr hk_1016.fr t_1008 (ex3 (gQ_12_1216 hO_988.1 t_1008)) (by decide +kernel) (by decide +kernel)) _).trans zR_1052
      have zR_1054 : zA S_31 x 1217 a1_z.toNat = ((qtk A + 1)).toInt := (by rw [zs_35, if_pos (by omega)]; exact (congrArg Int32.toInt (ev_29.trans (by rw [us_28]))))
      have zR_1055 : zA S_898 x 1217 a1_z.toNat = ((qtk A + 1)).toInt := (congrFun (zA_sAn eS_898 (ex3 (gQ_12_1217 hO_32.1 t_874)) h_877 rfl) _).trans zR_1054
      have zR_1056 : zA S_960 x 1217 a1_z.toNat = ((qtk A + 1)).toInt := (congrFun (zA_sAn eS_960 (ex3 (gQ_12_1217 hO_899.1 t_906)) t_915 rfl) _).trans zR_1055
      have zR_1057 : zA S_986 x 1217 a1_z.toNat = ((qtk A + 1)).toInt := (congrFun (zA_fr hk_987.fr t_978 (ex3 (gQ_12_1217 hO_961.1 t_978)) (by decide +kernel) (by decide +kernel)) _).trans zR_1056
      have zR_1058 : zA S_1015 x 1217 a1_z.toNat = ((qtk A + 1)).toInt := (congrFun (zA_fr hk_1016.fr t_1008 (ex3 (gQ_12_1217 hO_988.1 t_1008)) (by decide +kernel) (by decide +kernel)) _).trans zR_1057
      have gR_1059 : GrW S_31 x a1_z.toNat (qg A) := GrW_eq (zA_sAn eS_31 (ex3 (gQ_12_1235 hO.1 ha_x)) h_23 rfl) (zA_sAn eS_31 (ex3 (gQ_12_1236 hO.1 ha_x)) h_23 rfl) (congrFun (zA_sAn eS_31 (ex3 (gQ_12_1237 hO.1 ha_x)) h_23 rfl) _) pw_10
      have gR_1060 : GrW S_898 x a1_z.toNat (qg A) := GrW_eq (zA_sAn eS_898 (ex3 (gQ_12_1235 hO_32.1 t_874)) h_877 rfl) (zA_sAn eS_898 (ex3 (gQ_12_1236 hO_32.1 t_874)) h_877 rfl) (congrFun (zA_sAn eS_898 (ex3 (gQ_12_1237 hO_32.1 t_874)) h_877 rfl) _) gR_1059
      have gR_1061 : GrW S_960 x a1_z.toNat (qg A) := GrW_eq (zA_sAn eS_960 (ex3 (gQ_12_1235 hO_899.1 t_906)) t_915 rfl) (zA_sAn eS_960 (ex3 (gQ_12_1236 hO_899.1 t_906)) t_915 rfl) (congrFun (zA_sAn eS_960 (ex3 (gQ_12_1237 hO_899.1 t_906)) t_915 rfl) _) gR_1060
      have gR_1062 : GrW S_986 x a1_z.toNat (qg A) := GrW_eq (zA_fr hk_987.fr t_978 (ex3 (gQ_12_1235 hO_961.1 t_978)) (by decide +kernel) (by decide +kernel)) (zA_fr hk_987.fr t_978 (ex3 (gQ_12_1236 hO_961.1 t_978)) (by decide +kernel) (by decide +kernel)) (congrFun (zA_fr hk_987.fr t_978 (ex3 (gQ_12_1237 hO_961.1 t_978)) (by decide +kernel) (by decide +kernel)) _) gR_1061
      have gR_1063 : GrW S_1015 x a1_z.toNat (qg A) := GrW_eq (zA_fr hk_1016.fr t_1008 (ex3 (gQ_12_1235 hO_988.1 t_1008)) (by decide +kernel) (by decide +kernel)) (zA_fr hk_1016.fr t_1008 (ex3 (gQ_12_1236 hO_988.1 t_1008)) (by decide +kernel) (by decide +kernel)) (congrFun (zA_fr hk_1016.fr t_1008 (ex3 (gQ_12_1237 hO_988.1 t_1008)) (by decide +kernel) (by decide +kernel)) _) gR_1062
      have pz_1064 : PlZ S_31 x (qpl A) (qsd A) := PlZ_eq pw_14 (zA_sAn eS_31 (ex3 (gQ_12_1208 hO.1 ha_x)) h_23 rfl) (zA_sAn eS_31 (ex3 (gQ_12_1207 hO.1 ha_x)) h_23 rfl)
      have pz_1065 : PlZ S_898 x (qpl A) (qsd A) := PlZ_eq pz_1064 (zA_sAn eS_898 (ex3 (gQ_12_1208 hO_32.1 t_874)) h_877 rfl) (zA_sAn eS_898 (ex3 (gQ_12_1207 hO_32.1 t_874)) h_877 rfl)
      have pz_1066 : PlZ S_960 x (qpl A) (qsd A) := PlZ_eq pz_1065 (zA_sAn eS_960 (ex3 (gQ_12_1208 hO_899.1 t_906)) t_915 rfl) (zA_sAn eS_960 (ex3 (gQ_12_1207 hO_899.1 t_906)) t_915 rfl)
      have pz_1067 : PlZ S_986 x (qpl A) (qsd A) := PlZ_eq pz_1066 (zA_fr hk_987.fr t_978 (ex3 (gQ_12_1208 hO_961.1 t_978)) (by decide +kernel) (by decide +kernel)) (zA_fr hk_987.fr t_978 (ex3 (gQ_12_1207 hO_961.1 t_978)) (by decide +kernel) (by decide +kernel))
      have pz_1068 : PlZ S_1015 x (qpl A) (fuI (qsd A) dn_998 1) := PlZ_7 pz_1067 (zA_fr hk_1016.fr t_1008 (ex3 (gQ_12_1208 hO_988.1 t_1008)) (by decide +kernel) (by decide +kernel)) cs_1020 (by omega) (by decide)
      have t_1069 : pI S_31 1238 x = v_15 := tI_sA eS_31 ev_15
      have t_1070 : pI S_898 1238 x = v_15 := tI_sA eS_898 t_1069
      have t_1071 : pI S_960 1238 x = v_15 := tI_sA eS_960 t_1070
      have t_1072 : pI S_986 1238 x = v_15 := hk_987.fr.I' (by decide +kernel) t_978 t_1071
      have t_1073 : pI S_1015 1238 x = v_15 := hk_1016.fr.I' (by decide +kernel) t_1008 t_1072
      have pz_1074 : (pI S_1015 1238 x).toInt = v_15.toInt := (congrArg Int32.toInt t_1073).trans rfl
      have kR_1075 : SkW S_31 x (qsk A) := SkW_n (by rw [eS_31]; rfl) ⟨zA_sAn eS_31 (ex3 (gQ_12_1235 hO.1 ha_x)) h_23 rfl, zA_sAn eS_31 (ex3 (gQ_12_1236 hO.1 ha_x)) h_23 rfl, zA_sAn eS_31 (ex3 (gQ_12_1239 hO.1 ha_x)) h_23 rfl, zA_sAn eS_31 (ex3 (gQ_12_1240 hO.1 ha_x)) h_23 rfl, zA_sAn eS_31 (ex3 (gQ_12_1241 hO.1 ha_x)) h_23 rfl, zA_sAn eS_31 (ex3 (gQ_12_1242 hO.1 ha_x)) h_23 rfl⟩ pw_13
      have kR_1076 : SkW S_898 x (qsk A) := SkW_n (by rw [eS_898]; rfl) ⟨zA_sAn eS_898 (ex3 (gQ_12_1235 hO_32.1 t_874)) h_877 rfl, zA_sAn eS_898 (ex3 (gQ_12_1236 hO_32.1 t_874)) h_877 rfl, zA_sAn eS_898 (ex3 (gQ_12_1239 hO_32.1 t_874)) h_877 rfl, zA_sAn eS_898 (ex3 (gQ_12_1240 hO_32.1 t_874)) h_877 rfl, zA_sAn eS_898 (ex3 (gQ_12_1241 hO_32.1 t_874)) h_877 rfl, zA_sAn eS_898 (ex3 (gQ_12_1242 hO_32.1 t_874)) h_877 rfl⟩ kR_1075
      have kR_1077 : SkW S_960 x (qsk A) := SkW_n (by rw [eS_960]; rfl) ⟨zA_sAn eS_960 (ex3 (gQ_12_1235 hO_899.1 t_906)) t_915 rfl, zA_sAn eS_960 (ex3 (gQ_12_1236 hO_899.1 t_906)) t_915 rfl, zA_sAn eS_960 (ex3 (gQ_12_1239 hO_899.1 t_906)) t_915 rfl, zA_sAn eS_960 (ex3 (gQ_12_1240 hO_899.1 t_906)) t_915 rfl, zA_sAn eS_960 (ex3 (gQ_12_1241 hO_899.1 t_906)) t_915 rfl, zA_sAn eS_960 (ex3 (gQ_12_1242 hO_899.1 t_906)) t_915 rfl⟩ kR_1076
      have kR_1078 : SkW S_986 x (qsk A) := SkW_n (congrArg Int32.toInt (hk_987.fr.I' (by decide +kernel) t_978 rfl)) ⟨zA_fr hk_987.fr t_978 (ex3 (gQ_12_1235 hO_961.1 t_978)) (by decide +kernel) (by decide +kernel), zA_fr hk_987.fr t_978 (ex3 (gQ_12_1236 hO_961.1 t_978)) (by decide +kernel) (by decide +kernel), zA_fr hk_987.fr t_978 (ex3 (gQ_12_1239 hO_961.1 t_978)) (by decide +kernel) (by decide +kernel), zA_fr hk_987.fr t_978 (ex3 (gQ_12_1240 hO_961.1 t_978)) (by decide +kernel) (by decide +kernel), zA_fr hk_987.fr t_978 (ex3 (gQ_12_1241 hO_961.1 t_978)) (by decide +kernel) (by decide +kernel), zA_fr hk_987.fr t_978 (ex3 (gQ_12_1242 hO_961.1 t_978)) (by decide +kernel) (by decide +kernel)⟩ kR_1077
      have kR_1079 : SkW S_1015 x (qsk A) := SkW_n (congrArg Int32.toInt (hk_1016.fr.I' (by decide +kernel) t_1008 rfl)) ⟨zA_fr hk_1016.fr t_1008 (ex3 (gQ_12_1235 hO_988.1 t_1008)) (by decide +kernel) (by decide +kernel), zA_fr hk_1016.fr t_1008 (ex3 (gQ_12_1236 hO_988.1 t_1008)) (by decide +kernel) (by decide +kernel), zA_fr hk_1016.fr t_1008 (ex3 (gQ_12_1239 hO_988.1 t_1008)) (by decide +kernel) (by decide +kernel), zA_fr hk_1016.fr t_1008 (ex3 (gQ_12_1240 hO_988.1 t_1008)) (by decide +kernel) (by decide +kernel), zA_fr hk_1016.fr t_1008 (ex3 (gQ_12_1241 hO_988.1 t_1008)) (by decide +kernel) (by decide +kernel), zA_fr hk_1016.fr t_1008 (ex3 (gQ_12_1242 hO_988.1 t_1008)) (by decide +kernel) (by decide +kernel)⟩ kR_1078
      have px_1080 : PwX S S_31 x a1_z := PwX_z (PwX_rf S x a1_z) (zA_sAn eS_31 (ex3 (gQ_12_1218 hO.1 ha_x)) h_23 rfl) (zA_sAn eS_31 (ex3 (gQ_12_1219 hO.1 ha_x)) h_23 rfl) (zA_sAn eS_31 (ex3 (gQ_12_1235 hO.1 ha_x)) h_23 rfl) (zA_sAn eS_31 (ex3 (gQ_12_1236 hO.1 ha_x)) h_23 rfl) zs_35 (by omega) (pw4 (fun _ => zA_sAn eS_31 (ex3 (gQ_12_1214 hO.1 ha_x)) h_23 rfl) (fun _ => zA_sAn eS_31 (ex3 (gQ_12_1215 hO.1 ha_x)) h_23 rfl) (fun _ => zA_sAn eS_31 (ex3 (gQ_12_1216 hO.1 ha_x)) h_23 rfl) (fun h => absurd rfl h) (fun _ => zA_sAn eS_31 (ex3 (gQ_12_1237 hO.1 ha_x)) h_23 rfl))
      have px_1081 : PwX S S_898 x a1_z := PwX_z px_1080 (zA_sAn eS_898 (ex3 (gQ_12_1218 hO_32.1 t_874)) h_877 rfl) (zA_sAn eS_898 (ex3 (gQ_12_1219 hO_32.1 t_874)) h_877 rfl) (zA_sAn eS_898 (ex3 (gQ_12_1235 hO_32.1 t_874)) h_877 rfl) (zA_sAn eS_898 (ex3 (gQ_12_1236 hO_32.1 t_874)) h_877 rfl) zs_902 (by omega) (pw4 (fun h => absurd rfl h) (fun _ => zA_sAn eS_898 (ex3 (gQ_12_1215 hO_32.1 t_874)) h_877 rfl) (fun _ => zA_sAn eS_898 (ex3 (gQ_12_1216 hO_32.1 t_874)) h_877 rfl) (fun _ => zA_sAn eS_898 (ex3 (gQ_12_1217 hO_32.1 t_874)) h_877 rfl) (fun _ => zA_sAn eS_898 (ex3 (gQ_12_1237 hO_32.1 t_874)) h_877 rfl))
      have px_1082 : PwX S S_960 x a1_z := PwX_z px_1081 (zA_sAn eS_960 (ex3 (gQ_12_1218 hO_899.1 t_906)) t_915 rfl) (zA_sAn eS_960 (ex3 (gQ_12_1219 hO_899.1 t_906)) t_915 rfl) (zA_sAn eS_960 (ex3 (gQ_12_1235 hO_899.1 t_906)) t_915 rfl) (zA_sAn eS_960 (ex3 (gQ_12_1236 hO_899.1 t_906)) t_915 rfl) zs_964 (by omega) (pw4 (fun h => absurd rfl h) (fun _ => zA_sAn eS_960 (ex3 (gQ_12_1215 hO_899.1 t_906)) t_915 rfl) (fun _ => zA_sAn eS_960 (ex3 (gQ_12_1216 hO_899.1 t_906)) t_915 rfl) (fun _ => zA_sAn eS_960 (ex3 (gQ_12_1217 hO_899.1 t_906)) t_915 rfl) (fun _ => zA_sAn eS_960 (ex3 (gQ_12_1237 hO_899.1 t_906)) t_915 rfl))
      have px_1083 : PwX S S_986 x a1_z := PwX_go px_1082 hO_961.1 t_978 (by omega) g_997 (zA_fr hk_987.fr t_978 (ex3 (gQ_12_1235 hO_961.1 t_978)) (by decide +kernel) (by decide +kernel)) (zA_fr hk_987.fr t_978 (ex3 (gQ_12_1236 hO_961.1 t_978)) (by decide +kernel) (by decide +kernel)) (pw5 (zA_fr hk_987.fr t_978 (ex3 (gQ_12_1214 hO_961.1 t_978)) (by decide +kernel) (by decide +kernel)) (zA_fr hk_987.fr t_978 (ex3 (gQ_12_1215 hO_961.1 t_978)) (by decide +kernel) (by decide +kernel)) (zA_fr hk_987.fr t_978 (ex3 (gQ_12_1216 hO_961.1 t_978)) (by decide +kernel) (by decide +kernel)) (zA_fr hk_987.fr t_978 (ex3 (gQ_12_1217 hO_961.1 t_978)) (by decide +kernel) (by decide +kernel)) (zA_fr hk_987.fr t_978 (ex3 (gQ_12_1237 hO_961.1 t_978)) (by decide +kernel) (by decide +kernel)))
      have px_1084 : PwX S S_1015 x a1_z := PwX_cm px_1083 hO_988.1 t_1008 (by omega) cx_1021 (zA_fr hk_1016.fr t_1008 (ex3 (gQ_12_1235 hO_988.1 t_1008)) (by decide +kernel) (by decide +kernel)) (zA_fr hk_1016.fr t_1008 (ex3 (gQ_12_1236 hO_988.1 t_1008)) (by decide +kernel) (by decide +kernel)) (pw5 (zA_fr hk_1016.fr t_1008 (ex3 (gQ_12_1214 hO_988.1 t_1008)) (by decide +kernel) (by decide +kernel)) (zA_fr hk_1016.fr t_1008 (ex3 (gQ_12_1215 hO_988.1 t_1008)) (by decide +kernel) (by decide +kernel)) (zA_fr hk_1016.fr t_1008 (ex3 (gQ_12_1216 hO_988.1 t_1008)) (by decide +kernel) (by decide +kernel)) (zA_fr hk_1016.fr t_1008 (ex3 (gQ_12_1217 hO_988.1 t_1008)) (by decide +kernel) (by decide +kernel)) (zA_fr hk_1016.fr t_1008 (ex3 (gQ_12_1237 hO_988.1 t_1008)) (by decide +kernel) (by decide +kernel)))
      have t_1085 : pI S_1015 1201 x = v_1 := hk_1016.fr.I' (by decide +kernel) t_1008 t_1001
      exact L_37 _ _ _ _  hw t_1022 hO_1017 mi_1018 (GR_eq zc_1027 hp_3) zm_1032 (PotW_of (B := pmk ((qb A) ++ [dn_998]) (qe A) ((ql A).tail) (qst A) (0 : Int32) (qg A) (qpl A) (fuI (qsd A) dn_998 1) (qsk A) (qws A) (qdr A) (qtk A + 1)) ((seaF_f (A := (wtk A (qtk A + 1))) (show ql A ≠ [] from fun z => by have e0 := congrArg List.length z; have e1 : ([] : List Nat).length = 0 := rfl; have := pw_7.1; omega) (show ¬ (qse (wtk A (qtk A + 1)) + 1).toInt < (efind Ev).toInt by have e2 : (qse A + 1).toInt = (v_889.toInt + 1) := (congrArg Int32.toInt (ev_896.trans (by rw [us_893]))).symm.trans z_897; show ¬ (qse A + 1).toInt < _; omega)).trans ((fetF_c (A := wse (wtk A (qtk A + 1)) 0) (hd_cons dn_999)).trans (by rw [capL_y (show (qb (wse (wtk A (qtk A + 1)) 0)).length < 600 from cap_1035)]; show wse (wl (wb (wsd (wse (wtk A (qtk A + 1)) 0) (fuI (qsd A) dn_998 1)) (qb A ++ [dn_998])) (ql A).tail) (if (ql A).tail = [] then (0 : Int32) else 0) = _; rw [ite_s]; rfl))) rR_1034 rR_1037 rR_1039 zR_1044 zR_1048 gR_1063 zR_1053 zR_1058 kR_1079 pz_1068) px_1084 t_1085 (lv_sub hl [0, 1] rfl)
  · have z_b_1086 := trivial
    have k_1087 : rr_881.toInt = 0 := z_eq rfl ti_0 c_886
    refine lv_iconst (v := 0) X.1 X.2.1 dX12_tick_24 (by decide) ?_
    refine lv_goto (tgt := 36) X.1 X.2.1 dX12_tick_25 (by decide) ?_
    refine r_iast X hw h_877 rfl (by rw [h_878]; exact z_ix hz_a1 (by omega) (by omega)) dX12_tick_36 (fun H locs hw => ?_)
    obtain ⟨S_1088, eS_1088⟩ : ∃ T, T = sA S_31 q_875 (upd (pA S_31 q_875) (Int32.toNatClampNeg (a1)) (0)) := ⟨_, rfl⟩
    rw [← eS_1088] at hw
    have hO_1089 : Ok MTK S S_1088 := hO_32.sA eS_1088 h_877 (by decide +kernel) (uA_494 hO_32.1 h_877)
    have h_1090 : pA S_1088 q_875 (Int32.toNatClampNeg (a1)) = 0 := tA_sAs eS_1088
    have t_1091 : pR S_1088 1214 x = some q_875 := tR_sA eS_1088 h_876
    have t_1093 : pR S_31 1214 x = some q_875 := by have h := t_1091; rw [eS_1088, pR_sA] at h; exact h
    have zs_1092 : ∀ j, zA S_1088 x 1214 j = if j = (a1_z).toNat then 0 else zA S_31 x 1214 j := by have h := zA_sAs eS_1088 t_1093 ti_0; rw [z_nc hz_a1 (by omega)] at h; exact h
    refine lv_aload_n X.1 X.2.1 dX12_tick_37 rfl (lv_at hl 0 rfl) ?_
    refine lv_iload_n X.1 X.2.1 dX12_tick_38 rfl (lv_at hl 1 rfl) ?_
    refine lv_iconst (v := 2) X.1 X.2.1 dX12_tick_39 (by decide) ?_
    have rR_1094 : RowR S_1088 x (3 * a1_z + 2).toNat (ql A) := RowR_eq rR_879 (zA_sAn eS_1088 (ex3 (gQ_12_1218 hO_32.1 t_874)) h_877 rfl) (zA_sAn eS_1088 (ex3 (gQ_12_1219 hO_32.1 t_874)) h_877 rfl)
    have ln_1095 : zA S_1088 x 1219 (3 * a1_z + 2).toNat = (((ql A)).length : Int) := rR_1094.1
    have t_1096 : At S_1088 x 12 := tAt_sA eS_1088 t_874
    refine k_i (rm := { frames := 1, cells := 0, slots := 0, locals := 48 }) (av := [.ref x, .int (a1), .int 2]) X hw (va_runV (As := [.int (a1), .int 2]) (rest := []) (cfix X) (k_X12_many2 l G cy κ S_1088 _ x (a1) (a1_z) (2) (2) hO_1089.1 t_1096 hz_a1 ti_2 (by first | assumption | omega) (by first | assumption | omega) (by first | assumption | omega) (by first | assumption | omega)) (cwV 2 X.2.2.2.1 gX12_tick_X12_many rfl rfl rfl (by decide +kernel) ⟨Nat.le_of_ble_eq_true rfl, Nat.le_of_ble_eq_true rfl⟩) (pre_V X hw _ t_1096 rfl (by decide) rfl) rfl rfl hl.1 rfl (lv_room (Nat.le_of_ble_eq_true rfl)) dX12_tick_40 ⟨Nat.le_of_ble_eq_true rfl, Nat.le_of_ble_eq_true rfl⟩) 0 0 (Nat.le_of_ble_eq_true rfl) (Nat.le_of_ble_eq_true rfl) (fun rr_1097 S_1098 H locs hp hw hfr hnw => ?_)
    obtain ⟨e2, hp⟩ := hp
    subst e2
    obtain ⟨f_1099, f_1100, f_1101⟩ := hp
    refine lv_if_le (tgt := 87) X.1 X.2.1 dX12_tick_43 (by decide) (fun c_1102 => ?_) (fun c_1102 => ?_)
    rotate_left
    · exfalso
      have k_1103 : rr_1097.toInt > 0 := z_nle rfl ti_0 c_1102
      omega
    have k_1104 : rr_1097.toInt ≤ 0 := z_le rfl ti_0 c_1102
    have mi_1105 : MIe S_31 x (-1) := MIe_sA hp_2 hO.1 ha_x h_23 eS_31 (by decide +kernel)
    have mi_1106 : MIe S_1088 x (-1) := MIe_sA mi_1105 hO_32.1 t_874 h_877 eS_1088 (by decide +kernel)
    have zc_1107 : zA S_31 x 1237 = zA S x 1237 := zA_sAn eS_31 (ex3 (gQ_12_1237 hO.1 ha_x)) h_23 rfl
    have zc_1108 : zA S_1088 x 1237 = zA S x 1237 := (zA_sAn eS_1088 (ex3 (gQ_12_1237 hO_32.1 t_874)) h_877 rfl).trans zc_1107
    have zm_1109 : ZM S S_31 x := ZM_eq hzm0 (zA_sAn eS_31 (ex3 (gQ_12_1207 hO.1 ha_x)) h_23 rfl)
    have zm_1110 : ZM S S_1088 x := ZM_eq zm_1109 (zA_sAn eS_1088 (ex3 (gQ_12_1207 hO_32.1 t_874)) h_877 rfl)
    have rR_1111 : RowR S_31 x (3 * a1_z + 0).toNat (qb A) := RowR_eq pw_5 (zA_sAn eS_31 (ex3 (gQ_12_1218 hO.1 ha_x)) h_23 rfl) (zA_sAn eS_31 (ex3 (gQ_12_1219 hO.1 ha_x)) h_23 rfl)
    have rR_1112 : RowR S_1088 x (3 * a1_z + 0).toNat (qb A) := RowR_eq rR_1111 (zA_sAn eS_1088 (ex3 (gQ_12_1218 hO_32.1 t_874)) h_877 rfl) (zA_sAn eS_1088 (ex3 (gQ_12_1219 hO_32.1 t_874)) h_877 rfl)
    have rR_1113 : RowR S_31 x (3 * a1_z + 1).toNat (qe A) := RowR_eq pw_6 (zA_sAn eS_31 (ex3 (gQ_12_1218 hO.1 ha_x)) h_23 rfl) (zA_sAn eS_31 (ex3 (gQ_12_1219 hO.1 ha_x)) h_23 rfl)
    have rR_1114 : RowR S_1088 x (3 * a1_z + 1).toNat (qe A) := RowR_eq rR_1113 (zA_sAn eS_1088 (ex3 (gQ_12_1218 hO_32.1 t_874)) h_877 rfl) (zA_sAn eS_1088 (ex3 (gQ_12_1219 hO_32.1 t_874)) h_877 rfl)
    have zR_1115 : zA S_31 x 1215 a1_z.toNat = ((qst A)).toInt := (congrFun (zA_sAn eS_31 (ex3 (gQ_12_1215 hO.1 ha_x)) h_23 rfl) _).trans pw_8
    have zR_1116 : zA S_1088 x 1215 a1_z.toNat = ((qst A)).toInt := (congrFun (zA_sAn eS_1088 (ex3 (gQ_12_1215 hO_32.1 t_874)) h_877 rfl) _).trans zR_1115
    have zR_1117 : zA S_31 x 1214 a1_z.toNat = ((qse A)).toInt := (congrFun (zA_sAn eS_31 (ex3 (gQ_12_1214 hO.1 ha_x)) h_23 rfl) _).trans pw_9
    have zR_1118 : zA S_1088 x 1214 a1_z.toNat = ((0 : Int32)).toInt := (by rw [zs_1092, if_pos (by omega)]; decide)
    have zR_1119 : zA S_31 x 1216 a1_z.toNat = ((qdr A)).toInt := (congrFun (zA_sAn eS_31 (ex3 (gQ_12_1216 hO.1 ha_x)) h_23 rfl) _).trans pw_11
    have zR_1120 : zA S_1088 x 1216 a1_z.toNat = ((qdr A)).toInt := (congrFun (zA_sAn eS_1088 (ex3 (gQ_12_1216 hO_32.1 t_874)) h_877 rfl) _).trans zR_1119
    have zR_1121 : zA S_31 x 1217 a1_z.toNat = ((qtk A + 1)).toInt := (by rw [zs_35, if_pos (by omega)]; exact (congrArg Int32.toInt (ev_29.trans (by rw [us_28]))))
    have zR_1122 : zA S_1088 x 1217 a1_z.toNat = ((qtk A + 1)).toInt := (congrFun (zA_sAn eS_1088 (ex3 (gQ_12_1217 hO_32.1 t_874)) h_877 rfl) _).trans zR_1121
    have gR_1123 : GrW S_31 x a1_z.toNat (qg A) := GrW_eq (zA_sAn eS_31 (ex3 (gQ_12_1235 hO.1 ha_x)) h_23 rfl) (zA_sAn eS_31 (ex3 (gQ_12_1236 hO.1 ha_x)) h_23 rfl) (congrFun (zA_sAn eS_31 (ex3 (gQ_12_1237 hO.1 ha_x)) h_23 rfl) _) pw_10
    have gR_1124 : GrW S_1088 x a1_z.toNat (qg A) := GrW_eq (zA_sAn eS_1088 (ex3 (gQ_12_1235 hO_32.1 t_874)) h_877 rfl) (zA_sAn eS_1088 (ex3 (gQ_12_1236 hO_32.1 t_874)) h_877 rfl) (congrFun (zA_sAn eS_1088 (ex3 (gQ_12_1237 hO_32.1 t_874)) h_877 rfl) _) gR_1123
    have pz_1125 : PlZ S_31 x (qpl A) (qsd A) := PlZ_eq pw_14 (zA_sAn eS_31 (ex3 (gQ_12_1208 hO.1 ha_x)) h_23 rfl) (zA_sAn eS_31 (ex3 (gQ_12_1207 hO.1 ha_x)) h_23 rfl)
    have pz_1126 : PlZ S_1088 x (qpl A) (qsd A) := PlZ_eq pz_1125 (zA_sAn eS_1088 (ex3 (gQ_12_1208 hO_32.1 t_874)) h_877 rfl) (zA_sAn eS_1088 (ex3 (gQ_12_1207 hO_32.1 t_874)) h_877 rfl)
    have t_1127 : pI S_31 1238 x = v_15 := tI_sA eS_31 ev_15
    have t_1128 : pI S_1088 1238 x = v_15 := tI_sA eS_1088 t_1127
    have pz_1129 : (pI S_1088 1238 x).toInt = v_15.toInt := (congrArg Int32.toInt t_1128).trans rfl
    have kR_1130 : SkW S_31 x (qsk A) := SkW_n (by rw [eS_31]; rfl) ⟨zA_sAn eS_31 (ex3 (gQ_12_1235 hO.1 ha_x)) h_23 rfl, zA_sAn eS_31 (ex3 (gQ_12_1236 hO.1 ha_x)) h_23 rfl, zA_sAn eS_31 (ex3 (gQ_12_1239 hO.1 ha_x)) h_23 rfl, zA_sAn eS_31 (ex3 (gQ_12_1240 hO.1 ha_x)) h_23 rfl, zA_sAn eS_31 (ex3 (gQ_12_1241 hO.1 ha_x)) h_23 rfl, zA_sAn eS_31 (ex3 (gQ_12_1242 hO.1 ha_x)) h_23 rfl⟩ pw_13
    have kR_1131 : SkW S_1088 x (qsk A) := SkW_n (by rw [eS_1088]; rfl) ⟨zA_sAn eS_1088 (ex3 (gQ_12_1235 hO_32.1 t_874)) h_877 rfl, zA_sAn eS_1088 (ex3 (gQ_12_1236 hO_32.1 t_874)) h_877 rfl, zA_sAn eS_1088 (ex3 (gQ_12_1239 hO_32.1 t_874)) h_877 rfl, zA_sAn eS_1088 (ex3 (gQ_12_1240 hO_32.1 t_874)) h_877 rfl, zA_sAn eS_1088 (ex3 (gQ_12_1241 hO_32.1 t_874)) h_877 rfl, zA_sAn eS_1088 (ex3 (gQ_12_1242 hO_32.1 t_874)) h_877 rfl⟩ kR_1130
    have px_1132 : PwX S S_31 x a1_z := PwX_z (PwX_rf S x a1_z) (zA_sAn eS_31 (ex3 (gQ_12_1218 hO.1 ha_x)) h_23 rfl) (zA_sAn eS_31 (ex3 (gQ_12_1219 hO.1 ha_x)) h_23 rfl) (zA_sAn eS_31 (ex3 (gQ_12_1235 hO.1 ha_x)) h_23 rfl) (zA_sAn eS_31 (ex3 (gQ_12_1236 hO.1 ha_x)) h_23 rfl) zs_35 (by omega) (pw4 (fun _ => zA_sAn eS_31 (ex3 (gQ_12_1214 hO.1 ha_x)) h_23 rfl) (fun _ => zA_sAn eS_31 (ex3 (gQ_12_1215 hO.1 ha_x)) h_23 rfl) (fun _ => zA_sAn eS_31 (ex3 (gQ_12_1216 hO.1 ha_x)) h_23 rfl) (fun h => absurd rfl h) (fun _ => zA_sAn eS_31 (ex3 (gQ_12_1237 hO.1 ha_x)) h_23 rfl))
    have px_1133 : PwX S S_1088 x a1_z := PwX_z px_1132 (zA_sAn eS_1088 (ex3 (gQ_12_1218 hO_32.1 t_874)) h_877 rfl) (zA_sAn eS_1088 (ex3 (gQ_12_1219 hO_32.1 t_874)) h_877 rfl) (zA_sAn eS_1088 (ex3 (gQ_12_1235 hO_32.1 t_874)) h_877 rfl) (zA_sAn eS_1088 (ex3 (gQ_12_1236 hO_32.1 t_874)) h_877 rfl) zs_1092 (by omega) (pw4 (fun h => absurd rfl h) (fun _ => zA_sAn eS_1088 (ex3 (gQ_12_1215 hO_32.1 t_874)) h_877 rfl) (fun _ => zA_sAn eS_1088 (ex3 (gQ_12_1216 hO_32.1 t_874)) h_877 rfl) (fun _ => zA_sAn eS_1088 (ex3 (gQ_12_1217 hO_32.1 t_874)) h_877 rfl) (fun _ => zA_sAn eS_1088 (ex3 (gQ_12_1237 hO_32.1 t_874)) h_877 rfl))
    have t_1134 : pI S_1088 1201 x = v_1 := tI_sA eS_1088 t_45
    exact L_37 _ _ _ _  hw t_1096 hO_1089 mi_1106 (GR_eq zc_1108 hp_3) zm_1110 (PotW_of ((seaF_n (A := (wtk A (qtk A + 1))) (show ql A = [] from List.eq_nil_of_length_eq_zero (by have := pw_7.1; omega))).trans (wse_id (A := (wtk A (qtk A + 1))) (hp_7.1 (show ql A = [] from List.eq_nil_of_length_eq_zero (by have := pw_7.1; omega)))).symm) rR_1112 rR_1114 rR_1094 zR_1116 zR_1118 gR_1124 zR_1120 zR_1122 kR_1131 pz_1126) px_1133 t_1134 (lv_sub hl [0, 1] rfl)
