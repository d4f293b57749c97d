set_option maxHeartbeats 4000000 in
set_option maxRecDepth 100000 in
theorem sgX_0 {p : Program} {l : Launch} {e : Env} {s : State} {m : MethodId} {below : List Frame} {meth : Method} {c : Code} {Q : State → Prop} (G : va_G) (cy : Nat → ClassId) (S0 : PS) (x : Nat) (X : Cx p c cX11_init 2 s [.ref x].toArray wsX11_init RX11 m G cy (AS S0 s.heap.size)) (hin : meth.name = "<init>") (S : PS) (H : Heap) (locs : List Loc) (ls : Array Slot) (hw : Wd G cy (AS S0 s.heap.size) s.heap S H locs) (hl : lv_has ls 2 [(0, .ref x)]) (hat_x : At S x 11) (hz : ∀ g, pI S g x = 0) (hkp : Kp S0 S (fun a => a = x)) (kk : ∀ (q_147 : Nat) (S : PS) (H : Heap) (locs : List Loc) (ls : Array Slot), Wd G cy (AS S0 s.heap.size) s.heap S H locs → lv_has ls 2 [(1, .int 0), (0, .ref x)] → At S x 11 → At S q_147 17 → pR S 1109 x = some q_147 → pN S q_147 = 16 → Kp S0 S (fun a => a = x) → q_147 ∉ pL S0 → FXi S x 0 → W p l e ({ frames := 5, cells := 100, slots := 3000, locals := 200 }) s m [.ref x].toArray below meth c H locs 29 1806 Q (F0 m 93 ls [])) : W p l e ({ frames := 5, cells := 100, slots := 3000, locals := 200 }) s m [.ref x].toArray below meth c H locs 0 0 Q (F0 m 0 ls []) := by
  refine lv_aload_n X.1 X.2.1 dX11_init_0 rfl (lv_at hl 0 rfl) ?_
  refine W.objInit X.1 X.2.1 X.2.2.2.2.1 (X.2.2.2.1 (.methodLink RX11 3 objectInit) (by decide +kernel)) (X.2.2.2.1 (.instanceMethod objectInit) (by decide +kernel)) (X.2.2.2.1 (.code objectInit ⟨#[0xb1]⟩ 1 none) (by decide +kernel)) rfl (hl.1.trans X.2.2.1.symm) rfl dX11_init_1 (Nat.le_of_ble_eq_true rfl) (Nat.le_of_ble_eq_true rfl) ?_
  refine W.eq (g2 := F0 m 4 ls ([])) rfl ?_
  refine lv_aload_n X.1 X.2.1 dX11_init_4 rfl (lv_at hl 0 rfl) ?_
  refine lv_sipush (v := 600) X.1 X.2.1 dX11_init_5 (by decide) ?_
  have hat_x_o := hat_x
  refine r_newQ (N := 600) (C := RX0) X hw 16 600 1 (by decide) rfl (X.2.2.2.1 (.classLink RX11 9 RX0) (by decide +kernel)) X.2.2.2.2.2.2.2.1.1 (by decide) (by decide) (by decide) (Nat.le_of_ble_eq_true rfl) (Nat.le_of_ble_eq_true rfl) (Nat.le_of_ble_eq_true rfl) (Nat.le_of_ble_eq_true rfl) dX11_init_8 (fun q_101 H hq_101 hw => ?_)
  generalize eS_102 : sN S q_101 16 600 = S_102 at hw
  have hat_x : At S_102 x 11 := by rw [← eS_102]; exact At_sN hat_x hq_101
  have nw_q_101 : q_101 ∉ pL S0 := Kp_new hkp hq_101
  have hkp : Kp S0 S_102 (fun a => a = x) := by rw [← eS_102]; exact Kp_sN hkp hq_101
  have hz : ∀ g, pI S_102 g x = 0 := by rw [← eS_102, pI_sN]; exact hz
  have ha_103 : At S_102 q_101 16 := by rw [← eS_102]; exact At_nN _ _ _ _
  have hn_104 : pN S_102 q_101 = 600 := by rw [← eS_102]; exact pN_sN_new
  refine r_putR X hw hat_x 0 1100 (some q_101) rfl tyX11 (by decide) rfl inn_X11_init_11 tyX11_ok nmX11 (by decide) (X.2.2.2.1 (.fieldLink RX11 11 "SilkMill" "cocoons" "[LSilkMill$Cocoon;") (by decide +kernel)) rfl (Or.inr ⟨rfl, hin, rfl⟩) (fun _ => rfl) rfl (fun _ => rfl) rfl (Nat.le_of_ble_eq_true rfl) (st_1100 _ _) dX11_init_11 (fun H locs hw => ?_)
  generalize eS_105 : sR S_102 1100 x (some q_101) = S_105 at hw
  have hat_x : At S_105 x 11 := by rw [← eS_105]; exact At_sR hat_x
  have ha_103 : At S_105 q_101 16 := by rw [← eS_105]; exact At_sR ha_103
  have hn_104 : pN S_105 q_101 = 600 := by rw [← eS_105, pN_sR]; exact hn_104
  have hkp : Kp S0 S_105 (fun a => a = x) := by rw [← eS_105]; exact Kp_sR hkp (Or.inl rfl)
  have hz : ∀ g, pI S_105 g x = 0 := by rw [← eS_105, pI_sR]; exact hz
  have hr_106 : pR S_105 1100 x = some q_101 := by rw [← eS_105]; exact pR_sR_same
  refine lv_aload_n X.1 X.2.1 dX11_init_14 rfl (lv_at hl 0 rfl) ?_
  refine lv_bipush (v := 10) X.1 X.2.1 dX11_init_15 (by decide) ?_
  have hat_x_o := hat_x
  have ha_103_o := ha_103
  refine r_newI (N := 10) X hw 610 2 (X.2.2.2.1 (.arrayClass .int) (by decide +kernel)) (by decide) (by decide) (by decide) (Nat.le_of_ble_eq_true rfl) (Nat.le_of_ble_eq_true rfl) (Nat.le_of_ble_eq_true rfl) (Nat.le_of_ble_eq_true rfl) dX11_init_17 (fun q_107 H hq_107 hw => ?_)
  generalize eS_108 : sN S_105 q_107 14 10 = S_108 at hw
  have hat_x : At S_108 x 11 := by rw [← eS_108]; exact At_sN hat_x hq_107
  have ha_103 : At S_108 q_101 16 := by rw [← eS_108]; exact At_sN ha_103 hq_107
  have hr_106 : pR S_108 1100 x = some q_101 := by rw [← eS_108, pR_sN]; exact hr_106
  have hn_104 : pN S_108 q_101 = 600 := by rw [← eS_108]; exact (pN_sN_ne (At_old ha_103_o hq_107)).trans hn_104
  have nw_q_107 : q_107 ∉ pL S0 := Kp_new hkp hq_107
  have hkp : Kp S0 S_108 (fun a => a = x) := by rw [← eS_108]; exact Kp_sN hkp hq_107
  have hz : ∀ g, pI S_108 g x = 0 := by rw [← eS_108, pI_sN]; exact hz
  have ha_109 : At S_108 q_107 14 := by rw [← eS_108]; exact At_nN _ _ _ _
  have hn_110 : pN S_108 q_107 = 10 := by rw [← eS_108]; exact pN_sN_new
  refine r_putR X hw hat_x 1 1101 (some q_107) rfl tyX11 (by decide) rfl inn_X11_init_11 tyX11_ok nmX11 (by decide) (X.2.2.2.1 (.fieldLink RX11 15 "SilkMill" "lotSizes" "[I") (by decide +kernel)) rfl (Or.inr ⟨rfl, hin, rfl⟩) (fun _ => rfl) rfl (fun _ => rfl) rfl (Nat.le_of_ble_eq_true rfl) (st_1101 _ _) dX11_init_19 (fun H locs hw => ?_)
  generalize eS_111 : sR S_108 1101 x (some q_107) = S_111 at hw
  have hat_x : At S_111 x 11 := by rw [← eS_111]; exact At_sR hat_x
  have ha_103 : At S_111 q_101 16 := by rw [← eS_111]; exact At_sR ha_103
  have ha_109 : At S_111 q_107 14 := by rw [← eS_111]; exact At_sR ha_109
  have hr_106 : pR S_111 1100 x = some q_101 := by rw [← eS_111]; exact (pR_sR_nf (by decide)).trans hr_106
  have hn_104 : pN S_111 q_101 = 600 := by rw [← eS_111, pN_sR]; exact hn_104
  have hn_110 : pN S_111 q_107 = 10 := by rw [← eS_111, pN_sR]; exact hn_110
  have hkp : Kp S0 S_111 (fun a => a = x) := by rw [← eS_111]; exact Kp_sR hkp (Or.inl rfl)
  have hz : ∀ g, pI S_111 g x = 0 := by rw [← eS_111, pI_sR]; exact hz
  have hr_112 : pR S_111 1101 x = some q_107 := by rw [← eS_111]; exact pR_sR_same
  refine lv_aload_n X.1 X.2.1 dX11_init_22 rfl (lv_at hl 0 rfl) ?_
  refine lv_iconst (v := 4) X.1 X.2.1 dX11_init_23 (by decide) ?_
  have hat_x_o := hat_x
  have ha_103_o := ha_103
  have ha_109_o := ha_109
  refine r_newQ (N := 4) (C := RX4) X hw 18 614 3 (by decide) rfl (X.2.2.2.1 (.classLink RX11 19 RX4) (by decide +kernel)) X.2.2.2.2.2.2.2.1.2.2.1 (by decide) (by decide) (by decide) (Nat.le_of_ble_eq_true rfl) (Nat.le_of_ble_eq_true rfl) (Nat.le_of_ble_eq_true rfl) (Nat.le_of_ble_eq_true rfl) dX11_init_24 (fun q_113 H hq_113 hw => ?_)
  generalize eS_114 : sN S_111 q_113 18 4 = S_114 at hw
  have hat_x : At S_114 x 11 := by rw [← eS_114]; exact At_sN hat_x hq_113
  have ha_103 : At S_114 q_101 16 := by rw [← eS_114]; exact At_sN ha_103 hq_113
  have ha_109 : At S_114 q_107 14 := by rw [← eS_114]; exact At_sN ha_109 hq_113
  have hr_106 : pR S_114 1100 x = some q_101 := by rw [← eS_114, pR_sN]; exact hr_106
  have hr_112 : pR S_114 1101 x = some q_107 := by rw [← eS_114, pR_sN]; exact hr_112
  have hn_104 : pN S_114 q_101 = 600 := by rw [← eS_114]; exact (pN_sN_ne (At_old ha_103_o hq_113)).trans hn_104
  have hn_110 : pN S_114 q_107 = 10 := by rw [← eS_114]; exact (pN_sN_ne (At_old ha_109_o hq_113)).trans hn_110
  have nw_q_113 : q_113 ∉ pL S0 := Kp_new hkp hq_113
  have hkp : Kp S0 S_114 (fun a => a = x) := by rw [← eS_114]; exact Kp_sN hkp hq_113
  have hz : ∀ g, pI S_114 g x = 0 := by rw [← eS_114, pI_sN]; exact hz
  have ha_115 : At S_114 q_113 18 := by rw [← eS_114]; exact At_nN _ _ _ _
  have hn_116 : pN S_114 q_113 = 4 := by rw [← eS_114]; exact pN_sN_new
  refine r_putR X hw hat_x 3 1103 (some q_113) rfl tyX11 (by decide) rfl inn_X11_init_11 tyX11_ok nmX11 (by decide) (X.2.2.2.1 (.fieldLink RX11 21 "SilkMill" "pots" "[LSilkMill$Pot;") (by decide +kernel)) rfl (Or.inr ⟨rfl, hin, rfl⟩) (fun _ => rfl) rfl (fun _ => rfl) rfl (Nat.le_of_ble_eq_true rfl) (st_1103 _ _) dX11_init_27 (fun H locs hw => ?_)
  generalize eS_117 : sR S_114 1103 x (some q_113) = S_117 at hw
  have hat_x : At S_117 x 11 := by rw [← eS_117]; exact At_sR hat_x
  have ha_103 : At S_117 q_101 16 := by rw [← eS_117]; exact At_sR ha_103
  have ha_109 : At S_117 q_107 14 := by rw [← eS_117]; exact At_sR ha_109
  have ha_115 : At S_117 q_113 18 := by rw [← eS_117]; exact At_sR ha_115
  have hr_106 : pR S_117 1100 x = some q_101 := by rw [← eS_117]; exact (pR_sR_nf (by decide)).trans hr_106
  have hr_112 : pR S_117 1101 x = some q_107 := by rw [← eS_117]; exact (pR_sR_nf (by decide)).trans hr_112
  have hn_104 : pN S_117 q_101 = 600 := by rw [← eS_117, pN_sR]; exact hn_104
  have hn_110 : pN S_117 q_107 = 10 := by rw [← eS_117, pN_sR]; exact hn_110
  have hn_116 : pN S_117 q_113 = 4 := by rw [← eS_117, pN_sR]; exact hn_116
  have hkp : Kp S0 S_117 (fun a => a = x) := by rw [← eS_117]; exact Kp_sR hkp (Or.inl rfl)
  have hz : ∀ g, pI S_117 g x = 0 := by rw [← eS_117, pI_sR]; exact hz
  have hr_118 : pR S_117 1103 x = some q_113 := by rw [← eS_117]; exact pR_sR_same
  refine lv_aload_n X.1 X.2.1 dX11_init_30 rfl (lv_at hl 0 rfl) ?_
  have hat_x_o := hat_x
  have ha_103_o := ha_103
  have ha_109_o := ha_109
  have ha_115_o := ha_115
  refine r_new X hw 10 621 4 tyX10 (by decide) rfl inn_X11_init_10 tyX10_ok (X.2.2.2.1 (.classLink RX11 25 RX10) (by decide +kernel)) (X.2.2.2.1 (.instantiable RX10 7) (by decide +kernel)) (X.2.2.2.1 (.initialized RX10) (by decide +kernel)) zo_10 zd_10 (Nat.le_of_ble_eq_true rfl) (Nat.le_of_ble_eq_true rfl) (Nat.le_of_ble_eq_true rfl) (Nat.le_of_ble_eq_true rfl) dX11_init_31 (fun q_119 H hq_119 hw => ?_)
  have ne_x_q_119 : x ≠ q_119 := At_old hat_x_o hq_119
  have ne_q_101_q_119 : q_101 ≠ q_119 := At_old ha_103_o hq_119
  have ne_q_107_q_119 : q_107 ≠ q_119 := At_old ha_109_o hq_119
  have ne_q_113_q_119 : q_113 ≠ q_119 := At_old ha_115_o hq_119
  generalize eS_120 : sO S_117 q_119 10 = S_120 at hw
  have hat_x : At S_120 x 11 := by rw [← eS_120]; exact At_sO hat_x hq_119
  have ha_103 : At S_120 q_101 16 := by rw [← eS_120]; exact At_sO ha_103 hq_119
  have ha_109 : At S_120 q_107 14 := by rw [← eS_120]; exact At_sO ha_109 hq_119
  have ha_115 : At S_120 q_113 18 := by rw [← eS_120]; exact At_sO ha_115 hq_119
  have hr_106 : pR S_120 1100 x = some q_101 := by rw [← eS_120]; exact (pR_sO_ne (At_old hat_x_o hq_119)).trans hr_106
  have hr_112 : pR S_120 1101 x = some q_107 := by rw [← eS_120]; exact (pR_sO_ne (At_old hat_x_o hq_119)).trans hr_112
  have hr_118 : pR S_120 1103 x = some q_113 := by rw [← eS_120]; exact (pR_sO_ne (At_old hat_x_o hq_119)).trans hr_118
  have hn_104 : pN S_120 q_101 = 600 := by rw [← eS_120, pN_sO]; exact hn_104
  have hn_110 : pN S_120 q_107 = 10 := by rw [← eS_120, pN_sO]; exact hn_110
  have hn_116 : pN S_120 q_113 = 4 := by rw [← eS_120, pN_sO]; exact hn_116
  have nw_q_119 : q_119 ∉ pL S0 := Kp_new hkp hq_119
  have hkp : Kp S0 S_120 (fun a => a = x) := by rw [← eS_120]; exact Kp_sO hkp hq_119
  have hz : ∀ g, pI S_120 g x = 0 := fun g => by rw [← eS_120]; exact (pI_sO_ne (At_old hat_x_o hq_119)).trans (hz g)
  have ha_121 : At S_120 q_119 10 := by rw [← eS_120]; exact At_nO _ _ _
  have hz_122 : ∀ g, pI S_120 g q_119 = 0 := fun g => by rw [← eS_120]; exact pI_sO_new
  refine lv_dup X.1 X.2.1 dX11_init_34 rfl ?_
  refine k_v (rm := { frames := 1, cells := 1, slots := 400, locals := 40 }) (av := [.ref q_119]) X hw (va_runIN (As := []) (rest := [.ref q_119, .ref x]) (cfix X) (c_X10_init l G cy S_120 _ q_119  ha_121 hz_122) ⟨(va_cnB (host := RX11) 0 X.2.2.2.1 gX11_init_X10_init_n27 rfl rfl rfl (X.2.2.2.2.2.2.2.2.1 (RX11, 27, yX10_init) (by decide +kernel)) (X.2.2.2.1 (.initialized RX10) (by decide +kernel)) (by decide +kernel) ⟨Nat.le_of_ble_eq_true rfl, Nat.le_of_ble_eq_true rfl⟩), rfl, X.2.2.2.1 (.instanceMethod yX10_init) (by decide +kernel)⟩ (pre_S X hw _) rfl rfl hl.1 rfl (lv_room (Nat.le_of_ble_eq_true rfl)) dX11_init_35 ⟨Nat.le_of_ble_eq_true rfl, Nat.le_of_ble_eq_true rfl⟩) 5 1021 (Nat.le_of_ble_eq_true rfl) (Nat.le_of_ble_eq_true rfl) (fun S2 H locs hp hw hfr hnw => ?_)
  obtain ⟨hk2, hf_q_119⟩ := hp
  generalize eq_Sc_35_123 : S2 = Sc_35_123 at hk2 hf_q_119 hw
  have hat_x_c := hat_x
  have ha_103_c := ha_103
  have ha_109_c := ha_109
  have ha_115_c := ha_115
  have ha_121_c := ha_121
  have hat_x : At Sc_35_123 x 11 := Kp_at hk2 hat_x_c
  have ha_103 : At Sc_35_123 q_101 16 := Kp_at hk2 ha_103_c
  have ha_109 : At Sc_35_123 q_107 14 := Kp_at hk2 ha_109_c
  have ha_115 : At Sc_35_123 q_113 18 := Kp_at hk2 ha_115_c
  have ha_121 : At Sc_35_123 q_119 10 := Kp_at hk2 ha_121_c
  have hr_106 : pR Sc_35_123 1100 x = some q_101 := ((hk2.2 x hat_x_c.1 ne_x_q_119).2.1 1100).trans hr_106
  have hr_112 : pR Sc_35_123 1101 x = some q_107 := ((hk2.2 x hat_x_c.1 ne_x_q_119).2.1 1101).trans hr_112
  have hr_118 : pR Sc_35_123 1103 x = some q_113 := ((hk2.2 x hat_x_c.1 ne_x_q_119).2.1 1103).trans hr_118
  have hn_104 : pN Sc_35_123 q_101 = 600 := ((hk2.2 q_101 ha_103_c.1 ne_q_101_q_119).2.2.1).trans hn_104
  have hn_110 : pN Sc_35_123 q_107 = 10 := ((hk2.2 q_107 ha_109_c.1 ne_q_107_q_119).2.2.1).trans hn_110
  have hn_116 : pN Sc_35_123 q_113 = 4 := ((hk2.2 q_113 ha_115_c.1 ne_q_113_q_119).2.2.1).trans hn_116
  have hz : ∀ g, pI Sc_35_123 g x = 0 := fun g => ((hk2.2 x hat_x_c.1 ne_x_q_119).1 g).trans (hz g)
  have hkp : Kp S0 Sc_35_123 (fun a => a = x) := Kp_call hkp hk2 (Or.inr nw_q_119)
  refine r_putR X hw hat_x 5 1105 (some q_119) rfl tyX11 (by decide) rfl inn_X11_init_11 tyX11_ok nmX11 (by decide) (X.2.2.2.1 (.fieldLink RX11 28 "SilkMill" "tape" "LSilkMill$Tape;") (by decide +kernel)) rfl (Or.inr ⟨rfl, hin, rfl⟩) (fun _ => rfl) rfl (fun _ => rfl) rfl (Nat.le_of_ble_eq_true rfl) (st_1105 _ _) dX11_init_38 (fun H locs hw => ?_)
  have hato_S_124 := hat_x
  generalize eS_124 : sR Sc_35_123 1105 x (some q_119) = S_124 at hw
  have hat_x : At S_124 x 11 := by rw [← eS_124]; exact At_sR hat_x
  have ha_103 : At S_124 q_101 16 := by rw [← eS_124]; exact At_sR ha_103
  have ha_109 : At S_124 q_107 14 := by rw [← eS_124]; exact At_sR ha_109
  have ha_115 : At S_124 q_113 18 := by rw [← eS_124]; exact At_sR ha_115
  have ha_121 : At S_124 q_119 10 := by rw [← eS_124]; exact At_sR ha_121
  have hr_106 : pR S_124 1100 x = some q_101 := by rw [← eS_124]; exact (pR_sR_nf (by decide)).trans hr_106
  have hr_112 : pR S_124 1101 x = some q_107 := by rw [← eS_124]; exact (pR_sR_nf (by decide)).trans hr_112
  have hr_118 : pR S_124 1103 x = some q_113 := by rw [← eS_124]; exact (pR_sR_nf (by decide)).trans hr_118
  have hn_104 : pN S_124 q_101 = 600 := by rw [← eS_124, pN_sR]; exact hn_104
  have hn_110 : pN S_124 q_107 = 10 := by rw [← eS_124, pN_sR]; exact hn_110
  have hn_116 : pN S_124 q_113 = 4 := by rw [← eS_124, pN_sR]; exact hn_116
  have hkp : Kp S0 S_124 (fun a => a = x) := by rw [← eS_124]; exact Kp_sR hkp (Or.inl rfl)
  have hf_q_119 : TpF S_124 q_119 := by rw [← eS_124]; exact TpF_keep (P := fun b => b = x) (Kp_sR (Kp_rf _ _) (Or.inl rfl)) (kne hato_S_124 (by decide)) (kne hato_S_124 (by decide)) hf_q_119
  have hz : ∀ g, pI S_124 g x = 0 := by rw [← eS_124, pI_sR]; exact hz
  have hr_125 : pR S_124 1105 x = some q_119 := by rw [← eS_124]; exact pR_sR_same
  refine lv_aload_n X.1 X.2.1 dX11_init_41 rfl (lv_at hl 0 rfl) ?_
  have hat_x_o := hat_x
  have ha_103_o := ha_103
  have ha_109_o := ha_109
  have ha_115_o := ha_115
  have ha_121_o := ha_121
  refine r_new X hw 6 1028 6 tyX6 (by decide) rfl inn_X11_init_6 tyX6_ok (X.2.2.2.1 (.classLink RX11 32 RX6) (by decide +kernel)) (X.2.2.2.1 (.instantiable RX6 7) (by decide +kernel)) (X.2.2.2.1 (.initialized RX6) (by decide +kernel)) zo_6 zd_6 (Nat.le_of_ble_eq_true rfl) (Nat.le_of_ble_eq_true rfl) (Nat.le_of_ble_eq_true rfl) (Nat.le_of_ble_eq_true rfl) dX11_init_42 (fun q_126 H hq_126 hw => ?_)
  have ne_x_q_126 : x ≠ q_126 := At_old hat_x_o hq_126
  have ne_q_101_q_126 : q_101 ≠ q_126 := At_old ha_103_o hq_126
  have ne_q_107_q_126 : q_107 ≠ q_126 := At_old ha_109_o hq_126
  have ne_q_113_q_126 : q_113 ≠ q_126 := At_old ha_115_o hq_126
  have ne_q_119_q_126 : q_119 ≠ q_126 := At_old ha_121_o hq_126
  generalize eS_127 : sO S_124 q_126 6 = S_127 at hw
  have hat_x : At S_127 x 11 := by rw [← eS_127]; exact At_sO hat_x hq_126
  have ha_103 : At S_127 q_101 16 := by rw [← eS_127]; exact At_sO ha_103 hq_126
  have ha_109 : At S_127 q_107 14 := by rw [← eS_127]; exact At_sO ha_109 hq_126
  have ha_115 : At S_127 q_113 18 := by rw [← eS_127]; exact At_sO ha_115 hq_126
  have ha_121 : At S_127 q_119 10 := by rw [← eS_127]; exact At_sO ha_121 hq_126
  have hr_106 : pR S_127 1100 x = some q_101 := by rw [← eS_127]; exact (pR_sO_ne (At_old hat_x_o hq_126)).trans hr_106
  have hr_112 : pR S_127 1101 x = some q_107 := by rw [← eS_127]; exact (pR_sO_ne (At_old hat_x_o hq_126)).trans hr_112
  have hr_118 : pR S_127 1103 x = some q_113 := by rw [← eS_127]; exact (pR_sO_ne (At_old hat_x_o hq_126)).trans hr_118
  have hr_125 : pR S_127 1105 x = some q_119 := by rw [← eS_127]; exact (pR_sO_ne (At_old hat_x_o hq_126)).trans hr_125
  have hn_104 : pN S_127 q_101 = 600 := by rw [← eS_127, pN_sO]; exact hn_104
  have hn_110 : pN S_127 q_107 = 10 := by rw [← eS_127, pN_sO]; exact hn_110
  have hn_116 : pN S_127 q_113 = 4 := by rw [← eS_127, pN_sO]; exact hn_116
  have nw_q_126 : q_126 ∉ pL S0 := Kp_new hkp hq_126
  have hkp : Kp S0 S_127 (fun a => a = x) := by rw [← eS_127]; exact Kp_sO hkp hq_126
  have hf_q_119 : TpF S_127 q_119 := by rw [← eS_127]; exact TpF_keep (P := fun _ => False) (Kp_sO (Kp_rf _ _) hq_126) (fun _ _ w => w) (fun _ _ w => w) hf_q_119
  have hz : ∀ g, pI S_127 g x = 0 := fun g => by rw [← eS_127]; exact (pI_sO_ne (At_old hat_x_o hq_126)).trans (hz g)
  have ha_128 : At S_127 q_126 6 := by rw [← eS_127]; exact At_nO _ _ _
  have hz_129 : ∀ g, pI S_127 g q_126 = 0 := fun g => by rw [← eS_127]; exact pI_sO_new
  refine lv_dup X.1 X.2.1 dX11_init_45 rfl ?_
  refine k_v (rm := { frames := 1, cells := 6, slots := 180, locals := 40 }) (av := [.ref q_126]) X hw (va_runIN (As := []) (rest := [.ref q_126, .ref x]) (cfix X) (c_X6_init l G cy S_127 _ q_126  ha_128 hz_129) ⟨(va_cnB (host := RX11) 0 X.2.2.2.1 gX11_init_X6_init_n34 rfl rfl rfl (X.2.2.2.2.2.2.2.2.1 (RX11, 34, yX6_init) (by decide +kernel)) (X.2.2.2.1 (.initialized RX6) (by decide +kernel)) (by decide +kernel) ⟨Nat.le_of_ble_eq_true rfl, Nat.le_of_ble_eq_true rfl⟩), rfl, X.2.2.2.1 (.instanceMethod yX6_init) (by decide +kernel)⟩ (pre_S X hw _) rfl rfl hl.1 rfl (lv_room (Nat.le_of_ble_eq_true rfl)) dX11_init_46 ⟨Nat.le_of_ble_eq_true rfl, Nat.le_of_ble_eq_true rfl⟩) 12 1208 (Nat.le_of_ble_eq_true rfl) (Nat.le_of_ble_eq_true rfl) (fun S2 H locs hp hw hfr hnw => ?_)
  obtain ⟨hk2, hf_q_126⟩ := hp
  generalize eq_Sc_46_130 : S2 = Sc_46_130 at hk2 hf_q_126 hw
  have hat_x_c := hat_x
  have ha_103_c := ha_103
  have ha_109_c := ha_109
  have ha_115_c := ha_115
  have ha_121_c := ha_121
  have ha_128_c := ha_128
  have hat_x : At Sc_46_130 x 11 := Kp_at hk2 hat_x_c
  have ha_103 : At Sc_46_130 q_101 16 := Kp_at hk2 ha_103_c
  have ha_109 : At Sc_46_130 q_107 14 := Kp_at hk2 ha_109_c
  have ha_115 : At Sc_46_130 q_113 18 := Kp_at hk2 ha_115_c
  have ha_121 : At Sc_46_130 q_119 10 := Kp_at hk2 ha_121_c
  have ha_128 : At Sc_46_130 q_126 6 := Kp_at hk2 ha_128_c
  have hr_106 : pR Sc_46_130 1100 x = some q_101 := ((hk2.2 x hat_x_c.1 ne_x_q_126).2.1 1100).trans hr_106
  have hr_112 : pR Sc_46_130 1101 x = some q_107 := ((hk2.2 x hat_x_c.1 ne_x_q_126).2.1 1101).trans hr_112
  have hr_118 : pR Sc_46_130 1103 x = some q_113 := ((hk2.2 x hat_x_c.1 ne_x_q_126).2.1 1103).trans hr_118
  have hr_125 : pR Sc_46_130 1105 x = some q_119 := ((hk2.2 x hat_x_c.1 ne_x_q_126).2.1 1105).trans hr_125
  have hn_104 : pN Sc_46_130 q_101 = 600 := ((hk2.2 q_101 ha_103_c.1 ne_q_101_q_126).2.2.1).trans hn_104
  have hn_110 : pN Sc_46_130 q_107 = 10 := ((hk2.2 q_107 ha_109_c.1 ne_q_107_q_126).2.2.1).trans hn_110
  have hn_116 : pN Sc_46_130 q_113 = 4 := ((hk2.2 q_113 ha_115_c.1 ne_q_113_q_126).2.2.1).trans hn_116
  have hz : ∀ g, pI Sc_46_130 g x = 0 := fun g => ((hk2.2 x hat_x_c.1 ne_x_q_126).1 g).trans (hz g)
  have hf_q_119 : TpF Sc_46_130 q_119 := TpF_keep hk2 (kne ha_128_c (by decide)) (kne ha_128_c (by decide)) hf_q_119
  have hkp : Kp S0 Sc_46_130 (fun a => a = x) := Kp_call hkp hk2 (Or.inr nw_q_126)
  refine r_putR X hw hat_x 6 1106 (some q_126) rfl tyX11 (by decide) rfl inn_X11_init_11 tyX11_ok nmX11 (by decide) (X.2.2.2.1 (.fieldLink RX11 35 "SilkMill" "spareRules" "LSilkMill$Rules;") (by decide +kernel)) rfl (Or.inl rfl) (fun _ => rfl) rfl (fun _ => rfl) rfl (Nat.le_of_ble_eq_true rfl) (st_1106 _ _) dX11_init_49 (fun H locs hw => ?_)
  have hato_S_131 := hat_x
  generalize eS_131 : sR Sc_46_130 1106 x (some q_126) = S_131 at hw
  have hat_x : At S_131 x 11 := by rw [← eS_131]; exact At_sR hat_x
  have ha_103 : At S_131 q_101 16 := by rw [← eS_131]; exact At_sR ha_103
  have ha_109 : At S_131 q_107 14 := by rw [← eS_131]; exact At_sR ha_109
  have ha_115 : At S_131 q_113 18 := by rw [← eS_131]; exact At_sR ha_115
  have ha_121 : At S_131 q_119 10 := by rw [← eS_131]; exact At_sR ha_121
  have ha_128 : At S_131 q_126 6 := by rw [← eS_131]; exact At_sR ha_128
  have hr_106 : pR S_131 1100 x = some q_101 := by rw [← eS_131]; exact (pR_sR_nf (by decide)).trans hr_106
  have hr_112 : pR S_131 1101 x = some q_107 := by rw [← eS_131]; exact (pR_sR_nf (by decide)).trans hr_112
  have hr_118 : pR S_131 1103 x = some q_113 := by rw [← eS_131]; exact (pR_sR_nf (by decide)).trans hr_118
  have hr_125 : pR S_131 1105 x = some q_119 := by rw [← eS_131]; exact (pR_sR_nf (by decide)).trans hr_125
  have hn_104 : pN S_131 q_101 = 600 := by rw [← eS_131, pN_sR]; exact hn_104
  have hn_110 : pN S_131 q_107 = 10 := by rw [← eS_131, pN_sR]; exact hn_110
  have hn_116 : pN S_131 q_113 = 4 := by rw [← eS_131, pN_sR]; exact hn_116
  have hkp : Kp S0 S_131 (fun a => a = x) := by rw [← eS_131]; exact Kp_sR hkp (Or.inl rfl)
  have hf_q_119 : TpF S_131 q_119 := by rw [← eS_131]; exact TpF_keep (P := fun b => b = x) (Kp_sR (Kp_rf _ _) (Or.inl rfl)) (kne hato_S_131 (by decide)) (kne hato_S_131 (by decide)) hf_q_119
  have hz : ∀ g, pI S_131 g x = 0 := by rw [← eS_131, pI_sR]; exact hz
  have hr_132 : pR S_131 1106 x = some q_126 := by rw [← eS_131]; exact pR_sR_same
  refine lv_aload_n X.1 X.2.1 dX11_init_52 rfl (lv_at hl 0 rfl) ?_
  have hat_x_o := hat_x
  have ha_103_o := ha_103
  have ha_109_o := ha_109
  have ha_115_o := ha_115
  have ha_121_o := ha_121
  have ha_128_o := ha_128
  refine r_new X hw 8 1221 13 tyX8 (by decide) rfl inn_X11_init_8 tyX8_ok (X.2.2.2.1 (.classLink RX11 39 RX8) (by decide +kernel)) (X.2.2.2.1 (.instantiable RX8 13) (by decide +kernel)) (X.2.2.2.1 (.initialized RX8) (by decide +kernel)) zo_8 zd_8 (Nat.le_of_ble_eq_true rfl) (Nat.le_of_ble_eq_true rfl) (Nat.le_of_ble_eq_true rfl) (Nat.le_of_ble_eq_true rfl) dX11_init_53 (fun q_133 H hq_133 hw => ?_)
  have ne_x_q_133 : x ≠ q_133 := At_old hat_x_o hq_133
  have ne_q_101_q_133 : q_101 ≠ q_133 := At_old ha_103_o hq_133
  have ne_q_107_q_133 : q_107 ≠ q_133 := At_old ha_109_o hq_133
  have ne_q_113_q_133 : q_113 ≠ q_133 := At_old ha_115_o hq_133
  have ne_q_119_q_133 : q_119 ≠ q_133 := At_old ha_121_o hq_133
  have ne_q_126_q_133 : q_126 ≠ q_133 := At_old ha_128_o hq_133
  generalize eS_134 : sO S_131 q_133 8 = S_134 at hw
  have hat_x : At S_134 x 11 := by rw [← eS_134]; exact At_sO hat_x hq_133
  have ha_103 : At S_134 q_101 16 := by rw [← eS_134]; exact At_sO ha_103 hq_133
  have ha_109 : At S_134 q_107 14 := by rw [← eS_134]; exact At_sO ha_109 hq_133
  have ha_115 : At S_134 q_113 18 := by rw [← eS_134]; exact At_sO ha_115 hq_133
  have ha_121 : At S_134 q_119 10 := by rw [← eS_134]; exact At_sO ha_121 hq_133
  have ha_128 : At S_134 q_126 6 := by rw [← eS_134]; exact At_sO ha_128 hq_133
  have hr_106 : pR S_134 1100 x = some q_101 := by rw [← eS_134]; exact (pR_sO_ne (At_old hat_x_o hq_133)).trans hr_106
  have hr_112 : pR S_134 1101 x = some q_107 := by rw [← eS_134]; exact (pR_sO_ne (At_old hat_x_o hq_133)).trans hr_112
  have hr_118 : pR S_134 1103 x = some q_113 := by rw [← eS_134]; exact (pR_sO_ne (At_old hat_x_o hq_133)).trans hr_118
  have hr_125 : pR S_134 1105 x = some q_119 := by rw [← eS_134]; exact (pR_sO_ne (At_old hat_x_o hq_133)).trans hr_125
  have hr_132 : pR S_134 1106 x = some q_126 := by rw [← eS_134]; exact (pR_sO_ne (At_old hat_x_o hq_133)).trans hr_132
  have hn_104 : pN S_134 q_101 = 600 := by rw [← eS_134, pN_sO]; exact hn_104
  have hn_110 : pN S_134 q_107 = 10 := by rw [← eS_134, pN_sO]; exact hn_110
  have hn_116 : pN S_134 q_113 = 4 := by rw [← eS_134, pN_sO]; exact hn_116
  have nw_q_133 : q_133 ∉ pL S0 := Kp_new hkp hq_133
  have hkp : Kp S0 S_134 (fun a => a = x) := by rw [← eS_134]; exact Kp_sO hkp hq_133
  have hf_q_119 : TpF S_134 q_119 := by rw [← eS_134]; exact TpF_keep (P := fun _ => False) (Kp_sO (Kp_rf _ _) hq_133) (fun _ _ w => w) (fun _ _ w => w) hf_q_119
  have hz : ∀ g, pI S_134 g x = 0 := fun g => by rw [← eS_134]; exact (pI_sO_ne (At_old hat_x_o hq_133)).trans (hz g)
  have ha_135 : At S_134 q_133 8 := by rw [← eS_134]; exact At_nO _ _ _
  have hz_136 : ∀ g, pI S_134 g q_133 = 0 := fun g => by rw [← eS_134]; exact pI_sO_new
  refine lv_dup X.1 X.2.1 dX11_init_56 rfl ?_
  refine k_v (rm := { frames := 3, cells := 12, slots := 500, locals := 120 }) (av := [.ref q_133]) X hw (va_runIN (As := []) (rest := [.ref q_133, .ref x]) (cfix X) (c_X8_init l G cy S_134 _ q_133  ha_135 hz_136) ⟨(va_cnB (host := RX11) 0 X.2.2.2.1 gX11_init_X8_init_n41 rfl rfl rfl (X.2.2.2.2.2.2.2.2.1 (RX11, 41, yX8_init) (by decide +kernel)) (X.2.2.2.1 (.initialized RX8) (by decide +kernel)) (by decide +kernel) ⟨Nat.le_of_ble_eq_true rfl, Nat.le_of_ble_eq_true rfl⟩), rfl, X.2.2.2.1 (.instanceMethod yX8_init) (by decide +kernel)⟩ (pre_S X hw _) rfl rfl hl.1 rfl (lv_room (Nat.le_of_ble_eq_true rfl)) dX11_init_57 ⟨Nat.le_of_ble_eq_true rfl, Nat.le_of_ble_eq_true rfl⟩) 25 1721 (Nat.le_of_ble_eq_true rfl) (Nat.le_of_ble_eq_true rfl) (fun S2 H locs hp hw hfr hnw => ?_)
  obtain ⟨hk2, hf_q_133⟩ := hp
  generalize eq_Sc_57_137 : S2 = Sc_57_137 at hk2 hf_q_133 hw
  have hat_x_c := hat_x
  have ha_103_c := ha_103
  have ha_109_c := ha_109
  have ha_115_c := ha_115
  have ha_121_c := ha_121
  have ha_128_c := ha_128
  have ha_135_c := ha_135
  have hat_x : At Sc_57_137 x 11 := Kp_at hk2 hat_x_c
  have ha_103 : At Sc_57_137 q_101 16 := Kp_at hk2 ha_103_c
  have ha_109 : At Sc_57_137 q_107 14 := Kp_at hk2 ha_109_c
  have ha_115 : At Sc_57_137 q_113 18 := Kp_at hk2 ha_115_c
  have ha_121 : At Sc_57_137 q_119 10 := Kp_at hk2 ha_121_c
  have ha_128 : At Sc_57_137 q_126 6 := Kp_at hk2 ha_128_c
  have ha_135 : At Sc_57_137 q_133 8 := Kp_at hk2 ha_135_c
  have hr_106 : pR Sc_57_137 1100 x = some q_101 := ((hk2.2 x hat_x_c.1 ne_x_q_133).2.1 1100).trans hr_106
  have hr_112 : pR Sc_57_137 1101 x = some q_107 := ((hk2.2 x hat_x_c.1 ne_x_q_133).2.1 1101).trans hr_112
  have hr_118 : pR Sc_57_137 1103 x = some q_113 := ((hk2.2 x hat_x_c.1 ne_x_q_133).2.1 1103).trans hr_118
  have hr_125 : pR Sc_57_137 1105 x = some q_119 := ((hk2.2 x hat_x_c.1 ne_x_q_133).2.1 1105).trans hr_125
  have hr_132 : pR Sc_57_137 1106 x = some q_126 := ((hk2.2 x hat_x_c.1 ne_x_q_133).2.1 1106).trans hr_132
  have hn_104 : pN Sc_57_137 q_101 = 600 := ((hk2.2 q_101 ha_103_c.1 ne_q_101_q_133).2.2.1).trans hn_104
  have hn_110 : pN Sc_57_137 q_107 = 10 := ((hk2.2 q_107 ha_109_c.1 ne_q_107_q_133).2.2.1).trans hn_110
  have hn_116 : pN Sc_57_137 q_113 = 4 := ((hk2.2 q_113 ha_115_c.1 ne_q_113_q_133).2.2.1).trans hn_116
  have hz : ∀ g, pI Sc_57_137 g x = 0 := fun g => ((hk2.2 x hat_x_c.1 ne_x_q_133).1 g).trans (hz g)
  have hf_q_119 : TpF Sc_57_137 q_119 := TpF_keep hk2 (kne ha_135_c (by decide)) (kne ha_135_c (by decide)) hf_q_119
  have hkp : Kp S0 Sc_57_137 (fun a => a = x) := Kp_call hkp hk2 (Or.inr nw_q_133)
  refine r_putR X hw hat_x 7 1107 (some q_133) rfl tyX11 (by decide) rfl inn_X11_init_11 tyX11_ok nmX11 (by decide) (X.2.2.2.1 (.fieldLink RX11 42 "SilkMill" "store" "LSilkMill$Store;") (by decide +kernel)) rfl (Or.inr ⟨rfl, hin, rfl⟩) (fun _ => rfl) rfl (fun _ => rfl) rfl (Nat.le_of_ble_eq_true rfl) (st_1107 _ _) dX11_init_60 (fun H locs hw => ?_)
  have hato_S_138 := hat_x
  generalize eS_138 : sR Sc_57_137 1107 x (some q_133) = S_138 at hw
  have hat_x : At S_138 x 11 := by rw [← eS_138]; exact At_sR hat_x
  have ha_103 : At S_138 q_101 16 := by rw [← eS_138]; exact At_sR ha_103
  have ha_109 : At S_138 q_107 14 := by rw [← eS_138]; exact At_sR ha_109
  have ha_115 : At S_138 q_113 18 := by rw [← eS_138]; exact At_sR ha_115
  have ha_121 : At S_138 q_119 10 := by rw [← eS_138]; exact At_sR ha_121
  have ha_128 : At S_138 q_126 6 := by rw [← eS_138]; exact At_sR ha_128
  have ha_135 : At S_138 q_133 8 := by rw [← eS_138]; exact At_sR ha_135
  have hr_106 : pR S_138 1100 x = some q_101 := by rw [← eS_138]; exact (pR_sR_nf (by decide)).trans hr_106
  have hr_112 : pR S_138 1101 x = some q_107 := by rw [← eS_138]; exact (pR_sR_nf (by decide)).trans hr_112
  have hr_118 : pR S_138 1103 x = some q_113 := by rw [← eS_138]; exact (pR_sR_nf (by decide)).trans hr_118
  have hr_125 : pR S_138 1105 x = some q_119 := by rw [← eS_138]; exact (pR_sR_nf (by decide)).trans hr_125
  have hr_132 : pR S_138 1106 x = some q_126 := by rw [← eS_138]; exact (pR_sR_nf (by decide)).trans hr_132
  have hn_104 : pN S_138 q_101 = 600 := by rw [← eS_138, pN_sR]; exact hn_104
  have hn_110 : pN S_138 q_107 = 10 := by rw [← eS_138, pN_sR]; exact hn_110
  have hn_116 : pN S_138 q_113 = 4 := by rw [← eS_138, pN_sR]; exact hn_116
  have hkp : Kp S0 S_138 (fun a => a = x) := by rw [← eS_138]; exact Kp_sR hkp (Or.inl rfl)
  have hf_q_119 : TpF S_138 q_119 := by rw [← eS_138]; exact TpF_keep (P := fun b => b = x) (Kp_sR (Kp_rf _ _) (Or.inl rfl)) (kne hato_S_138 (by decide)) (kne hato_S_138 (by decide)) hf_q_119
  have hf_q_133 : StF S_138 q_133 := by rw [← eS_138]; exact StF_keep (P := fun b => b = x) (Kp_sR (Kp_rf _ _) (Or.inl rfl)) (kne hato_S_138 (by decide)) (kne hato_S_138 (by decide)) hf_q_133
  have hz : ∀ g, pI S_138 g x = 0 := by rw [← eS_138, pI_sR]; exact hz
  have hr_139 : pR S_138 1107 x = some q_133 := by rw [← eS_138]; exact pR_sR_same
  refine lv_aload_n X.1 X.2.1 dX11_init_63 rfl (lv_at hl 0 rfl) ?_
  have hat_x_o := hat_x
  have ha_103_o := ha_103
  have ha_109_o := ha_109
  have ha_115_o := ha_115
  have ha_121_o := ha_121
  have ha_128_o := ha_128
  have ha_135_o := ha_135
  refine r_new X hw 1 1725 26 tyX1 (by decide) rfl inn_X11_init_1 tyX1_ok (X.2.2.2.1 (.classLink RX11 46 RX1) (by decide +kernel)) (X.2.2.2.1 (.instantiable RX1 4) (by decide +kernel)) (X.2.2.2.1 (.initialized RX1) (by decide +kernel)) zo_1 zd_1 (Nat.le_of_ble_eq_true rfl) (Nat.le_of_ble_eq_true rfl) (Nat.le_of_ble_eq_true rfl) (Nat.le_of_ble_eq_true rfl) dX11_init_64 (fun q_140 H hq_140 hw => ?_)
  have ne_x_q_140 : x ≠ q_140 := At_old hat_x_o hq_140
  have ne_q_101_q_140 : q_101 ≠ q_140 := At_old ha_103_o hq_140
  have ne_q_107_q_140 : q_107 ≠ q_140 := At_old ha_109_o hq_140
  have ne_q_113_q_140 : q_113 ≠ q_140 := At_old ha_115_o hq_140
  have ne_q_119_q_140 : q_119 ≠ q_140 := At_old ha_121_o hq_140
  have ne_q_126_q_140 : q_126 ≠ q_140 := At_old ha_128_o hq_140
  have ne_q_133_q_140 : q_133 ≠ q_140 := At_old ha_135_o hq_140
  generalize eS_141 : sO S_138 q_140 1 = S_141 at hw
  have hat_x : At S_141 x 11 := by rw [← eS_141]; exact At_sO hat_x hq_140
  have ha_103 : At S_141 q_101 16 := by rw [← eS_141]; exact At_sO ha_103 hq_140
  have ha_109 : At S_141 q_107 14 := by rw [← eS_141]; exact At_sO ha_109 hq_140
  have ha_115 : At S_141 q_113 18 := by rw [← eS_141]; exact At_sO ha_115 hq_140
  have ha_121 : At S_141 q_119 10 := by rw [← eS_141]; exact At_sO ha_121 hq_140
  have ha_128 : At S_141 q_126 6 := by rw [← eS_141]; exact At_sO ha_128 hq_140
  have ha_135 : At S_141 q_133 8 := by rw [← eS_141]; exact At_sO ha_135 hq_140
  have hr_106 : pR S_141 1100 x = some q_101 := by rw [← eS_141]; exact (pR_sO_ne (At_old hat_x_o hq_140)).trans hr_106
  have hr_112 : pR S_141 1101 x = some q_107 := by rw [← eS_141]; exact (pR_sO_ne (At_old hat_x_o hq_140)).trans hr_112
  have hr_118 : pR S_141 1103 x = some q_113 := by rw [← eS_141]; exact (pR_sO_ne (At_old hat_x_o hq_140)).trans hr_118
  have hr_125 : pR S_141 1105 x = some q_119 := by rw [← eS_141]; exact (pR_sO_ne (At_old hat_x_o hq_140)).trans hr_125
  have hr_132 : pR S_141 1106 x = some q_126 := by rw [← eS_141]; exact (pR_sO_ne (At_old hat_x_o hq_140)).trans hr_132
  have hr_139 : pR S_141 1107 x = some q_133 := by rw [← eS_141]; exact (pR_sO_ne (At_old hat_x_o hq_140)).trans hr_139
  have hn_104 : pN S_141 q_101 = 600 := by rw [← eS_141, pN_sO]; exact hn_104
  have hn_110 : pN S_141 q_107 = 10 := by rw [← eS_141, pN_sO]; exact hn_110
  have hn_116 : pN S_141 q_113 = 4 := by rw [← eS_141, pN_sO]; exact hn_116
  have nw_q_140 : q_140 ∉ pL S0 := Kp_new hkp hq_140
  have hkp : Kp S0 S_141 (fun a => a = x) := by rw [← eS_141]; exact Kp_sO hkp hq_140
  have hf_q_119 : TpF S_141 q_119 := by rw [← eS_141]; exact TpF_keep (P := fun _ => False) (Kp_sO (Kp_rf _ _) hq_140) (fun _ _ w => w) (fun _ _ w => w) hf_q_119
  have hf_q_133 : StF S_141 q_133 := by rw [← eS_141]; exact StF_keep (P := fun _ => False) (Kp_sO (Kp_rf _ _) hq_140) (fun _ _ w => w) (fun _ _ w => w) hf_q_133
  have hz : ∀ g, pI S_141 g x = 0 := fun g => by rw [← eS_141]; exact (pI_sO_ne (At_old hat_x_o hq_140)).trans (hz g)
  have ha_142 : At S_141 q_140 1 := by rw [← eS_141]; exact At_nO _ _ _
  have hz_143 : ∀ g, pI S_141 g q_140 = 0 := fun g => by rw [← eS_141]; exact pI_sO_new
  refine lv_dup X.1 X.2.1 dX11_init_67 rfl ?_
  refine k_v (rm := { frames := 1, cells := 1, slots := 5, locals := 40 }) (av := [.ref q_140]) X hw (va_runIN (As := []) (rest := [.ref q_140, .ref x]) (cfix X) (c_X1_init l G cy S_141 _ q_140  ha_142 hz_143) ⟨(va_cnB (host := RX11) 0 X.2.2.2.1 gX11_init_X1_init_n48 rfl rfl rfl (X.2.2.2.2.2.2.2.2.1 (RX11, 48, yX1_init) (by decide +kernel)) (X.2.2.2.1 (.initialized RX1) (by decide +kernel)) (by decide +kernel) ⟨Nat.le_of_ble_eq_true rfl, Nat.le_of_ble_eq_true rfl⟩), rfl, X.2.2.2.1 (.instanceMethod yX1_init) (by decide +kernel)⟩ (pre_S X hw _) rfl rfl hl.1 rfl (lv_room (Nat.le_of_ble_eq_true rfl)) dX11_init_68 ⟨Nat.le_of_ble_eq_true rfl, Nat.le_of_ble_eq_true rfl⟩) 27 1730 (Nat.le_of_ble_eq_true rfl) (Nat.le_of_ble_eq_true rfl) (fun S2 H locs hp hw hfr hnw => ?_)
  obtain ⟨hk2, hf_q_140⟩ := hp
  generalize eq_Sc_68_144 : S2 = Sc_68_144 at hk2 hf_q_140 hw
  have hat_x_c := hat_x
  have ha_103_c := ha_103
  have ha_109_c := ha_109
  have ha_115_c := ha_115
  have ha_121_c := ha_121
  have ha_128_c := ha_128
  have ha_135_c := ha_135
  have ha_142_c := ha_142
  have hat_x : At Sc_68_144 x 11 := Kp_at hk2 hat_x_c
  have ha_103 : At Sc_68_144 q_101 16 := Kp_at hk2 ha_103_c
  have ha_109 : At Sc_68_144 q_107 14 := Kp_at hk2 ha_109_c
  have ha_115 : At Sc_68_144 q_113 18 := Kp_at hk2 ha_115_c
  have ha_121 : At Sc_68_144 q_119 10 := Kp_at hk2 ha_121_c
  have ha_128 : At Sc_68_144 q_126 6 := Kp_at hk2 ha_128_c
  have ha_135 : At Sc_68_144 q_133 8 := Kp_at hk2 ha_135_c
  have ha_142 : At Sc_68_144 q_140 1 := Kp_at hk2 ha_142_c
  have hr_106 : pR Sc_68_144 1100 x = some q_101 := ((hk2.2 x hat_x_c.1 ne_x_q_140).2.1 1100).trans hr_106
  have hr_112 : pR Sc_68_144 1101 x = some q_107 := ((hk2.2 x hat_x_c.1 ne_x_q_140).2.1 1101).trans hr_112
  have hr_118 : pR Sc_68_144 1103 x = some q_113 := ((hk2.2 x hat_x_c.1 ne_x_q_140).2.1 1103).trans hr_118
  have hr_125 : pR Sc_68_144 1105 x = some q_119 := ((hk2.2 x hat_x_c.1 ne_x_q_140).2.1 1105).trans hr_125
  have hr_132 : pR Sc_68_144 1106 x = some q_126 := ((hk2.2 x hat_x_c.1 ne_x_q_140).2.1 1106).trans hr_132
  have hr_139 : pR Sc_68_144 1107 x = some q_133 := ((hk2.2 x hat_x_c.1 ne_x_q_140).2.1 1107).trans hr_139
  have hn_104 : pN Sc_68_144 q_101 = 600 := ((hk2.2 q_101 ha_103_c.1 ne_q_101_q_140).2.2.1).trans hn_104
  have hn_110 : pN Sc_68_144 q_107 = 10 := ((hk2.2 q_107 ha_109_c.1 ne_q_107_q_140).2.2.1).trans hn_110
  have hn_116 : pN Sc_68_144 q_113 = 4 := ((hk2.2 q_113 ha_115_c.1 ne_q_113_q_140).2.2.1).trans hn_116
  have hz : ∀ g, pI Sc_68_144 g x = 0 := fun g => ((hk2.2 x hat_x_c.1 ne_x_q_140).1 g).trans (hz g)
  have hf_q_119 : TpF Sc_68_144 q_119 := TpF_keep hk2 (kne ha_142_c (by decide)) (kne ha_142_c (by decide)) hf_q_119
  have hf_q_133 : StF Sc_68_144 q_133 := StF_keep hk2 (kne ha_142_c (by decide)) (kne ha_142_c (by decide)) hf_q_133
  have hkp : Kp S0 Sc_68_144 (fun a => a = x) := Kp_call hkp hk2 (Or.inr nw_q_140)
  refine r_putR X hw hat_x 8 1108 (some q_140) rfl tyX11 (by decide) rfl inn_X11_init_11 tyX11_ok nmX11 (by decide) (X.2.2.2.1 (.fieldLink RX11 49 "SilkMill" "latestDraw" "LSilkMill$Draw;") (by decide +kernel)) rfl (Or.inr ⟨rfl, hin, rfl⟩) (fun _ => rfl) rfl (fun _ => rfl) rfl (Nat.le_of_ble_eq_true rfl) (st_1108 _ _) dX11_init_71 (fun H locs hw => ?_)
  have hato_S_145 := hat_x
  generalize eS_145 : sR Sc_68_144 1108 x (some q_140) = S_145 at hw
  have hat_x : At S_145 x 11 := by rw [← eS_145]; exact At_sR hat_x
  have ha_103 : At S_145 q_101 16 := by rw [← eS_145]; exact At_sR ha_103
  have ha_109 : At S_145 q_107 14 := by rw [← eS_145]; exact At_sR ha_109
  have ha_115 : At S_145 q_113 18 := by rw [← eS_145]; exact At_sR ha_115
  have ha_121 : At S_145 q_119 10 := by rw [← eS_145]; exact At_sR ha_121
  have ha_128 : At S_145 q_126 6 := by rw [← eS_145]; exact At_sR ha_128
  have ha_135 : At S_145 q_133 8 := by rw [← eS_145]; exact At_sR ha_135
  have ha_142 : At S_145 q_140 1 := by rw [← eS_145]; exact At_sR ha_142
  have hr_106 : pR S_145 1100 x = some q_101 := by rw [← eS_145]; exact (pR_sR_nf (by decide)).trans hr_106
  have hr_112 : pR S_145 1101 x = some q_107 := by rw [← eS_145]; exact (pR_sR_nf (by decide)).trans hr_112
  have hr_118 : pR S_145 1103 x = some q_113 := by rw [← eS_145]; exact (pR_sR_nf (by decide)).trans hr_118
  have hr_125 : pR S_145 1105 x = some q_119 := by rw [← eS_145]; exact (pR_sR_nf (by decide)).trans hr_125
  have hr_132 : pR S_145 1106 x = some q_126 := by rw [← eS_145]; exact (pR_sR_nf (by decide)).trans hr_132
  have hr_139 : pR S_145 1107 x = some q_133 := by rw [← eS_145]; exact (pR_sR_nf (by decide)).trans hr_139
  have hn_104 : pN S_145 q_101 = 600 := by rw [← eS_145, pN_sR]; exact hn_104
  have hn_110 : pN S_145 q_107 = 10 := by rw [← eS_145, pN_sR]; exact hn_110
  have hn_116 : pN S_145 q_113 = 4 := by rw [← eS_145, pN_sR]; exact hn_116
  have hkp : Kp S0 S_145 (fun a => a = x) := by rw [← eS_145]; exact Kp_sR hkp (Or.inl rfl)
  have hf_q_119 : TpF S_145 q_119 := by rw [← eS_145]; exact TpF_keep (P := fun b => b = x) (Kp_sR (Kp_rf _ _) (Or.inl rfl)) (kne hato_S_145 (by decide)) (kne hato_S_145 (by decide)) hf_q_119
  have hf_q_133 : StF S_145 q_133 := by rw [← eS_145]; exact StF_keep (P := fun b => b = x) (Kp_sR (Kp_rf _ _) (Or.inl rfl)) (kne hato_S_145 (by decide)) (kne hato_S_145 (by decide)) hf_q_133
  have hf_q_140 : DrF S_145 q_140 := by rw [← eS_145]; exact DrF_keep (P := fun b => b = x) (Kp_sR (Kp_rf _ _) (Or.inl rfl)) (kne hato_S_145 (by decide)) hf_q_140
  have hz : ∀ g, pI S_145 g x = 0 := by rw [← eS_145, pI_sR]; exact hz
  have hr_146 : pR S_145 1108 x = some q_140 := by rw [← eS_145]; exact pR_sR_same
  refine lv_aload_n X.1 X.2.1 dX11_init_74 rfl (lv_at hl 0 rfl) ?_
  refine lv_bipush (v := 16) X.1 X.2.1 dX11_init_75 (by decide) ?_
  have hat_x_o := hat_x
  have ha_103_o := ha_103
  have ha_109_o := ha_109
  have ha_115_o := ha_115
  have ha_121_o := ha_121
  have ha_128_o := ha_128
  have ha_135_o := ha_135
  have ha_142_o := ha_142
  refine r_newQ (N := 16) (C := RX3) X hw 17 1746 28 (by decide) rfl (X.2.2.2.1 (.classLink RX11 53 RX3) (by decide +kernel)) X.2.2.2.2.2.2.2.1.2.1 (by decide) (by decide) (by decide) (Nat.le_of_ble_eq_true rfl) (Nat.le_of_ble_eq_true rfl) (Nat.le_of_ble_eq_true rfl) (Nat.le_of_ble_eq_true rfl) dX11_init_77 (fun q_147 H hq_147 hw => ?_)
  generalize eS_148 : sN S_145 q_147 17 16 = S_148 at hw
  have hat_x : At S_148 x 11 := by rw [← eS_148]; exact At_sN hat_x hq_147
  have ha_103 : At S_148 q_101 16 := by rw [← eS_148]; exact At_sN ha_103 hq_147
  have ha_109 : At S_148 q_107 14 := by rw [← eS_148]; exact At_sN ha_109 hq_147
  have ha_115 : At S_148 q_113 18 := by rw [← eS_148]; exact At_sN ha_115 hq_147
  have ha_121 : At S_148 q_119 10 := by rw [← eS_148]; exact At_sN ha_121 hq_147
  have ha_128 : At S_148 q_126 6 := by rw [← eS_148]; exact At_sN ha_128 hq_147
  have ha_135 : At S_148 q_133 8 := by rw [← eS_148]; exact At_sN ha_135 hq_147
  have ha_142 : At S_148 q_140 1 := by rw [← eS_148]; exact At_sN ha_142 hq_147
  have hr_106 : pR S_148 1100 x = some q_101 := by rw [← eS_148, pR_sN]; exact hr_106
  have hr_112 : pR S_148 1101 x = some q_107 := by rw [← eS_148, pR_sN]; exact hr_112
  have hr_118 : pR S_148 1103 x = some q_113 := by rw [← eS_148, pR_sN]; exact hr_118
  have hr_125 : pR S_148 1105 x = some q_119 := by rw [← eS_148, pR_sN]; exact hr_125
  have hr_132 : pR S_148 1106 x = some q_126 := by rw [← eS_148, pR_sN]; exact hr_132
  have hr_139 : pR S_148 1107 x = some q_133 := by rw [← eS_148, pR_sN]; exact hr_139
  have hr_146 : pR S_148 1108 x = some q_140 := by rw [← eS_148, pR_sN]; exact hr_146
  have hn_104 : pN S_148 q_101 = 600 := by rw [← eS_148]; exact (pN_sN_ne (At_old ha_103_o hq_147)).trans hn_104
  have hn_110 : pN S_148 q_107 = 10 := by rw [← eS_148]; exact (pN_sN_ne (At_old ha_109_o hq_147)).trans hn_110
  have hn_116 : pN S_148 q_113 = 4 := by rw [← eS_148]; exact (pN_sN_ne (At_old ha_115_o hq_147)).trans hn_116
  have nw_q_147 : q_147 ∉ pL S0 := Kp_new hkp hq_147
  have hkp : Kp S0 S_148 (fun a => a = x) := by rw [← eS_148]; exact Kp_sN hkp hq_147
  have hf_q_119 : TpF S_148 q_119 := by rw [← eS_148]; exact TpF_keep (P := fun _ => False) (Kp_sN (Kp_rf _ _) hq_147) (fun _ _ w => w) (fun _ _ w => w) hf_q_119
  have hf_q_133 : StF S_148 q_133 := by rw [← eS_148]; exact StF_keep (P := fun _ => False) (Kp_sN (Kp_rf _ _) hq_147) (fun _ _ w => w) (fun _ _ w => w) hf_q_133
  have hf_q_140 : DrF S_148 q_140 := by rw [← eS_148]; exact DrF_keep (P := fun _ => False) (Kp_sN (Kp_rf _ _) hq_147) (fun _ _ w => w) hf_q_140
  have hz : ∀ g, pI S_148 g x = 0 := by rw [← eS_148, pI_sN]; exact hz
  have ha_149 : At S_148 q_147 17 := by rw [← eS_148]; exact At_nN _ _ _ _
  have hn_150 : pN S_148 q_147 = 16 := by rw [← eS_148]; exact pN_sN_new
  refine r_putR X hw hat_x 9 1109 (some q_147) rfl tyX11 (by decide) rfl inn_X11_init_11 tyX11_ok nmX11 (by decide) (X.2.2.2.1 (.fieldLink RX11 55 "SilkMill" "shelf" "[LSilkMill$Place;") (by decide +kernel)) rfl (Or.inr ⟨rfl, hin, rfl⟩) (fun _ => rfl) rfl (fun _ => rfl) rfl (Nat.le_of_ble_eq_true rfl) (st_1109 _ _) dX11_init_80 (fun H locs hw => ?_)
  have hato_S_151 := hat_x
  generalize eS_151 : sR S_148 1109 x (some q_147) = S_151 at hw
  have hat_x : At S_151 x 11 := by rw [← eS_151]; exact At_sR hat_x
  have ha_103 : At S_151 q_101 16 := by rw [← eS_151]; exact At_sR ha_103
  have ha_109 : At S_151 q_107 14 := by rw [← eS_151]; exact At_sR ha_109
  have ha_115 : At S_151 q_113 18 := by rw [← eS_151]; exact At_sR ha_115
  have ha_121 : At S_151 q_119 10 := by rw [← eS_151]; exact At_sR ha_121
  have ha_128 : At S_151 q_126 6 := by rw [← eS_151]; exact At_sR ha_128
  have ha_135 : At S_151 q_133 8 := by rw [← eS_151]; exact At_sR ha_135
  have ha_142 : At S_151 q_140 1 := by rw [← eS_151]; exact At_sR ha_142
  have ha_149 : At S_151 q_147 17 := by rw [← eS_151]; exact At_sR ha_149
  have hr_106 : pR S_151 1100 x = some q_101 := by rw [← eS_151]; exact (pR_sR_nf (by decide)).trans hr_106
  have hr_112 : pR S_151 1101 x = some q_107 := by rw [← eS_151]; exact (pR_sR_nf (by decide)).trans hr_112
  have hr_118 : pR S_151 1103 x = some q_113 := by rw [← eS_151]; exact (pR_sR_nf (by decide)).trans hr_118
  have hr_125 : pR S_151 1105 x = some q_119 := by rw [← eS_151]; exact (pR_sR_nf (by decide)).trans hr_125
  have hr_132 : pR S_151 1106 x = some q_126 := by rw [← eS_151]; exact (pR_sR_nf (by decide)).trans hr_132
  have hr_139 : pR S_151 1107 x = some q_133 := by rw [← eS_151]; exact (pR_sR_nf (by decide)).trans hr_139
  have hr_146 : pR S_151 1108 x = some q_140 := by rw [← eS_151]; exact (pR_sR_nf (by decide)).trans hr_146
  have hn_104 : pN S_151 q_101 = 600 := by rw [← eS_151, pN_sR]; exact hn_104
  have hn_110 : pN S_151 q_107 = 10 := by rw [← eS_151, pN_sR]; exact hn_110
  have hn_116 : pN S_151 q_113 = 4 := by rw [← eS_151, pN_sR]; exact hn_116
  have hn_150 : pN S_151 q_147 = 16 := by rw [← eS_151, pN_sR]; exact hn_150
  have hkp : Kp S0 S_151 (fun a => a = x) := by rw [← eS_151]; exact Kp_sR hkp (Or.inl rfl)
  have hf_q_119 : TpF S_151 q_119 := by rw [← eS_151]; exact TpF_keep (P := fun b => b = x) (Kp_sR (Kp_rf _ _) (Or.inl rfl)) (kne hato_S_151 (by decide)) (kne hato_S_151 (by decide)) hf_q_119
  have hf_q_133 : StF S_151 q_133 := by rw [← eS_151]; exact StF_keep (P := fun b => b = x) (Kp_sR (Kp_rf _ _) (Or.inl rfl)) (kne hato_S_151 (by decide)) (kne hato_S_151 (by decide)) hf_q_133
  have hf_q_140 : DrF S_151 q_140 := by rw [← eS_151]; exact DrF_keep (P := fun b => b = x) (Kp_sR (Kp_rf _ _) (Or.inl rfl)) (kne hato_S_151 (by decide)) hf_q_140
  have hz : ∀ g, pI S_151 g x = 0 := by rw [← eS_151, pI_sR]; exact hz
  have hr_152 : pR S_151 1109 x = some q_147 := by rw [← eS_151]; exact pR_sR_same
  refine lv_aload_n X.1 X.2.1 dX11_init_83 rfl (lv_at hl 0 rfl) ?_
  refine lv_bipush (v := 60) X.1 X.2.1 dX11_init_84 (by decide) ?_
  have hat_x_o := hat_x
  have ha_103_o := ha_103
  have ha_109_o := ha_109
  have ha_115_o := ha_115
  have ha_121_o := ha_121
  have ha_128_o := ha_128
  have ha_135_o := ha_135
  have ha_142_o := ha_142
  have ha_149_o := ha_149
  refine r_newI (N := 60) X hw 1806 29 (X.2.2.2.1 (.arrayClass .int) (by decide +kernel)) (by decide) (by decide) (by decide) (Nat.le_of_ble_eq_true rfl) (Nat.le_of_ble_eq_true rfl) (Nat.le_of_ble_eq_true rfl) (Nat.le_of_ble_eq_true rfl) dX11_init_86 (fun q_153 H hq_153 hw => ?_)
  generalize eS_154 : sN S_151 q_153 14 60 = S_154 at hw
  have hat_x : At S_154 x 11 := by rw [← eS_154]; exact At_sN hat_x hq_153
  have ha_103 : At S_154 q_101 16 := by rw [← eS_154]; exact At_sN ha_103 hq_153
  have ha_109 : At S_154 q_107 14 := by rw [← eS_154]; exact At_sN ha_109 hq_153
  have ha_115 : At S_154 q_113 18 := by rw [← eS_154]; exact At_sN ha_115 hq_153
  have ha_121 : At S_154 q_119 10 := by rw [← eS_154]; exact At_sN ha_121 hq_153
  have ha_128 : At S_154 q_126 6 := by rw [← eS_154]; exact At_sN ha_128 hq_153
  have ha_135 : At S_154 q_133 8 := by rw [← eS_154]; exact At_sN ha_135 hq_153
  have ha_142 : At S_154 q_140 1 := by rw [← eS_154]; exact At_sN ha_142 hq_153
  have ha_149 : At S_154 q_147 17 := by rw [← eS_154]; exact At_sN ha_149 hq_153
  have hr_106 : pR S_154 1100 x = some q_101 := by rw [← eS_154, pR_sN]; exact hr_106
  have hr_112 : pR S_154 1101 x = some q_107 := by rw [← eS_154, pR_sN]; exact hr_112
  have hr_118 : pR S_154 1103 x = some q_113 := by rw [← eS_154, pR_sN]; exact hr_118
  have hr_125 : pR S_154 1105 x = some q_119 := by rw [← eS_154, pR_sN]; exact hr_125
  have hr_132 : pR S_154 1106 x = some q_126 := by rw [← eS_154, pR_sN]; exact hr_132
  have hr_139 : pR S_154 1107 x = some q_133 := by rw [← eS_154, pR_sN]; exact hr_139
  have hr_146 : pR S_154 1108 x = some q_140 := by rw [← eS_154, pR_sN]; exact hr_146
  have hr_152 : pR S_154 1109 x = some q_147 := by rw [← eS_154, pR_sN]; exact hr_152
  have hn_104 : pN S_154 q_101 = 600 := by rw [← eS_154]; exact (pN_sN_ne (At_old ha_103_o hq_153)).trans hn_104
  have hn_110 : pN S_154 q_107 = 10 := by rw [← eS_154]; exact (pN_sN_ne (At_old ha_109_o hq_153)).trans hn_110
  have hn_116 : pN S_154 q_113 = 4 := by rw [← eS_154]; exact (pN_sN_ne (At_old ha_115_o hq_153)).trans hn_116
  have hn_150 : pN S_154 q_147 = 16 := by rw [← eS_154]; exact (pN_sN_ne (At_old ha_149_o hq_153)).trans hn_150
  have nw_q_153 : q_153 ∉ pL S0 := Kp_new hkp hq_153
  have hkp : Kp S0 S_154 (fun a => a = x) := by rw [← eS_154]; exact Kp_sN hkp hq_153
  have hf_q_119 : TpF S_154 q_119 := by rw [← eS_154]; exact TpF_keep (P := fun _ => False) (Kp_sN (Kp_rf _ _) hq_153) (fun _ _ w => w) (fun _ _ w => w) hf_q_119
  have hf_q_133 : StF S_154 q_133 := by rw [← eS_154]; exact StF_keep (P := fun _ => False) (Kp_sN (Kp_rf _ _) hq_153) (fun _ _ w => w) (fun _ _ w => w) hf_q_133
  have hf_q_140 : DrF S_154 q_140 := by rw [← eS_154]; exact DrF_keep (P := fun _ => False) (Kp_sN (Kp_rf _ _) hq_153) (fun _ _ w => w) hf_q_140
  have hz : ∀ g, pI S_154 g x = 0 := by rw [← eS_154, pI_sN]; exact hz
  have ha_155 : At S_154 q_153 14 := by rw [← eS_154]; exact At_nN _ _ _ _
  have hn_156 : pN S_154 q_153 = 60 := by rw [← eS_154]; exact pN_sN_new
  refine r_putR X hw hat_x 11 1111 (some q_153) rfl tyX11 (by decide) rfl inn_X11_init_11 tyX11_ok nmX11 (by decide) (X.2.2.2.1 (.fieldLink RX11 59 "SilkMill" "idle" "[I") (by decide +kernel)) rfl (Or.inr ⟨rfl, hin, rfl⟩) (fun _ => rfl) rfl (fun _ => rfl) rfl (Nat.le_of_ble_eq_true rfl) (st_1111 _ _) dX11_init_88 (fun H locs hw => ?_)
  have hato_S_157 := hat_x
  generalize eS_157 : sR S_154 1111 x (some q_153) = S_157 at hw
  have hat_x : At S_157 x 11 := by rw [← eS_157]; exact At_sR hat_x
  have ha_103 : At S_157 q_101 16 := by rw [← eS_157]; exact At_sR ha_103
  have ha_109 : At S_157 q_107 14 := by rw [← eS_157]; exact At_sR ha_109
  have ha_115 : At S_157 q_113 18 := by rw [← eS_157]; exact At_sR ha_115
  have ha_121 : At S_157 q_119 10 := by rw [← eS_157]; exact At_sR ha_121
  have ha_128 : At S_157 q_126 6 := by rw [← eS_157]; exact At_sR ha_128
  have ha_135 : At S_157 q_133 8 := by rw [← eS_157]; exact At_sR ha_135
  have ha_142 : At S_157 q_140 1 := by rw [← eS_157]; exact At_sR ha_142
  have ha_149 : At S_157 q_147 17 := by rw [← eS_157]; exact At_sR ha_149
  have ha_155 : At S_157 q_153 14 := by rw [← eS_157]; exact At_sR ha_155
  have hr_106 : pR S_157 1100 x = some q_101 := by rw [← eS_157]; exact (pR_sR_nf (by decide)).trans hr_106
  have hr_112 : pR S_157 1101 x = some q_107 := by rw [← eS_157]; exact (pR_sR_nf (by decide)).trans hr_112
  have hr_118 : pR S_157 1103 x = some q_113 := by rw [← eS_157]; exact (pR_sR_nf (by decide)).trans hr_118
  have hr_125 : pR S_157 1105 x = some q_119 := by rw [← eS_157]; exact (pR_sR_nf (by decide)).trans hr_125
  have hr_132 : pR S_157 1106 x = some q_126 := by rw [← eS_157]; exact (pR_sR_nf (by decide)).trans hr_132
  have hr_139 : pR S_157 1107 x = some q_133 := by rw [← eS_157]; exact (pR_sR_nf (by decide)).trans hr_139
  have hr_146 : pR S_157 1108 x = some q_140 := by rw [← eS_157]; exact (pR_sR_nf (by decide)).trans hr_146
  have hr_152 : pR S_157 1109 x = some q_147 := by rw [← eS_157]; exact (pR_sR_nf (by decide)).trans hr_152
  have hn_104 : pN S_157 q_101 = 600 := by rw [← eS_157, pN_sR]; exact hn_104
  have hn_110 : pN S_157 q_107 = 10 := by rw [← eS_157, pN_sR]; exact hn_110
  have hn_116 : pN S_157 q_113 = 4 := by rw [← eS_157, pN_sR]; exact hn_116
  have hn_150 : pN S_157 q_147 = 16 := by rw [← eS_157, pN_sR]; exact hn_150
  have hn_156 : pN S_157 q_153 = 60 := by rw [← eS_157, pN_sR]; exact hn_156
  have hkp : Kp S0 S_157 (fun a => a = x) := by rw [← eS_157]; exact Kp_sR hkp (Or.inl rfl)
  have hf_q_119 : TpF S_157 q_119 := by rw [← eS_157]; exact TpF_keep (P := fun b => b = x) (Kp_sR (Kp_rf _ _) (Or.inl rfl)) (kne hato_S_157 (by decide)) (kne hato_S_157 (by decide)) hf_q_119
  have hf_q_133 : StF S_157 q_133 := by rw [← eS_157]; exact StF_keep (P := fun b => b = x) (Kp_sR (Kp_rf _ _) (Or.inl rfl)) (kne hato_S_157 (by decide)) (kne hato_S_157 (by decide)) hf_q_133
  have hf_q_140 : DrF S_157 q_140 := by rw [← eS_157]; exact DrF_keep (P := fun b => b = x) (Kp_sR (Kp_rf _ _) (Or.inl rfl)) (kne hato_S_157 (by decide)) hf_q_140
  have hz : ∀ g, pI S_157 g x = 0 := by rw [← eS_157, pI_sR]; exact hz
  have hr_158 : pR S_157 1111 x = some q_153 := by rw [← eS_157]; exact pR_sR_same
  refine lv_iconst (v := 0) X.1 X.2.1 dX11_init_91 (by decide) ?_
  refine lv_istore_n (lv' := [(1, .int 0), (0, .ref x)]) X.1 X.2.1 dX11_init_92 rfl hl (by decide) rfl (fun ls hl => ?_)
  have hFX : FXi S_157 x 0 := ⟨hat_x, hz 1102, hz 1104, hz 1110, ⟨_, hr_106, ha_103, hn_104⟩, ⟨_, hr_112, ha_109, hn_110⟩, ⟨_, hr_118, ha_115, hn_116⟩, ⟨_, hr_125, hf_q_119⟩, ⟨_, hr_139, hf_q_133⟩, ⟨_, hr_146, hf_q_140⟩, _, hr_152, ha_149, hn_150, fun k hk => absurd hk (by omega)⟩
  exact kk q_147 _ _ _ _ hw hl hat_x ha_149 hr_152 hn_150 hkp nw_q_147 hFX
set_option maxHeartbeats 4000000 in
set_option maxRecDepth 100000 in
theorem sgX_1 {p : Program} {l : Launch} {e : Env} {s : State} {m : MethodId} {below : List Frame} {meth : Method} {c : Code} {Q : State → Prop} (G : va_G) (cy : Nat → ClassId) (S0 : PS) (x : Nat) (X : Cx p c cX11_init 2 s [.ref x].toArray wsX11_init RX11 m G cy (AS S0 s.heap.size)) (hin : meth.name = "<init>") (q_147 : Nat) (S : PS) (H : Heap) (locs : List Loc) (ls : Array Slot) (hw : Wd G cy (AS S0 s.heap.size) s.heap S H locs) (hl : lv_has ls 2 [(1, .int 0), (0, .ref x)]) (hat_x : At S x 11) (ha_149 : At S q_147 17) (hr_152 : pR S 1109 x = some q_147) (hn_150 : pN S q_147 = 16) (hkp : Kp S0 S (fun a => a = x)) (nw_q_147 : q_147 ∉ pL S0) (hFX : FXi S x 0) (kk : ∀ (q_147 : Nat) (S : PS) (H : Heap) (locs : List Loc) (ls : Array Slot), Wd G cy (AS S0 s.heap.size) s.heap S H locs → lv_has ls 2 [(1, .int 4), (0, .ref x)] → At S x 11 → At S q_147 17 → pR S 1109 x = some q_147 → pN S q_147 = 16 → Kp S0 S (fun a => a = x) → q_147 ∉ pL S0 → FXi S x 4 → W p l e ({ frames := 5, cells := 100, slots := 3000, locals := 200 }) s m [.ref x].toArray below meth c H locs 37 1858 Q (F0 m 93 ls [])) : W p l e ({ frames := 5, cells := 100, slots := 3000, locals := 200 }) s m [.ref x].toArray below meth c H locs 29 1806 Q (F0 m 93 ls []) := by
  refine lv_iload_n X.1 X.2.1 dX11_init_93 rfl (lv_at hl 0 rfl) ?_
  refine lv_bipush (v := 16) X.1 X.2.1 dX11_init_94 (by decide) ?_
  refine lv_icmp_ge (tgt := 118) X.1 X.2.1 dX11_init_96 (by decide) (fun c_96 => absurd c_96 (by decide)) (fun c_96 => ?_)
  refine lv_aload_n X.1 X.2.1 dX11_init_99 rfl (lv_at hl 1 rfl) ?_
  refine r_getR (g := 1109) X hw hat_x 9 hr_152 (by decide) rfl inn_X11_init_11 (by decide) (X.2.2.2.1 (.fieldLink RX11 55 "SilkMill" "shelf" "[LSilkMill$Place;") (by decide +kernel)) rfl (gv_1109 _ _) dX11_init_100 ?_
  refine lv_iload_n X.1 X.2.1 dX11_init_103 rfl (lv_at hl 0 rfl) ?_
  have hat_x_o := hat_x
  have ha_149_o := ha_149
  refine r_new X hw 3 1811 30 tyX3 (by decide) rfl inn_X11_init_3 tyX3_ok (X.2.2.2.1 (.classLink RX11 53 RX3) (by decide +kernel)) (X.2.2.2.1 (.instantiable RX3 5) (by decide +kernel)) (X.2.2.2.1 (.initialized RX3) (by decide +kernel)) zo_3 zd_3 (Nat.le_of_ble_eq_true rfl) (Nat.le_of_ble_eq_true rfl) (Nat.le_of_ble_eq_true rfl) (Nat.le_of_ble_eq_true rfl) dX11_init_104 (fun q_201 H hq_201 hw => ?_)
  have ne_x_q_201 : x ≠ q_201 := At_old hat_x_o hq_201
  have ne_q_147_q_201 : q_147 ≠ q_201 := At_old ha_149_o hq_201
  generalize eS_202 : sO S q_201 3 = S_202 at hw
  have hat_x : At S_202 x 11 := by rw [← eS_202]; exact At_sO hat_x hq_201
  have ha_149 : At S_202 q_147 17 := by rw [← eS_202]; exact At_sO ha_149 hq_201
  have hr_152 : pR S_202 1109 x = some q_147 := by rw [← eS_202]; exact (pR_sO_ne (At_old hat_x_o hq_201)).trans hr_152
  have hn_150 : pN S_202 q_147 = 16 := by rw [← eS_202, pN_sO]; exact hn_150
  have nw_q_201 : q_201 ∉ pL S0 := Kp_new hkp hq_201
  have hkp : Kp S0 S_202 (fun a => a = x) := by rw [← eS_202]; exact Kp_sO hkp hq_201
  have ha_203 : At S_202 q_201 3 := by rw [← eS_202]; exact At_nO _ _ _
  have hz_204 : ∀ g, pI S_202 g q_201 = 0 := fun g => by rw [← eS_202]; exact pI_sO_new
  refine lv_dup X.1 X.2.1 dX11_init_107 rfl ?_
  refine k_v (rm := { frames := 1, cells := 1, slots := 8, locals := 40 }) (av := [.ref q_201]) X hw (va_runIN (As := []) (rest := [.ref q_201, .int 0, .ref q_147]) (cfix X) (c_X3_init l G cy S_202 _ q_201  ha_203 hz_204) ⟨(va_cnB (host := RX11) 0 X.2.2.2.1 gX11_init_X3_init_n62 rfl rfl rfl (X.2.2.2.2.2.2.2.2.1 (RX11, 62, yX3_init) (by decide +kernel)) (X.2.2.2.1 (.initialized RX3) (by decide +kernel)) (by decide +kernel) ⟨Nat.le_of_ble_eq_true rfl, Nat.le_of_ble_eq_true rfl⟩), rfl, X.2.2.2.1 (.instanceMethod yX3_init) (by decide +kernel)⟩ (pre_S X hw _) rfl rfl hl.1 rfl (lv_room (Nat.le_of_ble_eq_true rfl)) dX11_init_108 ⟨Nat.le_of_ble_eq_true rfl, Nat.le_of_ble_eq_true rfl⟩) 31 1819 (Nat.le_of_ble_eq_true rfl) (Nat.le_of_ble_eq_true rfl) (fun S2 H locs hp hw hfr hnw => ?_)
  obtain ⟨hk2, hf_q_201⟩ := hp
  generalize eq_Sc_108_205 : S2 = Sc_108_205 at hk2 hf_q_201 hw
  have hat_x_c := hat_x
  have ha_149_c := ha_149
  have ha_203_c := ha_203
  have hat_x : At Sc_108_205 x 11 := Kp_at hk2 hat_x_c
  have ha_149 : At Sc_108_205 q_147 17 := Kp_at hk2 ha_149_c
  have ha_203 : At Sc_108_205 q_201 3 := Kp_at hk2 ha_203_c
  have hr_152 : pR Sc_108_205 1109 x = some q_147 := ((hk2.2 x hat_x_c.1 ne_x_q_201).2.1 1109).trans hr_152
  have hn_150 : pN Sc_108_205 q_147 = 16 := ((hk2.2 q_147 ha_149_c.1 ne_q_147_q_201).2.2.1).trans hn_150
  have hkp : Kp S0 Sc_108_205 (fun a => a = x) := Kp_call hkp hk2 (Or.inr nw_q_201)
  have rfb_q_201 := hr_152
  refine r_aast X hw ha_149 ha_203 (by decide) (by decide) rfl rfl (by rw [hn_150]; exact vp_in_iff.mpr (by decide +kernel)) dX11_init_111 (fun H locs hw => ?_)
  generalize eS_206 : sB Sc_108_205 q_147 (va_up (pB Sc_108_205 q_147) (Int32.toNatClampNeg (0)) (some q_201)) = S_206 at hw
  have hat_x : At S_206 x 11 := by rw [← eS_206]; exact At_sB hat_x
  have ha_149 : At S_206 q_147 17 := by rw [← eS_206]; exact At_sB ha_149
  have ha_203 : At S_206 q_201 3 := by rw [← eS_206]; exact At_sB ha_203
  have hr_152 : pR S_206 1109 x = some q_147 := by rw [← eS_206, pR_sB]; exact hr_152
  have hn_150 : pN S_206 q_147 = 16 := by rw [← eS_206, pN_sB]; exact hn_150
  have hkp : Kp S0 S_206 (fun a => a = x) := by rw [← eS_206]; exact Kp_sB hkp (Or.inr nw_q_147)
  refine lv_iinc (v := 1) (lv' := [(1, .int 1), (0, .ref x)]) X.1 X.2.1 dX11_init_112 hl (k := 0) rfl (by decide) (by decide) rfl (fun ls hl => ?_)
  refine lv_goto (tgt := 93) X.1 X.2.1 dX11_init_115 (by decide) ?_
  have hFX : FXi S_206 x 1 := by rw [← eS_206, show Int32.toNatClampNeg 0 = 0 from by decide +kernel]; exact FXi_step hFX (S2 := Sc_108_205) hq_201 (by rw [eS_202]; exact hk2) hf_q_201 rfb_q_201
  refine lv_iload_n X.1 X.2.1 dX11_init_93 rfl (lv_at hl 0 rfl) ?_
  refine lv_bipush (v := 16) X.1 X.2.1 dX11_init_94 (by decide) ?_
  refine lv_icmp_ge (tgt := 118) X.1 X.2.1 dX11_init_96 (by decide) (fun c_96 => absurd c_96 (by decide)) (fun c_96 => ?_)
  refine lv_aload_n X.1 X.2.1 dX11_init_99 rfl (lv_at hl 1 rfl) ?_
  refine r_getR (g := 1109) X hw hat_x 9 hr_152 (by decide) rfl inn_X11_init_11 (by decide) (X.2.2.2.1 (.fieldLink RX11 55 "SilkMill" "shelf" "[LSilkMill$Place;") (by decide +kernel)) rfl (gv_1109 _ _) dX11_init_100 ?_
  refine lv_iload_n X.1 X.2.1 dX11_init_103 rfl (lv_at hl 0 rfl) ?_
  have hat_x_o := hat_x
  have ha_149_o := ha_149
  refine r_new X hw 3 1824 32 tyX3 (by decide) rfl inn_X11_init_3 tyX3_ok (X.2.2.2.1 (.classLink RX11 53 RX3) (by decide +kernel)) (X.2.2.2.1 (.instantiable RX3 5) (by decide +kernel)) (X.2.2.2.1 (.initialized RX3) (by decide +kernel)) zo_3 zd_3 (Nat.le_of_ble_eq_true rfl) (Nat.le_of_ble_eq_true rfl) (Nat.le_of_ble_eq_true rfl) (Nat.le_of_ble_eq_true rfl) dX11_init_104 (fun q_207 H hq_207 hw => ?_)
  have ne_x_q_207 : x ≠ q_207 := At_old hat_x_o hq_207
  have ne_q_147_q_207 : q_147 ≠ q_207 := At_old ha_149_o hq_207
  generalize eS_208 : sO S_206 q_207 3 = S_208 at hw
  have hat_x : At S_208 x 11 := by rw [← eS_208]; exact At_sO hat_x hq_207
  have ha_149 : At S_208 q_147 17 := by rw [← eS_208]; exact At_sO ha_149 hq_207
  have hr_152 : pR S_208 1109 x = some q_147 := by rw [← eS_208]; exact (pR_sO_ne (At_old hat_x_o hq_207)).trans hr_152
  have hn_150 : pN S_208 q_147 = 16 := by rw [← eS_208, pN_sO]; exact hn_150
  have nw_q_207 : q_207 ∉ pL S0 := Kp_new hkp hq_207
  have hkp : Kp S0 S_208 (fun a => a = x) := by rw [← eS_208]; exact Kp_sO hkp hq_207
  have ha_209 : At S_208 q_207 3 := by rw [← eS_208]; exact At_nO _ _ _
  have hz_210 : ∀ g, pI S_208 g q_207 = 0 := fun g => by rw [← eS_208]; exact pI_sO_new
  refine lv_dup X.1 X.2.1 dX11_init_107 rfl ?_
  refine k_v (rm := { frames := 1, cells := 1, slots := 8, locals := 40 }) (av := [.ref q_207]) X hw (va_runIN (As := []) (rest := [.ref q_207, .int 1, .ref q_147]) (cfix X) (c_X3_init l G cy S_208 _ q_207  ha_209 hz_210) ⟨(va_cnB (host := RX11) 0 X.2.2.2.1 gX11_init_X3_init_n62 rfl rfl rfl (X.2.2.2.2.2.2.2.2.1 (RX11, 62, yX3_init) (by decide +kernel)) (X.2.2.2.1 (.initialized RX3) (by decide +kernel)) (by decide +kernel) ⟨Nat.le_of_ble_eq_true rfl, Nat.le_of_ble_eq_true rfl⟩), rfl, X.2.2.2.1 (.instanceMethod yX3_init) (by decide +kernel)⟩ (pre_S X hw _) rfl rfl hl.1 rfl (lv_room (Nat.le_of_ble_eq_true rfl)) dX11_init_108 ⟨Nat.le_of_ble_eq_true rfl, Nat.le_of_ble_eq_true rfl⟩) 33 1832 (Nat.le_of_ble_eq_true rfl) (Nat.le_of_ble_eq_true rfl) (fun S2 H locs hp hw hfr hnw => ?_)
  obtain ⟨hk2, hf_q_207⟩ := hp
  generalize eq_Sc_108_211 : S2 = Sc_108_211 at hk2 hf_q_207 hw
  have hat_x_c := hat_x
  have ha_149_c := ha_149
  have ha_209_c := ha_209
  have hat_x : At Sc_108_211 x 11 := Kp_at hk2 hat_x_c
  have ha_149 : At Sc_108_211 q_147 17 := Kp_at hk2 ha_149_c
  have ha_209 : At Sc_108_211 q_207 3 := Kp_at hk2 ha_209_c
  have hr_152 : pR Sc_108_211 1109 x = some q_147 := ((hk2.2 x hat_x_c.1 ne_x_q_207).2.1 1109).trans hr_152
  have hn_150 : pN Sc_108_211 q_147 = 16 := ((hk2.2 q_147 ha_149_c.1 ne_q_147_q_207).2.2.1).trans hn_150
  have hkp : Kp S0 Sc_108_211 (fun a => a = x) := Kp_call hkp hk2 (Or.inr nw_q_207)
  have rfb_q_207 := hr_152
  refine r_aast X hw ha_149 ha_209 (by decide) (by decide) rfl rfl (by rw [hn_150]; exact vp_in_iff.mpr (by decide +kernel)) dX11_init_111 (fun H locs hw => ?_)
  generalize eS_212 : sB Sc_108_211 q_147 (va_up (pB Sc_108_211 q_147) (Int32.toNatClampNeg (1)) (some q_207)) = S_212 at hw
  have hat_x : At S_212 x 11 := by rw [← eS_212]; exact At_sB hat_x
  have ha_149 : At S_212 q_147 17 := by rw [← eS_212]; exact At_sB ha_149
  have ha_209 : At S_212 q_207 3 := by rw [← eS_212]; exact At_sB ha_209
  have hr_152 : pR S_212 1109 x = some q_147 := by rw [← eS_212, pR_sB]; exact hr_152
  have hn_150 : pN S_212 q_147 = 16 := by rw [← eS_212, pN_sB]; exact hn_150
  have hkp : Kp S0 S_212 (fun a => a = x) := by rw [← eS_212]; exact Kp_sB hkp (Or.inr nw_q_147)
  refine lv_iinc (v := 2) (lv' := [(1, .int 2), (0, .ref x)]) X.1 X.2.1 dX11_init_112 hl (k := 0) rfl (by decide) (by decide) rfl (fun ls hl => ?_)
  refine lv_goto (tgt := 93) X.1 X.2.1 dX11_init_115 (by decide) ?_
  have hFX : FXi S_212 x 2 := by rw [← eS_212, show Int32.toNatClampNeg 1 = 1 from by decide +kernel]; exact FXi_step hFX (S2 := Sc_108_211) hq_207 (by rw [eS_208]; exact hk2) hf_q_207 rfb_q_207
  refine lv_iload_n X.1 X.2.1 dX11_init_93 rfl (lv_at hl 0 rfl) ?_
  refine lv_bipush (v := 16) X.1 X.2.1 dX11_init_94 (by decide) ?_
  refine lv_icmp_ge (tgt := 118) X.1 X.2.1 dX11_init_96 (by decide) (fun c_96 => absurd c_96 (by decide)) (fun c_96 => ?_)
  refine lv_aload_n X.1 X.2.1 dX11_init_99 rfl (lv_at hl 1 rfl) ?_
  refine r_getR (g := 1109) X hw hat_x 9 hr_152 (by decide) rfl inn_X11_init_11 (by decide) (X.2.2.2.1 (.fieldLink RX11 55 "SilkMill" "shelf" "[LSilkMill$Place;") (by decide +kernel)) rfl (gv_1109 _ _) dX11_init_100 ?_
  refine lv_iload_n X.1 X.2.1 dX11_init_103 rfl (lv_at hl 0 rfl) ?_
  have hat_x_o := hat_x
  have ha_149_o := ha_149
  refine r_new X hw 3 1837 34 tyX3 (by decide) rfl inn_X11_init_3 tyX3_ok (X.2.2.2.1 (.classLink RX11 53 RX3) (by decide +kernel)) (X.2.2.2.1 (.instantiable RX3 5) (by decide +kernel)) (X.2.2.2.1 (.initialized RX3) (by decide +kernel)) zo_3 zd_3 (Nat.le_of_ble_eq_true rfl) (Nat.le_of_ble_eq_true rfl) (Nat.le_of_ble_eq_true rfl) (Nat.le_of_ble_eq_true rfl) dX11_init_104 (fun q_213 H hq_213 hw => ?_)
  have ne_x_q_213 : x ≠ q_213 := At_old hat_x_o hq_213
  have ne_q_147_q_213 : q_147 ≠ q_213 := At_old ha_149_o hq_213
  generalize eS_214 : sO S_212 q_213 3 = S_214 at hw
  have hat_x : At S_214 x 11 := by rw [← eS_214]; exact At_sO hat_x hq_213
  have ha_149 : At S_214 q_147 17 := by rw [← eS_214]; exact At_sO ha_149 hq_213
  have hr_152 : pR S_214 1109 x = some q_147 := by rw [← eS_214]; exact (pR_sO_ne (At_old hat_x_o hq_213)).trans hr_152
  have hn_150 : pN S_214 q_147 = 16 := by rw [← eS_214, pN_sO]; exact hn_150
  have nw_q_213 : q_213 ∉ pL S0 := Kp_new hkp hq_213
  have hkp : Kp S0 S_214 (fun a => a = x) := by rw [← eS_214]; exact Kp_sO hkp hq_213
  have ha_215 : At S_214 q_213 3 := by rw [← eS_214]; exact At_nO _ _ _
  have hz_216 : ∀ g, pI S_214 g q_213 = 0 := fun g => by rw [← eS_214]; exact pI_sO_new
  refine lv_dup X.1 X.2.1 dX11_init_107 rfl ?_
  refine k_v (rm := { frames := 1, cells := 1, slots := 8, locals := 40 }) (av := [.ref q_213]) X hw (va_runIN (As := []) (rest := [.ref q_213, .int 2, .ref q_147]) (cfix X) (c_X3_init l G cy S_214 _ q_213  ha_215 hz_216) ⟨(va_cnB (host := RX11) 0 X.2.2.2.1 gX11_init_X3_init_n62 rfl rfl rfl (X.2.2.2.2.2.2.2.2.1 (RX11, 62, yX3_init) (by decide +kernel)) (X.2.2.2.1 (.initialized RX3) (by decide +kernel)) (by decide +kernel) ⟨Nat.le_of_ble_eq_true rfl, Nat.le_of_ble_eq_true rfl⟩), rfl, X.2.2.2.1 (.instanceMethod yX3_init) (by decide +kernel)⟩ (pre_S X hw _) rfl rfl hl.1 rfl (lv_room (Nat.le_of_ble_eq_true rfl)) dX11_init_108 ⟨Nat.le_of_ble_eq_true rfl, Nat.le_of_ble_eq_true rfl⟩) 35 1845 (Nat.le_of_ble_eq_true rfl) (Nat.le_of_ble_eq_true rfl) (fun S2 H locs hp hw hfr hnw => ?_)
  obtain ⟨hk2, hf_q_213⟩ := hp
  generalize eq_Sc_108_217 : S2 = Sc_108_217 at hk2 hf_q_213 hw
  have hat_x_c := hat_x
  have ha_149_c := ha_149
  have ha_215_c := ha_215
  have hat_x : At Sc_108_217 x 11 := Kp_at hk2 hat_x_c
  have ha_149 : At Sc_108_217 q_147 17 := Kp_at hk2 ha_149_c
  have ha_215 : At Sc_108_217 q_213 3 := Kp_at hk2 ha_215_c
  have hr_152 : pR Sc_108_217 1109 x = some q_147 := ((hk2.2 x hat_x_c.1 ne_x_q_213).2.1 1109).trans hr_152
  have hn_150 : pN Sc_108_217 q_147 = 16 := ((hk2.2 q_147 ha_149_c.1 ne_q_147_q_213).2.2.1).trans hn_150
  have hkp : Kp S0 Sc_108_217 (fun a => a = x) := Kp_call hkp hk2 (Or.inr nw_q_213)
  have rfb_q_213 := hr_152
  refine r_aast X hw ha_149 ha_215 (by decide) (by decide) rfl rfl (by rw [hn_150]; exact vp_in_iff.mpr (by decide +kernel)) dX11_init_111 (fun H locs hw => ?_)
  generalize eS_218 : sB Sc_108_217 q_147 (va_up (pB Sc_108_217 q_147) (Int32.toNatClampNeg (2)) (some q_213)) = S_218 at hw
  have hat_x : At S_218 x 11 := by rw [← eS_218]; exact At_sB hat_x
  have ha_149 : At S_218 q_147 17 := by rw [← eS_218]; exact At_sB ha_149
  have ha_215 : At S_218 q_213 3 := by rw [← eS_218]; exact At_sB ha_215
  have hr_152 : pR S_218 1109 x = some q_147 := by rw [← eS_218, pR_sB]; exact hr_152
  have hn_150 : pN S_218 q_147 = 16 := by rw [← eS_218, pN_sB]; exact hn_150
  have hkp : Kp S0 S_218 (fun a => a = x) := by rw [← eS_218]; exact Kp_sB hkp (Or.inr nw_q_147)
  refine lv_iinc (v := 3) (lv' := [(1, .int 3), (0, .ref x)]) X.1 X.2.1 dX11_init_112 hl (k := 0) rfl (by decide) (by decide) rfl (fun ls hl => ?_)
  refine lv_goto (tgt := 93) X.1 X.2.1 dX11_init_115 (by decide) ?_
  have hFX : FXi S_218 x 3 := by rw [← eS_218, show Int32.toNatClampNeg 2 = 2 from by decide +kernel]; exact FXi_step hFX (S2 := Sc_108_217) hq_213 (by rw [eS_214]; exact hk2) hf_q_213 rfb_q_213
  refine lv_iload_n X.1 X.2.1 dX11_init_93 rfl (lv_at hl 0 rfl) ?_
  refine lv_bipush (v := 16) X.1 X.2.1 dX11_init_94 (by decide) ?_
  refine lv_icmp_ge (tgt := 118) X.1 X.2.1 dX11_init_96 (by decide) (fun c_96 => absurd c_96 (by decide)) (fun c_96 => ?_)
  refine lv_aload_n X.1 X.2.1 dX11_init_99 rfl (lv_at hl 1 rfl) ?_
  refine r_getR (g := 1109) X hw hat_x 9 hr_152 (by decide) rfl inn_X11_init_11 (by decide) (X.2.2.2.1 (.fieldLink RX11 55 "SilkMill" "shelf" "[LSilkMill$Place;") (by decide +kernel)) rfl (gv_1109 _ _) dX11_init_100 ?_
  refine lv_iload_n X.1 X.2.1 dX11_init_103 rfl (lv_at hl 0 rfl) ?_
  have hat_x_o := hat_x
  have ha_149_o := ha_149
  refine r_new X hw 3 1850 36 tyX3 (by decide) rfl inn_X11_init_3 tyX3_ok (X.2.2.2.1 (.classLink RX11 53 RX3) (by decide +kernel)) (X.2.2.2.1 (.instantiable RX3 5) (by decide +kernel)) (X.2.2.2.1 (.initialized RX3) (by decide +kernel)) zo_3 zd_3 (Nat.le_of_ble_eq_true rfl) (Nat.le_of_ble_eq_true rfl) (Nat.le_of_ble_eq_true rfl) (Nat.le_of_ble_eq_true rfl) dX11_init_104 (fun q_219 H hq_219 hw => ?_)
  have ne_x_q_219 : x ≠ q_219 := At_old hat_x_o hq_219
  have ne_q_147_q_219 : q_147 ≠ q_219 := At_old ha_149_o hq_219
  generalize eS_220 : sO S_218 q_219 3 = S_220 at hw
  have hat_x : At S_220 x 11 := by rw [← eS_220]; exact At_sO hat_x hq_219
  have ha_149 : At S_220 q_147 17 := by rw [← eS_220]; exact At_sO ha_149 hq_219
  have hr_152 : pR S_220 1109 x = some q_147 := by rw [← eS_220]; exact (pR_sO_ne (At_old hat_x_o hq_219)).trans hr_152
  have hn_150 : pN S_220 q_147 = 16 := by rw [← eS_220, pN_sO]; exact hn_150
  have nw_q_219 : q_219 ∉ pL S0 := Kp_new hkp hq_219
  have hkp : Kp S0 S_220 (fun a => a = x) := by rw [← eS_220]; exact Kp_sO hkp hq_219
  have ha_221 : At S_220 q_219 3 := by rw [← eS_220]; exact At_nO _ _ _
  have hz_222 : ∀ g, pI S_220 g q_219 = 0 := fun g => by rw [← eS_220]; exact pI_sO_new
  refine lv_dup X.1 X.2.1 dX11_init_107 rfl ?_
  refine k_v (rm := { frames := 1, cells := 1, slots := 8, locals := 40 }) (av := [.ref q_219]) X hw (va_runIN (As := []) (rest := [.ref q_219, .int 3, .ref q_147]) (cfix X) (c_X3_init l G cy S_220 _ q_219  ha_221 hz_222) ⟨(va_cnB (host := RX11) 0 X.2.2.2.1 gX11_init_X3_init_n62 rfl rfl rfl (X.2.2.2.2.2.2.2.2.1 (RX11, 62, yX3_init) (by decide +kernel)) (X.2.2.2.1 (.initialized RX3) (by decide +kernel)) (by decide +kernel) ⟨Nat.le_of_ble_eq_true rfl, Nat.le_of_ble_eq_true rfl⟩), rfl, X.2.2.2.1 (.instanceMethod yX3_init) (by decide +kernel)⟩ (pre_S X hw _) rfl rfl hl.1 rfl (lv_room (Nat.le_of_ble_eq_true rfl)) dX11_init_108 ⟨Nat.le_of_ble_eq_true rfl, Nat.le_of_ble_eq_true rfl⟩) 37 1858 (Nat.le_of_ble_eq_true rfl) (Nat.le_of_ble_eq_true rfl) (fun S2 H locs hp hw hfr hnw => ?_)
  obtain ⟨hk2, hf_q_219⟩ := hp
  generalize eq_Sc_108_223 : S2 = Sc_108_223 at hk2 hf_q_219 hw
  have hat_x_c := hat_x
  have ha_149_c := ha_149
  have ha_221_c := ha_221
  have hat_x : At Sc_108_223 x 11 := Kp_at hk2 hat_x_c
  have ha_149 : At Sc_108_223 q_147 17 := Kp_at hk2 ha_149_c
  have ha_221 : At Sc_108_223 q_219 3 := Kp_at hk2 ha_221_c
  have hr_152 : pR Sc_108_223 1109 x = some q_147 := ((hk2.2 x hat_x_c.1 ne_x_q_219).2.1 1109).trans hr_152
  have hn_150 : pN Sc_108_223 q_147 = 16 := ((hk2.2 q_147 ha_149_c.1 ne_q_147_q_219).2.2.1).trans hn_150
  have hkp : Kp S0 Sc_108_223 (fun a => a = x) := Kp_call hkp hk2 (Or.inr nw_q_219)
  have rfb_q_219 := hr_152
  refine r_aast X hw ha_149 ha_221 (by decide) (by decide) rfl rfl (by rw [hn_150]; exact vp_in_iff.mpr (by decide +kernel)) dX11_init_111 (fun H locs hw => ?_)
  generalize eS_224 : sB Sc_108_223 q_147 (va_up (pB Sc_108_223 q_147) (Int32.toNatClampNeg (3)) (some q_219)) = S_224 at hw
  have hat_x : At S_224 x 11 := by rw [← eS_224]; exact At_sB hat_x
  have ha_149 : At S_224 q_147 17 := by rw [← eS_224]; exact At_sB ha_149
  have ha_221 : At S_224 q_219 3 := by rw [← eS_224]; exact At_sB ha_221
  have hr_152 : pR S_224 1109 x = some q_147 := by rw [← eS_224, pR_sB]; exact hr_152
  have hn_150 : pN S_224 q_147 = 16 := by rw [← eS_224, pN_sB]; exact hn_150
  have hkp : Kp S0 S_224 (fun a => a = x) := by rw [← eS_224]; exact Kp_sB hkp (Or.inr nw_q_147)
  refine lv_iinc (v := 4) (lv' := [(1, .int 4), (0, .ref x)]) X.1 X.2.1 dX11_init_112 hl (k := 0) rfl (by decide) (by decide) rfl (fun ls hl => ?_)
  refine lv_goto (tgt := 93) X.1 X.2.1 dX11_init_115 (by decide) ?_
  have hFX : FXi S_224 x 4 := by rw [← eS_224, show Int32.toNatClampNeg 3 = 3 from by decide +kernel]; exact FXi_step hFX (S2 := Sc_108_223) hq_219 (by rw [eS_220]; exact hk2) hf_q_219 rfb_q_219
  exact kk q_147 _ _ _ _ hw hl hat_x ha_149 hr_152 hn_150 hkp nw_q_147 hFX
set_option maxHeartbeats 4000000 in
set_option maxRecDepth 100000 in
theorem sgX_2 {p : Program} {l : Launch} {e : Env} {s : State} {m : MethodId} {below : List Frame} {meth : Method} {c : Code} {Q : State → Prop} (G : va_G) (cy : Nat → ClassId) (S0 : PS) (x : Nat) (X : Cx p c cX11_init 2 s [.ref x].toArray wsX11_init RX11 m G cy (AS S0 s.heap.size)) (hin : meth.name = "<init>") (q_147 : Nat) (S : PS) (H : Heap) (locs : List Loc) (ls : Array Slot) (hw : Wd G cy (AS S0 s.heap.size) s.heap S H locs) (hl : lv_has ls 2 [(1, .int 4), (0, .ref x)]) (hat_x : At S x 11) (ha_149 : At S q_147 17) (hr_152 : pR S 1109 x = some q_147) (hn_150 : pN S q_147 = 16) (hkp : Kp S0 S (fun a => a = x)) (nw_q_147 : q_147 ∉ pL S0) (hFX : FXi S x 4) (kk : ∀ (q_147 : Nat) (S : PS) (H : Heap) (locs : List Loc) (ls : Array Slot), Wd G cy (AS S0 s.heap.size) s.heap S H locs → lv_has ls 2 [(1, .int 8), (0, .ref x)] → At S x 11 → At S q_147 17 → pR S 1109 x = some q_147 → pN S q_147 = 16 → Kp S0 S (fun a => a = x) → q_147 ∉ pL S0 → FXi S x 8 → W p l e ({ frames := 5, cells := 100, slots := 3000, locals := 200 }) s m [.ref x].toArray below meth c H locs 45 1910 Q (F0 m 93 ls [])) : W p l e ({ frames := 5, cells := 100, slots := 3000, locals := 200 }) s m [.ref x].toArray below meth c H locs 37 1858 Q (F0 m 93 ls []) := by
  refine lv_iload_n X.1 X.2.1 dX11_init_93 rfl (lv_at hl 0 rfl) ?_
  refine lv_bipush (v := 16) X.1 X.2.1 dX11_init_94 (by decide) ?_
  refine lv_icmp_ge (tgt := 118) X.1 X.2.1 dX11_init_96 (by decide) (fun c_96 => absurd c_96 (by decide)) (fun c_96 => ?_)
  refine lv_aload_n X.1 X.2.1 dX11_init_99 rfl (lv_at hl 1 rfl) ?_
  refine r_getR (g := 1109) X hw hat_x 9 hr_152 (by decide) rfl inn_X11_init_11 (by decide) (X.2.2.2.1 (.fieldLink RX11 55 "SilkMill" "shelf" "[LSilkMill$Place;") (by decide +kernel)) rfl (gv_1109 _ _) dX11_init_100 ?_
  refine lv_iload_n X.1 X.2.1 dX11_init_103 rfl (lv_at hl 0 rfl) ?_
  have hat_x_o := hat_x
  have ha_149_o := ha_149
  refine r_new X hw 3 1863 38 tyX3 (by decide) rfl inn_X11_init_3 tyX3_ok (X.2.2.2.1 (.classLink RX11 53 RX3) (by decide +kernel)) (X.2.2.2.1 (.instantiable RX3 5) (by decide +kernel)) (X.2.2.2.1 (.initialized RX3) (by decide +kernel)) zo_3 zd_3 (Nat.le_of_ble_eq_true rfl) (Nat.le_of_ble_eq_true rfl) (Nat.le_of_ble_eq_true rfl) (Nat.le_of_ble_eq_true rfl) dX11_init_104 (fun q_301 H hq_301 hw => ?_)
  have ne_x_q_301 : x ≠ q_301 := At_old hat_x_o hq_301
  have ne_q_147_q_301 : q_147 ≠ q_301 := At_old ha_149_o hq_301
  generalize eS_302 : sO S q_301 3 = S_302 at hw
  have hat_x : At S_302 x 11 := by rw [← eS_302]; exact At_sO hat_x hq_301
  have ha_149 : At S_302 q_147 17 := by rw [← eS_302]; exact At_sO ha_149 hq_301
  have hr_152 : pR S_302 1109 x = some q_147 := by rw [← eS_302]; exact (pR_sO_ne (At_old hat_x_o hq_301)).trans hr_152
  have hn_150 : pN S_302 q_147 = 16 := by rw [← eS_302, pN_sO]; exact hn_150
  have nw_q_301 : q_301 ∉ pL S0 := Kp_new hkp hq_301
  have hkp : Kp S0 S_302 (fun a => a = x) := by rw [← eS_302]; exact Kp_sO hkp hq_301
  have ha_303 : At S_302 q_301 3 := by rw [← eS_302]; exact At_nO _ _ _
  have hz_304 : ∀ g, pI S_302 g q_301 = 0 := fun g => by rw [← eS_302]; exact pI_sO_new
  refine lv_dup X.1 X.2.1 dX11_init_107 rfl ?_
  refine k_v (rm := { frames := 1, cells := 1, slots := 8, locals := 40 }) (av := [.ref q_301]) X hw (va_runIN (As := []) (rest := [.ref q_301, .int 4, .ref q_147]) (cfix X) (c_X3_init l G cy S_302 _ q_301  ha_303 hz_304) ⟨(va_cnB (host := RX11) 0 X.2.2.2.1 gX11_init_X3_init_n62 rfl rfl rfl (X.2.2.2.2.2.2.2.2.1 (RX11, 62, yX3_init) (by decide +kernel)) (X.2.2.2.1 (.initialized RX3) (by decide +kernel)) (by decide +kernel) ⟨Nat.le_of_ble_eq_true rfl, Nat.le_of_ble_eq_true rfl⟩), rfl, X.2.2.2.1 (.instanceMethod yX3_init) (by decide +kernel)⟩ (pre_S X hw _) rfl rfl hl.1 rfl (lv_room (Nat.le_of_ble_eq_true rfl)) dX11_init_108 ⟨Nat.le_of_ble_eq_true rfl, Nat.le_of_ble_eq_true rfl⟩) 39 1871 (Nat.le_of_ble_eq_true rfl) (Nat.le_of_ble_eq_true rfl) (fun S2 H locs hp hw hfr hnw => ?_)
  obtain ⟨hk2, hf_q_301⟩ := hp
  generalize eq_Sc_108_305 : S2 = Sc_108_305 at hk2 hf_q_301 hw
  have hat_x_c := hat_x
  have ha_149_c := ha_149
  have ha_303_c := ha_303
  have hat_x : At Sc_108_305 x 11 := Kp_at hk2 hat_x_c
  have ha_149 : At Sc_108_305 q_147 17 := Kp_at hk2 ha_149_c
  have ha_303 : At Sc_108_305 q_301 3 := Kp_at hk2 ha_303_c
  have hr_152 : pR Sc_108_305 1109 x = some q_147 := ((hk2.2 x hat_x_c.1 ne_x_q_301).2.1 1109).trans hr_152
  have hn_150 : pN Sc_108_305 q_147 = 16 := ((hk2.2 q_147 ha_149_c.1 ne_q_147_q_301).2.2.1).trans hn_150
  have hkp : Kp S0 Sc_108_305 (fun a => a = x) := Kp_call hkp hk2 (Or.inr nw_q_301)
  have rfb_q_301 := hr_152
  refine r_aast X hw ha_149 ha_303 (by decide) (by decide) rfl rfl (by rw [hn_150]; exact vp_in_iff.mpr (by decide +kernel)) dX11_init_111 (fun H locs hw => ?_)
  generalize eS_306 : sB Sc_108_305 q_147 (va_up (pB Sc_108_305 q_147) (Int32.toNatClampNeg (4)) (some q_301)) = S_306 at hw
  have hat_x : At S_306 x 11 := by rw [← eS_306]; exact At_sB hat_x
  have ha_149 : At S_306 q_147 17 := by rw [← eS_306]; exact At_sB ha_149
  have ha_303 : At S_306 q_301 3 := by rw [← eS_306]; exact At_sB ha_303
  have hr_152 : pR S_306 1109 x = some q_147 := by rw [← eS_306, pR_sB]; exact hr_152
  have hn_150 : pN S_306 q_147 = 16 := by rw [← eS_306, pN_sB]; exact hn_150
  have hkp : Kp S0 S_306 (fun a => a = x) := by rw [← eS_306]; exact Kp_sB hkp (Or.inr nw_q_147)
  refine lv_iinc (v := 5) (lv' := [(1, .int 5), (0, .ref x)]) X.1 X.2.1 dX11_init_112 hl (k := 0) rfl (by decide) (by decide) rfl (fun ls hl => ?_)
  refine lv_goto (tgt := 93) X.1 X.2.1 dX11_init_115 (by decide) ?_
  have hFX : FXi S_306 x 5 := by rw [← eS_306, show Int32.toNatClampNeg 4 = 4 from by decide +kernel]; exact FXi_step hFX (S2 := Sc_108_305) hq_301 (by rw [eS_302]; exact hk2) hf_q_301 rfb_q_301
  refine lv_iload_n X.1 X.2.1 dX11_init_93 rfl (lv_at hl 0 rfl) ?_
  refine lv_bipush (v := 16) X.1 X.2.1 dX11_init_94 (by decide) ?_
  refine lv_icmp_ge (tgt := 118) X.1 X.2.1 dX11_init_96 (by decide) (fun c_96 => absurd c_96 (by decide)) (fun c_96 => ?_)
  refine lv_aload_n X.1 X.2.1 dX11_init_99 rfl (lv_at hl 1 rfl) ?_
  refine r_getR (g := 1109) X hw hat_x 9 hr_152 (by decide) rfl inn_X11_init_11 (by decide) (X.2.2.2.1 (.fieldLink RX11 55 "SilkMill" "shelf" "[LSilkMill$Place;") (by decide +kernel)) rfl (gv_1109 _ _) dX11_init_100 ?_
  refine lv_iload_n X.1 X.2.1 dX11_init_103 rfl (lv_at hl 0 rfl) ?_
  have hat_x_o := hat_x
  have ha_149_o := ha_149
  refine r_new X hw 3 1876 40 tyX3 (by decide) rfl inn_X11_init_3 tyX3_ok (X.2.2.2.1 (.classLink RX11 53 RX3) (by decide +kernel)) (X.2.2.2.1 (.instantiable RX3 5) (by decide +kernel)) (X.2.2.2.1 (.initialized RX3) (by decide +kernel)) zo_3 zd_3 (Nat.le_of_ble_eq_true rfl) (Nat.le_of_ble_eq_true rfl) (Nat.le_of_ble_eq_true rfl) (Nat.le_of_ble_eq_true rfl) dX11_init_104 (fun q_307 H hq_307 hw => ?_)
  have ne_x_q_307 : x ≠ q_307 := At_old hat_x_o hq_307
  have ne_q_147_q_307 : q_147 ≠ q_307 := At_old ha_149_o hq_307
  generalize eS_308 : sO S_306 q_307 3 = S_308 at hw
  have hat_x : At S_308 x 11 := by rw [← eS_308]; exact At_sO hat_x hq_307
  have ha_149 : At S_308 q_147 17 := by rw [← eS_308]; exact At_sO ha_149 hq_307
  have hr_152 : pR S_308 1109 x = some q_147 := by rw [← eS_308]; exact (pR_sO_ne (At_old hat_x_o hq_307)).trans hr_152
  have hn_150 : pN S_308 q_147 = 16 := by rw [← eS_308, pN_sO]; exact hn_150
  have nw_q_307 : q_307 ∉ pL S0 := Kp_new hkp hq_307
  have hkp : Kp S0 S_308 (fun a => a = x) := by rw [← eS_308]; exact Kp_sO hkp hq_307
  have ha_309 : At S_308 q_307 3 := by rw [← eS_308]; exact At_nO _ _ _
  have hz_310 : ∀ g, pI S_308 g q_307 = 0 := fun g => by rw [← eS_308]; exact pI_sO_new
  refine lv_dup X.1 X.2.1 dX11_init_107 rfl ?_
  refine k_v (rm := { frames := 1, cells := 1, slots := 8, locals := 40 }) (av := [.ref q_307]) X hw (va_runIN (As := []) (rest := [.ref q_307, .int 5, .ref q_147]) (cfix X) (c_X3_init l G cy S_308 _ q_307  ha_309 hz_310) ⟨(va_cnB (host := RX11) 0 X.2.2.2.1 gX11_init_X3_init_n62 rfl rfl rfl (X.2.2.2.2.2.2.2.2.1 (RX11, 62, yX3_init) (by decide +kernel)) (X.2.2.2.1 (.initialized RX3) (by decide +kernel)) (by decide +kernel) ⟨Nat.le_of_ble_eq_true rfl, Nat.le_of_ble_eq_true rfl⟩), rfl, X.2.2.2.1 (.instanceMethod yX3_init) (by decide +kernel)⟩ (pre_S X hw _) rfl rfl hl.1 rfl (lv_room (Nat.le_of_ble_eq_true rfl)) dX11_init_108 ⟨Nat.le_of_ble_eq_true rfl, Nat.le_of_ble_eq_true rfl⟩) 41 1884 (Nat.le_of_ble_eq_true rfl) (Nat.le_of_ble_eq_true rfl) (fun S2 H locs hp hw hfr hnw => ?_)
  obtain ⟨hk2, hf_q_307⟩ := hp
  generalize eq_Sc_108_311 : S2 = Sc_108_311 at hk2 hf_q_307 hw
  have hat_x_c := hat_x
  have ha_149_c := ha_149
  have ha_309_c := ha_309
  have hat_x : At Sc_108_311 x 11 := Kp_at hk2 hat_x_c
  have ha_149 : At Sc_108_311 q_147 17 := Kp_at hk2 ha_149_c
  have ha_309 : At Sc_108_311 q_307 3 := Kp_at hk2 ha_309_c
  have hr_152 : pR Sc_108_311 1109 x = some q_147 := ((hk2.2 x hat_x_c.1 ne_x_q_307).2.1 1109).trans hr_152
  have hn_150 : pN Sc_108_311 q_147 = 16 := ((hk2.2 q_147 ha_149_c.1 ne_q_147_q_307).2.2.1).trans hn_150
  have hkp : Kp S0 Sc_108_311 (fun a => a = x) := Kp_call hkp hk2 (Or.inr nw_q_307)
  have rfb_q_307 := hr_152
  refine r_aast X hw ha_149 ha_309 (by decide) (by decide) rfl rfl (by rw [hn_150]; exact vp_in_iff.mpr (by decide +kernel)) dX11_init_111 (fun H locs hw => ?_)
  generalize eS_312 : sB Sc_108_311 q_147 (va_up (pB Sc_108_311 q_147) (Int32.toNatClampNeg (5)) (some q_307)) = S_312 at hw
  have hat_x : At S_312 x 11 := by rw [← eS_312]; exact At_sB hat_x
  have ha_149 : At S_312 q_147 17 := by rw [← eS_312]; exact At_sB ha_149
  have ha_309 : At S_312 q_307 3 := by rw [← eS_312]; exact At_sB ha_309
  have hr_152 : pR S_312 1109 x = some q_147 := by rw [← eS_312, pR_sB]; exact hr_152
  have hn_150 : pN S_312 q_147 = 16 := by rw [← eS_312, pN_sB]; exact hn_150
  have hkp : Kp S0 S_312 (fun a => a = x) := by rw [← eS_312]; exact Kp_sB hkp (Or.inr nw_q_147)
  refine lv_iinc (v := 6) (lv' := [(1, .int 6), (0, .ref x)]) X.1 X.2.1 dX11_init_112 hl (k := 0) rfl (by decide) (by decide) rfl (fun ls hl => ?_)
  refine lv_goto (tgt := 93) X.1 X.2.1 dX11_init_115 (by decide) ?_
  have hFX : FXi S_312 x 6 := by rw [← eS_312, show Int32.toNatClampNeg 5 = 5 from by decide +kernel]; exact FXi_step hFX (S2 := Sc_108_311) hq_307 (by rw [eS_308]; exact hk2) hf_q_307 rfb_q_307
  refine lv_iload_n X.1 X.2.1 dX11_init_93 rfl (lv_at hl 0 rfl) ?_
  refine lv_bipush (v := 16) X.1 X.2.1 dX11_init_94 (by decide) ?_
  refine lv_icmp_ge (tgt := 118) X.1 X.2.1 dX11_init_96 (by decide) (fun c_96 => absurd c_96 (by decide)) (fun c_96 => ?_)
  refine lv_aload_n X.1 X.2.1 dX11_init_99 rfl (lv_at hl 1 rfl) ?_
  refine r_getR (g := 1109) X hw hat_x 9 hr_152 (by decide) rfl inn_X11_init_11 (by decide) (X.2.2.2.1 (.fieldLink RX11 55 "SilkMill" "shelf" "[LSilkMill$Place;") (by decide +kernel)) rfl (gv_1109 _ _) dX11_init_100 ?_
  refine lv_iload_n X.1 X.2.1 dX11_init_103 rfl (lv_at hl 0 rfl) ?_
  have hat_x_o := hat_x
  have ha_149_o := ha_149
  refine r_new X hw 3 1889 42 tyX3 (by decide) rfl inn_X11_init_3 tyX3_ok (X.2.2.2.1 (.classLink RX11 53 RX3) (by decide +kernel)) (X.2.2.2.1 (.instantiable RX3 5) (by decide +kernel)) (X.2.2.2.1 (.initialized RX3) (by decide +kernel)) zo_3 zd_3 (Nat.le_of_ble_eq_true rfl) (Nat.le_of_ble_eq_true rfl) (Nat.le_of_ble_eq_true rfl) (Nat.le_of_ble_eq_true rfl) dX11_init_104 (fun q_313 H hq_313 hw => ?_)
  have ne_x_q_313 : x ≠ q_313 := At_old hat_x_o hq_313
  have ne_q_147_q_313 : q_147 ≠ q_313 := At_old ha_149_o hq_313
  generalize eS_314 : sO S_312 q_313 3 = S_314 at hw
  have hat_x : At S_314 x 11 := by rw [← eS_314]; exact At_sO hat_x hq_313
  have ha_149 : At S_314 q_147 17 := by rw [← eS_314]; exact At_sO ha_149 hq_313
  have hr_152 : pR S_314 1109 x = some q_147 := by rw [← eS_314]; exact (pR_sO_ne (At_old hat_x_o hq_313)).trans hr_152
  have hn_150 : pN S_314 q_147 = 16 := by rw [← eS_314, pN_sO]; exact hn_150
  have nw_q_313 : q_313 ∉ pL S0 := Kp_new hkp hq_313
  have hkp : Kp S0 S_314 (fun a => a = x) := by rw [← eS_314]; exact Kp_sO hkp hq_313
  have ha_315 : At S_314 q_313 3 := by rw [← eS_314]; exact At_nO _ _ _
  have hz_316 : ∀ g, pI S_314 g q_313 = 0 := fun g => by rw [← eS_314]; exact pI_sO_new
  refine lv_dup X.1 X.2.1 dX11_init_107 rfl ?_
  refine k_v (rm := { frames := 1, cells := 1, slots := 8, locals := 40 }) (av := [.ref q_313]) X hw (va_runIN (As := []) (rest := [.ref q_313, .int 6, .ref q_147]) (cfix X) (c_X3_init l G cy S_314 _ q_313  ha_315 hz_316) ⟨(va_cnB (host := RX11) 0 X.2.2.2.1 gX11_init_X3_init_n62 rfl rfl rfl (X.2.2.2.2.2.2.2.2.1 (RX11, 62, yX3_init) (by decide +kernel)) (X.2.2.2.1 (.initialized RX3) (by decide +kernel)) (by decide +kernel) ⟨Nat.le_of_ble_eq_true rfl, Nat.le_of_ble_eq_true rfl⟩), rfl, X.2.2.2.1 (.instanceMethod yX3_init) (by decide +kernel)⟩ (pre_S X hw _) rfl rfl hl.1 rfl (lv_room (Nat.le_of_ble_eq_true rfl)) dX11_init_108 ⟨Nat.le_of_ble_eq_true rfl, Nat.le_of_ble_eq_true rfl⟩) 43 1897 (Nat.le_of_ble_eq_true rfl) (Nat.le_of_ble_eq_true rfl) (fun S2 H locs hp hw hfr hnw => ?_)
  obtain ⟨hk2, hf_q_313⟩ := hp
  generalize eq_Sc_108_317 : S2 = Sc_108_317 at hk2 hf_q_313 hw
  have hat_x_c := hat_x
  have ha_149_c := ha_149
  have ha_315_c := ha_315
  have hat_x : At Sc_108_317 x 11 := Kp_at hk2 hat_x_c
  have ha_149 : At Sc_108_317 q_147 17 := Kp_at hk2 ha_149_c
  have ha_315 : At Sc_108_317 q_313 3 := Kp_at hk2 ha_315_c
  have hr_152 : pR Sc_108_317 1109 x = some q_147 := ((hk2.2 x hat_x_c.1 ne_x_q_313).2.1 1109).trans hr_152
  have hn_150 : pN Sc_108_317 q_147 = 16 := ((hk2.2 q_147 ha_149_c.1 ne_q_147_q_313).2.2.1).trans hn_150
  have hkp : Kp S0 Sc_108_317 (fun a => a = x) := Kp_call hkp hk2 (Or.inr nw_q_313)
  have rfb_q_313 := hr_152
  refine r_aast X hw ha_149 ha_315 (by decide) (by decide) rfl rfl (by rw [hn_150]; exact vp_in_iff.mpr (by decide +kernel)) dX11_init_111 (fun H locs hw => ?_)
  generalize eS_318 : sB Sc_108_317 q_147 (va_up (pB Sc_108_317 q_147) (Int32.toNatClampNeg (6)) (some q_313)) = S_318 at hw
  have hat_x : At S_318 x 11 := by rw [← eS_318]; exact At_sB hat_x
  have ha_149 : At S_318 q_147 17 := by rw [← eS_318]; exact At_sB ha_149
  have ha_315 : At S_318 q_313 3 := by rw [← eS_318]; exact At_sB ha_315
  have hr_152 : pR S_318 1109 x = some q_147 := by rw [← eS_318, pR_sB]; exact hr_152
  have hn_150 : pN S_318 q_147 = 16 := by rw [← eS_318, pN_sB]; exact hn_150
  have hkp : Kp S0 S_318 (fun a => a = x) := by rw [← eS_318]; exact Kp_sB hkp (Or.inr nw_q_147)
  refine lv_iinc (v := 7) (lv' := [(1, .int 7), (0, .ref x)]) X.1 X.2.1 dX11_init_112 hl (k := 0) rfl (by decide) (by decide) rfl (fun ls hl => ?_)
  refine lv_goto (tgt := 93) X.1 X.2.1 dX11_init_115 (by decide) ?_
  have hFX : FXi S_318 x 7 := by rw [← eS_318, show Int32.toNatClampNeg 6 = 6 from by decide +kernel]; exact FXi_step hFX (S2 := Sc_108_317) hq_313 (by rw [eS_314]; exact hk2) hf_q_313 rfb_q_313
  refine lv_iload_n X.1 X.2.1 dX11_init_93 rfl (lv_at hl 0 rfl) ?_
  refine lv_bipush (v := 16) X.1 X.2.1 dX11_init_94 (by decide) ?_
  refine lv_icmp_ge (tgt := 118) X.1 X.2.1 dX11_init_96 (by decide) (fun c_96 => absurd c_96 (by decide)) (fun c_96 => ?_)
  refine lv_aload_n X.1 X.2.1 dX11_init_99 rfl (lv_at hl 1 rfl) ?_
  refine r_getR (g := 1109) X hw hat_x 9 hr_152 (by decide) rfl inn_X11_init_11 (by decide) (X.2.2.2.1 (.fieldLink RX11 55 "SilkMill" "shelf" "[LSilkMill$Place;") (by decide +kernel)) rfl (gv_1109 _ _) dX11_init_100 ?_
  refine lv_iload_n X.1 X.2.1 dX11_init_103 rfl (lv_at hl 0 rfl) ?_
  have hat_x_o := hat_x
  have ha_149_o := ha_149
  refine r_new X hw 3 1902 44 tyX3 (by decide) rfl inn_X11_init_3 tyX3_ok (X.2.2.2.1 (.classLink RX11 53 RX3) (by decide +kernel)) (X.2.2.2.1 (.instantiable RX3 5) (by decide +kernel)) (X.2.2.2.1 (.initialized RX3) (by decide +kernel)) zo_3 zd_3 (Nat.le_of_ble_eq_true rfl) (Nat.le_of_ble_eq_true rfl) (Nat.le_of_ble_eq_true rfl) (Nat.le_of_ble_eq_true rfl) dX11_init_104 (fun q_319 H hq_319 hw => ?_)
  have ne_x_q_319 : x ≠ q_319 := At_old hat_x_o hq_319
  have ne_q_147_q_319 : q_147 ≠ q_319 := At_old ha_149_o hq_319
  generalize eS_320 : sO S_318 q_319 3 = S_320 at hw
  have hat_x : At S_320 x 11 := by rw [← eS_320]; exact At_sO hat_x hq_319
  have ha_149 : At S_320 q_147 17 := by rw [← eS_320]; exact At_sO ha_149 hq_319
  have hr_152 : pR S_320 1109 x = some q_147 := by rw [← eS_320]; exact (pR_sO_ne (At_old hat_x_o hq_319)).trans hr_152
  have hn_150 : pN S_320 q_147 = 16 := by rw [← eS_320, pN_sO]; exact hn_150
  have nw_q_319 : q_319 ∉ pL S0 := Kp_new hkp hq_319
  have hkp : Kp S0 S_320 (fun a => a = x) := by rw [← eS_320]; exact Kp_sO hkp hq_319
  have ha_321 : At S_320 q_319 3 := by rw [← eS_320]; exact At_nO _ _ _
  have hz_322 : ∀ g, pI S_320 g q_319 = 0 := fun g => by rw [← eS_320]; exact pI_sO_new
  refine lv_dup X.1 X.2.1 dX11_init_107 rfl ?_
  refine k_v (rm := { frames := 1, cells := 1, slots := 8, locals := 40 }) (av := [.ref q_319]) X hw (va_runIN (As := []) (rest := [.ref q_319, .int 7, .ref q_147]) (cfix X) (c_X3_init l G cy S_320 _ q_319  ha_321 hz_322) ⟨(va_cnB (host := RX11) 0 X.2.2.2.1 gX11_init_X3_init_n62 rfl rfl rfl (X.2.2.2.2.2.2.2.2.1 (RX11, 62, yX3_init) (by decide +kernel)) (X.2.2.2.1 (.initialized RX3) (by decide +kernel)) (by decide +kernel) ⟨Nat.le_of_ble_eq_true rfl, Nat.le_of_ble_eq_true rfl⟩), rfl, X.2.2.2.1 (.instanceMethod yX3_init) (by decide +kernel)⟩ (pre_S X hw _) rfl rfl hl.1 rfl (lv_room (Nat.le_of_ble_eq_true rfl)) dX11_init_108 ⟨Nat.le_of_ble_eq_true rfl, Nat.le_of_ble_eq_true rfl⟩) 45 1910 (Nat.le_of_ble_eq_true rfl) (Nat.le_of_ble_eq_true rfl) (fun S2 H locs hp hw hfr hnw => ?_)
  obtain ⟨hk2, hf_q_319⟩ := hp
  generalize eq_Sc_108_323 : S2 = Sc_108_323 at hk2 hf_q_319 hw
  have hat_x_c := hat_x
  have ha_149_c := ha_149
  have ha_321_c := ha_321
  have hat_x : At Sc_108_323 x 11 := Kp_at hk2 hat_x_c
  have ha_149 : At Sc_108_323 q_147 17 := Kp_at hk2 ha_149_c
  have ha_321 : At Sc_108_323 q_319 3 := Kp_at hk2 ha_321_c
  have hr_152 : pR Sc_108_323 1109 x = some q_147 := ((hk2.2 x hat_x_c.1 ne_x_q_319).2.1 1109).trans hr_152
  have hn_150 : pN Sc_108_323 q_147 = 16 := ((hk2.2 q_147 ha_149_c.1 ne_q_147_q_319).2.2.1).trans hn_150
  have hkp : Kp S0 Sc_108_323 (fun a => a = x) := Kp_call hkp hk2 (Or.inr nw_q_319)
  have rfb_q_319 := hr_152
  refine r_aast X hw ha_149 ha_321 (by decide) (by decide) rfl rfl (by rw [hn_150]; exact vp_in_iff.mpr (by decide +kernel)) dX11_init_111 (fun H locs hw => ?_)
  generalize eS_324 : sB Sc_108_323 q_147 (va_up (pB Sc_108_323 q_147) (Int32.toNatClampNeg (7)) (some q_319)) = S_324 at hw
  have hat_x : At S_324 x 11 := by rw [← eS_324]; exact At_sB hat_x
  have ha_149 : At S_324 q_147 17 := by rw [← eS_324]; exact At_sB ha_149
  have ha_321 : At S_324 q_319 3 := by rw [← eS_324]; exact At_sB ha_321
  have hr_152 : pR S_324 1109 x = some q_147 := by rw [← eS_324, pR_sB]; exact hr_152
  have hn_150 : pN S_324 q_147 = 16 := by rw [← eS_324, pN_sB]; exact hn_150
  have hkp : Kp S0 S_324 (fun a => a = x) := by rw [← eS_324]; exact Kp_sB hkp (Or.inr nw_q_147)
  refine lv_iinc (v := 8) (lv' := [(1, .int 8), (0, .ref x)]) X.1 X.2.1 dX11_init_112 hl (k := 0) rfl (by decide) (by decide) rfl (fun ls hl => ?_)
  refine lv_goto (tgt := 93) X.1 X.2.1 dX11_init_115 (by decide) ?_
  have hFX : FXi S_324 x 8 := by rw [← eS_324, show Int32.toNatClampNeg 7 = 7 from by decide +kernel]; exact FXi_step hFX (S2 := Sc_108_323) hq_319 (by rw [eS_320]; exact hk2) hf_q_319 rfb_q_319
  exact kk q_147 _ _ _ _ hw hl hat_x ha_149 hr_152 hn_150 hkp nw_q_147 hFX
set_option maxHeartbeats 4000000 in
set_option maxRecDepth 100000 in
theorem sgX_3 {p : Program} {l : Launch} {e : Env} {s : State} {m : MethodId} {below : List Frame} {meth : Method} {c : Code} {Q : State → Prop} (G : va_G) (cy : Nat → ClassId) (S0 : PS) (x : Nat) (X : Cx p c cX11_init 2 s [.ref x].toArray wsX11_init RX11 m G cy (AS S0 s.heap.size)) (hin : meth.name = "<init>") (q_147 : Nat) (S : PS) (H : Heap) (locs : List Loc) (ls : Array Slot) (hw : Wd G cy (AS S0 s.heap.size) s.heap S H locs) (hl : lv_has ls 2 [(1, .int 8), (0, .ref x)]) (hat_x : At S x 11) (ha_149 : At S q_147 17) (hr_152 : pR S 1109 x = some q_147) (hn_150 : pN S q_147 = 16) (hkp : Kp S0 S (fun a => a = x)) (nw_q_147 : q_147 ∉ pL S0) (hFX : FXi S x 8) (kk : ∀ (q_147 : Nat) (S : PS) (H : Heap) (locs : List Loc) (ls : Array Slot), Wd G cy (AS S0 s.heap.size) s.heap S H locs → lv_has ls 2 [(1, .int 12), (0, .ref x)] → At S x 11 → At S q_147 17 → pR S 1109 x = some q_147 → pN S q_147 = 16 → Kp S0 S (fun a => a = x) → q_147 ∉ pL S0 → FXi S x 12 → W p l e ({ frames := 5, cells := 100, slots := 3000, locals := 200 }) s m [.ref x].toArray below meth c H locs 53 1962 Q (F0 m 93 ls [])) : W p l e ({ frames := 5, cells := 100, slots := 3000, locals := 200 }) s m [.ref x].toArray below meth c H locs 45 1910 Q (F0 m 93 ls []) := by
  refine lv_iload_n X.1 X.2.1 dX11_init_93 rfl (lv_at hl 0 rfl) ?_
  refine lv_bipush (v := 16) X.1 X.2.1 dX11_init_94 (by decide) ?_
  refine lv_icmp_ge (tgt := 118) X.1 X.2.1 dX11_init_96 (by decide) (fun c_96 => absurd c_96 (by decide)) (fun c_96 => ?_)
  refine lv_aload_n X.1 X.2.1 dX11_init_99 rfl (lv_at hl 1 rfl) ?_
  refine r_getR (g := 1109) X hw hat_x 9 hr_152 (by decide) rfl inn_X11_init_11 (by decide) (X.2.2.2.1 (.fieldLink RX11 55 "SilkMill" "shelf" "[LSilkMill$Place;") (by decide +kernel)) rfl (gv_1109 _ _) dX11_init_100 ?_
  refine lv_iload_n X.1 X.2.1 dX11_init_103 rfl (lv_at hl 0 rfl) ?_
  have hat_x_o := hat_x
  have ha_149_o := ha_149
  refine r_new X hw 3 1915 46 tyX3 (by decide) rfl inn_X11_init_3 tyX3_ok (X.2.2.2.1 (.classLink RX11 53 RX3) (by decide +kernel)) (X.2.2.2.1 (.instantiable RX3 5) (by decide +kernel)) (X.2.2.2.1 (.initialized RX3) (by decide +kernel)) zo_3 zd_3 (Nat.le_of_ble_eq_true rfl) (Nat.le_of_ble_eq_true rfl) (Nat.le_of_ble_eq_true rfl) (Nat.le_of_ble_eq_true rfl) dX11_init_104 (fun q_401 H hq_401 hw => ?_)
  have ne_x_q_401 : x ≠ q_401 := At_old hat_x_o hq_401
  have ne_q_147_q_401 : q_147 ≠ q_401 := At_old ha_149_o hq_401
  generalize eS_402 : sO S q_401 3 = S_402 at hw
  have hat_x : At S_402 x 11 := by rw [← eS_402]; exact At_sO hat_x hq_401
  have ha_149 : At S_402 q_147 17 := by rw [← eS_402]; exact At_sO ha_149 hq_401
  have hr_152 : pR S_402 1109 x = some q_147 := by rw [← eS_402]; exact (pR_sO_ne (At_old hat_x_o hq_401)).trans hr_152
  have hn_150 : pN S_402 q_147 = 16 := by rw [← eS_402, pN_sO]; exact hn_150
  have nw_q_401 : q_401 ∉ pL S0 := Kp_new hkp hq_401
  have hkp : Kp S0 S_402 (fun a => a = x) := by rw [← eS_402]; exact Kp_sO hkp hq_401
  have ha_403 : At S_402 q_401 3 := by rw [← eS_402]; exact At_nO _ _ _
  have hz_404 : ∀ g, pI S_402 g q_401 = 0 := fun g => by rw [← eS_402]; exact pI_sO_new
  refine lv_dup X.1 X.2.1 dX11_init_107 rfl ?_
  refine k_v (rm := { frames := 1, cells := 1, slots := 8, locals := 40 }) (av := [.ref q_401]) X hw (va_runIN (As := []) (rest := [.ref q_401, .int 8, .ref q_147]) (cfix X) (c_X3_init l G cy S_402 _ q_401  ha_403 hz_404) ⟨(va_cnB (host := RX11) 0 X.2.2.2.1 gX11_init_X3_init_n62 rfl rfl rfl (X.2.2.2.2.2.2.2.2.1 (RX11, 62, yX3_init) (by decide +kernel)) (X.2.2.2.1 (.initialized RX3) (by decide +kernel)) (by decide +kernel) ⟨Nat.le_of_ble_eq_true rfl, Nat.le_of_ble_eq_true rfl⟩), rfl, X.2.2.2.1 (.instanceMethod yX3_init) (by decide +kernel)⟩ (pre_S X hw _) rfl rfl hl.1 rfl (lv_room (Nat.le_of_ble_eq_true rfl)) dX11_init_108 ⟨Nat.le_of_ble_eq_true rfl, Nat.le_of_ble_eq_true rfl⟩) 47 1923 (Nat.le_of_ble_eq_true rfl) (Nat.le_of_ble_eq_true rfl) (fun S2 H locs hp hw hfr hnw => ?_)
  obtain ⟨hk2, hf_q_401⟩ := hp
  generalize eq_Sc_108_405 : S2 = Sc_108_405 at hk2 hf_q_401 hw
  have hat_x_c := hat_x
  have ha_149_c := ha_149
  have ha_403_c := ha_403
  have hat_x : At Sc_108_405 x 11 := Kp_at hk2 hat_x_c
  have ha_149 : At Sc_108_405 q_147 17 := Kp_at hk2 ha_149_c
  have ha_403 : At Sc_108_405 q_401 3 := Kp_at hk2 ha_403_c
  have hr_152 : pR Sc_108_405 1109 x = some q_147 := ((hk2.2 x hat_x_c.1 ne_x_q_401).2.1 1109).trans hr_152
  have hn_150 : pN Sc_108_405 q_147 = 16 := ((hk2.2 q_147 ha_149_c.1 ne_q_147_q_401).2.2.1).trans hn_150
  have hkp : Kp S0 Sc_108_405 (fun a => a = x) := Kp_call hkp hk2 (Or.inr nw_q_401)
  have rfb_q_401 := hr_152
  refine r_aast X hw ha_149 ha_403 (by decide) (by decide) rfl rfl (by rw [hn_150]; exact vp_in_iff.mpr (by decide +kernel)) dX11_init_111 (fun H locs hw => ?_)
  generalize eS_406 : sB Sc_108_405 q_147 (va_up (pB Sc_108_405 q_147) (Int32.toNatClampNeg (8)) (some q_401)) = S_406 at hw
  have hat_x : At S_406 x 11 := by rw [← eS_406]; exact At_sB hat_x
  have ha_149 : At S_406 q_147 17 := by rw [← eS_406]; exact At_sB ha_149
  have ha_403 : At S_406 q_401 3 := by rw [← eS_406]; exact At_sB ha_403
  have hr_152 : pR S_406 1109 x = some q_147 := by rw [← eS_406, pR_sB]; exact hr_152
  have hn_150 : pN S_406 q_147 = 16 := by rw [← eS_406, pN_sB]; exact hn_150
  have hkp : Kp S0 S_406 (fun a => a = x) := by rw [← eS_406]; exact Kp_sB hkp (Or.inr nw_q_147)
  refine lv_iinc (v := 9) (lv' := [(1, .int 9), (0, .ref x)]) X.1 X.2.1 dX11_init_112 hl (k := 0) rfl (by decide) (by decide) rfl (fun ls hl => ?_)
  refine lv_goto (tgt := 93) X.1 X.2.1 dX11_init_115 (by decide) ?_
  have hFX : FXi S_406 x 9 := by rw [← eS_406, show Int32.toNatClampNeg 8 = 8 from by decide +kernel]; exact FXi_step hFX (S2 := Sc_108_405) hq_401 (by rw [eS_402]; exact hk2) hf_q_401 rfb_q_401
  refine lv_iload_n X.1 X.2.1 dX11_init_93 rfl (lv_at hl 0 rfl) ?_
  refine lv_bipush (v := 16) X.1 X.2.1 dX11_init_94 (by decide) ?_
  refine lv_icmp_ge (tgt := 118) X.1 X.2.1 dX11_init_96 (by decide) (fun c_96 => absurd c_96 (by decide)) (fun c_96 => ?_)
  refine lv_aload_n X.1 X.2.1 dX11_init_99 rfl (lv_at hl 1 rfl) ?_
  refine r_getR (g := 1109) X hw hat_x 9 hr_152 (by decide) rfl inn_X11_init_11 (by decide) (X.2.2.2.1 (.fieldLink RX11 55 "SilkMill" "shelf" "[LSilkMill$Place;") (by decide +kernel)) rfl (gv_1109 _ _) dX11_init_100 ?_
  refine lv_iload_n X.1 X.2.1 dX11_init_103 rfl (lv_at hl 0 rfl) ?_
  have hat_x_o := hat_x
  have ha_149_o := ha_149
  refine r_new X hw 3 1928 48 tyX3 (by decide) rfl inn_X11_init_3 tyX3_ok (X.2.2.2.1 (.classLink RX11 53 RX3) (by decide +kernel)) (X.2.2.2.1 (.instantiable RX3 5) (by decide +kernel)) (X.2.2.2.1 (.initialized RX3) (by decide +kernel)) zo_3 zd_3 (Nat.le_of_ble_eq_true rfl) (Nat.le_of_ble_eq_true rfl) (Nat.le_of_ble_eq_true rfl) (Nat.le_of_ble_eq_true rfl) dX11_init_104 (fun q_407 H hq_407 hw => ?_)
  have ne_x_q_407 : x ≠ q_407 := At_old hat_x_o hq_407
  have ne_q_147_q_407 : q_147 ≠ q_407 := At_old ha_149_o hq_407
  generalize eS_408 : sO S_406 q_407 3 = S_408 at hw
  have hat_x : At S_408 x 11 := by rw [← eS_408]; exact At_sO hat_x hq_407
  have ha_149 : At S_408 q_147 17 := by rw [← eS_408]; exact At_sO ha_149 hq_407
  have hr_152 : pR S_408 1109 x = some q_147 := by rw [← eS_408]; exact (pR_sO_ne (At_old hat_x_o hq_407)).trans hr_152
  have hn_150 : pN S_408 q_147 = 16 := by rw [← eS_408, pN_sO]; exact hn_150
  have nw_q_407 : q_407 ∉ pL S0 := Kp_new hkp hq_407
  have hkp : Kp S0 S_408 (fun a => a = x) := by rw [← eS_408]; exact Kp_sO hkp hq_407
  have ha_409 : At S_408 q_407 3 := by rw [← eS_408]; exact At_nO _ _ _
  have hz_410 : ∀ g, pI S_408 g q_407 = 0 := fun g => by rw [← eS_408]; exact pI_sO_new
  refine lv_dup X.1 X.2.1 dX11_init_107 rfl ?_
  refine k_v (rm := { frames := 1, cells := 1, slots := 8, locals := 40 }) (av := [.ref q_407]) X hw (va_runIN (As := []) (rest := [.ref q_407, .int 9, .ref q_147]) (cfix X) (c_X3_init l G cy S_408 _ q_407  ha_409 hz_410) ⟨(va_cnB (host := RX11) 0 X.2.2.2.1 gX11_init_X3_init_n62 rfl rfl rfl (X.2.2.2.2.2.2.2.2.1 (RX11, 62, yX3_init) (by decide +kernel)) (X.2.2.2.1 (.initialized RX3) (by decide +kernel)) (by decide +kernel) ⟨Nat.le_of_ble_eq_true rfl, Nat.le_of_ble_eq_true rfl⟩), rfl, X.2.2.2.1 (.instanceMethod yX3_init) (by decide +kernel)⟩ (pre_S X hw _) rfl rfl hl.1 rfl (lv_room (Nat.le_of_ble_eq_true rfl)) dX11_init_108 ⟨Nat.le_of_ble_eq_true rfl, Nat.le_of_ble_eq_true rfl⟩) 49 1936 (Nat.le_of_ble_eq_true rfl) (Nat.le_of_ble_eq_true rfl) (fun S2 H locs hp hw hfr hnw => ?_)
  obtain ⟨hk2, hf_q_407⟩ := hp
  generalize eq_Sc_108_411 : S2 = Sc_108_411 at hk2 hf_q_407 hw
  have hat_x_c := hat_x
  have ha_149_c := ha_149
  have ha_409_c := ha_409
  have hat_x : At Sc_108_411 x 11 := Kp_at hk2 hat_x_c
  have ha_149 : At Sc_108_411 q_147 17 := Kp_at hk2 ha_149_c
  have ha_409 : At Sc_108_411 q_407 3 := Kp_at hk2 ha_409_c
  have hr_152 : pR Sc_108_411 1109 x = some q_147 := ((hk2.2 x hat_x_c.1 ne_x_q_407).2.1 1109).trans hr_152
  have hn_150 : pN Sc_108_411 q_147 = 16 := ((hk2.2 q_147 ha_149_c.1 ne_q_147_q_407).2.2.1).trans hn_150
  have hkp : Kp S0 Sc_108_411 (fun a => a = x) := Kp_call hkp hk2 (Or.inr nw_q_407)
  have rfb_q_407 := hr_152
  refine r_aast X hw ha_149 ha_409 (by decide) (by decide) rfl rfl (by rw [hn_150]; exact vp_in_iff.mpr (by decide +kernel)) dX11_init_111 (fun H locs hw => ?_)
  generalize eS_412 : sB Sc_108_411 q_147 (va_up (pB Sc_108_411 q_147) (Int32.toNatClampNeg (9)) (some q_407)) = S_412 at hw
  have hat_x : At S_412 x 11 := by rw [← eS_412]; exact At_sB hat_x
  have ha_149 : At S_412 q_147 17 := by rw [← eS_412]; exact At_sB ha_149
  have ha_409 : At S_412 q_407 3 := by rw [← eS_412]; exact At_sB ha_409
  have hr_152 : pR S_412 1109 x = some q_147 := by rw [← eS_412, pR_sB]; exact hr_152
  have hn_150 : pN S_412 q_147 = 16 := by rw [← eS_412, pN_sB]; exact hn_150
  have hkp : Kp S0 S_412 (fun a => a = x) := by rw [← eS_412]; exact Kp_sB hkp (Or.inr nw_q_147)
  refine lv_iinc (v := 10) (lv' := [(1, .int 10), (0, .ref x)]) X.1 X.2.1 dX11_init_112 hl (k := 0) rfl (by decide) (by decide) rfl (fun ls hl => ?_)
  refine lv_goto (tgt := 93) X.1 X.2.1 dX11_init_115 (by decide) ?_
  have hFX : FXi S_412 x 10 := by rw [← eS_412, show Int32.toNatClampNeg 9 = 9 from by decide +kernel]; exact FXi_step hFX (S2 := Sc_108_411) hq_407 (by rw [eS_408]; exact hk2) hf_q_407 rfb_q_407
  refine lv_iload_n X.1 X.2.1 dX11_init_93 rfl (lv_at hl 0 rfl) ?_
  refine lv_bipush (v := 16) X.1 X.2.1 dX11_init_94 (by decide) ?_
  refine lv_icmp_ge (tgt := 118) X.1 X.2.1 dX11_init_96 (by decide) (fun c_96 => absurd c_96 (by decide)) (fun c_96 => ?_)
  refine lv_aload_n X.1 X.2.1 dX11_init_99 rfl (lv_at hl 1 rfl) ?_
  refine r_getR (g := 1109) X hw hat_x 9 hr_152 (by decide) rfl inn_X11_init_11 (by decide) (X.2.2.2.1 (.fieldLink RX11 55 "SilkMill" "shelf" "[LSilkMill$Place;") (by decide +kernel)) rfl (gv_1109 _ _) dX11_init_100 ?_
  refine lv_iload_n X.1 X.2.1 dX11_init_103 rfl (lv_at hl 0 rfl) ?_
  have hat_x_o := hat_x
  have ha_149_o := ha_149
  refine r_new X hw 3 1941 50 tyX3 (by decide) rfl inn_X11_init_3 tyX3_ok (X.2.2.2.1 (.classLink RX11 53 RX3) (by decide +kernel)) (X.2.2.2.1 (.instantiable RX3 5) (by decide +kernel)) (X.2.2.2.1 (.initialized RX3) (by decide +kernel)) zo_3 zd_3 (Nat.le_of_ble_eq_true rfl) (Nat.le_of_ble_eq_true rfl) (Nat.le_of_ble_eq_true rfl) (Nat.le_of_ble_eq_true rfl) dX11_init_104 (fun q_413 H hq_413 hw => ?_)
  have ne_x_q_413 : x ≠ q_413 := At_old hat_x_o hq_413
  have ne_q_147_q_413 : q_147 ≠ q_413 := At_old ha_149_o hq_413
  generalize eS_414 : sO S_412 q_413 3 = S_414 at hw
  have hat_x : At S_414 x 11 := by rw [← eS_414]; exact At_sO hat_x hq_413
  have ha_149 : At S_414 q_147 17 := by rw [← eS_414]; exact At_sO ha_149 hq_413
  have hr_152 : pR S_414 1109 x = some q_147 := by rw [← eS_414]; exact (pR_sO_ne (At_old hat_x_o hq_413)).trans hr_152
  have hn_150 : pN S_414 q_147 = 16 := by rw [← eS_414, pN_sO]; exact hn_150
  have nw_q_413 : q_413 ∉ pL S0 := Kp_new hkp hq_413
  have hkp : Kp S0 S_414 (fun a => a = x) := by rw [← eS_414]; exact Kp_sO hkp hq_413
  have ha_415 : At S_414 q_413 3 := by rw [← eS_414]; exact At_nO _ _ _
  have hz_416 : ∀ g, pI S_414 g q_413 = 0 := fun g => by rw [← eS_414]; exact pI_sO_new
  refine lv_dup X.1 X.2.1 dX11_init_107 rfl ?_
  refine k_v (rm := { frames := 1, cells := 1, slots := 8, locals := 40 }) (av := [.ref q_413]) X hw (va_runIN (As := []) (rest := [.ref q_413, .int 10, .ref q_147]) (cfix X) (c_X3_init l G cy S_414 _ q_413  ha_415 hz_416) ⟨(va_cnB (host := RX11) 0 X.2.2.2.1 gX11_init_X3_init_n62 rfl rfl rfl (X.2.2.2.2.2.2.2.2.1 (RX11, 62, yX3_init) (by decide +kernel)) (X.2.2.2.1 (.initialized RX3) (by decide +kernel)) (by decide +kernel) ⟨Nat.le_of_ble_eq_true rfl, Nat.le_of_ble_eq_true rfl⟩), rfl, X.2.2.2.1 (.instanceMethod yX3_init) (by decide +kernel)⟩ (pre_S X hw _) rfl rfl hl.1 rfl (lv_room (Nat.le_of_ble_eq_true rfl)) dX11_init_108 ⟨Nat.le_of_ble_eq_true rfl, Nat.le_of_ble_eq_true rfl⟩) 51 1949 (Nat.le_of_ble_eq_true rfl) (Nat.le_of_ble_eq_true rfl) (fun S2 H locs hp hw hfr hnw => ?_)
  obtain ⟨hk2, hf_q_413⟩ := hp
  generalize eq_Sc_108_417 : S2 = Sc_108_417 at hk2 hf_q_413 hw
  have hat_x_c := hat_x
  have ha_149_c := ha_149
  have ha_415_c := ha_415
  have hat_x : At Sc_108_417 x 11 := Kp_at hk2 hat_x_c
  have ha_149 : At Sc_108_417 q_147 17 := Kp_at hk2 ha_149_c
  have ha_415 : At Sc_108_417 q_413 3 := Kp_at hk2 ha_415_c
  have hr_152 : pR Sc_108_417 1109 x = some q_147 := ((hk2.2 x hat_x_c.1 ne_x_q_413).2.1 1109).trans hr_152
  have hn_150 : pN Sc_108_417 q_147 = 16 := ((hk2.2 q_147 ha_149_c.1 ne_q_147_q_413).2.2.1).trans hn_150
  have hkp : Kp S0 Sc_108_417 (fun a => a = x) := Kp_call hkp hk2 (Or.inr nw_q_413)
  have rfb_q_413 := hr_152
  refine r_aast X hw ha_149 ha_415 (by decide) (by decide) rfl rfl (by rw [hn_150]; exact vp_in_iff.mpr (by decide +kernel)) dX11_init_111 (fun H locs hw => ?_)
  generalize eS_418 : sB Sc_108_417 q_147 (va_up (pB Sc_108_417 q_147) (Int32.toNatClampNeg (10)) (some q_413)) = S_418 at hw
  have hat_x : At S_418 x 11 := by rw [← eS_418]; exact At_sB hat_x
  have ha_149 : At S_418 q_147 17 := by rw [← eS_418]; exact At_sB ha_149
  have ha_415 : At S_418 q_413 3 := by rw [← eS_418]; exact At_sB ha_415
  have hr_152 : pR S_418 1109 x = some q_147 := by rw [← eS_418, pR_sB]; exact hr_152
  have hn_150 : pN S_418 q_147 = 16 := by rw [← eS_418, pN_sB]; exact hn_150
  have hkp : Kp S0 S_418 (fun a => a = x) := by rw [← eS_418]; exact Kp_sB hkp (Or.inr nw_q_147)
  refine lv_iinc (v := 11) (lv' := [(1, .int 11), (0, .ref x)]) X.1 X.2.1 dX11_init_112 hl (k := 0) rfl (by decide) (by decide) rfl (fun ls hl => ?_)
  refine lv_goto (tgt := 93) X.1 X.2.1 dX11_init_115 (by decide) ?_
  have hFX : FXi S_418 x 11 := by rw [← eS_418, show Int32.toNatClampNeg 10 = 10 from by decide +kernel]; exact FXi_step hFX (S2 := Sc_108_417) hq_413 (by rw [eS_414]; exact hk2) hf_q_413 rfb_q_413
  refine lv_iload_n X.1 X.2.1 dX11_init_93 rfl (lv_at hl 0 rfl) ?_
  refine lv_bipush (v := 16) X.1 X.2.1 dX11_init_94 (by decide) ?_
  refine lv_icmp_ge (tgt := 118) X.1 X.2.1 dX11_init_96 (by decide) (fun c_96 => absurd c_96 (by decide)) (fun c_96 => ?_)
  refine lv_aload_n X.1 X.2.1 dX11_init_99 rfl (lv_at hl 1 rfl) ?_
  refine r_getR (g := 1109) X hw hat_x 9 hr_152 (by decide) rfl inn_X11_init_11 (by decide) (X.2.2.2.1 (.fieldLink RX11 55 "SilkMill" "shelf" "[LSilkMill$Place;") (by decide +kernel)) rfl (gv_1109 _ _) dX11_init_100 ?_
  refine lv_iload_n X.1 X.2.1 dX11_init_103 rfl (lv_at hl 0 rfl) ?_
  have hat_x_o := hat_x
  have ha_149_o := ha_149
  refine r_new X hw 3 1954 52 tyX3 (by decide) rfl inn_X11_init_3 tyX3_ok (X.2.2.2.1 (.classLink RX11 53 RX3) (by decide +kernel)) (X.2.2.2.1 (.instantiable RX3 5) (by decide +kernel)) (X.2.2.2.1 (.initialized RX3) (by decide +kernel)) zo_3 zd_3 (Nat.le_of_ble_eq_true rfl) (Nat.le_of_ble_eq_true rfl) (Nat.le_of_ble_eq_true rfl) (Nat.le_of_ble_eq_true rfl) dX11_init_104 (fun q_419 H hq_419 hw => ?_)
  have ne_x_q_419 : x ≠ q_419 := At_old hat_x_o hq_419
  have ne_q_147_q_419 : q_147 ≠ q_419 := At_old ha_149_o hq_419
  generalize eS_420 : sO S_418 q_419 3 = S_420 at hw
  have hat_x : At S_420 x 11 := by rw [← eS_420]; exact At_sO hat_x hq_419
  have ha_149 : At S_420 q_147 17 := by rw [← eS_420]; exact At_sO ha_149 hq_419
  have hr_152 : pR S_420 1109 x = some q_147 := by rw [← eS_420]; exact (pR_sO_ne (At_old hat_x_o hq_419)).trans hr_152
  have hn_150 : pN S_420 q_147 = 16 := by rw [← eS_420, pN_sO]; exact hn_150
  have nw_q_419 : q_419 ∉ pL S0 := Kp_new hkp hq_419
  have hkp : Kp S0 S_420 (fun a => a = x) := by rw [← eS_420]; exact Kp_sO hkp hq_419
  have ha_421 : At S_420 q_419 3 := by rw [← eS_420]; exact At_nO _ _ _
  have hz_422 : ∀ g, pI S_420 g q_419 = 0 := fun g => by rw [← eS_420]; exact pI_sO_new
  refine lv_dup X.1 X.2.1 dX11_init_107 rfl ?_
  refine k_v (rm := { frames := 1, cells := 1, slots := 8, locals := 40 }) (av := [.ref q_419]) X hw (va_runIN (As := []) (rest := [.ref q_419, .int 11, .ref q_147]) (cfix X) (c_X3_init l G cy S_420 _ q_419  ha_421 hz_422) ⟨(va_cnB (host := RX11) 0 X.2.2.2.1 gX11_init_X3_init_n62 rfl rfl rfl (X.2.2.2.2.2.2.2.2.1 (RX11, 62, yX3_init) (by decide +kernel)) (X.2.2.2.1 (.initialized RX3) (by decide +kernel)) (by decide +kernel) ⟨Nat.le_of_ble_eq_true rfl, Nat.le_of_ble_eq_true rfl⟩), rfl, X.2.2.2.1 (.instanceMethod yX3_init) (by decide +kernel)⟩ (pre_S X hw _) rfl rfl hl.1 rfl (lv_room (Nat.le_of_ble_eq_true rfl)) dX11_init_108 ⟨Nat.le_of_ble_eq_true rfl, Nat.le_of_ble_eq_true rfl⟩) 53 1962 (Nat.le_of_ble_eq_true rfl) (Nat.le_of_ble_eq_true rfl) (fun S2 H locs hp hw hfr hnw => ?_)
  obtain ⟨hk2, hf_q_419⟩ := hp
  generalize eq_Sc_108_423 : S2 = Sc_108_423 at hk2 hf_q_419 hw
  have hat_x_c := hat_x
  have ha_149_c := ha_149
  have ha_421_c := ha_421
  have hat_x : At Sc_108_423 x 11 := Kp_at hk2 hat_x_c
  have ha_149 : At Sc_108_423 q_147 17 := Kp_at hk2 ha_149_c
  have ha_421 : At Sc_108_423 q_419 3 := Kp_at hk2 ha_421_c
  have hr_152 : pR Sc_108_423 1109 x = some q_147 := ((hk2.2 x hat_x_c.1 ne_x_q_419).2.1 1109).trans hr_152
  have hn_150 : pN Sc_108_423 q_147 = 16 := ((hk2.2 q_147 ha_149_c.1 ne_q_147_q_419).2.2.1).trans hn_150
  have hkp : Kp S0 Sc_108_423 (fun a => a = x) := Kp_call hkp hk2 (Or.inr nw_q_419)
  have rfb_q_419 := hr_152
  refine r_aast X hw ha_149 ha_421 (by decide) (by decide) rfl rfl (by rw [hn_150]; exact vp_in_iff.mpr (by decide +kernel)) dX11_init_111 (fun H locs hw => ?_)
  generalize eS_424 : sB Sc_108_423 q_147 (va_up (pB Sc_108_423 q_147) (Int32.toNatClampNeg (11)) (some q_419)) = S_424 at hw
  have hat_x : At S_424 x 11 := by rw [← eS_424]; exact At_sB hat_x
  have ha_149 : At S_424 q_147 17 := by rw [← eS_424]; exact At_sB ha_149
  have ha_421 : At S_424 q_419 3 := by rw [← eS_424]; exact At_sB ha_421
  have hr_152 : pR S_424 1109 x = some q_147 := by rw [← eS_424, pR_sB]; exact hr_152
  have hn_150 : pN S_424 q_147 = 16 := by rw [← eS_424, pN_sB]; exact hn_150
  have hkp : Kp S0 S_424 (fun a => a = x) := by rw [← eS_424]; exact Kp_sB hkp (Or.inr nw_q_147)
  refine lv_iinc (v := 12) (lv' := [(1, .int 12), (0, .ref x)]) X.1 X.2.1 dX11_init_112 hl (k := 0) rfl (by decide) (by decide) rfl (fun ls hl => ?_)
  refine lv_goto (tgt := 93) X.1 X.2.1 dX11_init_115 (by decide) ?_
  have hFX : FXi S_424 x 12 := by rw [← eS_424, show Int32.toNatClampNeg 11 = 11 from by decide +kernel]; exact FXi_step hFX (S2 := Sc_108_423) hq_419 (by rw [eS_420]; exact hk2) hf_q_419 rfb_q_419
  exact kk q_147 _ _ _ _ hw hl hat_x ha_149 hr_152 hn_150 hkp nw_q_147 hFX
set_option maxHeartbeats 4000000 in
set_option maxRecDepth 100000 in
theorem sgX_4 {p : Program} {l : Launch} {e : Env} {s : State} {m : MethodId} {below : List Frame} {meth : Method} {c : Code} {Q : State → Prop} (G : va_G) (cy : Nat → ClassId) (S0 : PS) (x : Nat) (X : Cx p c cX11_init 2 s [.ref x].toArray wsX11_init RX11 m G cy (AS S0 s.heap.size)) (hin : meth.name = "<init>") (q_147 : Nat) (S : PS) (H : Heap) (locs : List Loc) (ls : Array Slot) (hw : Wd G cy (AS S0 s.heap.size) s.heap S H locs) (hl : lv_has ls 2 [(1, .int 12), (0, .ref x)]) (hat_x : At S x 11) (ha_149 : At S q_147 17) (hr_152 : pR S 1109 x = some q_147) (hn_150 : pN S q_147 = 16) (hkp : Kp S0 S (fun a => a = x)) (nw_q_147 : q_147 ∉ pL S0) (hFX : FXi S x 12) (kk : ∀ (q_147 : Nat) (S : PS) (H : Heap) (locs : List Loc) (ls : Array Slot), Wd G cy (AS S0 s.heap.size) s.heap S H locs → lv_has ls 2 [(1, .int 16), (0, .ref x)] → At S x 11 → At S q_147 17 → pR S 1109 x = some q_147 → pN S q_147 = 16 → Kp S0 S (fun a => a = x) → q_147 ∉ pL S0 → FXi S x 16 → W p l e ({ frames := 5, cells := 100, slots := 3000, locals := 200 }) s m [.ref x].toArray below meth c H locs 61 2014 Q (F0 m 118 ls [])) : W p l e ({ frames := 5, cells := 100, slots := 3000, locals := 200 }) s m [.ref x].toArray below meth c H locs 53 1962 Q (F0 m 93 ls []) := by
  refine lv_iload_n X.1 X.2.1 dX11_init_93 rfl (lv_at hl 0 rfl) ?_
  refine lv_bipush (v := 16) X.1 X.2.1 dX11_init_94 (by decide) ?_
  refine lv_icmp_ge (tgt := 118) X.1 X.2.1 dX11_init_96 (by decide) (fun c_96 => absurd c_96 (by decide)) (fun c_96 => ?_)
  refine lv_aload_n X.1 X.2.1 dX11_init_99 rfl (lv_at hl 1 rfl) ?_
  refine r_getR (g := 1109) X hw hat_x 9 hr_152 (by decide) rfl inn_X11_init_11 (by decide) (X.2.2.2.1 (.fieldLink RX11 55 "SilkMill" "shelf" "[LSilkMill$Place;") (by decide +kernel)) rfl (gv_1109 _ _) dX11_init_100 ?_
  refine lv_iload_n X.1 X.2.1 dX11_init_103 rfl (lv_at hl 0 rfl) ?_
  have hat_x_o := hat_x
  have ha_149_o := ha_149
  refine r_new X hw 3 1967 54 tyX3 (by decide) rfl inn_X11_init_3 tyX3_ok (X.2.2.2.1 (.classLink RX11 53 RX3) (by decide +kernel)) (X.2.2.2.1 (.instantiable RX3 5) (by decide +kernel)) (X.2.2.2.1 (.initialized RX3) (by decide +kernel)) zo_3 zd_3 (Nat.le_of_ble_eq_true rfl) (Nat.le_of_ble_eq_true rfl) (Nat.le_of_ble_eq_true rfl) (Nat.le_of_ble_eq_true rfl) dX11_init_104 (fun q_501 H hq_501 hw => ?_)
  have ne_x_q_501 : x ≠ q_501 := At_old hat_x_o hq_501
  have ne_q_147_q_501 : q_147 ≠ q_501 := At_old ha_149_o hq_501
  generalize eS_502 : sO S q_501 3 = S_502 at hw
  have hat_x : At S_502 x 11 := by rw [← eS_502]; exact At_sO hat_x hq_501
  have ha_149 : At S_502 q_147 17 := by rw [← eS_502]; exact At_sO ha_149 hq_501
  have hr_152 : pR S_502 1109 x = some q_147 := by rw [← eS_502]; exact (pR_sO_ne (At_old hat_x_o hq_501)).trans hr_152
  have hn_150 : pN S_502 q_147 = 16 := by rw [← eS_502, pN_sO]; exact hn_150
  have nw_q_501 : q_501 ∉ pL S0 := Kp_new hkp hq_501
  have hkp : Kp S0 S_502 (fun a => a = x) := by rw [← eS_502]; exact Kp_sO hkp hq_501
  have ha_503 : At S_502 q_501 3 := by rw [← eS_502]; exact At_nO _ _ _
  have hz_504 : ∀ g, pI S_502 g q_501 = 0 := fun g => by rw [← eS_502]; exact pI_sO_new
  refine lv_dup X.1 X.2.1 dX11_init_107 rfl ?_
  refine k_v (rm := { frames := 1, cells := 1, slots := 8, locals := 40 }) (av := [.ref q_501]) X hw (va_runIN (As := []) (rest := [.ref q_501, .int 12, .ref q_147]) (cfix X) (c_X3_init l G cy S_502 _ q_501  ha_503 hz_504) ⟨(va_cnB (host := RX11) 0 X.2.2.2.1 gX11_init_X3_init_n62 rfl rfl rfl (X.2.2.2.2.2.2.2.2.1 (RX11, 62, yX3_init) (by decide +kernel)) (X.2.2.2.1 (.initialized RX3) (by decide +kernel)) (by decide +kernel) ⟨Nat.le_of_ble_eq_true rfl, Nat.le_of_ble_eq_true rfl⟩), rfl, X.2.2.2.1 (.instanceMethod yX3_init) (by decide +kernel)⟩ (pre_S X hw _) rfl rfl hl.1 rfl (lv_room (Nat.le_of_ble_eq_true rfl)) dX11_init_108 ⟨Nat.le_of_ble_eq_true rfl, Nat.le_of_ble_eq_true rfl⟩) 55 1975 (Nat.le_of_ble_eq_true rfl) (Nat.le_of_ble_eq_true rfl) (fun S2 H locs hp hw hfr hnw => ?_)
  obtain ⟨hk2, hf_q_501⟩ := hp
  generalize eq_Sc_108_505 : S2 = Sc_108_505 at hk2 hf_q_501 hw
  have hat_x_c := hat_x
  have ha_149_c := ha_149
  have ha_503_c := ha_503
  have hat_x : At Sc_108_505 x 11 := Kp_at hk2 hat_x_c
  have ha_149 : At Sc_108_505 q_147 17 := Kp_at hk2 ha_149_c
  have ha_503 : At Sc_108_505 q_501 3 := Kp_at hk2 ha_503_c
  have hr_152 : pR Sc_108_505 1109 x = some q_147 := ((hk2.2 x hat_x_c.1 ne_x_q_501).2.1 1109).trans hr_152
  have hn_150 : pN Sc_108_505 q_147 = 16 := ((hk2.2 q_147 ha_149_c.1 ne_q_147_q_501).2.2.1).trans hn_150
  have hkp : Kp S0 Sc_108_505 (fun a => a = x) := Kp_call hkp hk2 (Or.inr nw_q_501)
  have rfb_q_501 := hr_152
  refine r_aast X hw ha_149 ha_503 (by decide) (by decide) rfl rfl (by rw [hn_150]; exact vp_in_iff.mpr (by decide +kernel)) dX11_init_111 (fun H locs hw => ?_)
  generalize eS_506 : sB Sc_108_505 q_147 (va_up (pB Sc_108_505 q_147) (Int32.toNatClampNeg (12)) (some q_501)) = S_506 at hw
  have hat_x : At S_506 x 11 := by rw [← eS_506]; exact At_sB hat_x
  have ha_149 : At S_506 q_147 17 := by rw [← eS_506]; exact At_sB ha_149
  have ha_503 : At S_506 q_501 3 := by rw [← eS_506]; exact At_sB ha_503
  have hr_152 : pR S_506 1109 x = some q_147 := by rw [← eS_506, pR_sB]; exact hr_152
  have hn_150 : pN S_506 q_147 = 16 := by rw [← eS_506, pN_sB]; exact hn_150
  have hkp : Kp S0 S_506 (fun a => a = x) := by rw [← eS_506]; exact Kp_sB hkp (Or.inr nw_q_147)
  refine lv_iinc (v := 13) (lv' := [(1, .int 13), (0, .ref x)]) X.1 X.2.1 dX11_init_112 hl (k := 0) rfl (by decide) (by decide) rfl (fun ls hl => ?_)
  refine lv_goto (tgt := 93) X.1 X.2.1 dX11_init_115 (by decide) ?_
  have hFX : FXi S_506 x 13 := by rw [← eS_506, show Int32.toNatClampNeg 12 = 12 from by decide +kernel]; exact FXi_step hFX (S2 := Sc_108_505) hq_501 (by rw [eS_502]; exact hk2) hf_q_501 rfb_q_501
  refine lv_iload_n X.1 X.2.1 dX11_init_93 rfl (lv_at hl 0 rfl) ?_
  refine lv_bipush (v := 16) X.1 X.2.1 dX11_init_94 (by decide) ?_
  refine lv_icmp_ge (tgt := 118) X.1 X.2.1 dX11_init_96 (by decide) (fun c_96 => absurd c_96 (by decide)) (fun c_96 => ?_)
  refine lv_aload_n X.1 X.2.1 dX11_init_99 rfl (lv_at hl 1 rfl) ?_
  refine r_getR (g := 1109) X hw hat_x 9 hr_152 (by decide) rfl inn_X11_init_11 (by decide) (X.2.2.2.1 (.fieldLink RX11 55 "SilkMill" "shelf" "[LSilkMill$Place;") (by decide +kernel)) rfl (gv_1109 _ _) dX11_init_100 ?_
  refine lv_iload_n X.1 X.2.1 dX11_init_103 rfl (lv_at hl 0 rfl) ?_
  have hat_x_o := hat_x
  have ha_149_o := ha_149
  refine r_new X hw 3 1980 56 tyX3 (by decide) rfl inn_X11_init_3 tyX3_ok (X.2.2.2.1 (.classLink RX11 53 RX3) (by decide +kernel)) (X.2.2.2.1 (.instantiable RX3 5) (by decide +kernel)) (X.2.2.2.1 (.initialized RX3) (by decide +kernel)) zo_3 zd_3 (Nat.le_of_ble_eq_true rfl) (Nat.le_of_ble_eq_true rfl) (Nat.le_of_ble_eq_true rfl) (Nat.le_of_ble_eq_true rfl) dX11_init_104 (fun q_507 H hq_507 hw => ?_)
  have ne_x_q_507 : x ≠ q_507 := At_old hat_x_o hq_507
  have ne_q_147_q_507 : q_147 ≠ q_507 := At_old ha_149_o hq_507
  generalize eS_508 : sO S_506 q_507 3 = S_508 at hw
  have hat_x : At S_508 x 11 := by rw [← eS_508]; exact At_sO hat_x hq_507
  have ha_149 : At S_508 q_147 17 := by rw [← eS_508]; exact At_sO ha_149 hq_507
  have hr_152 : pR S_508 1109 x = some q_147 := by rw [← eS_508]; exact (pR_sO_ne (At_old hat_x_o hq_507)).trans hr_152
  have hn_150 : pN S_508 q_147 = 16 := by rw [← eS_508, pN_sO]; exact hn_150
  have nw_q_507 : q_507 ∉ pL S0 := Kp_new hkp hq_507
  have hkp : Kp S0 S_508 (fun a => a = x) := by rw [← eS_508]; exact Kp_sO hkp hq_507
  have ha_509 : At S_508 q_507 3 := by rw [← eS_508]; exact At_nO _ _ _
  have hz_510 : ∀ g, pI S_508 g q_507 = 0 := fun g => by rw [← eS_508]; exact pI_sO_new
  refine lv_dup X.1 X.2.1 dX11_init_107 rfl ?_
  refine k_v (rm := { frames := 1, cells := 1, slots := 8, locals := 40 }) (av := [.ref q_507]) X hw (va_runIN (As := []) (rest := [.ref q_507, .int 13, .ref q_147]) (cfix X) (c_X3_init l G cy S_508 _ q_507  ha_509 hz_510) ⟨(va_cnB (host := RX11) 0 X.2.2.2.1 gX11_init_X3_init_n62 rfl rfl rfl (X.2.2.2.2.2.2.2.2.1 (RX11, 62, yX3_init) (by decide +kernel)) (X.2.2.2.1 (.initialized RX3) (by decide +kernel)) (by decide +kernel) ⟨Nat.le_of_ble_eq_true rfl, Nat.le_of_ble_eq_true rfl⟩), rfl, X.2.2.2.1 (.instanceMethod yX3_init) (by decide +kernel)⟩ (pre_S X hw _) rfl rfl hl.1 rfl (lv_room (Nat.le_of_ble_eq_true rfl)) dX11_init_108 ⟨Nat.le_of_ble_eq_true rfl, Nat.le_of_ble_eq_true rfl⟩) 57 1988 (Nat.le_of_ble_eq_true rfl) (Nat.le_of_ble_eq_true rfl) (fun S2 H locs hp hw hfr hnw => ?_)
  obtain ⟨hk2, hf_q_507⟩ := hp
  generalize eq_Sc_108_511 : S2 = Sc_108_511 at hk2 hf_q_507 hw
  have hat_x_c := hat_x
  have ha_149_c := ha_149
  have ha_509_c := ha_509
  have hat_x : At Sc_108_511 x 11 := Kp_at hk2 hat_x_c
  have ha_149 : At Sc_108_511 q_147 17 := Kp_at hk2 ha_149_c
  have ha_509 : At Sc_108_511 q_507 3 := Kp_at hk2 ha_509_c
  have hr_152 : pR Sc_108_511 1109 x = some q_147 := ((hk2.2 x hat_x_c.1 ne_x_q_507).2.1 1109).trans hr_152
  have hn_150 : pN Sc_108_511 q_147 = 16 := ((hk2.2 q_147 ha_149_c.1 ne_q_147_q_507).2.2.1).trans hn_150
  have hkp : Kp S0 Sc_108_511 (fun a => a = x) := Kp_call hkp hk2 (Or.inr nw_q_507)
  have rfb_q_507 := hr_152
  refine r_aast X hw ha_149 ha_509 (by decide) (by decide) rfl rfl (by rw [hn_150]; exact vp_in_iff.mpr (by decide +kernel)) dX11_init_111 (fun H locs hw => ?_)
  generalize eS_512 : sB Sc_108_511 q_147 (va_up (pB Sc_108_511 q_147) (Int32.toNatClampNeg (13)) (some q_507)) = S_512 at hw
  have hat_x : At S_512 x 11 := by rw [← eS_512]; exact At_sB hat_x
  have ha_149 : At S_512 q_147 17 := by rw [← eS_512]; exact At_sB ha_149
  have ha_509 : At S_512 q_507 3 := by rw [← eS_512]; exact At_sB ha_509
  have hr_152 : pR S_512 1109 x = some q_147 := by rw [← eS_512, pR_sB]; exact hr_152
  have hn_150 : pN S_512 q_147 = 16 := by rw [← eS_512, pN_sB]; exact hn_150
  have hkp : Kp S0 S_512 (fun a => a = x) := by rw [← eS_512]; exact Kp_sB hkp (Or.inr nw_q_147)
  refine lv_iinc (v := 14) (lv' := [(1, .int 14), (0, .ref x)]) X.1 X.2.1 dX11_init_112 hl (k := 0) rfl (by decide) (by decide) rfl (fun ls hl => ?_)
  refine lv_goto (tgt := 93) X.1 X.2.1 dX11_init_115 (by decide) ?_
  have hFX : FXi S_512 x 14 := by rw [← eS_512, show Int32.toNatClampNeg 13 = 13 from by decide +kernel]; exact FXi_step hFX (S2 := Sc_108_511) hq_507 (by rw [eS_508]; exact hk2) hf_q_507 rfb_q_507
  refine lv_iload_n X.1 X.2.1 dX11_init_93 rfl (lv_at hl 0 rfl) ?_
  refine lv_bipush (v := 16) X.1 X.2.1 dX11_init_94 (by decide) ?_
  refine lv_icmp_ge (tgt := 118) X.1 X.2.1 dX11_init_96 (by decide) (fun c_96 => absurd c_96 (by decide)) (fun c_96 => ?_)
  refine lv_aload_n X.1 X.2.1 dX11_init_99 rfl (lv_at hl 1 rfl) ?_
  refine r_getR (g := 1109) X hw hat_x 9 hr_152 (by decide) rfl inn_X11_init_11 (by decide) (X.2.2.2.1 (.fieldLink RX11 55 "SilkMill" "shelf" "[LSilkMill$Place;") (by decide +kernel)) rfl (gv_1109 _ _) dX11_init_100 ?_
  refine lv_iload_n X.1 X.2.1 dX11_init_103 rfl (lv_at hl 0 rfl) ?_
  have hat_x_o := hat_x
  have ha_149_o := ha_149
  refine r_new X hw 3 1993 58 tyX3 (by decide) rfl inn_X11_init_3 tyX3_ok (X.2.2.2.1 (.classLink RX11 53 RX3) (by decide +kernel)) (X.2.2.2.1 (.instantiable RX3 5) (by decide +kernel)) (X.2.2.2.1 (.initialized RX3) (by decide +kernel)) zo_3 zd_3 (Nat.le_of_ble_eq_true rfl) (Nat.le_of_ble_eq_true rfl) (Nat.le_of_ble_eq_true rfl) (Nat.le_of_ble_eq_true rfl) dX11_init_104 (fun q_513 H hq_513 hw => ?_)
  have ne_x_q_513 : x ≠ q_513 := At_old hat_x_o hq_513
  have ne_q_147_q_513 : q_147 ≠ q_513 := At_old ha_149_o hq_513
  generalize eS_514 : sO S_512 q_513 3 = S_514 at hw
  have hat_x : At S_514 x 11 := by rw [← eS_514]; exact At_sO hat_x hq_513
  have ha_149 : At S_514 q_147 17 := by rw [← eS_514]; exact At_sO ha_149 hq_513
  have hr_152 : pR S_514 1109 x = some q_147 := by rw [← eS_514]; exact (pR_sO_ne (At_old hat_x_o hq_513)).trans hr_152
  have hn_150 : pN S_514 q_147 = 16 := by rw [← eS_514, pN_sO]; exact hn_150
  have nw_q_513 : q_513 ∉ pL S0 := Kp_new hkp hq_513
  have hkp : Kp S0 S_514 (fun a => a = x) := by rw [← eS_514]; exact Kp_sO hkp hq_513
  have ha_515 : At S_514 q_513 3 := by rw [← eS_514]; exact At_nO _ _ _
  have hz_516 : ∀ g, pI S_514 g q_513 = 0 := fun g => by rw [← eS_514]; exact pI_sO_new
  refine lv_dup X.1 X.2.1 dX11_init_107 rfl ?_
  refine k_v (rm := { frames := 1, cells := 1, slots := 8, locals := 40 }) (av := [.ref q_513]) X hw (va_runIN (As := []) (rest := [.ref q_513, .int 14, .ref q_147]) (cfix X) (c_X3_init l G cy S_514 _ q_513  ha_515 hz_516) ⟨(va_cnB (host := RX11) 0 X.2.2.2.1 gX11_init_X3_init_n62 rfl rfl rfl (X.2.2.2.2.2.2.2.2.1 (RX11, 62, yX3_init) (by decide +kernel)) (X.2.2.2.1 (.initialized RX3) (by decide +kernel)) (by decide +kernel) ⟨Nat.le_of_ble_eq_true rfl, Nat.le_of_ble_eq_true rfl⟩), rfl, X.2.2.2.1 (.instanceMethod yX3_init) (by decide +kernel)⟩ (pre_S X hw _) rfl rfl hl.1 rfl (lv_room (Nat.le_of_ble_eq_true rfl)) dX11_init_108 ⟨Nat.le_of_ble_eq_true rfl, Nat.le_of_ble_eq_true rfl⟩) 59 2001 (Nat.le_of_ble_eq_true rfl) (Nat.le_of_ble_eq_true rfl) (fun S2 H locs hp hw hfr hnw => ?_)
  obtain ⟨hk2, hf_q_513⟩ := hp
  generalize eq_Sc_108_517 : S2 = Sc_108_517 at hk2 hf_q_513 hw
  have hat_x_c := hat_x
  have ha_149_c := ha_149
  have ha_515_c := ha_515
  have hat_x : At Sc_108_517 x 11 := Kp_at hk2 hat_x_c
  have ha_149 : At Sc_108_517 q_147 17 := Kp_at hk2 ha_149_c
  have ha_515 : At Sc_108_517 q_513 3 := Kp_at hk2 ha_515_c
  have hr_152 : pR Sc_108_517 1109 x = some q_147 := ((hk2.2 x hat_x_c.1 ne_x_q_513).2.1 1109).trans hr_152
  have hn_150 : pN Sc_108_517 q_147 = 16 := ((hk2.2 q_147 ha_149_c.1 ne_q_147_q_513).2.2.1).trans hn_150
  have hkp : Kp S0 Sc_108_517 (fun a => a = x) := Kp_call hkp hk2 (Or.inr nw_q_513)
  have rfb_q_513 := hr_152
  refine r_aast X hw ha_149 ha_515 (by decide) (by decide) rfl rfl (by rw [hn_150]; exact vp_in_iff.mpr (by decide +kernel)) dX11_init_111 (fun H locs hw => ?_)
  generalize eS_518 : sB Sc_108_517 q_147 (va_up (pB Sc_108_517 q_147) (Int32.toNatClampNeg (14)) (some q_513)) = S_518 at hw
  have hat_x : At S_518 x 11 := by rw [← eS_518]; exact At_sB hat_x
  have ha_149 : At S_518 q_147 17 := by rw [← eS_518]; exact At_sB ha_149
  have ha_515 : At S_518 q_513 3 := by rw [← eS_518]; exact At_sB ha_515
  have hr_152 : pR S_518 1109 x = some q_147 := by rw [← eS_518, pR_sB]; exact hr_152
  have hn_150 : pN S_518 q_147 = 16 := by rw [← eS_518, pN_sB]; exact hn_150
  have hkp : Kp S0 S_518 (fun a => a = x) := by rw [← eS_518]; exact Kp_sB hkp (Or.inr nw_q_147)
  refine lv_iinc (v := 15) (lv' := [(1, .int 15), (0, .ref x)]) X.1 X.2.1 dX11_init_112 hl (k := 0) rfl (by decide) (by decide) rfl (fun ls hl => ?_)
  refine lv_goto (tgt := 93) X.1 X.2.1 dX11_init_115 (by decide) ?_
  have hFX : FXi S_518 x 15 := by rw [← eS_518, show Int32.toNatClampNeg 14 = 14 from by decide +kernel]; exact FXi_step hFX (S2 := Sc_108_517) hq_513 (by rw [eS_514]; exact hk2) hf_q_513 rfb_q_513
  refine lv_iload_n X.1 X.2.1 dX11_init_93 rfl (lv_at hl 0 rfl) ?_
  refine lv_bipush (v := 16) X.1 X.2.1 dX11_init_94 (by decide) ?_
  refine lv_icmp_ge (tgt := 118) X.1 X.2.1 dX11_init_96 (by decide) (fun c_96 => absurd c_96 (by decide)) (fun c_96 => ?_)
  refine lv_aload_n X.1 X.2.1 dX11_init_99 rfl (lv_at hl 1 rfl) ?_
  refine r_getR (g := 1109) X hw hat_x 9 hr_152 (by decide) rfl inn_X11_init_11 (by decide) (X.2.2.2.1 (.fieldLink RX11 55 "SilkMill" "shelf" "[LSilkMill$Place;") (by decide +kernel)) rfl (gv_1109 _ _) dX11_init_100 ?_
  refine lv_iload_n X.1 X.2.1 dX11_init_103 rfl (lv_at hl 0 rfl) ?_
  have hat_x_o := hat_x
  have ha_149_o := ha_149
  refine r_new X hw 3 2006 60 tyX3 (by decide) rfl inn_X11_init_3 tyX3_ok (X.2.2.2.1 (.classLink RX11 53 RX3) (by decide +kernel)) (X.2.2.2.1 (.instantiable RX3 5) (by decide +kernel)) (X.2.2.2.1 (.initialized RX3) (by decide +kernel)) zo_3 zd_3 (Nat.le_of_ble_eq_true rfl) (Nat.le_of_ble_eq_true rfl) (Nat.le_of_ble_eq_true rfl) (Nat.le_of_ble_eq_true rfl) dX11_init_104 (fun q_519 H hq_519 hw => ?_)
  have ne_x_q_519 : x ≠ q_519 := At_old hat_x_o hq_519
  have ne_q_147_q_519 : q_147 ≠ q_519 := At_old ha_149_o hq_519
  generalize eS_520 : sO S_518 q_519 3 = S_520 at hw
  have hat_x : At S_520 x 11 := by rw [← eS_520]; exact At_sO hat_x hq_519
  have ha_149 : At S_520 q_147 17 := by rw [← eS_520]; exact At_sO ha_149 hq_519
  have hr_152 : pR S_520 1109 x = some q_147 := by rw [← eS_520]; exact (pR_sO_ne (At_old hat_x_o hq_519)).trans hr_152
  have hn_150 : pN S_520 q_147 = 16 := by rw [← eS_520, pN_sO]; exact hn_150
  have nw_q_519 : q_519 ∉ pL S0 := Kp_new hkp hq_519
  have hkp : Kp S0 S_520 (fun a => a = x) := by rw [← eS_520]; exact Kp_sO hkp hq_519
  have ha_521 : At S_520 q_519 3 := by rw [← eS_520]; exact At_nO _ _ _
  have hz_522 : ∀ g, pI S_520 g q_519 = 0 := fun g => by rw [← eS_520]; exact pI_sO_new
  refine lv_dup X.1 X.2.1 dX11_init_107 rfl ?_
  refine k_v (rm := { frames := 1, cells := 1, slots := 8, locals := 40 }) (av := [.ref q_519]) X hw (va_runIN (As := []) (rest := [.ref q_519, .int 15, .ref q_147]) (cfix X) (c_X3_init l G cy S_520 _ q_519  ha_521 hz_522) ⟨(va_cnB (host := RX11) 0 X.2.2.2.1 gX11_init_X3_init_n62 rfl rfl rfl (X.2.2.2.2.2.2.2.2.1 (RX11, 62, yX3_init) (by decide +kernel)) (X.2.2.2.1 (.initialized RX3) (by decide +kernel)) (by decide +kernel) ⟨Nat.le_of_ble_eq_true rfl, Nat.le_of_ble_eq_true rfl⟩), rfl, X.2.2.2.1 (.instanceMethod yX3_init) (by decide +kernel)⟩ (pre_S X hw _) rfl rfl hl.1 rfl (lv_room (Nat.le_of_ble_eq_true rfl)) dX11_init_108 ⟨Nat.le_of_ble_eq_true rfl, Nat.le_of_ble_eq_true rfl⟩) 61 2014 (Nat.le_of_ble_eq_true rfl) (Nat.le_of_ble_eq_true rfl) (fun S2 H locs hp hw hfr hnw => ?_)
  obtain ⟨hk2, hf_q_519⟩ := hp
  generalize eq_Sc_108_523 : S2 = Sc_108_523 at hk2 hf_q_519 hw
  have hat_x_c := hat_x
  have ha_149_c := ha_149
  have ha_521_c := ha_521
  have hat_x : At Sc_108_523 x 11 := Kp_at hk2 hat_x_c
  have ha_149 : At Sc_108_523 q_147 17 := Kp_at hk2 ha_149_c
  have ha_521 : At Sc_108_523 q_519 3 := Kp_at hk2 ha_521_c
  have hr_152 : pR Sc_108_523 1109 x = some q_147 := ((hk2.2 x hat_x_c.1 ne_x_q_519).2.1 1109).trans hr_152
  have hn_150 : pN Sc_108_523 q_147 = 16 := ((hk2.2 q_147 ha_149_c.1 ne_q_147_q_519).2.2.1).trans hn_150
  have hkp : Kp S0 Sc_108_523 (fun a => a = x) := Kp_call hkp hk2 (Or.inr nw_q_519)
  have rfb_q_519 := hr_152
  refine r_aast X hw ha_149 ha_521 (by decide) (by decide) rfl rfl (by rw [hn_150]; exact vp_in_iff.mpr (by decide +kernel)) dX11_init_111 (fun H locs hw => ?_)
  generalize eS_524 : sB Sc_108_523 q_147 (va_up (pB Sc_108_523 q_147) (Int32.toNatClampNeg (15)) (some q_519)) = S_524 at hw
  have hat_x : At S_524 x 11 := by rw [← eS_524]; exact At_sB hat_x
  have ha_149 : At S_524 q_147 17 := by rw [← eS_524]; exact At_sB ha_149
  have ha_521 : At S_524 q_519 3 := by rw [← eS_524]; exact At_sB ha_521
  have hr_152 : pR S_524 1109 x = some q_147 := by rw [← eS_524, pR_sB]; exact hr_152
  have hn_150 : pN S_524 q_147 = 16 := by rw [← eS_524, pN_sB]; exact hn_150
  have hkp : Kp S0 S_524 (fun a => a = x) := by rw [← eS_524]; exact Kp_sB hkp (Or.inr nw_q_147)
  refine lv_iinc (v := 16) (lv' := [(1, .int 16), (0, .ref x)]) X.1 X.2.1 dX11_init_112 hl (k := 0) rfl (by decide) (by decide) rfl (fun ls hl => ?_)
  refine lv_goto (tgt := 93) X.1 X.2.1 dX11_init_115 (by decide) ?_
  have hFX : FXi S_524 x 16 := by rw [← eS_524, show Int32.toNatClampNeg 15 = 15 from by decide +kernel]; exact FXi_step hFX (S2 := Sc_108_523) hq_519 (by rw [eS_520]; exact hk2) hf_q_519 rfb_q_519
  refine lv_iload_n X.1 X.2.1 dX11_init_93 rfl (lv_at hl 0 rfl) ?_
  refine lv_bipush (v := 16) X.1 X.2.1 dX11_init_94 (by decide) ?_
  refine lv_icmp_ge (tgt := 118) X.1 X.2.1 dX11_init_96 (by decide) (fun c_96 => ?_) (fun c_96 => absurd c_96 (by decide))
  exact kk q_147 _ _ _ _ hw hl hat_x ha_149 hr_152 hn_150 hkp nw_q_147 hFX
set_option maxHeartbeats 4000000 in
set_option maxRecDepth 100000 in
theorem c_X11_init (l : Launch) (G : va_G) (cy : Nat → ClassId) (S : PS) (sz : Nat) (x : Nat) (hat_x : At S x 11) (hz : ∀ g, pI S g x = 0) : Cv l yX11_init wsX11_init ({ frames := 5, cells := 100, slots := 3000, locals := 200 }) G cy S sz [.ref x] (fun (S9 : PS) => FX S9 x ∧ Kp S S9 (fun a => a = x)) := by
  refine ent_m (cc := cX11_init) (maxL := 2) (ret := none) (by decide) rfl (Nat.le_of_ble_eq_true rfl) ?_
  intro p e s m below meth c ls X hr hlocks hin hw hl hsz
  subst hsz
  have X : Cx p c cX11_init 2 s [.ref x].toArray wsX11_init RX11 m G cy (AS S s.heap.size) := X
  have hl : lv_has ls 2 [(0, .ref x)] := hl
  have hkp : Kp S S (fun a => a = x) := Kp_rf S _
  refine sgX_0 G cy S x X hin  _ _ _ _ hw hl hat_x hz hkp ?_
  intro q_147 T0 H locs ls hw hl hat_x ha_149 hr_152 hn_150 hkp nw_q_147 hFX
  refine sgX_1 G cy S x X hin q_147 _ _ _ _ hw hl hat_x ha_149 hr_152 hn_150 hkp nw_q_147 hFX ?_
  intro q_147 T1 H locs ls hw hl hat_x ha_149 hr_152 hn_150 hkp nw_q_147 hFX
  refine sgX_2 G cy S x X hin q_147 _ _ _ _ hw hl hat_x ha_149 hr_152 hn_150 hkp nw_q_147 hFX ?_
  intro q_147 T2 H locs ls hw hl hat_x ha_149 hr_152 hn_150 hkp nw_q_147 hFX
  refine sgX_3 G cy S x X hin q_147 _ _ _ _ hw hl hat_x ha_149 hr_152 hn_150 hkp nw_q_147 hFX ?_
  intro q_147 T3 H locs ls hw hl hat_x ha_149 hr_152 hn_150 hkp nw_q_147 hFX
  refine sgX_4 G cy S x X hin q_147 _ _ _ _ hw hl hat_x ha_149 hr_152 hn_150 hkp nw_q_147 hFX ?_
  intro q_147 T4 H locs ls hw hl hat_x ha_149 hr_152 hn_150 hkp nw_q_147 hFX
  exact ret_v X hw hr hlocks (Nat.le_of_ble_eq_true rfl) (Nat.le_of_ble_eq_true rfl) ⟨hFX, hkp⟩ dX11_init_118
