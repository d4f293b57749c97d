set_option maxHeartbeats 4000000 in
set_option maxRecDepth 100000 in
theorem sgM_0 {p : Program} {l : Launch} {e : Env} {s : State} {m : MethodId} {below : List Frame} {meth : Method} {c : Code} {Q : State → Prop} (G : va_G) (cy : Nat → ClassId) (S0 : PS) (mo : Nat) (X : Cx p c cX12_init 2 s [.ref mo].toArray wsX12_init RX12 m G cy (AS S0 s.heap.size)) (hin : meth.name = "<init>") (S : PS) (H : Heap) (locs : List Loc) (ls : Array Slot) (hw : Wd G cy (AS S0 s.heap.size) s.heap S H locs) (hl : lv_has ls 2 [(0, .ref mo)]) (hat_mo : At S mo 12) (ci_1201 : pI S 1201 mo = 0) (ci_1211 : pI S 1211 mo = 0) (ci_1228 : pI S 1228 mo = 0) (ci_1238 : pI S 1238 mo = 0) (ci_1245 : pI S 1245 mo = 0) (ci_1246 : pI S 1246 mo = 0) (ci_1251 : pI S 1251 mo = 0) (ci_1262 : pI S 1262 mo = 0) (hFA : FaA S mo []) (kk : ∀ (S : PS) (H : Heap) (locs : List Loc) (ls : Array Slot), Wd G cy (AS S0 s.heap.size) s.heap S H locs → lv_has ls 2 [(0, .ref mo)] → At S mo 12 → pI S 1201 mo = 0 → pI S 1211 mo = 0 → pI S 1228 mo = 0 → pI S 1238 mo = 0 → pI S 1245 mo = 0 → pI S 1246 mo = 0 → pI S 1251 mo = 0 → pI S 1262 mo = 0 → FaA S mo [(1208, 14, 600), (1207, 14, 600), (1206, 14, 10), (1205, 14, 10), (1204, 14, 10), (1203, 14, 10), (1202, 14, 10)] → W p l e ({ frames := 2, cells := 70, slots := 190000, locals := 80 }) s m [.ref mo].toArray below meth c H locs 7 1250 Q (F0 m 62 ls [])) : W p l e ({ frames := 2, cells := 70, slots := 190000, locals := 80 }) s m [.ref mo].toArray below meth c H locs 0 0 Q (F0 m 0 ls []) := by
  refine lv_aload_n X.1 X.2.1 dX12_init_0 rfl (lv_at hl 0 rfl) ?_
  refine W.objInit X.1 X.2.1 X.2.2.2.2.1 (X.2.2.2.1 (.methodLink RX12 1 objectInit) (by decide +kernel)) (X.2.2.2.1 (.instanceMethod objectInit) (by decide +kernel)) (X.2.2.2.1 (.code objectInit ⟨#[0xb1]⟩ 1 none) (by decide +kernel)) rfl (hl.1.trans X.2.2.1.symm) rfl dX12_init_1 (Nat.le_of_ble_eq_true rfl) (Nat.le_of_ble_eq_true rfl) ?_
  refine W.eq (g2 := F0 m 4 ls ([])) rfl ?_
  refine lv_aload_n X.1 X.2.1 dX12_init_4 rfl (lv_at hl 0 rfl) ?_
  refine lv_bipush (v := 10) X.1 X.2.1 dX12_init_5 (by decide) ?_
  have hat_mo_o := hat_mo
  refine r_newI (N := 10) X hw 10 1 (X.2.2.2.1 (.arrayClass .int) (by decide +kernel)) (by decide) (by decide) (by decide) (Nat.le_of_ble_eq_true rfl) (Nat.le_of_ble_eq_true rfl) (Nat.le_of_ble_eq_true rfl) (Nat.le_of_ble_eq_true rfl) dX12_init_7 (fun q_101 H hq_101 hw => ?_)
  have ne_mo_q_101 : mo ≠ q_101 := At_old hat_mo_o hq_101
  generalize eS_102 : sN S q_101 14 10 = S_102 at hw
  have hat_mo : At S_102 mo 12 := by rw [← eS_102]; exact At_sN hat_mo hq_101
  have ci_1201 : pI S_102 1201 mo = 0 := by rw [← eS_102, pI_sN]; exact ci_1201
  have ci_1211 : pI S_102 1211 mo = 0 := by rw [← eS_102, pI_sN]; exact ci_1211
  have ci_1228 : pI S_102 1228 mo = 0 := by rw [← eS_102, pI_sN]; exact ci_1228
  have ci_1238 : pI S_102 1238 mo = 0 := by rw [← eS_102, pI_sN]; exact ci_1238
  have ci_1245 : pI S_102 1245 mo = 0 := by rw [← eS_102, pI_sN]; exact ci_1245
  have ci_1246 : pI S_102 1246 mo = 0 := by rw [← eS_102, pI_sN]; exact ci_1246
  have ci_1251 : pI S_102 1251 mo = 0 := by rw [← eS_102, pI_sN]; exact ci_1251
  have ci_1262 : pI S_102 1262 mo = 0 := by rw [← eS_102, pI_sN]; exact ci_1262
  have hFA : FaA S_102 mo [] := by rw [← eS_102]; exact FaA_sN hFA hq_101
  have ha_103 : At S_102 q_101 14 := by rw [← eS_102]; exact At_nN _ _ _ _
  have hn_104 : pN S_102 q_101 = 10 := by rw [← eS_102]; exact pN_sN_new
  refine r_putR X hw hat_mo 2 1202 (some q_101) rfl tyX12 (by decide) rfl inn_X12_init_12 tyX12_ok nmX12 (by decide) (X.2.2.2.1 (.fieldLink RX12 7 "SilkMillModel" "lotMany" "[I") (by decide +kernel)) rfl (Or.inr ⟨rfl, hin, rfl⟩) (fun _ => rfl) rfl (fun _ => rfl) rfl (Nat.le_of_ble_eq_true rfl) (st_1202 _ _) dX12_init_9 (fun H locs hw => ?_)
  generalize eS_105 : sR S_102 1202 mo (some q_101) = S_105 at hw
  have hat_mo : At S_105 mo 12 := by rw [← eS_105]; exact At_sR hat_mo
  have ha_103 : At S_105 q_101 14 := by rw [← eS_105]; exact At_sR ha_103
  have ci_1201 : pI S_105 1201 mo = 0 := by rw [← eS_105, pI_sR]; exact ci_1201
  have ci_1211 : pI S_105 1211 mo = 0 := by rw [← eS_105, pI_sR]; exact ci_1211
  have ci_1228 : pI S_105 1228 mo = 0 := by rw [← eS_105, pI_sR]; exact ci_1228
  have ci_1238 : pI S_105 1238 mo = 0 := by rw [← eS_105, pI_sR]; exact ci_1238
  have ci_1245 : pI S_105 1245 mo = 0 := by rw [← eS_105, pI_sR]; exact ci_1245
  have ci_1246 : pI S_105 1246 mo = 0 := by rw [← eS_105, pI_sR]; exact ci_1246
  have ci_1251 : pI S_105 1251 mo = 0 := by rw [← eS_105, pI_sR]; exact ci_1251
  have ci_1262 : pI S_105 1262 mo = 0 := by rw [← eS_105, pI_sR]; exact ci_1262
  have hn_104 : pN S_105 q_101 = 10 := by rw [← eS_105, pN_sR]; exact hn_104
  have hFA : FaA S_105 mo [] := by rw [← eS_105]; exact FaA_sR hFA (by decide)
  have hr_106 : pR S_105 1202 mo = some q_101 := by rw [← eS_105]; exact pR_sR_same
  have hFA : FaA S_105 mo [(1202, 14, 10)] := FaA_cons ⟨_, hr_106, ha_103, hn_104⟩ hFA
  refine lv_aload_n X.1 X.2.1 dX12_init_12 rfl (lv_at hl 0 rfl) ?_
  refine lv_bipush (v := 10) X.1 X.2.1 dX12_init_13 (by decide) ?_
  have hat_mo_o := hat_mo
  refine r_newI (N := 10) X hw 20 2 (X.2.2.2.1 (.arrayClass .int) (by decide +kernel)) (by decide) (by decide) (by decide) (Nat.le_of_ble_eq_true rfl) (Nat.le_of_ble_eq_true rfl) (Nat.le_of_ble_eq_true rfl) (Nat.le_of_ble_eq_true rfl) dX12_init_15 (fun q_107 H hq_107 hw => ?_)
  have ne_mo_q_107 : mo ≠ q_107 := At_old hat_mo_o hq_107
  generalize eS_108 : sN S_105 q_107 14 10 = S_108 at hw
  have hat_mo : At S_108 mo 12 := by rw [← eS_108]; exact At_sN hat_mo hq_107
  have ci_1201 : pI S_108 1201 mo = 0 := by rw [← eS_108, pI_sN]; exact ci_1201
  have ci_1211 : pI S_108 1211 mo = 0 := by rw [← eS_108, pI_sN]; exact ci_1211
  have ci_1228 : pI S_108 1228 mo = 0 := by rw [← eS_108, pI_sN]; exact ci_1228
  have ci_1238 : pI S_108 1238 mo = 0 := by rw [← eS_108, pI_sN]; exact ci_1238
  have ci_1245 : pI S_108 1245 mo = 0 := by rw [← eS_108, pI_sN]; exact ci_1245
  have ci_1246 : pI S_108 1246 mo = 0 := by rw [← eS_108, pI_sN]; exact ci_1246
  have ci_1251 : pI S_108 1251 mo = 0 := by rw [← eS_108, pI_sN]; exact ci_1251
  have ci_1262 : pI S_108 1262 mo = 0 := by rw [← eS_108, pI_sN]; exact ci_1262
  have hFA : FaA S_108 mo [(1202, 14, 10)] := by rw [← eS_108]; exact FaA_sN hFA hq_107
  have ha_109 : At S_108 q_107 14 := by rw [← eS_108]; exact At_nN _ _ _ _
  have hn_110 : pN S_108 q_107 = 10 := by rw [← eS_108]; exact pN_sN_new
  refine r_putR X hw hat_mo 3 1203 (some q_107) rfl tyX12 (by decide) rfl inn_X12_init_12 tyX12_ok nmX12 (by decide) (X.2.2.2.1 (.fieldLink RX12 13 "SilkMillModel" "lotSeed" "[I") (by decide +kernel)) rfl (Or.inr ⟨rfl, hin, rfl⟩) (fun _ => rfl) rfl (fun _ => rfl) rfl (Nat.le_of_ble_eq_true rfl) (st_1203 _ _) dX12_init_17 (fun H locs hw => ?_)
  generalize eS_111 : sR S_108 1203 mo (some q_107) = S_111 at hw
  have hat_mo : At S_111 mo 12 := by rw [← eS_111]; exact At_sR hat_mo
  have ha_109 : At S_111 q_107 14 := by rw [← eS_111]; exact At_sR ha_109
  have ci_1201 : pI S_111 1201 mo = 0 := by rw [← eS_111, pI_sR]; exact ci_1201
  have ci_1211 : pI S_111 1211 mo = 0 := by rw [← eS_111, pI_sR]; exact ci_1211
  have ci_1228 : pI S_111 1228 mo = 0 := by rw [← eS_111, pI_sR]; exact ci_1228
  have ci_1238 : pI S_111 1238 mo = 0 := by rw [← eS_111, pI_sR]; exact ci_1238
  have ci_1245 : pI S_111 1245 mo = 0 := by rw [← eS_111, pI_sR]; exact ci_1245
  have ci_1246 : pI S_111 1246 mo = 0 := by rw [← eS_111, pI_sR]; exact ci_1246
  have ci_1251 : pI S_111 1251 mo = 0 := by rw [← eS_111, pI_sR]; exact ci_1251
  have ci_1262 : pI S_111 1262 mo = 0 := by rw [← eS_111, pI_sR]; exact ci_1262
  have hn_110 : pN S_111 q_107 = 10 := by rw [← eS_111, pN_sR]; exact hn_110
  have hFA : FaA S_111 mo [(1202, 14, 10)] := by rw [← eS_111]; exact FaA_sR hFA (by decide)
  have hr_112 : pR S_111 1203 mo = some q_107 := by rw [← eS_111]; exact pR_sR_same
  have hFA : FaA S_111 mo [(1203, 14, 10), (1202, 14, 10)] := FaA_cons ⟨_, hr_112, ha_109, hn_110⟩ hFA
  refine lv_aload_n X.1 X.2.1 dX12_init_20 rfl (lv_at hl 0 rfl) ?_
  refine lv_bipush (v := 10) X.1 X.2.1 dX12_init_21 (by decide) ?_
  have hat_mo_o := hat_mo
  refine r_newI (N := 10) X hw 30 3 (X.2.2.2.1 (.arrayClass .int) (by decide +kernel)) (by decide) (by decide) (by decide) (Nat.le_of_ble_eq_true rfl) (Nat.le_of_ble_eq_true rfl) (Nat.le_of_ble_eq_true rfl) (Nat.le_of_ble_eq_true rfl) dX12_init_23 (fun q_113 H hq_113 hw => ?_)
  have ne_mo_q_113 : mo ≠ q_113 := At_old hat_mo_o hq_113
  generalize eS_114 : sN S_111 q_113 14 10 = S_114 at hw
  have hat_mo : At S_114 mo 12 := by rw [← eS_114]; exact At_sN hat_mo hq_113
  have ci_1201 : pI S_114 1201 mo = 0 := by rw [← eS_114, pI_sN]; exact ci_1201
  have ci_1211 : pI S_114 1211 mo = 0 := by rw [← eS_114, pI_sN]; exact ci_1211
  have ci_1228 : pI S_114 1228 mo = 0 := by rw [← eS_114, pI_sN]; exact ci_1228
  have ci_1238 : pI S_114 1238 mo = 0 := by rw [← eS_114, pI_sN]; exact ci_1238
  have ci_1245 : pI S_114 1245 mo = 0 := by rw [← eS_114, pI_sN]; exact ci_1245
  have ci_1246 : pI S_114 1246 mo = 0 := by rw [← eS_114, pI_sN]; exact ci_1246
  have ci_1251 : pI S_114 1251 mo = 0 := by rw [← eS_114, pI_sN]; exact ci_1251
  have ci_1262 : pI S_114 1262 mo = 0 := by rw [← eS_114, pI_sN]; exact ci_1262
  have hFA : FaA S_114 mo [(1203, 14, 10), (1202, 14, 10)] := by rw [← eS_114]; exact FaA_sN hFA hq_113
  have ha_115 : At S_114 q_113 14 := by rw [← eS_114]; exact At_nN _ _ _ _
  have hn_116 : pN S_114 q_113 = 10 := by rw [← eS_114]; exact pN_sN_new
  refine r_putR X hw hat_mo 4 1204 (some q_113) rfl tyX12 (by decide) rfl inn_X12_init_12 tyX12_ok nmX12 (by decide) (X.2.2.2.1 (.fieldLink RX12 16 "SilkMillModel" "lotBase" "[I") (by decide +kernel)) rfl (Or.inr ⟨rfl, hin, rfl⟩) (fun _ => rfl) rfl (fun _ => rfl) rfl (Nat.le_of_ble_eq_true rfl) (st_1204 _ _) dX12_init_25 (fun H locs hw => ?_)
  generalize eS_117 : sR S_114 1204 mo (some q_113) = S_117 at hw
  have hat_mo : At S_117 mo 12 := by rw [← eS_117]; exact At_sR hat_mo
  have ha_115 : At S_117 q_113 14 := by rw [← eS_117]; exact At_sR ha_115
  have ci_1201 : pI S_117 1201 mo = 0 := by rw [← eS_117, pI_sR]; exact ci_1201
  have ci_1211 : pI S_117 1211 mo = 0 := by rw [← eS_117, pI_sR]; exact ci_1211
  have ci_1228 : pI S_117 1228 mo = 0 := by rw [← eS_117, pI_sR]; exact ci_1228
  have ci_1238 : pI S_117 1238 mo = 0 := by rw [← eS_117, pI_sR]; exact ci_1238
  have ci_1245 : pI S_117 1245 mo = 0 := by rw [← eS_117, pI_sR]; exact ci_1245
  have ci_1246 : pI S_117 1246 mo = 0 := by rw [← eS_117, pI_sR]; exact ci_1246
  have ci_1251 : pI S_117 1251 mo = 0 := by rw [← eS_117, pI_sR]; exact ci_1251
  have ci_1262 : pI S_117 1262 mo = 0 := by rw [← eS_117, pI_sR]; exact ci_1262
  have hn_116 : pN S_117 q_113 = 10 := by rw [← eS_117, pN_sR]; exact hn_116
  have hFA : FaA S_117 mo [(1203, 14, 10), (1202, 14, 10)] := by rw [← eS_117]; exact FaA_sR hFA (by decide)
  have hr_118 : pR S_117 1204 mo = some q_113 := by rw [← eS_117]; exact pR_sR_same
  have hFA : FaA S_117 mo [(1204, 14, 10), (1203, 14, 10), (1202, 14, 10)] := FaA_cons ⟨_, hr_118, ha_115, hn_116⟩ hFA
  refine lv_aload_n X.1 X.2.1 dX12_init_28 rfl (lv_at hl 0 rfl) ?_
  refine lv_bipush (v := 10) X.1 X.2.1 dX12_init_29 (by decide) ?_
  have hat_mo_o := hat_mo
  refine r_newI (N := 10) X hw 40 4 (X.2.2.2.1 (.arrayClass .int) (by decide +kernel)) (by decide) (by decide) (by decide) (Nat.le_of_ble_eq_true rfl) (Nat.le_of_ble_eq_true rfl) (Nat.le_of_ble_eq_true rfl) (Nat.le_of_ble_eq_true rfl) dX12_init_31 (fun q_119 H hq_119 hw => ?_)
  have ne_mo_q_119 : mo ≠ q_119 := At_old hat_mo_o hq_119
  generalize eS_120 : sN S_117 q_119 14 10 = S_120 at hw
  have hat_mo : At S_120 mo 12 := by rw [← eS_120]; exact At_sN hat_mo hq_119
  have ci_1201 : pI S_120 1201 mo = 0 := by rw [← eS_120, pI_sN]; exact ci_1201
  have ci_1211 : pI S_120 1211 mo = 0 := by rw [← eS_120, pI_sN]; exact ci_1211
  have ci_1228 : pI S_120 1228 mo = 0 := by rw [← eS_120, pI_sN]; exact ci_1228
  have ci_1238 : pI S_120 1238 mo = 0 := by rw [← eS_120, pI_sN]; exact ci_1238
  have ci_1245 : pI S_120 1245 mo = 0 := by rw [← eS_120, pI_sN]; exact ci_1245
  have ci_1246 : pI S_120 1246 mo = 0 := by rw [← eS_120, pI_sN]; exact ci_1246
  have ci_1251 : pI S_120 1251 mo = 0 := by rw [← eS_120, pI_sN]; exact ci_1251
  have ci_1262 : pI S_120 1262 mo = 0 := by rw [← eS_120, pI_sN]; exact ci_1262
  have hFA : FaA S_120 mo [(1204, 14, 10), (1203, 14, 10), (1202, 14, 10)] := by rw [← eS_120]; exact FaA_sN hFA hq_119
  have ha_121 : At S_120 q_119 14 := by rw [← eS_120]; exact At_nN _ _ _ _
  have hn_122 : pN S_120 q_119 = 10 := by rw [← eS_120]; exact pN_sN_new
  refine r_putR X hw hat_mo 5 1205 (some q_119) rfl tyX12 (by decide) rfl inn_X12_init_12 tyX12_ok nmX12 (by decide) (X.2.2.2.1 (.fieldLink RX12 19 "SilkMillModel" "lotLong" "[I") (by decide +kernel)) rfl (Or.inr ⟨rfl, hin, rfl⟩) (fun _ => rfl) rfl (fun _ => rfl) rfl (Nat.le_of_ble_eq_true rfl) (st_1205 _ _) dX12_init_33 (fun H locs hw => ?_)
  generalize eS_123 : sR S_120 1205 mo (some q_119) = S_123 at hw
  have hat_mo : At S_123 mo 12 := by rw [← eS_123]; exact At_sR hat_mo
  have ha_121 : At S_123 q_119 14 := by rw [← eS_123]; exact At_sR ha_121
  have ci_1201 : pI S_123 1201 mo = 0 := by rw [← eS_123, pI_sR]; exact ci_1201
  have ci_1211 : pI S_123 1211 mo = 0 := by rw [← eS_123, pI_sR]; exact ci_1211
  have ci_1228 : pI S_123 1228 mo = 0 := by rw [← eS_123, pI_sR]; exact ci_1228
  have ci_1238 : pI S_123 1238 mo = 0 := by rw [← eS_123, pI_sR]; exact ci_1238
  have ci_1245 : pI S_123 1245 mo = 0 := by rw [← eS_123, pI_sR]; exact ci_1245
  have ci_1246 : pI S_123 1246 mo = 0 := by rw [← eS_123, pI_sR]; exact ci_1246
  have ci_1251 : pI S_123 1251 mo = 0 := by rw [← eS_123, pI_sR]; exact ci_1251
  have ci_1262 : pI S_123 1262 mo = 0 := by rw [← eS_123, pI_sR]; exact ci_1262
  have hn_122 : pN S_123 q_119 = 10 := by rw [← eS_123, pN_sR]; exact hn_122
  have hFA : FaA S_123 mo [(1204, 14, 10), (1203, 14, 10), (1202, 14, 10)] := by rw [← eS_123]; exact FaA_sR hFA (by decide)
  have hr_124 : pR S_123 1205 mo = some q_119 := by rw [← eS_123]; exact pR_sR_same
  have hFA : FaA S_123 mo [(1205, 14, 10), (1204, 14, 10), (1203, 14, 10), (1202, 14, 10)] := FaA_cons ⟨_, hr_124, ha_121, hn_122⟩ hFA
  refine lv_aload_n X.1 X.2.1 dX12_init_36 rfl (lv_at hl 0 rfl) ?_
  refine lv_bipush (v := 10) X.1 X.2.1 dX12_init_37 (by decide) ?_
  have hat_mo_o := hat_mo
  refine r_newI (N := 10) X hw 50 5 (X.2.2.2.1 (.arrayClass .int) (by decide +kernel)) (by decide) (by decide) (by decide) (Nat.le_of_ble_eq_true rfl) (Nat.le_of_ble_eq_true rfl) (Nat.le_of_ble_eq_true rfl) (Nat.le_of_ble_eq_true rfl) dX12_init_39 (fun q_125 H hq_125 hw => ?_)
  have ne_mo_q_125 : mo ≠ q_125 := At_old hat_mo_o hq_125
  generalize eS_126 : sN S_123 q_125 14 10 = S_126 at hw
  have hat_mo : At S_126 mo 12 := by rw [← eS_126]; exact At_sN hat_mo hq_125
  have ci_1201 : pI S_126 1201 mo = 0 := by rw [← eS_126, pI_sN]; exact ci_1201
  have ci_1211 : pI S_126 1211 mo = 0 := by rw [← eS_126, pI_sN]; exact ci_1211
  have ci_1228 : pI S_126 1228 mo = 0 := by rw [← eS_126, pI_sN]; exact ci_1228
  have ci_1238 : pI S_126 1238 mo = 0 := by rw [← eS_126, pI_sN]; exact ci_1238
  have ci_1245 : pI S_126 1245 mo = 0 := by rw [← eS_126, pI_sN]; exact ci_1245
  have ci_1246 : pI S_126 1246 mo = 0 := by rw [← eS_126, pI_sN]; exact ci_1246
  have ci_1251 : pI S_126 1251 mo = 0 := by rw [← eS_126, pI_sN]; exact ci_1251
  have ci_1262 : pI S_126 1262 mo = 0 := by rw [← eS_126, pI_sN]; exact ci_1262
  have hFA : FaA S_126 mo [(1205, 14, 10), (1204, 14, 10), (1203, 14, 10), (1202, 14, 10)] := by rw [← eS_126]; exact FaA_sN hFA hq_125
  have ha_127 : At S_126 q_125 14 := by rw [← eS_126]; exact At_nN _ _ _ _
  have hn_128 : pN S_126 q_125 = 10 := by rw [← eS_126]; exact pN_sN_new
  refine r_putR X hw hat_mo 6 1206 (some q_125) rfl tyX12 (by decide) rfl inn_X12_init_12 tyX12_ok nmX12 (by decide) (X.2.2.2.1 (.fieldLink RX12 22 "SilkMillModel" "lotFrail" "[I") (by decide +kernel)) rfl (Or.inr ⟨rfl, hin, rfl⟩) (fun _ => rfl) rfl (fun _ => rfl) rfl (Nat.le_of_ble_eq_true rfl) (st_1206 _ _) dX12_init_41 (fun H locs hw => ?_)
  generalize eS_129 : sR S_126 1206 mo (some q_125) = S_129 at hw
  have hat_mo : At S_129 mo 12 := by rw [← eS_129]; exact At_sR hat_mo
  have ha_127 : At S_129 q_125 14 := by rw [← eS_129]; exact At_sR ha_127
  have ci_1201 : pI S_129 1201 mo = 0 := by rw [← eS_129, pI_sR]; exact ci_1201
  have ci_1211 : pI S_129 1211 mo = 0 := by rw [← eS_129, pI_sR]; exact ci_1211
  have ci_1228 : pI S_129 1228 mo = 0 := by rw [← eS_129, pI_sR]; exact ci_1228
  have ci_1238 : pI S_129 1238 mo = 0 := by rw [← eS_129, pI_sR]; exact ci_1238
  have ci_1245 : pI S_129 1245 mo = 0 := by rw [← eS_129, pI_sR]; exact ci_1245
  have ci_1246 : pI S_129 1246 mo = 0 := by rw [← eS_129, pI_sR]; exact ci_1246
  have ci_1251 : pI S_129 1251 mo = 0 := by rw [← eS_129, pI_sR]; exact ci_1251
  have ci_1262 : pI S_129 1262 mo = 0 := by rw [← eS_129, pI_sR]; exact ci_1262
  have hn_128 : pN S_129 q_125 = 10 := by rw [← eS_129, pN_sR]; exact hn_128
  have hFA : FaA S_129 mo [(1205, 14, 10), (1204, 14, 10), (1203, 14, 10), (1202, 14, 10)] := by rw [← eS_129]; exact FaA_sR hFA (by decide)
  have hr_130 : pR S_129 1206 mo = some q_125 := by rw [← eS_129]; exact pR_sR_same
  have hFA : FaA S_129 mo [(1206, 14, 10), (1205, 14, 10), (1204, 14, 10), (1203, 14, 10), (1202, 14, 10)] := FaA_cons ⟨_, hr_130, ha_127, hn_128⟩ hFA
  refine lv_aload_n X.1 X.2.1 dX12_init_44 rfl (lv_at hl 0 rfl) ?_
  refine lv_sipush (v := 600) X.1 X.2.1 dX12_init_45 (by decide) ?_
  have hat_mo_o := hat_mo
  refine r_newI (N := 600) X hw 650 6 (X.2.2.2.1 (.arrayClass .int) (by decide +kernel)) (by decide) (by decide) (by decide) (Nat.le_of_ble_eq_true rfl) (Nat.le_of_ble_eq_true rfl) (Nat.le_of_ble_eq_true rfl) (Nat.le_of_ble_eq_true rfl) dX12_init_48 (fun q_131 H hq_131 hw => ?_)
  have ne_mo_q_131 : mo ≠ q_131 := At_old hat_mo_o hq_131
  generalize eS_132 : sN S_129 q_131 14 600 = S_132 at hw
  have hat_mo : At S_132 mo 12 := by rw [← eS_132]; exact At_sN hat_mo hq_131
  have ci_1201 : pI S_132 1201 mo = 0 := by rw [← eS_132, pI_sN]; exact ci_1201
  have ci_1211 : pI S_132 1211 mo = 0 := by rw [← eS_132, pI_sN]; exact ci_1211
  have ci_1228 : pI S_132 1228 mo = 0 := by rw [← eS_132, pI_sN]; exact ci_1228
  have ci_1238 : pI S_132 1238 mo = 0 := by rw [← eS_132, pI_sN]; exact ci_1238
  have ci_1245 : pI S_132 1245 mo = 0 := by rw [← eS_132, pI_sN]; exact ci_1245
  have ci_1246 : pI S_132 1246 mo = 0 := by rw [← eS_132, pI_sN]; exact ci_1246
  have ci_1251 : pI S_132 1251 mo = 0 := by rw [← eS_132, pI_sN]; exact ci_1251
  have ci_1262 : pI S_132 1262 mo = 0 := by rw [← eS_132, pI_sN]; exact ci_1262
  have hFA : FaA S_132 mo [(1206, 14, 10), (1205, 14, 10), (1204, 14, 10), (1203, 14, 10), (1202, 14, 10)] := by rw [← eS_132]; exact FaA_sN hFA hq_131
  have ha_133 : At S_132 q_131 14 := by rw [← eS_132]; exact At_nN _ _ _ _
  have hn_134 : pN S_132 q_131 = 600 := by rw [← eS_132]; exact pN_sN_new
  refine r_putR X hw hat_mo 7 1207 (some q_131) rfl tyX12 (by decide) rfl inn_X12_init_12 tyX12_ok nmX12 (by decide) (X.2.2.2.1 (.fieldLink RX12 25 "SilkMillModel" "stand" "[I") (by decide +kernel)) rfl (Or.inr ⟨rfl, hin, rfl⟩) (fun _ => rfl) rfl (fun _ => rfl) rfl (Nat.le_of_ble_eq_true rfl) (st_1207 _ _) dX12_init_50 (fun H locs hw => ?_)
  generalize eS_135 : sR S_132 1207 mo (some q_131) = S_135 at hw
  have hat_mo : At S_135 mo 12 := by rw [← eS_135]; exact At_sR hat_mo
  have ha_133 : At S_135 q_131 14 := by rw [← eS_135]; exact At_sR ha_133
  have ci_1201 : pI S_135 1201 mo = 0 := by rw [← eS_135, pI_sR]; exact ci_1201
  have ci_1211 : pI S_135 1211 mo = 0 := by rw [← eS_135, pI_sR]; exact ci_1211
  have ci_1228 : pI S_135 1228 mo = 0 := by rw [← eS_135, pI_sR]; exact ci_1228
  have ci_1238 : pI S_135 1238 mo = 0 := by rw [← eS_135, pI_sR]; exact ci_1238
  have ci_1245 : pI S_135 1245 mo = 0 := by rw [← eS_135, pI_sR]; exact ci_1245
  have ci_1246 : pI S_135 1246 mo = 0 := by rw [← eS_135, pI_sR]; exact ci_1246
  have ci_1251 : pI S_135 1251 mo = 0 := by rw [← eS_135, pI_sR]; exact ci_1251
  have ci_1262 : pI S_135 1262 mo = 0 := by rw [← eS_135, pI_sR]; exact ci_1262
  have hn_134 : pN S_135 q_131 = 600 := by rw [← eS_135, pN_sR]; exact hn_134
  have hFA : FaA S_135 mo [(1206, 14, 10), (1205, 14, 10), (1204, 14, 10), (1203, 14, 10), (1202, 14, 10)] := by rw [← eS_135]; exact FaA_sR hFA (by decide)
  have hr_136 : pR S_135 1207 mo = some q_131 := by rw [← eS_135]; exact pR_sR_same
  have hFA : FaA S_135 mo [(1207, 14, 600), (1206, 14, 10), (1205, 14, 10), (1204, 14, 10), (1203, 14, 10), (1202, 14, 10)] := FaA_cons ⟨_, hr_136, ha_133, hn_134⟩ hFA
  refine lv_aload_n X.1 X.2.1 dX12_init_53 rfl (lv_at hl 0 rfl) ?_
  refine lv_sipush (v := 600) X.1 X.2.1 dX12_init_54 (by decide) ?_
  have hat_mo_o := hat_mo
  refine r_newI (N := 600) X hw 1250 7 (X.2.2.2.1 (.arrayClass .int) (by decide +kernel)) (by decide) (by decide) (by decide) (Nat.le_of_ble_eq_true rfl) (Nat.le_of_ble_eq_true rfl) (Nat.le_of_ble_eq_true rfl) (Nat.le_of_ble_eq_true rfl) dX12_init_57 (fun q_137 H hq_137 hw => ?_)
  have ne_mo_q_137 : mo ≠ q_137 := At_old hat_mo_o hq_137
  generalize eS_138 : sN S_135 q_137 14 600 = S_138 at hw
  have hat_mo : At S_138 mo 12 := by rw [← eS_138]; exact At_sN hat_mo hq_137
  have ci_1201 : pI S_138 1201 mo = 0 := by rw [← eS_138, pI_sN]; exact ci_1201
  have ci_1211 : pI S_138 1211 mo = 0 := by rw [← eS_138, pI_sN]; exact ci_1211
  have ci_1228 : pI S_138 1228 mo = 0 := by rw [← eS_138, pI_sN]; exact ci_1228
  have ci_1238 : pI S_138 1238 mo = 0 := by rw [← eS_138, pI_sN]; exact ci_1238
  have ci_1245 : pI S_138 1245 mo = 0 := by rw [← eS_138, pI_sN]; exact ci_1245
  have ci_1246 : pI S_138 1246 mo = 0 := by rw [← eS_138, pI_sN]; exact ci_1246
  have ci_1251 : pI S_138 1251 mo = 0 := by rw [← eS_138, pI_sN]; exact ci_1251
  have ci_1262 : pI S_138 1262 mo = 0 := by rw [← eS_138, pI_sN]; exact ci_1262
  have hFA : FaA S_138 mo [(1207, 14, 600), (1206, 14, 10), (1205, 14, 10), (1204, 14, 10), (1203, 14, 10), (1202, 14, 10)] := by rw [← eS_138]; exact FaA_sN hFA hq_137
  have ha_139 : At S_138 q_137 14 := by rw [← eS_138]; exact At_nN _ _ _ _
  have hn_140 : pN S_138 q_137 = 600 := by rw [← eS_138]; exact pN_sN_new
  refine r_putR X hw hat_mo 8 1208 (some q_137) rfl tyX12 (by decide) rfl inn_X12_init_12 tyX12_ok nmX12 (by decide) (X.2.2.2.1 (.fieldLink RX12 28 "SilkMillModel" "place" "[I") (by decide +kernel)) rfl (Or.inr ⟨rfl, hin, rfl⟩) (fun _ => rfl) rfl (fun _ => rfl) rfl (Nat.le_of_ble_eq_true rfl) (st_1208 _ _) dX12_init_59 (fun H locs hw => ?_)
  generalize eS_141 : sR S_138 1208 mo (some q_137) = S_141 at hw
  have hat_mo : At S_141 mo 12 := by rw [← eS_141]; exact At_sR hat_mo
  have ha_139 : At S_141 q_137 14 := by rw [← eS_141]; exact At_sR ha_139
  have ci_1201 : pI S_141 1201 mo = 0 := by rw [← eS_141, pI_sR]; exact ci_1201
  have ci_1211 : pI S_141 1211 mo = 0 := by rw [← eS_141, pI_sR]; exact ci_1211
  have ci_1228 : pI S_141 1228 mo = 0 := by rw [← eS_141, pI_sR]; exact ci_1228
  have ci_1238 : pI S_141 1238 mo = 0 := by rw [← eS_141, pI_sR]; exact ci_1238
  have ci_1245 : pI S_141 1245 mo = 0 := by rw [← eS_141, pI_sR]; exact ci_1245
  have ci_1246 : pI S_141 1246 mo = 0 := by rw [← eS_141, pI_sR]; exact ci_1246
  have ci_1251 : pI S_141 1251 mo = 0 := by rw [← eS_141, pI_sR]; exact ci_1251
  have ci_1262 : pI S_141 1262 mo = 0 := by rw [← eS_141, pI_sR]; exact ci_1262
  have hn_140 : pN S_141 q_137 = 600 := by rw [← eS_141, pN_sR]; exact hn_140
  have hFA : FaA S_141 mo [(1207, 14, 600), (1206, 14, 10), (1205, 14, 10), (1204, 14, 10), (1203, 14, 10), (1202, 14, 10)] := by rw [← eS_141]; exact FaA_sR hFA (by decide)
  have hr_142 : pR S_141 1208 mo = some q_137 := by rw [← eS_141]; exact pR_sR_same
  have hFA : FaA S_141 mo [(1208, 14, 600), (1207, 14, 600), (1206, 14, 10), (1205, 14, 10), (1204, 14, 10), (1203, 14, 10), (1202, 14, 10)] := FaA_cons ⟨_, hr_142, ha_139, hn_140⟩ hFA
  exact kk  _ _ _ _ hw hl hat_mo ci_1201 ci_1211 ci_1228 ci_1238 ci_1245 ci_1246 ci_1251 ci_1262 hFA
set_option maxHeartbeats 4000000 in
set_option maxRecDepth 100000 in
theorem sgM_1 {p : Program} {l : Launch} {e : Env} {s : State} {m : MethodId} {below : List Frame} {meth : Method} {c : Code} {Q : State → Prop} (G : va_G) (cy : Nat → ClassId) (S0 : PS) (mo : Nat) (X : Cx p c cX12_init 2 s [.ref mo].toArray wsX12_init RX12 m G cy (AS S0 s.heap.size)) (hin : meth.name = "<init>") (S : PS) (H : Heap) (locs : List Loc) (ls : Array Slot) (hw : Wd G cy (AS S0 s.heap.size) s.heap S H locs) (hl : lv_has ls 2 [(0, .ref mo)]) (hat_mo : At S mo 12) (ci_1201 : pI S 1201 mo = 0) (ci_1211 : pI S 1211 mo = 0) (ci_1228 : pI S 1228 mo = 0) (ci_1238 : pI S 1238 mo = 0) (ci_1245 : pI S 1245 mo = 0) (ci_1246 : pI S 1246 mo = 0) (ci_1251 : pI S 1251 mo = 0) (ci_1262 : pI S 1262 mo = 0) (hFA : FaA S mo [(1208, 14, 600), (1207, 14, 600), (1206, 14, 10), (1205, 14, 10), (1204, 14, 10), (1203, 14, 10), (1202, 14, 10)]) (kk : ∀ (S : PS) (H : Heap) (locs : List Loc) (ls : Array Slot), Wd G cy (AS S0 s.heap.size) s.heap S H locs → lv_has ls 2 [(0, .ref mo)] → At S mo 12 → pI S 1201 mo = 0 → pI S 1211 mo = 0 → pI S 1228 mo = 0 → pI S 1238 mo = 0 → pI S 1245 mo = 0 → pI S 1246 mo = 0 → pI S 1251 mo = 0 → pI S 1262 mo = 0 → FaA S mo [(1216, 14, 4), (1215, 14, 4), (1214, 14, 4), (1213, 14, 4), (1212, 14, 4), (1210, 14, 8), (1209, 14, 600), (1208, 14, 600), (1207, 14, 600), (1206, 14, 10), (1205, 14, 10), (1204, 14, 10), (1203, 14, 10), (1202, 14, 10)] → W p l e ({ frames := 2, cells := 70, slots := 190000, locals := 80 }) s m [.ref mo].toArray below meth c H locs 14 1878 Q (F0 m 156 ls [])) : W p l e ({ frames := 2, cells := 70, slots := 190000, locals := 80 }) s m [.ref mo].toArray below meth c H locs 7 1250 Q (F0 m 62 ls []) := by
  refine lv_aload_n X.1 X.2.1 dX12_init_62 rfl (lv_at hl 0 rfl) ?_
  refine lv_sipush (v := 600) X.1 X.2.1 dX12_init_63 (by decide) ?_
  have hat_mo_o := hat_mo
  refine r_newI (N := 600) X hw 1850 8 (X.2.2.2.1 (.arrayClass .int) (by decide +kernel)) (by decide) (by decide) (by decide) (Nat.le_of_ble_eq_true rfl) (Nat.le_of_ble_eq_true rfl) (Nat.le_of_ble_eq_true rfl) (Nat.le_of_ble_eq_true rfl) dX12_init_66 (fun q_201 H hq_201 hw => ?_)
  have ne_mo_q_201 : mo ≠ q_201 := At_old hat_mo_o hq_201
  generalize eS_202 : sN S q_201 14 600 = S_202 at hw
  have hat_mo : At S_202 mo 12 := by rw [← eS_202]; exact At_sN hat_mo hq_201
  have ci_1201 : pI S_202 1201 mo = 0 := by rw [← eS_202, pI_sN]; exact ci_1201
  have ci_1211 : pI S_202 1211 mo = 0 := by rw [← eS_202, pI_sN]; exact ci_1211
  have ci_1228 : pI S_202 1228 mo = 0 := by rw [← eS_202, pI_sN]; exact ci_1228
  have ci_1238 : pI S_202 1238 mo = 0 := by rw [← eS_202, pI_sN]; exact ci_1238
  have ci_1245 : pI S_202 1245 mo = 0 := by rw [← eS_202, pI_sN]; exact ci_1245
  have ci_1246 : pI S_202 1246 mo = 0 := by rw [← eS_202, pI_sN]; exact ci_1246
  have ci_1251 : pI S_202 1251 mo = 0 := by rw [← eS_202, pI_sN]; exact ci_1251
  have ci_1262 : pI S_202 1262 mo = 0 := by rw [← eS_202, pI_sN]; exact ci_1262
  have hFA : FaA S_202 mo [(1208, 14, 600), (1207, 14, 600), (1206, 14, 10), (1205, 14, 10), (1204, 14, 10), (1203, 14, 10), (1202, 14, 10)] := by rw [← eS_202]; exact FaA_sN hFA hq_201
  have ha_203 : At S_202 q_201 14 := by rw [← eS_202]; exact At_nN _ _ _ _
  have hn_204 : pN S_202 q_201 = 600 := by rw [← eS_202]; exact pN_sN_new
  refine r_putR X hw hat_mo 9 1209 (some q_201) rfl tyX12 (by decide) rfl inn_X12_init_12 tyX12_ok nmX12 (by decide) (X.2.2.2.1 (.fieldLink RX12 31 "SilkMillModel" "potOf" "[I") (by decide +kernel)) rfl (Or.inr ⟨rfl, hin, rfl⟩) (fun _ => rfl) rfl (fun _ => rfl) rfl (Nat.le_of_ble_eq_true rfl) (st_1209 _ _) dX12_init_68 (fun H locs hw => ?_)
  generalize eS_205 : sR S_202 1209 mo (some q_201) = S_205 at hw
  have hat_mo : At S_205 mo 12 := by rw [← eS_205]; exact At_sR hat_mo
  have ha_203 : At S_205 q_201 14 := by rw [← eS_205]; exact At_sR ha_203
  have ci_1201 : pI S_205 1201 mo = 0 := by rw [← eS_205, pI_sR]; exact ci_1201
  have ci_1211 : pI S_205 1211 mo = 0 := by rw [← eS_205, pI_sR]; exact ci_1211
  have ci_1228 : pI S_205 1228 mo = 0 := by rw [← eS_205, pI_sR]; exact ci_1228
  have ci_1238 : pI S_205 1238 mo = 0 := by rw [← eS_205, pI_sR]; exact ci_1238
  have ci_1245 : pI S_205 1245 mo = 0 := by rw [← eS_205, pI_sR]; exact ci_1245
  have ci_1246 : pI S_205 1246 mo = 0 := by rw [← eS_205, pI_sR]; exact ci_1246
  have ci_1251 : pI S_205 1251 mo = 0 := by rw [← eS_205, pI_sR]; exact ci_1251
  have ci_1262 : pI S_205 1262 mo = 0 := by rw [← eS_205, pI_sR]; exact ci_1262
  have hn_204 : pN S_205 q_201 = 600 := by rw [← eS_205, pN_sR]; exact hn_204
  have hFA : FaA S_205 mo [(1208, 14, 600), (1207, 14, 600), (1206, 14, 10), (1205, 14, 10), (1204, 14, 10), (1203, 14, 10), (1202, 14, 10)] := by rw [← eS_205]; exact FaA_sR hFA (by decide)
  have hr_206 : pR S_205 1209 mo = some q_201 := by rw [← eS_205]; exact pR_sR_same
  have hFA : FaA S_205 mo [(1209, 14, 600), (1208, 14, 600), (1207, 14, 600), (1206, 14, 10), (1205, 14, 10), (1204, 14, 10), (1203, 14, 10), (1202, 14, 10)] := FaA_cons ⟨_, hr_206, ha_203, hn_204⟩ hFA
  refine lv_aload_n X.1 X.2.1 dX12_init_71 rfl (lv_at hl 0 rfl) ?_
  refine lv_bipush (v := 8) X.1 X.2.1 dX12_init_72 (by decide) ?_
  have hat_mo_o := hat_mo
  refine r_newI (N := 8) X hw 1858 9 (X.2.2.2.1 (.arrayClass .int) (by decide +kernel)) (by decide) (by decide) (by decide) (Nat.le_of_ble_eq_true rfl) (Nat.le_of_ble_eq_true rfl) (Nat.le_of_ble_eq_true rfl) (Nat.le_of_ble_eq_true rfl) dX12_init_74 (fun q_207 H hq_207 hw => ?_)
  have ne_mo_q_207 : mo ≠ q_207 := At_old hat_mo_o hq_207
  generalize eS_208 : sN S_205 q_207 14 8 = S_208 at hw
  have hat_mo : At S_208 mo 12 := by rw [← eS_208]; exact At_sN hat_mo hq_207
  have ci_1201 : pI S_208 1201 mo = 0 := by rw [← eS_208, pI_sN]; exact ci_1201
  have ci_1211 : pI S_208 1211 mo = 0 := by rw [← eS_208, pI_sN]; exact ci_1211
  have ci_1228 : pI S_208 1228 mo = 0 := by rw [← eS_208, pI_sN]; exact ci_1228
  have ci_1238 : pI S_208 1238 mo = 0 := by rw [← eS_208, pI_sN]; exact ci_1238
  have ci_1245 : pI S_208 1245 mo = 0 := by rw [← eS_208, pI_sN]; exact ci_1245
  have ci_1246 : pI S_208 1246 mo = 0 := by rw [← eS_208, pI_sN]; exact ci_1246
  have ci_1251 : pI S_208 1251 mo = 0 := by rw [← eS_208, pI_sN]; exact ci_1251
  have ci_1262 : pI S_208 1262 mo = 0 := by rw [← eS_208, pI_sN]; exact ci_1262
  have hFA : FaA S_208 mo [(1209, 14, 600), (1208, 14, 600), (1207, 14, 600), (1206, 14, 10), (1205, 14, 10), (1204, 14, 10), (1203, 14, 10), (1202, 14, 10)] := by rw [← eS_208]; exact FaA_sN hFA hq_207
  have ha_209 : At S_208 q_207 14 := by rw [← eS_208]; exact At_nN _ _ _ _
  have hn_210 : pN S_208 q_207 = 8 := by rw [← eS_208]; exact pN_sN_new
  refine lv_dup X.1 X.2.1 dX12_init_76 rfl ?_
  refine lv_iconst (v := 0) X.1 X.2.1 dX12_init_77 (by decide) ?_
  refine lv_bipush (v := 100) X.1 X.2.1 dX12_init_78 (by decide) ?_
  refine r_iast X hw ha_209 (by rw [hn_210]; exact vp_in_iff.mpr (by decide +kernel)) dX12_init_80 (fun H locs hw => ?_)
  generalize eS_211 : sA S_208 q_207 (upd (pA S_208 q_207) (Int32.toNatClampNeg (0)) 100) = S_211 at hw
  have hat_mo : At S_211 mo 12 := by rw [← eS_211]; exact At_sA hat_mo
  have ha_209 : At S_211 q_207 14 := by rw [← eS_211]; exact At_sA ha_209
  have ci_1201 : pI S_211 1201 mo = 0 := by rw [← eS_211, pI_sA]; exact ci_1201
  have ci_1211 : pI S_211 1211 mo = 0 := by rw [← eS_211, pI_sA]; exact ci_1211
  have ci_1228 : pI S_211 1228 mo = 0 := by rw [← eS_211, pI_sA]; exact ci_1228
  have ci_1238 : pI S_211 1238 mo = 0 := by rw [← eS_211, pI_sA]; exact ci_1238
  have ci_1245 : pI S_211 1245 mo = 0 := by rw [← eS_211, pI_sA]; exact ci_1245
  have ci_1246 : pI S_211 1246 mo = 0 := by rw [← eS_211, pI_sA]; exact ci_1246
  have ci_1251 : pI S_211 1251 mo = 0 := by rw [← eS_211, pI_sA]; exact ci_1251
  have ci_1262 : pI S_211 1262 mo = 0 := by rw [← eS_211, pI_sA]; exact ci_1262
  have hn_210 : pN S_211 q_207 = 8 := by rw [← eS_211, pN_sA]; exact hn_210
  have hFA : FaA S_211 mo [(1209, 14, 600), (1208, 14, 600), (1207, 14, 600), (1206, 14, 10), (1205, 14, 10), (1204, 14, 10), (1203, 14, 10), (1202, 14, 10)] := by rw [← eS_211]; exact FaA_sA hFA
  refine lv_dup X.1 X.2.1 dX12_init_81 rfl ?_
  refine lv_iconst (v := 1) X.1 X.2.1 dX12_init_82 (by decide) ?_
  refine lv_bipush (v := 104) X.1 X.2.1 dX12_init_83 (by decide) ?_
  refine r_iast X hw ha_209 (by rw [hn_210]; exact vp_in_iff.mpr (by decide +kernel)) dX12_init_85 (fun H locs hw => ?_)
  generalize eS_212 : sA S_211 q_207 (upd (pA S_211 q_207) (Int32.toNatClampNeg (1)) 104) = S_212 at hw
  have hat_mo : At S_212 mo 12 := by rw [← eS_212]; exact At_sA hat_mo
  have ha_209 : At S_212 q_207 14 := by rw [← eS_212]; exact At_sA ha_209
  have ci_1201 : pI S_212 1201 mo = 0 := by rw [← eS_212, pI_sA]; exact ci_1201
  have ci_1211 : pI S_212 1211 mo = 0 := by rw [← eS_212, pI_sA]; exact ci_1211
  have ci_1228 : pI S_212 1228 mo = 0 := by rw [← eS_212, pI_sA]; exact ci_1228
  have ci_1238 : pI S_212 1238 mo = 0 := by rw [← eS_212, pI_sA]; exact ci_1238
  have ci_1245 : pI S_212 1245 mo = 0 := by rw [← eS_212, pI_sA]; exact ci_1245
  have ci_1246 : pI S_212 1246 mo = 0 := by rw [← eS_212, pI_sA]; exact ci_1246
  have ci_1251 : pI S_212 1251 mo = 0 := by rw [← eS_212, pI_sA]; exact ci_1251
  have ci_1262 : pI S_212 1262 mo = 0 := by rw [← eS_212, pI_sA]; exact ci_1262
  have hn_210 : pN S_212 q_207 = 8 := by rw [← eS_212, pN_sA]; exact hn_210
  have hFA : FaA S_212 mo [(1209, 14, 600), (1208, 14, 600), (1207, 14, 600), (1206, 14, 10), (1205, 14, 10), (1204, 14, 10), (1203, 14, 10), (1202, 14, 10)] := by rw [← eS_212]; exact FaA_sA hFA
  refine lv_dup X.1 X.2.1 dX12_init_86 rfl ?_
  refine lv_iconst (v := 2) X.1 X.2.1 dX12_init_87 (by decide) ?_
  refine lv_bipush (v := 102) X.1 X.2.1 dX12_init_88 (by decide) ?_
  refine r_iast X hw ha_209 (by rw [hn_210]; exact vp_in_iff.mpr (by decide +kernel)) dX12_init_90 (fun H locs hw => ?_)
  generalize eS_213 : sA S_212 q_207 (upd (pA S_212 q_207) (Int32.toNatClampNeg (2)) 102) = S_213 at hw
  have hat_mo : At S_213 mo 12 := by rw [← eS_213]; exact At_sA hat_mo
  have ha_209 : At S_213 q_207 14 := by rw [← eS_213]; exact At_sA ha_209
  have ci_1201 : pI S_213 1201 mo = 0 := by rw [← eS_213, pI_sA]; exact ci_1201
  have ci_1211 : pI S_213 1211 mo = 0 := by rw [← eS_213, pI_sA]; exact ci_1211
  have ci_1228 : pI S_213 1228 mo = 0 := by rw [← eS_213, pI_sA]; exact ci_1228
  have ci_1238 : pI S_213 1238 mo = 0 := by rw [← eS_213, pI_sA]; exact ci_1238
  have ci_1245 : pI S_213 1245 mo = 0 := by rw [← eS_213, pI_sA]; exact ci_1245
  have ci_1246 : pI S_213 1246 mo = 0 := by rw [← eS_213, pI_sA]; exact ci_1246
  have ci_1251 : pI S_213 1251 mo = 0 := by rw [← eS_213, pI_sA]; exact ci_1251
  have ci_1262 : pI S_213 1262 mo = 0 := by rw [← eS_213, pI_sA]; exact ci_1262
  have hn_210 : pN S_213 q_207 = 8 := by rw [← eS_213, pN_sA]; exact hn_210
  have hFA : FaA S_213 mo [(1209, 14, 600), (1208, 14, 600), (1207, 14, 600), (1206, 14, 10), (1205, 14, 10), (1204, 14, 10), (1203, 14, 10), (1202, 14, 10)] := by rw [← eS_213]; exact FaA_sA hFA
  refine lv_dup X.1 X.2.1 dX12_init_91 rfl ?_
  refine lv_iconst (v := 3) X.1 X.2.1 dX12_init_92 (by decide) ?_
  refine lv_bipush (v := 97) X.1 X.2.1 dX12_init_93 (by decide) ?_
  refine r_iast X hw ha_209 (by rw [hn_210]; exact vp_in_iff.mpr (by decide +kernel)) dX12_init_95 (fun H locs hw => ?_)
  generalize eS_214 : sA S_213 q_207 (upd (pA S_213 q_207) (Int32.toNatClampNeg (3)) 97) = S_214 at hw
  have hat_mo : At S_214 mo 12 := by rw [← eS_214]; exact At_sA hat_mo
  have ha_209 : At S_214 q_207 14 := by rw [← eS_214]; exact At_sA ha_209
  have ci_1201 : pI S_214 1201 mo = 0 := by rw [← eS_214, pI_sA]; exact ci_1201
  have ci_1211 : pI S_214 1211 mo = 0 := by rw [← eS_214, pI_sA]; exact ci_1211
  have ci_1228 : pI S_214 1228 mo = 0 := by rw [← eS_214, pI_sA]; exact ci_1228
  have ci_1238 : pI S_214 1238 mo = 0 := by rw [← eS_214, pI_sA]; exact ci_1238
  have ci_1245 : pI S_214 1245 mo = 0 := by rw [← eS_214, pI_sA]; exact ci_1245
  have ci_1246 : pI S_214 1246 mo = 0 := by rw [← eS_214, pI_sA]; exact ci_1246
  have ci_1251 : pI S_214 1251 mo = 0 := by rw [← eS_214, pI_sA]; exact ci_1251
  have ci_1262 : pI S_214 1262 mo = 0 := by rw [← eS_214, pI_sA]; exact ci_1262
  have hn_210 : pN S_214 q_207 = 8 := by rw [← eS_214, pN_sA]; exact hn_210
  have hFA : FaA S_214 mo [(1209, 14, 600), (1208, 14, 600), (1207, 14, 600), (1206, 14, 10), (1205, 14, 10), (1204, 14, 10), (1203, 14, 10), (1202, 14, 10)] := by rw [← eS_214]; exact FaA_sA hFA
  refine lv_dup X.1 X.2.1 dX12_init_96 rfl ?_
  refine lv_iconst (v := 4) X.1 X.2.1 dX12_init_97 (by decide) ?_
  refine lv_bipush (v := 90) X.1 X.2.1 dX12_init_98 (by decide) ?_
  refine r_iast X hw ha_209 (by rw [hn_210]; exact vp_in_iff.mpr (by decide +kernel)) dX12_init_100 (fun H locs hw => ?_)
  generalize eS_215 : sA S_214 q_207 (upd (pA S_214 q_207) (Int32.toNatClampNeg (4)) 90) = S_215 at hw
  have hat_mo : At S_215 mo 12 := by rw [← eS_215]; exact At_sA hat_mo
  have ha_209 : At S_215 q_207 14 := by rw [← eS_215]; exact At_sA ha_209
  have ci_1201 : pI S_215 1201 mo = 0 := by rw [← eS_215, pI_sA]; exact ci_1201
  have ci_1211 : pI S_215 1211 mo = 0 := by rw [← eS_215, pI_sA]; exact ci_1211
  have ci_1228 : pI S_215 1228 mo = 0 := by rw [← eS_215, pI_sA]; exact ci_1228
  have ci_1238 : pI S_215 1238 mo = 0 := by rw [← eS_215, pI_sA]; exact ci_1238
  have ci_1245 : pI S_215 1245 mo = 0 := by rw [← eS_215, pI_sA]; exact ci_1245
  have ci_1246 : pI S_215 1246 mo = 0 := by rw [← eS_215, pI_sA]; exact ci_1246
  have ci_1251 : pI S_215 1251 mo = 0 := by rw [← eS_215, pI_sA]; exact ci_1251
  have ci_1262 : pI S_215 1262 mo = 0 := by rw [← eS_215, pI_sA]; exact ci_1262
  have hn_210 : pN S_215 q_207 = 8 := by rw [← eS_215, pN_sA]; exact hn_210
  have hFA : FaA S_215 mo [(1209, 14, 600), (1208, 14, 600), (1207, 14, 600), (1206, 14, 10), (1205, 14, 10), (1204, 14, 10), (1203, 14, 10), (1202, 14, 10)] := by rw [← eS_215]; exact FaA_sA hFA
  refine lv_dup X.1 X.2.1 dX12_init_101 rfl ?_
  refine lv_iconst (v := 5) X.1 X.2.1 dX12_init_102 (by decide) ?_
  refine lv_bipush (v := 81) X.1 X.2.1 dX12_init_103 (by decide) ?_
  refine r_iast X hw ha_209 (by rw [hn_210]; exact vp_in_iff.mpr (by decide +kernel)) dX12_init_105 (fun H locs hw => ?_)
  generalize eS_216 : sA S_215 q_207 (upd (pA S_215 q_207) (Int32.toNatClampNeg (5)) 81) = S_216 at hw
  have hat_mo : At S_216 mo 12 := by rw [← eS_216]; exact At_sA hat_mo
  have ha_209 : At S_216 q_207 14 := by rw [← eS_216]; exact At_sA ha_209
  have ci_1201 : pI S_216 1201 mo = 0 := by rw [← eS_216, pI_sA]; exact ci_1201
  have ci_1211 : pI S_216 1211 mo = 0 := by rw [← eS_216, pI_sA]; exact ci_1211
  have ci_1228 : pI S_216 1228 mo = 0 := by rw [← eS_216, pI_sA]; exact ci_1228
  have ci_1238 : pI S_216 1238 mo = 0 := by rw [← eS_216, pI_sA]; exact ci_1238
  have ci_1245 : pI S_216 1245 mo = 0 := by rw [← eS_216, pI_sA]; exact ci_1245
  have ci_1246 : pI S_216 1246 mo = 0 := by rw [← eS_216, pI_sA]; exact ci_1246
  have ci_1251 : pI S_216 1251 mo = 0 := by rw [← eS_216, pI_sA]; exact ci_1251
  have ci_1262 : pI S_216 1262 mo = 0 := by rw [← eS_216, pI_sA]; exact ci_1262
  have hn_210 : pN S_216 q_207 = 8 := by rw [← eS_216, pN_sA]; exact hn_210
  have hFA : FaA S_216 mo [(1209, 14, 600), (1208, 14, 600), (1207, 14, 600), (1206, 14, 10), (1205, 14, 10), (1204, 14, 10), (1203, 14, 10), (1202, 14, 10)] := by rw [← eS_216]; exact FaA_sA hFA
  refine lv_dup X.1 X.2.1 dX12_init_106 rfl ?_
  refine lv_bipush (v := 6) X.1 X.2.1 dX12_init_107 (by decide) ?_
  refine lv_bipush (v := 70) X.1 X.2.1 dX12_init_109 (by decide) ?_
  refine r_iast X hw ha_209 (by rw [hn_210]; exact vp_in_iff.mpr (by decide +kernel)) dX12_init_111 (fun H locs hw => ?_)
  generalize eS_217 : sA S_216 q_207 (upd (pA S_216 q_207) (Int32.toNatClampNeg (6)) 70) = S_217 at hw
  have hat_mo : At S_217 mo 12 := by rw [← eS_217]; exact At_sA hat_mo
  have ha_209 : At S_217 q_207 14 := by rw [← eS_217]; exact At_sA ha_209
  have ci_1201 : pI S_217 1201 mo = 0 := by rw [← eS_217, pI_sA]; exact ci_1201
  have ci_1211 : pI S_217 1211 mo = 0 := by rw [← eS_217, pI_sA]; exact ci_1211
  have ci_1228 : pI S_217 1228 mo = 0 := by rw [← eS_217, pI_sA]; exact ci_1228
  have ci_1238 : pI S_217 1238 mo = 0 := by rw [← eS_217, pI_sA]; exact ci_1238
  have ci_1245 : pI S_217 1245 mo = 0 := by rw [← eS_217, pI_sA]; exact ci_1245
  have ci_1246 : pI S_217 1246 mo = 0 := by rw [← eS_217, pI_sA]; exact ci_1246
  have ci_1251 : pI S_217 1251 mo = 0 := by rw [← eS_217, pI_sA]; exact ci_1251
  have ci_1262 : pI S_217 1262 mo = 0 := by rw [← eS_217, pI_sA]; exact ci_1262
  have hn_210 : pN S_217 q_207 = 8 := by rw [← eS_217, pN_sA]; exact hn_210
  have hFA : FaA S_217 mo [(1209, 14, 600), (1208, 14, 600), (1207, 14, 600), (1206, 14, 10), (1205, 14, 10), (1204, 14, 10), (1203, 14, 10), (1202, 14, 10)] := by rw [← eS_217]; exact FaA_sA hFA
  refine lv_dup X.1 X.2.1 dX12_init_112 rfl ?_
  refine lv_bipush (v := 7) X.1 X.2.1 dX12_init_113 (by decide) ?_
  refine lv_bipush (v := 58) X.1 X.2.1 dX12_init_115 (by decide) ?_
  refine r_iast X hw ha_209 (by rw [hn_210]; exact vp_in_iff.mpr (by decide +kernel)) dX12_init_117 (fun H locs hw => ?_)
  generalize eS_218 : sA S_217 q_207 (upd (pA S_217 q_207) (Int32.toNatClampNeg (7)) 58) = S_218 at hw
  have hat_mo : At S_218 mo 12 := by rw [← eS_218]; exact At_sA hat_mo
  have ha_209 : At S_218 q_207 14 := by rw [← eS_218]; exact At_sA ha_209
  have ci_1201 : pI S_218 1201 mo = 0 := by rw [← eS_218, pI_sA]; exact ci_1201
  have ci_1211 : pI S_218 1211 mo = 0 := by rw [← eS_218, pI_sA]; exact ci_1211
  have ci_1228 : pI S_218 1228 mo = 0 := by rw [← eS_218, pI_sA]; exact ci_1228
  have ci_1238 : pI S_218 1238 mo = 0 := by rw [← eS_218, pI_sA]; exact ci_1238
  have ci_1245 : pI S_218 1245 mo = 0 := by rw [← eS_218, pI_sA]; exact ci_1245
  have ci_1246 : pI S_218 1246 mo = 0 := by rw [← eS_218, pI_sA]; exact ci_1246
  have ci_1251 : pI S_218 1251 mo = 0 := by rw [← eS_218, pI_sA]; exact ci_1251
  have ci_1262 : pI S_218 1262 mo = 0 := by rw [← eS_218, pI_sA]; exact ci_1262
  have hn_210 : pN S_218 q_207 = 8 := by rw [← eS_218, pN_sA]; exact hn_210
  have hFA : FaA S_218 mo [(1209, 14, 600), (1208, 14, 600), (1207, 14, 600), (1206, 14, 10), (1205, 14, 10), (1204, 14, 10), (1203, 14, 10), (1202, 14, 10)] := by rw [← eS_218]; exact FaA_sA hFA
  refine r_putR X hw hat_mo 10 1210 (some q_207) rfl tyX12 (by decide) rfl inn_X12_init_12 tyX12_ok nmX12 (by decide) (X.2.2.2.1 (.fieldLink RX12 34 "SilkMillModel" "thin" "[I") (by decide +kernel)) rfl (Or.inr ⟨rfl, hin, rfl⟩) (fun _ => rfl) rfl (fun _ => rfl) rfl (Nat.le_of_ble_eq_true rfl) (st_1210 _ _) dX12_init_118 (fun H locs hw => ?_)
  generalize eS_219 : sR S_218 1210 mo (some q_207) = S_219 at hw
  have hat_mo : At S_219 mo 12 := by rw [← eS_219]; exact At_sR hat_mo
  have ha_209 : At S_219 q_207 14 := by rw [← eS_219]; exact At_sR ha_209
  have ci_1201 : pI S_219 1201 mo = 0 := by rw [← eS_219, pI_sR]; exact ci_1201
  have ci_1211 : pI S_219 1211 mo = 0 := by rw [← eS_219, pI_sR]; exact ci_1211
  have ci_1228 : pI S_219 1228 mo = 0 := by rw [← eS_219, pI_sR]; exact ci_1228
  have ci_1238 : pI S_219 1238 mo = 0 := by rw [← eS_219, pI_sR]; exact ci_1238
  have ci_1245 : pI S_219 1245 mo = 0 := by rw [← eS_219, pI_sR]; exact ci_1245
  have ci_1246 : pI S_219 1246 mo = 0 := by rw [← eS_219, pI_sR]; exact ci_1246
  have ci_1251 : pI S_219 1251 mo = 0 := by rw [← eS_219, pI_sR]; exact ci_1251
  have ci_1262 : pI S_219 1262 mo = 0 := by rw [← eS_219, pI_sR]; exact ci_1262
  have hn_210 : pN S_219 q_207 = 8 := by rw [← eS_219, pN_sR]; exact hn_210
  have hFA : FaA S_219 mo [(1209, 14, 600), (1208, 14, 600), (1207, 14, 600), (1206, 14, 10), (1205, 14, 10), (1204, 14, 10), (1203, 14, 10), (1202, 14, 10)] := by rw [← eS_219]; exact FaA_sR hFA (by decide)
  have hr_220 : pR S_219 1210 mo = some q_207 := by rw [← eS_219]; exact pR_sR_same
  have hFA : FaA S_219 mo [(1210, 14, 8), (1209, 14, 600), (1208, 14, 600), (1207, 14, 600), (1206, 14, 10), (1205, 14, 10), (1204, 14, 10), (1203, 14, 10), (1202, 14, 10)] := FaA_cons ⟨_, hr_220, ha_209, hn_210⟩ hFA
  refine lv_aload_n X.1 X.2.1 dX12_init_121 rfl (lv_at hl 0 rfl) ?_
  refine lv_iconst (v := 4) X.1 X.2.1 dX12_init_122 (by decide) ?_
  have hat_mo_o := hat_mo
  refine r_newI (N := 4) X hw 1862 10 (X.2.2.2.1 (.arrayClass .int) (by decide +kernel)) (by decide) (by decide) (by decide) (Nat.le_of_ble_eq_true rfl) (Nat.le_of_ble_eq_true rfl) (Nat.le_of_ble_eq_true rfl) (Nat.le_of_ble_eq_true rfl) dX12_init_123 (fun q_221 H hq_221 hw => ?_)
  have ne_mo_q_221 : mo ≠ q_221 := At_old hat_mo_o hq_221
  generalize eS_222 : sN S_219 q_221 14 4 = S_222 at hw
  have hat_mo : At S_222 mo 12 := by rw [← eS_222]; exact At_sN hat_mo hq_221
  have ci_1201 : pI S_222 1201 mo = 0 := by rw [← eS_222, pI_sN]; exact ci_1201
  have ci_1211 : pI S_222 1211 mo = 0 := by rw [← eS_222, pI_sN]; exact ci_1211
  have ci_1228 : pI S_222 1228 mo = 0 := by rw [← eS_222, pI_sN]; exact ci_1228
  have ci_1238 : pI S_222 1238 mo = 0 := by rw [← eS_222, pI_sN]; exact ci_1238
  have ci_1245 : pI S_222 1245 mo = 0 := by rw [← eS_222, pI_sN]; exact ci_1245
  have ci_1246 : pI S_222 1246 mo = 0 := by rw [← eS_222, pI_sN]; exact ci_1246
  have ci_1251 : pI S_222 1251 mo = 0 := by rw [← eS_222, pI_sN]; exact ci_1251
  have ci_1262 : pI S_222 1262 mo = 0 := by rw [← eS_222, pI_sN]; exact ci_1262
  have hFA : FaA S_222 mo [(1210, 14, 8), (1209, 14, 600), (1208, 14, 600), (1207, 14, 600), (1206, 14, 10), (1205, 14, 10), (1204, 14, 10), (1203, 14, 10), (1202, 14, 10)] := by rw [← eS_222]; exact FaA_sN hFA hq_221
  have ha_223 : At S_222 q_221 14 := by rw [← eS_222]; exact At_nN _ _ _ _
  have hn_224 : pN S_222 q_221 = 4 := by rw [← eS_222]; exact pN_sN_new
  refine r_putR X hw hat_mo 12 1212 (some q_221) rfl tyX12 (by decide) rfl inn_X12_init_12 tyX12_ok nmX12 (by decide) (X.2.2.2.1 (.fieldLink RX12 37 "SilkMillModel" "aim" "[I") (by decide +kernel)) rfl (Or.inr ⟨rfl, hin, rfl⟩) (fun _ => rfl) rfl (fun _ => rfl) rfl (Nat.le_of_ble_eq_true rfl) (st_1212 _ _) dX12_init_125 (fun H locs hw => ?_)
  generalize eS_225 : sR S_222 1212 mo (some q_221) = S_225 at hw
  have hat_mo : At S_225 mo 12 := by rw [← eS_225]; exact At_sR hat_mo
  have ha_223 : At S_225 q_221 14 := by rw [← eS_225]; exact At_sR ha_223
  have ci_1201 : pI S_225 1201 mo = 0 := by rw [← eS_225, pI_sR]; exact ci_1201
  have ci_1211 : pI S_225 1211 mo = 0 := by rw [← eS_225, pI_sR]; exact ci_1211
  have ci_1228 : pI S_225 1228 mo = 0 := by rw [← eS_225, pI_sR]; exact ci_1228
  have ci_1238 : pI S_225 1238 mo = 0 := by rw [← eS_225, pI_sR]; exact ci_1238
  have ci_1245 : pI S_225 1245 mo = 0 := by rw [← eS_225, pI_sR]; exact ci_1245
  have ci_1246 : pI S_225 1246 mo = 0 := by rw [← eS_225, pI_sR]; exact ci_1246
  have ci_1251 : pI S_225 1251 mo = 0 := by rw [← eS_225, pI_sR]; exact ci_1251
  have ci_1262 : pI S_225 1262 mo = 0 := by rw [← eS_225, pI_sR]; exact ci_1262
  have hn_224 : pN S_225 q_221 = 4 := by rw [← eS_225, pN_sR]; exact hn_224
  have hFA : FaA S_225 mo [(1210, 14, 8), (1209, 14, 600), (1208, 14, 600), (1207, 14, 600), (1206, 14, 10), (1205, 14, 10), (1204, 14, 10), (1203, 14, 10), (1202, 14, 10)] := by rw [← eS_225]; exact FaA_sR hFA (by decide)
  have hr_226 : pR S_225 1212 mo = some q_221 := by rw [← eS_225]; exact pR_sR_same
  have hFA : FaA S_225 mo [(1212, 14, 4), (1210, 14, 8), (1209, 14, 600), (1208, 14, 600), (1207, 14, 600), (1206, 14, 10), (1205, 14, 10), (1204, 14, 10), (1203, 14, 10), (1202, 14, 10)] := FaA_cons ⟨_, hr_226, ha_223, hn_224⟩ hFA
  refine lv_aload_n X.1 X.2.1 dX12_init_128 rfl (lv_at hl 0 rfl) ?_
  refine lv_iconst (v := 4) X.1 X.2.1 dX12_init_129 (by decide) ?_
  have hat_mo_o := hat_mo
  refine r_newI (N := 4) X hw 1866 11 (X.2.2.2.1 (.arrayClass .int) (by decide +kernel)) (by decide) (by decide) (by decide) (Nat.le_of_ble_eq_true rfl) (Nat.le_of_ble_eq_true rfl) (Nat.le_of_ble_eq_true rfl) (Nat.le_of_ble_eq_true rfl) dX12_init_130 (fun q_227 H hq_227 hw => ?_)
  have ne_mo_q_227 : mo ≠ q_227 := At_old hat_mo_o hq_227
  generalize eS_228 : sN S_225 q_227 14 4 = S_228 at hw
  have hat_mo : At S_228 mo 12 := by rw [← eS_228]; exact At_sN hat_mo hq_227
  have ci_1201 : pI S_228 1201 mo = 0 := by rw [← eS_228, pI_sN]; exact ci_1201
  have ci_1211 : pI S_228 1211 mo = 0 := by rw [← eS_228, pI_sN]; exact ci_1211
  have ci_1228 : pI S_228 1228 mo = 0 := by rw [← eS_228, pI_sN]; exact ci_1228
  have ci_1238 : pI S_228 1238 mo = 0 := by rw [← eS_228, pI_sN]; exact ci_1238
  have ci_1245 : pI S_228 1245 mo = 0 := by rw [← eS_228, pI_sN]; exact ci_1245
  have ci_1246 : pI S_228 1246 mo = 0 := by rw [← eS_228, pI_sN]; exact ci_1246
  have ci_1251 : pI S_228 1251 mo = 0 := by rw [← eS_228, pI_sN]; exact ci_1251
  have ci_1262 : pI S_228 1262 mo = 0 := by rw [← eS_228, pI_sN]; exact ci_1262
  have hFA : FaA S_228 mo [(1212, 14, 4), (1210, 14, 8), (1209, 14, 600), (1208, 14, 600), (1207, 14, 600), (1206, 14, 10), (1205, 14, 10), (1204, 14, 10), (1203, 14, 10), (1202, 14, 10)] := by rw [← eS_228]; exact FaA_sN hFA hq_227
  have ha_229 : At S_228 q_227 14 := by rw [← eS_228]; exact At_nN _ _ _ _
  have hn_230 : pN S_228 q_227 = 4 := by rw [← eS_228]; exact pN_sN_new
  refine r_putR X hw hat_mo 13 1213 (some q_227) rfl tyX12 (by decide) rfl inn_X12_init_12 tyX12_ok nmX12 (by decide) (X.2.2.2.1 (.fieldLink RX12 40 "SilkMillModel" "find" "[I") (by decide +kernel)) rfl (Or.inr ⟨rfl, hin, rfl⟩) (fun _ => rfl) rfl (fun _ => rfl) rfl (Nat.le_of_ble_eq_true rfl) (st_1213 _ _) dX12_init_132 (fun H locs hw => ?_)
  generalize eS_231 : sR S_228 1213 mo (some q_227) = S_231 at hw
  have hat_mo : At S_231 mo 12 := by rw [← eS_231]; exact At_sR hat_mo
  have ha_229 : At S_231 q_227 14 := by rw [← eS_231]; exact At_sR ha_229
  have ci_1201 : pI S_231 1201 mo = 0 := by rw [← eS_231, pI_sR]; exact ci_1201
  have ci_1211 : pI S_231 1211 mo = 0 := by rw [← eS_231, pI_sR]; exact ci_1211
  have ci_1228 : pI S_231 1228 mo = 0 := by rw [← eS_231, pI_sR]; exact ci_1228
  have ci_1238 : pI S_231 1238 mo = 0 := by rw [← eS_231, pI_sR]; exact ci_1238
  have ci_1245 : pI S_231 1245 mo = 0 := by rw [← eS_231, pI_sR]; exact ci_1245
  have ci_1246 : pI S_231 1246 mo = 0 := by rw [← eS_231, pI_sR]; exact ci_1246
  have ci_1251 : pI S_231 1251 mo = 0 := by rw [← eS_231, pI_sR]; exact ci_1251
  have ci_1262 : pI S_231 1262 mo = 0 := by rw [← eS_231, pI_sR]; exact ci_1262
  have hn_230 : pN S_231 q_227 = 4 := by rw [← eS_231, pN_sR]; exact hn_230
  have hFA : FaA S_231 mo [(1212, 14, 4), (1210, 14, 8), (1209, 14, 600), (1208, 14, 600), (1207, 14, 600), (1206, 14, 10), (1205, 14, 10), (1204, 14, 10), (1203, 14, 10), (1202, 14, 10)] := by rw [← eS_231]; exact FaA_sR hFA (by decide)
  have hr_232 : pR S_231 1213 mo = some q_227 := by rw [← eS_231]; exact pR_sR_same
  have hFA : FaA S_231 mo [(1213, 14, 4), (1212, 14, 4), (1210, 14, 8), (1209, 14, 600), (1208, 14, 600), (1207, 14, 600), (1206, 14, 10), (1205, 14, 10), (1204, 14, 10), (1203, 14, 10), (1202, 14, 10)] := FaA_cons ⟨_, hr_232, ha_229, hn_230⟩ hFA
  refine lv_aload_n X.1 X.2.1 dX12_init_135 rfl (lv_at hl 0 rfl) ?_
  refine lv_iconst (v := 4) X.1 X.2.1 dX12_init_136 (by decide) ?_
  have hat_mo_o := hat_mo
  refine r_newI (N := 4) X hw 1870 12 (X.2.2.2.1 (.arrayClass .int) (by decide +kernel)) (by decide) (by decide) (by decide) (Nat.le_of_ble_eq_true rfl) (Nat.le_of_ble_eq_true rfl) (Nat.le_of_ble_eq_true rfl) (Nat.le_of_ble_eq_true rfl) dX12_init_137 (fun q_233 H hq_233 hw => ?_)
  have ne_mo_q_233 : mo ≠ q_233 := At_old hat_mo_o hq_233
  generalize eS_234 : sN S_231 q_233 14 4 = S_234 at hw
  have hat_mo : At S_234 mo 12 := by rw [← eS_234]; exact At_sN hat_mo hq_233
  have ci_1201 : pI S_234 1201 mo = 0 := by rw [← eS_234, pI_sN]; exact ci_1201
  have ci_1211 : pI S_234 1211 mo = 0 := by rw [← eS_234, pI_sN]; exact ci_1211
  have ci_1228 : pI S_234 1228 mo = 0 := by rw [← eS_234, pI_sN]; exact ci_1228
  have ci_1238 : pI S_234 1238 mo = 0 := by rw [← eS_234, pI_sN]; exact ci_1238
  have ci_1245 : pI S_234 1245 mo = 0 := by rw [← eS_234, pI_sN]; exact ci_1245
  have ci_1246 : pI S_234 1246 mo = 0 := by rw [← eS_234, pI_sN]; exact ci_1246
  have ci_1251 : pI S_234 1251 mo = 0 := by rw [← eS_234, pI_sN]; exact ci_1251
  have ci_1262 : pI S_234 1262 mo = 0 := by rw [← eS_234, pI_sN]; exact ci_1262
  have hFA : FaA S_234 mo [(1213, 14, 4), (1212, 14, 4), (1210, 14, 8), (1209, 14, 600), (1208, 14, 600), (1207, 14, 600), (1206, 14, 10), (1205, 14, 10), (1204, 14, 10), (1203, 14, 10), (1202, 14, 10)] := by rw [← eS_234]; exact FaA_sN hFA hq_233
  have ha_235 : At S_234 q_233 14 := by rw [← eS_234]; exact At_nN _ _ _ _
  have hn_236 : pN S_234 q_233 = 4 := by rw [← eS_234]; exact pN_sN_new
  refine r_putR X hw hat_mo 14 1214 (some q_233) rfl tyX12 (by decide) rfl inn_X12_init_12 tyX12_ok nmX12 (by decide) (X.2.2.2.1 (.fieldLink RX12 43 "SilkMillModel" "search" "[I") (by decide +kernel)) rfl (Or.inr ⟨rfl, hin, rfl⟩) (fun _ => rfl) rfl (fun _ => rfl) rfl (Nat.le_of_ble_eq_true rfl) (st_1214 _ _) dX12_init_139 (fun H locs hw => ?_)
  generalize eS_237 : sR S_234 1214 mo (some q_233) = S_237 at hw
  have hat_mo : At S_237 mo 12 := by rw [← eS_237]; exact At_sR hat_mo
  have ha_235 : At S_237 q_233 14 := by rw [← eS_237]; exact At_sR ha_235
  have ci_1201 : pI S_237 1201 mo = 0 := by rw [← eS_237, pI_sR]; exact ci_1201
  have ci_1211 : pI S_237 1211 mo = 0 := by rw [← eS_237, pI_sR]; exact ci_1211
  have ci_1228 : pI S_237 1228 mo = 0 := by rw [← eS_237, pI_sR]; exact ci_1228
  have ci_1238 : pI S_237 1238 mo = 0 := by rw [← eS_237, pI_sR]; exact ci_1238
  have ci_1245 : pI S_237 1245 mo = 0 := by rw [← eS_237, pI_sR]; exact ci_1245
  have ci_1246 : pI S_237 1246 mo = 0 := by rw [← eS_237, pI_sR]; exact ci_1246
  have ci_1251 : pI S_237 1251 mo = 0 := by rw [← eS_237, pI_sR]; exact ci_1251
  have ci_1262 : pI S_237 1262 mo = 0 := by rw [← eS_237, pI_sR]; exact ci_1262
  have hn_236 : pN S_237 q_233 = 4 := by rw [← eS_237, pN_sR]; exact hn_236
  have hFA : FaA S_237 mo [(1213, 14, 4), (1212, 14, 4), (1210, 14, 8), (1209, 14, 600), (1208, 14, 600), (1207, 14, 600), (1206, 14, 10), (1205, 14, 10), (1204, 14, 10), (1203, 14, 10), (1202, 14, 10)] := by rw [← eS_237]; exact FaA_sR hFA (by decide)
  have hr_238 : pR S_237 1214 mo = some q_233 := by rw [← eS_237]; exact pR_sR_same
  have hFA : FaA S_237 mo [(1214, 14, 4), (1213, 14, 4), (1212, 14, 4), (1210, 14, 8), (1209, 14, 600), (1208, 14, 600), (1207, 14, 600), (1206, 14, 10), (1205, 14, 10), (1204, 14, 10), (1203, 14, 10), (1202, 14, 10)] := FaA_cons ⟨_, hr_238, ha_235, hn_236⟩ hFA
  refine lv_aload_n X.1 X.2.1 dX12_init_142 rfl (lv_at hl 0 rfl) ?_
  refine lv_iconst (v := 4) X.1 X.2.1 dX12_init_143 (by decide) ?_
  have hat_mo_o := hat_mo
  refine r_newI (N := 4) X hw 1874 13 (X.2.2.2.1 (.arrayClass .int) (by decide +kernel)) (by decide) (by decide) (by decide) (Nat.le_of_ble_eq_true rfl) (Nat.le_of_ble_eq_true rfl) (Nat.le_of_ble_eq_true rfl) (Nat.le_of_ble_eq_true rfl) dX12_init_144 (fun q_239 H hq_239 hw => ?_)
  have ne_mo_q_239 : mo ≠ q_239 := At_old hat_mo_o hq_239
  generalize eS_240 : sN S_237 q_239 14 4 = S_240 at hw
  have hat_mo : At S_240 mo 12 := by rw [← eS_240]; exact At_sN hat_mo hq_239
  have ci_1201 : pI S_240 1201 mo = 0 := by rw [← eS_240, pI_sN]; exact ci_1201
  have ci_1211 : pI S_240 1211 mo = 0 := by rw [← eS_240, pI_sN]; exact ci_1211
  have ci_1228 : pI S_240 1228 mo = 0 := by rw [← eS_240, pI_sN]; exact ci_1228
  have ci_1238 : pI S_240 1238 mo = 0 := by rw [← eS_240, pI_sN]; exact ci_1238
  have ci_1245 : pI S_240 1245 mo = 0 := by rw [← eS_240, pI_sN]; exact ci_1245
  have ci_1246 : pI S_240 1246 mo = 0 := by rw [← eS_240, pI_sN]; exact ci_1246
  have ci_1251 : pI S_240 1251 mo = 0 := by rw [← eS_240, pI_sN]; exact ci_1251
  have ci_1262 : pI S_240 1262 mo = 0 := by rw [← eS_240, pI_sN]; exact ci_1262
  have hFA : FaA S_240 mo [(1214, 14, 4), (1213, 14, 4), (1212, 14, 4), (1210, 14, 8), (1209, 14, 600), (1208, 14, 600), (1207, 14, 600), (1206, 14, 10), (1205, 14, 10), (1204, 14, 10), (1203, 14, 10), (1202, 14, 10)] := by rw [← eS_240]; exact FaA_sN hFA hq_239
  have ha_241 : At S_240 q_239 14 := by rw [← eS_240]; exact At_nN _ _ _ _
  have hn_242 : pN S_240 q_239 = 4 := by rw [← eS_240]; exact pN_sN_new
  refine r_putR X hw hat_mo 15 1215 (some q_239) rfl tyX12 (by decide) rfl inn_X12_init_12 tyX12_ok nmX12 (by decide) (X.2.2.2.1 (.fieldLink RX12 46 "SilkMillModel" "stop" "[I") (by decide +kernel)) rfl (Or.inr ⟨rfl, hin, rfl⟩) (fun _ => rfl) rfl (fun _ => rfl) rfl (Nat.le_of_ble_eq_true rfl) (st_1215 _ _) dX12_init_146 (fun H locs hw => ?_)
  generalize eS_243 : sR S_240 1215 mo (some q_239) = S_243 at hw
  have hat_mo : At S_243 mo 12 := by rw [← eS_243]; exact At_sR hat_mo
  have ha_241 : At S_243 q_239 14 := by rw [← eS_243]; exact At_sR ha_241
  have ci_1201 : pI S_243 1201 mo = 0 := by rw [← eS_243, pI_sR]; exact ci_1201
  have ci_1211 : pI S_243 1211 mo = 0 := by rw [← eS_243, pI_sR]; exact ci_1211
  have ci_1228 : pI S_243 1228 mo = 0 := by rw [← eS_243, pI_sR]; exact ci_1228
  have ci_1238 : pI S_243 1238 mo = 0 := by rw [← eS_243, pI_sR]; exact ci_1238
  have ci_1245 : pI S_243 1245 mo = 0 := by rw [← eS_243, pI_sR]; exact ci_1245
  have ci_1246 : pI S_243 1246 mo = 0 := by rw [← eS_243, pI_sR]; exact ci_1246
  have ci_1251 : pI S_243 1251 mo = 0 := by rw [← eS_243, pI_sR]; exact ci_1251
  have ci_1262 : pI S_243 1262 mo = 0 := by rw [← eS_243, pI_sR]; exact ci_1262
  have hn_242 : pN S_243 q_239 = 4 := by rw [← eS_243, pN_sR]; exact hn_242
  have hFA : FaA S_243 mo [(1214, 14, 4), (1213, 14, 4), (1212, 14, 4), (1210, 14, 8), (1209, 14, 600), (1208, 14, 600), (1207, 14, 600), (1206, 14, 10), (1205, 14, 10), (1204, 14, 10), (1203, 14, 10), (1202, 14, 10)] := by rw [← eS_243]; exact FaA_sR hFA (by decide)
  have hr_244 : pR S_243 1215 mo = some q_239 := by rw [← eS_243]; exact pR_sR_same
  have hFA : FaA S_243 mo [(1215, 14, 4), (1214, 14, 4), (1213, 14, 4), (1212, 14, 4), (1210, 14, 8), (1209, 14, 600), (1208, 14, 600), (1207, 14, 600), (1206, 14, 10), (1205, 14, 10), (1204, 14, 10), (1203, 14, 10), (1202, 14, 10)] := FaA_cons ⟨_, hr_244, ha_241, hn_242⟩ hFA
  refine lv_aload_n X.1 X.2.1 dX12_init_149 rfl (lv_at hl 0 rfl) ?_
  refine lv_iconst (v := 4) X.1 X.2.1 dX12_init_150 (by decide) ?_
  have hat_mo_o := hat_mo
  refine r_newI (N := 4) X hw 1878 14 (X.2.2.2.1 (.arrayClass .int) (by decide +kernel)) (by decide) (by decide) (by decide) (Nat.le_of_ble_eq_true rfl) (Nat.le_of_ble_eq_true rfl) (Nat.le_of_ble_eq_true rfl) (Nat.le_of_ble_eq_true rfl) dX12_init_151 (fun q_245 H hq_245 hw => ?_)
  have ne_mo_q_245 : mo ≠ q_245 := At_old hat_mo_o hq_245
  generalize eS_246 : sN S_243 q_245 14 4 = S_246 at hw
  have hat_mo : At S_246 mo 12 := by rw [← eS_246]; exact At_sN hat_mo hq_245
  have ci_1201 : pI S_246 1201 mo = 0 := by rw [← eS_246, pI_sN]; exact ci_1201
  have ci_1211 : pI S_246 1211 mo = 0 := by rw [← eS_246, pI_sN]; exact ci_1211
  have ci_1228 : pI S_246 1228 mo = 0 := by rw [← eS_246, pI_sN]; exact ci_1228
  have ci_1238 : pI S_246 1238 mo = 0 := by rw [← eS_246, pI_sN]; exact ci_1238
  have ci_1245 : pI S_246 1245 mo = 0 := by rw [← eS_246, pI_sN]; exact ci_1245
  have ci_1246 : pI S_246 1246 mo = 0 := by rw [← eS_246, pI_sN]; exact ci_1246
  have ci_1251 : pI S_246 1251 mo = 0 := by rw [← eS_246, pI_sN]; exact ci_1251
  have ci_1262 : pI S_246 1262 mo = 0 := by rw [← eS_246, pI_sN]; exact ci_1262
  have hFA : FaA S_246 mo [(1215, 14, 4), (1214, 14, 4), (1213, 14, 4), (1212, 14, 4), (1210, 14, 8), (1209, 14, 600), (1208, 14, 600), (1207, 14, 600), (1206, 14, 10), (1205, 14, 10), (1204, 14, 10), (1203, 14, 10), (1202, 14, 10)] := by rw [← eS_246]; exact FaA_sN hFA hq_245
  have ha_247 : At S_246 q_245 14 := by rw [← eS_246]; exact At_nN _ _ _ _
  have hn_248 : pN S_246 q_245 = 4 := by rw [← eS_246]; exact pN_sN_new
  refine r_putR X hw hat_mo 16 1216 (some q_245) rfl tyX12 (by decide) rfl inn_X12_init_12 tyX12_ok nmX12 (by decide) (X.2.2.2.1 (.fieldLink RX12 49 "SilkMillModel" "drawnEver" "[I") (by decide +kernel)) rfl (Or.inr ⟨rfl, hin, rfl⟩) (fun _ => rfl) rfl (fun _ => rfl) rfl (Nat.le_of_ble_eq_true rfl) (st_1216 _ _) dX12_init_153 (fun H locs hw => ?_)
  generalize eS_249 : sR S_246 1216 mo (some q_245) = S_249 at hw
  have hat_mo : At S_249 mo 12 := by rw [← eS_249]; exact At_sR hat_mo
  have ha_247 : At S_249 q_245 14 := by rw [← eS_249]; exact At_sR ha_247
  have ci_1201 : pI S_249 1201 mo = 0 := by rw [← eS_249, pI_sR]; exact ci_1201
  have ci_1211 : pI S_249 1211 mo = 0 := by rw [← eS_249, pI_sR]; exact ci_1211
  have ci_1228 : pI S_249 1228 mo = 0 := by rw [← eS_249, pI_sR]; exact ci_1228
  have ci_1238 : pI S_249 1238 mo = 0 := by rw [← eS_249, pI_sR]; exact ci_1238
  have ci_1245 : pI S_249 1245 mo = 0 := by rw [← eS_249, pI_sR]; exact ci_1245
  have ci_1246 : pI S_249 1246 mo = 0 := by rw [← eS_249, pI_sR]; exact ci_1246
  have ci_1251 : pI S_249 1251 mo = 0 := by rw [← eS_249, pI_sR]; exact ci_1251
  have ci_1262 : pI S_249 1262 mo = 0 := by rw [← eS_249, pI_sR]; exact ci_1262
  have hn_248 : pN S_249 q_245 = 4 := by rw [← eS_249, pN_sR]; exact hn_248
  have hFA : FaA S_249 mo [(1215, 14, 4), (1214, 14, 4), (1213, 14, 4), (1212, 14, 4), (1210, 14, 8), (1209, 14, 600), (1208, 14, 600), (1207, 14, 600), (1206, 14, 10), (1205, 14, 10), (1204, 14, 10), (1203, 14, 10), (1202, 14, 10)] := by rw [← eS_249]; exact FaA_sR hFA (by decide)
  have hr_250 : pR S_249 1216 mo = some q_245 := by rw [← eS_249]; exact pR_sR_same
  have hFA : FaA S_249 mo [(1216, 14, 4), (1215, 14, 4), (1214, 14, 4), (1213, 14, 4), (1212, 14, 4), (1210, 14, 8), (1209, 14, 600), (1208, 14, 600), (1207, 14, 600), (1206, 14, 10), (1205, 14, 10), (1204, 14, 10), (1203, 14, 10), (1202, 14, 10)] := FaA_cons ⟨_, hr_250, ha_247, hn_248⟩ hFA
  exact kk  _ _ _ _ hw hl hat_mo ci_1201 ci_1211 ci_1228 ci_1238 ci_1245 ci_1246 ci_1251 ci_1262 hFA
set_option maxHeartbeats 4000000 in
set_option maxRecDepth 100000 in
theorem sgM_2 {p : Program} {l : Launch} {e : Env} {s : State} {m : MethodId} {below : List Frame} {meth : Method} {c : Code} {Q : State → Prop} (G : va_G) (cy : Nat → ClassId) (S0 : PS) (mo : Nat) (X : Cx p c cX12_init 2 s [.ref mo].toArray wsX12_init RX12 m G cy (AS S0 s.heap.size)) (hin : meth.name = "<init>") (S : PS) (H : Heap) (locs : List Loc) (ls : Array Slot) (hw : Wd G cy (AS S0 s.heap.size) s.heap S H locs) (hl : lv_has ls 2 [(0, .ref mo)]) (hat_mo : At S mo 12) (ci_1201 : pI S 1201 mo = 0) (ci_1211 : pI S 1211 mo = 0) (ci_1228 : pI S 1228 mo = 0) (ci_1238 : pI S 1238 mo = 0) (ci_1245 : pI S 1245 mo = 0) (ci_1246 : pI S 1246 mo = 0) (ci_1251 : pI S 1251 mo = 0) (ci_1262 : pI S 1262 mo = 0) (hFA : FaA S mo [(1216, 14, 4), (1215, 14, 4), (1214, 14, 4), (1213, 14, 4), (1212, 14, 4), (1210, 14, 8), (1209, 14, 600), (1208, 14, 600), (1207, 14, 600), (1206, 14, 10), (1205, 14, 10), (1204, 14, 10), (1203, 14, 10), (1202, 14, 10)]) (kk : ∀ (S : PS) (H : Heap) (locs : List Loc) (ls : Array Slot), Wd G cy (AS S0 s.heap.size) s.heap S H locs → lv_has ls 2 [(0, .ref mo)] → At S mo 12 → pI S 1201 mo = 0 → pI S 1211 mo = 0 → pI S 1228 mo = 0 → pI S 1238 mo = 0 → pI S 1245 mo = 0 → pI S 1246 mo = 0 → pI S 1251 mo = 0 → pI S 1262 mo = 0 → FaA S mo [(1223, 14, 60), (1222, 14, 60), (1221, 14, 60), (1220, 14, 5), (1219, 14, 12), (1218, 14, 7200), (1217, 14, 4), (1216, 14, 4), (1215, 14, 4), (1214, 14, 4), (1213, 14, 4), (1212, 14, 4), (1210, 14, 8), (1209, 14, 600), (1208, 14, 600), (1207, 14, 600), (1206, 14, 10), (1205, 14, 10), (1204, 14, 10), (1203, 14, 10), (1202, 14, 10)] → W p l e ({ frames := 2, cells := 70, slots := 190000, locals := 80 }) s m [.ref mo].toArray below meth c H locs 21 9279 Q (F0 m 211 ls [])) : W p l e ({ frames := 2, cells := 70, slots := 190000, locals := 80 }) s m [.ref mo].toArray below meth c H locs 14 1878 Q (F0 m 156 ls []) := by
  refine lv_aload_n X.1 X.2.1 dX12_init_156 rfl (lv_at hl 0 rfl) ?_
  refine lv_iconst (v := 4) X.1 X.2.1 dX12_init_157 (by decide) ?_
  have hat_mo_o := hat_mo
  refine r_newI (N := 4) X hw 1882 15 (X.2.2.2.1 (.arrayClass .int) (by decide +kernel)) (by decide) (by decide) (by decide) (Nat.le_of_ble_eq_true rfl) (Nat.le_of_ble_eq_true rfl) (Nat.le_of_ble_eq_true rfl) (Nat.le_of_ble_eq_true rfl) dX12_init_158 (fun q_301 H hq_301 hw => ?_)
  have ne_mo_q_301 : mo ≠ q_301 := At_old hat_mo_o hq_301
  generalize eS_302 : sN S q_301 14 4 = S_302 at hw
  have hat_mo : At S_302 mo 12 := by rw [← eS_302]; exact At_sN hat_mo hq_301
  have ci_1201 : pI S_302 1201 mo = 0 := by rw [← eS_302, pI_sN]; exact ci_1201
  have ci_1211 : pI S_302 1211 mo = 0 := by rw [← eS_302, pI_sN]; exact ci_1211
  have ci_1228 : pI S_302 1228 mo = 0 := by rw [← eS_302, pI_sN]; exact ci_1228
  have ci_1238 : pI S_302 1238 mo = 0 := by rw [← eS_302, pI_sN]; exact ci_1238
  have ci_1245 : pI S_302 1245 mo = 0 := by rw [← eS_302, pI_sN]; exact ci_1245
  have ci_1246 : pI S_302 1246 mo = 0 := by rw [← eS_302, pI_sN]; exact ci_1246
  have ci_1251 : pI S_302 1251 mo = 0 := by rw [← eS_302, pI_sN]; exact ci_1251
  have ci_1262 : pI S_302 1262 mo = 0 := by rw [← eS_302, pI_sN]; exact ci_1262
  have hFA : FaA S_302 mo [(1216, 14, 4), (1215, 14, 4), (1214, 14, 4), (1213, 14, 4), (1212, 14, 4), (1210, 14, 8), (1209, 14, 600), (1208, 14, 600), (1207, 14, 600), (1206, 14, 10), (1205, 14, 10), (1204, 14, 10), (1203, 14, 10), (1202, 14, 10)] := by rw [← eS_302]; exact FaA_sN hFA hq_301
  have ha_303 : At S_302 q_301 14 := by rw [← eS_302]; exact At_nN _ _ _ _
  have hn_304 : pN S_302 q_301 = 4 := by rw [← eS_302]; exact pN_sN_new
  refine r_putR X hw hat_mo 17 1217 (some q_301) rfl tyX12 (by decide) rfl inn_X12_init_12 tyX12_ok nmX12 (by decide) (X.2.2.2.1 (.fieldLink RX12 52 "SilkMillModel" "ticksEver" "[I") (by decide +kernel)) rfl (Or.inr ⟨rfl, hin, rfl⟩) (fun _ => rfl) rfl (fun _ => rfl) rfl (Nat.le_of_ble_eq_true rfl) (st_1217 _ _) dX12_init_160 (fun H locs hw => ?_)
  generalize eS_305 : sR S_302 1217 mo (some q_301) = S_305 at hw
  have hat_mo : At S_305 mo 12 := by rw [← eS_305]; exact At_sR hat_mo
  have ha_303 : At S_305 q_301 14 := by rw [← eS_305]; exact At_sR ha_303
  have ci_1201 : pI S_305 1201 mo = 0 := by rw [← eS_305, pI_sR]; exact ci_1201
  have ci_1211 : pI S_305 1211 mo = 0 := by rw [← eS_305, pI_sR]; exact ci_1211
  have ci_1228 : pI S_305 1228 mo = 0 := by rw [← eS_305, pI_sR]; exact ci_1228
  have ci_1238 : pI S_305 1238 mo = 0 := by rw [← eS_305, pI_sR]; exact ci_1238
  have ci_1245 : pI S_305 1245 mo = 0 := by rw [← eS_305, pI_sR]; exact ci_1245
  have ci_1246 : pI S_305 1246 mo = 0 := by rw [← eS_305, pI_sR]; exact ci_1246
  have ci_1251 : pI S_305 1251 mo = 0 := by rw [← eS_305, pI_sR]; exact ci_1251
  have ci_1262 : pI S_305 1262 mo = 0 := by rw [← eS_305, pI_sR]; exact ci_1262
  have hn_304 : pN S_305 q_301 = 4 := by rw [← eS_305, pN_sR]; exact hn_304
  have hFA : FaA S_305 mo [(1216, 14, 4), (1215, 14, 4), (1214, 14, 4), (1213, 14, 4), (1212, 14, 4), (1210, 14, 8), (1209, 14, 600), (1208, 14, 600), (1207, 14, 600), (1206, 14, 10), (1205, 14, 10), (1204, 14, 10), (1203, 14, 10), (1202, 14, 10)] := by rw [← eS_305]; exact FaA_sR hFA (by decide)
  have hr_306 : pR S_305 1217 mo = some q_301 := by rw [← eS_305]; exact pR_sR_same
  have hFA : FaA S_305 mo [(1217, 14, 4), (1216, 14, 4), (1215, 14, 4), (1214, 14, 4), (1213, 14, 4), (1212, 14, 4), (1210, 14, 8), (1209, 14, 600), (1208, 14, 600), (1207, 14, 600), (1206, 14, 10), (1205, 14, 10), (1204, 14, 10), (1203, 14, 10), (1202, 14, 10)] := FaA_cons ⟨_, hr_306, ha_303, hn_304⟩ hFA
  refine lv_aload_n X.1 X.2.1 dX12_init_163 rfl (lv_at hl 0 rfl) ?_
  refine lv_sipush (v := 7200) X.1 X.2.1 dX12_init_164 (by decide) ?_
  have hat_mo_o := hat_mo
  refine r_newI (N := 7200) X hw 9082 16 (X.2.2.2.1 (.arrayClass .int) (by decide +kernel)) (by decide) (by decide) (by decide) (Nat.le_of_ble_eq_true rfl) (Nat.le_of_ble_eq_true rfl) (Nat.le_of_ble_eq_true rfl) (Nat.le_of_ble_eq_true rfl) dX12_init_167 (fun q_307 H hq_307 hw => ?_)
  have ne_mo_q_307 : mo ≠ q_307 := At_old hat_mo_o hq_307
  generalize eS_308 : sN S_305 q_307 14 7200 = S_308 at hw
  have hat_mo : At S_308 mo 12 := by rw [← eS_308]; exact At_sN hat_mo hq_307
  have ci_1201 : pI S_308 1201 mo = 0 := by rw [← eS_308, pI_sN]; exact ci_1201
  have ci_1211 : pI S_308 1211 mo = 0 := by rw [← eS_308, pI_sN]; exact ci_1211
  have ci_1228 : pI S_308 1228 mo = 0 := by rw [← eS_308, pI_sN]; exact ci_1228
  have ci_1238 : pI S_308 1238 mo = 0 := by rw [← eS_308, pI_sN]; exact ci_1238
  have ci_1245 : pI S_308 1245 mo = 0 := by rw [← eS_308, pI_sN]; exact ci_1245
  have ci_1246 : pI S_308 1246 mo = 0 := by rw [← eS_308, pI_sN]; exact ci_1246
  have ci_1251 : pI S_308 1251 mo = 0 := by rw [← eS_308, pI_sN]; exact ci_1251
  have ci_1262 : pI S_308 1262 mo = 0 := by rw [← eS_308, pI_sN]; exact ci_1262
  have hFA : FaA S_308 mo [(1217, 14, 4), (1216, 14, 4), (1215, 14, 4), (1214, 14, 4), (1213, 14, 4), (1212, 14, 4), (1210, 14, 8), (1209, 14, 600), (1208, 14, 600), (1207, 14, 600), (1206, 14, 10), (1205, 14, 10), (1204, 14, 10), (1203, 14, 10), (1202, 14, 10)] := by rw [← eS_308]; exact FaA_sN hFA hq_307
  have ha_309 : At S_308 q_307 14 := by rw [← eS_308]; exact At_nN _ _ _ _
  have hn_310 : pN S_308 q_307 = 7200 := by rw [← eS_308]; exact pN_sN_new
  refine r_putR X hw hat_mo 18 1218 (some q_307) rfl tyX12 (by decide) rfl inn_X12_init_12 tyX12_ok nmX12 (by decide) (X.2.2.2.1 (.fieldLink RX12 55 "SilkMillModel" "rowOf" "[I") (by decide +kernel)) rfl (Or.inr ⟨rfl, hin, rfl⟩) (fun _ => rfl) rfl (fun _ => rfl) rfl (Nat.le_of_ble_eq_true rfl) (st_1218 _ _) dX12_init_169 (fun H locs hw => ?_)
  generalize eS_311 : sR S_308 1218 mo (some q_307) = S_311 at hw
  have hat_mo : At S_311 mo 12 := by rw [← eS_311]; exact At_sR hat_mo
  have ha_309 : At S_311 q_307 14 := by rw [← eS_311]; exact At_sR ha_309
  have ci_1201 : pI S_311 1201 mo = 0 := by rw [← eS_311, pI_sR]; exact ci_1201
  have ci_1211 : pI S_311 1211 mo = 0 := by rw [← eS_311, pI_sR]; exact ci_1211
  have ci_1228 : pI S_311 1228 mo = 0 := by rw [← eS_311, pI_sR]; exact ci_1228
  have ci_1238 : pI S_311 1238 mo = 0 := by rw [← eS_311, pI_sR]; exact ci_1238
  have ci_1245 : pI S_311 1245 mo = 0 := by rw [← eS_311, pI_sR]; exact ci_1245
  have ci_1246 : pI S_311 1246 mo = 0 := by rw [← eS_311, pI_sR]; exact ci_1246
  have ci_1251 : pI S_311 1251 mo = 0 := by rw [← eS_311, pI_sR]; exact ci_1251
  have ci_1262 : pI S_311 1262 mo = 0 := by rw [← eS_311, pI_sR]; exact ci_1262
  have hn_310 : pN S_311 q_307 = 7200 := by rw [← eS_311, pN_sR]; exact hn_310
  have hFA : FaA S_311 mo [(1217, 14, 4), (1216, 14, 4), (1215, 14, 4), (1214, 14, 4), (1213, 14, 4), (1212, 14, 4), (1210, 14, 8), (1209, 14, 600), (1208, 14, 600), (1207, 14, 600), (1206, 14, 10), (1205, 14, 10), (1204, 14, 10), (1203, 14, 10), (1202, 14, 10)] := by rw [← eS_311]; exact FaA_sR hFA (by decide)
  have hr_312 : pR S_311 1218 mo = some q_307 := by rw [← eS_311]; exact pR_sR_same
  have hFA : FaA S_311 mo [(1218, 14, 7200), (1217, 14, 4), (1216, 14, 4), (1215, 14, 4), (1214, 14, 4), (1213, 14, 4), (1212, 14, 4), (1210, 14, 8), (1209, 14, 600), (1208, 14, 600), (1207, 14, 600), (1206, 14, 10), (1205, 14, 10), (1204, 14, 10), (1203, 14, 10), (1202, 14, 10)] := FaA_cons ⟨_, hr_312, ha_309, hn_310⟩ hFA
  refine lv_aload_n X.1 X.2.1 dX12_init_172 rfl (lv_at hl 0 rfl) ?_
  refine lv_bipush (v := 12) X.1 X.2.1 dX12_init_173 (by decide) ?_
  have hat_mo_o := hat_mo
  refine r_newI (N := 12) X hw 9094 17 (X.2.2.2.1 (.arrayClass .int) (by decide +kernel)) (by decide) (by decide) (by decide) (Nat.le_of_ble_eq_true rfl) (Nat.le_of_ble_eq_true rfl) (Nat.le_of_ble_eq_true rfl) (Nat.le_of_ble_eq_true rfl) dX12_init_175 (fun q_313 H hq_313 hw => ?_)
  have ne_mo_q_313 : mo ≠ q_313 := At_old hat_mo_o hq_313
  generalize eS_314 : sN S_311 q_313 14 12 = S_314 at hw
  have hat_mo : At S_314 mo 12 := by rw [← eS_314]; exact At_sN hat_mo hq_313
  have ci_1201 : pI S_314 1201 mo = 0 := by rw [← eS_314, pI_sN]; exact ci_1201
  have ci_1211 : pI S_314 1211 mo = 0 := by rw [← eS_314, pI_sN]; exact ci_1211
  have ci_1228 : pI S_314 1228 mo = 0 := by rw [← eS_314, pI_sN]; exact ci_1228
  have ci_1238 : pI S_314 1238 mo = 0 := by rw [← eS_314, pI_sN]; exact ci_1238
  have ci_1245 : pI S_314 1245 mo = 0 := by rw [← eS_314, pI_sN]; exact ci_1245
  have ci_1246 : pI S_314 1246 mo = 0 := by rw [← eS_314, pI_sN]; exact ci_1246
  have ci_1251 : pI S_314 1251 mo = 0 := by rw [← eS_314, pI_sN]; exact ci_1251
  have ci_1262 : pI S_314 1262 mo = 0 := by rw [← eS_314, pI_sN]; exact ci_1262
  have hFA : FaA S_314 mo [(1218, 14, 7200), (1217, 14, 4), (1216, 14, 4), (1215, 14, 4), (1214, 14, 4), (1213, 14, 4), (1212, 14, 4), (1210, 14, 8), (1209, 14, 600), (1208, 14, 600), (1207, 14, 600), (1206, 14, 10), (1205, 14, 10), (1204, 14, 10), (1203, 14, 10), (1202, 14, 10)] := by rw [← eS_314]; exact FaA_sN hFA hq_313
  have ha_315 : At S_314 q_313 14 := by rw [← eS_314]; exact At_nN _ _ _ _
  have hn_316 : pN S_314 q_313 = 12 := by rw [← eS_314]; exact pN_sN_new
  refine r_putR X hw hat_mo 19 1219 (some q_313) rfl tyX12 (by decide) rfl inn_X12_init_12 tyX12_ok nmX12 (by decide) (X.2.2.2.1 (.fieldLink RX12 58 "SilkMillModel" "rowMany" "[I") (by decide +kernel)) rfl (Or.inr ⟨rfl, hin, rfl⟩) (fun _ => rfl) rfl (fun _ => rfl) rfl (Nat.le_of_ble_eq_true rfl) (st_1219 _ _) dX12_init_177 (fun H locs hw => ?_)
  generalize eS_317 : sR S_314 1219 mo (some q_313) = S_317 at hw
  have hat_mo : At S_317 mo 12 := by rw [← eS_317]; exact At_sR hat_mo
  have ha_315 : At S_317 q_313 14 := by rw [← eS_317]; exact At_sR ha_315
  have ci_1201 : pI S_317 1201 mo = 0 := by rw [← eS_317, pI_sR]; exact ci_1201
  have ci_1211 : pI S_317 1211 mo = 0 := by rw [← eS_317, pI_sR]; exact ci_1211
  have ci_1228 : pI S_317 1228 mo = 0 := by rw [← eS_317, pI_sR]; exact ci_1228
  have ci_1238 : pI S_317 1238 mo = 0 := by rw [← eS_317, pI_sR]; exact ci_1238
  have ci_1245 : pI S_317 1245 mo = 0 := by rw [← eS_317, pI_sR]; exact ci_1245
  have ci_1246 : pI S_317 1246 mo = 0 := by rw [← eS_317, pI_sR]; exact ci_1246
  have ci_1251 : pI S_317 1251 mo = 0 := by rw [← eS_317, pI_sR]; exact ci_1251
  have ci_1262 : pI S_317 1262 mo = 0 := by rw [← eS_317, pI_sR]; exact ci_1262
  have hn_316 : pN S_317 q_313 = 12 := by rw [← eS_317, pN_sR]; exact hn_316
  have hFA : FaA S_317 mo [(1218, 14, 7200), (1217, 14, 4), (1216, 14, 4), (1215, 14, 4), (1214, 14, 4), (1213, 14, 4), (1212, 14, 4), (1210, 14, 8), (1209, 14, 600), (1208, 14, 600), (1207, 14, 600), (1206, 14, 10), (1205, 14, 10), (1204, 14, 10), (1203, 14, 10), (1202, 14, 10)] := by rw [← eS_317]; exact FaA_sR hFA (by decide)
  have hr_318 : pR S_317 1219 mo = some q_313 := by rw [← eS_317]; exact pR_sR_same
  have hFA : FaA S_317 mo [(1219, 14, 12), (1218, 14, 7200), (1217, 14, 4), (1216, 14, 4), (1215, 14, 4), (1214, 14, 4), (1213, 14, 4), (1212, 14, 4), (1210, 14, 8), (1209, 14, 600), (1208, 14, 600), (1207, 14, 600), (1206, 14, 10), (1205, 14, 10), (1204, 14, 10), (1203, 14, 10), (1202, 14, 10)] := FaA_cons ⟨_, hr_318, ha_315, hn_316⟩ hFA
  refine lv_aload_n X.1 X.2.1 dX12_init_180 rfl (lv_at hl 0 rfl) ?_
  refine lv_iconst (v := 5) X.1 X.2.1 dX12_init_181 (by decide) ?_
  have hat_mo_o := hat_mo
  refine r_newI (N := 5) X hw 9099 18 (X.2.2.2.1 (.arrayClass .int) (by decide +kernel)) (by decide) (by decide) (by decide) (Nat.le_of_ble_eq_true rfl) (Nat.le_of_ble_eq_true rfl) (Nat.le_of_ble_eq_true rfl) (Nat.le_of_ble_eq_true rfl) dX12_init_182 (fun q_319 H hq_319 hw => ?_)
  have ne_mo_q_319 : mo ≠ q_319 := At_old hat_mo_o hq_319
  generalize eS_320 : sN S_317 q_319 14 5 = S_320 at hw
  have hat_mo : At S_320 mo 12 := by rw [← eS_320]; exact At_sN hat_mo hq_319
  have ci_1201 : pI S_320 1201 mo = 0 := by rw [← eS_320, pI_sN]; exact ci_1201
  have ci_1211 : pI S_320 1211 mo = 0 := by rw [← eS_320, pI_sN]; exact ci_1211
  have ci_1228 : pI S_320 1228 mo = 0 := by rw [← eS_320, pI_sN]; exact ci_1228
  have ci_1238 : pI S_320 1238 mo = 0 := by rw [← eS_320, pI_sN]; exact ci_1238
  have ci_1245 : pI S_320 1245 mo = 0 := by rw [← eS_320, pI_sN]; exact ci_1245
  have ci_1246 : pI S_320 1246 mo = 0 := by rw [← eS_320, pI_sN]; exact ci_1246
  have ci_1251 : pI S_320 1251 mo = 0 := by rw [← eS_320, pI_sN]; exact ci_1251
  have ci_1262 : pI S_320 1262 mo = 0 := by rw [← eS_320, pI_sN]; exact ci_1262
  have hFA : FaA S_320 mo [(1219, 14, 12), (1218, 14, 7200), (1217, 14, 4), (1216, 14, 4), (1215, 14, 4), (1214, 14, 4), (1213, 14, 4), (1212, 14, 4), (1210, 14, 8), (1209, 14, 600), (1208, 14, 600), (1207, 14, 600), (1206, 14, 10), (1205, 14, 10), (1204, 14, 10), (1203, 14, 10), (1202, 14, 10)] := by rw [← eS_320]; exact FaA_sN hFA hq_319
  have ha_321 : At S_320 q_319 14 := by rw [← eS_320]; exact At_nN _ _ _ _
  have hn_322 : pN S_320 q_319 = 5 := by rw [← eS_320]; exact pN_sN_new
  refine r_putR X hw hat_mo 20 1220 (some q_319) rfl tyX12 (by decide) rfl inn_X12_init_12 tyX12_ok nmX12 (by decide) (X.2.2.2.1 (.fieldLink RX12 61 "SilkMillModel" "rules" "[I") (by decide +kernel)) rfl (Or.inr ⟨rfl, hin, rfl⟩) (fun _ => rfl) rfl (fun _ => rfl) rfl (Nat.le_of_ble_eq_true rfl) (st_1220 _ _) dX12_init_184 (fun H locs hw => ?_)
  generalize eS_323 : sR S_320 1220 mo (some q_319) = S_323 at hw
  have hat_mo : At S_323 mo 12 := by rw [← eS_323]; exact At_sR hat_mo
  have ha_321 : At S_323 q_319 14 := by rw [← eS_323]; exact At_sR ha_321
  have ci_1201 : pI S_323 1201 mo = 0 := by rw [← eS_323, pI_sR]; exact ci_1201
  have ci_1211 : pI S_323 1211 mo = 0 := by rw [← eS_323, pI_sR]; exact ci_1211
  have ci_1228 : pI S_323 1228 mo = 0 := by rw [← eS_323, pI_sR]; exact ci_1228
  have ci_1238 : pI S_323 1238 mo = 0 := by rw [← eS_323, pI_sR]; exact ci_1238
  have ci_1245 : pI S_323 1245 mo = 0 := by rw [← eS_323, pI_sR]; exact ci_1245
  have ci_1246 : pI S_323 1246 mo = 0 := by rw [← eS_323, pI_sR]; exact ci_1246
  have ci_1251 : pI S_323 1251 mo = 0 := by rw [← eS_323, pI_sR]; exact ci_1251
  have ci_1262 : pI S_323 1262 mo = 0 := by rw [← eS_323, pI_sR]; exact ci_1262
  have hn_322 : pN S_323 q_319 = 5 := by rw [← eS_323, pN_sR]; exact hn_322
  have hFA : FaA S_323 mo [(1219, 14, 12), (1218, 14, 7200), (1217, 14, 4), (1216, 14, 4), (1215, 14, 4), (1214, 14, 4), (1213, 14, 4), (1212, 14, 4), (1210, 14, 8), (1209, 14, 600), (1208, 14, 600), (1207, 14, 600), (1206, 14, 10), (1205, 14, 10), (1204, 14, 10), (1203, 14, 10), (1202, 14, 10)] := by rw [← eS_323]; exact FaA_sR hFA (by decide)
  have hr_324 : pR S_323 1220 mo = some q_319 := by rw [← eS_323]; exact pR_sR_same
  have hFA : FaA S_323 mo [(1220, 14, 5), (1219, 14, 12), (1218, 14, 7200), (1217, 14, 4), (1216, 14, 4), (1215, 14, 4), (1214, 14, 4), (1213, 14, 4), (1212, 14, 4), (1210, 14, 8), (1209, 14, 600), (1208, 14, 600), (1207, 14, 600), (1206, 14, 10), (1205, 14, 10), (1204, 14, 10), (1203, 14, 10), (1202, 14, 10)] := FaA_cons ⟨_, hr_324, ha_321, hn_322⟩ hFA
  refine lv_aload_n X.1 X.2.1 dX12_init_187 rfl (lv_at hl 0 rfl) ?_
  refine lv_bipush (v := 60) X.1 X.2.1 dX12_init_188 (by decide) ?_
  have hat_mo_o := hat_mo
  refine r_newI (N := 60) X hw 9159 19 (X.2.2.2.1 (.arrayClass .int) (by decide +kernel)) (by decide) (by decide) (by decide) (Nat.le_of_ble_eq_true rfl) (Nat.le_of_ble_eq_true rfl) (Nat.le_of_ble_eq_true rfl) (Nat.le_of_ble_eq_true rfl) dX12_init_190 (fun q_325 H hq_325 hw => ?_)
  have ne_mo_q_325 : mo ≠ q_325 := At_old hat_mo_o hq_325
  generalize eS_326 : sN S_323 q_325 14 60 = S_326 at hw
  have hat_mo : At S_326 mo 12 := by rw [← eS_326]; exact At_sN hat_mo hq_325
  have ci_1201 : pI S_326 1201 mo = 0 := by rw [← eS_326, pI_sN]; exact ci_1201
  have ci_1211 : pI S_326 1211 mo = 0 := by rw [← eS_326, pI_sN]; exact ci_1211
  have ci_1228 : pI S_326 1228 mo = 0 := by rw [← eS_326, pI_sN]; exact ci_1228
  have ci_1238 : pI S_326 1238 mo = 0 := by rw [← eS_326, pI_sN]; exact ci_1238
  have ci_1245 : pI S_326 1245 mo = 0 := by rw [← eS_326, pI_sN]; exact ci_1245
  have ci_1246 : pI S_326 1246 mo = 0 := by rw [← eS_326, pI_sN]; exact ci_1246
  have ci_1251 : pI S_326 1251 mo = 0 := by rw [← eS_326, pI_sN]; exact ci_1251
  have ci_1262 : pI S_326 1262 mo = 0 := by rw [← eS_326, pI_sN]; exact ci_1262
  have hFA : FaA S_326 mo [(1220, 14, 5), (1219, 14, 12), (1218, 14, 7200), (1217, 14, 4), (1216, 14, 4), (1215, 14, 4), (1214, 14, 4), (1213, 14, 4), (1212, 14, 4), (1210, 14, 8), (1209, 14, 600), (1208, 14, 600), (1207, 14, 600), (1206, 14, 10), (1205, 14, 10), (1204, 14, 10), (1203, 14, 10), (1202, 14, 10)] := by rw [← eS_326]; exact FaA_sN hFA hq_325
  have ha_327 : At S_326 q_325 14 := by rw [← eS_326]; exact At_nN _ _ _ _
  have hn_328 : pN S_326 q_325 = 60 := by rw [← eS_326]; exact pN_sN_new
  refine r_putR X hw hat_mo 21 1221 (some q_325) rfl tyX12 (by decide) rfl inn_X12_init_12 tyX12_ok nmX12 (by decide) (X.2.2.2.1 (.fieldLink RX12 64 "SilkMillModel" "act" "[I") (by decide +kernel)) rfl (Or.inr ⟨rfl, hin, rfl⟩) (fun _ => rfl) rfl (fun _ => rfl) rfl (Nat.le_of_ble_eq_true rfl) (st_1221 _ _) dX12_init_192 (fun H locs hw => ?_)
  generalize eS_329 : sR S_326 1221 mo (some q_325) = S_329 at hw
  have hat_mo : At S_329 mo 12 := by rw [← eS_329]; exact At_sR hat_mo
  have ha_327 : At S_329 q_325 14 := by rw [← eS_329]; exact At_sR ha_327
  have ci_1201 : pI S_329 1201 mo = 0 := by rw [← eS_329, pI_sR]; exact ci_1201
  have ci_1211 : pI S_329 1211 mo = 0 := by rw [← eS_329, pI_sR]; exact ci_1211
  have ci_1228 : pI S_329 1228 mo = 0 := by rw [← eS_329, pI_sR]; exact ci_1228
  have ci_1238 : pI S_329 1238 mo = 0 := by rw [← eS_329, pI_sR]; exact ci_1238
  have ci_1245 : pI S_329 1245 mo = 0 := by rw [← eS_329, pI_sR]; exact ci_1245
  have ci_1246 : pI S_329 1246 mo = 0 := by rw [← eS_329, pI_sR]; exact ci_1246
  have ci_1251 : pI S_329 1251 mo = 0 := by rw [← eS_329, pI_sR]; exact ci_1251
  have ci_1262 : pI S_329 1262 mo = 0 := by rw [← eS_329, pI_sR]; exact ci_1262
  have hn_328 : pN S_329 q_325 = 60 := by rw [← eS_329, pN_sR]; exact hn_328
  have hFA : FaA S_329 mo [(1220, 14, 5), (1219, 14, 12), (1218, 14, 7200), (1217, 14, 4), (1216, 14, 4), (1215, 14, 4), (1214, 14, 4), (1213, 14, 4), (1212, 14, 4), (1210, 14, 8), (1209, 14, 600), (1208, 14, 600), (1207, 14, 600), (1206, 14, 10), (1205, 14, 10), (1204, 14, 10), (1203, 14, 10), (1202, 14, 10)] := by rw [← eS_329]; exact FaA_sR hFA (by decide)
  have hr_330 : pR S_329 1221 mo = some q_325 := by rw [← eS_329]; exact pR_sR_same
  have hFA : FaA S_329 mo [(1221, 14, 60), (1220, 14, 5), (1219, 14, 12), (1218, 14, 7200), (1217, 14, 4), (1216, 14, 4), (1215, 14, 4), (1214, 14, 4), (1213, 14, 4), (1212, 14, 4), (1210, 14, 8), (1209, 14, 600), (1208, 14, 600), (1207, 14, 600), (1206, 14, 10), (1205, 14, 10), (1204, 14, 10), (1203, 14, 10), (1202, 14, 10)] := FaA_cons ⟨_, hr_330, ha_327, hn_328⟩ hFA
  refine lv_aload_n X.1 X.2.1 dX12_init_195 rfl (lv_at hl 0 rfl) ?_
  refine lv_bipush (v := 60) X.1 X.2.1 dX12_init_196 (by decide) ?_
  have hat_mo_o := hat_mo
  refine r_newI (N := 60) X hw 9219 20 (X.2.2.2.1 (.arrayClass .int) (by decide +kernel)) (by decide) (by decide) (by decide) (Nat.le_of_ble_eq_true rfl) (Nat.le_of_ble_eq_true rfl) (Nat.le_of_ble_eq_true rfl) (Nat.le_of_ble_eq_true rfl) dX12_init_198 (fun q_331 H hq_331 hw => ?_)
  have ne_mo_q_331 : mo ≠ q_331 := At_old hat_mo_o hq_331
  generalize eS_332 : sN S_329 q_331 14 60 = S_332 at hw
  have hat_mo : At S_332 mo 12 := by rw [← eS_332]; exact At_sN hat_mo hq_331
  have ci_1201 : pI S_332 1201 mo = 0 := by rw [← eS_332, pI_sN]; exact ci_1201
  have ci_1211 : pI S_332 1211 mo = 0 := by rw [← eS_332, pI_sN]; exact ci_1211
  have ci_1228 : pI S_332 1228 mo = 0 := by rw [← eS_332, pI_sN]; exact ci_1228
  have ci_1238 : pI S_332 1238 mo = 0 := by rw [← eS_332, pI_sN]; exact ci_1238
  have ci_1245 : pI S_332 1245 mo = 0 := by rw [← eS_332, pI_sN]; exact ci_1245
  have ci_1246 : pI S_332 1246 mo = 0 := by rw [← eS_332, pI_sN]; exact ci_1246
  have ci_1251 : pI S_332 1251 mo = 0 := by rw [← eS_332, pI_sN]; exact ci_1251
  have ci_1262 : pI S_332 1262 mo = 0 := by rw [← eS_332, pI_sN]; exact ci_1262
  have hFA : FaA S_332 mo [(1221, 14, 60), (1220, 14, 5), (1219, 14, 12), (1218, 14, 7200), (1217, 14, 4), (1216, 14, 4), (1215, 14, 4), (1214, 14, 4), (1213, 14, 4), (1212, 14, 4), (1210, 14, 8), (1209, 14, 600), (1208, 14, 600), (1207, 14, 600), (1206, 14, 10), (1205, 14, 10), (1204, 14, 10), (1203, 14, 10), (1202, 14, 10)] := by rw [← eS_332]; exact FaA_sN hFA hq_331
  have ha_333 : At S_332 q_331 14 := by rw [← eS_332]; exact At_nN _ _ _ _
  have hn_334 : pN S_332 q_331 = 60 := by rw [← eS_332]; exact pN_sN_new
  refine r_putR X hw hat_mo 22 1222 (some q_331) rfl tyX12 (by decide) rfl inn_X12_init_12 tyX12_ok nmX12 (by decide) (X.2.2.2.1 (.fieldLink RX12 67 "SilkMillModel" "actNumber" "[I") (by decide +kernel)) rfl (Or.inr ⟨rfl, hin, rfl⟩) (fun _ => rfl) rfl (fun _ => rfl) rfl (Nat.le_of_ble_eq_true rfl) (st_1222 _ _) dX12_init_200 (fun H locs hw => ?_)
  generalize eS_335 : sR S_332 1222 mo (some q_331) = S_335 at hw
  have hat_mo : At S_335 mo 12 := by rw [← eS_335]; exact At_sR hat_mo
  have ha_333 : At S_335 q_331 14 := by rw [← eS_335]; exact At_sR ha_333
  have ci_1201 : pI S_335 1201 mo = 0 := by rw [← eS_335, pI_sR]; exact ci_1201
  have ci_1211 : pI S_335 1211 mo = 0 := by rw [← eS_335, pI_sR]; exact ci_1211
  have ci_1228 : pI S_335 1228 mo = 0 := by rw [← eS_335, pI_sR]; exact ci_1228
  have ci_1238 : pI S_335 1238 mo = 0 := by rw [← eS_335, pI_sR]; exact ci_1238
  have ci_1245 : pI S_335 1245 mo = 0 := by rw [← eS_335, pI_sR]; exact ci_1245
  have ci_1246 : pI S_335 1246 mo = 0 := by rw [← eS_335, pI_sR]; exact ci_1246
  have ci_1251 : pI S_335 1251 mo = 0 := by rw [← eS_335, pI_sR]; exact ci_1251
  have ci_1262 : pI S_335 1262 mo = 0 := by rw [← eS_335, pI_sR]; exact ci_1262
  have hn_334 : pN S_335 q_331 = 60 := by rw [← eS_335, pN_sR]; exact hn_334
  have hFA : FaA S_335 mo [(1221, 14, 60), (1220, 14, 5), (1219, 14, 12), (1218, 14, 7200), (1217, 14, 4), (1216, 14, 4), (1215, 14, 4), (1214, 14, 4), (1213, 14, 4), (1212, 14, 4), (1210, 14, 8), (1209, 14, 600), (1208, 14, 600), (1207, 14, 600), (1206, 14, 10), (1205, 14, 10), (1204, 14, 10), (1203, 14, 10), (1202, 14, 10)] := by rw [← eS_335]; exact FaA_sR hFA (by decide)
  have hr_336 : pR S_335 1222 mo = some q_331 := by rw [← eS_335]; exact pR_sR_same
  have hFA : FaA S_335 mo [(1222, 14, 60), (1221, 14, 60), (1220, 14, 5), (1219, 14, 12), (1218, 14, 7200), (1217, 14, 4), (1216, 14, 4), (1215, 14, 4), (1214, 14, 4), (1213, 14, 4), (1212, 14, 4), (1210, 14, 8), (1209, 14, 600), (1208, 14, 600), (1207, 14, 600), (1206, 14, 10), (1205, 14, 10), (1204, 14, 10), (1203, 14, 10), (1202, 14, 10)] := FaA_cons ⟨_, hr_336, ha_333, hn_334⟩ hFA
  refine lv_aload_n X.1 X.2.1 dX12_init_203 rfl (lv_at hl 0 rfl) ?_
  refine lv_bipush (v := 60) X.1 X.2.1 dX12_init_204 (by decide) ?_
  have hat_mo_o := hat_mo
  refine r_newI (N := 60) X hw 9279 21 (X.2.2.2.1 (.arrayClass .int) (by decide +kernel)) (by decide) (by decide) (by decide) (Nat.le_of_ble_eq_true rfl) (Nat.le_of_ble_eq_true rfl) (Nat.le_of_ble_eq_true rfl) (Nat.le_of_ble_eq_true rfl) dX12_init_206 (fun q_337 H hq_337 hw => ?_)
  have ne_mo_q_337 : mo ≠ q_337 := At_old hat_mo_o hq_337
  generalize eS_338 : sN S_335 q_337 14 60 = S_338 at hw
  have hat_mo : At S_338 mo 12 := by rw [← eS_338]; exact At_sN hat_mo hq_337
  have ci_1201 : pI S_338 1201 mo = 0 := by rw [← eS_338, pI_sN]; exact ci_1201
  have ci_1211 : pI S_338 1211 mo = 0 := by rw [← eS_338, pI_sN]; exact ci_1211
  have ci_1228 : pI S_338 1228 mo = 0 := by rw [← eS_338, pI_sN]; exact ci_1228
  have ci_1238 : pI S_338 1238 mo = 0 := by rw [← eS_338, pI_sN]; exact ci_1238
  have ci_1245 : pI S_338 1245 mo = 0 := by rw [← eS_338, pI_sN]; exact ci_1245
  have ci_1246 : pI S_338 1246 mo = 0 := by rw [← eS_338, pI_sN]; exact ci_1246
  have ci_1251 : pI S_338 1251 mo = 0 := by rw [← eS_338, pI_sN]; exact ci_1251
  have ci_1262 : pI S_338 1262 mo = 0 := by rw [← eS_338, pI_sN]; exact ci_1262
  have hFA : FaA S_338 mo [(1222, 14, 60), (1221, 14, 60), (1220, 14, 5), (1219, 14, 12), (1218, 14, 7200), (1217, 14, 4), (1216, 14, 4), (1215, 14, 4), (1214, 14, 4), (1213, 14, 4), (1212, 14, 4), (1210, 14, 8), (1209, 14, 600), (1208, 14, 600), (1207, 14, 600), (1206, 14, 10), (1205, 14, 10), (1204, 14, 10), (1203, 14, 10), (1202, 14, 10)] := by rw [← eS_338]; exact FaA_sN hFA hq_337
  have ha_339 : At S_338 q_337 14 := by rw [← eS_338]; exact At_nN _ _ _ _
  have hn_340 : pN S_338 q_337 = 60 := by rw [← eS_338]; exact pN_sN_new
  refine r_putR X hw hat_mo 23 1223 (some q_337) rfl tyX12 (by decide) rfl inn_X12_init_12 tyX12_ok nmX12 (by decide) (X.2.2.2.1 (.fieldLink RX12 70 "SilkMillModel" "conditions" "[I") (by decide +kernel)) rfl (Or.inr ⟨rfl, hin, rfl⟩) (fun _ => rfl) rfl (fun _ => rfl) rfl (Nat.le_of_ble_eq_true rfl) (st_1223 _ _) dX12_init_208 (fun H locs hw => ?_)
  generalize eS_341 : sR S_338 1223 mo (some q_337) = S_341 at hw
  have hat_mo : At S_341 mo 12 := by rw [← eS_341]; exact At_sR hat_mo
  have ha_339 : At S_341 q_337 14 := by rw [← eS_341]; exact At_sR ha_339
  have ci_1201 : pI S_341 1201 mo = 0 := by rw [← eS_341, pI_sR]; exact ci_1201
  have ci_1211 : pI S_341 1211 mo = 0 := by rw [← eS_341, pI_sR]; exact ci_1211
  have ci_1228 : pI S_341 1228 mo = 0 := by rw [← eS_341, pI_sR]; exact ci_1228
  have ci_1238 : pI S_341 1238 mo = 0 := by rw [← eS_341, pI_sR]; exact ci_1238
  have ci_1245 : pI S_341 1245 mo = 0 := by rw [← eS_341, pI_sR]; exact ci_1245
  have ci_1246 : pI S_341 1246 mo = 0 := by rw [← eS_341, pI_sR]; exact ci_1246
  have ci_1251 : pI S_341 1251 mo = 0 := by rw [← eS_341, pI_sR]; exact ci_1251
  have ci_1262 : pI S_341 1262 mo = 0 := by rw [← eS_341, pI_sR]; exact ci_1262
  have hn_340 : pN S_341 q_337 = 60 := by rw [← eS_341, pN_sR]; exact hn_340
  have hFA : FaA S_341 mo [(1222, 14, 60), (1221, 14, 60), (1220, 14, 5), (1219, 14, 12), (1218, 14, 7200), (1217, 14, 4), (1216, 14, 4), (1215, 14, 4), (1214, 14, 4), (1213, 14, 4), (1212, 14, 4), (1210, 14, 8), (1209, 14, 600), (1208, 14, 600), (1207, 14, 600), (1206, 14, 10), (1205, 14, 10), (1204, 14, 10), (1203, 14, 10), (1202, 14, 10)] := by rw [← eS_341]; exact FaA_sR hFA (by decide)
  have hr_342 : pR S_341 1223 mo = some q_337 := by rw [← eS_341]; exact pR_sR_same
  have hFA : FaA S_341 mo [(1223, 14, 60), (1222, 14, 60), (1221, 14, 60), (1220, 14, 5), (1219, 14, 12), (1218, 14, 7200), (1217, 14, 4), (1216, 14, 4), (1215, 14, 4), (1214, 14, 4), (1213, 14, 4), (1212, 14, 4), (1210, 14, 8), (1209, 14, 600), (1208, 14, 600), (1207, 14, 600), (1206, 14, 10), (1205, 14, 10), (1204, 14, 10), (1203, 14, 10), (1202, 14, 10)] := FaA_cons ⟨_, hr_342, ha_339, hn_340⟩ hFA
  exact kk  _ _ _ _ hw hl hat_mo ci_1201 ci_1211 ci_1228 ci_1238 ci_1245 ci_1246 ci_1251 ci_1262 hFA
set_option maxHeartbeats 4000000 in
set_option maxRecDepth 100000 in
theorem sgM_3 {p : Program} {l : Launch} {e : Env} {s : State} {m : MethodId} {below : List Frame} {meth : Method} {c : Code} {Q : State → Prop} (G : va_G) (cy : Nat → ClassId) (S0 : PS) (mo : Nat) (X : Cx p c cX12_init 2 s [.ref mo].toArray wsX12_init RX12 m G cy (AS S0 s.heap.size)) (hin : meth.name = "<init>") (S : PS) (H : Heap) (locs : List Loc) (ls : Array Slot) (hw : Wd G cy (AS S0 s.heap.size) s.heap S H locs) (hl : lv_has ls 2 [(0, .ref mo)]) (hat_mo : At S mo 12) (ci_1201 : pI S 1201 mo = 0) (ci_1211 : pI S 1211 mo = 0) (ci_1228 : pI S 1228 mo = 0) (ci_1238 : pI S 1238 mo = 0) (ci_1245 : pI S 1245 mo = 0) (ci_1246 : pI S 1246 mo = 0) (ci_1251 : pI S 1251 mo = 0) (ci_1262 : pI S 1262 mo = 0) (hFA : FaA S mo [(1223, 14, 60), (1222, 14, 60), (1221, 14, 60), (1220, 14, 5), (1219, 14, 12), (1218, 14, 7200), (1217, 14, 4), (1216, 14, 4), (1215, 14, 4), (1214, 14, 4), (1213, 14, 4), (1212, 14, 4), (1210, 14, 8), (1209, 14, 600), (1208, 14, 600), (1207, 14, 600), (1206, 14, 10), (1205, 14, 10), (1204, 14, 10), (1203, 14, 10), (1202, 14, 10)]) (kk : ∀ (S : PS) (H : Heap) (locs : List Loc) (ls : Array Slot), Wd G cy (AS S0 s.heap.size) s.heap S H locs → lv_has ls 2 [(0, .ref mo)] → At S mo 12 → pI S 1201 mo = 0 → pI S 1211 mo = 0 → pI S 1228 mo = 0 → pI S 1238 mo = 0 → pI S 1245 mo = 0 → pI S 1246 mo = 0 → pI S 1251 mo = 0 → pI S 1262 mo = 0 → pI S 1229 mo = (-1) → FaA S mo [(1236, 14, 158400), (1235, 14, 13200), (1227, 13, 400), (1226, 14, 240), (1225, 14, 240), (1224, 14, 240), (1223, 14, 60), (1222, 14, 60), (1221, 14, 60), (1220, 14, 5), (1219, 14, 12), (1218, 14, 7200), (1217, 14, 4), (1216, 14, 4), (1215, 14, 4), (1214, 14, 4), (1213, 14, 4), (1212, 14, 4), (1210, 14, 8), (1209, 14, 600), (1208, 14, 600), (1207, 14, 600), (1206, 14, 10), (1205, 14, 10), (1204, 14, 10), (1203, 14, 10), (1202, 14, 10)] → W p l e ({ frames := 2, cells := 70, slots := 190000, locals := 80 }) s m [.ref mo].toArray below meth c H locs 27 181999 Q (F0 m 269 ls [])) : W p l e ({ frames := 2, cells := 70, slots := 190000, locals := 80 }) s m [.ref mo].toArray below meth c H locs 21 9279 Q (F0 m 211 ls []) := by
  refine lv_aload_n X.1 X.2.1 dX12_init_211 rfl (lv_at hl 0 rfl) ?_
  refine lv_sipush (v := 240) X.1 X.2.1 dX12_init_212 (by decide) ?_
  have hat_mo_o := hat_mo
  refine r_newI (N := 240) X hw 9519 22 (X.2.2.2.1 (.arrayClass .int) (by decide +kernel)) (by decide) (by decide) (by decide) (Nat.le_of_ble_eq_true rfl) (Nat.le_of_ble_eq_true rfl) (Nat.le_of_ble_eq_true rfl) (Nat.le_of_ble_eq_true rfl) dX12_init_215 (fun q_401 H hq_401 hw => ?_)
  have ne_mo_q_401 : mo ≠ q_401 := At_old hat_mo_o hq_401
  generalize eS_402 : sN S q_401 14 240 = S_402 at hw
  have hat_mo : At S_402 mo 12 := by rw [← eS_402]; exact At_sN hat_mo hq_401
  have ci_1201 : pI S_402 1201 mo = 0 := by rw [← eS_402, pI_sN]; exact ci_1201
  have ci_1211 : pI S_402 1211 mo = 0 := by rw [← eS_402, pI_sN]; exact ci_1211
  have ci_1228 : pI S_402 1228 mo = 0 := by rw [← eS_402, pI_sN]; exact ci_1228
  have ci_1238 : pI S_402 1238 mo = 0 := by rw [← eS_402, pI_sN]; exact ci_1238
  have ci_1245 : pI S_402 1245 mo = 0 := by rw [← eS_402, pI_sN]; exact ci_1245
  have ci_1246 : pI S_402 1246 mo = 0 := by rw [← eS_402, pI_sN]; exact ci_1246
  have ci_1251 : pI S_402 1251 mo = 0 := by rw [← eS_402, pI_sN]; exact ci_1251
  have ci_1262 : pI S_402 1262 mo = 0 := by rw [← eS_402, pI_sN]; exact ci_1262
  have hFA : FaA S_402 mo [(1223, 14, 60), (1222, 14, 60), (1221, 14, 60), (1220, 14, 5), (1219, 14, 12), (1218, 14, 7200), (1217, 14, 4), (1216, 14, 4), (1215, 14, 4), (1214, 14, 4), (1213, 14, 4), (1212, 14, 4), (1210, 14, 8), (1209, 14, 600), (1208, 14, 600), (1207, 14, 600), (1206, 14, 10), (1205, 14, 10), (1204, 14, 10), (1203, 14, 10), (1202, 14, 10)] := by rw [← eS_402]; exact FaA_sN hFA hq_401
  have ha_403 : At S_402 q_401 14 := by rw [← eS_402]; exact At_nN _ _ _ _
  have hn_404 : pN S_402 q_401 = 240 := by rw [← eS_402]; exact pN_sN_new
  refine r_putR X hw hat_mo 24 1224 (some q_401) rfl tyX12 (by decide) rfl inn_X12_init_12 tyX12_ok nmX12 (by decide) (X.2.2.2.1 (.fieldLink RX12 73 "SilkMillModel" "field" "[I") (by decide +kernel)) rfl (Or.inr ⟨rfl, hin, rfl⟩) (fun _ => rfl) rfl (fun _ => rfl) rfl (Nat.le_of_ble_eq_true rfl) (st_1224 _ _) dX12_init_217 (fun H locs hw => ?_)
  generalize eS_405 : sR S_402 1224 mo (some q_401) = S_405 at hw
  have hat_mo : At S_405 mo 12 := by rw [← eS_405]; exact At_sR hat_mo
  have ha_403 : At S_405 q_401 14 := by rw [← eS_405]; exact At_sR ha_403
  have ci_1201 : pI S_405 1201 mo = 0 := by rw [← eS_405, pI_sR]; exact ci_1201
  have ci_1211 : pI S_405 1211 mo = 0 := by rw [← eS_405, pI_sR]; exact ci_1211
  have ci_1228 : pI S_405 1228 mo = 0 := by rw [← eS_405, pI_sR]; exact ci_1228
  have ci_1238 : pI S_405 1238 mo = 0 := by rw [← eS_405, pI_sR]; exact ci_1238
  have ci_1245 : pI S_405 1245 mo = 0 := by rw [← eS_405, pI_sR]; exact ci_1245
  have ci_1246 : pI S_405 1246 mo = 0 := by rw [← eS_405, pI_sR]; exact ci_1246
  have ci_1251 : pI S_405 1251 mo = 0 := by rw [← eS_405, pI_sR]; exact ci_1251
  have ci_1262 : pI S_405 1262 mo = 0 := by rw [← eS_405, pI_sR]; exact ci_1262
  have hn_404 : pN S_405 q_401 = 240 := by rw [← eS_405, pN_sR]; exact hn_404
  have hFA : FaA S_405 mo [(1223, 14, 60), (1222, 14, 60), (1221, 14, 60), (1220, 14, 5), (1219, 14, 12), (1218, 14, 7200), (1217, 14, 4), (1216, 14, 4), (1215, 14, 4), (1214, 14, 4), (1213, 14, 4), (1212, 14, 4), (1210, 14, 8), (1209, 14, 600), (1208, 14, 600), (1207, 14, 600), (1206, 14, 10), (1205, 14, 10), (1204, 14, 10), (1203, 14, 10), (1202, 14, 10)] := by rw [← eS_405]; exact FaA_sR hFA (by decide)
  have hr_406 : pR S_405 1224 mo = some q_401 := by rw [← eS_405]; exact pR_sR_same
  have hFA : FaA S_405 mo [(1224, 14, 240), (1223, 14, 60), (1222, 14, 60), (1221, 14, 60), (1220, 14, 5), (1219, 14, 12), (1218, 14, 7200), (1217, 14, 4), (1216, 14, 4), (1215, 14, 4), (1214, 14, 4), (1213, 14, 4), (1212, 14, 4), (1210, 14, 8), (1209, 14, 600), (1208, 14, 600), (1207, 14, 600), (1206, 14, 10), (1205, 14, 10), (1204, 14, 10), (1203, 14, 10), (1202, 14, 10)] := FaA_cons ⟨_, hr_406, ha_403, hn_404⟩ hFA
  refine lv_aload_n X.1 X.2.1 dX12_init_220 rfl (lv_at hl 0 rfl) ?_
  refine lv_sipush (v := 240) X.1 X.2.1 dX12_init_221 (by decide) ?_
  have hat_mo_o := hat_mo
  refine r_newI (N := 240) X hw 9759 23 (X.2.2.2.1 (.arrayClass .int) (by decide +kernel)) (by decide) (by decide) (by decide) (Nat.le_of_ble_eq_true rfl) (Nat.le_of_ble_eq_true rfl) (Nat.le_of_ble_eq_true rfl) (Nat.le_of_ble_eq_true rfl) dX12_init_224 (fun q_407 H hq_407 hw => ?_)
  have ne_mo_q_407 : mo ≠ q_407 := At_old hat_mo_o hq_407
  generalize eS_408 : sN S_405 q_407 14 240 = S_408 at hw
  have hat_mo : At S_408 mo 12 := by rw [← eS_408]; exact At_sN hat_mo hq_407
  have ci_1201 : pI S_408 1201 mo = 0 := by rw [← eS_408, pI_sN]; exact ci_1201
  have ci_1211 : pI S_408 1211 mo = 0 := by rw [← eS_408, pI_sN]; exact ci_1211
  have ci_1228 : pI S_408 1228 mo = 0 := by rw [← eS_408, pI_sN]; exact ci_1228
  have ci_1238 : pI S_408 1238 mo = 0 := by rw [← eS_408, pI_sN]; exact ci_1238
  have ci_1245 : pI S_408 1245 mo = 0 := by rw [← eS_408, pI_sN]; exact ci_1245
  have ci_1246 : pI S_408 1246 mo = 0 := by rw [← eS_408, pI_sN]; exact ci_1246
  have ci_1251 : pI S_408 1251 mo = 0 := by rw [← eS_408, pI_sN]; exact ci_1251
  have ci_1262 : pI S_408 1262 mo = 0 := by rw [← eS_408, pI_sN]; exact ci_1262
  have hFA : FaA S_408 mo [(1224, 14, 240), (1223, 14, 60), (1222, 14, 60), (1221, 14, 60), (1220, 14, 5), (1219, 14, 12), (1218, 14, 7200), (1217, 14, 4), (1216, 14, 4), (1215, 14, 4), (1214, 14, 4), (1213, 14, 4), (1212, 14, 4), (1210, 14, 8), (1209, 14, 600), (1208, 14, 600), (1207, 14, 600), (1206, 14, 10), (1205, 14, 10), (1204, 14, 10), (1203, 14, 10), (1202, 14, 10)] := by rw [← eS_408]; exact FaA_sN hFA hq_407
  have ha_409 : At S_408 q_407 14 := by rw [← eS_408]; exact At_nN _ _ _ _
  have hn_410 : pN S_408 q_407 = 240 := by rw [← eS_408]; exact pN_sN_new
  refine r_putR X hw hat_mo 25 1225 (some q_407) rfl tyX12 (by decide) rfl inn_X12_init_12 tyX12_ok nmX12 (by decide) (X.2.2.2.1 (.fieldLink RX12 76 "SilkMillModel" "rel" "[I") (by decide +kernel)) rfl (Or.inr ⟨rfl, hin, rfl⟩) (fun _ => rfl) rfl (fun _ => rfl) rfl (Nat.le_of_ble_eq_true rfl) (st_1225 _ _) dX12_init_226 (fun H locs hw => ?_)
  generalize eS_411 : sR S_408 1225 mo (some q_407) = S_411 at hw
  have hat_mo : At S_411 mo 12 := by rw [← eS_411]; exact At_sR hat_mo
  have ha_409 : At S_411 q_407 14 := by rw [← eS_411]; exact At_sR ha_409
  have ci_1201 : pI S_411 1201 mo = 0 := by rw [← eS_411, pI_sR]; exact ci_1201
  have ci_1211 : pI S_411 1211 mo = 0 := by rw [← eS_411, pI_sR]; exact ci_1211
  have ci_1228 : pI S_411 1228 mo = 0 := by rw [← eS_411, pI_sR]; exact ci_1228
  have ci_1238 : pI S_411 1238 mo = 0 := by rw [← eS_411, pI_sR]; exact ci_1238
  have ci_1245 : pI S_411 1245 mo = 0 := by rw [← eS_411, pI_sR]; exact ci_1245
  have ci_1246 : pI S_411 1246 mo = 0 := by rw [← eS_411, pI_sR]; exact ci_1246
  have ci_1251 : pI S_411 1251 mo = 0 := by rw [← eS_411, pI_sR]; exact ci_1251
  have ci_1262 : pI S_411 1262 mo = 0 := by rw [← eS_411, pI_sR]; exact ci_1262
  have hn_410 : pN S_411 q_407 = 240 := by rw [← eS_411, pN_sR]; exact hn_410
  have hFA : FaA S_411 mo [(1224, 14, 240), (1223, 14, 60), (1222, 14, 60), (1221, 14, 60), (1220, 14, 5), (1219, 14, 12), (1218, 14, 7200), (1217, 14, 4), (1216, 14, 4), (1215, 14, 4), (1214, 14, 4), (1213, 14, 4), (1212, 14, 4), (1210, 14, 8), (1209, 14, 600), (1208, 14, 600), (1207, 14, 600), (1206, 14, 10), (1205, 14, 10), (1204, 14, 10), (1203, 14, 10), (1202, 14, 10)] := by rw [← eS_411]; exact FaA_sR hFA (by decide)
  have hr_412 : pR S_411 1225 mo = some q_407 := by rw [← eS_411]; exact pR_sR_same
  have hFA : FaA S_411 mo [(1225, 14, 240), (1224, 14, 240), (1223, 14, 60), (1222, 14, 60), (1221, 14, 60), (1220, 14, 5), (1219, 14, 12), (1218, 14, 7200), (1217, 14, 4), (1216, 14, 4), (1215, 14, 4), (1214, 14, 4), (1213, 14, 4), (1212, 14, 4), (1210, 14, 8), (1209, 14, 600), (1208, 14, 600), (1207, 14, 600), (1206, 14, 10), (1205, 14, 10), (1204, 14, 10), (1203, 14, 10), (1202, 14, 10)] := FaA_cons ⟨_, hr_412, ha_409, hn_410⟩ hFA
  refine lv_aload_n X.1 X.2.1 dX12_init_229 rfl (lv_at hl 0 rfl) ?_
  refine lv_sipush (v := 240) X.1 X.2.1 dX12_init_230 (by decide) ?_
  have hat_mo_o := hat_mo
  refine r_newI (N := 240) X hw 9999 24 (X.2.2.2.1 (.arrayClass .int) (by decide +kernel)) (by decide) (by decide) (by decide) (Nat.le_of_ble_eq_true rfl) (Nat.le_of_ble_eq_true rfl) (Nat.le_of_ble_eq_true rfl) (Nat.le_of_ble_eq_true rfl) dX12_init_233 (fun q_413 H hq_413 hw => ?_)
  have ne_mo_q_413 : mo ≠ q_413 := At_old hat_mo_o hq_413
  generalize eS_414 : sN S_411 q_413 14 240 = S_414 at hw
  have hat_mo : At S_414 mo 12 := by rw [← eS_414]; exact At_sN hat_mo hq_413
  have ci_1201 : pI S_414 1201 mo = 0 := by rw [← eS_414, pI_sN]; exact ci_1201
  have ci_1211 : pI S_414 1211 mo = 0 := by rw [← eS_414, pI_sN]; exact ci_1211
  have ci_1228 : pI S_414 1228 mo = 0 := by rw [← eS_414, pI_sN]; exact ci_1228
  have ci_1238 : pI S_414 1238 mo = 0 := by rw [← eS_414, pI_sN]; exact ci_1238
  have ci_1245 : pI S_414 1245 mo = 0 := by rw [← eS_414, pI_sN]; exact ci_1245
  have ci_1246 : pI S_414 1246 mo = 0 := by rw [← eS_414, pI_sN]; exact ci_1246
  have ci_1251 : pI S_414 1251 mo = 0 := by rw [← eS_414, pI_sN]; exact ci_1251
  have ci_1262 : pI S_414 1262 mo = 0 := by rw [← eS_414, pI_sN]; exact ci_1262
  have hFA : FaA S_414 mo [(1225, 14, 240), (1224, 14, 240), (1223, 14, 60), (1222, 14, 60), (1221, 14, 60), (1220, 14, 5), (1219, 14, 12), (1218, 14, 7200), (1217, 14, 4), (1216, 14, 4), (1215, 14, 4), (1214, 14, 4), (1213, 14, 4), (1212, 14, 4), (1210, 14, 8), (1209, 14, 600), (1208, 14, 600), (1207, 14, 600), (1206, 14, 10), (1205, 14, 10), (1204, 14, 10), (1203, 14, 10), (1202, 14, 10)] := by rw [← eS_414]; exact FaA_sN hFA hq_413
  have ha_415 : At S_414 q_413 14 := by rw [← eS_414]; exact At_nN _ _ _ _
  have hn_416 : pN S_414 q_413 = 240 := by rw [← eS_414]; exact pN_sN_new
  refine r_putR X hw hat_mo 26 1226 (some q_413) rfl tyX12 (by decide) rfl inn_X12_init_12 tyX12_ok nmX12 (by decide) (X.2.2.2.1 (.fieldLink RX12 79 "SilkMillModel" "than" "[I") (by decide +kernel)) rfl (Or.inr ⟨rfl, hin, rfl⟩) (fun _ => rfl) rfl (fun _ => rfl) rfl (Nat.le_of_ble_eq_true rfl) (st_1226 _ _) dX12_init_235 (fun H locs hw => ?_)
  generalize eS_417 : sR S_414 1226 mo (some q_413) = S_417 at hw
  have hat_mo : At S_417 mo 12 := by rw [← eS_417]; exact At_sR hat_mo
  have ha_415 : At S_417 q_413 14 := by rw [← eS_417]; exact At_sR ha_415
  have ci_1201 : pI S_417 1201 mo = 0 := by rw [← eS_417, pI_sR]; exact ci_1201
  have ci_1211 : pI S_417 1211 mo = 0 := by rw [← eS_417, pI_sR]; exact ci_1211
  have ci_1228 : pI S_417 1228 mo = 0 := by rw [← eS_417, pI_sR]; exact ci_1228
  have ci_1238 : pI S_417 1238 mo = 0 := by rw [← eS_417, pI_sR]; exact ci_1238
  have ci_1245 : pI S_417 1245 mo = 0 := by rw [← eS_417, pI_sR]; exact ci_1245
  have ci_1246 : pI S_417 1246 mo = 0 := by rw [← eS_417, pI_sR]; exact ci_1246
  have ci_1251 : pI S_417 1251 mo = 0 := by rw [← eS_417, pI_sR]; exact ci_1251
  have ci_1262 : pI S_417 1262 mo = 0 := by rw [← eS_417, pI_sR]; exact ci_1262
  have hn_416 : pN S_417 q_413 = 240 := by rw [← eS_417, pN_sR]; exact hn_416
  have hFA : FaA S_417 mo [(1225, 14, 240), (1224, 14, 240), (1223, 14, 60), (1222, 14, 60), (1221, 14, 60), (1220, 14, 5), (1219, 14, 12), (1218, 14, 7200), (1217, 14, 4), (1216, 14, 4), (1215, 14, 4), (1214, 14, 4), (1213, 14, 4), (1212, 14, 4), (1210, 14, 8), (1209, 14, 600), (1208, 14, 600), (1207, 14, 600), (1206, 14, 10), (1205, 14, 10), (1204, 14, 10), (1203, 14, 10), (1202, 14, 10)] := by rw [← eS_417]; exact FaA_sR hFA (by decide)
  have hr_418 : pR S_417 1226 mo = some q_413 := by rw [← eS_417]; exact pR_sR_same
  have hFA : FaA S_417 mo [(1226, 14, 240), (1225, 14, 240), (1224, 14, 240), (1223, 14, 60), (1222, 14, 60), (1221, 14, 60), (1220, 14, 5), (1219, 14, 12), (1218, 14, 7200), (1217, 14, 4), (1216, 14, 4), (1215, 14, 4), (1214, 14, 4), (1213, 14, 4), (1212, 14, 4), (1210, 14, 8), (1209, 14, 600), (1208, 14, 600), (1207, 14, 600), (1206, 14, 10), (1205, 14, 10), (1204, 14, 10), (1203, 14, 10), (1202, 14, 10)] := FaA_cons ⟨_, hr_418, ha_415, hn_416⟩ hFA
  refine lv_aload_n X.1 X.2.1 dX12_init_238 rfl (lv_at hl 0 rfl) ?_
  refine lv_sipush (v := 400) X.1 X.2.1 dX12_init_239 (by decide) ?_
  have hat_mo_o := hat_mo
  refine r_newB (N := 400) X hw 10399 25 (X.2.2.2.1 (.arrayClass .byte) (by decide +kernel)) (by decide) (by decide) (by decide) (Nat.le_of_ble_eq_true rfl) (Nat.le_of_ble_eq_true rfl) (Nat.le_of_ble_eq_true rfl) (Nat.le_of_ble_eq_true rfl) dX12_init_242 (fun q_419 H hq_419 hw => ?_)
  have ne_mo_q_419 : mo ≠ q_419 := At_old hat_mo_o hq_419
  generalize eS_420 : sN S_417 q_419 13 400 = S_420 at hw
  have hat_mo : At S_420 mo 12 := by rw [← eS_420]; exact At_sN hat_mo hq_419
  have ci_1201 : pI S_420 1201 mo = 0 := by rw [← eS_420, pI_sN]; exact ci_1201
  have ci_1211 : pI S_420 1211 mo = 0 := by rw [← eS_420, pI_sN]; exact ci_1211
  have ci_1228 : pI S_420 1228 mo = 0 := by rw [← eS_420, pI_sN]; exact ci_1228
  have ci_1238 : pI S_420 1238 mo = 0 := by rw [← eS_420, pI_sN]; exact ci_1238
  have ci_1245 : pI S_420 1245 mo = 0 := by rw [← eS_420, pI_sN]; exact ci_1245
  have ci_1246 : pI S_420 1246 mo = 0 := by rw [← eS_420, pI_sN]; exact ci_1246
  have ci_1251 : pI S_420 1251 mo = 0 := by rw [← eS_420, pI_sN]; exact ci_1251
  have ci_1262 : pI S_420 1262 mo = 0 := by rw [← eS_420, pI_sN]; exact ci_1262
  have hFA : FaA S_420 mo [(1226, 14, 240), (1225, 14, 240), (1224, 14, 240), (1223, 14, 60), (1222, 14, 60), (1221, 14, 60), (1220, 14, 5), (1219, 14, 12), (1218, 14, 7200), (1217, 14, 4), (1216, 14, 4), (1215, 14, 4), (1214, 14, 4), (1213, 14, 4), (1212, 14, 4), (1210, 14, 8), (1209, 14, 600), (1208, 14, 600), (1207, 14, 600), (1206, 14, 10), (1205, 14, 10), (1204, 14, 10), (1203, 14, 10), (1202, 14, 10)] := by rw [← eS_420]; exact FaA_sN hFA hq_419
  have ha_421 : At S_420 q_419 13 := by rw [← eS_420]; exact At_nN _ _ _ _
  have hn_422 : pN S_420 q_419 = 400 := by rw [← eS_420]; exact pN_sN_new
  refine r_putR X hw hat_mo 27 1227 (some q_419) rfl tyX12 (by decide) rfl inn_X12_init_12 tyX12_ok nmX12 (by decide) (X.2.2.2.1 (.fieldLink RX12 82 "SilkMillModel" "tape" "[B") (by decide +kernel)) rfl (Or.inr ⟨rfl, hin, rfl⟩) (fun _ => rfl) rfl (fun _ => rfl) rfl (Nat.le_of_ble_eq_true rfl) (st_1227 _ _) dX12_init_244 (fun H locs hw => ?_)
  generalize eS_423 : sR S_420 1227 mo (some q_419) = S_423 at hw
  have hat_mo : At S_423 mo 12 := by rw [← eS_423]; exact At_sR hat_mo
  have ha_421 : At S_423 q_419 13 := by rw [← eS_423]; exact At_sR ha_421
  have ci_1201 : pI S_423 1201 mo = 0 := by rw [← eS_423, pI_sR]; exact ci_1201
  have ci_1211 : pI S_423 1211 mo = 0 := by rw [← eS_423, pI_sR]; exact ci_1211
  have ci_1228 : pI S_423 1228 mo = 0 := by rw [← eS_423, pI_sR]; exact ci_1228
  have ci_1238 : pI S_423 1238 mo = 0 := by rw [← eS_423, pI_sR]; exact ci_1238
  have ci_1245 : pI S_423 1245 mo = 0 := by rw [← eS_423, pI_sR]; exact ci_1245
  have ci_1246 : pI S_423 1246 mo = 0 := by rw [← eS_423, pI_sR]; exact ci_1246
  have ci_1251 : pI S_423 1251 mo = 0 := by rw [← eS_423, pI_sR]; exact ci_1251
  have ci_1262 : pI S_423 1262 mo = 0 := by rw [← eS_423, pI_sR]; exact ci_1262
  have hn_422 : pN S_423 q_419 = 400 := by rw [← eS_423, pN_sR]; exact hn_422
  have hFA : FaA S_423 mo [(1226, 14, 240), (1225, 14, 240), (1224, 14, 240), (1223, 14, 60), (1222, 14, 60), (1221, 14, 60), (1220, 14, 5), (1219, 14, 12), (1218, 14, 7200), (1217, 14, 4), (1216, 14, 4), (1215, 14, 4), (1214, 14, 4), (1213, 14, 4), (1212, 14, 4), (1210, 14, 8), (1209, 14, 600), (1208, 14, 600), (1207, 14, 600), (1206, 14, 10), (1205, 14, 10), (1204, 14, 10), (1203, 14, 10), (1202, 14, 10)] := by rw [← eS_423]; exact FaA_sR hFA (by decide)
  have hr_424 : pR S_423 1227 mo = some q_419 := by rw [← eS_423]; exact pR_sR_same
  have hFA : FaA S_423 mo [(1227, 13, 400), (1226, 14, 240), (1225, 14, 240), (1224, 14, 240), (1223, 14, 60), (1222, 14, 60), (1221, 14, 60), (1220, 14, 5), (1219, 14, 12), (1218, 14, 7200), (1217, 14, 4), (1216, 14, 4), (1215, 14, 4), (1214, 14, 4), (1213, 14, 4), (1212, 14, 4), (1210, 14, 8), (1209, 14, 600), (1208, 14, 600), (1207, 14, 600), (1206, 14, 10), (1205, 14, 10), (1204, 14, 10), (1203, 14, 10), (1202, 14, 10)] := FaA_cons ⟨_, hr_424, ha_421, hn_422⟩ hFA
  refine lv_aload_n X.1 X.2.1 dX12_init_247 rfl (lv_at hl 0 rfl) ?_
  refine lv_iconst (v := (-1)) X.1 X.2.1 dX12_init_248 (by decide) ?_
  refine r_putI (v := (-1)) X hw hat_mo 29 1229 tyX12 (by decide) rfl inn_X12_init_12 tyX12_ok nmX12 (by decide) (X.2.2.2.1 (.fieldLink RX12 86 "SilkMillModel" "faultPlace" "I") (by decide +kernel)) rfl (Or.inl rfl) rfl rfl (Nat.le_of_ble_eq_true rfl) (st_1229 _ _) dX12_init_249 (fun H locs hw => ?_)
  generalize eS_425 : sI S_423 1229 mo (-1) = S_425 at hw
  have hat_mo : At S_425 mo 12 := by rw [← eS_425]; exact At_sI hat_mo
  have ci_1201 : pI S_425 1201 mo = 0 := by rw [← eS_425]; exact (pI_sI_nf (by decide)).trans ci_1201
  have ci_1211 : pI S_425 1211 mo = 0 := by rw [← eS_425]; exact (pI_sI_nf (by decide)).trans ci_1211
  have ci_1228 : pI S_425 1228 mo = 0 := by rw [← eS_425]; exact (pI_sI_nf (by decide)).trans ci_1228
  have ci_1238 : pI S_425 1238 mo = 0 := by rw [← eS_425]; exact (pI_sI_nf (by decide)).trans ci_1238
  have ci_1245 : pI S_425 1245 mo = 0 := by rw [← eS_425]; exact (pI_sI_nf (by decide)).trans ci_1245
  have ci_1246 : pI S_425 1246 mo = 0 := by rw [← eS_425]; exact (pI_sI_nf (by decide)).trans ci_1246
  have ci_1251 : pI S_425 1251 mo = 0 := by rw [← eS_425]; exact (pI_sI_nf (by decide)).trans ci_1251
  have ci_1262 : pI S_425 1262 mo = 0 := by rw [← eS_425]; exact (pI_sI_nf (by decide)).trans ci_1262
  have hFA : FaA S_425 mo [(1227, 13, 400), (1226, 14, 240), (1225, 14, 240), (1224, 14, 240), (1223, 14, 60), (1222, 14, 60), (1221, 14, 60), (1220, 14, 5), (1219, 14, 12), (1218, 14, 7200), (1217, 14, 4), (1216, 14, 4), (1215, 14, 4), (1214, 14, 4), (1213, 14, 4), (1212, 14, 4), (1210, 14, 8), (1209, 14, 600), (1208, 14, 600), (1207, 14, 600), (1206, 14, 10), (1205, 14, 10), (1204, 14, 10), (1203, 14, 10), (1202, 14, 10)] := by rw [← eS_425]; exact FaA_sI hFA
  have hc_426 : pI S_425 1229 mo = (-1) := by rw [← eS_425]; exact pI_sI_same
  refine lv_aload_n X.1 X.2.1 dX12_init_252 rfl (lv_at hl 0 rfl) ?_
  refine lv_sipush (v := 13200) X.1 X.2.1 dX12_init_253 (by decide) ?_
  have hat_mo_o := hat_mo
  refine r_newI (N := 13200) X hw 23599 26 (X.2.2.2.1 (.arrayClass .int) (by decide +kernel)) (by decide) (by decide) (by decide) (Nat.le_of_ble_eq_true rfl) (Nat.le_of_ble_eq_true rfl) (Nat.le_of_ble_eq_true rfl) (Nat.le_of_ble_eq_true rfl) dX12_init_256 (fun q_427 H hq_427 hw => ?_)
  have ne_mo_q_427 : mo ≠ q_427 := At_old hat_mo_o hq_427
  generalize eS_428 : sN S_425 q_427 14 13200 = S_428 at hw
  have hat_mo : At S_428 mo 12 := by rw [← eS_428]; exact At_sN hat_mo hq_427
  have ci_1201 : pI S_428 1201 mo = 0 := by rw [← eS_428, pI_sN]; exact ci_1201
  have ci_1211 : pI S_428 1211 mo = 0 := by rw [← eS_428, pI_sN]; exact ci_1211
  have ci_1228 : pI S_428 1228 mo = 0 := by rw [← eS_428, pI_sN]; exact ci_1228
  have ci_1238 : pI S_428 1238 mo = 0 := by rw [← eS_428, pI_sN]; exact ci_1238
  have ci_1245 : pI S_428 1245 mo = 0 := by rw [← eS_428, pI_sN]; exact ci_1245
  have ci_1246 : pI S_428 1246 mo = 0 := by rw [← eS_428, pI_sN]; exact ci_1246
  have ci_1251 : pI S_428 1251 mo = 0 := by rw [← eS_428, pI_sN]; exact ci_1251
  have ci_1262 : pI S_428 1262 mo = 0 := by rw [← eS_428, pI_sN]; exact ci_1262
  have hc_426 : pI S_428 1229 mo = (-1) := by rw [← eS_428, pI_sN]; exact hc_426
  have hFA : FaA S_428 mo [(1227, 13, 400), (1226, 14, 240), (1225, 14, 240), (1224, 14, 240), (1223, 14, 60), (1222, 14, 60), (1221, 14, 60), (1220, 14, 5), (1219, 14, 12), (1218, 14, 7200), (1217, 14, 4), (1216, 14, 4), (1215, 14, 4), (1214, 14, 4), (1213, 14, 4), (1212, 14, 4), (1210, 14, 8), (1209, 14, 600), (1208, 14, 600), (1207, 14, 600), (1206, 14, 10), (1205, 14, 10), (1204, 14, 10), (1203, 14, 10), (1202, 14, 10)] := by rw [← eS_428]; exact FaA_sN hFA hq_427
  have ha_429 : At S_428 q_427 14 := by rw [← eS_428]; exact At_nN _ _ _ _
  have hn_430 : pN S_428 q_427 = 13200 := by rw [← eS_428]; exact pN_sN_new
  refine r_putR X hw hat_mo 35 1235 (some q_427) rfl tyX12 (by decide) rfl inn_X12_init_12 tyX12_ok nmX12 (by decide) (X.2.2.2.1 (.fieldLink RX12 90 "SilkMillModel" "metreEnds" "[I") (by decide +kernel)) rfl (Or.inr ⟨rfl, hin, rfl⟩) (fun _ => rfl) rfl (fun _ => rfl) rfl (Nat.le_of_ble_eq_true rfl) (st_1235 _ _) dX12_init_258 (fun H locs hw => ?_)
  generalize eS_431 : sR S_428 1235 mo (some q_427) = S_431 at hw
  have hat_mo : At S_431 mo 12 := by rw [← eS_431]; exact At_sR hat_mo
  have ha_429 : At S_431 q_427 14 := by rw [← eS_431]; exact At_sR ha_429
  have ci_1201 : pI S_431 1201 mo = 0 := by rw [← eS_431, pI_sR]; exact ci_1201
  have ci_1211 : pI S_431 1211 mo = 0 := by rw [← eS_431, pI_sR]; exact ci_1211
  have ci_1228 : pI S_431 1228 mo = 0 := by rw [← eS_431, pI_sR]; exact ci_1228
  have ci_1238 : pI S_431 1238 mo = 0 := by rw [← eS_431, pI_sR]; exact ci_1238
  have ci_1245 : pI S_431 1245 mo = 0 := by rw [← eS_431, pI_sR]; exact ci_1245
  have ci_1246 : pI S_431 1246 mo = 0 := by rw [← eS_431, pI_sR]; exact ci_1246
  have ci_1251 : pI S_431 1251 mo = 0 := by rw [← eS_431, pI_sR]; exact ci_1251
  have ci_1262 : pI S_431 1262 mo = 0 := by rw [← eS_431, pI_sR]; exact ci_1262
  have hc_426 : pI S_431 1229 mo = (-1) := by rw [← eS_431, pI_sR]; exact hc_426
  have hn_430 : pN S_431 q_427 = 13200 := by rw [← eS_431, pN_sR]; exact hn_430
  have hFA : FaA S_431 mo [(1227, 13, 400), (1226, 14, 240), (1225, 14, 240), (1224, 14, 240), (1223, 14, 60), (1222, 14, 60), (1221, 14, 60), (1220, 14, 5), (1219, 14, 12), (1218, 14, 7200), (1217, 14, 4), (1216, 14, 4), (1215, 14, 4), (1214, 14, 4), (1213, 14, 4), (1212, 14, 4), (1210, 14, 8), (1209, 14, 600), (1208, 14, 600), (1207, 14, 600), (1206, 14, 10), (1205, 14, 10), (1204, 14, 10), (1203, 14, 10), (1202, 14, 10)] := by rw [← eS_431]; exact FaA_sR hFA (by decide)
  have hr_432 : pR S_431 1235 mo = some q_427 := by rw [← eS_431]; exact pR_sR_same
  have hFA : FaA S_431 mo [(1235, 14, 13200), (1227, 13, 400), (1226, 14, 240), (1225, 14, 240), (1224, 14, 240), (1223, 14, 60), (1222, 14, 60), (1221, 14, 60), (1220, 14, 5), (1219, 14, 12), (1218, 14, 7200), (1217, 14, 4), (1216, 14, 4), (1215, 14, 4), (1214, 14, 4), (1213, 14, 4), (1212, 14, 4), (1210, 14, 8), (1209, 14, 600), (1208, 14, 600), (1207, 14, 600), (1206, 14, 10), (1205, 14, 10), (1204, 14, 10), (1203, 14, 10), (1202, 14, 10)] := FaA_cons ⟨_, hr_432, ha_429, hn_430⟩ hFA
  refine lv_aload_n X.1 X.2.1 dX12_init_261 rfl (lv_at hl 0 rfl) ?_
  refine lv_ldc (v := 158400) X.1 X.2.1 X.2.2.2.2.1 (X.2.2.2.1 (.constant RX12 93 158400) (by decide +kernel)) dX12_init_262 ?_
  have hat_mo_o := hat_mo
  refine r_newI (N := 158400) X hw 181999 27 (X.2.2.2.1 (.arrayClass .int) (by decide +kernel)) (by decide) (by decide) (by decide) (Nat.le_of_ble_eq_true rfl) (Nat.le_of_ble_eq_true rfl) (Nat.le_of_ble_eq_true rfl) (Nat.le_of_ble_eq_true rfl) dX12_init_264 (fun q_433 H hq_433 hw => ?_)
  have ne_mo_q_433 : mo ≠ q_433 := At_old hat_mo_o hq_433
  generalize eS_434 : sN S_431 q_433 14 158400 = S_434 at hw
  have hat_mo : At S_434 mo 12 := by rw [← eS_434]; exact At_sN hat_mo hq_433
  have ci_1201 : pI S_434 1201 mo = 0 := by rw [← eS_434, pI_sN]; exact ci_1201
  have ci_1211 : pI S_434 1211 mo = 0 := by rw [← eS_434, pI_sN]; exact ci_1211
  have ci_1228 : pI S_434 1228 mo = 0 := by rw [← eS_434, pI_sN]; exact ci_1228
  have ci_1238 : pI S_434 1238 mo = 0 := by rw [← eS_434, pI_sN]; exact ci_1238
  have ci_1245 : pI S_434 1245 mo = 0 := by rw [← eS_434, pI_sN]; exact ci_1245
  have ci_1246 : pI S_434 1246 mo = 0 := by rw [← eS_434, pI_sN]; exact ci_1246
  have ci_1251 : pI S_434 1251 mo = 0 := by rw [← eS_434, pI_sN]; exact ci_1251
  have ci_1262 : pI S_434 1262 mo = 0 := by rw [← eS_434, pI_sN]; exact ci_1262
  have hc_426 : pI S_434 1229 mo = (-1) := by rw [← eS_434, pI_sN]; exact hc_426
  have hFA : FaA S_434 mo [(1235, 14, 13200), (1227, 13, 400), (1226, 14, 240), (1225, 14, 240), (1224, 14, 240), (1223, 14, 60), (1222, 14, 60), (1221, 14, 60), (1220, 14, 5), (1219, 14, 12), (1218, 14, 7200), (1217, 14, 4), (1216, 14, 4), (1215, 14, 4), (1214, 14, 4), (1213, 14, 4), (1212, 14, 4), (1210, 14, 8), (1209, 14, 600), (1208, 14, 600), (1207, 14, 600), (1206, 14, 10), (1205, 14, 10), (1204, 14, 10), (1203, 14, 10), (1202, 14, 10)] := by rw [← eS_434]; exact FaA_sN hFA hq_433
  have ha_435 : At S_434 q_433 14 := by rw [← eS_434]; exact At_nN _ _ _ _
  have hn_436 : pN S_434 q_433 = 158400 := by rw [← eS_434]; exact pN_sN_new
  refine r_putR X hw hat_mo 36 1236 (some q_433) rfl tyX12 (by decide) rfl inn_X12_init_12 tyX12_ok nmX12 (by decide) (X.2.2.2.1 (.fieldLink RX12 94 "SilkMillModel" "drawn" "[I") (by decide +kernel)) rfl (Or.inr ⟨rfl, hin, rfl⟩) (fun _ => rfl) rfl (fun _ => rfl) rfl (Nat.le_of_ble_eq_true rfl) (st_1236 _ _) dX12_init_266 (fun H locs hw => ?_)
  generalize eS_437 : sR S_434 1236 mo (some q_433) = S_437 at hw
  have hat_mo : At S_437 mo 12 := by rw [← eS_437]; exact At_sR hat_mo
  have ha_435 : At S_437 q_433 14 := by rw [← eS_437]; exact At_sR ha_435
  have ci_1201 : pI S_437 1201 mo = 0 := by rw [← eS_437, pI_sR]; exact ci_1201
  have ci_1211 : pI S_437 1211 mo = 0 := by rw [← eS_437, pI_sR]; exact ci_1211
  have ci_1228 : pI S_437 1228 mo = 0 := by rw [← eS_437, pI_sR]; exact ci_1228
  have ci_1238 : pI S_437 1238 mo = 0 := by rw [← eS_437, pI_sR]; exact ci_1238
  have ci_1245 : pI S_437 1245 mo = 0 := by rw [← eS_437, pI_sR]; exact ci_1245
  have ci_1246 : pI S_437 1246 mo = 0 := by rw [← eS_437, pI_sR]; exact ci_1246
  have ci_1251 : pI S_437 1251 mo = 0 := by rw [← eS_437, pI_sR]; exact ci_1251
  have ci_1262 : pI S_437 1262 mo = 0 := by rw [← eS_437, pI_sR]; exact ci_1262
  have hc_426 : pI S_437 1229 mo = (-1) := by rw [← eS_437, pI_sR]; exact hc_426
  have hn_436 : pN S_437 q_433 = 158400 := by rw [← eS_437, pN_sR]; exact hn_436
  have hFA : FaA S_437 mo [(1235, 14, 13200), (1227, 13, 400), (1226, 14, 240), (1225, 14, 240), (1224, 14, 240), (1223, 14, 60), (1222, 14, 60), (1221, 14, 60), (1220, 14, 5), (1219, 14, 12), (1218, 14, 7200), (1217, 14, 4), (1216, 14, 4), (1215, 14, 4), (1214, 14, 4), (1213, 14, 4), (1212, 14, 4), (1210, 14, 8), (1209, 14, 600), (1208, 14, 600), (1207, 14, 600), (1206, 14, 10), (1205, 14, 10), (1204, 14, 10), (1203, 14, 10), (1202, 14, 10)] := by rw [← eS_437]; exact FaA_sR hFA (by decide)
  have hr_438 : pR S_437 1236 mo = some q_433 := by rw [← eS_437]; exact pR_sR_same
  have hFA : FaA S_437 mo [(1236, 14, 158400), (1235, 14, 13200), (1227, 13, 400), (1226, 14, 240), (1225, 14, 240), (1224, 14, 240), (1223, 14, 60), (1222, 14, 60), (1221, 14, 60), (1220, 14, 5), (1219, 14, 12), (1218, 14, 7200), (1217, 14, 4), (1216, 14, 4), (1215, 14, 4), (1214, 14, 4), (1213, 14, 4), (1212, 14, 4), (1210, 14, 8), (1209, 14, 600), (1208, 14, 600), (1207, 14, 600), (1206, 14, 10), (1205, 14, 10), (1204, 14, 10), (1203, 14, 10), (1202, 14, 10)] := FaA_cons ⟨_, hr_438, ha_435, hn_436⟩ hFA
  exact kk  _ _ _ _ hw hl hat_mo ci_1201 ci_1211 ci_1228 ci_1238 ci_1245 ci_1246 ci_1251 ci_1262 hc_426 hFA
set_option maxHeartbeats 4000000 in
set_option maxRecDepth 100000 in
theorem sgM_4 {p : Program} {l : Launch} {e : Env} {s : State} {m : MethodId} {below : List Frame} {meth : Method} {c : Code} {Q : State → Prop} (G : va_G) (cy : Nat → ClassId) (S0 : PS) (mo : Nat) (X : Cx p c cX12_init 2 s [.ref mo].toArray wsX12_init RX12 m G cy (AS S0 s.heap.size)) (hin : meth.name = "<init>") (S : PS) (H : Heap) (locs : List Loc) (ls : Array Slot) (hw : Wd G cy (AS S0 s.heap.size) s.heap S H locs) (hl : lv_has ls 2 [(0, .ref mo)]) (hat_mo : At S mo 12) (ci_1201 : pI S 1201 mo = 0) (ci_1211 : pI S 1211 mo = 0) (ci_1228 : pI S 1228 mo = 0) (ci_1238 : pI S 1238 mo = 0) (ci_1245 : pI S 1245 mo = 0) (ci_1246 : pI S 1246 mo = 0) (ci_1251 : pI S 1251 mo = 0) (ci_1262 : pI S 1262 mo = 0) (hc_426 : pI S 1229 mo = (-1)) (hFA : FaA S mo [(1236, 14, 158400), (1235, 14, 13200), (1227, 13, 400), (1226, 14, 240), (1225, 14, 240), (1224, 14, 240), (1223, 14, 60), (1222, 14, 60), (1221, 14, 60), (1220, 14, 5), (1219, 14, 12), (1218, 14, 7200), (1217, 14, 4), (1216, 14, 4), (1215, 14, 4), (1214, 14, 4), (1213, 14, 4), (1212, 14, 4), (1210, 14, 8), (1209, 14, 600), (1208, 14, 600), (1207, 14, 600), (1206, 14, 10), (1205, 14, 10), (1204, 14, 10), (1203, 14, 10), (1202, 14, 10)]) (kk : ∀ (q_507 : Nat) (S : PS) (H : Heap) (locs : List Loc) (ls : Array Slot), Wd G cy (AS S0 s.heap.size) s.heap S H locs → lv_has ls 2 [(0, .ref mo)] → At S mo 12 → At S q_507 14 → pR S 1239 mo = some q_507 → pI S 1201 mo = 0 → pI S 1211 mo = 0 → pI S 1228 mo = 0 → pI S 1238 mo = 0 → pI S 1245 mo = 0 → pI S 1246 mo = 0 → pI S 1251 mo = 0 → pI S 1262 mo = 0 → pI S 1229 mo = (-1) → pN S q_507 = 41 → (∀ j, pA S q_507 j = 0) → FaA S mo [(1244, 15, 40), (1243, 14, 40), (1242, 14, 40), (1241, 14, 40), (1240, 14, 40), (1239, 14, 41), (1237, 14, 4), (1236, 14, 158400), (1235, 14, 13200), (1227, 13, 400), (1226, 14, 240), (1225, 14, 240), (1224, 14, 240), (1223, 14, 60), (1222, 14, 60), (1221, 14, 60), (1220, 14, 5), (1219, 14, 12), (1218, 14, 7200), (1217, 14, 4), (1216, 14, 4), (1215, 14, 4), (1214, 14, 4), (1213, 14, 4), (1212, 14, 4), (1210, 14, 8), (1209, 14, 600), (1208, 14, 600), (1207, 14, 600), (1206, 14, 10), (1205, 14, 10), (1204, 14, 10), (1203, 14, 10), (1202, 14, 10)] → mo ≠ q_507 → W p l e ({ frames := 2, cells := 70, slots := 190000, locals := 80 }) s m [.ref mo].toArray below meth c H locs 34 182244 Q (F0 m 324 ls [])) : W p l e ({ frames := 2, cells := 70, slots := 190000, locals := 80 }) s m [.ref mo].toArray below meth c H locs 27 181999 Q (F0 m 269 ls []) := by
  refine lv_aload_n X.1 X.2.1 dX12_init_269 rfl (lv_at hl 0 rfl) ?_
  refine lv_iconst (v := 4) X.1 X.2.1 dX12_init_270 (by decide) ?_
  have hat_mo_o := hat_mo
  refine r_newI (N := 4) X hw 182003 28 (X.2.2.2.1 (.arrayClass .int) (by decide +kernel)) (by decide) (by decide) (by decide) (Nat.le_of_ble_eq_true rfl) (Nat.le_of_ble_eq_true rfl) (Nat.le_of_ble_eq_true rfl) (Nat.le_of_ble_eq_true rfl) dX12_init_271 (fun q_501 H hq_501 hw => ?_)
  have ne_mo_q_501 : mo ≠ q_501 := At_old hat_mo_o hq_501
  generalize eS_502 : sN S q_501 14 4 = S_502 at hw
  have hat_mo : At S_502 mo 12 := by rw [← eS_502]; exact At_sN hat_mo hq_501
  have ci_1201 : pI S_502 1201 mo = 0 := by rw [← eS_502, pI_sN]; exact ci_1201
  have ci_1211 : pI S_502 1211 mo = 0 := by rw [← eS_502, pI_sN]; exact ci_1211
  have ci_1228 : pI S_502 1228 mo = 0 := by rw [← eS_502, pI_sN]; exact ci_1228
  have ci_1238 : pI S_502 1238 mo = 0 := by rw [← eS_502, pI_sN]; exact ci_1238
  have ci_1245 : pI S_502 1245 mo = 0 := by rw [← eS_502, pI_sN]; exact ci_1245
  have ci_1246 : pI S_502 1246 mo = 0 := by rw [← eS_502, pI_sN]; exact ci_1246
  have ci_1251 : pI S_502 1251 mo = 0 := by rw [← eS_502, pI_sN]; exact ci_1251
  have ci_1262 : pI S_502 1262 mo = 0 := by rw [← eS_502, pI_sN]; exact ci_1262
  have hc_426 : pI S_502 1229 mo = (-1) := by rw [← eS_502, pI_sN]; exact hc_426
  have hFA : FaA S_502 mo [(1236, 14, 158400), (1235, 14, 13200), (1227, 13, 400), (1226, 14, 240), (1225, 14, 240), (1224, 14, 240), (1223, 14, 60), (1222, 14, 60), (1221, 14, 60), (1220, 14, 5), (1219, 14, 12), (1218, 14, 7200), (1217, 14, 4), (1216, 14, 4), (1215, 14, 4), (1214, 14, 4), (1213, 14, 4), (1212, 14, 4), (1210, 14, 8), (1209, 14, 600), (1208, 14, 600), (1207, 14, 600), (1206, 14, 10), (1205, 14, 10), (1204, 14, 10), (1203, 14, 10), (1202, 14, 10)] := by rw [← eS_502]; exact FaA_sN hFA hq_501
  have ha_503 : At S_502 q_501 14 := by rw [← eS_502]; exact At_nN _ _ _ _
  have hn_504 : pN S_502 q_501 = 4 := by rw [← eS_502]; exact pN_sN_new
  refine r_putR X hw hat_mo 37 1237 (some q_501) rfl tyX12 (by decide) rfl inn_X12_init_12 tyX12_ok nmX12 (by decide) (X.2.2.2.1 (.fieldLink RX12 97 "SilkMillModel" "grown" "[I") (by decide +kernel)) rfl (Or.inr ⟨rfl, hin, rfl⟩) (fun _ => rfl) rfl (fun _ => rfl) rfl (Nat.le_of_ble_eq_true rfl) (st_1237 _ _) dX12_init_273 (fun H locs hw => ?_)
  generalize eS_505 : sR S_502 1237 mo (some q_501) = S_505 at hw
  have hat_mo : At S_505 mo 12 := by rw [← eS_505]; exact At_sR hat_mo
  have ha_503 : At S_505 q_501 14 := by rw [← eS_505]; exact At_sR ha_503
  have ci_1201 : pI S_505 1201 mo = 0 := by rw [← eS_505, pI_sR]; exact ci_1201
  have ci_1211 : pI S_505 1211 mo = 0 := by rw [← eS_505, pI_sR]; exact ci_1211
  have ci_1228 : pI S_505 1228 mo = 0 := by rw [← eS_505, pI_sR]; exact ci_1228
  have ci_1238 : pI S_505 1238 mo = 0 := by rw [← eS_505, pI_sR]; exact ci_1238
  have ci_1245 : pI S_505 1245 mo = 0 := by rw [← eS_505, pI_sR]; exact ci_1245
  have ci_1246 : pI S_505 1246 mo = 0 := by rw [← eS_505, pI_sR]; exact ci_1246
  have ci_1251 : pI S_505 1251 mo = 0 := by rw [← eS_505, pI_sR]; exact ci_1251
  have ci_1262 : pI S_505 1262 mo = 0 := by rw [← eS_505, pI_sR]; exact ci_1262
  have hc_426 : pI S_505 1229 mo = (-1) := by rw [← eS_505, pI_sR]; exact hc_426
  have hn_504 : pN S_505 q_501 = 4 := by rw [← eS_505, pN_sR]; exact hn_504
  have hFA : FaA S_505 mo [(1236, 14, 158400), (1235, 14, 13200), (1227, 13, 400), (1226, 14, 240), (1225, 14, 240), (1224, 14, 240), (1223, 14, 60), (1222, 14, 60), (1221, 14, 60), (1220, 14, 5), (1219, 14, 12), (1218, 14, 7200), (1217, 14, 4), (1216, 14, 4), (1215, 14, 4), (1214, 14, 4), (1213, 14, 4), (1212, 14, 4), (1210, 14, 8), (1209, 14, 600), (1208, 14, 600), (1207, 14, 600), (1206, 14, 10), (1205, 14, 10), (1204, 14, 10), (1203, 14, 10), (1202, 14, 10)] := by rw [← eS_505]; exact FaA_sR hFA (by decide)
  have hr_506 : pR S_505 1237 mo = some q_501 := by rw [← eS_505]; exact pR_sR_same
  have hFA : FaA S_505 mo [(1237, 14, 4), (1236, 14, 158400), (1235, 14, 13200), (1227, 13, 400), (1226, 14, 240), (1225, 14, 240), (1224, 14, 240), (1223, 14, 60), (1222, 14, 60), (1221, 14, 60), (1220, 14, 5), (1219, 14, 12), (1218, 14, 7200), (1217, 14, 4), (1216, 14, 4), (1215, 14, 4), (1214, 14, 4), (1213, 14, 4), (1212, 14, 4), (1210, 14, 8), (1209, 14, 600), (1208, 14, 600), (1207, 14, 600), (1206, 14, 10), (1205, 14, 10), (1204, 14, 10), (1203, 14, 10), (1202, 14, 10)] := FaA_cons ⟨_, hr_506, ha_503, hn_504⟩ hFA
  refine lv_aload_n X.1 X.2.1 dX12_init_276 rfl (lv_at hl 0 rfl) ?_
  refine lv_bipush (v := 41) X.1 X.2.1 dX12_init_277 (by decide) ?_
  have hat_mo_o := hat_mo
  refine r_newI (N := 41) X hw 182044 29 (X.2.2.2.1 (.arrayClass .int) (by decide +kernel)) (by decide) (by decide) (by decide) (Nat.le_of_ble_eq_true rfl) (Nat.le_of_ble_eq_true rfl) (Nat.le_of_ble_eq_true rfl) (Nat.le_of_ble_eq_true rfl) dX12_init_279 (fun q_507 H hq_507 hw => ?_)
  have ne_mo_q_507 : mo ≠ q_507 := At_old hat_mo_o hq_507
  generalize eS_508 : sN S_505 q_507 14 41 = S_508 at hw
  have hat_mo : At S_508 mo 12 := by rw [← eS_508]; exact At_sN hat_mo hq_507
  have ci_1201 : pI S_508 1201 mo = 0 := by rw [← eS_508, pI_sN]; exact ci_1201
  have ci_1211 : pI S_508 1211 mo = 0 := by rw [← eS_508, pI_sN]; exact ci_1211
  have ci_1228 : pI S_508 1228 mo = 0 := by rw [← eS_508, pI_sN]; exact ci_1228
  have ci_1238 : pI S_508 1238 mo = 0 := by rw [← eS_508, pI_sN]; exact ci_1238
  have ci_1245 : pI S_508 1245 mo = 0 := by rw [← eS_508, pI_sN]; exact ci_1245
  have ci_1246 : pI S_508 1246 mo = 0 := by rw [← eS_508, pI_sN]; exact ci_1246
  have ci_1251 : pI S_508 1251 mo = 0 := by rw [← eS_508, pI_sN]; exact ci_1251
  have ci_1262 : pI S_508 1262 mo = 0 := by rw [← eS_508, pI_sN]; exact ci_1262
  have hc_426 : pI S_508 1229 mo = (-1) := by rw [← eS_508, pI_sN]; exact hc_426
  have hFA : FaA S_508 mo [(1237, 14, 4), (1236, 14, 158400), (1235, 14, 13200), (1227, 13, 400), (1226, 14, 240), (1225, 14, 240), (1224, 14, 240), (1223, 14, 60), (1222, 14, 60), (1221, 14, 60), (1220, 14, 5), (1219, 14, 12), (1218, 14, 7200), (1217, 14, 4), (1216, 14, 4), (1215, 14, 4), (1214, 14, 4), (1213, 14, 4), (1212, 14, 4), (1210, 14, 8), (1209, 14, 600), (1208, 14, 600), (1207, 14, 600), (1206, 14, 10), (1205, 14, 10), (1204, 14, 10), (1203, 14, 10), (1202, 14, 10)] := by rw [← eS_508]; exact FaA_sN hFA hq_507
  have ha_509 : At S_508 q_507 14 := by rw [← eS_508]; exact At_nN _ _ _ _
  have hn_510 : pN S_508 q_507 = 41 := by rw [← eS_508]; exact pN_sN_new
  have hza_511 : ∀ j, pA S_508 q_507 j = 0 := fun j => by rw [← eS_508]; exact congrFun pA_sN_new j
  refine r_putR X hw hat_mo 39 1239 (some q_507) rfl tyX12 (by decide) rfl inn_X12_init_12 tyX12_ok nmX12 (by decide) (X.2.2.2.1 (.fieldLink RX12 100 "SilkMillModel" "firstMetre" "[I") (by decide +kernel)) rfl (Or.inr ⟨rfl, hin, rfl⟩) (fun _ => rfl) rfl (fun _ => rfl) rfl (Nat.le_of_ble_eq_true rfl) (st_1239 _ _) dX12_init_281 (fun H locs hw => ?_)
  generalize eS_512 : sR S_508 1239 mo (some q_507) = S_512 at hw
  have hat_mo : At S_512 mo 12 := by rw [← eS_512]; exact At_sR hat_mo
  have ha_509 : At S_512 q_507 14 := by rw [← eS_512]; exact At_sR ha_509
  have ci_1201 : pI S_512 1201 mo = 0 := by rw [← eS_512, pI_sR]; exact ci_1201
  have ci_1211 : pI S_512 1211 mo = 0 := by rw [← eS_512, pI_sR]; exact ci_1211
  have ci_1228 : pI S_512 1228 mo = 0 := by rw [← eS_512, pI_sR]; exact ci_1228
  have ci_1238 : pI S_512 1238 mo = 0 := by rw [← eS_512, pI_sR]; exact ci_1238
  have ci_1245 : pI S_512 1245 mo = 0 := by rw [← eS_512, pI_sR]; exact ci_1245
  have ci_1246 : pI S_512 1246 mo = 0 := by rw [← eS_512, pI_sR]; exact ci_1246
  have ci_1251 : pI S_512 1251 mo = 0 := by rw [← eS_512, pI_sR]; exact ci_1251
  have ci_1262 : pI S_512 1262 mo = 0 := by rw [← eS_512, pI_sR]; exact ci_1262
  have hc_426 : pI S_512 1229 mo = (-1) := by rw [← eS_512, pI_sR]; exact hc_426
  have hn_510 : pN S_512 q_507 = 41 := by rw [← eS_512, pN_sR]; exact hn_510
  have hFA : FaA S_512 mo [(1237, 14, 4), (1236, 14, 158400), (1235, 14, 13200), (1227, 13, 400), (1226, 14, 240), (1225, 14, 240), (1224, 14, 240), (1223, 14, 60), (1222, 14, 60), (1221, 14, 60), (1220, 14, 5), (1219, 14, 12), (1218, 14, 7200), (1217, 14, 4), (1216, 14, 4), (1215, 14, 4), (1214, 14, 4), (1213, 14, 4), (1212, 14, 4), (1210, 14, 8), (1209, 14, 600), (1208, 14, 600), (1207, 14, 600), (1206, 14, 10), (1205, 14, 10), (1204, 14, 10), (1203, 14, 10), (1202, 14, 10)] := by rw [← eS_512]; exact FaA_sR hFA (by decide)
  have hza_511 : ∀ j, pA S_512 q_507 j = 0 := by rw [← eS_512, pA_sR]; exact hza_511
  have hr_513 : pR S_512 1239 mo = some q_507 := by rw [← eS_512]; exact pR_sR_same
  have hFA : FaA S_512 mo [(1239, 14, 41), (1237, 14, 4), (1236, 14, 158400), (1235, 14, 13200), (1227, 13, 400), (1226, 14, 240), (1225, 14, 240), (1224, 14, 240), (1223, 14, 60), (1222, 14, 60), (1221, 14, 60), (1220, 14, 5), (1219, 14, 12), (1218, 14, 7200), (1217, 14, 4), (1216, 14, 4), (1215, 14, 4), (1214, 14, 4), (1213, 14, 4), (1212, 14, 4), (1210, 14, 8), (1209, 14, 600), (1208, 14, 600), (1207, 14, 600), (1206, 14, 10), (1205, 14, 10), (1204, 14, 10), (1203, 14, 10), (1202, 14, 10)] := FaA_cons ⟨_, hr_513, ha_509, hn_510⟩ hFA
  refine lv_aload_n X.1 X.2.1 dX12_init_284 rfl (lv_at hl 0 rfl) ?_
  refine lv_bipush (v := 40) X.1 X.2.1 dX12_init_285 (by decide) ?_
  have hat_mo_o := hat_mo
  have ha_509_o := ha_509
  refine r_newI (N := 40) X hw 182084 30 (X.2.2.2.1 (.arrayClass .int) (by decide +kernel)) (by decide) (by decide) (by decide) (Nat.le_of_ble_eq_true rfl) (Nat.le_of_ble_eq_true rfl) (Nat.le_of_ble_eq_true rfl) (Nat.le_of_ble_eq_true rfl) dX12_init_287 (fun q_514 H hq_514 hw => ?_)
  have ne_mo_q_514 : mo ≠ q_514 := At_old hat_mo_o hq_514
  have ne_q_507_q_514 : q_507 ≠ q_514 := At_old ha_509_o hq_514
  generalize eS_515 : sN S_512 q_514 14 40 = S_515 at hw
  have hat_mo : At S_515 mo 12 := by rw [← eS_515]; exact At_sN hat_mo hq_514
  have ha_509 : At S_515 q_507 14 := by rw [← eS_515]; exact At_sN ha_509 hq_514
  have hr_513 : pR S_515 1239 mo = some q_507 := by rw [← eS_515, pR_sN]; exact hr_513
  have ci_1201 : pI S_515 1201 mo = 0 := by rw [← eS_515, pI_sN]; exact ci_1201
  have ci_1211 : pI S_515 1211 mo = 0 := by rw [← eS_515, pI_sN]; exact ci_1211
  have ci_1228 : pI S_515 1228 mo = 0 := by rw [← eS_515, pI_sN]; exact ci_1228
  have ci_1238 : pI S_515 1238 mo = 0 := by rw [← eS_515, pI_sN]; exact ci_1238
  have ci_1245 : pI S_515 1245 mo = 0 := by rw [← eS_515, pI_sN]; exact ci_1245
  have ci_1246 : pI S_515 1246 mo = 0 := by rw [← eS_515, pI_sN]; exact ci_1246
  have ci_1251 : pI S_515 1251 mo = 0 := by rw [← eS_515, pI_sN]; exact ci_1251
  have ci_1262 : pI S_515 1262 mo = 0 := by rw [← eS_515, pI_sN]; exact ci_1262
  have hc_426 : pI S_515 1229 mo = (-1) := by rw [← eS_515, pI_sN]; exact hc_426
  have hn_510 : pN S_515 q_507 = 41 := by rw [← eS_515]; exact (pN_sN_ne (At_old ha_509_o hq_514)).trans hn_510
  have hFA : FaA S_515 mo [(1239, 14, 41), (1237, 14, 4), (1236, 14, 158400), (1235, 14, 13200), (1227, 13, 400), (1226, 14, 240), (1225, 14, 240), (1224, 14, 240), (1223, 14, 60), (1222, 14, 60), (1221, 14, 60), (1220, 14, 5), (1219, 14, 12), (1218, 14, 7200), (1217, 14, 4), (1216, 14, 4), (1215, 14, 4), (1214, 14, 4), (1213, 14, 4), (1212, 14, 4), (1210, 14, 8), (1209, 14, 600), (1208, 14, 600), (1207, 14, 600), (1206, 14, 10), (1205, 14, 10), (1204, 14, 10), (1203, 14, 10), (1202, 14, 10)] := by rw [← eS_515]; exact FaA_sN hFA hq_514
  have hza_511 : ∀ j, pA S_515 q_507 j = 0 := fun j => by rw [← eS_515]; exact (congrFun (pA_sN_ne (At_old ha_509_o hq_514)) j).trans (hza_511 j)
  have ha_516 : At S_515 q_514 14 := by rw [← eS_515]; exact At_nN _ _ _ _
  have hn_517 : pN S_515 q_514 = 40 := by rw [← eS_515]; exact pN_sN_new
  refine r_putR X hw hat_mo 40 1240 (some q_514) rfl tyX12 (by decide) rfl inn_X12_init_12 tyX12_ok nmX12 (by decide) (X.2.2.2.1 (.fieldLink RX12 103 "SilkMillModel" "skeinPot" "[I") (by decide +kernel)) rfl (Or.inr ⟨rfl, hin, rfl⟩) (fun _ => rfl) rfl (fun _ => rfl) rfl (Nat.le_of_ble_eq_true rfl) (st_1240 _ _) dX12_init_289 (fun H locs hw => ?_)
  generalize eS_518 : sR S_515 1240 mo (some q_514) = S_518 at hw
  have hat_mo : At S_518 mo 12 := by rw [← eS_518]; exact At_sR hat_mo
  have ha_509 : At S_518 q_507 14 := by rw [← eS_518]; exact At_sR ha_509
  have ha_516 : At S_518 q_514 14 := by rw [← eS_518]; exact At_sR ha_516
  have hr_513 : pR S_518 1239 mo = some q_507 := by rw [← eS_518]; exact (pR_sR_nf (by decide)).trans hr_513
  have ci_1201 : pI S_518 1201 mo = 0 := by rw [← eS_518, pI_sR]; exact ci_1201
  have ci_1211 : pI S_518 1211 mo = 0 := by rw [← eS_518, pI_sR]; exact ci_1211
  have ci_1228 : pI S_518 1228 mo = 0 := by rw [← eS_518, pI_sR]; exact ci_1228
  have ci_1238 : pI S_518 1238 mo = 0 := by rw [← eS_518, pI_sR]; exact ci_1238
  have ci_1245 : pI S_518 1245 mo = 0 := by rw [← eS_518, pI_sR]; exact ci_1245
  have ci_1246 : pI S_518 1246 mo = 0 := by rw [← eS_518, pI_sR]; exact ci_1246
  have ci_1251 : pI S_518 1251 mo = 0 := by rw [← eS_518, pI_sR]; exact ci_1251
  have ci_1262 : pI S_518 1262 mo = 0 := by rw [← eS_518, pI_sR]; exact ci_1262
  have hc_426 : pI S_518 1229 mo = (-1) := by rw [← eS_518, pI_sR]; exact hc_426
  have hn_510 : pN S_518 q_507 = 41 := by rw [← eS_518, pN_sR]; exact hn_510
  have hn_517 : pN S_518 q_514 = 40 := by rw [← eS_518, pN_sR]; exact hn_517
  have hFA : FaA S_518 mo [(1239, 14, 41), (1237, 14, 4), (1236, 14, 158400), (1235, 14, 13200), (1227, 13, 400), (1226, 14, 240), (1225, 14, 240), (1224, 14, 240), (1223, 14, 60), (1222, 14, 60), (1221, 14, 60), (1220, 14, 5), (1219, 14, 12), (1218, 14, 7200), (1217, 14, 4), (1216, 14, 4), (1215, 14, 4), (1214, 14, 4), (1213, 14, 4), (1212, 14, 4), (1210, 14, 8), (1209, 14, 600), (1208, 14, 600), (1207, 14, 600), (1206, 14, 10), (1205, 14, 10), (1204, 14, 10), (1203, 14, 10), (1202, 14, 10)] := by rw [← eS_518]; exact FaA_sR hFA (by decide)
  have hza_511 : ∀ j, pA S_518 q_507 j = 0 := by rw [← eS_518, pA_sR]; exact hza_511
  have hr_519 : pR S_518 1240 mo = some q_514 := by rw [← eS_518]; exact pR_sR_same
  have hFA : FaA S_518 mo [(1240, 14, 40), (1239, 14, 41), (1237, 14, 4), (1236, 14, 158400), (1235, 14, 13200), (1227, 13, 400), (1226, 14, 240), (1225, 14, 240), (1224, 14, 240), (1223, 14, 60), (1222, 14, 60), (1221, 14, 60), (1220, 14, 5), (1219, 14, 12), (1218, 14, 7200), (1217, 14, 4), (1216, 14, 4), (1215, 14, 4), (1214, 14, 4), (1213, 14, 4), (1212, 14, 4), (1210, 14, 8), (1209, 14, 600), (1208, 14, 600), (1207, 14, 600), (1206, 14, 10), (1205, 14, 10), (1204, 14, 10), (1203, 14, 10), (1202, 14, 10)] := FaA_cons ⟨_, hr_519, ha_516, hn_517⟩ hFA
  refine lv_aload_n X.1 X.2.1 dX12_init_292 rfl (lv_at hl 0 rfl) ?_
  refine lv_bipush (v := 40) X.1 X.2.1 dX12_init_293 (by decide) ?_
  have hat_mo_o := hat_mo
  have ha_509_o := ha_509
  refine r_newI (N := 40) X hw 182124 31 (X.2.2.2.1 (.arrayClass .int) (by decide +kernel)) (by decide) (by decide) (by decide) (Nat.le_of_ble_eq_true rfl) (Nat.le_of_ble_eq_true rfl) (Nat.le_of_ble_eq_true rfl) (Nat.le_of_ble_eq_true rfl) dX12_init_295 (fun q_520 H hq_520 hw => ?_)
  have ne_mo_q_520 : mo ≠ q_520 := At_old hat_mo_o hq_520
  have ne_q_507_q_520 : q_507 ≠ q_520 := At_old ha_509_o hq_520
  generalize eS_521 : sN S_518 q_520 14 40 = S_521 at hw
  have hat_mo : At S_521 mo 12 := by rw [← eS_521]; exact At_sN hat_mo hq_520
  have ha_509 : At S_521 q_507 14 := by rw [← eS_521]; exact At_sN ha_509 hq_520
  have hr_513 : pR S_521 1239 mo = some q_507 := by rw [← eS_521, pR_sN]; exact hr_513
  have ci_1201 : pI S_521 1201 mo = 0 := by rw [← eS_521, pI_sN]; exact ci_1201
  have ci_1211 : pI S_521 1211 mo = 0 := by rw [← eS_521, pI_sN]; exact ci_1211
  have ci_1228 : pI S_521 1228 mo = 0 := by rw [← eS_521, pI_sN]; exact ci_1228
  have ci_1238 : pI S_521 1238 mo = 0 := by rw [← eS_521, pI_sN]; exact ci_1238
  have ci_1245 : pI S_521 1245 mo = 0 := by rw [← eS_521, pI_sN]; exact ci_1245
  have ci_1246 : pI S_521 1246 mo = 0 := by rw [← eS_521, pI_sN]; exact ci_1246
  have ci_1251 : pI S_521 1251 mo = 0 := by rw [← eS_521, pI_sN]; exact ci_1251
  have ci_1262 : pI S_521 1262 mo = 0 := by rw [← eS_521, pI_sN]; exact ci_1262
  have hc_426 : pI S_521 1229 mo = (-1) := by rw [← eS_521, pI_sN]; exact hc_426
  have hn_510 : pN S_521 q_507 = 41 := by rw [← eS_521]; exact (pN_sN_ne (At_old ha_509_o hq_520)).trans hn_510
  have hFA : FaA S_521 mo [(1240, 14, 40), (1239, 14, 41), (1237, 14, 4), (1236, 14, 158400), (1235, 14, 13200), (1227, 13, 400), (1226, 14, 240), (1225, 14, 240), (1224, 14, 240), (1223, 14, 60), (1222, 14, 60), (1221, 14, 60), (1220, 14, 5), (1219, 14, 12), (1218, 14, 7200), (1217, 14, 4), (1216, 14, 4), (1215, 14, 4), (1214, 14, 4), (1213, 14, 4), (1212, 14, 4), (1210, 14, 8), (1209, 14, 600), (1208, 14, 600), (1207, 14, 600), (1206, 14, 10), (1205, 14, 10), (1204, 14, 10), (1203, 14, 10), (1202, 14, 10)] := by rw [← eS_521]; exact FaA_sN hFA hq_520
  have hza_511 : ∀ j, pA S_521 q_507 j = 0 := fun j => by rw [← eS_521]; exact (congrFun (pA_sN_ne (At_old ha_509_o hq_520)) j).trans (hza_511 j)
  have ha_522 : At S_521 q_520 14 := by rw [← eS_521]; exact At_nN _ _ _ _
  have hn_523 : pN S_521 q_520 = 40 := by rw [← eS_521]; exact pN_sN_new
  refine r_putR X hw hat_mo 41 1241 (some q_520) rfl tyX12 (by decide) rfl inn_X12_init_12 tyX12_ok nmX12 (by decide) (X.2.2.2.1 (.fieldLink RX12 106 "SilkMillModel" "skeinDay" "[I") (by decide +kernel)) rfl (Or.inr ⟨rfl, hin, rfl⟩) (fun _ => rfl) rfl (fun _ => rfl) rfl (Nat.le_of_ble_eq_true rfl) (st_1241 _ _) dX12_init_297 (fun H locs hw => ?_)
  generalize eS_524 : sR S_521 1241 mo (some q_520) = S_524 at hw
  have hat_mo : At S_524 mo 12 := by rw [← eS_524]; exact At_sR hat_mo
  have ha_509 : At S_524 q_507 14 := by rw [← eS_524]; exact At_sR ha_509
  have ha_522 : At S_524 q_520 14 := by rw [← eS_524]; exact At_sR ha_522
  have hr_513 : pR S_524 1239 mo = some q_507 := by rw [← eS_524]; exact (pR_sR_nf (by decide)).trans hr_513
  have ci_1201 : pI S_524 1201 mo = 0 := by rw [← eS_524, pI_sR]; exact ci_1201
  have ci_1211 : pI S_524 1211 mo = 0 := by rw [← eS_524, pI_sR]; exact ci_1211
  have ci_1228 : pI S_524 1228 mo = 0 := by rw [← eS_524, pI_sR]; exact ci_1228
  have ci_1238 : pI S_524 1238 mo = 0 := by rw [← eS_524, pI_sR]; exact ci_1238
  have ci_1245 : pI S_524 1245 mo = 0 := by rw [← eS_524, pI_sR]; exact ci_1245
  have ci_1246 : pI S_524 1246 mo = 0 := by rw [← eS_524, pI_sR]; exact ci_1246
  have ci_1251 : pI S_524 1251 mo = 0 := by rw [← eS_524, pI_sR]; exact ci_1251
  have ci_1262 : pI S_524 1262 mo = 0 := by rw [← eS_524, pI_sR]; exact ci_1262
  have hc_426 : pI S_524 1229 mo = (-1) := by rw [← eS_524, pI_sR]; exact hc_426
  have hn_510 : pN S_524 q_507 = 41 := by rw [← eS_524, pN_sR]; exact hn_510
  have hn_523 : pN S_524 q_520 = 40 := by rw [← eS_524, pN_sR]; exact hn_523
  have hFA : FaA S_524 mo [(1240, 14, 40), (1239, 14, 41), (1237, 14, 4), (1236, 14, 158400), (1235, 14, 13200), (1227, 13, 400), (1226, 14, 240), (1225, 14, 240), (1224, 14, 240), (1223, 14, 60), (1222, 14, 60), (1221, 14, 60), (1220, 14, 5), (1219, 14, 12), (1218, 14, 7200), (1217, 14, 4), (1216, 14, 4), (1215, 14, 4), (1214, 14, 4), (1213, 14, 4), (1212, 14, 4), (1210, 14, 8), (1209, 14, 600), (1208, 14, 600), (1207, 14, 600), (1206, 14, 10), (1205, 14, 10), (1204, 14, 10), (1203, 14, 10), (1202, 14, 10)] := by rw [← eS_524]; exact FaA_sR hFA (by decide)
  have hza_511 : ∀ j, pA S_524 q_507 j = 0 := by rw [← eS_524, pA_sR]; exact hza_511
  have hr_525 : pR S_524 1241 mo = some q_520 := by rw [← eS_524]; exact pR_sR_same
  have hFA : FaA S_524 mo [(1241, 14, 40), (1240, 14, 40), (1239, 14, 41), (1237, 14, 4), (1236, 14, 158400), (1235, 14, 13200), (1227, 13, 400), (1226, 14, 240), (1225, 14, 240), (1224, 14, 240), (1223, 14, 60), (1222, 14, 60), (1221, 14, 60), (1220, 14, 5), (1219, 14, 12), (1218, 14, 7200), (1217, 14, 4), (1216, 14, 4), (1215, 14, 4), (1214, 14, 4), (1213, 14, 4), (1212, 14, 4), (1210, 14, 8), (1209, 14, 600), (1208, 14, 600), (1207, 14, 600), (1206, 14, 10), (1205, 14, 10), (1204, 14, 10), (1203, 14, 10), (1202, 14, 10)] := FaA_cons ⟨_, hr_525, ha_522, hn_523⟩ hFA
  refine lv_aload_n X.1 X.2.1 dX12_init_300 rfl (lv_at hl 0 rfl) ?_
  refine lv_bipush (v := 40) X.1 X.2.1 dX12_init_301 (by decide) ?_
  have hat_mo_o := hat_mo
  have ha_509_o := ha_509
  refine r_newI (N := 40) X hw 182164 32 (X.2.2.2.1 (.arrayClass .int) (by decide +kernel)) (by decide) (by decide) (by decide) (Nat.le_of_ble_eq_true rfl) (Nat.le_of_ble_eq_true rfl) (Nat.le_of_ble_eq_true rfl) (Nat.le_of_ble_eq_true rfl) dX12_init_303 (fun q_526 H hq_526 hw => ?_)
  have ne_mo_q_526 : mo ≠ q_526 := At_old hat_mo_o hq_526
  have ne_q_507_q_526 : q_507 ≠ q_526 := At_old ha_509_o hq_526
  generalize eS_527 : sN S_524 q_526 14 40 = S_527 at hw
  have hat_mo : At S_527 mo 12 := by rw [← eS_527]; exact At_sN hat_mo hq_526
  have ha_509 : At S_527 q_507 14 := by rw [← eS_527]; exact At_sN ha_509 hq_526
  have hr_513 : pR S_527 1239 mo = some q_507 := by rw [← eS_527, pR_sN]; exact hr_513
  have ci_1201 : pI S_527 1201 mo = 0 := by rw [← eS_527, pI_sN]; exact ci_1201
  have ci_1211 : pI S_527 1211 mo = 0 := by rw [← eS_527, pI_sN]; exact ci_1211
  have ci_1228 : pI S_527 1228 mo = 0 := by rw [← eS_527, pI_sN]; exact ci_1228
  have ci_1238 : pI S_527 1238 mo = 0 := by rw [← eS_527, pI_sN]; exact ci_1238
  have ci_1245 : pI S_527 1245 mo = 0 := by rw [← eS_527, pI_sN]; exact ci_1245
  have ci_1246 : pI S_527 1246 mo = 0 := by rw [← eS_527, pI_sN]; exact ci_1246
  have ci_1251 : pI S_527 1251 mo = 0 := by rw [← eS_527, pI_sN]; exact ci_1251
  have ci_1262 : pI S_527 1262 mo = 0 := by rw [← eS_527, pI_sN]; exact ci_1262
  have hc_426 : pI S_527 1229 mo = (-1) := by rw [← eS_527, pI_sN]; exact hc_426
  have hn_510 : pN S_527 q_507 = 41 := by rw [← eS_527]; exact (pN_sN_ne (At_old ha_509_o hq_526)).trans hn_510
  have hFA : FaA S_527 mo [(1241, 14, 40), (1240, 14, 40), (1239, 14, 41), (1237, 14, 4), (1236, 14, 158400), (1235, 14, 13200), (1227, 13, 400), (1226, 14, 240), (1225, 14, 240), (1224, 14, 240), (1223, 14, 60), (1222, 14, 60), (1221, 14, 60), (1220, 14, 5), (1219, 14, 12), (1218, 14, 7200), (1217, 14, 4), (1216, 14, 4), (1215, 14, 4), (1214, 14, 4), (1213, 14, 4), (1212, 14, 4), (1210, 14, 8), (1209, 14, 600), (1208, 14, 600), (1207, 14, 600), (1206, 14, 10), (1205, 14, 10), (1204, 14, 10), (1203, 14, 10), (1202, 14, 10)] := by rw [← eS_527]; exact FaA_sN hFA hq_526
  have hza_511 : ∀ j, pA S_527 q_507 j = 0 := fun j => by rw [← eS_527]; exact (congrFun (pA_sN_ne (At_old ha_509_o hq_526)) j).trans (hza_511 j)
  have ha_528 : At S_527 q_526 14 := by rw [← eS_527]; exact At_nN _ _ _ _
  have hn_529 : pN S_527 q_526 = 40 := by rw [← eS_527]; exact pN_sN_new
  refine r_putR X hw hat_mo 42 1242 (some q_526) rfl tyX12 (by decide) rfl inn_X12_init_12 tyX12_ok nmX12 (by decide) (X.2.2.2.1 (.fieldLink RX12 109 "SilkMillModel" "skeinAim" "[I") (by decide +kernel)) rfl (Or.inr ⟨rfl, hin, rfl⟩) (fun _ => rfl) rfl (fun _ => rfl) rfl (Nat.le_of_ble_eq_true rfl) (st_1242 _ _) dX12_init_305 (fun H locs hw => ?_)
  generalize eS_530 : sR S_527 1242 mo (some q_526) = S_530 at hw
  have hat_mo : At S_530 mo 12 := by rw [← eS_530]; exact At_sR hat_mo
  have ha_509 : At S_530 q_507 14 := by rw [← eS_530]; exact At_sR ha_509
  have ha_528 : At S_530 q_526 14 := by rw [← eS_530]; exact At_sR ha_528
  have hr_513 : pR S_530 1239 mo = some q_507 := by rw [← eS_530]; exact (pR_sR_nf (by decide)).trans hr_513
  have ci_1201 : pI S_530 1201 mo = 0 := by rw [← eS_530, pI_sR]; exact ci_1201
  have ci_1211 : pI S_530 1211 mo = 0 := by rw [← eS_530, pI_sR]; exact ci_1211
  have ci_1228 : pI S_530 1228 mo = 0 := by rw [← eS_530, pI_sR]; exact ci_1228
  have ci_1238 : pI S_530 1238 mo = 0 := by rw [← eS_530, pI_sR]; exact ci_1238
  have ci_1245 : pI S_530 1245 mo = 0 := by rw [← eS_530, pI_sR]; exact ci_1245
  have ci_1246 : pI S_530 1246 mo = 0 := by rw [← eS_530, pI_sR]; exact ci_1246
  have ci_1251 : pI S_530 1251 mo = 0 := by rw [← eS_530, pI_sR]; exact ci_1251
  have ci_1262 : pI S_530 1262 mo = 0 := by rw [← eS_530, pI_sR]; exact ci_1262
  have hc_426 : pI S_530 1229 mo = (-1) := by rw [← eS_530, pI_sR]; exact hc_426
  have hn_510 : pN S_530 q_507 = 41 := by rw [← eS_530, pN_sR]; exact hn_510
  have hn_529 : pN S_530 q_526 = 40 := by rw [← eS_530, pN_sR]; exact hn_529
  have hFA : FaA S_530 mo [(1241, 14, 40), (1240, 14, 40), (1239, 14, 41), (1237, 14, 4), (1236, 14, 158400), (1235, 14, 13200), (1227, 13, 400), (1226, 14, 240), (1225, 14, 240), (1224, 14, 240), (1223, 14, 60), (1222, 14, 60), (1221, 14, 60), (1220, 14, 5), (1219, 14, 12), (1218, 14, 7200), (1217, 14, 4), (1216, 14, 4), (1215, 14, 4), (1214, 14, 4), (1213, 14, 4), (1212, 14, 4), (1210, 14, 8), (1209, 14, 600), (1208, 14, 600), (1207, 14, 600), (1206, 14, 10), (1205, 14, 10), (1204, 14, 10), (1203, 14, 10), (1202, 14, 10)] := by rw [← eS_530]; exact FaA_sR hFA (by decide)
  have hza_511 : ∀ j, pA S_530 q_507 j = 0 := by rw [← eS_530, pA_sR]; exact hza_511
  have hr_531 : pR S_530 1242 mo = some q_526 := by rw [← eS_530]; exact pR_sR_same
  have hFA : FaA S_530 mo [(1242, 14, 40), (1241, 14, 40), (1240, 14, 40), (1239, 14, 41), (1237, 14, 4), (1236, 14, 158400), (1235, 14, 13200), (1227, 13, 400), (1226, 14, 240), (1225, 14, 240), (1224, 14, 240), (1223, 14, 60), (1222, 14, 60), (1221, 14, 60), (1220, 14, 5), (1219, 14, 12), (1218, 14, 7200), (1217, 14, 4), (1216, 14, 4), (1215, 14, 4), (1214, 14, 4), (1213, 14, 4), (1212, 14, 4), (1210, 14, 8), (1209, 14, 600), (1208, 14, 600), (1207, 14, 600), (1206, 14, 10), (1205, 14, 10), (1204, 14, 10), (1203, 14, 10), (1202, 14, 10)] := FaA_cons ⟨_, hr_531, ha_528, hn_529⟩ hFA
  refine lv_aload_n X.1 X.2.1 dX12_init_308 rfl (lv_at hl 0 rfl) ?_
  refine lv_bipush (v := 40) X.1 X.2.1 dX12_init_309 (by decide) ?_
  have hat_mo_o := hat_mo
  have ha_509_o := ha_509
  refine r_newI (N := 40) X hw 182204 33 (X.2.2.2.1 (.arrayClass .int) (by decide +kernel)) (by decide) (by decide) (by decide) (Nat.le_of_ble_eq_true rfl) (Nat.le_of_ble_eq_true rfl) (Nat.le_of_ble_eq_true rfl) (Nat.le_of_ble_eq_true rfl) dX12_init_311 (fun q_532 H hq_532 hw => ?_)
  have ne_mo_q_532 : mo ≠ q_532 := At_old hat_mo_o hq_532
  have ne_q_507_q_532 : q_507 ≠ q_532 := At_old ha_509_o hq_532
  generalize eS_533 : sN S_530 q_532 14 40 = S_533 at hw
  have hat_mo : At S_533 mo 12 := by rw [← eS_533]; exact At_sN hat_mo hq_532
  have ha_509 : At S_533 q_507 14 := by rw [← eS_533]; exact At_sN ha_509 hq_532
  have hr_513 : pR S_533 1239 mo = some q_507 := by rw [← eS_533, pR_sN]; exact hr_513
  have ci_1201 : pI S_533 1201 mo = 0 := by rw [← eS_533, pI_sN]; exact ci_1201
  have ci_1211 : pI S_533 1211 mo = 0 := by rw [← eS_533, pI_sN]; exact ci_1211
  have ci_1228 : pI S_533 1228 mo = 0 := by rw [← eS_533, pI_sN]; exact ci_1228
  have ci_1238 : pI S_533 1238 mo = 0 := by rw [← eS_533, pI_sN]; exact ci_1238
  have ci_1245 : pI S_533 1245 mo = 0 := by rw [← eS_533, pI_sN]; exact ci_1245
  have ci_1246 : pI S_533 1246 mo = 0 := by rw [← eS_533, pI_sN]; exact ci_1246
  have ci_1251 : pI S_533 1251 mo = 0 := by rw [← eS_533, pI_sN]; exact ci_1251
  have ci_1262 : pI S_533 1262 mo = 0 := by rw [← eS_533, pI_sN]; exact ci_1262
  have hc_426 : pI S_533 1229 mo = (-1) := by rw [← eS_533, pI_sN]; exact hc_426
  have hn_510 : pN S_533 q_507 = 41 := by rw [← eS_533]; exact (pN_sN_ne (At_old ha_509_o hq_532)).trans hn_510
  have hFA : FaA S_533 mo [(1242, 14, 40), (1241, 14, 40), (1240, 14, 40), (1239, 14, 41), (1237, 14, 4), (1236, 14, 158400), (1235, 14, 13200), (1227, 13, 400), (1226, 14, 240), (1225, 14, 240), (1224, 14, 240), (1223, 14, 60), (1222, 14, 60), (1221, 14, 60), (1220, 14, 5), (1219, 14, 12), (1218, 14, 7200), (1217, 14, 4), (1216, 14, 4), (1215, 14, 4), (1214, 14, 4), (1213, 14, 4), (1212, 14, 4), (1210, 14, 8), (1209, 14, 600), (1208, 14, 600), (1207, 14, 600), (1206, 14, 10), (1205, 14, 10), (1204, 14, 10), (1203, 14, 10), (1202, 14, 10)] := by rw [← eS_533]; exact FaA_sN hFA hq_532
  have hza_511 : ∀ j, pA S_533 q_507 j = 0 := fun j => by rw [← eS_533]; exact (congrFun (pA_sN_ne (At_old ha_509_o hq_532)) j).trans (hza_511 j)
  have ha_534 : At S_533 q_532 14 := by rw [← eS_533]; exact At_nN _ _ _ _
  have hn_535 : pN S_533 q_532 = 40 := by rw [← eS_533]; exact pN_sN_new
  refine r_putR X hw hat_mo 43 1243 (some q_532) rfl tyX12 (by decide) rfl inn_X12_init_12 tyX12_ok nmX12 (by decide) (X.2.2.2.1 (.fieldLink RX12 112 "SilkMillModel" "skeinGrade" "[I") (by decide +kernel)) rfl (Or.inr ⟨rfl, hin, rfl⟩) (fun _ => rfl) rfl (fun _ => rfl) rfl (Nat.le_of_ble_eq_true rfl) (st_1243 _ _) dX12_init_313 (fun H locs hw => ?_)
  generalize eS_536 : sR S_533 1243 mo (some q_532) = S_536 at hw
  have hat_mo : At S_536 mo 12 := by rw [← eS_536]; exact At_sR hat_mo
  have ha_509 : At S_536 q_507 14 := by rw [← eS_536]; exact At_sR ha_509
  have ha_534 : At S_536 q_532 14 := by rw [← eS_536]; exact At_sR ha_534
  have hr_513 : pR S_536 1239 mo = some q_507 := by rw [← eS_536]; exact (pR_sR_nf (by decide)).trans hr_513
  have ci_1201 : pI S_536 1201 mo = 0 := by rw [← eS_536, pI_sR]; exact ci_1201
  have ci_1211 : pI S_536 1211 mo = 0 := by rw [← eS_536, pI_sR]; exact ci_1211
  have ci_1228 : pI S_536 1228 mo = 0 := by rw [← eS_536, pI_sR]; exact ci_1228
  have ci_1238 : pI S_536 1238 mo = 0 := by rw [← eS_536, pI_sR]; exact ci_1238
  have ci_1245 : pI S_536 1245 mo = 0 := by rw [← eS_536, pI_sR]; exact ci_1245
  have ci_1246 : pI S_536 1246 mo = 0 := by rw [← eS_536, pI_sR]; exact ci_1246
  have ci_1251 : pI S_536 1251 mo = 0 := by rw [← eS_536, pI_sR]; exact ci_1251
  have ci_1262 : pI S_536 1262 mo = 0 := by rw [← eS_536, pI_sR]; exact ci_1262
  have hc_426 : pI S_536 1229 mo = (-1) := by rw [← eS_536, pI_sR]; exact hc_426
  have hn_510 : pN S_536 q_507 = 41 := by rw [← eS_536, pN_sR]; exact hn_510
  have hn_535 : pN S_536 q_532 = 40 := by rw [← eS_536, pN_sR]; exact hn_535
  have hFA : FaA S_536 mo [(1242, 14, 40), (1241, 14, 40), (1240, 14, 40), (1239, 14, 41), (1237, 14, 4), (1236, 14, 158400), (1235, 14, 13200), (1227, 13, 400), (1226, 14, 240), (1225, 14, 240), (1224, 14, 240), (1223, 14, 60), (1222, 14, 60), (1221, 14, 60), (1220, 14, 5), (1219, 14, 12), (1218, 14, 7200), (1217, 14, 4), (1216, 14, 4), (1215, 14, 4), (1214, 14, 4), (1213, 14, 4), (1212, 14, 4), (1210, 14, 8), (1209, 14, 600), (1208, 14, 600), (1207, 14, 600), (1206, 14, 10), (1205, 14, 10), (1204, 14, 10), (1203, 14, 10), (1202, 14, 10)] := by rw [← eS_536]; exact FaA_sR hFA (by decide)
  have hza_511 : ∀ j, pA S_536 q_507 j = 0 := by rw [← eS_536, pA_sR]; exact hza_511
  have hr_537 : pR S_536 1243 mo = some q_532 := by rw [← eS_536]; exact pR_sR_same
  have hFA : FaA S_536 mo [(1243, 14, 40), (1242, 14, 40), (1241, 14, 40), (1240, 14, 40), (1239, 14, 41), (1237, 14, 4), (1236, 14, 158400), (1235, 14, 13200), (1227, 13, 400), (1226, 14, 240), (1225, 14, 240), (1224, 14, 240), (1223, 14, 60), (1222, 14, 60), (1221, 14, 60), (1220, 14, 5), (1219, 14, 12), (1218, 14, 7200), (1217, 14, 4), (1216, 14, 4), (1215, 14, 4), (1214, 14, 4), (1213, 14, 4), (1212, 14, 4), (1210, 14, 8), (1209, 14, 600), (1208, 14, 600), (1207, 14, 600), (1206, 14, 10), (1205, 14, 10), (1204, 14, 10), (1203, 14, 10), (1202, 14, 10)] := FaA_cons ⟨_, hr_537, ha_534, hn_535⟩ hFA
  refine lv_aload_n X.1 X.2.1 dX12_init_316 rfl (lv_at hl 0 rfl) ?_
  refine lv_bipush (v := 40) X.1 X.2.1 dX12_init_317 (by decide) ?_
  have hat_mo_o := hat_mo
  have ha_509_o := ha_509
  refine r_newZ (N := 40) X hw 182244 34 (X.2.2.2.1 (.arrayClass .boolean) (by decide +kernel)) (by decide) (by decide) (by decide) (Nat.le_of_ble_eq_true rfl) (Nat.le_of_ble_eq_true rfl) (Nat.le_of_ble_eq_true rfl) (Nat.le_of_ble_eq_true rfl) dX12_init_319 (fun q_538 H hq_538 hw => ?_)
  have ne_mo_q_538 : mo ≠ q_538 := At_old hat_mo_o hq_538
  have ne_q_507_q_538 : q_507 ≠ q_538 := At_old ha_509_o hq_538
  generalize eS_539 : sN S_536 q_538 15 40 = S_539 at hw
  have hat_mo : At S_539 mo 12 := by rw [← eS_539]; exact At_sN hat_mo hq_538
  have ha_509 : At S_539 q_507 14 := by rw [← eS_539]; exact At_sN ha_509 hq_538
  have hr_513 : pR S_539 1239 mo = some q_507 := by rw [← eS_539, pR_sN]; exact hr_513
  have ci_1201 : pI S_539 1201 mo = 0 := by rw [← eS_539, pI_sN]; exact ci_1201
  have ci_1211 : pI S_539 1211 mo = 0 := by rw [← eS_539, pI_sN]; exact ci_1211
  have ci_1228 : pI S_539 1228 mo = 0 := by rw [← eS_539, pI_sN]; exact ci_1228
  have ci_1238 : pI S_539 1238 mo = 0 := by rw [← eS_539, pI_sN]; exact ci_1238
  have ci_1245 : pI S_539 1245 mo = 0 := by rw [← eS_539, pI_sN]; exact ci_1245
  have ci_1246 : pI S_539 1246 mo = 0 := by rw [← eS_539, pI_sN]; exact ci_1246
  have ci_1251 : pI S_539 1251 mo = 0 := by rw [← eS_539, pI_sN]; exact ci_1251
  have ci_1262 : pI S_539 1262 mo = 0 := by rw [← eS_539, pI_sN]; exact ci_1262
  have hc_426 : pI S_539 1229 mo = (-1) := by rw [← eS_539, pI_sN]; exact hc_426
  have hn_510 : pN S_539 q_507 = 41 := by rw [← eS_539]; exact (pN_sN_ne (At_old ha_509_o hq_538)).trans hn_510
  have hFA : FaA S_539 mo [(1243, 14, 40), (1242, 14, 40), (1241, 14, 40), (1240, 14, 40), (1239, 14, 41), (1237, 14, 4), (1236, 14, 158400), (1235, 14, 13200), (1227, 13, 400), (1226, 14, 240), (1225, 14, 240), (1224, 14, 240), (1223, 14, 60), (1222, 14, 60), (1221, 14, 60), (1220, 14, 5), (1219, 14, 12), (1218, 14, 7200), (1217, 14, 4), (1216, 14, 4), (1215, 14, 4), (1214, 14, 4), (1213, 14, 4), (1212, 14, 4), (1210, 14, 8), (1209, 14, 600), (1208, 14, 600), (1207, 14, 600), (1206, 14, 10), (1205, 14, 10), (1204, 14, 10), (1203, 14, 10), (1202, 14, 10)] := by rw [← eS_539]; exact FaA_sN hFA hq_538
  have hza_511 : ∀ j, pA S_539 q_507 j = 0 := fun j => by rw [← eS_539]; exact (congrFun (pA_sN_ne (At_old ha_509_o hq_538)) j).trans (hza_511 j)
  have ha_540 : At S_539 q_538 15 := by rw [← eS_539]; exact At_nN _ _ _ _
  have hn_541 : pN S_539 q_538 = 40 := by rw [← eS_539]; exact pN_sN_new
  refine r_putR X hw hat_mo 44 1244 (some q_538) rfl tyX12 (by decide) rfl inn_X12_init_12 tyX12_ok nmX12 (by decide) (X.2.2.2.1 (.fieldLink RX12 115 "SilkMillModel" "isSold" "[Z") (by decide +kernel)) rfl (Or.inr ⟨rfl, hin, rfl⟩) (fun _ => rfl) rfl (fun _ => rfl) rfl (Nat.le_of_ble_eq_true rfl) (st_1244 _ _) dX12_init_321 (fun H locs hw => ?_)
  generalize eS_542 : sR S_539 1244 mo (some q_538) = S_542 at hw
  have hat_mo : At S_542 mo 12 := by rw [← eS_542]; exact At_sR hat_mo
  have ha_509 : At S_542 q_507 14 := by rw [← eS_542]; exact At_sR ha_509
  have ha_540 : At S_542 q_538 15 := by rw [← eS_542]; exact At_sR ha_540
  have hr_513 : pR S_542 1239 mo = some q_507 := by rw [← eS_542]; exact (pR_sR_nf (by decide)).trans hr_513
  have ci_1201 : pI S_542 1201 mo = 0 := by rw [← eS_542, pI_sR]; exact ci_1201
  have ci_1211 : pI S_542 1211 mo = 0 := by rw [← eS_542, pI_sR]; exact ci_1211
  have ci_1228 : pI S_542 1228 mo = 0 := by rw [← eS_542, pI_sR]; exact ci_1228
  have ci_1238 : pI S_542 1238 mo = 0 := by rw [← eS_542, pI_sR]; exact ci_1238
  have ci_1245 : pI S_542 1245 mo = 0 := by rw [← eS_542, pI_sR]; exact ci_1245
  have ci_1246 : pI S_542 1246 mo = 0 := by rw [← eS_542, pI_sR]; exact ci_1246
  have ci_1251 : pI S_542 1251 mo = 0 := by rw [← eS_542, pI_sR]; exact ci_1251
  have ci_1262 : pI S_542 1262 mo = 0 := by rw [← eS_542, pI_sR]; exact ci_1262
  have hc_426 : pI S_542 1229 mo = (-1) := by rw [← eS_542, pI_sR]; exact hc_426
  have hn_510 : pN S_542 q_507 = 41 := by rw [← eS_542, pN_sR]; exact hn_510
  have hn_541 : pN S_542 q_538 = 40 := by rw [← eS_542, pN_sR]; exact hn_541
  have hFA : FaA S_542 mo [(1243, 14, 40), (1242, 14, 40), (1241, 14, 40), (1240, 14, 40), (1239, 14, 41), (1237, 14, 4), (1236, 14, 158400), (1235, 14, 13200), (1227, 13, 400), (1226, 14, 240), (1225, 14, 240), (1224, 14, 240), (1223, 14, 60), (1222, 14, 60), (1221, 14, 60), (1220, 14, 5), (1219, 14, 12), (1218, 14, 7200), (1217, 14, 4), (1216, 14, 4), (1215, 14, 4), (1214, 14, 4), (1213, 14, 4), (1212, 14, 4), (1210, 14, 8), (1209, 14, 600), (1208, 14, 600), (1207, 14, 600), (1206, 14, 10), (1205, 14, 10), (1204, 14, 10), (1203, 14, 10), (1202, 14, 10)] := by rw [← eS_542]; exact FaA_sR hFA (by decide)
  have hza_511 : ∀ j, pA S_542 q_507 j = 0 := by rw [← eS_542, pA_sR]; exact hza_511
  have hr_543 : pR S_542 1244 mo = some q_538 := by rw [← eS_542]; exact pR_sR_same
  have hFA : FaA S_542 mo [(1244, 15, 40), (1243, 14, 40), (1242, 14, 40), (1241, 14, 40), (1240, 14, 40), (1239, 14, 41), (1237, 14, 4), (1236, 14, 158400), (1235, 14, 13200), (1227, 13, 400), (1226, 14, 240), (1225, 14, 240), (1224, 14, 240), (1223, 14, 60), (1222, 14, 60), (1221, 14, 60), (1220, 14, 5), (1219, 14, 12), (1218, 14, 7200), (1217, 14, 4), (1216, 14, 4), (1215, 14, 4), (1214, 14, 4), (1213, 14, 4), (1212, 14, 4), (1210, 14, 8), (1209, 14, 600), (1208, 14, 600), (1207, 14, 600), (1206, 14, 10), (1205, 14, 10), (1204, 14, 10), (1203, 14, 10), (1202, 14, 10)] := FaA_cons ⟨_, hr_543, ha_540, hn_541⟩ hFA
  exact kk q_507 _ _ _ _ hw hl hat_mo ha_509 hr_513 ci_1201 ci_1211 ci_1228 ci_1238 ci_1245 ci_1246 ci_1251 ci_1262 hc_426 hn_510 hza_511 hFA ne_mo_q_507
set_option maxHeartbeats 4000000 in
set_option maxRecDepth 100000 in
theorem sgM_5 {p : Program} {l : Launch} {e : Env} {s : State} {m : MethodId} {below : List Frame} {meth : Method} {c : Code} {Q : State → Prop} (G : va_G) (cy : Nat → ClassId) (S0 : PS) (mo : Nat) (X : Cx p c cX12_init 2 s [.ref mo].toArray wsX12_init RX12 m G cy (AS S0 s.heap.size)) (hin : meth.name = "<init>") (q_507 : Nat) (S : PS) (H : Heap) (locs : List Loc) (ls : Array Slot) (hw : Wd G cy (AS S0 s.heap.size) s.heap S H locs) (hl : lv_has ls 2 [(0, .ref mo)]) (hat_mo : At S mo 12) (ha_509 : At S q_507 14) (hr_513 : pR S 1239 mo = some q_507) (ci_1201 : pI S 1201 mo = 0) (ci_1211 : pI S 1211 mo = 0) (ci_1228 : pI S 1228 mo = 0) (ci_1238 : pI S 1238 mo = 0) (ci_1245 : pI S 1245 mo = 0) (ci_1246 : pI S 1246 mo = 0) (ci_1251 : pI S 1251 mo = 0) (ci_1262 : pI S 1262 mo = 0) (hc_426 : pI S 1229 mo = (-1)) (hn_510 : pN S q_507 = 41) (hza_511 : ∀ j, pA S q_507 j = 0) (hFA : FaA S mo [(1244, 15, 40), (1243, 14, 40), (1242, 14, 40), (1241, 14, 40), (1240, 14, 40), (1239, 14, 41), (1237, 14, 4), (1236, 14, 158400), (1235, 14, 13200), (1227, 13, 400), (1226, 14, 240), (1225, 14, 240), (1224, 14, 240), (1223, 14, 60), (1222, 14, 60), (1221, 14, 60), (1220, 14, 5), (1219, 14, 12), (1218, 14, 7200), (1217, 14, 4), (1216, 14, 4), (1215, 14, 4), (1214, 14, 4), (1213, 14, 4), (1212, 14, 4), (1210, 14, 8), (1209, 14, 600), (1208, 14, 600), (1207, 14, 600), (1206, 14, 10), (1205, 14, 10), (1204, 14, 10), (1203, 14, 10), (1202, 14, 10)]) (ne_mo_q_507 : mo ≠ q_507) (kk : ∀ (q_507 : Nat) (q_601 : Nat) (q_613 : Nat) (S : PS) (H : Heap) (locs : List Loc) (ls : Array Slot), Wd G cy (AS S0 s.heap.size) s.heap S H locs → lv_has ls 2 [(0, .ref mo)] → At S mo 12 → At S q_507 14 → At S q_601 14 → At S q_613 15 → pR S 1239 mo = some q_507 → pR S 1248 mo = some q_601 → pR S 1253 mo = some q_613 → pI S 1201 mo = 0 → pI S 1211 mo = 0 → pI S 1228 mo = 0 → pI S 1238 mo = 0 → pI S 1245 mo = 0 → pI S 1246 mo = 0 → pI S 1251 mo = 0 → pI S 1262 mo = 0 → pI S 1229 mo = (-1) → pN S q_507 = 41 → pN S q_601 = 4 → pN S q_613 = 16 → (∀ j, pA S q_507 j = 0) → (∀ j, pA S q_613 j = 0) → FaA S mo [(1257, 14, 128), (1256, 14, 16), (1255, 14, 16), (1254, 14, 16), (1253, 15, 16), (1252, 14, 5), (1248, 14, 4), (1244, 15, 40), (1243, 14, 40), (1242, 14, 40), (1241, 14, 40), (1240, 14, 40), (1239, 14, 41), (1237, 14, 4), (1236, 14, 158400), (1235, 14, 13200), (1227, 13, 400), (1226, 14, 240), (1225, 14, 240), (1224, 14, 240), (1223, 14, 60), (1222, 14, 60), (1221, 14, 60), (1220, 14, 5), (1219, 14, 12), (1218, 14, 7200), (1217, 14, 4), (1216, 14, 4), (1215, 14, 4), (1214, 14, 4), (1213, 14, 4), (1212, 14, 4), (1210, 14, 8), (1209, 14, 600), (1208, 14, 600), (1207, 14, 600), (1206, 14, 10), (1205, 14, 10), (1204, 14, 10), (1203, 14, 10), (1202, 14, 10)] → mo ≠ q_507 → mo ≠ q_601 → q_507 ≠ q_601 → mo ≠ q_613 → q_507 ≠ q_613 → q_601 ≠ q_613 → W p l e ({ frames := 2, cells := 70, slots := 190000, locals := 80 }) s m [.ref mo].toArray below meth c H locs 41 182445 Q (F0 m 379 ls [])) : W p l e ({ frames := 2, cells := 70, slots := 190000, locals := 80 }) s m [.ref mo].toArray below meth c H locs 34 182244 Q (F0 m 324 ls []) := by
  refine lv_aload_n X.1 X.2.1 dX12_init_324 rfl (lv_at hl 0 rfl) ?_
  refine lv_iconst (v := 4) X.1 X.2.1 dX12_init_325 (by decide) ?_
  have hat_mo_o := hat_mo
  have ha_509_o := ha_509
  refine r_newI (N := 4) X hw 182248 35 (X.2.2.2.1 (.arrayClass .int) (by decide +kernel)) (by decide) (by decide) (by decide) (Nat.le_of_ble_eq_true rfl) (Nat.le_of_ble_eq_true rfl) (Nat.le_of_ble_eq_true rfl) (Nat.le_of_ble_eq_true rfl) dX12_init_326 (fun q_601 H hq_601 hw => ?_)
  have ne_mo_q_601 : mo ≠ q_601 := At_old hat_mo_o hq_601
  have ne_q_507_q_601 : q_507 ≠ q_601 := At_old ha_509_o hq_601
  generalize eS_602 : sN S q_601 14 4 = S_602 at hw
  have hat_mo : At S_602 mo 12 := by rw [← eS_602]; exact At_sN hat_mo hq_601
  have ha_509 : At S_602 q_507 14 := by rw [← eS_602]; exact At_sN ha_509 hq_601
  have hr_513 : pR S_602 1239 mo = some q_507 := by rw [← eS_602, pR_sN]; exact hr_513
  have ci_1201 : pI S_602 1201 mo = 0 := by rw [← eS_602, pI_sN]; exact ci_1201
  have ci_1211 : pI S_602 1211 mo = 0 := by rw [← eS_602, pI_sN]; exact ci_1211
  have ci_1228 : pI S_602 1228 mo = 0 := by rw [← eS_602, pI_sN]; exact ci_1228
  have ci_1238 : pI S_602 1238 mo = 0 := by rw [← eS_602, pI_sN]; exact ci_1238
  have ci_1245 : pI S_602 1245 mo = 0 := by rw [← eS_602, pI_sN]; exact ci_1245
  have ci_1246 : pI S_602 1246 mo = 0 := by rw [← eS_602, pI_sN]; exact ci_1246
  have ci_1251 : pI S_602 1251 mo = 0 := by rw [← eS_602, pI_sN]; exact ci_1251
  have ci_1262 : pI S_602 1262 mo = 0 := by rw [← eS_602, pI_sN]; exact ci_1262
  have hc_426 : pI S_602 1229 mo = (-1) := by rw [← eS_602, pI_sN]; exact hc_426
  have hn_510 : pN S_602 q_507 = 41 := by rw [← eS_602]; exact (pN_sN_ne (At_old ha_509_o hq_601)).trans hn_510
  have hFA : FaA S_602 mo [(1244, 15, 40), (1243, 14, 40), (1242, 14, 40), (1241, 14, 40), (1240, 14, 40), (1239, 14, 41), (1237, 14, 4), (1236, 14, 158400), (1235, 14, 13200), (1227, 13, 400), (1226, 14, 240), (1225, 14, 240), (1224, 14, 240), (1223, 14, 60), (1222, 14, 60), (1221, 14, 60), (1220, 14, 5), (1219, 14, 12), (1218, 14, 7200), (1217, 14, 4), (1216, 14, 4), (1215, 14, 4), (1214, 14, 4), (1213, 14, 4), (1212, 14, 4), (1210, 14, 8), (1209, 14, 600), (1208, 14, 600), (1207, 14, 600), (1206, 14, 10), (1205, 14, 10), (1204, 14, 10), (1203, 14, 10), (1202, 14, 10)] := by rw [← eS_602]; exact FaA_sN hFA hq_601
  have hza_511 : ∀ j, pA S_602 q_507 j = 0 := fun j => by rw [← eS_602]; exact (congrFun (pA_sN_ne (At_old ha_509_o hq_601)) j).trans (hza_511 j)
  have ha_603 : At S_602 q_601 14 := by rw [← eS_602]; exact At_nN _ _ _ _
  have hn_604 : pN S_602 q_601 = 4 := by rw [← eS_602]; exact pN_sN_new
  refine r_putR X hw hat_mo 48 1248 (some q_601) rfl tyX12 (by decide) rfl inn_X12_init_12 tyX12_ok nmX12 (by decide) (X.2.2.2.1 (.fieldLink RX12 119 "SilkMillModel" "price" "[I") (by decide +kernel)) rfl (Or.inr ⟨rfl, hin, rfl⟩) (fun _ => rfl) rfl (fun _ => rfl) rfl (Nat.le_of_ble_eq_true rfl) (st_1248 _ _) dX12_init_328 (fun H locs hw => ?_)
  generalize eS_605 : sR S_602 1248 mo (some q_601) = S_605 at hw
  have hat_mo : At S_605 mo 12 := by rw [← eS_605]; exact At_sR hat_mo
  have ha_509 : At S_605 q_507 14 := by rw [← eS_605]; exact At_sR ha_509
  have ha_603 : At S_605 q_601 14 := by rw [← eS_605]; exact At_sR ha_603
  have hr_513 : pR S_605 1239 mo = some q_507 := by rw [← eS_605]; exact (pR_sR_nf (by decide)).trans hr_513
  have ci_1201 : pI S_605 1201 mo = 0 := by rw [← eS_605, pI_sR]; exact ci_1201
  have ci_1211 : pI S_605 1211 mo = 0 := by rw [← eS_605, pI_sR]; exact ci_1211
  have ci_1228 : pI S_605 1228 mo = 0 := by rw [← eS_605, pI_sR]; exact ci_1228
  have ci_1238 : pI S_605 1238 mo = 0 := by rw [← eS_605, pI_sR]; exact ci_1238
  have ci_1245 : pI S_605 1245 mo = 0 := by rw [← eS_605, pI_sR]; exact ci_1245
  have ci_1246 : pI S_605 1246 mo = 0 := by rw [← eS_605, pI_sR]; exact ci_1246
  have ci_1251 : pI S_605 1251 mo = 0 := by rw [← eS_605, pI_sR]; exact ci_1251
  have ci_1262 : pI S_605 1262 mo = 0 := by rw [← eS_605, pI_sR]; exact ci_1262
  have hc_426 : pI S_605 1229 mo = (-1) := by rw [← eS_605, pI_sR]; exact hc_426
  have hn_510 : pN S_605 q_507 = 41 := by rw [← eS_605, pN_sR]; exact hn_510
  have hn_604 : pN S_605 q_601 = 4 := by rw [← eS_605, pN_sR]; exact hn_604
  have hFA : FaA S_605 mo [(1244, 15, 40), (1243, 14, 40), (1242, 14, 40), (1241, 14, 40), (1240, 14, 40), (1239, 14, 41), (1237, 14, 4), (1236, 14, 158400), (1235, 14, 13200), (1227, 13, 400), (1226, 14, 240), (1225, 14, 240), (1224, 14, 240), (1223, 14, 60), (1222, 14, 60), (1221, 14, 60), (1220, 14, 5), (1219, 14, 12), (1218, 14, 7200), (1217, 14, 4), (1216, 14, 4), (1215, 14, 4), (1214, 14, 4), (1213, 14, 4), (1212, 14, 4), (1210, 14, 8), (1209, 14, 600), (1208, 14, 600), (1207, 14, 600), (1206, 14, 10), (1205, 14, 10), (1204, 14, 10), (1203, 14, 10), (1202, 14, 10)] := by rw [← eS_605]; exact FaA_sR hFA (by decide)
  have hza_511 : ∀ j, pA S_605 q_507 j = 0 := by rw [← eS_605, pA_sR]; exact hza_511
  have hr_606 : pR S_605 1248 mo = some q_601 := by rw [← eS_605]; exact pR_sR_same
  have hFA : FaA S_605 mo [(1248, 14, 4), (1244, 15, 40), (1243, 14, 40), (1242, 14, 40), (1241, 14, 40), (1240, 14, 40), (1239, 14, 41), (1237, 14, 4), (1236, 14, 158400), (1235, 14, 13200), (1227, 13, 400), (1226, 14, 240), (1225, 14, 240), (1224, 14, 240), (1223, 14, 60), (1222, 14, 60), (1221, 14, 60), (1220, 14, 5), (1219, 14, 12), (1218, 14, 7200), (1217, 14, 4), (1216, 14, 4), (1215, 14, 4), (1214, 14, 4), (1213, 14, 4), (1212, 14, 4), (1210, 14, 8), (1209, 14, 600), (1208, 14, 600), (1207, 14, 600), (1206, 14, 10), (1205, 14, 10), (1204, 14, 10), (1203, 14, 10), (1202, 14, 10)] := FaA_cons ⟨_, hr_606, ha_603, hn_604⟩ hFA
  refine lv_aload_n X.1 X.2.1 dX12_init_331 rfl (lv_at hl 0 rfl) ?_
  refine lv_iconst (v := 5) X.1 X.2.1 dX12_init_332 (by decide) ?_
  have hat_mo_o := hat_mo
  have ha_509_o := ha_509
  have ha_603_o := ha_603
  refine r_newI (N := 5) X hw 182253 36 (X.2.2.2.1 (.arrayClass .int) (by decide +kernel)) (by decide) (by decide) (by decide) (Nat.le_of_ble_eq_true rfl) (Nat.le_of_ble_eq_true rfl) (Nat.le_of_ble_eq_true rfl) (Nat.le_of_ble_eq_true rfl) dX12_init_333 (fun q_607 H hq_607 hw => ?_)
  have ne_mo_q_607 : mo ≠ q_607 := At_old hat_mo_o hq_607
  have ne_q_507_q_607 : q_507 ≠ q_607 := At_old ha_509_o hq_607
  have ne_q_601_q_607 : q_601 ≠ q_607 := At_old ha_603_o hq_607
  generalize eS_608 : sN S_605 q_607 14 5 = S_608 at hw
  have hat_mo : At S_608 mo 12 := by rw [← eS_608]; exact At_sN hat_mo hq_607
  have ha_509 : At S_608 q_507 14 := by rw [← eS_608]; exact At_sN ha_509 hq_607
  have ha_603 : At S_608 q_601 14 := by rw [← eS_608]; exact At_sN ha_603 hq_607
  have hr_513 : pR S_608 1239 mo = some q_507 := by rw [← eS_608, pR_sN]; exact hr_513
  have hr_606 : pR S_608 1248 mo = some q_601 := by rw [← eS_608, pR_sN]; exact hr_606
  have ci_1201 : pI S_608 1201 mo = 0 := by rw [← eS_608, pI_sN]; exact ci_1201
  have ci_1211 : pI S_608 1211 mo = 0 := by rw [← eS_608, pI_sN]; exact ci_1211
  have ci_1228 : pI S_608 1228 mo = 0 := by rw [← eS_608, pI_sN]; exact ci_1228
  have ci_1238 : pI S_608 1238 mo = 0 := by rw [← eS_608, pI_sN]; exact ci_1238
  have ci_1245 : pI S_608 1245 mo = 0 := by rw [← eS_608, pI_sN]; exact ci_1245
  have ci_1246 : pI S_608 1246 mo = 0 := by rw [← eS_608, pI_sN]; exact ci_1246
  have ci_1251 : pI S_608 1251 mo = 0 := by rw [← eS_608, pI_sN]; exact ci_1251
  have ci_1262 : pI S_608 1262 mo = 0 := by rw [← eS_608, pI_sN]; exact ci_1262
  have hc_426 : pI S_608 1229 mo = (-1) := by rw [← eS_608, pI_sN]; exact hc_426
  have hn_510 : pN S_608 q_507 = 41 := by rw [← eS_608]; exact (pN_sN_ne (At_old ha_509_o hq_607)).trans hn_510
  have hn_604 : pN S_608 q_601 = 4 := by rw [← eS_608]; exact (pN_sN_ne (At_old ha_603_o hq_607)).trans hn_604
  have hFA : FaA S_608 mo [(1248, 14, 4), (1244, 15, 40), (1243, 14, 40), (1242, 14, 40), (1241, 14, 40), (1240, 14, 40), (1239, 14, 41), (1237, 14, 4), (1236, 14, 158400), (1235, 14, 13200), (1227, 13, 400), (1226, 14, 240), (1225, 14, 240), (1224, 14, 240), (1223, 14, 60), (1222, 14, 60), (1221, 14, 60), (1220, 14, 5), (1219, 14, 12), (1218, 14, 7200), (1217, 14, 4), (1216, 14, 4), (1215, 14, 4), (1214, 14, 4), (1213, 14, 4), (1212, 14, 4), (1210, 14, 8), (1209, 14, 600), (1208, 14, 600), (1207, 14, 600), (1206, 14, 10), (1205, 14, 10), (1204, 14, 10), (1203, 14, 10), (1202, 14, 10)] := by rw [← eS_608]; exact FaA_sN hFA hq_607
  have hza_511 : ∀ j, pA S_608 q_507 j = 0 := fun j => by rw [← eS_608]; exact (congrFun (pA_sN_ne (At_old ha_509_o hq_607)) j).trans (hza_511 j)
  have ha_609 : At S_608 q_607 14 := by rw [← eS_608]; exact At_nN _ _ _ _
  have hn_610 : pN S_608 q_607 = 5 := by rw [← eS_608]; exact pN_sN_new
  refine r_putR X hw hat_mo 52 1252 (some q_607) rfl tyX12 (by decide) rfl inn_X12_init_12 tyX12_ok nmX12 (by decide) (X.2.2.2.1 (.fieldLink RX12 122 "SilkMillModel" "draw" "[I") (by decide +kernel)) rfl (Or.inr ⟨rfl, hin, rfl⟩) (fun _ => rfl) rfl (fun _ => rfl) rfl (Nat.le_of_ble_eq_true rfl) (st_1252 _ _) dX12_init_335 (fun H locs hw => ?_)
  generalize eS_611 : sR S_608 1252 mo (some q_607) = S_611 at hw
  have hat_mo : At S_611 mo 12 := by rw [← eS_611]; exact At_sR hat_mo
  have ha_509 : At S_611 q_507 14 := by rw [← eS_611]; exact At_sR ha_509
  have ha_603 : At S_611 q_601 14 := by rw [← eS_611]; exact At_sR ha_603
  have ha_609 : At S_611 q_607 14 := by rw [← eS_611]; exact At_sR ha_609
  have hr_513 : pR S_611 1239 mo = some q_507 := by rw [← eS_611]; exact (pR_sR_nf (by decide)).trans hr_513
  have hr_606 : pR S_611 1248 mo = some q_601 := by rw [← eS_611]; exact (pR_sR_nf (by decide)).trans hr_606
  have ci_1201 : pI S_611 1201 mo = 0 := by rw [← eS_611, pI_sR]; exact ci_1201
  have ci_1211 : pI S_611 1211 mo = 0 := by rw [← eS_611, pI_sR]; exact ci_1211
  have ci_1228 : pI S_611 1228 mo = 0 := by rw [← eS_611, pI_sR]; exact ci_1228
  have ci_1238 : pI S_611 1238 mo = 0 := by rw [← eS_611, pI_sR]; exact ci_1238
  have ci_1245 : pI S_611 1245 mo = 0 := by rw [← eS_611, pI_sR]; exact ci_1245
  have ci_1246 : pI S_611 1246 mo = 0 := by rw [← eS_611, pI_sR]; exact ci_1246
  have ci_1251 : pI S_611 1251 mo = 0 := by rw [← eS_611, pI_sR]; exact ci_1251
  have ci_1262 : pI S_611 1262 mo = 0 := by rw [← eS_611, pI_sR]; exact ci_1262
  have hc_426 : pI S_611 1229 mo = (-1) := by rw [← eS_611, pI_sR]; exact hc_426
  have hn_510 : pN S_611 q_507 = 41 := by rw [← eS_611, pN_sR]; exact hn_510
  have hn_604 : pN S_611 q_601 = 4 := by rw [← eS_611, pN_sR]; exact hn_604
  have hn_610 : pN S_611 q_607 = 5 := by rw [← eS_611, pN_sR]; exact hn_610
  have hFA : FaA S_611 mo [(1248, 14, 4), (1244, 15, 40), (1243, 14, 40), (1242, 14, 40), (1241, 14, 40), (1240, 14, 40), (1239, 14, 41), (1237, 14, 4), (1236, 14, 158400), (1235, 14, 13200), (1227, 13, 400), (1226, 14, 240), (1225, 14, 240), (1224, 14, 240), (1223, 14, 60), (1222, 14, 60), (1221, 14, 60), (1220, 14, 5), (1219, 14, 12), (1218, 14, 7200), (1217, 14, 4), (1216, 14, 4), (1215, 14, 4), (1214, 14, 4), (1213, 14, 4), (1212, 14, 4), (1210, 14, 8), (1209, 14, 600), (1208, 14, 600), (1207, 14, 600), (1206, 14, 10), (1205, 14, 10), (1204, 14, 10), (1203, 14, 10), (1202, 14, 10)] := by rw [← eS_611]; exact FaA_sR hFA (by decide)
  have hza_511 : ∀ j, pA S_611 q_507 j = 0 := by rw [← eS_611, pA_sR]; exact hza_511
  have hr_612 : pR S_611 1252 mo = some q_607 := by rw [← eS_611]; exact pR_sR_same
  have hFA : FaA S_611 mo [(1252, 14, 5), (1248, 14, 4), (1244, 15, 40), (1243, 14, 40), (1242, 14, 40), (1241, 14, 40), (1240, 14, 40), (1239, 14, 41), (1237, 14, 4), (1236, 14, 158400), (1235, 14, 13200), (1227, 13, 400), (1226, 14, 240), (1225, 14, 240), (1224, 14, 240), (1223, 14, 60), (1222, 14, 60), (1221, 14, 60), (1220, 14, 5), (1219, 14, 12), (1218, 14, 7200), (1217, 14, 4), (1216, 14, 4), (1215, 14, 4), (1214, 14, 4), (1213, 14, 4), (1212, 14, 4), (1210, 14, 8), (1209, 14, 600), (1208, 14, 600), (1207, 14, 600), (1206, 14, 10), (1205, 14, 10), (1204, 14, 10), (1203, 14, 10), (1202, 14, 10)] := FaA_cons ⟨_, hr_612, ha_609, hn_610⟩ hFA
  refine lv_aload_n X.1 X.2.1 dX12_init_338 rfl (lv_at hl 0 rfl) ?_
  refine lv_bipush (v := 16) X.1 X.2.1 dX12_init_339 (by decide) ?_
  have hat_mo_o := hat_mo
  have ha_509_o := ha_509
  have ha_603_o := ha_603
  refine r_newZ (N := 16) X hw 182269 37 (X.2.2.2.1 (.arrayClass .boolean) (by decide +kernel)) (by decide) (by decide) (by decide) (Nat.le_of_ble_eq_true rfl) (Nat.le_of_ble_eq_true rfl) (Nat.le_of_ble_eq_true rfl) (Nat.le_of_ble_eq_true rfl) dX12_init_341 (fun q_613 H hq_613 hw => ?_)
  have ne_mo_q_613 : mo ≠ q_613 := At_old hat_mo_o hq_613
  have ne_q_507_q_613 : q_507 ≠ q_613 := At_old ha_509_o hq_613
  have ne_q_601_q_613 : q_601 ≠ q_613 := At_old ha_603_o hq_613
  generalize eS_614 : sN S_611 q_613 15 16 = S_614 at hw
  have hat_mo : At S_614 mo 12 := by rw [← eS_614]; exact At_sN hat_mo hq_613
  have ha_509 : At S_614 q_507 14 := by rw [← eS_614]; exact At_sN ha_509 hq_613
  have ha_603 : At S_614 q_601 14 := by rw [← eS_614]; exact At_sN ha_603 hq_613
  have hr_513 : pR S_614 1239 mo = some q_507 := by rw [← eS_614, pR_sN]; exact hr_513
  have hr_606 : pR S_614 1248 mo = some q_601 := by rw [← eS_614, pR_sN]; exact hr_606
  have ci_1201 : pI S_614 1201 mo = 0 := by rw [← eS_614, pI_sN]; exact ci_1201
  have ci_1211 : pI S_614 1211 mo = 0 := by rw [← eS_614, pI_sN]; exact ci_1211
  have ci_1228 : pI S_614 1228 mo = 0 := by rw [← eS_614, pI_sN]; exact ci_1228
  have ci_1238 : pI S_614 1238 mo = 0 := by rw [← eS_614, pI_sN]; exact ci_1238
  have ci_1245 : pI S_614 1245 mo = 0 := by rw [← eS_614, pI_sN]; exact ci_1245
  have ci_1246 : pI S_614 1246 mo = 0 := by rw [← eS_614, pI_sN]; exact ci_1246
  have ci_1251 : pI S_614 1251 mo = 0 := by rw [← eS_614, pI_sN]; exact ci_1251
  have ci_1262 : pI S_614 1262 mo = 0 := by rw [← eS_614, pI_sN]; exact ci_1262
  have hc_426 : pI S_614 1229 mo = (-1) := by rw [← eS_614, pI_sN]; exact hc_426
  have hn_510 : pN S_614 q_507 = 41 := by rw [← eS_614]; exact (pN_sN_ne (At_old ha_509_o hq_613)).trans hn_510
  have hn_604 : pN S_614 q_601 = 4 := by rw [← eS_614]; exact (pN_sN_ne (At_old ha_603_o hq_613)).trans hn_604
  have hFA : FaA S_614 mo [(1252, 14, 5), (1248, 14, 4), (1244, 15, 40), (1243, 14, 40), (1242, 14, 40), (1241, 14, 40), (1240, 14, 40), (1239, 14, 41), (1237, 14, 4), (1236, 14, 158400), (1235, 14, 13200), (1227, 13, 400), (1226, 14, 240), (1225, 14, 240), (1224, 14, 240), (1223, 14, 60), (1222, 14, 60), (1221, 14, 60), (1220, 14, 5), (1219, 14, 12), (1218, 14, 7200), (1217, 14, 4), (1216, 14, 4), (1215, 14, 4), (1214, 14, 4), (1213, 14, 4), (1212, 14, 4), (1210, 14, 8), (1209, 14, 600), (1208, 14, 600), (1207, 14, 600), (1206, 14, 10), (1205, 14, 10), (1204, 14, 10), (1203, 14, 10), (1202, 14, 10)] := by rw [← eS_614]; exact FaA_sN hFA hq_613
  have hza_511 : ∀ j, pA S_614 q_507 j = 0 := fun j => by rw [← eS_614]; exact (congrFun (pA_sN_ne (At_old ha_509_o hq_613)) j).trans (hza_511 j)
  have ha_615 : At S_614 q_613 15 := by rw [← eS_614]; exact At_nN _ _ _ _
  have hn_616 : pN S_614 q_613 = 16 := by rw [← eS_614]; exact pN_sN_new
  have hza_617 : ∀ j, pA S_614 q_613 j = 0 := fun j => by rw [← eS_614]; exact congrFun pA_sN_new j
  refine r_putR X hw hat_mo 53 1253 (some q_613) rfl tyX12 (by decide) rfl inn_X12_init_12 tyX12_ok nmX12 (by decide) (X.2.2.2.1 (.fieldLink RX12 125 "SilkMillModel" "isLaid" "[Z") (by decide +kernel)) rfl (Or.inr ⟨rfl, hin, rfl⟩) (fun _ => rfl) rfl (fun _ => rfl) rfl (Nat.le_of_ble_eq_true rfl) (st_1253 _ _) dX12_init_343 (fun H locs hw => ?_)
  generalize eS_618 : sR S_614 1253 mo (some q_613) = S_618 at hw
  have hat_mo : At S_618 mo 12 := by rw [← eS_618]; exact At_sR hat_mo
  have ha_509 : At S_618 q_507 14 := by rw [← eS_618]; exact At_sR ha_509
  have ha_603 : At S_618 q_601 14 := by rw [← eS_618]; exact At_sR ha_603
  have ha_615 : At S_618 q_613 15 := by rw [← eS_618]; exact At_sR ha_615
  have hr_513 : pR S_618 1239 mo = some q_507 := by rw [← eS_618]; exact (pR_sR_nf (by decide)).trans hr_513
  have hr_606 : pR S_618 1248 mo = some q_601 := by rw [← eS_618]; exact (pR_sR_nf (by decide)).trans hr_606
  have ci_1201 : pI S_618 1201 mo = 0 := by rw [← eS_618, pI_sR]; exact ci_1201
  have ci_1211 : pI S_618 1211 mo = 0 := by rw [← eS_618, pI_sR]; exact ci_1211
  have ci_1228 : pI S_618 1228 mo = 0 := by rw [← eS_618, pI_sR]; exact ci_1228
  have ci_1238 : pI S_618 1238 mo = 0 := by rw [← eS_618, pI_sR]; exact ci_1238
  have ci_1245 : pI S_618 1245 mo = 0 := by rw [← eS_618, pI_sR]; exact ci_1245
  have ci_1246 : pI S_618 1246 mo = 0 := by rw [← eS_618, pI_sR]; exact ci_1246
  have ci_1251 : pI S_618 1251 mo = 0 := by rw [← eS_618, pI_sR]; exact ci_1251
  have ci_1262 : pI S_618 1262 mo = 0 := by rw [← eS_618, pI_sR]; exact ci_1262
  have hc_426 : pI S_618 1229 mo = (-1) := by rw [← eS_618, pI_sR]; exact hc_426
  have hn_510 : pN S_618 q_507 = 41 := by rw [← eS_618, pN_sR]; exact hn_510
  have hn_604 : pN S_618 q_601 = 4 := by rw [← eS_618, pN_sR]; exact hn_604
  have hn_616 : pN S_618 q_613 = 16 := by rw [← eS_618, pN_sR]; exact hn_616
  have hFA : FaA S_618 mo [(1252, 14, 5), (1248, 14, 4), (1244, 15, 40), (1243, 14, 40), (1242, 14, 40), (1241, 14, 40), (1240, 14, 40), (1239, 14, 41), (1237, 14, 4), (1236, 14, 158400), (1235, 14, 13200), (1227, 13, 400), (1226, 14, 240), (1225, 14, 240), (1224, 14, 240), (1223, 14, 60), (1222, 14, 60), (1221, 14, 60), (1220, 14, 5), (1219, 14, 12), (1218, 14, 7200), (1217, 14, 4), (1216, 14, 4), (1215, 14, 4), (1214, 14, 4), (1213, 14, 4), (1212, 14, 4), (1210, 14, 8), (1209, 14, 600), (1208, 14, 600), (1207, 14, 600), (1206, 14, 10), (1205, 14, 10), (1204, 14, 10), (1203, 14, 10), (1202, 14, 10)] := by rw [← eS_618]; exact FaA_sR hFA (by decide)
  have hza_511 : ∀ j, pA S_618 q_507 j = 0 := by rw [← eS_618, pA_sR]; exact hza_511
  have hza_617 : ∀ j, pA S_618 q_613 j = 0 := by rw [← eS_618, pA_sR]; exact hza_617
  have hr_619 : pR S_618 1253 mo = some q_613 := by rw [← eS_618]; exact pR_sR_same
  have hFA : FaA S_618 mo [(1253, 15, 16), (1252, 14, 5), (1248, 14, 4), (1244, 15, 40), (1243, 14, 40), (1242, 14, 40), (1241, 14, 40), (1240, 14, 40), (1239, 14, 41), (1237, 14, 4), (1236, 14, 158400), (1235, 14, 13200), (1227, 13, 400), (1226, 14, 240), (1225, 14, 240), (1224, 14, 240), (1223, 14, 60), (1222, 14, 60), (1221, 14, 60), (1220, 14, 5), (1219, 14, 12), (1218, 14, 7200), (1217, 14, 4), (1216, 14, 4), (1215, 14, 4), (1214, 14, 4), (1213, 14, 4), (1212, 14, 4), (1210, 14, 8), (1209, 14, 600), (1208, 14, 600), (1207, 14, 600), (1206, 14, 10), (1205, 14, 10), (1204, 14, 10), (1203, 14, 10), (1202, 14, 10)] := FaA_cons ⟨_, hr_619, ha_615, hn_616⟩ hFA
  refine lv_aload_n X.1 X.2.1 dX12_init_346 rfl (lv_at hl 0 rfl) ?_
  refine lv_bipush (v := 16) X.1 X.2.1 dX12_init_347 (by decide) ?_
  have hat_mo_o := hat_mo
  have ha_509_o := ha_509
  have ha_603_o := ha_603
  have ha_615_o := ha_615
  refine r_newI (N := 16) X hw 182285 38 (X.2.2.2.1 (.arrayClass .int) (by decide +kernel)) (by decide) (by decide) (by decide) (Nat.le_of_ble_eq_true rfl) (Nat.le_of_ble_eq_true rfl) (Nat.le_of_ble_eq_true rfl) (Nat.le_of_ble_eq_true rfl) dX12_init_349 (fun q_620 H hq_620 hw => ?_)
  have ne_mo_q_620 : mo ≠ q_620 := At_old hat_mo_o hq_620
  have ne_q_507_q_620 : q_507 ≠ q_620 := At_old ha_509_o hq_620
  have ne_q_601_q_620 : q_601 ≠ q_620 := At_old ha_603_o hq_620
  have ne_q_613_q_620 : q_613 ≠ q_620 := At_old ha_615_o hq_620
  generalize eS_621 : sN S_618 q_620 14 16 = S_621 at hw
  have hat_mo : At S_621 mo 12 := by rw [← eS_621]; exact At_sN hat_mo hq_620
  have ha_509 : At S_621 q_507 14 := by rw [← eS_621]; exact At_sN ha_509 hq_620
  have ha_603 : At S_621 q_601 14 := by rw [← eS_621]; exact At_sN ha_603 hq_620
  have ha_615 : At S_621 q_613 15 := by rw [← eS_621]; exact At_sN ha_615 hq_620
  have hr_513 : pR S_621 1239 mo = some q_507 := by rw [← eS_621, pR_sN]; exact hr_513
  have hr_606 : pR S_621 1248 mo = some q_601 := by rw [← eS_621, pR_sN]; exact hr_606
  have hr_619 : pR S_621 1253 mo = some q_613 := by rw [← eS_621, pR_sN]; exact hr_619
  have ci_1201 : pI S_621 1201 mo = 0 := by rw [← eS_621, pI_sN]; exact ci_1201
  have ci_1211 : pI S_621 1211 mo = 0 := by rw [← eS_621, pI_sN]; exact ci_1211
  have ci_1228 : pI S_621 1228 mo = 0 := by rw [← eS_621, pI_sN]; exact ci_1228
  have ci_1238 : pI S_621 1238 mo = 0 := by rw [← eS_621, pI_sN]; exact ci_1238
  have ci_1245 : pI S_621 1245 mo = 0 := by rw [← eS_621, pI_sN]; exact ci_1245
  have ci_1246 : pI S_621 1246 mo = 0 := by rw [← eS_621, pI_sN]; exact ci_1246
  have ci_1251 : pI S_621 1251 mo = 0 := by rw [← eS_621, pI_sN]; exact ci_1251
  have ci_1262 : pI S_621 1262 mo = 0 := by rw [← eS_621, pI_sN]; exact ci_1262
  have hc_426 : pI S_621 1229 mo = (-1) := by rw [← eS_621, pI_sN]; exact hc_426
  have hn_510 : pN S_621 q_507 = 41 := by rw [← eS_621]; exact (pN_sN_ne (At_old ha_509_o hq_620)).trans hn_510
  have hn_604 : pN S_621 q_601 = 4 := by rw [← eS_621]; exact (pN_sN_ne (At_old ha_603_o hq_620)).trans hn_604
  have hn_616 : pN S_621 q_613 = 16 := by rw [← eS_621]; exact (pN_sN_ne (At_old ha_615_o hq_620)).trans hn_616
  have hFA : FaA S_621 mo [(1253, 15, 16), (1252, 14, 5), (1248, 14, 4), (1244, 15, 40), (1243, 14, 40), (1242, 14, 40), (1241, 14, 40), (1240, 14, 40), (1239, 14, 41), (1237, 14, 4), (1236, 14, 158400), (1235, 14, 13200), (1227, 13, 400), (1226, 14, 240), (1225, 14, 240), (1224, 14, 240), (1223, 14, 60), (1222, 14, 60), (1221, 14, 60), (1220, 14, 5), (1219, 14, 12), (1218, 14, 7200), (1217, 14, 4), (1216, 14, 4), (1215, 14, 4), (1214, 14, 4), (1213, 14, 4), (1212, 14, 4), (1210, 14, 8), (1209, 14, 600), (1208, 14, 600), (1207, 14, 600), (1206, 14, 10), (1205, 14, 10), (1204, 14, 10), (1203, 14, 10), (1202, 14, 10)] := by rw [← eS_621]; exact FaA_sN hFA hq_620
  have hza_511 : ∀ j, pA S_621 q_507 j = 0 := fun j => by rw [← eS_621]; exact (congrFun (pA_sN_ne (At_old ha_509_o hq_620)) j).trans (hza_511 j)
  have hza_617 : ∀ j, pA S_621 q_613 j = 0 := fun j => by rw [← eS_621]; exact (congrFun (pA_sN_ne (At_old ha_615_o hq_620)) j).trans (hza_617 j)
  have ha_622 : At S_621 q_620 14 := by rw [← eS_621]; exact At_nN _ _ _ _
  have hn_623 : pN S_621 q_620 = 16 := by rw [← eS_621]; exact pN_sN_new
  refine r_putR X hw hat_mo 54 1254 (some q_620) rfl tyX12 (by decide) rfl inn_X12_init_12 tyX12_ok nmX12 (by decide) (X.2.2.2.1 (.fieldLink RX12 128 "SilkMillModel" "laid" "[I") (by decide +kernel)) rfl (Or.inr ⟨rfl, hin, rfl⟩) (fun _ => rfl) rfl (fun _ => rfl) rfl (Nat.le_of_ble_eq_true rfl) (st_1254 _ _) dX12_init_351 (fun H locs hw => ?_)
  generalize eS_624 : sR S_621 1254 mo (some q_620) = S_624 at hw
  have hat_mo : At S_624 mo 12 := by rw [← eS_624]; exact At_sR hat_mo
  have ha_509 : At S_624 q_507 14 := by rw [← eS_624]; exact At_sR ha_509
  have ha_603 : At S_624 q_601 14 := by rw [← eS_624]; exact At_sR ha_603
  have ha_615 : At S_624 q_613 15 := by rw [← eS_624]; exact At_sR ha_615
  have ha_622 : At S_624 q_620 14 := by rw [← eS_624]; exact At_sR ha_622
  have hr_513 : pR S_624 1239 mo = some q_507 := by rw [← eS_624]; exact (pR_sR_nf (by decide)).trans hr_513
  have hr_606 : pR S_624 1248 mo = some q_601 := by rw [← eS_624]; exact (pR_sR_nf (by decide)).trans hr_606
  have hr_619 : pR S_624 1253 mo = some q_613 := by rw [← eS_624]; exact (pR_sR_nf (by decide)).trans hr_619
  have ci_1201 : pI S_624 1201 mo = 0 := by rw [← eS_624, pI_sR]; exact ci_1201
  have ci_1211 : pI S_624 1211 mo = 0 := by rw [← eS_624, pI_sR]; exact ci_1211
  have ci_1228 : pI S_624 1228 mo = 0 := by rw [← eS_624, pI_sR]; exact ci_1228
  have ci_1238 : pI S_624 1238 mo = 0 := by rw [← eS_624, pI_sR]; exact ci_1238
  have ci_1245 : pI S_624 1245 mo = 0 := by rw [← eS_624, pI_sR]; exact ci_1245
  have ci_1246 : pI S_624 1246 mo = 0 := by rw [← eS_624, pI_sR]; exact ci_1246
  have ci_1251 : pI S_624 1251 mo = 0 := by rw [← eS_624, pI_sR]; exact ci_1251
  have ci_1262 : pI S_624 1262 mo = 0 := by rw [← eS_624, pI_sR]; exact ci_1262
  have hc_426 : pI S_624 1229 mo = (-1) := by rw [← eS_624, pI_sR]; exact hc_426
  have hn_510 : pN S_624 q_507 = 41 := by rw [← eS_624, pN_sR]; exact hn_510
  have hn_604 : pN S_624 q_601 = 4 := by rw [← eS_624, pN_sR]; exact hn_604
  have hn_616 : pN S_624 q_613 = 16 := by rw [← eS_624, pN_sR]; exact hn_616
  have hn_623 : pN S_624 q_620 = 16 := by rw [← eS_624, pN_sR]; exact hn_623
  have hFA : FaA S_624 mo [(1253, 15, 16), (1252, 14, 5), (1248, 14, 4), (1244, 15, 40), (1243, 14, 40), (1242, 14, 40), (1241, 14, 40), (1240, 14, 40), (1239, 14, 41), (1237, 14, 4), (1236, 14, 158400), (1235, 14, 13200), (1227, 13, 400), (1226, 14, 240), (1225, 14, 240), (1224, 14, 240), (1223, 14, 60), (1222, 14, 60), (1221, 14, 60), (1220, 14, 5), (1219, 14, 12), (1218, 14, 7200), (1217, 14, 4), (1216, 14, 4), (1215, 14, 4), (1214, 14, 4), (1213, 14, 4), (1212, 14, 4), (1210, 14, 8), (1209, 14, 600), (1208, 14, 600), (1207, 14, 600), (1206, 14, 10), (1205, 14, 10), (1204, 14, 10), (1203, 14, 10), (1202, 14, 10)] := by rw [← eS_624]; exact FaA_sR hFA (by decide)
  have hza_511 : ∀ j, pA S_624 q_507 j = 0 := by rw [← eS_624, pA_sR]; exact hza_511
  have hza_617 : ∀ j, pA S_624 q_613 j = 0 := by rw [← eS_624, pA_sR]; exact hza_617
  have hr_625 : pR S_624 1254 mo = some q_620 := by rw [← eS_624]; exact pR_sR_same
  have hFA : FaA S_624 mo [(1254, 14, 16), (1253, 15, 16), (1252, 14, 5), (1248, 14, 4), (1244, 15, 40), (1243, 14, 40), (1242, 14, 40), (1241, 14, 40), (1240, 14, 40), (1239, 14, 41), (1237, 14, 4), (1236, 14, 158400), (1235, 14, 13200), (1227, 13, 400), (1226, 14, 240), (1225, 14, 240), (1224, 14, 240), (1223, 14, 60), (1222, 14, 60), (1221, 14, 60), (1220, 14, 5), (1219, 14, 12), (1218, 14, 7200), (1217, 14, 4), (1216, 14, 4), (1215, 14, 4), (1214, 14, 4), (1213, 14, 4), (1212, 14, 4), (1210, 14, 8), (1209, 14, 600), (1208, 14, 600), (1207, 14, 600), (1206, 14, 10), (1205, 14, 10), (1204, 14, 10), (1203, 14, 10), (1202, 14, 10)] := FaA_cons ⟨_, hr_625, ha_622, hn_623⟩ hFA
  refine lv_aload_n X.1 X.2.1 dX12_init_354 rfl (lv_at hl 0 rfl) ?_
  refine lv_bipush (v := 16) X.1 X.2.1 dX12_init_355 (by decide) ?_
  have hat_mo_o := hat_mo
  have ha_509_o := ha_509
  have ha_603_o := ha_603
  have ha_615_o := ha_615
  refine r_newI (N := 16) X hw 182301 39 (X.2.2.2.1 (.arrayClass .int) (by decide +kernel)) (by decide) (by decide) (by decide) (Nat.le_of_ble_eq_true rfl) (Nat.le_of_ble_eq_true rfl) (Nat.le_of_ble_eq_true rfl) (Nat.le_of_ble_eq_true rfl) dX12_init_357 (fun q_626 H hq_626 hw => ?_)
  have ne_mo_q_626 : mo ≠ q_626 := At_old hat_mo_o hq_626
  have ne_q_507_q_626 : q_507 ≠ q_626 := At_old ha_509_o hq_626
  have ne_q_601_q_626 : q_601 ≠ q_626 := At_old ha_603_o hq_626
  have ne_q_613_q_626 : q_613 ≠ q_626 := At_old ha_615_o hq_626
  generalize eS_627 : sN S_624 q_626 14 16 = S_627 at hw
  have hat_mo : At S_627 mo 12 := by rw [← eS_627]; exact At_sN hat_mo hq_626
  have ha_509 : At S_627 q_507 14 := by rw [← eS_627]; exact At_sN ha_509 hq_626
  have ha_603 : At S_627 q_601 14 := by rw [← eS_627]; exact At_sN ha_603 hq_626
  have ha_615 : At S_627 q_613 15 := by rw [← eS_627]; exact At_sN ha_615 hq_626
  have hr_513 : pR S_627 1239 mo = some q_507 := by rw [← eS_627, pR_sN]; exact hr_513
  have hr_606 : pR S_627 1248 mo = some q_601 := by rw [← eS_627, pR_sN]; exact hr_606
  have hr_619 : pR S_627 1253 mo = some q_613 := by rw [← eS_627, pR_sN]; exact hr_619
  have ci_1201 : pI S_627 1201 mo = 0 := by rw [← eS_627, pI_sN]; exact ci_1201
  have ci_1211 : pI S_627 1211 mo = 0 := by rw [← eS_627, pI_sN]; exact ci_1211
  have ci_1228 : pI S_627 1228 mo = 0 := by rw [← eS_627, pI_sN]; exact ci_1228
  have ci_1238 : pI S_627 1238 mo = 0 := by rw [← eS_627, pI_sN]; exact ci_1238
  have ci_1245 : pI S_627 1245 mo = 0 := by rw [← eS_627, pI_sN]; exact ci_1245
  have ci_1246 : pI S_627 1246 mo = 0 := by rw [← eS_627, pI_sN]; exact ci_1246
  have ci_1251 : pI S_627 1251 mo = 0 := by rw [← eS_627, pI_sN]; exact ci_1251
  have ci_1262 : pI S_627 1262 mo = 0 := by rw [← eS_627, pI_sN]; exact ci_1262
  have hc_426 : pI S_627 1229 mo = (-1) := by rw [← eS_627, pI_sN]; exact hc_426
  have hn_510 : pN S_627 q_507 = 41 := by rw [← eS_627]; exact (pN_sN_ne (At_old ha_509_o hq_626)).trans hn_510
  have hn_604 : pN S_627 q_601 = 4 := by rw [← eS_627]; exact (pN_sN_ne (At_old ha_603_o hq_626)).trans hn_604
  have hn_616 : pN S_627 q_613 = 16 := by rw [← eS_627]; exact (pN_sN_ne (At_old ha_615_o hq_626)).trans hn_616
  have hFA : FaA S_627 mo [(1254, 14, 16), (1253, 15, 16), (1252, 14, 5), (1248, 14, 4), (1244, 15, 40), (1243, 14, 40), (1242, 14, 40), (1241, 14, 40), (1240, 14, 40), (1239, 14, 41), (1237, 14, 4), (1236, 14, 158400), (1235, 14, 13200), (1227, 13, 400), (1226, 14, 240), (1225, 14, 240), (1224, 14, 240), (1223, 14, 60), (1222, 14, 60), (1221, 14, 60), (1220, 14, 5), (1219, 14, 12), (1218, 14, 7200), (1217, 14, 4), (1216, 14, 4), (1215, 14, 4), (1214, 14, 4), (1213, 14, 4), (1212, 14, 4), (1210, 14, 8), (1209, 14, 600), (1208, 14, 600), (1207, 14, 600), (1206, 14, 10), (1205, 14, 10), (1204, 14, 10), (1203, 14, 10), (1202, 14, 10)] := by rw [← eS_627]; exact FaA_sN hFA hq_626
  have hza_511 : ∀ j, pA S_627 q_507 j = 0 := fun j => by rw [← eS_627]; exact (congrFun (pA_sN_ne (At_old ha_509_o hq_626)) j).trans (hza_511 j)
  have hza_617 : ∀ j, pA S_627 q_613 j = 0 := fun j => by rw [← eS_627]; exact (congrFun (pA_sN_ne (At_old ha_615_o hq_626)) j).trans (hza_617 j)
  have ha_628 : At S_627 q_626 14 := by rw [← eS_627]; exact At_nN _ _ _ _
  have hn_629 : pN S_627 q_626 = 16 := by rw [← eS_627]; exact pN_sN_new
  refine r_putR X hw hat_mo 55 1255 (some q_626) rfl tyX12 (by decide) rfl inn_X12_init_12 tyX12_ok nmX12 (by decide) (X.2.2.2.1 (.fieldLink RX12 131 "SilkMillModel" "laidValue" "[I") (by decide +kernel)) rfl (Or.inr ⟨rfl, hin, rfl⟩) (fun _ => rfl) rfl (fun _ => rfl) rfl (Nat.le_of_ble_eq_true rfl) (st_1255 _ _) dX12_init_359 (fun H locs hw => ?_)
  generalize eS_630 : sR S_627 1255 mo (some q_626) = S_630 at hw
  have hat_mo : At S_630 mo 12 := by rw [← eS_630]; exact At_sR hat_mo
  have ha_509 : At S_630 q_507 14 := by rw [← eS_630]; exact At_sR ha_509
  have ha_603 : At S_630 q_601 14 := by rw [← eS_630]; exact At_sR ha_603
  have ha_615 : At S_630 q_613 15 := by rw [← eS_630]; exact At_sR ha_615
  have ha_628 : At S_630 q_626 14 := by rw [← eS_630]; exact At_sR ha_628
  have hr_513 : pR S_630 1239 mo = some q_507 := by rw [← eS_630]; exact (pR_sR_nf (by decide)).trans hr_513
  have hr_606 : pR S_630 1248 mo = some q_601 := by rw [← eS_630]; exact (pR_sR_nf (by decide)).trans hr_606
  have hr_619 : pR S_630 1253 mo = some q_613 := by rw [← eS_630]; exact (pR_sR_nf (by decide)).trans hr_619
  have ci_1201 : pI S_630 1201 mo = 0 := by rw [← eS_630, pI_sR]; exact ci_1201
  have ci_1211 : pI S_630 1211 mo = 0 := by rw [← eS_630, pI_sR]; exact ci_1211
  have ci_1228 : pI S_630 1228 mo = 0 := by rw [← eS_630, pI_sR]; exact ci_1228
  have ci_1238 : pI S_630 1238 mo = 0 := by rw [← eS_630, pI_sR]; exact ci_1238
  have ci_1245 : pI S_630 1245 mo = 0 := by rw [← eS_630, pI_sR]; exact ci_1245
  have ci_1246 : pI S_630 1246 mo = 0 := by rw [← eS_630, pI_sR]; exact ci_1246
  have ci_1251 : pI S_630 1251 mo = 0 := by rw [← eS_630, pI_sR]; exact ci_1251
  have ci_1262 : pI S_630 1262 mo = 0 := by rw [← eS_630, pI_sR]; exact ci_1262
  have hc_426 : pI S_630 1229 mo = (-1) := by rw [← eS_630, pI_sR]; exact hc_426
  have hn_510 : pN S_630 q_507 = 41 := by rw [← eS_630, pN_sR]; exact hn_510
  have hn_604 : pN S_630 q_601 = 4 := by rw [← eS_630, pN_sR]; exact hn_604
  have hn_616 : pN S_630 q_613 = 16 := by rw [← eS_630, pN_sR]; exact hn_616
  have hn_629 : pN S_630 q_626 = 16 := by rw [← eS_630, pN_sR]; exact hn_629
  have hFA : FaA S_630 mo [(1254, 14, 16), (1253, 15, 16), (1252, 14, 5), (1248, 14, 4), (1244, 15, 40), (1243, 14, 40), (1242, 14, 40), (1241, 14, 40), (1240, 14, 40), (1239, 14, 41), (1237, 14, 4), (1236, 14, 158400), (1235, 14, 13200), (1227, 13, 400), (1226, 14, 240), (1225, 14, 240), (1224, 14, 240), (1223, 14, 60), (1222, 14, 60), (1221, 14, 60), (1220, 14, 5), (1219, 14, 12), (1218, 14, 7200), (1217, 14, 4), (1216, 14, 4), (1215, 14, 4), (1214, 14, 4), (1213, 14, 4), (1212, 14, 4), (1210, 14, 8), (1209, 14, 600), (1208, 14, 600), (1207, 14, 600), (1206, 14, 10), (1205, 14, 10), (1204, 14, 10), (1203, 14, 10), (1202, 14, 10)] := by rw [← eS_630]; exact FaA_sR hFA (by decide)
  have hza_511 : ∀ j, pA S_630 q_507 j = 0 := by rw [← eS_630, pA_sR]; exact hza_511
  have hza_617 : ∀ j, pA S_630 q_613 j = 0 := by rw [← eS_630, pA_sR]; exact hza_617
  have hr_631 : pR S_630 1255 mo = some q_626 := by rw [← eS_630]; exact pR_sR_same
  have hFA : FaA S_630 mo [(1255, 14, 16), (1254, 14, 16), (1253, 15, 16), (1252, 14, 5), (1248, 14, 4), (1244, 15, 40), (1243, 14, 40), (1242, 14, 40), (1241, 14, 40), (1240, 14, 40), (1239, 14, 41), (1237, 14, 4), (1236, 14, 158400), (1235, 14, 13200), (1227, 13, 400), (1226, 14, 240), (1225, 14, 240), (1224, 14, 240), (1223, 14, 60), (1222, 14, 60), (1221, 14, 60), (1220, 14, 5), (1219, 14, 12), (1218, 14, 7200), (1217, 14, 4), (1216, 14, 4), (1215, 14, 4), (1214, 14, 4), (1213, 14, 4), (1212, 14, 4), (1210, 14, 8), (1209, 14, 600), (1208, 14, 600), (1207, 14, 600), (1206, 14, 10), (1205, 14, 10), (1204, 14, 10), (1203, 14, 10), (1202, 14, 10)] := FaA_cons ⟨_, hr_631, ha_628, hn_629⟩ hFA
  refine lv_aload_n X.1 X.2.1 dX12_init_362 rfl (lv_at hl 0 rfl) ?_
  refine lv_bipush (v := 16) X.1 X.2.1 dX12_init_363 (by decide) ?_
  have hat_mo_o := hat_mo
  have ha_509_o := ha_509
  have ha_603_o := ha_603
  have ha_615_o := ha_615
  refine r_newI (N := 16) X hw 182317 40 (X.2.2.2.1 (.arrayClass .int) (by decide +kernel)) (by decide) (by decide) (by decide) (Nat.le_of_ble_eq_true rfl) (Nat.le_of_ble_eq_true rfl) (Nat.le_of_ble_eq_true rfl) (Nat.le_of_ble_eq_true rfl) dX12_init_365 (fun q_632 H hq_632 hw => ?_)
  have ne_mo_q_632 : mo ≠ q_632 := At_old hat_mo_o hq_632
  have ne_q_507_q_632 : q_507 ≠ q_632 := At_old ha_509_o hq_632
  have ne_q_601_q_632 : q_601 ≠ q_632 := At_old ha_603_o hq_632
  have ne_q_613_q_632 : q_613 ≠ q_632 := At_old ha_615_o hq_632
  generalize eS_633 : sN S_630 q_632 14 16 = S_633 at hw
  have hat_mo : At S_633 mo 12 := by rw [← eS_633]; exact At_sN hat_mo hq_632
  have ha_509 : At S_633 q_507 14 := by rw [← eS_633]; exact At_sN ha_509 hq_632
  have ha_603 : At S_633 q_601 14 := by rw [← eS_633]; exact At_sN ha_603 hq_632
  have ha_615 : At S_633 q_613 15 := by rw [← eS_633]; exact At_sN ha_615 hq_632
  have hr_513 : pR S_633 1239 mo = some q_507 := by rw [← eS_633, pR_sN]; exact hr_513
  have hr_606 : pR S_633 1248 mo = some q_601 := by rw [← eS_633, pR_sN]; exact hr_606
  have hr_619 : pR S_633 1253 mo = some q_613 := by rw [← eS_633, pR_sN]; exact hr_619
  have ci_1201 : pI S_633 1201 mo = 0 := by rw [← eS_633, pI_sN]; exact ci_1201
  have ci_1211 : pI S_633 1211 mo = 0 := by rw [← eS_633, pI_sN]; exact ci_1211
  have ci_1228 : pI S_633 1228 mo = 0 := by rw [← eS_633, pI_sN]; exact ci_1228
  have ci_1238 : pI S_633 1238 mo = 0 := by rw [← eS_633, pI_sN]; exact ci_1238
  have ci_1245 : pI S_633 1245 mo = 0 := by rw [← eS_633, pI_sN]; exact ci_1245
  have ci_1246 : pI S_633 1246 mo = 0 := by rw [← eS_633, pI_sN]; exact ci_1246
  have ci_1251 : pI S_633 1251 mo = 0 := by rw [← eS_633, pI_sN]; exact ci_1251
  have ci_1262 : pI S_633 1262 mo = 0 := by rw [← eS_633, pI_sN]; exact ci_1262
  have hc_426 : pI S_633 1229 mo = (-1) := by rw [← eS_633, pI_sN]; exact hc_426
  have hn_510 : pN S_633 q_507 = 41 := by rw [← eS_633]; exact (pN_sN_ne (At_old ha_509_o hq_632)).trans hn_510
  have hn_604 : pN S_633 q_601 = 4 := by rw [← eS_633]; exact (pN_sN_ne (At_old ha_603_o hq_632)).trans hn_604
  have hn_616 : pN S_633 q_613 = 16 := by rw [← eS_633]; exact (pN_sN_ne (At_old ha_615_o hq_632)).trans hn_616
  have hFA : FaA S_633 mo [(1255, 14, 16), (1254, 14, 16), (1253, 15, 16), (1252, 14, 5), (1248, 14, 4), (1244, 15, 40), (1243, 14, 40), (1242, 14, 40), (1241, 14, 40), (1240, 14, 40), (1239, 14, 41), (1237, 14, 4), (1236, 14, 158400), (1235, 14, 13200), (1227, 13, 400), (1226, 14, 240), (1225, 14, 240), (1224, 14, 240), (1223, 14, 60), (1222, 14, 60), (1221, 14, 60), (1220, 14, 5), (1219, 14, 12), (1218, 14, 7200), (1217, 14, 4), (1216, 14, 4), (1215, 14, 4), (1214, 14, 4), (1213, 14, 4), (1212, 14, 4), (1210, 14, 8), (1209, 14, 600), (1208, 14, 600), (1207, 14, 600), (1206, 14, 10), (1205, 14, 10), (1204, 14, 10), (1203, 14, 10), (1202, 14, 10)] := by rw [← eS_633]; exact FaA_sN hFA hq_632
  have hza_511 : ∀ j, pA S_633 q_507 j = 0 := fun j => by rw [← eS_633]; exact (congrFun (pA_sN_ne (At_old ha_509_o hq_632)) j).trans (hza_511 j)
  have hza_617 : ∀ j, pA S_633 q_613 j = 0 := fun j => by rw [← eS_633]; exact (congrFun (pA_sN_ne (At_old ha_615_o hq_632)) j).trans (hza_617 j)
  have ha_634 : At S_633 q_632 14 := by rw [← eS_633]; exact At_nN _ _ _ _
  have hn_635 : pN S_633 q_632 = 16 := by rw [← eS_633]; exact pN_sN_new
  refine r_putR X hw hat_mo 56 1256 (some q_632) rfl tyX12 (by decide) rfl inn_X12_init_12 tyX12_ok nmX12 (by decide) (X.2.2.2.1 (.fieldLink RX12 134 "SilkMillModel" "wordMany" "[I") (by decide +kernel)) rfl (Or.inr ⟨rfl, hin, rfl⟩) (fun _ => rfl) rfl (fun _ => rfl) rfl (Nat.le_of_ble_eq_true rfl) (st_1256 _ _) dX12_init_367 (fun H locs hw => ?_)
  generalize eS_636 : sR S_633 1256 mo (some q_632) = S_636 at hw
  have hat_mo : At S_636 mo 12 := by rw [← eS_636]; exact At_sR hat_mo
  have ha_509 : At S_636 q_507 14 := by rw [← eS_636]; exact At_sR ha_509
  have ha_603 : At S_636 q_601 14 := by rw [← eS_636]; exact At_sR ha_603
  have ha_615 : At S_636 q_613 15 := by rw [← eS_636]; exact At_sR ha_615
  have ha_634 : At S_636 q_632 14 := by rw [← eS_636]; exact At_sR ha_634
  have hr_513 : pR S_636 1239 mo = some q_507 := by rw [← eS_636]; exact (pR_sR_nf (by decide)).trans hr_513
  have hr_606 : pR S_636 1248 mo = some q_601 := by rw [← eS_636]; exact (pR_sR_nf (by decide)).trans hr_606
  have hr_619 : pR S_636 1253 mo = some q_613 := by rw [← eS_636]; exact (pR_sR_nf (by decide)).trans hr_619
  have ci_1201 : pI S_636 1201 mo = 0 := by rw [← eS_636, pI_sR]; exact ci_1201
  have ci_1211 : pI S_636 1211 mo = 0 := by rw [← eS_636, pI_sR]; exact ci_1211
  have ci_1228 : pI S_636 1228 mo = 0 := by rw [← eS_636, pI_sR]; exact ci_1228
  have ci_1238 : pI S_636 1238 mo = 0 := by rw [← eS_636, pI_sR]; exact ci_1238
  have ci_1245 : pI S_636 1245 mo = 0 := by rw [← eS_636, pI_sR]; exact ci_1245
  have ci_1246 : pI S_636 1246 mo = 0 := by rw [← eS_636, pI_sR]; exact ci_1246
  have ci_1251 : pI S_636 1251 mo = 0 := by rw [← eS_636, pI_sR]; exact ci_1251
  have ci_1262 : pI S_636 1262 mo = 0 := by rw [← eS_636, pI_sR]; exact ci_1262
  have hc_426 : pI S_636 1229 mo = (-1) := by rw [← eS_636, pI_sR]; exact hc_426
  have hn_510 : pN S_636 q_507 = 41 := by rw [← eS_636, pN_sR]; exact hn_510
  have hn_604 : pN S_636 q_601 = 4 := by rw [← eS_636, pN_sR]; exact hn_604
  have hn_616 : pN S_636 q_613 = 16 := by rw [← eS_636, pN_sR]; exact hn_616
  have hn_635 : pN S_636 q_632 = 16 := by rw [← eS_636, pN_sR]; exact hn_635
  have hFA : FaA S_636 mo [(1255, 14, 16), (1254, 14, 16), (1253, 15, 16), (1252, 14, 5), (1248, 14, 4), (1244, 15, 40), (1243, 14, 40), (1242, 14, 40), (1241, 14, 40), (1240, 14, 40), (1239, 14, 41), (1237, 14, 4), (1236, 14, 158400), (1235, 14, 13200), (1227, 13, 400), (1226, 14, 240), (1225, 14, 240), (1224, 14, 240), (1223, 14, 60), (1222, 14, 60), (1221, 14, 60), (1220, 14, 5), (1219, 14, 12), (1218, 14, 7200), (1217, 14, 4), (1216, 14, 4), (1215, 14, 4), (1214, 14, 4), (1213, 14, 4), (1212, 14, 4), (1210, 14, 8), (1209, 14, 600), (1208, 14, 600), (1207, 14, 600), (1206, 14, 10), (1205, 14, 10), (1204, 14, 10), (1203, 14, 10), (1202, 14, 10)] := by rw [← eS_636]; exact FaA_sR hFA (by decide)
  have hza_511 : ∀ j, pA S_636 q_507 j = 0 := by rw [← eS_636, pA_sR]; exact hza_511
  have hza_617 : ∀ j, pA S_636 q_613 j = 0 := by rw [← eS_636, pA_sR]; exact hza_617
  have hr_637 : pR S_636 1256 mo = some q_632 := by rw [← eS_636]; exact pR_sR_same
  have hFA : FaA S_636 mo [(1256, 14, 16), (1255, 14, 16), (1254, 14, 16), (1253, 15, 16), (1252, 14, 5), (1248, 14, 4), (1244, 15, 40), (1243, 14, 40), (1242, 14, 40), (1241, 14, 40), (1240, 14, 40), (1239, 14, 41), (1237, 14, 4), (1236, 14, 158400), (1235, 14, 13200), (1227, 13, 400), (1226, 14, 240), (1225, 14, 240), (1224, 14, 240), (1223, 14, 60), (1222, 14, 60), (1221, 14, 60), (1220, 14, 5), (1219, 14, 12), (1218, 14, 7200), (1217, 14, 4), (1216, 14, 4), (1215, 14, 4), (1214, 14, 4), (1213, 14, 4), (1212, 14, 4), (1210, 14, 8), (1209, 14, 600), (1208, 14, 600), (1207, 14, 600), (1206, 14, 10), (1205, 14, 10), (1204, 14, 10), (1203, 14, 10), (1202, 14, 10)] := FaA_cons ⟨_, hr_637, ha_634, hn_635⟩ hFA
  refine lv_aload_n X.1 X.2.1 dX12_init_370 rfl (lv_at hl 0 rfl) ?_
  refine lv_sipush (v := 128) X.1 X.2.1 dX12_init_371 (by decide) ?_
  have hat_mo_o := hat_mo
  have ha_509_o := ha_509
  have ha_603_o := ha_603
  have ha_615_o := ha_615
  refine r_newI (N := 128) X hw 182445 41 (X.2.2.2.1 (.arrayClass .int) (by decide +kernel)) (by decide) (by decide) (by decide) (Nat.le_of_ble_eq_true rfl) (Nat.le_of_ble_eq_true rfl) (Nat.le_of_ble_eq_true rfl) (Nat.le_of_ble_eq_true rfl) dX12_init_374 (fun q_638 H hq_638 hw => ?_)
  have ne_mo_q_638 : mo ≠ q_638 := At_old hat_mo_o hq_638
  have ne_q_507_q_638 : q_507 ≠ q_638 := At_old ha_509_o hq_638
  have ne_q_601_q_638 : q_601 ≠ q_638 := At_old ha_603_o hq_638
  have ne_q_613_q_638 : q_613 ≠ q_638 := At_old ha_615_o hq_638
  generalize eS_639 : sN S_636 q_638 14 128 = S_639 at hw
  have hat_mo : At S_639 mo 12 := by rw [← eS_639]; exact At_sN hat_mo hq_638
  have ha_509 : At S_639 q_507 14 := by rw [← eS_639]; exact At_sN ha_509 hq_638
  have ha_603 : At S_639 q_601 14 := by rw [← eS_639]; exact At_sN ha_603 hq_638
  have ha_615 : At S_639 q_613 15 := by rw [← eS_639]; exact At_sN ha_615 hq_638
  have hr_513 : pR S_639 1239 mo = some q_507 := by rw [← eS_639, pR_sN]; exact hr_513
  have hr_606 : pR S_639 1248 mo = some q_601 := by rw [← eS_639, pR_sN]; exact hr_606
  have hr_619 : pR S_639 1253 mo = some q_613 := by rw [← eS_639, pR_sN]; exact hr_619
  have ci_1201 : pI S_639 1201 mo = 0 := by rw [← eS_639, pI_sN]; exact ci_1201
  have ci_1211 : pI S_639 1211 mo = 0 := by rw [← eS_639, pI_sN]; exact ci_1211
  have ci_1228 : pI S_639 1228 mo = 0 := by rw [← eS_639, pI_sN]; exact ci_1228
  have ci_1238 : pI S_639 1238 mo = 0 := by rw [← eS_639, pI_sN]; exact ci_1238
  have ci_1245 : pI S_639 1245 mo = 0 := by rw [← eS_639, pI_sN]; exact ci_1245
  have ci_1246 : pI S_639 1246 mo = 0 := by rw [← eS_639, pI_sN]; exact ci_1246
  have ci_1251 : pI S_639 1251 mo = 0 := by rw [← eS_639, pI_sN]; exact ci_1251
  have ci_1262 : pI S_639 1262 mo = 0 := by rw [← eS_639, pI_sN]; exact ci_1262
  have hc_426 : pI S_639 1229 mo = (-1) := by rw [← eS_639, pI_sN]; exact hc_426
  have hn_510 : pN S_639 q_507 = 41 := by rw [← eS_639]; exact (pN_sN_ne (At_old ha_509_o hq_638)).trans hn_510
  have hn_604 : pN S_639 q_601 = 4 := by rw [← eS_639]; exact (pN_sN_ne (At_old ha_603_o hq_638)).trans hn_604
  have hn_616 : pN S_639 q_613 = 16 := by rw [← eS_639]; exact (pN_sN_ne (At_old ha_615_o hq_638)).trans hn_616
  have hFA : FaA S_639 mo [(1256, 14, 16), (1255, 14, 16), (1254, 14, 16), (1253, 15, 16), (1252, 14, 5), (1248, 14, 4), (1244, 15, 40), (1243, 14, 40), (1242, 14, 40), (1241, 14, 40), (1240, 14, 40), (1239, 14, 41), (1237, 14, 4), (1236, 14, 158400), (1235, 14, 13200), (1227, 13, 400), (1226, 14, 240), (1225, 14, 240), (1224, 14, 240), (1223, 14, 60), (1222, 14, 60), (1221, 14, 60), (1220, 14, 5), (1219, 14, 12), (1218, 14, 7200), (1217, 14, 4), (1216, 14, 4), (1215, 14, 4), (1214, 14, 4), (1213, 14, 4), (1212, 14, 4), (1210, 14, 8), (1209, 14, 600), (1208, 14, 600), (1207, 14, 600), (1206, 14, 10), (1205, 14, 10), (1204, 14, 10), (1203, 14, 10), (1202, 14, 10)] := by rw [← eS_639]; exact FaA_sN hFA hq_638
  have hza_511 : ∀ j, pA S_639 q_507 j = 0 := fun j => by rw [← eS_639]; exact (congrFun (pA_sN_ne (At_old ha_509_o hq_638)) j).trans (hza_511 j)
  have hza_617 : ∀ j, pA S_639 q_613 j = 0 := fun j => by rw [← eS_639]; exact (congrFun (pA_sN_ne (At_old ha_615_o hq_638)) j).trans (hza_617 j)
  have ha_640 : At S_639 q_638 14 := by rw [← eS_639]; exact At_nN _ _ _ _
  have hn_641 : pN S_639 q_638 = 128 := by rw [← eS_639]; exact pN_sN_new
  refine r_putR X hw hat_mo 57 1257 (some q_638) rfl tyX12 (by decide) rfl inn_X12_init_12 tyX12_ok nmX12 (by decide) (X.2.2.2.1 (.fieldLink RX12 137 "SilkMillModel" "wordOf" "[I") (by decide +kernel)) rfl (Or.inr ⟨rfl, hin, rfl⟩) (fun _ => rfl) rfl (fun _ => rfl) rfl (Nat.le_of_ble_eq_true rfl) (st_1257 _ _) dX12_init_376 (fun H locs hw => ?_)
  generalize eS_642 : sR S_639 1257 mo (some q_638) = S_642 at hw
  have hat_mo : At S_642 mo 12 := by rw [← eS_642]; exact At_sR hat_mo
  have ha_509 : At S_642 q_507 14 := by rw [← eS_642]; exact At_sR ha_509
  have ha_603 : At S_642 q_601 14 := by rw [← eS_642]; exact At_sR ha_603
  have ha_615 : At S_642 q_613 15 := by rw [← eS_642]; exact At_sR ha_615
  have ha_640 : At S_642 q_638 14 := by rw [← eS_642]; exact At_sR ha_640
  have hr_513 : pR S_642 1239 mo = some q_507 := by rw [← eS_642]; exact (pR_sR_nf (by decide)).trans hr_513
  have hr_606 : pR S_642 1248 mo = some q_601 := by rw [← eS_642]; exact (pR_sR_nf (by decide)).trans hr_606
  have hr_619 : pR S_642 1253 mo = some q_613 := by rw [← eS_642]; exact (pR_sR_nf (by decide)).trans hr_619
  have ci_1201 : pI S_642 1201 mo = 0 := by rw [← eS_642, pI_sR]; exact ci_1201
  have ci_1211 : pI S_642 1211 mo = 0 := by rw [← eS_642, pI_sR]; exact ci_1211
  have ci_1228 : pI S_642 1228 mo = 0 := by rw [← eS_642, pI_sR]; exact ci_1228
  have ci_1238 : pI S_642 1238 mo = 0 := by rw [← eS_642, pI_sR]; exact ci_1238
  have ci_1245 : pI S_642 1245 mo = 0 := by rw [← eS_642, pI_sR]; exact ci_1245
  have ci_1246 : pI S_642 1246 mo = 0 := by rw [← eS_642, pI_sR]; exact ci_1246
  have ci_1251 : pI S_642 1251 mo = 0 := by rw [← eS_642, pI_sR]; exact ci_1251
  have ci_1262 : pI S_642 1262 mo = 0 := by rw [← eS_642, pI_sR]; exact ci_1262
  have hc_426 : pI S_642 1229 mo = (-1) := by rw [← eS_642, pI_sR]; exact hc_426
  have hn_510 : pN S_642 q_507 = 41 := by rw [← eS_642, pN_sR]; exact hn_510
  have hn_604 : pN S_642 q_601 = 4 := by rw [← eS_642, pN_sR]; exact hn_604
  have hn_616 : pN S_642 q_613 = 16 := by rw [← eS_642, pN_sR]; exact hn_616
  have hn_641 : pN S_642 q_638 = 128 := by rw [← eS_642, pN_sR]; exact hn_641
  have hFA : FaA S_642 mo [(1256, 14, 16), (1255, 14, 16), (1254, 14, 16), (1253, 15, 16), (1252, 14, 5), (1248, 14, 4), (1244, 15, 40), (1243, 14, 40), (1242, 14, 40), (1241, 14, 40), (1240, 14, 40), (1239, 14, 41), (1237, 14, 4), (1236, 14, 158400), (1235, 14, 13200), (1227, 13, 400), (1226, 14, 240), (1225, 14, 240), (1224, 14, 240), (1223, 14, 60), (1222, 14, 60), (1221, 14, 60), (1220, 14, 5), (1219, 14, 12), (1218, 14, 7200), (1217, 14, 4), (1216, 14, 4), (1215, 14, 4), (1214, 14, 4), (1213, 14, 4), (1212, 14, 4), (1210, 14, 8), (1209, 14, 600), (1208, 14, 600), (1207, 14, 600), (1206, 14, 10), (1205, 14, 10), (1204, 14, 10), (1203, 14, 10), (1202, 14, 10)] := by rw [← eS_642]; exact FaA_sR hFA (by decide)
  have hza_511 : ∀ j, pA S_642 q_507 j = 0 := by rw [← eS_642, pA_sR]; exact hza_511
  have hza_617 : ∀ j, pA S_642 q_613 j = 0 := by rw [← eS_642, pA_sR]; exact hza_617
  have hr_643 : pR S_642 1257 mo = some q_638 := by rw [← eS_642]; exact pR_sR_same
  have hFA : FaA S_642 mo [(1257, 14, 128), (1256, 14, 16), (1255, 14, 16), (1254, 14, 16), (1253, 15, 16), (1252, 14, 5), (1248, 14, 4), (1244, 15, 40), (1243, 14, 40), (1242, 14, 40), (1241, 14, 40), (1240, 14, 40), (1239, 14, 41), (1237, 14, 4), (1236, 14, 158400), (1235, 14, 13200), (1227, 13, 400), (1226, 14, 240), (1225, 14, 240), (1224, 14, 240), (1223, 14, 60), (1222, 14, 60), (1221, 14, 60), (1220, 14, 5), (1219, 14, 12), (1218, 14, 7200), (1217, 14, 4), (1216, 14, 4), (1215, 14, 4), (1214, 14, 4), (1213, 14, 4), (1212, 14, 4), (1210, 14, 8), (1209, 14, 600), (1208, 14, 600), (1207, 14, 600), (1206, 14, 10), (1205, 14, 10), (1204, 14, 10), (1203, 14, 10), (1202, 14, 10)] := FaA_cons ⟨_, hr_643, ha_640, hn_641⟩ hFA
  exact kk q_507 q_601 q_613 _ _ _ _ hw hl hat_mo ha_509 ha_603 ha_615 hr_513 hr_606 hr_619 ci_1201 ci_1211 ci_1228 ci_1238 ci_1245 ci_1246 ci_1251 ci_1262 hc_426 hn_510 hn_604 hn_616 hza_511 hza_617 hFA ne_mo_q_507 ne_mo_q_601 ne_q_507_q_601 ne_mo_q_613 ne_q_507_q_613 ne_q_601_q_613
set_option maxHeartbeats 4000000 in
set_option maxRecDepth 100000 in
theorem sgM_6 {p : Program} {l : Launch} {e : Env} {s : State} {m : MethodId} {below : List Frame} {meth : Method} {c : Code} {Q : State → Prop} (G : va_G) (cy : Nat → ClassId) (S0 : PS) (mo : Nat) (X : Cx p c cX12_init 2 s [.ref mo].toArray wsX12_init RX12 m G cy (AS S0 s.heap.size)) (hin : meth.name = "<init>") (q_507 : Nat) (q_601 : Nat) (q_613 : Nat) (S : PS) (H : Heap) (locs : List Loc) (ls : Array Slot) (hw : Wd G cy (AS S0 s.heap.size) s.heap S H locs) (hl : lv_has ls 2 [(0, .ref mo)]) (hat_mo : At S mo 12) (ha_509 : At S q_507 14) (ha_603 : At S q_601 14) (ha_615 : At S q_613 15) (hr_513 : pR S 1239 mo = some q_507) (hr_606 : pR S 1248 mo = some q_601) (hr_619 : pR S 1253 mo = some q_613) (ci_1201 : pI S 1201 mo = 0) (ci_1211 : pI S 1211 mo = 0) (ci_1228 : pI S 1228 mo = 0) (ci_1238 : pI S 1238 mo = 0) (ci_1245 : pI S 1245 mo = 0) (ci_1246 : pI S 1246 mo = 0) (ci_1251 : pI S 1251 mo = 0) (ci_1262 : pI S 1262 mo = 0) (hc_426 : pI S 1229 mo = (-1)) (hn_510 : pN S q_507 = 41) (hn_604 : pN S q_601 = 4) (hn_616 : pN S q_613 = 16) (hza_511 : ∀ j, pA S q_507 j = 0) (hza_617 : ∀ j, pA S q_613 j = 0) (hFA : FaA S mo [(1257, 14, 128), (1256, 14, 16), (1255, 14, 16), (1254, 14, 16), (1253, 15, 16), (1252, 14, 5), (1248, 14, 4), (1244, 15, 40), (1243, 14, 40), (1242, 14, 40), (1241, 14, 40), (1240, 14, 40), (1239, 14, 41), (1237, 14, 4), (1236, 14, 158400), (1235, 14, 13200), (1227, 13, 400), (1226, 14, 240), (1225, 14, 240), (1224, 14, 240), (1223, 14, 60), (1222, 14, 60), (1221, 14, 60), (1220, 14, 5), (1219, 14, 12), (1218, 14, 7200), (1217, 14, 4), (1216, 14, 4), (1215, 14, 4), (1214, 14, 4), (1213, 14, 4), (1212, 14, 4), (1210, 14, 8), (1209, 14, 600), (1208, 14, 600), (1207, 14, 600), (1206, 14, 10), (1205, 14, 10), (1204, 14, 10), (1203, 14, 10), (1202, 14, 10)]) (ne_mo_q_507 : mo ≠ q_507) (ne_mo_q_601 : mo ≠ q_601) (ne_q_507_q_601 : q_507 ≠ q_601) (ne_mo_q_613 : mo ≠ q_613) (ne_q_507_q_613 : q_507 ≠ q_613) (ne_q_601_q_613 : q_601 ≠ q_613) (kk : ∀ (q_507 : Nat) (q_601 : Nat) (q_613 : Nat) (S : PS) (H : Heap) (locs : List Loc) (ls : Array Slot), Wd G cy (AS S0 s.heap.size) s.heap S H locs → lv_has ls 2 [(0, .ref mo)] → At S mo 12 → At S q_507 14 → At S q_601 14 → At S q_613 15 → pR S 1239 mo = some q_507 → pR S 1248 mo = some q_601 → pR S 1253 mo = some q_613 → pI S 1201 mo = 0 → pI S 1211 mo = 0 → pI S 1228 mo = 0 → pI S 1238 mo = 0 → pI S 1245 mo = 0 → pI S 1246 mo = 0 → pI S 1251 mo = 0 → pI S 1262 mo = 0 → pI S 1229 mo = (-1) → pN S q_507 = 41 → pN S q_601 = 4 → pN S q_613 = 16 → (∀ j, pA S q_507 j = 0) → (∀ j, pA S q_613 j = 0) → FaA S mo [(1265, 14, 40), (1264, 14, 40), (1263, 14, 40), (1261, 15, 40), (1260, 14, 14), (1259, 14, 14), (1258, 14, 14), (1257, 14, 128), (1256, 14, 16), (1255, 14, 16), (1254, 14, 16), (1253, 15, 16), (1252, 14, 5), (1248, 14, 4), (1244, 15, 40), (1243, 14, 40), (1242, 14, 40), (1241, 14, 40), (1240, 14, 40), (1239, 14, 41), (1237, 14, 4), (1236, 14, 158400), (1235, 14, 13200), (1227, 13, 400), (1226, 14, 240), (1225, 14, 240), (1224, 14, 240), (1223, 14, 60), (1222, 14, 60), (1221, 14, 60), (1220, 14, 5), (1219, 14, 12), (1218, 14, 7200), (1217, 14, 4), (1216, 14, 4), (1215, 14, 4), (1214, 14, 4), (1213, 14, 4), (1212, 14, 4), (1210, 14, 8), (1209, 14, 600), (1208, 14, 600), (1207, 14, 600), (1206, 14, 10), (1205, 14, 10), (1204, 14, 10), (1203, 14, 10), (1202, 14, 10)] → mo ≠ q_507 → mo ≠ q_601 → q_507 ≠ q_601 → mo ≠ q_613 → q_507 ≠ q_613 → q_601 ≠ q_613 → W p l e ({ frames := 2, cells := 70, slots := 190000, locals := 80 }) s m [.ref mo].toArray below meth c H locs 48 182647 Q (F0 m 435 ls [])) : W p l e ({ frames := 2, cells := 70, slots := 190000, locals := 80 }) s m [.ref mo].toArray below meth c H locs 41 182445 Q (F0 m 379 ls []) := by
  refine lv_aload_n X.1 X.2.1 dX12_init_379 rfl (lv_at hl 0 rfl) ?_
  refine lv_bipush (v := 14) X.1 X.2.1 dX12_init_380 (by decide) ?_
  have hat_mo_o := hat_mo
  have ha_509_o := ha_509
  have ha_603_o := ha_603
  have ha_615_o := ha_615
  refine r_newI (N := 14) X hw 182459 42 (X.2.2.2.1 (.arrayClass .int) (by decide +kernel)) (by decide) (by decide) (by decide) (Nat.le_of_ble_eq_true rfl) (Nat.le_of_ble_eq_true rfl) (Nat.le_of_ble_eq_true rfl) (Nat.le_of_ble_eq_true rfl) dX12_init_382 (fun q_701 H hq_701 hw => ?_)
  have ne_mo_q_701 : mo ≠ q_701 := At_old hat_mo_o hq_701
  have ne_q_507_q_701 : q_507 ≠ q_701 := At_old ha_509_o hq_701
  have ne_q_601_q_701 : q_601 ≠ q_701 := At_old ha_603_o hq_701
  have ne_q_613_q_701 : q_613 ≠ q_701 := At_old ha_615_o hq_701
  generalize eS_702 : sN S q_701 14 14 = S_702 at hw
  have hat_mo : At S_702 mo 12 := by rw [← eS_702]; exact At_sN hat_mo hq_701
  have ha_509 : At S_702 q_507 14 := by rw [← eS_702]; exact At_sN ha_509 hq_701
  have ha_603 : At S_702 q_601 14 := by rw [← eS_702]; exact At_sN ha_603 hq_701
  have ha_615 : At S_702 q_613 15 := by rw [← eS_702]; exact At_sN ha_615 hq_701
  have hr_513 : pR S_702 1239 mo = some q_507 := by rw [← eS_702, pR_sN]; exact hr_513
  have hr_606 : pR S_702 1248 mo = some q_601 := by rw [← eS_702, pR_sN]; exact hr_606
  have hr_619 : pR S_702 1253 mo = some q_613 := by rw [← eS_702, pR_sN]; exact hr_619
  have ci_1201 : pI S_702 1201 mo = 0 := by rw [← eS_702, pI_sN]; exact ci_1201
  have ci_1211 : pI S_702 1211 mo = 0 := by rw [← eS_702, pI_sN]; exact ci_1211
  have ci_1228 : pI S_702 1228 mo = 0 := by rw [← eS_702, pI_sN]; exact ci_1228
  have ci_1238 : pI S_702 1238 mo = 0 := by rw [← eS_702, pI_sN]; exact ci_1238
  have ci_1245 : pI S_702 1245 mo = 0 := by rw [← eS_702, pI_sN]; exact ci_1245
  have ci_1246 : pI S_702 1246 mo = 0 := by rw [← eS_702, pI_sN]; exact ci_1246
  have ci_1251 : pI S_702 1251 mo = 0 := by rw [← eS_702, pI_sN]; exact ci_1251
  have ci_1262 : pI S_702 1262 mo = 0 := by rw [← eS_702, pI_sN]; exact ci_1262
  have hc_426 : pI S_702 1229 mo = (-1) := by rw [← eS_702, pI_sN]; exact hc_426
  have hn_510 : pN S_702 q_507 = 41 := by rw [← eS_702]; exact (pN_sN_ne (At_old ha_509_o hq_701)).trans hn_510
  have hn_604 : pN S_702 q_601 = 4 := by rw [← eS_702]; exact (pN_sN_ne (At_old ha_603_o hq_701)).trans hn_604
  have hn_616 : pN S_702 q_613 = 16 := by rw [← eS_702]; exact (pN_sN_ne (At_old ha_615_o hq_701)).trans hn_616
  have hFA : FaA S_702 mo [(1257, 14, 128), (1256, 14, 16), (1255, 14, 16), (1254, 14, 16), (1253, 15, 16), (1252, 14, 5), (1248, 14, 4), (1244, 15, 40), (1243, 14, 40), (1242, 14, 40), (1241, 14, 40), (1240, 14, 40), (1239, 14, 41), (1237, 14, 4), (1236, 14, 158400), (1235, 14, 13200), (1227, 13, 400), (1226, 14, 240), (1225, 14, 240), (1224, 14, 240), (1223, 14, 60), (1222, 14, 60), (1221, 14, 60), (1220, 14, 5), (1219, 14, 12), (1218, 14, 7200), (1217, 14, 4), (1216, 14, 4), (1215, 14, 4), (1214, 14, 4), (1213, 14, 4), (1212, 14, 4), (1210, 14, 8), (1209, 14, 600), (1208, 14, 600), (1207, 14, 600), (1206, 14, 10), (1205, 14, 10), (1204, 14, 10), (1203, 14, 10), (1202, 14, 10)] := by rw [← eS_702]; exact FaA_sN hFA hq_701
  have hza_511 : ∀ j, pA S_702 q_507 j = 0 := fun j => by rw [← eS_702]; exact (congrFun (pA_sN_ne (At_old ha_509_o hq_701)) j).trans (hza_511 j)
  have hza_617 : ∀ j, pA S_702 q_613 j = 0 := fun j => by rw [← eS_702]; exact (congrFun (pA_sN_ne (At_old ha_615_o hq_701)) j).trans (hza_617 j)
  have ha_703 : At S_702 q_701 14 := by rw [← eS_702]; exact At_nN _ _ _ _
  have hn_704 : pN S_702 q_701 = 14 := by rw [← eS_702]; exact pN_sN_new
  refine r_putR X hw hat_mo 58 1258 (some q_701) rfl tyX12 (by decide) rfl inn_X12_init_12 tyX12_ok nmX12 (by decide) (X.2.2.2.1 (.fieldLink RX12 140 "SilkMillModel" "asked" "[I") (by decide +kernel)) rfl (Or.inr ⟨rfl, hin, rfl⟩) (fun _ => rfl) rfl (fun _ => rfl) rfl (Nat.le_of_ble_eq_true rfl) (st_1258 _ _) dX12_init_384 (fun H locs hw => ?_)
  generalize eS_705 : sR S_702 1258 mo (some q_701) = S_705 at hw
  have hat_mo : At S_705 mo 12 := by rw [← eS_705]; exact At_sR hat_mo
  have ha_509 : At S_705 q_507 14 := by rw [← eS_705]; exact At_sR ha_509
  have ha_603 : At S_705 q_601 14 := by rw [← eS_705]; exact At_sR ha_603
  have ha_615 : At S_705 q_613 15 := by rw [← eS_705]; exact At_sR ha_615
  have ha_703 : At S_705 q_701 14 := by rw [← eS_705]; exact At_sR ha_703
  have hr_513 : pR S_705 1239 mo = some q_507 := by rw [← eS_705]; exact (pR_sR_nf (by decide)).trans hr_513
  have hr_606 : pR S_705 1248 mo = some q_601 := by rw [← eS_705]; exact (pR_sR_nf (by decide)).trans hr_606
  have hr_619 : pR S_705 1253 mo = some q_613 := by rw [← eS_705]; exact (pR_sR_nf (by decide)).trans hr_619
  have ci_1201 : pI S_705 1201 mo = 0 := by rw [← eS_705, pI_sR]; exact ci_1201
  have ci_1211 : pI S_705 1211 mo = 0 := by rw [← eS_705, pI_sR]; exact ci_1211
  have ci_1228 : pI S_705 1228 mo = 0 := by rw [← eS_705, pI_sR]; exact ci_1228
  have ci_1238 : pI S_705 1238 mo = 0 := by rw [← eS_705, pI_sR]; exact ci_1238
  have ci_1245 : pI S_705 1245 mo = 0 := by rw [← eS_705, pI_sR]; exact ci_1245
  have ci_1246 : pI S_705 1246 mo = 0 := by rw [← eS_705, pI_sR]; exact ci_1246
  have ci_1251 : pI S_705 1251 mo = 0 := by rw [← eS_705, pI_sR]; exact ci_1251
  have ci_1262 : pI S_705 1262 mo = 0 := by rw [← eS_705, pI_sR]; exact ci_1262
  have hc_426 : pI S_705 1229 mo = (-1) := by rw [← eS_705, pI_sR]; exact hc_426
  have hn_510 : pN S_705 q_507 = 41 := by rw [← eS_705, pN_sR]; exact hn_510
  have hn_604 : pN S_705 q_601 = 4 := by rw [← eS_705, pN_sR]; exact hn_604
  have hn_616 : pN S_705 q_613 = 16 := by rw [← eS_705, pN_sR]; exact hn_616
  have hn_704 : pN S_705 q_701 = 14 := by rw [← eS_705, pN_sR]; exact hn_704
  have hFA : FaA S_705 mo [(1257, 14, 128), (1256, 14, 16), (1255, 14, 16), (1254, 14, 16), (1253, 15, 16), (1252, 14, 5), (1248, 14, 4), (1244, 15, 40), (1243, 14, 40), (1242, 14, 40), (1241, 14, 40), (1240, 14, 40), (1239, 14, 41), (1237, 14, 4), (1236, 14, 158400), (1235, 14, 13200), (1227, 13, 400), (1226, 14, 240), (1225, 14, 240), (1224, 14, 240), (1223, 14, 60), (1222, 14, 60), (1221, 14, 60), (1220, 14, 5), (1219, 14, 12), (1218, 14, 7200), (1217, 14, 4), (1216, 14, 4), (1215, 14, 4), (1214, 14, 4), (1213, 14, 4), (1212, 14, 4), (1210, 14, 8), (1209, 14, 600), (1208, 14, 600), (1207, 14, 600), (1206, 14, 10), (1205, 14, 10), (1204, 14, 10), (1203, 14, 10), (1202, 14, 10)] := by rw [← eS_705]; exact FaA_sR hFA (by decide)
  have hza_511 : ∀ j, pA S_705 q_507 j = 0 := by rw [← eS_705, pA_sR]; exact hza_511
  have hza_617 : ∀ j, pA S_705 q_613 j = 0 := by rw [← eS_705, pA_sR]; exact hza_617
  have hr_706 : pR S_705 1258 mo = some q_701 := by rw [← eS_705]; exact pR_sR_same
  have hFA : FaA S_705 mo [(1258, 14, 14), (1257, 14, 128), (1256, 14, 16), (1255, 14, 16), (1254, 14, 16), (1253, 15, 16), (1252, 14, 5), (1248, 14, 4), (1244, 15, 40), (1243, 14, 40), (1242, 14, 40), (1241, 14, 40), (1240, 14, 40), (1239, 14, 41), (1237, 14, 4), (1236, 14, 158400), (1235, 14, 13200), (1227, 13, 400), (1226, 14, 240), (1225, 14, 240), (1224, 14, 240), (1223, 14, 60), (1222, 14, 60), (1221, 14, 60), (1220, 14, 5), (1219, 14, 12), (1218, 14, 7200), (1217, 14, 4), (1216, 14, 4), (1215, 14, 4), (1214, 14, 4), (1213, 14, 4), (1212, 14, 4), (1210, 14, 8), (1209, 14, 600), (1208, 14, 600), (1207, 14, 600), (1206, 14, 10), (1205, 14, 10), (1204, 14, 10), (1203, 14, 10), (1202, 14, 10)] := FaA_cons ⟨_, hr_706, ha_703, hn_704⟩ hFA
  refine lv_aload_n X.1 X.2.1 dX12_init_387 rfl (lv_at hl 0 rfl) ?_
  refine lv_bipush (v := 14) X.1 X.2.1 dX12_init_388 (by decide) ?_
  have hat_mo_o := hat_mo
  have ha_509_o := ha_509
  have ha_603_o := ha_603
  have ha_615_o := ha_615
  refine r_newI (N := 14) X hw 182473 43 (X.2.2.2.1 (.arrayClass .int) (by decide +kernel)) (by decide) (by decide) (by decide) (Nat.le_of_ble_eq_true rfl) (Nat.le_of_ble_eq_true rfl) (Nat.le_of_ble_eq_true rfl) (Nat.le_of_ble_eq_true rfl) dX12_init_390 (fun q_707 H hq_707 hw => ?_)
  have ne_mo_q_707 : mo ≠ q_707 := At_old hat_mo_o hq_707
  have ne_q_507_q_707 : q_507 ≠ q_707 := At_old ha_509_o hq_707
  have ne_q_601_q_707 : q_601 ≠ q_707 := At_old ha_603_o hq_707
  have ne_q_613_q_707 : q_613 ≠ q_707 := At_old ha_615_o hq_707
  generalize eS_708 : sN S_705 q_707 14 14 = S_708 at hw
  have hat_mo : At S_708 mo 12 := by rw [← eS_708]; exact At_sN hat_mo hq_707
  have ha_509 : At S_708 q_507 14 := by rw [← eS_708]; exact At_sN ha_509 hq_707
  have ha_603 : At S_708 q_601 14 := by rw [← eS_708]; exact At_sN ha_603 hq_707
  have ha_615 : At S_708 q_613 15 := by rw [← eS_708]; exact At_sN ha_615 hq_707
  have hr_513 : pR S_708 1239 mo = some q_507 := by rw [← eS_708, pR_sN]; exact hr_513
  have hr_606 : pR S_708 1248 mo = some q_601 := by rw [← eS_708, pR_sN]; exact hr_606
  have hr_619 : pR S_708 1253 mo = some q_613 := by rw [← eS_708, pR_sN]; exact hr_619
  have ci_1201 : pI S_708 1201 mo = 0 := by rw [← eS_708, pI_sN]; exact ci_1201
  have ci_1211 : pI S_708 1211 mo = 0 := by rw [← eS_708, pI_sN]; exact ci_1211
  have ci_1228 : pI S_708 1228 mo = 0 := by rw [← eS_708, pI_sN]; exact ci_1228
  have ci_1238 : pI S_708 1238 mo = 0 := by rw [← eS_708, pI_sN]; exact ci_1238
  have ci_1245 : pI S_708 1245 mo = 0 := by rw [← eS_708, pI_sN]; exact ci_1245
  have ci_1246 : pI S_708 1246 mo = 0 := by rw [← eS_708, pI_sN]; exact ci_1246
  have ci_1251 : pI S_708 1251 mo = 0 := by rw [← eS_708, pI_sN]; exact ci_1251
  have ci_1262 : pI S_708 1262 mo = 0 := by rw [← eS_708, pI_sN]; exact ci_1262
  have hc_426 : pI S_708 1229 mo = (-1) := by rw [← eS_708, pI_sN]; exact hc_426
  have hn_510 : pN S_708 q_507 = 41 := by rw [← eS_708]; exact (pN_sN_ne (At_old ha_509_o hq_707)).trans hn_510
  have hn_604 : pN S_708 q_601 = 4 := by rw [← eS_708]; exact (pN_sN_ne (At_old ha_603_o hq_707)).trans hn_604
  have hn_616 : pN S_708 q_613 = 16 := by rw [← eS_708]; exact (pN_sN_ne (At_old ha_615_o hq_707)).trans hn_616
  have hFA : FaA S_708 mo [(1258, 14, 14), (1257, 14, 128), (1256, 14, 16), (1255, 14, 16), (1254, 14, 16), (1253, 15, 16), (1252, 14, 5), (1248, 14, 4), (1244, 15, 40), (1243, 14, 40), (1242, 14, 40), (1241, 14, 40), (1240, 14, 40), (1239, 14, 41), (1237, 14, 4), (1236, 14, 158400), (1235, 14, 13200), (1227, 13, 400), (1226, 14, 240), (1225, 14, 240), (1224, 14, 240), (1223, 14, 60), (1222, 14, 60), (1221, 14, 60), (1220, 14, 5), (1219, 14, 12), (1218, 14, 7200), (1217, 14, 4), (1216, 14, 4), (1215, 14, 4), (1214, 14, 4), (1213, 14, 4), (1212, 14, 4), (1210, 14, 8), (1209, 14, 600), (1208, 14, 600), (1207, 14, 600), (1206, 14, 10), (1205, 14, 10), (1204, 14, 10), (1203, 14, 10), (1202, 14, 10)] := by rw [← eS_708]; exact FaA_sN hFA hq_707
  have hza_511 : ∀ j, pA S_708 q_507 j = 0 := fun j => by rw [← eS_708]; exact (congrFun (pA_sN_ne (At_old ha_509_o hq_707)) j).trans (hza_511 j)
  have hza_617 : ∀ j, pA S_708 q_613 j = 0 := fun j => by rw [← eS_708]; exact (congrFun (pA_sN_ne (At_old ha_615_o hq_707)) j).trans (hza_617 j)
  have ha_709 : At S_708 q_707 14 := by rw [← eS_708]; exact At_nN _ _ _ _
  have hn_710 : pN S_708 q_707 = 14 := by rw [← eS_708]; exact pN_sN_new
  refine r_putR X hw hat_mo 59 1259 (some q_707) rfl tyX12 (by decide) rfl inn_X12_init_12 tyX12_ok nmX12 (by decide) (X.2.2.2.1 (.fieldLink RX12 143 "SilkMillModel" "askedWeight" "[I") (by decide +kernel)) rfl (Or.inr ⟨rfl, hin, rfl⟩) (fun _ => rfl) rfl (fun _ => rfl) rfl (Nat.le_of_ble_eq_true rfl) (st_1259 _ _) dX12_init_392 (fun H locs hw => ?_)
  generalize eS_711 : sR S_708 1259 mo (some q_707) = S_711 at hw
  have hat_mo : At S_711 mo 12 := by rw [← eS_711]; exact At_sR hat_mo
  have ha_509 : At S_711 q_507 14 := by rw [← eS_711]; exact At_sR ha_509
  have ha_603 : At S_711 q_601 14 := by rw [← eS_711]; exact At_sR ha_603
  have ha_615 : At S_711 q_613 15 := by rw [← eS_711]; exact At_sR ha_615
  have ha_709 : At S_711 q_707 14 := by rw [← eS_711]; exact At_sR ha_709
  have hr_513 : pR S_711 1239 mo = some q_507 := by rw [← eS_711]; exact (pR_sR_nf (by decide)).trans hr_513
  have hr_606 : pR S_711 1248 mo = some q_601 := by rw [← eS_711]; exact (pR_sR_nf (by decide)).trans hr_606
  have hr_619 : pR S_711 1253 mo = some q_613 := by rw [← eS_711]; exact (pR_sR_nf (by decide)).trans hr_619
  have ci_1201 : pI S_711 1201 mo = 0 := by rw [← eS_711, pI_sR]; exact ci_1201
  have ci_1211 : pI S_711 1211 mo = 0 := by rw [← eS_711, pI_sR]; exact ci_1211
  have ci_1228 : pI S_711 1228 mo = 0 := by rw [← eS_711, pI_sR]; exact ci_1228
  have ci_1238 : pI S_711 1238 mo = 0 := by rw [← eS_711, pI_sR]; exact ci_1238
  have ci_1245 : pI S_711 1245 mo = 0 := by rw [← eS_711, pI_sR]; exact ci_1245
  have ci_1246 : pI S_711 1246 mo = 0 := by rw [← eS_711, pI_sR]; exact ci_1246
  have ci_1251 : pI S_711 1251 mo = 0 := by rw [← eS_711, pI_sR]; exact ci_1251
  have ci_1262 : pI S_711 1262 mo = 0 := by rw [← eS_711, pI_sR]; exact ci_1262
  have hc_426 : pI S_711 1229 mo = (-1) := by rw [← eS_711, pI_sR]; exact hc_426
  have hn_510 : pN S_711 q_507 = 41 := by rw [← eS_711, pN_sR]; exact hn_510
  have hn_604 : pN S_711 q_601 = 4 := by rw [← eS_711, pN_sR]; exact hn_604
  have hn_616 : pN S_711 q_613 = 16 := by rw [← eS_711, pN_sR]; exact hn_616
  have hn_710 : pN S_711 q_707 = 14 := by rw [← eS_711, pN_sR]; exact hn_710
  have hFA : FaA S_711 mo [(1258, 14, 14), (1257, 14, 128), (1256, 14, 16), (1255, 14, 16), (1254, 14, 16), (1253, 15, 16), (1252, 14, 5), (1248, 14, 4), (1244, 15, 40), (1243, 14, 40), (1242, 14, 40), (1241, 14, 40), (1240, 14, 40), (1239, 14, 41), (1237, 14, 4), (1236, 14, 158400), (1235, 14, 13200), (1227, 13, 400), (1226, 14, 240), (1225, 14, 240), (1224, 14, 240), (1223, 14, 60), (1222, 14, 60), (1221, 14, 60), (1220, 14, 5), (1219, 14, 12), (1218, 14, 7200), (1217, 14, 4), (1216, 14, 4), (1215, 14, 4), (1214, 14, 4), (1213, 14, 4), (1212, 14, 4), (1210, 14, 8), (1209, 14, 600), (1208, 14, 600), (1207, 14, 600), (1206, 14, 10), (1205, 14, 10), (1204, 14, 10), (1203, 14, 10), (1202, 14, 10)] := by rw [← eS_711]; exact FaA_sR hFA (by decide)
  have hza_511 : ∀ j, pA S_711 q_507 j = 0 := by rw [← eS_711, pA_sR]; exact hza_511
  have hza_617 : ∀ j, pA S_711 q_613 j = 0 := by rw [← eS_711, pA_sR]; exact hza_617
  have hr_712 : pR S_711 1259 mo = some q_707 := by rw [← eS_711]; exact pR_sR_same
  have hFA : FaA S_711 mo [(1259, 14, 14), (1258, 14, 14), (1257, 14, 128), (1256, 14, 16), (1255, 14, 16), (1254, 14, 16), (1253, 15, 16), (1252, 14, 5), (1248, 14, 4), (1244, 15, 40), (1243, 14, 40), (1242, 14, 40), (1241, 14, 40), (1240, 14, 40), (1239, 14, 41), (1237, 14, 4), (1236, 14, 158400), (1235, 14, 13200), (1227, 13, 400), (1226, 14, 240), (1225, 14, 240), (1224, 14, 240), (1223, 14, 60), (1222, 14, 60), (1221, 14, 60), (1220, 14, 5), (1219, 14, 12), (1218, 14, 7200), (1217, 14, 4), (1216, 14, 4), (1215, 14, 4), (1214, 14, 4), (1213, 14, 4), (1212, 14, 4), (1210, 14, 8), (1209, 14, 600), (1208, 14, 600), (1207, 14, 600), (1206, 14, 10), (1205, 14, 10), (1204, 14, 10), (1203, 14, 10), (1202, 14, 10)] := FaA_cons ⟨_, hr_712, ha_709, hn_710⟩ hFA
  refine lv_aload_n X.1 X.2.1 dX12_init_395 rfl (lv_at hl 0 rfl) ?_
  refine lv_bipush (v := 14) X.1 X.2.1 dX12_init_396 (by decide) ?_
  have hat_mo_o := hat_mo
  have ha_509_o := ha_509
  have ha_603_o := ha_603
  have ha_615_o := ha_615
  refine r_newI (N := 14) X hw 182487 44 (X.2.2.2.1 (.arrayClass .int) (by decide +kernel)) (by decide) (by decide) (by decide) (Nat.le_of_ble_eq_true rfl) (Nat.le_of_ble_eq_true rfl) (Nat.le_of_ble_eq_true rfl) (Nat.le_of_ble_eq_true rfl) dX12_init_398 (fun q_713 H hq_713 hw => ?_)
  have ne_mo_q_713 : mo ≠ q_713 := At_old hat_mo_o hq_713
  have ne_q_507_q_713 : q_507 ≠ q_713 := At_old ha_509_o hq_713
  have ne_q_601_q_713 : q_601 ≠ q_713 := At_old ha_603_o hq_713
  have ne_q_613_q_713 : q_613 ≠ q_713 := At_old ha_615_o hq_713
  generalize eS_714 : sN S_711 q_713 14 14 = S_714 at hw
  have hat_mo : At S_714 mo 12 := by rw [← eS_714]; exact At_sN hat_mo hq_713
  have ha_509 : At S_714 q_507 14 := by rw [← eS_714]; exact At_sN ha_509 hq_713
  have ha_603 : At S_714 q_601 14 := by rw [← eS_714]; exact At_sN ha_603 hq_713
  have ha_615 : At S_714 q_613 15 := by rw [← eS_714]; exact At_sN ha_615 hq_713
  have hr_513 : pR S_714 1239 mo = some q_507 := by rw [← eS_714, pR_sN]; exact hr_513
  have hr_606 : pR S_714 1248 mo = some q_601 := by rw [← eS_714, pR_sN]; exact hr_606
  have hr_619 : pR S_714 1253 mo = some q_613 := by rw [← eS_714, pR_sN]; exact hr_619
  have ci_1201 : pI S_714 1201 mo = 0 := by rw [← eS_714, pI_sN]; exact ci_1201
  have ci_1211 : pI S_714 1211 mo = 0 := by rw [← eS_714, pI_sN]; exact ci_1211
  have ci_1228 : pI S_714 1228 mo = 0 := by rw [← eS_714, pI_sN]; exact ci_1228
  have ci_1238 : pI S_714 1238 mo = 0 := by rw [← eS_714, pI_sN]; exact ci_1238
  have ci_1245 : pI S_714 1245 mo = 0 := by rw [← eS_714, pI_sN]; exact ci_1245
  have ci_1246 : pI S_714 1246 mo = 0 := by rw [← eS_714, pI_sN]; exact ci_1246
  have ci_1251 : pI S_714 1251 mo = 0 := by rw [← eS_714, pI_sN]; exact ci_1251
  have ci_1262 : pI S_714 1262 mo = 0 := by rw [← eS_714, pI_sN]; exact ci_1262
  have hc_426 : pI S_714 1229 mo = (-1) := by rw [← eS_714, pI_sN]; exact hc_426
  have hn_510 : pN S_714 q_507 = 41 := by rw [← eS_714]; exact (pN_sN_ne (At_old ha_509_o hq_713)).trans hn_510
  have hn_604 : pN S_714 q_601 = 4 := by rw [← eS_714]; exact (pN_sN_ne (At_old ha_603_o hq_713)).trans hn_604
  have hn_616 : pN S_714 q_613 = 16 := by rw [← eS_714]; exact (pN_sN_ne (At_old ha_615_o hq_713)).trans hn_616
  have hFA : FaA S_714 mo [(1259, 14, 14), (1258, 14, 14), (1257, 14, 128), (1256, 14, 16), (1255, 14, 16), (1254, 14, 16), (1253, 15, 16), (1252, 14, 5), (1248, 14, 4), (1244, 15, 40), (1243, 14, 40), (1242, 14, 40), (1241, 14, 40), (1240, 14, 40), (1239, 14, 41), (1237, 14, 4), (1236, 14, 158400), (1235, 14, 13200), (1227, 13, 400), (1226, 14, 240), (1225, 14, 240), (1224, 14, 240), (1223, 14, 60), (1222, 14, 60), (1221, 14, 60), (1220, 14, 5), (1219, 14, 12), (1218, 14, 7200), (1217, 14, 4), (1216, 14, 4), (1215, 14, 4), (1214, 14, 4), (1213, 14, 4), (1212, 14, 4), (1210, 14, 8), (1209, 14, 600), (1208, 14, 600), (1207, 14, 600), (1206, 14, 10), (1205, 14, 10), (1204, 14, 10), (1203, 14, 10), (1202, 14, 10)] := by rw [← eS_714]; exact FaA_sN hFA hq_713
  have hza_511 : ∀ j, pA S_714 q_507 j = 0 := fun j => by rw [← eS_714]; exact (congrFun (pA_sN_ne (At_old ha_509_o hq_713)) j).trans (hza_511 j)
  have hza_617 : ∀ j, pA S_714 q_613 j = 0 := fun j => by rw [← eS_714]; exact (congrFun (pA_sN_ne (At_old ha_615_o hq_713)) j).trans (hza_617 j)
  have ha_715 : At S_714 q_713 14 := by rw [← eS_714]; exact At_nN _ _ _ _
  have hn_716 : pN S_714 q_713 = 14 := by rw [← eS_714]; exact pN_sN_new
  refine r_putR X hw hat_mo 60 1260 (some q_713) rfl tyX12 (by decide) rfl inn_X12_init_12 tyX12_ok nmX12 (by decide) (X.2.2.2.1 (.fieldLink RX12 146 "SilkMillModel" "askedPrice" "[I") (by decide +kernel)) rfl (Or.inr ⟨rfl, hin, rfl⟩) (fun _ => rfl) rfl (fun _ => rfl) rfl (Nat.le_of_ble_eq_true rfl) (st_1260 _ _) dX12_init_400 (fun H locs hw => ?_)
  generalize eS_717 : sR S_714 1260 mo (some q_713) = S_717 at hw
  have hat_mo : At S_717 mo 12 := by rw [← eS_717]; exact At_sR hat_mo
  have ha_509 : At S_717 q_507 14 := by rw [← eS_717]; exact At_sR ha_509
  have ha_603 : At S_717 q_601 14 := by rw [← eS_717]; exact At_sR ha_603
  have ha_615 : At S_717 q_613 15 := by rw [← eS_717]; exact At_sR ha_615
  have ha_715 : At S_717 q_713 14 := by rw [← eS_717]; exact At_sR ha_715
  have hr_513 : pR S_717 1239 mo = some q_507 := by rw [← eS_717]; exact (pR_sR_nf (by decide)).trans hr_513
  have hr_606 : pR S_717 1248 mo = some q_601 := by rw [← eS_717]; exact (pR_sR_nf (by decide)).trans hr_606
  have hr_619 : pR S_717 1253 mo = some q_613 := by rw [← eS_717]; exact (pR_sR_nf (by decide)).trans hr_619
  have ci_1201 : pI S_717 1201 mo = 0 := by rw [← eS_717, pI_sR]; exact ci_1201
  have ci_1211 : pI S_717 1211 mo = 0 := by rw [← eS_717, pI_sR]; exact ci_1211
  have ci_1228 : pI S_717 1228 mo = 0 := by rw [← eS_717, pI_sR]; exact ci_1228
  have ci_1238 : pI S_717 1238 mo = 0 := by rw [← eS_717, pI_sR]; exact ci_1238
  have ci_1245 : pI S_717 1245 mo = 0 := by rw [← eS_717, pI_sR]; exact ci_1245
  have ci_1246 : pI S_717 1246 mo = 0 := by rw [← eS_717, pI_sR]; exact ci_1246
  have ci_1251 : pI S_717 1251 mo = 0 := by rw [← eS_717, pI_sR]; exact ci_1251
  have ci_1262 : pI S_717 1262 mo = 0 := by rw [← eS_717, pI_sR]; exact ci_1262
  have hc_426 : pI S_717 1229 mo = (-1) := by rw [← eS_717, pI_sR]; exact hc_426
  have hn_510 : pN S_717 q_507 = 41 := by rw [← eS_717, pN_sR]; exact hn_510
  have hn_604 : pN S_717 q_601 = 4 := by rw [← eS_717, pN_sR]; exact hn_604
  have hn_616 : pN S_717 q_613 = 16 := by rw [← eS_717, pN_sR]; exact hn_616
  have hn_716 : pN S_717 q_713 = 14 := by rw [← eS_717, pN_sR]; exact hn_716
  have hFA : FaA S_717 mo [(1259, 14, 14), (1258, 14, 14), (1257, 14, 128), (1256, 14, 16), (1255, 14, 16), (1254, 14, 16), (1253, 15, 16), (1252, 14, 5), (1248, 14, 4), (1244, 15, 40), (1243, 14, 40), (1242, 14, 40), (1241, 14, 40), (1240, 14, 40), (1239, 14, 41), (1237, 14, 4), (1236, 14, 158400), (1235, 14, 13200), (1227, 13, 400), (1226, 14, 240), (1225, 14, 240), (1224, 14, 240), (1223, 14, 60), (1222, 14, 60), (1221, 14, 60), (1220, 14, 5), (1219, 14, 12), (1218, 14, 7200), (1217, 14, 4), (1216, 14, 4), (1215, 14, 4), (1214, 14, 4), (1213, 14, 4), (1212, 14, 4), (1210, 14, 8), (1209, 14, 600), (1208, 14, 600), (1207, 14, 600), (1206, 14, 10), (1205, 14, 10), (1204, 14, 10), (1203, 14, 10), (1202, 14, 10)] := by rw [← eS_717]; exact FaA_sR hFA (by decide)
  have hza_511 : ∀ j, pA S_717 q_507 j = 0 := by rw [← eS_717, pA_sR]; exact hza_511
  have hza_617 : ∀ j, pA S_717 q_613 j = 0 := by rw [← eS_717, pA_sR]; exact hza_617
  have hr_718 : pR S_717 1260 mo = some q_713 := by rw [← eS_717]; exact pR_sR_same
  have hFA : FaA S_717 mo [(1260, 14, 14), (1259, 14, 14), (1258, 14, 14), (1257, 14, 128), (1256, 14, 16), (1255, 14, 16), (1254, 14, 16), (1253, 15, 16), (1252, 14, 5), (1248, 14, 4), (1244, 15, 40), (1243, 14, 40), (1242, 14, 40), (1241, 14, 40), (1240, 14, 40), (1239, 14, 41), (1237, 14, 4), (1236, 14, 158400), (1235, 14, 13200), (1227, 13, 400), (1226, 14, 240), (1225, 14, 240), (1224, 14, 240), (1223, 14, 60), (1222, 14, 60), (1221, 14, 60), (1220, 14, 5), (1219, 14, 12), (1218, 14, 7200), (1217, 14, 4), (1216, 14, 4), (1215, 14, 4), (1214, 14, 4), (1213, 14, 4), (1212, 14, 4), (1210, 14, 8), (1209, 14, 600), (1208, 14, 600), (1207, 14, 600), (1206, 14, 10), (1205, 14, 10), (1204, 14, 10), (1203, 14, 10), (1202, 14, 10)] := FaA_cons ⟨_, hr_718, ha_715, hn_716⟩ hFA
  refine lv_aload_n X.1 X.2.1 dX12_init_403 rfl (lv_at hl 0 rfl) ?_
  refine lv_bipush (v := 40) X.1 X.2.1 dX12_init_404 (by decide) ?_
  have hat_mo_o := hat_mo
  have ha_509_o := ha_509
  have ha_603_o := ha_603
  have ha_615_o := ha_615
  refine r_newZ (N := 40) X hw 182527 45 (X.2.2.2.1 (.arrayClass .boolean) (by decide +kernel)) (by decide) (by decide) (by decide) (Nat.le_of_ble_eq_true rfl) (Nat.le_of_ble_eq_true rfl) (Nat.le_of_ble_eq_true rfl) (Nat.le_of_ble_eq_true rfl) dX12_init_406 (fun q_719 H hq_719 hw => ?_)
  have ne_mo_q_719 : mo ≠ q_719 := At_old hat_mo_o hq_719
  have ne_q_507_q_719 : q_507 ≠ q_719 := At_old ha_509_o hq_719
  have ne_q_601_q_719 : q_601 ≠ q_719 := At_old ha_603_o hq_719
  have ne_q_613_q_719 : q_613 ≠ q_719 := At_old ha_615_o hq_719
  generalize eS_720 : sN S_717 q_719 15 40 = S_720 at hw
  have hat_mo : At S_720 mo 12 := by rw [← eS_720]; exact At_sN hat_mo hq_719
  have ha_509 : At S_720 q_507 14 := by rw [← eS_720]; exact At_sN ha_509 hq_719
  have ha_603 : At S_720 q_601 14 := by rw [← eS_720]; exact At_sN ha_603 hq_719
  have ha_615 : At S_720 q_613 15 := by rw [← eS_720]; exact At_sN ha_615 hq_719
  have hr_513 : pR S_720 1239 mo = some q_507 := by rw [← eS_720, pR_sN]; exact hr_513
  have hr_606 : pR S_720 1248 mo = some q_601 := by rw [← eS_720, pR_sN]; exact hr_606
  have hr_619 : pR S_720 1253 mo = some q_613 := by rw [← eS_720, pR_sN]; exact hr_619
  have ci_1201 : pI S_720 1201 mo = 0 := by rw [← eS_720, pI_sN]; exact ci_1201
  have ci_1211 : pI S_720 1211 mo = 0 := by rw [← eS_720, pI_sN]; exact ci_1211
  have ci_1228 : pI S_720 1228 mo = 0 := by rw [← eS_720, pI_sN]; exact ci_1228
  have ci_1238 : pI S_720 1238 mo = 0 := by rw [← eS_720, pI_sN]; exact ci_1238
  have ci_1245 : pI S_720 1245 mo = 0 := by rw [← eS_720, pI_sN]; exact ci_1245
  have ci_1246 : pI S_720 1246 mo = 0 := by rw [← eS_720, pI_sN]; exact ci_1246
  have ci_1251 : pI S_720 1251 mo = 0 := by rw [← eS_720, pI_sN]; exact ci_1251
  have ci_1262 : pI S_720 1262 mo = 0 := by rw [← eS_720, pI_sN]; exact ci_1262
  have hc_426 : pI S_720 1229 mo = (-1) := by rw [← eS_720, pI_sN]; exact hc_426
  have hn_510 : pN S_720 q_507 = 41 := by rw [← eS_720]; exact (pN_sN_ne (At_old ha_509_o hq_719)).trans hn_510
  have hn_604 : pN S_720 q_601 = 4 := by rw [← eS_720]; exact (pN_sN_ne (At_old ha_603_o hq_719)).trans hn_604
  have hn_616 : pN S_720 q_613 = 16 := by rw [← eS_720]; exact (pN_sN_ne (At_old ha_615_o hq_719)).trans hn_616
  have hFA : FaA S_720 mo [(1260, 14, 14), (1259, 14, 14), (1258, 14, 14), (1257, 14, 128), (1256, 14, 16), (1255, 14, 16), (1254, 14, 16), (1253, 15, 16), (1252, 14, 5), (1248, 14, 4), (1244, 15, 40), (1243, 14, 40), (1242, 14, 40), (1241, 14, 40), (1240, 14, 40), (1239, 14, 41), (1237, 14, 4), (1236, 14, 158400), (1235, 14, 13200), (1227, 13, 400), (1226, 14, 240), (1225, 14, 240), (1224, 14, 240), (1223, 14, 60), (1222, 14, 60), (1221, 14, 60), (1220, 14, 5), (1219, 14, 12), (1218, 14, 7200), (1217, 14, 4), (1216, 14, 4), (1215, 14, 4), (1214, 14, 4), (1213, 14, 4), (1212, 14, 4), (1210, 14, 8), (1209, 14, 600), (1208, 14, 600), (1207, 14, 600), (1206, 14, 10), (1205, 14, 10), (1204, 14, 10), (1203, 14, 10), (1202, 14, 10)] := by rw [← eS_720]; exact FaA_sN hFA hq_719
  have hza_511 : ∀ j, pA S_720 q_507 j = 0 := fun j => by rw [← eS_720]; exact (congrFun (pA_sN_ne (At_old ha_509_o hq_719)) j).trans (hza_511 j)
  have hza_617 : ∀ j, pA S_720 q_613 j = 0 := fun j => by rw [← eS_720]; exact (congrFun (pA_sN_ne (At_old ha_615_o hq_719)) j).trans (hza_617 j)
  have ha_721 : At S_720 q_719 15 := by rw [← eS_720]; exact At_nN _ _ _ _
  have hn_722 : pN S_720 q_719 = 40 := by rw [← eS_720]; exact pN_sN_new
  refine r_putR X hw hat_mo 61 1261 (some q_719) rfl tyX12 (by decide) rfl inn_X12_init_12 tyX12_ok nmX12 (by decide) (X.2.2.2.1 (.fieldLink RX12 149 "SilkMillModel" "isMixed" "[Z") (by decide +kernel)) rfl (Or.inr ⟨rfl, hin, rfl⟩) (fun _ => rfl) rfl (fun _ => rfl) rfl (Nat.le_of_ble_eq_true rfl) (st_1261 _ _) dX12_init_408 (fun H locs hw => ?_)
  generalize eS_723 : sR S_720 1261 mo (some q_719) = S_723 at hw
  have hat_mo : At S_723 mo 12 := by rw [← eS_723]; exact At_sR hat_mo
  have ha_509 : At S_723 q_507 14 := by rw [← eS_723]; exact At_sR ha_509
  have ha_603 : At S_723 q_601 14 := by rw [← eS_723]; exact At_sR ha_603
  have ha_615 : At S_723 q_613 15 := by rw [← eS_723]; exact At_sR ha_615
  have ha_721 : At S_723 q_719 15 := by rw [← eS_723]; exact At_sR ha_721
  have hr_513 : pR S_723 1239 mo = some q_507 := by rw [← eS_723]; exact (pR_sR_nf (by decide)).trans hr_513
  have hr_606 : pR S_723 1248 mo = some q_601 := by rw [← eS_723]; exact (pR_sR_nf (by decide)).trans hr_606
  have hr_619 : pR S_723 1253 mo = some q_613 := by rw [← eS_723]; exact (pR_sR_nf (by decide)).trans hr_619
  have ci_1201 : pI S_723 1201 mo = 0 := by rw [← eS_723, pI_sR]; exact ci_1201
  have ci_1211 : pI S_723 1211 mo = 0 := by rw [← eS_723, pI_sR]; exact ci_1211
  have ci_1228 : pI S_723 1228 mo = 0 := by rw [← eS_723, pI_sR]; exact ci_1228
  have ci_1238 : pI S_723 1238 mo = 0 := by rw [← eS_723, pI_sR]; exact ci_1238
  have ci_1245 : pI S_723 1245 mo = 0 := by rw [← eS_723, pI_sR]; exact ci_1245
  have ci_1246 : pI S_723 1246 mo = 0 := by rw [← eS_723, pI_sR]; exact ci_1246
  have ci_1251 : pI S_723 1251 mo = 0 := by rw [← eS_723, pI_sR]; exact ci_1251
  have ci_1262 : pI S_723 1262 mo = 0 := by rw [← eS_723, pI_sR]; exact ci_1262
  have hc_426 : pI S_723 1229 mo = (-1) := by rw [← eS_723, pI_sR]; exact hc_426
  have hn_510 : pN S_723 q_507 = 41 := by rw [← eS_723, pN_sR]; exact hn_510
  have hn_604 : pN S_723 q_601 = 4 := by rw [← eS_723, pN_sR]; exact hn_604
  have hn_616 : pN S_723 q_613 = 16 := by rw [← eS_723, pN_sR]; exact hn_616
  have hn_722 : pN S_723 q_719 = 40 := by rw [← eS_723, pN_sR]; exact hn_722
  have hFA : FaA S_723 mo [(1260, 14, 14), (1259, 14, 14), (1258, 14, 14), (1257, 14, 128), (1256, 14, 16), (1255, 14, 16), (1254, 14, 16), (1253, 15, 16), (1252, 14, 5), (1248, 14, 4), (1244, 15, 40), (1243, 14, 40), (1242, 14, 40), (1241, 14, 40), (1240, 14, 40), (1239, 14, 41), (1237, 14, 4), (1236, 14, 158400), (1235, 14, 13200), (1227, 13, 400), (1226, 14, 240), (1225, 14, 240), (1224, 14, 240), (1223, 14, 60), (1222, 14, 60), (1221, 14, 60), (1220, 14, 5), (1219, 14, 12), (1218, 14, 7200), (1217, 14, 4), (1216, 14, 4), (1215, 14, 4), (1214, 14, 4), (1213, 14, 4), (1212, 14, 4), (1210, 14, 8), (1209, 14, 600), (1208, 14, 600), (1207, 14, 600), (1206, 14, 10), (1205, 14, 10), (1204, 14, 10), (1203, 14, 10), (1202, 14, 10)] := by rw [← eS_723]; exact FaA_sR hFA (by decide)
  have hza_511 : ∀ j, pA S_723 q_507 j = 0 := by rw [← eS_723, pA_sR]; exact hza_511
  have hza_617 : ∀ j, pA S_723 q_613 j = 0 := by rw [← eS_723, pA_sR]; exact hza_617
  have hr_724 : pR S_723 1261 mo = some q_719 := by rw [← eS_723]; exact pR_sR_same
  have hFA : FaA S_723 mo [(1261, 15, 40), (1260, 14, 14), (1259, 14, 14), (1258, 14, 14), (1257, 14, 128), (1256, 14, 16), (1255, 14, 16), (1254, 14, 16), (1253, 15, 16), (1252, 14, 5), (1248, 14, 4), (1244, 15, 40), (1243, 14, 40), (1242, 14, 40), (1241, 14, 40), (1240, 14, 40), (1239, 14, 41), (1237, 14, 4), (1236, 14, 158400), (1235, 14, 13200), (1227, 13, 400), (1226, 14, 240), (1225, 14, 240), (1224, 14, 240), (1223, 14, 60), (1222, 14, 60), (1221, 14, 60), (1220, 14, 5), (1219, 14, 12), (1218, 14, 7200), (1217, 14, 4), (1216, 14, 4), (1215, 14, 4), (1214, 14, 4), (1213, 14, 4), (1212, 14, 4), (1210, 14, 8), (1209, 14, 600), (1208, 14, 600), (1207, 14, 600), (1206, 14, 10), (1205, 14, 10), (1204, 14, 10), (1203, 14, 10), (1202, 14, 10)] := FaA_cons ⟨_, hr_724, ha_721, hn_722⟩ hFA
  refine lv_aload_n X.1 X.2.1 dX12_init_411 rfl (lv_at hl 0 rfl) ?_
  refine lv_bipush (v := 40) X.1 X.2.1 dX12_init_412 (by decide) ?_
  have hat_mo_o := hat_mo
  have ha_509_o := ha_509
  have ha_603_o := ha_603
  have ha_615_o := ha_615
  refine r_newI (N := 40) X hw 182567 46 (X.2.2.2.1 (.arrayClass .int) (by decide +kernel)) (by decide) (by decide) (by decide) (Nat.le_of_ble_eq_true rfl) (Nat.le_of_ble_eq_true rfl) (Nat.le_of_ble_eq_true rfl) (Nat.le_of_ble_eq_true rfl) dX12_init_414 (fun q_725 H hq_725 hw => ?_)
  have ne_mo_q_725 : mo ≠ q_725 := At_old hat_mo_o hq_725
  have ne_q_507_q_725 : q_507 ≠ q_725 := At_old ha_509_o hq_725
  have ne_q_601_q_725 : q_601 ≠ q_725 := At_old ha_603_o hq_725
  have ne_q_613_q_725 : q_613 ≠ q_725 := At_old ha_615_o hq_725
  generalize eS_726 : sN S_723 q_725 14 40 = S_726 at hw
  have hat_mo : At S_726 mo 12 := by rw [← eS_726]; exact At_sN hat_mo hq_725
  have ha_509 : At S_726 q_507 14 := by rw [← eS_726]; exact At_sN ha_509 hq_725
  have ha_603 : At S_726 q_601 14 := by rw [← eS_726]; exact At_sN ha_603 hq_725
  have ha_615 : At S_726 q_613 15 := by rw [← eS_726]; exact At_sN ha_615 hq_725
  have hr_513 : pR S_726 1239 mo = some q_507 := by rw [← eS_726, pR_sN]; exact hr_513
  have hr_606 : pR S_726 1248 mo = some q_601 := by rw [← eS_726, pR_sN]; exact hr_606
  have hr_619 : pR S_726 1253 mo = some q_613 := by rw [← eS_726, pR_sN]; exact hr_619
  have ci_1201 : pI S_726 1201 mo = 0 := by rw [← eS_726, pI_sN]; exact ci_1201
  have ci_1211 : pI S_726 1211 mo = 0 := by rw [← eS_726, pI_sN]; exact ci_1211
  have ci_1228 : pI S_726 1228 mo = 0 := by rw [← eS_726, pI_sN]; exact ci_1228
  have ci_1238 : pI S_726 1238 mo = 0 := by rw [← eS_726, pI_sN]; exact ci_1238
  have ci_1245 : pI S_726 1245 mo = 0 := by rw [← eS_726, pI_sN]; exact ci_1245
  have ci_1246 : pI S_726 1246 mo = 0 := by rw [← eS_726, pI_sN]; exact ci_1246
  have ci_1251 : pI S_726 1251 mo = 0 := by rw [← eS_726, pI_sN]; exact ci_1251
  have ci_1262 : pI S_726 1262 mo = 0 := by rw [← eS_726, pI_sN]; exact ci_1262
  have hc_426 : pI S_726 1229 mo = (-1) := by rw [← eS_726, pI_sN]; exact hc_426
  have hn_510 : pN S_726 q_507 = 41 := by rw [← eS_726]; exact (pN_sN_ne (At_old ha_509_o hq_725)).trans hn_510
  have hn_604 : pN S_726 q_601 = 4 := by rw [← eS_726]; exact (pN_sN_ne (At_old ha_603_o hq_725)).trans hn_604
  have hn_616 : pN S_726 q_613 = 16 := by rw [← eS_726]; exact (pN_sN_ne (At_old ha_615_o hq_725)).trans hn_616
  have hFA : FaA S_726 mo [(1261, 15, 40), (1260, 14, 14), (1259, 14, 14), (1258, 14, 14), (1257, 14, 128), (1256, 14, 16), (1255, 14, 16), (1254, 14, 16), (1253, 15, 16), (1252, 14, 5), (1248, 14, 4), (1244, 15, 40), (1243, 14, 40), (1242, 14, 40), (1241, 14, 40), (1240, 14, 40), (1239, 14, 41), (1237, 14, 4), (1236, 14, 158400), (1235, 14, 13200), (1227, 13, 400), (1226, 14, 240), (1225, 14, 240), (1224, 14, 240), (1223, 14, 60), (1222, 14, 60), (1221, 14, 60), (1220, 14, 5), (1219, 14, 12), (1218, 14, 7200), (1217, 14, 4), (1216, 14, 4), (1215, 14, 4), (1214, 14, 4), (1213, 14, 4), (1212, 14, 4), (1210, 14, 8), (1209, 14, 600), (1208, 14, 600), (1207, 14, 600), (1206, 14, 10), (1205, 14, 10), (1204, 14, 10), (1203, 14, 10), (1202, 14, 10)] := by rw [← eS_726]; exact FaA_sN hFA hq_725
  have hza_511 : ∀ j, pA S_726 q_507 j = 0 := fun j => by rw [← eS_726]; exact (congrFun (pA_sN_ne (At_old ha_509_o hq_725)) j).trans (hza_511 j)
  have hza_617 : ∀ j, pA S_726 q_613 j = 0 := fun j => by rw [← eS_726]; exact (congrFun (pA_sN_ne (At_old ha_615_o hq_725)) j).trans (hza_617 j)
  have ha_727 : At S_726 q_725 14 := by rw [← eS_726]; exact At_nN _ _ _ _
  have hn_728 : pN S_726 q_725 = 40 := by rw [← eS_726]; exact pN_sN_new
  refine r_putR X hw hat_mo 63 1263 (some q_725) rfl tyX12 (by decide) rfl inn_X12_init_12 tyX12_ok nmX12 (by decide) (X.2.2.2.1 (.fieldLink RX12 152 "SilkMillModel" "faultOf" "[I") (by decide +kernel)) rfl (Or.inr ⟨rfl, hin, rfl⟩) (fun _ => rfl) rfl (fun _ => rfl) rfl (Nat.le_of_ble_eq_true rfl) (st_1263 _ _) dX12_init_416 (fun H locs hw => ?_)
  generalize eS_729 : sR S_726 1263 mo (some q_725) = S_729 at hw
  have hat_mo : At S_729 mo 12 := by rw [← eS_729]; exact At_sR hat_mo
  have ha_509 : At S_729 q_507 14 := by rw [← eS_729]; exact At_sR ha_509
  have ha_603 : At S_729 q_601 14 := by rw [← eS_729]; exact At_sR ha_603
  have ha_615 : At S_729 q_613 15 := by rw [← eS_729]; exact At_sR ha_615
  have ha_727 : At S_729 q_725 14 := by rw [← eS_729]; exact At_sR ha_727
  have hr_513 : pR S_729 1239 mo = some q_507 := by rw [← eS_729]; exact (pR_sR_nf (by decide)).trans hr_513
  have hr_606 : pR S_729 1248 mo = some q_601 := by rw [← eS_729]; exact (pR_sR_nf (by decide)).trans hr_606
  have hr_619 : pR S_729 1253 mo = some q_613 := by rw [← eS_729]; exact (pR_sR_nf (by decide)).trans hr_619
  have ci_1201 : pI S_729 1201 mo = 0 := by rw [← eS_729, pI_sR]; exact ci_1201
  have ci_1211 : pI S_729 1211 mo = 0 := by rw [← eS_729, pI_sR]; exact ci_1211
  have ci_1228 : pI S_729 1228 mo = 0 := by rw [← eS_729, pI_sR]; exact ci_1228
  have ci_1238 : pI S_729 1238 mo = 0 := by rw [← eS_729, pI_sR]; exact ci_1238
  have ci_1245 : pI S_729 1245 mo = 0 := by rw [← eS_729, pI_sR]; exact ci_1245
  have ci_1246 : pI S_729 1246 mo = 0 := by rw [← eS_729, pI_sR]; exact ci_1246
  have ci_1251 : pI S_729 1251 mo = 0 := by rw [← eS_729, pI_sR]; exact ci_1251
  have ci_1262 : pI S_729 1262 mo = 0 := by rw [← eS_729, pI_sR]; exact ci_1262
  have hc_426 : pI S_729 1229 mo = (-1) := by rw [← eS_729, pI_sR]; exact hc_426
  have hn_510 : pN S_729 q_507 = 41 := by rw [← eS_729, pN_sR]; exact hn_510
  have hn_604 : pN S_729 q_601 = 4 := by rw [← eS_729, pN_sR]; exact hn_604
  have hn_616 : pN S_729 q_613 = 16 := by rw [← eS_729, pN_sR]; exact hn_616
  have hn_728 : pN S_729 q_725 = 40 := by rw [← eS_729, pN_sR]; exact hn_728
  have hFA : FaA S_729 mo [(1261, 15, 40), (1260, 14, 14), (1259, 14, 14), (1258, 14, 14), (1257, 14, 128), (1256, 14, 16), (1255, 14, 16), (1254, 14, 16), (1253, 15, 16), (1252, 14, 5), (1248, 14, 4), (1244, 15, 40), (1243, 14, 40), (1242, 14, 40), (1241, 14, 40), (1240, 14, 40), (1239, 14, 41), (1237, 14, 4), (1236, 14, 158400), (1235, 14, 13200), (1227, 13, 400), (1226, 14, 240), (1225, 14, 240), (1224, 14, 240), (1223, 14, 60), (1222, 14, 60), (1221, 14, 60), (1220, 14, 5), (1219, 14, 12), (1218, 14, 7200), (1217, 14, 4), (1216, 14, 4), (1215, 14, 4), (1214, 14, 4), (1213, 14, 4), (1212, 14, 4), (1210, 14, 8), (1209, 14, 600), (1208, 14, 600), (1207, 14, 600), (1206, 14, 10), (1205, 14, 10), (1204, 14, 10), (1203, 14, 10), (1202, 14, 10)] := by rw [← eS_729]; exact FaA_sR hFA (by decide)
  have hza_511 : ∀ j, pA S_729 q_507 j = 0 := by rw [← eS_729, pA_sR]; exact hza_511
  have hza_617 : ∀ j, pA S_729 q_613 j = 0 := by rw [← eS_729, pA_sR]; exact hza_617
  have hr_730 : pR S_729 1263 mo = some q_725 := by rw [← eS_729]; exact pR_sR_same
  have hFA : FaA S_729 mo [(1263, 14, 40), (1261, 15, 40), (1260, 14, 14), (1259, 14, 14), (1258, 14, 14), (1257, 14, 128), (1256, 14, 16), (1255, 14, 16), (1254, 14, 16), (1253, 15, 16), (1252, 14, 5), (1248, 14, 4), (1244, 15, 40), (1243, 14, 40), (1242, 14, 40), (1241, 14, 40), (1240, 14, 40), (1239, 14, 41), (1237, 14, 4), (1236, 14, 158400), (1235, 14, 13200), (1227, 13, 400), (1226, 14, 240), (1225, 14, 240), (1224, 14, 240), (1223, 14, 60), (1222, 14, 60), (1221, 14, 60), (1220, 14, 5), (1219, 14, 12), (1218, 14, 7200), (1217, 14, 4), (1216, 14, 4), (1215, 14, 4), (1214, 14, 4), (1213, 14, 4), (1212, 14, 4), (1210, 14, 8), (1209, 14, 600), (1208, 14, 600), (1207, 14, 600), (1206, 14, 10), (1205, 14, 10), (1204, 14, 10), (1203, 14, 10), (1202, 14, 10)] := FaA_cons ⟨_, hr_730, ha_727, hn_728⟩ hFA
  refine lv_aload_n X.1 X.2.1 dX12_init_419 rfl (lv_at hl 0 rfl) ?_
  refine lv_bipush (v := 40) X.1 X.2.1 dX12_init_420 (by decide) ?_
  have hat_mo_o := hat_mo
  have ha_509_o := ha_509
  have ha_603_o := ha_603
  have ha_615_o := ha_615
  refine r_newI (N := 40) X hw 182607 47 (X.2.2.2.1 (.arrayClass .int) (by decide +kernel)) (by decide) (by decide) (by decide) (Nat.le_of_ble_eq_true rfl) (Nat.le_of_ble_eq_true rfl) (Nat.le_of_ble_eq_true rfl) (Nat.le_of_ble_eq_true rfl) dX12_init_422 (fun q_731 H hq_731 hw => ?_)
  have ne_mo_q_731 : mo ≠ q_731 := At_old hat_mo_o hq_731
  have ne_q_507_q_731 : q_507 ≠ q_731 := At_old ha_509_o hq_731
  have ne_q_601_q_731 : q_601 ≠ q_731 := At_old ha_603_o hq_731
  have ne_q_613_q_731 : q_613 ≠ q_731 := At_old ha_615_o hq_731
  generalize eS_732 : sN S_729 q_731 14 40 = S_732 at hw
  have hat_mo : At S_732 mo 12 := by rw [← eS_732]; exact At_sN hat_mo hq_731
  have ha_509 : At S_732 q_507 14 := by rw [← eS_732]; exact At_sN ha_509 hq_731
  have ha_603 : At S_732 q_601 14 := by rw [← eS_732]; exact At_sN ha_603 hq_731
  have ha_615 : At S_732 q_613 15 := by rw [← eS_732]; exact At_sN ha_615 hq_731
  have hr_513 : pR S_732 1239 mo = some q_507 := by rw [← eS_732, pR_sN]; exact hr_513
  have hr_606 : pR S_732 1248 mo = some q_601 := by rw [← eS_732, pR_sN]; exact hr_606
  have hr_619 : pR S_732 1253 mo = some q_613 := by rw [← eS_732, pR_sN]; exact hr_619
  have ci_1201 : pI S_732 1201 mo = 0 := by rw [← eS_732, pI_sN]; exact ci_1201
  have ci_1211 : pI S_732 1211 mo = 0 := by rw [← eS_732, pI_sN]; exact ci_1211
  have ci_1228 : pI S_732 1228 mo = 0 := by rw [← eS_732, pI_sN]; exact ci_1228
  have ci_1238 : pI S_732 1238 mo = 0 := by rw [← eS_732, pI_sN]; exact ci_1238
  have ci_1245 : pI S_732 1245 mo = 0 := by rw [← eS_732, pI_sN]; exact ci_1245
  have ci_1246 : pI S_732 1246 mo = 0 := by rw [← eS_732, pI_sN]; exact ci_1246
  have ci_1251 : pI S_732 1251 mo = 0 := by rw [← eS_732, pI_sN]; exact ci_1251
  have ci_1262 : pI S_732 1262 mo = 0 := by rw [← eS_732, pI_sN]; exact ci_1262
  have hc_426 : pI S_732 1229 mo = (-1) := by rw [← eS_732, pI_sN]; exact hc_426
  have hn_510 : pN S_732 q_507 = 41 := by rw [← eS_732]; exact (pN_sN_ne (At_old ha_509_o hq_731)).trans hn_510
  have hn_604 : pN S_732 q_601 = 4 := by rw [← eS_732]; exact (pN_sN_ne (At_old ha_603_o hq_731)).trans hn_604
  have hn_616 : pN S_732 q_613 = 16 := by rw [← eS_732]; exact (pN_sN_ne (At_old ha_615_o hq_731)).trans hn_616
  have hFA : FaA S_732 mo [(1263, 14, 40), (1261, 15, 40), (1260, 14, 14), (1259, 14, 14), (1258, 14, 14), (1257, 14, 128), (1256, 14, 16), (1255, 14, 16), (1254, 14, 16), (1253, 15, 16), (1252, 14, 5), (1248, 14, 4), (1244, 15, 40), (1243, 14, 40), (1242, 14, 40), (1241, 14, 40), (1240, 14, 40), (1239, 14, 41), (1237, 14, 4), (1236, 14, 158400), (1235, 14, 13200), (1227, 13, 400), (1226, 14, 240), (1225, 14, 240), (1224, 14, 240), (1223, 14, 60), (1222, 14, 60), (1221, 14, 60), (1220, 14, 5), (1219, 14, 12), (1218, 14, 7200), (1217, 14, 4), (1216, 14, 4), (1215, 14, 4), (1214, 14, 4), (1213, 14, 4), (1212, 14, 4), (1210, 14, 8), (1209, 14, 600), (1208, 14, 600), (1207, 14, 600), (1206, 14, 10), (1205, 14, 10), (1204, 14, 10), (1203, 14, 10), (1202, 14, 10)] := by rw [← eS_732]; exact FaA_sN hFA hq_731
  have hza_511 : ∀ j, pA S_732 q_507 j = 0 := fun j => by rw [← eS_732]; exact (congrFun (pA_sN_ne (At_old ha_509_o hq_731)) j).trans (hza_511 j)
  have hza_617 : ∀ j, pA S_732 q_613 j = 0 := fun j => by rw [← eS_732]; exact (congrFun (pA_sN_ne (At_old ha_615_o hq_731)) j).trans (hza_617 j)
  have ha_733 : At S_732 q_731 14 := by rw [← eS_732]; exact At_nN _ _ _ _
  have hn_734 : pN S_732 q_731 = 40 := by rw [← eS_732]; exact pN_sN_new
  refine r_putR X hw hat_mo 64 1264 (some q_731) rfl tyX12 (by decide) rfl inn_X12_init_12 tyX12_ok nmX12 (by decide) (X.2.2.2.1 (.fieldLink RX12 155 "SilkMillModel" "faultAmount" "[I") (by decide +kernel)) rfl (Or.inr ⟨rfl, hin, rfl⟩) (fun _ => rfl) rfl (fun _ => rfl) rfl (Nat.le_of_ble_eq_true rfl) (st_1264 _ _) dX12_init_424 (fun H locs hw => ?_)
  generalize eS_735 : sR S_732 1264 mo (some q_731) = S_735 at hw
  have hat_mo : At S_735 mo 12 := by rw [← eS_735]; exact At_sR hat_mo
  have ha_509 : At S_735 q_507 14 := by rw [← eS_735]; exact At_sR ha_509
  have ha_603 : At S_735 q_601 14 := by rw [← eS_735]; exact At_sR ha_603
  have ha_615 : At S_735 q_613 15 := by rw [← eS_735]; exact At_sR ha_615
  have ha_733 : At S_735 q_731 14 := by rw [← eS_735]; exact At_sR ha_733
  have hr_513 : pR S_735 1239 mo = some q_507 := by rw [← eS_735]; exact (pR_sR_nf (by decide)).trans hr_513
  have hr_606 : pR S_735 1248 mo = some q_601 := by rw [← eS_735]; exact (pR_sR_nf (by decide)).trans hr_606
  have hr_619 : pR S_735 1253 mo = some q_613 := by rw [← eS_735]; exact (pR_sR_nf (by decide)).trans hr_619
  have ci_1201 : pI S_735 1201 mo = 0 := by rw [← eS_735, pI_sR]; exact ci_1201
  have ci_1211 : pI S_735 1211 mo = 0 := by rw [← eS_735, pI_sR]; exact ci_1211
  have ci_1228 : pI S_735 1228 mo = 0 := by rw [← eS_735, pI_sR]; exact ci_1228
  have ci_1238 : pI S_735 1238 mo = 0 := by rw [← eS_735, pI_sR]; exact ci_1238
  have ci_1245 : pI S_735 1245 mo = 0 := by rw [← eS_735, pI_sR]; exact ci_1245
  have ci_1246 : pI S_735 1246 mo = 0 := by rw [← eS_735, pI_sR]; exact ci_1246
  have ci_1251 : pI S_735 1251 mo = 0 := by rw [← eS_735, pI_sR]; exact ci_1251
  have ci_1262 : pI S_735 1262 mo = 0 := by rw [← eS_735, pI_sR]; exact ci_1262
  have hc_426 : pI S_735 1229 mo = (-1) := by rw [← eS_735, pI_sR]; exact hc_426
  have hn_510 : pN S_735 q_507 = 41 := by rw [← eS_735, pN_sR]; exact hn_510
  have hn_604 : pN S_735 q_601 = 4 := by rw [← eS_735, pN_sR]; exact hn_604
  have hn_616 : pN S_735 q_613 = 16 := by rw [← eS_735, pN_sR]; exact hn_616
  have hn_734 : pN S_735 q_731 = 40 := by rw [← eS_735, pN_sR]; exact hn_734
  have hFA : FaA S_735 mo [(1263, 14, 40), (1261, 15, 40), (1260, 14, 14), (1259, 14, 14), (1258, 14, 14), (1257, 14, 128), (1256, 14, 16), (1255, 14, 16), (1254, 14, 16), (1253, 15, 16), (1252, 14, 5), (1248, 14, 4), (1244, 15, 40), (1243, 14, 40), (1242, 14, 40), (1241, 14, 40), (1240, 14, 40), (1239, 14, 41), (1237, 14, 4), (1236, 14, 158400), (1235, 14, 13200), (1227, 13, 400), (1226, 14, 240), (1225, 14, 240), (1224, 14, 240), (1223, 14, 60), (1222, 14, 60), (1221, 14, 60), (1220, 14, 5), (1219, 14, 12), (1218, 14, 7200), (1217, 14, 4), (1216, 14, 4), (1215, 14, 4), (1214, 14, 4), (1213, 14, 4), (1212, 14, 4), (1210, 14, 8), (1209, 14, 600), (1208, 14, 600), (1207, 14, 600), (1206, 14, 10), (1205, 14, 10), (1204, 14, 10), (1203, 14, 10), (1202, 14, 10)] := by rw [← eS_735]; exact FaA_sR hFA (by decide)
  have hza_511 : ∀ j, pA S_735 q_507 j = 0 := by rw [← eS_735, pA_sR]; exact hza_511
  have hza_617 : ∀ j, pA S_735 q_613 j = 0 := by rw [← eS_735, pA_sR]; exact hza_617
  have hr_736 : pR S_735 1264 mo = some q_731 := by rw [← eS_735]; exact pR_sR_same
  have hFA : FaA S_735 mo [(1264, 14, 40), (1263, 14, 40), (1261, 15, 40), (1260, 14, 14), (1259, 14, 14), (1258, 14, 14), (1257, 14, 128), (1256, 14, 16), (1255, 14, 16), (1254, 14, 16), (1253, 15, 16), (1252, 14, 5), (1248, 14, 4), (1244, 15, 40), (1243, 14, 40), (1242, 14, 40), (1241, 14, 40), (1240, 14, 40), (1239, 14, 41), (1237, 14, 4), (1236, 14, 158400), (1235, 14, 13200), (1227, 13, 400), (1226, 14, 240), (1225, 14, 240), (1224, 14, 240), (1223, 14, 60), (1222, 14, 60), (1221, 14, 60), (1220, 14, 5), (1219, 14, 12), (1218, 14, 7200), (1217, 14, 4), (1216, 14, 4), (1215, 14, 4), (1214, 14, 4), (1213, 14, 4), (1212, 14, 4), (1210, 14, 8), (1209, 14, 600), (1208, 14, 600), (1207, 14, 600), (1206, 14, 10), (1205, 14, 10), (1204, 14, 10), (1203, 14, 10), (1202, 14, 10)] := FaA_cons ⟨_, hr_736, ha_733, hn_734⟩ hFA
  refine lv_aload_n X.1 X.2.1 dX12_init_427 rfl (lv_at hl 0 rfl) ?_
  refine lv_bipush (v := 40) X.1 X.2.1 dX12_init_428 (by decide) ?_
  have hat_mo_o := hat_mo
  have ha_509_o := ha_509
  have ha_603_o := ha_603
  have ha_615_o := ha_615
  refine r_newI (N := 40) X hw 182647 48 (X.2.2.2.1 (.arrayClass .int) (by decide +kernel)) (by decide) (by decide) (by decide) (Nat.le_of_ble_eq_true rfl) (Nat.le_of_ble_eq_true rfl) (Nat.le_of_ble_eq_true rfl) (Nat.le_of_ble_eq_true rfl) dX12_init_430 (fun q_737 H hq_737 hw => ?_)
  have ne_mo_q_737 : mo ≠ q_737 := At_old hat_mo_o hq_737
  have ne_q_507_q_737 : q_507 ≠ q_737 := At_old ha_509_o hq_737
  have ne_q_601_q_737 : q_601 ≠ q_737 := At_old ha_603_o hq_737
  have ne_q_613_q_737 : q_613 ≠ q_737 := At_old ha_615_o hq_737
  generalize eS_738 : sN S_735 q_737 14 40 = S_738 at hw
  have hat_mo : At S_738 mo 12 := by rw [← eS_738]; exact At_sN hat_mo hq_737
  have ha_509 : At S_738 q_507 14 := by rw [← eS_738]; exact At_sN ha_509 hq_737
  have ha_603 : At S_738 q_601 14 := by rw [← eS_738]; exact At_sN ha_603 hq_737
  have ha_615 : At S_738 q_613 15 := by rw [← eS_738]; exact At_sN ha_615 hq_737
  have hr_513 : pR S_738 1239 mo = some q_507 := by rw [← eS_738, pR_sN]; exact hr_513
  have hr_606 : pR S_738 1248 mo = some q_601 := by rw [← eS_738, pR_sN]; exact hr_606
  have hr_619 : pR S_738 1253 mo = some q_613 := by rw [← eS_738, pR_sN]; exact hr_619
  have ci_1201 : pI S_738 1201 mo = 0 := by rw [← eS_738, pI_sN]; exact ci_1201
  have ci_1211 : pI S_738 1211 mo = 0 := by rw [← eS_738, pI_sN]; exact ci_1211
  have ci_1228 : pI S_738 1228 mo = 0 := by rw [← eS_738, pI_sN]; exact ci_1228
  have ci_1238 : pI S_738 1238 mo = 0 := by rw [← eS_738, pI_sN]; exact ci_1238
  have ci_1245 : pI S_738 1245 mo = 0 := by rw [← eS_738, pI_sN]; exact ci_1245
  have ci_1246 : pI S_738 1246 mo = 0 := by rw [← eS_738, pI_sN]; exact ci_1246
  have ci_1251 : pI S_738 1251 mo = 0 := by rw [← eS_738, pI_sN]; exact ci_1251
  have ci_1262 : pI S_738 1262 mo = 0 := by rw [← eS_738, pI_sN]; exact ci_1262
  have hc_426 : pI S_738 1229 mo = (-1) := by rw [← eS_738, pI_sN]; exact hc_426
  have hn_510 : pN S_738 q_507 = 41 := by rw [← eS_738]; exact (pN_sN_ne (At_old ha_509_o hq_737)).trans hn_510
  have hn_604 : pN S_738 q_601 = 4 := by rw [← eS_738]; exact (pN_sN_ne (At_old ha_603_o hq_737)).trans hn_604
  have hn_616 : pN S_738 q_613 = 16 := by rw [← eS_738]; exact (pN_sN_ne (At_old ha_615_o hq_737)).trans hn_616
  have hFA : FaA S_738 mo [(1264, 14, 40), (1263, 14, 40), (1261, 15, 40), (1260, 14, 14), (1259, 14, 14), (1258, 14, 14), (1257, 14, 128), (1256, 14, 16), (1255, 14, 16), (1254, 14, 16), (1253, 15, 16), (1252, 14, 5), (1248, 14, 4), (1244, 15, 40), (1243, 14, 40), (1242, 14, 40), (1241, 14, 40), (1240, 14, 40), (1239, 14, 41), (1237, 14, 4), (1236, 14, 158400), (1235, 14, 13200), (1227, 13, 400), (1226, 14, 240), (1225, 14, 240), (1224, 14, 240), (1223, 14, 60), (1222, 14, 60), (1221, 14, 60), (1220, 14, 5), (1219, 14, 12), (1218, 14, 7200), (1217, 14, 4), (1216, 14, 4), (1215, 14, 4), (1214, 14, 4), (1213, 14, 4), (1212, 14, 4), (1210, 14, 8), (1209, 14, 600), (1208, 14, 600), (1207, 14, 600), (1206, 14, 10), (1205, 14, 10), (1204, 14, 10), (1203, 14, 10), (1202, 14, 10)] := by rw [← eS_738]; exact FaA_sN hFA hq_737
  have hza_511 : ∀ j, pA S_738 q_507 j = 0 := fun j => by rw [← eS_738]; exact (congrFun (pA_sN_ne (At_old ha_509_o hq_737)) j).trans (hza_511 j)
  have hza_617 : ∀ j, pA S_738 q_613 j = 0 := fun j => by rw [← eS_738]; exact (congrFun (pA_sN_ne (At_old ha_615_o hq_737)) j).trans (hza_617 j)
  have ha_739 : At S_738 q_737 14 := by rw [← eS_738]; exact At_nN _ _ _ _
  have hn_740 : pN S_738 q_737 = 40 := by rw [← eS_738]; exact pN_sN_new
  refine r_putR X hw hat_mo 65 1265 (some q_737) rfl tyX12 (by decide) rfl inn_X12_init_12 tyX12_ok nmX12 (by decide) (X.2.2.2.1 (.fieldLink RX12 158 "SilkMillModel" "faultDay" "[I") (by decide +kernel)) rfl (Or.inr ⟨rfl, hin, rfl⟩) (fun _ => rfl) rfl (fun _ => rfl) rfl (Nat.le_of_ble_eq_true rfl) (st_1265 _ _) dX12_init_432 (fun H locs hw => ?_)
  generalize eS_741 : sR S_738 1265 mo (some q_737) = S_741 at hw
  have hat_mo : At S_741 mo 12 := by rw [← eS_741]; exact At_sR hat_mo
  have ha_509 : At S_741 q_507 14 := by rw [← eS_741]; exact At_sR ha_509
  have ha_603 : At S_741 q_601 14 := by rw [← eS_741]; exact At_sR ha_603
  have ha_615 : At S_741 q_613 15 := by rw [← eS_741]; exact At_sR ha_615
  have ha_739 : At S_741 q_737 14 := by rw [← eS_741]; exact At_sR ha_739
  have hr_513 : pR S_741 1239 mo = some q_507 := by rw [← eS_741]; exact (pR_sR_nf (by decide)).trans hr_513
  have hr_606 : pR S_741 1248 mo = some q_601 := by rw [← eS_741]; exact (pR_sR_nf (by decide)).trans hr_606
  have hr_619 : pR S_741 1253 mo = some q_613 := by rw [← eS_741]; exact (pR_sR_nf (by decide)).trans hr_619
  have ci_1201 : pI S_741 1201 mo = 0 := by rw [← eS_741, pI_sR]; exact ci_1201
  have ci_1211 : pI S_741 1211 mo = 0 := by rw [← eS_741, pI_sR]; exact ci_1211
  have ci_1228 : pI S_741 1228 mo = 0 := by rw [← eS_741, pI_sR]; exact ci_1228
  have ci_1238 : pI S_741 1238 mo = 0 := by rw [← eS_741, pI_sR]; exact ci_1238
  have ci_1245 : pI S_741 1245 mo = 0 := by rw [← eS_741, pI_sR]; exact ci_1245
  have ci_1246 : pI S_741 1246 mo = 0 := by rw [← eS_741, pI_sR]; exact ci_1246
  have ci_1251 : pI S_741 1251 mo = 0 := by rw [← eS_741, pI_sR]; exact ci_1251
  have ci_1262 : pI S_741 1262 mo = 0 := by rw [← eS_741, pI_sR]; exact ci_1262
  have hc_426 : pI S_741 1229 mo = (-1) := by rw [← eS_741, pI_sR]; exact hc_426
  have hn_510 : pN S_741 q_507 = 41 := by rw [← eS_741, pN_sR]; exact hn_510
  have hn_604 : pN S_741 q_601 = 4 := by rw [← eS_741, pN_sR]; exact hn_604
  have hn_616 : pN S_741 q_613 = 16 := by rw [← eS_741, pN_sR]; exact hn_616
  have hn_740 : pN S_741 q_737 = 40 := by rw [← eS_741, pN_sR]; exact hn_740
  have hFA : FaA S_741 mo [(1264, 14, 40), (1263, 14, 40), (1261, 15, 40), (1260, 14, 14), (1259, 14, 14), (1258, 14, 14), (1257, 14, 128), (1256, 14, 16), (1255, 14, 16), (1254, 14, 16), (1253, 15, 16), (1252, 14, 5), (1248, 14, 4), (1244, 15, 40), (1243, 14, 40), (1242, 14, 40), (1241, 14, 40), (1240, 14, 40), (1239, 14, 41), (1237, 14, 4), (1236, 14, 158400), (1235, 14, 13200), (1227, 13, 400), (1226, 14, 240), (1225, 14, 240), (1224, 14, 240), (1223, 14, 60), (1222, 14, 60), (1221, 14, 60), (1220, 14, 5), (1219, 14, 12), (1218, 14, 7200), (1217, 14, 4), (1216, 14, 4), (1215, 14, 4), (1214, 14, 4), (1213, 14, 4), (1212, 14, 4), (1210, 14, 8), (1209, 14, 600), (1208, 14, 600), (1207, 14, 600), (1206, 14, 10), (1205, 14, 10), (1204, 14, 10), (1203, 14, 10), (1202, 14, 10)] := by rw [← eS_741]; exact FaA_sR hFA (by decide)
  have hza_511 : ∀ j, pA S_741 q_507 j = 0 := by rw [← eS_741, pA_sR]; exact hza_511
  have hza_617 : ∀ j, pA S_741 q_613 j = 0 := by rw [← eS_741, pA_sR]; exact hza_617
  have hr_742 : pR S_741 1265 mo = some q_737 := by rw [← eS_741]; exact pR_sR_same
  have hFA : FaA S_741 mo [(1265, 14, 40), (1264, 14, 40), (1263, 14, 40), (1261, 15, 40), (1260, 14, 14), (1259, 14, 14), (1258, 14, 14), (1257, 14, 128), (1256, 14, 16), (1255, 14, 16), (1254, 14, 16), (1253, 15, 16), (1252, 14, 5), (1248, 14, 4), (1244, 15, 40), (1243, 14, 40), (1242, 14, 40), (1241, 14, 40), (1240, 14, 40), (1239, 14, 41), (1237, 14, 4), (1236, 14, 158400), (1235, 14, 13200), (1227, 13, 400), (1226, 14, 240), (1225, 14, 240), (1224, 14, 240), (1223, 14, 60), (1222, 14, 60), (1221, 14, 60), (1220, 14, 5), (1219, 14, 12), (1218, 14, 7200), (1217, 14, 4), (1216, 14, 4), (1215, 14, 4), (1214, 14, 4), (1213, 14, 4), (1212, 14, 4), (1210, 14, 8), (1209, 14, 600), (1208, 14, 600), (1207, 14, 600), (1206, 14, 10), (1205, 14, 10), (1204, 14, 10), (1203, 14, 10), (1202, 14, 10)] := FaA_cons ⟨_, hr_742, ha_739, hn_740⟩ hFA
  exact kk q_507 q_601 q_613 _ _ _ _ hw hl hat_mo ha_509 ha_603 ha_615 hr_513 hr_606 hr_619 ci_1201 ci_1211 ci_1228 ci_1238 ci_1245 ci_1246 ci_1251 ci_1262 hc_426 hn_510 hn_604 hn_616 hza_511 hza_617 hFA ne_mo_q_507 ne_mo_q_601 ne_q_507_q_601 ne_mo_q_613 ne_q_507_q_613 ne_q_601_q_613
set_option maxHeartbeats 4000000 in
set_option maxRecDepth 100000 in
theorem sgM_7 {p : Program} {l : Launch} {e : Env} {s : State} {m : MethodId} {below : List Frame} {meth : Method} {c : Code} {Q : State → Prop} (G : va_G) (cy : Nat → ClassId) (S0 : PS) (mo : Nat) (X : Cx p c cX12_init 2 s [.ref mo].toArray wsX12_init RX12 m G cy (AS S0 s.heap.size)) (hin : meth.name = "<init>") (q_507 : Nat) (q_601 : Nat) (q_613 : Nat) (S : PS) (H : Heap) (locs : List Loc) (ls : Array Slot) (hw : Wd G cy (AS S0 s.heap.size) s.heap S H locs) (hl : lv_has ls 2 [(0, .ref mo)]) (hat_mo : At S mo 12) (ha_509 : At S q_507 14) (ha_603 : At S q_601 14) (ha_615 : At S q_613 15) (hr_513 : pR S 1239 mo = some q_507) (hr_606 : pR S 1248 mo = some q_601) (hr_619 : pR S 1253 mo = some q_613) (ci_1201 : pI S 1201 mo = 0) (ci_1211 : pI S 1211 mo = 0) (ci_1228 : pI S 1228 mo = 0) (ci_1238 : pI S 1238 mo = 0) (ci_1245 : pI S 1245 mo = 0) (ci_1246 : pI S 1246 mo = 0) (ci_1251 : pI S 1251 mo = 0) (ci_1262 : pI S 1262 mo = 0) (hc_426 : pI S 1229 mo = (-1)) (hn_510 : pN S q_507 = 41) (hn_604 : pN S q_601 = 4) (hn_616 : pN S q_613 = 16) (hza_511 : ∀ j, pA S q_507 j = 0) (hza_617 : ∀ j, pA S q_613 j = 0) (hFA : FaA S mo [(1265, 14, 40), (1264, 14, 40), (1263, 14, 40), (1261, 15, 40), (1260, 14, 14), (1259, 14, 14), (1258, 14, 14), (1257, 14, 128), (1256, 14, 16), (1255, 14, 16), (1254, 14, 16), (1253, 15, 16), (1252, 14, 5), (1248, 14, 4), (1244, 15, 40), (1243, 14, 40), (1242, 14, 40), (1241, 14, 40), (1240, 14, 40), (1239, 14, 41), (1237, 14, 4), (1236, 14, 158400), (1235, 14, 13200), (1227, 13, 400), (1226, 14, 240), (1225, 14, 240), (1224, 14, 240), (1223, 14, 60), (1222, 14, 60), (1221, 14, 60), (1220, 14, 5), (1219, 14, 12), (1218, 14, 7200), (1217, 14, 4), (1216, 14, 4), (1215, 14, 4), (1214, 14, 4), (1213, 14, 4), (1212, 14, 4), (1210, 14, 8), (1209, 14, 600), (1208, 14, 600), (1207, 14, 600), (1206, 14, 10), (1205, 14, 10), (1204, 14, 10), (1203, 14, 10), (1202, 14, 10)]) (ne_mo_q_507 : mo ≠ q_507) (ne_mo_q_601 : mo ≠ q_601) (ne_q_507_q_601 : q_507 ≠ q_601) (ne_mo_q_613 : mo ≠ q_613) (ne_q_507_q_613 : q_507 ≠ q_613) (ne_q_601_q_613 : q_601 ≠ q_613) (kk : ∀ (q_507 : Nat) (q_601 : Nat) (q_613 : Nat) (S : PS) (H : Heap) (locs : List Loc) (ls : Array Slot), Wd G cy (AS S0 s.heap.size) s.heap S H locs → lv_has ls 2 [(1, .int 4), (0, .ref mo)] → At S mo 12 → At S q_507 14 → At S q_601 14 → At S q_613 15 → pR S 1239 mo = some q_507 → pR S 1248 mo = some q_601 → pR S 1253 mo = some q_613 → pI S 1201 mo = 0 → pI S 1211 mo = 0 → pI S 1228 mo = 0 → pI S 1238 mo = 0 → pI S 1245 mo = 0 → pI S 1246 mo = 0 → pI S 1251 mo = 0 → pI S 1262 mo = 0 → pI S 1229 mo = (-1) → pN S q_507 = 41 → pN S q_601 = 4 → pN S q_613 = 16 → (∀ j, pA S q_507 j = 0) → (∀ j, pA S q_613 j = 0) → FaA S mo [(1265, 14, 40), (1264, 14, 40), (1263, 14, 40), (1261, 15, 40), (1260, 14, 14), (1259, 14, 14), (1258, 14, 14), (1257, 14, 128), (1256, 14, 16), (1255, 14, 16), (1254, 14, 16), (1253, 15, 16), (1252, 14, 5), (1248, 14, 4), (1244, 15, 40), (1243, 14, 40), (1242, 14, 40), (1241, 14, 40), (1240, 14, 40), (1239, 14, 41), (1237, 14, 4), (1236, 14, 158400), (1235, 14, 13200), (1227, 13, 400), (1226, 14, 240), (1225, 14, 240), (1224, 14, 240), (1223, 14, 60), (1222, 14, 60), (1221, 14, 60), (1220, 14, 5), (1219, 14, 12), (1218, 14, 7200), (1217, 14, 4), (1216, 14, 4), (1215, 14, 4), (1214, 14, 4), (1213, 14, 4), (1212, 14, 4), (1210, 14, 8), (1209, 14, 600), (1208, 14, 600), (1207, 14, 600), (1206, 14, 10), (1205, 14, 10), (1204, 14, 10), (1203, 14, 10), (1202, 14, 10)] → mo ≠ q_507 → mo ≠ q_601 → q_507 ≠ q_601 → mo ≠ q_613 → q_507 ≠ q_613 → q_601 ≠ q_613 → W p l e ({ frames := 2, cells := 70, slots := 190000, locals := 80 }) s m [.ref mo].toArray below meth c H locs 48 182647 Q (F0 m 485 ls [])) : W p l e ({ frames := 2, cells := 70, slots := 190000, locals := 80 }) s m [.ref mo].toArray below meth c H locs 48 182647 Q (F0 m 435 ls []) := by
  refine lv_iconst (v := 0) X.1 X.2.1 dX12_init_435 (by decide) ?_
  refine lv_istore_n (lv' := [(1, .int 0), (0, .ref mo)]) X.1 X.2.1 dX12_init_436 rfl hl (by decide) rfl (fun ls hl => ?_)
  refine lv_iload_n X.1 X.2.1 dX12_init_437 rfl (lv_at hl 0 rfl) ?_
  refine lv_iconst (v := 4) X.1 X.2.1 dX12_init_438 (by decide) ?_
  refine lv_icmp_ge (tgt := 485) X.1 X.2.1 dX12_init_439 (by decide) (fun c_439 => absurd c_439 (by decide)) (fun c_439 => ?_)
  refine lv_aload_n X.1 X.2.1 dX12_init_442 rfl (lv_at hl 1 rfl) ?_
  refine r_getR (g := 1248) X hw hat_mo 48 hr_606 (by decide) rfl inn_X12_init_12 (by decide) (X.2.2.2.1 (.fieldLink RX12 119 "SilkMillModel" "price" "[I") (by decide +kernel)) rfl (gv_1248 _ _) dX12_init_443 ?_
  refine lv_iload_n X.1 X.2.1 dX12_init_446 rfl (lv_at hl 0 rfl) ?_
  refine lv_iload_n X.1 X.2.1 dX12_init_447 rfl (lv_at hl 0 rfl) ?_
  refine lv_if_ne (tgt := 456) X.1 X.2.1 dX12_init_448 (by decide) (fun c_448 => absurd c_448 (by decide)) (fun c_448 => ?_)
  refine lv_bipush (v := 100) X.1 X.2.1 dX12_init_451 (by decide) ?_
  refine lv_goto (tgt := 478) X.1 X.2.1 dX12_init_453 (by decide) ?_
  refine r_iast X hw ha_603 (by rw [hn_604]; exact vp_in_iff.mpr (by decide +kernel)) dX12_init_478 (fun H locs hw => ?_)
  generalize eS_801 : sA S q_601 (upd (pA S q_601) (Int32.toNatClampNeg (0)) 100) = S_801 at hw
  have hat_mo : At S_801 mo 12 := by rw [← eS_801]; exact At_sA hat_mo
  have ha_509 : At S_801 q_507 14 := by rw [← eS_801]; exact At_sA ha_509
  have ha_603 : At S_801 q_601 14 := by rw [← eS_801]; exact At_sA ha_603
  have ha_615 : At S_801 q_613 15 := by rw [← eS_801]; exact At_sA ha_615
  have hr_513 : pR S_801 1239 mo = some q_507 := by rw [← eS_801, pR_sA]; exact hr_513
  have hr_606 : pR S_801 1248 mo = some q_601 := by rw [← eS_801, pR_sA]; exact hr_606
  have hr_619 : pR S_801 1253 mo = some q_613 := by rw [← eS_801, pR_sA]; exact hr_619
  have ci_1201 : pI S_801 1201 mo = 0 := by rw [← eS_801, pI_sA]; exact ci_1201
  have ci_1211 : pI S_801 1211 mo = 0 := by rw [← eS_801, pI_sA]; exact ci_1211
  have ci_1228 : pI S_801 1228 mo = 0 := by rw [← eS_801, pI_sA]; exact ci_1228
  have ci_1238 : pI S_801 1238 mo = 0 := by rw [← eS_801, pI_sA]; exact ci_1238
  have ci_1245 : pI S_801 1245 mo = 0 := by rw [← eS_801, pI_sA]; exact ci_1245
  have ci_1246 : pI S_801 1246 mo = 0 := by rw [← eS_801, pI_sA]; exact ci_1246
  have ci_1251 : pI S_801 1251 mo = 0 := by rw [← eS_801, pI_sA]; exact ci_1251
  have ci_1262 : pI S_801 1262 mo = 0 := by rw [← eS_801, pI_sA]; exact ci_1262
  have hc_426 : pI S_801 1229 mo = (-1) := by rw [← eS_801, pI_sA]; exact hc_426
  have hn_510 : pN S_801 q_507 = 41 := by rw [← eS_801, pN_sA]; exact hn_510
  have hn_604 : pN S_801 q_601 = 4 := by rw [← eS_801, pN_sA]; exact hn_604
  have hn_616 : pN S_801 q_613 = 16 := by rw [← eS_801, pN_sA]; exact hn_616
  have hFA : FaA S_801 mo [(1265, 14, 40), (1264, 14, 40), (1263, 14, 40), (1261, 15, 40), (1260, 14, 14), (1259, 14, 14), (1258, 14, 14), (1257, 14, 128), (1256, 14, 16), (1255, 14, 16), (1254, 14, 16), (1253, 15, 16), (1252, 14, 5), (1248, 14, 4), (1244, 15, 40), (1243, 14, 40), (1242, 14, 40), (1241, 14, 40), (1240, 14, 40), (1239, 14, 41), (1237, 14, 4), (1236, 14, 158400), (1235, 14, 13200), (1227, 13, 400), (1226, 14, 240), (1225, 14, 240), (1224, 14, 240), (1223, 14, 60), (1222, 14, 60), (1221, 14, 60), (1220, 14, 5), (1219, 14, 12), (1218, 14, 7200), (1217, 14, 4), (1216, 14, 4), (1215, 14, 4), (1214, 14, 4), (1213, 14, 4), (1212, 14, 4), (1210, 14, 8), (1209, 14, 600), (1208, 14, 600), (1207, 14, 600), (1206, 14, 10), (1205, 14, 10), (1204, 14, 10), (1203, 14, 10), (1202, 14, 10)] := by rw [← eS_801]; exact FaA_sA hFA
  have hza_511 : ∀ j, pA S_801 q_507 j = 0 := fun j => by rw [← eS_801]; exact (congrFun (pA_sA_ne ne_q_507_q_601) j).trans (hza_511 j)
  have hza_617 : ∀ j, pA S_801 q_613 j = 0 := fun j => by rw [← eS_801]; exact (congrFun (pA_sA_ne (Ne.symm ne_q_601_q_613)) j).trans (hza_617 j)
  refine lv_iinc (v := 1) (lv' := [(1, .int 1), (0, .ref mo)]) X.1 X.2.1 dX12_init_479 hl (k := 0) rfl (by decide) (by decide) rfl (fun ls hl => ?_)
  refine lv_goto (tgt := 437) X.1 X.2.1 dX12_init_482 (by decide) ?_
  refine lv_iload_n X.1 X.2.1 dX12_init_437 rfl (lv_at hl 0 rfl) ?_
  refine lv_iconst (v := 4) X.1 X.2.1 dX12_init_438 (by decide) ?_
  refine lv_icmp_ge (tgt := 485) X.1 X.2.1 dX12_init_439 (by decide) (fun c_439 => absurd c_439 (by decide)) (fun c_439 => ?_)
  refine lv_aload_n X.1 X.2.1 dX12_init_442 rfl (lv_at hl 1 rfl) ?_
  refine r_getR (g := 1248) X hw hat_mo 48 hr_606 (by decide) rfl inn_X12_init_12 (by decide) (X.2.2.2.1 (.fieldLink RX12 119 "SilkMillModel" "price" "[I") (by decide +kernel)) rfl (gv_1248 _ _) dX12_init_443 ?_
  refine lv_iload_n X.1 X.2.1 dX12_init_446 rfl (lv_at hl 0 rfl) ?_
  refine lv_iload_n X.1 X.2.1 dX12_init_447 rfl (lv_at hl 0 rfl) ?_
  refine lv_if_ne (tgt := 456) X.1 X.2.1 dX12_init_448 (by decide) (fun c_448 => ?_) (fun c_448 => absurd c_448 (by decide))
  refine lv_iload_n X.1 X.2.1 dX12_init_456 rfl (lv_at hl 0 rfl) ?_
  refine lv_iconst (v := 1) X.1 X.2.1 dX12_init_457 (by decide) ?_
  refine lv_icmp_ne (tgt := 466) X.1 X.2.1 dX12_init_458 (by decide) (fun c_458 => absurd c_458 (by decide)) (fun c_458 => ?_)
  refine lv_bipush (v := 80) X.1 X.2.1 dX12_init_461 (by decide) ?_
  refine lv_goto (tgt := 478) X.1 X.2.1 dX12_init_463 (by decide) ?_
  refine r_iast X hw ha_603 (by rw [hn_604]; exact vp_in_iff.mpr (by decide +kernel)) dX12_init_478 (fun H locs hw => ?_)
  generalize eS_802 : sA S_801 q_601 (upd (pA S_801 q_601) (Int32.toNatClampNeg (1)) 80) = S_802 at hw
  have hat_mo : At S_802 mo 12 := by rw [← eS_802]; exact At_sA hat_mo
  have ha_509 : At S_802 q_507 14 := by rw [← eS_802]; exact At_sA ha_509
  have ha_603 : At S_802 q_601 14 := by rw [← eS_802]; exact At_sA ha_603
  have ha_615 : At S_802 q_613 15 := by rw [← eS_802]; exact At_sA ha_615
  have hr_513 : pR S_802 1239 mo = some q_507 := by rw [← eS_802, pR_sA]; exact hr_513
  have hr_606 : pR S_802 1248 mo = some q_601 := by rw [← eS_802, pR_sA]; exact hr_606
  have hr_619 : pR S_802 1253 mo = some q_613 := by rw [← eS_802, pR_sA]; exact hr_619
  have ci_1201 : pI S_802 1201 mo = 0 := by rw [← eS_802, pI_sA]; exact ci_1201
  have ci_1211 : pI S_802 1211 mo = 0 := by rw [← eS_802, pI_sA]; exact ci_1211
  have ci_1228 : pI S_802 1228 mo = 0 := by rw [← eS_802, pI_sA]; exact ci_1228
  have ci_1238 : pI S_802 1238 mo = 0 := by rw [← eS_802, pI_sA]; exact ci_1238
  have ci_1245 : pI S_802 1245 mo = 0 := by rw [← eS_802, pI_sA]; exact ci_1245
  have ci_1246 : pI S_802 1246 mo = 0 := by rw [← eS_802, pI_sA]; exact ci_1246
  have ci_1251 : pI S_802 1251 mo = 0 := by rw [← eS_802, pI_sA]; exact ci_1251
  have ci_1262 : pI S_802 1262 mo = 0 := by rw [← eS_802, pI_sA]; exact ci_1262
  have hc_426 : pI S_802 1229 mo = (-1) := by rw [← eS_802, pI_sA]; exact hc_426
  have hn_510 : pN S_802 q_507 = 41 := by rw [← eS_802, pN_sA]; exact hn_510
  have hn_604 : pN S_802 q_601 = 4 := by rw [← eS_802, pN_sA]; exact hn_604
  have hn_616 : pN S_802 q_613 = 16 := by rw [← eS_802, pN_sA]; exact hn_616
  have hFA : FaA S_802 mo [(1265, 14, 40), (1264, 14, 40), (1263, 14, 40), (1261, 15, 40), (1260, 14, 14), (1259, 14, 14), (1258, 14, 14), (1257, 14, 128), (1256, 14, 16), (1255, 14, 16), (1254, 14, 16), (1253, 15, 16), (1252, 14, 5), (1248, 14, 4), (1244, 15, 40), (1243, 14, 40), (1242, 14, 40), (1241, 14, 40), (1240, 14, 40), (1239, 14, 41), (1237, 14, 4), (1236, 14, 158400), (1235, 14, 13200), (1227, 13, 400), (1226, 14, 240), (1225, 14, 240), (1224, 14, 240), (1223, 14, 60), (1222, 14, 60), (1221, 14, 60), (1220, 14, 5), (1219, 14, 12), (1218, 14, 7200), (1217, 14, 4), (1216, 14, 4), (1215, 14, 4), (1214, 14, 4), (1213, 14, 4), (1212, 14, 4), (1210, 14, 8), (1209, 14, 600), (1208, 14, 600), (1207, 14, 600), (1206, 14, 10), (1205, 14, 10), (1204, 14, 10), (1203, 14, 10), (1202, 14, 10)] := by rw [← eS_802]; exact FaA_sA hFA
  have hza_511 : ∀ j, pA S_802 q_507 j = 0 := fun j => by rw [← eS_802]; exact (congrFun (pA_sA_ne ne_q_507_q_601) j).trans (hza_511 j)
  have hza_617 : ∀ j, pA S_802 q_613 j = 0 := fun j => by rw [← eS_802]; exact (congrFun (pA_sA_ne (Ne.symm ne_q_601_q_613)) j).trans (hza_617 j)
  refine lv_iinc (v := 2) (lv' := [(1, .int 2), (0, .ref mo)]) X.1 X.2.1 dX12_init_479 hl (k := 0) rfl (by decide) (by decide) rfl (fun ls hl => ?_)
  refine lv_goto (tgt := 437) X.1 X.2.1 dX12_init_482 (by decide) ?_
  refine lv_iload_n X.1 X.2.1 dX12_init_437 rfl (lv_at hl 0 rfl) ?_
  refine lv_iconst (v := 4) X.1 X.2.1 dX12_init_438 (by decide) ?_
  refine lv_icmp_ge (tgt := 485) X.1 X.2.1 dX12_init_439 (by decide) (fun c_439 => absurd c_439 (by decide)) (fun c_439 => ?_)
  refine lv_aload_n X.1 X.2.1 dX12_init_442 rfl (lv_at hl 1 rfl) ?_
  refine r_getR (g := 1248) X hw hat_mo 48 hr_606 (by decide) rfl inn_X12_init_12 (by decide) (X.2.2.2.1 (.fieldLink RX12 119 "SilkMillModel" "price" "[I") (by decide +kernel)) rfl (gv_1248 _ _) dX12_init_443 ?_
  refine lv_iload_n X.1 X.2.1 dX12_init_446 rfl (lv_at hl 0 rfl) ?_
  refine lv_iload_n X.1 X.2.1 dX12_init_447 rfl (lv_at hl 0 rfl) ?_
  refine lv_if_ne (tgt := 456) X.1 X.2.1 dX12_init_448 (by decide) (fun c_448 => ?_) (fun c_448 => absurd c_448 (by decide))
  refine lv_iload_n X.1 X.2.1 dX12_init_456 rfl (lv_at hl 0 rfl) ?_
  refine lv_iconst (v := 1) X.1 X.2.1 dX12_init_457 (by decide) ?_
  refine lv_icmp_ne (tgt := 466) X.1 X.2.1 dX12_init_458 (by decide) (fun c_458 => ?_) (fun c_458 => absurd c_458 (by decide))
  refine lv_iload_n X.1 X.2.1 dX12_init_466 rfl (lv_at hl 0 rfl) ?_
  refine lv_iconst (v := 2) X.1 X.2.1 dX12_init_467 (by decide) ?_
  refine lv_icmp_ne (tgt := 476) X.1 X.2.1 dX12_init_468 (by decide) (fun c_468 => absurd c_468 (by decide)) (fun c_468 => ?_)
  refine lv_bipush (v := 50) X.1 X.2.1 dX12_init_471 (by decide) ?_
  refine lv_goto (tgt := 478) X.1 X.2.1 dX12_init_473 (by decide) ?_
  refine r_iast X hw ha_603 (by rw [hn_604]; exact vp_in_iff.mpr (by decide +kernel)) dX12_init_478 (fun H locs hw => ?_)
  generalize eS_803 : sA S_802 q_601 (upd (pA S_802 q_601) (Int32.toNatClampNeg (2)) 50) = S_803 at hw
  have hat_mo : At S_803 mo 12 := by rw [← eS_803]; exact At_sA hat_mo
  have ha_509 : At S_803 q_507 14 := by rw [← eS_803]; exact At_sA ha_509
  have ha_603 : At S_803 q_601 14 := by rw [← eS_803]; exact At_sA ha_603
  have ha_615 : At S_803 q_613 15 := by rw [← eS_803]; exact At_sA ha_615
  have hr_513 : pR S_803 1239 mo = some q_507 := by rw [← eS_803, pR_sA]; exact hr_513
  have hr_606 : pR S_803 1248 mo = some q_601 := by rw [← eS_803, pR_sA]; exact hr_606
  have hr_619 : pR S_803 1253 mo = some q_613 := by rw [← eS_803, pR_sA]; exact hr_619
  have ci_1201 : pI S_803 1201 mo = 0 := by rw [← eS_803, pI_sA]; exact ci_1201
  have ci_1211 : pI S_803 1211 mo = 0 := by rw [← eS_803, pI_sA]; exact ci_1211
  have ci_1228 : pI S_803 1228 mo = 0 := by rw [← eS_803, pI_sA]; exact ci_1228
  have ci_1238 : pI S_803 1238 mo = 0 := by rw [← eS_803, pI_sA]; exact ci_1238
  have ci_1245 : pI S_803 1245 mo = 0 := by rw [← eS_803, pI_sA]; exact ci_1245
  have ci_1246 : pI S_803 1246 mo = 0 := by rw [← eS_803, pI_sA]; exact ci_1246
  have ci_1251 : pI S_803 1251 mo = 0 := by rw [← eS_803, pI_sA]; exact ci_1251
  have ci_1262 : pI S_803 1262 mo = 0 := by rw [← eS_803, pI_sA]; exact ci_1262
  have hc_426 : pI S_803 1229 mo = (-1) := by rw [← eS_803, pI_sA]; exact hc_426
  have hn_510 : pN S_803 q_507 = 41 := by rw [← eS_803, pN_sA]; exact hn_510
  have hn_604 : pN S_803 q_601 = 4 := by rw [← eS_803, pN_sA]; exact hn_604
  have hn_616 : pN S_803 q_613 = 16 := by rw [← eS_803, pN_sA]; exact hn_616
  have hFA : FaA S_803 mo [(1265, 14, 40), (1264, 14, 40), (1263, 14, 40), (1261, 15, 40), (1260, 14, 14), (1259, 14, 14), (1258, 14, 14), (1257, 14, 128), (1256, 14, 16), (1255, 14, 16), (1254, 14, 16), (1253, 15, 16), (1252, 14, 5), (1248, 14, 4), (1244, 15, 40), (1243, 14, 40), (1242, 14, 40), (1241, 14, 40), (1240, 14, 40), (1239, 14, 41), (1237, 14, 4), (1236, 14, 158400), (1235, 14, 13200), (1227, 13, 400), (1226, 14, 240), (1225, 14, 240), (1224, 14, 240), (1223, 14, 60), (1222, 14, 60), (1221, 14, 60), (1220, 14, 5), (1219, 14, 12), (1218, 14, 7200), (1217, 14, 4), (1216, 14, 4), (1215, 14, 4), (1214, 14, 4), (1213, 14, 4), (1212, 14, 4), (1210, 14, 8), (1209, 14, 600), (1208, 14, 600), (1207, 14, 600), (1206, 14, 10), (1205, 14, 10), (1204, 14, 10), (1203, 14, 10), (1202, 14, 10)] := by rw [← eS_803]; exact FaA_sA hFA
  have hza_511 : ∀ j, pA S_803 q_507 j = 0 := fun j => by rw [← eS_803]; exact (congrFun (pA_sA_ne ne_q_507_q_601) j).trans (hza_511 j)
  have hza_617 : ∀ j, pA S_803 q_613 j = 0 := fun j => by rw [← eS_803]; exact (congrFun (pA_sA_ne (Ne.symm ne_q_601_q_613)) j).trans (hza_617 j)
  refine lv_iinc (v := 3) (lv' := [(1, .int 3), (0, .ref mo)]) X.1 X.2.1 dX12_init_479 hl (k := 0) rfl (by decide) (by decide) rfl (fun ls hl => ?_)
  refine lv_goto (tgt := 437) X.1 X.2.1 dX12_init_482 (by decide) ?_
  refine lv_iload_n X.1 X.2.1 dX12_init_437 rfl (lv_at hl 0 rfl) ?_
  refine lv_iconst (v := 4) X.1 X.2.1 dX12_init_438 (by decide) ?_
  refine lv_icmp_ge (tgt := 485) X.1 X.2.1 dX12_init_439 (by decide) (fun c_439 => absurd c_439 (by decide)) (fun c_439 => ?_)
  refine lv_aload_n X.1 X.2.1 dX12_init_442 rfl (lv_at hl 1 rfl) ?_
  refine r_getR (g := 1248) X hw hat_mo 48 hr_606 (by decide) rfl inn_X12_init_12 (by decide) (X.2.2.2.1 (.fieldLink RX12 119 "SilkMillModel" "price" "[I") (by decide +kernel)) rfl (gv_1248 _ _) dX12_init_443 ?_
  refine lv_iload_n X.1 X.2.1 dX12_init_446 rfl (lv_at hl 0 rfl) ?_
  refine lv_iload_n X.1 X.2.1 dX12_init_447 rfl (lv_at hl 0 rfl) ?_
  refine lv_if_ne (tgt := 456) X.1 X.2.1 dX12_init_448 (by decide) (fun c_448 => ?_) (fun c_448 => absurd c_448 (by decide))
  refine lv_iload_n X.1 X.2.1 dX12_init_456 rfl (lv_at hl 0 rfl) ?_
  refine lv_iconst (v := 1) X.1 X.2.1 dX12_init_457 (by decide) ?_
  refine lv_icmp_ne (tgt := 466) X.1 X.2.1 dX12_init_458 (by decide) (fun c_458 => ?_) (fun c_458 => absurd c_458 (by decide))
  refine lv_iload_n X.1 X.2.1 dX12_init_466 rfl (lv_at hl 0 rfl) ?_
  refine lv_iconst (v := 2) X.1 X.2.1 dX12_init_467 (by decide) ?_
  refine lv_icmp_ne (tgt := 476) X.1 X.2.1 dX12_init_468 (by decide) (fun c_468 => ?_) (fun c_468 => absurd c_468 (by decide))
  refine lv_bipush (v := 20) X.1 X.2.1 dX12_init_476 (by decide) ?_
  refine r_iast X hw ha_603 (by rw [hn_604]; exact vp_in_iff.mpr (by decide +kernel)) dX12_init_478 (fun H locs hw => ?_)
  generalize eS_804 : sA S_803 q_601 (upd (pA S_803 q_601) (Int32.toNatClampNeg (3)) 20) = S_804 at hw
  have hat_mo : At S_804 mo 12 := by rw [← eS_804]; exact At_sA hat_mo
  have ha_509 : At S_804 q_507 14 := by rw [← eS_804]; exact At_sA ha_509
  have ha_603 : At S_804 q_601 14 := by rw [← eS_804]; exact At_sA ha_603
  have ha_615 : At S_804 q_613 15 := by rw [← eS_804]; exact At_sA ha_615
  have hr_513 : pR S_804 1239 mo = some q_507 := by rw [← eS_804, pR_sA]; exact hr_513
  have hr_606 : pR S_804 1248 mo = some q_601 := by rw [← eS_804, pR_sA]; exact hr_606
  have hr_619 : pR S_804 1253 mo = some q_613 := by rw [← eS_804, pR_sA]; exact hr_619
  have ci_1201 : pI S_804 1201 mo = 0 := by rw [← eS_804, pI_sA]; exact ci_1201
  have ci_1211 : pI S_804 1211 mo = 0 := by rw [← eS_804, pI_sA]; exact ci_1211
  have ci_1228 : pI S_804 1228 mo = 0 := by rw [← eS_804, pI_sA]; exact ci_1228
  have ci_1238 : pI S_804 1238 mo = 0 := by rw [← eS_804, pI_sA]; exact ci_1238
  have ci_1245 : pI S_804 1245 mo = 0 := by rw [← eS_804, pI_sA]; exact ci_1245
  have ci_1246 : pI S_804 1246 mo = 0 := by rw [← eS_804, pI_sA]; exact ci_1246
  have ci_1251 : pI S_804 1251 mo = 0 := by rw [← eS_804, pI_sA]; exact ci_1251
  have ci_1262 : pI S_804 1262 mo = 0 := by rw [← eS_804, pI_sA]; exact ci_1262
  have hc_426 : pI S_804 1229 mo = (-1) := by rw [← eS_804, pI_sA]; exact hc_426
  have hn_510 : pN S_804 q_507 = 41 := by rw [← eS_804, pN_sA]; exact hn_510
  have hn_604 : pN S_804 q_601 = 4 := by rw [← eS_804, pN_sA]; exact hn_604
  have hn_616 : pN S_804 q_613 = 16 := by rw [← eS_804, pN_sA]; exact hn_616
  have hFA : FaA S_804 mo [(1265, 14, 40), (1264, 14, 40), (1263, 14, 40), (1261, 15, 40), (1260, 14, 14), (1259, 14, 14), (1258, 14, 14), (1257, 14, 128), (1256, 14, 16), (1255, 14, 16), (1254, 14, 16), (1253, 15, 16), (1252, 14, 5), (1248, 14, 4), (1244, 15, 40), (1243, 14, 40), (1242, 14, 40), (1241, 14, 40), (1240, 14, 40), (1239, 14, 41), (1237, 14, 4), (1236, 14, 158400), (1235, 14, 13200), (1227, 13, 400), (1226, 14, 240), (1225, 14, 240), (1224, 14, 240), (1223, 14, 60), (1222, 14, 60), (1221, 14, 60), (1220, 14, 5), (1219, 14, 12), (1218, 14, 7200), (1217, 14, 4), (1216, 14, 4), (1215, 14, 4), (1214, 14, 4), (1213, 14, 4), (1212, 14, 4), (1210, 14, 8), (1209, 14, 600), (1208, 14, 600), (1207, 14, 600), (1206, 14, 10), (1205, 14, 10), (1204, 14, 10), (1203, 14, 10), (1202, 14, 10)] := by rw [← eS_804]; exact FaA_sA hFA
  have hza_511 : ∀ j, pA S_804 q_507 j = 0 := fun j => by rw [← eS_804]; exact (congrFun (pA_sA_ne ne_q_507_q_601) j).trans (hza_511 j)
  have hza_617 : ∀ j, pA S_804 q_613 j = 0 := fun j => by rw [← eS_804]; exact (congrFun (pA_sA_ne (Ne.symm ne_q_601_q_613)) j).trans (hza_617 j)
  refine lv_iinc (v := 4) (lv' := [(1, .int 4), (0, .ref mo)]) X.1 X.2.1 dX12_init_479 hl (k := 0) rfl (by decide) (by decide) rfl (fun ls hl => ?_)
  refine lv_goto (tgt := 437) X.1 X.2.1 dX12_init_482 (by decide) ?_
  refine lv_iload_n X.1 X.2.1 dX12_init_437 rfl (lv_at hl 0 rfl) ?_
  refine lv_iconst (v := 4) X.1 X.2.1 dX12_init_438 (by decide) ?_
  refine lv_icmp_ge (tgt := 485) X.1 X.2.1 dX12_init_439 (by decide) (fun c_439 => ?_) (fun c_439 => absurd c_439 (by decide))
  exact kk q_507 q_601 q_613 _ _ _ _ hw hl hat_mo ha_509 ha_603 ha_615 hr_513 hr_606 hr_619 ci_1201 ci_1211 ci_1228 ci_1238 ci_1245 ci_1246 ci_1251 ci_1262 hc_426 hn_510 hn_604 hn_616 hza_511 hza_617 hFA ne_mo_q_507 ne_mo_q_601 ne_q_507_q_601 ne_mo_q_613 ne_q_507_q_613 ne_q_601_q_613
set_option maxHeartbeats 4000000 in
set_option maxRecDepth 100000 in
theorem c_X12_init (l : Launch) (G : va_G) (cy : Nat → ClassId) (S : PS) (sz : Nat) (mo : Nat) (hat_mo : At S mo 12) (hz : ∀ g, pI S g mo = 0) : Cv l yX12_init wsX12_init ({ frames := 2, cells := 70, slots := 190000, locals := 80 }) G cy S sz [.ref mo] (fun (S9 : PS) => FM S9 mo) := by
  refine ent_m (cc := cX12_init) (maxL := 2) (ret := none) (by decide) rfl (Nat.le_of_ble_eq_true rfl) ?_
  intro p e s m below meth c ls X hr hlocks hin hw hl hsz
  subst hsz
  have X : Cx p c cX12_init 2 s [.ref mo].toArray wsX12_init RX12 m G cy (AS S s.heap.size) := X
  have hl : lv_has ls 2 [(0, .ref mo)] := hl
  have ci_1201 := hz 1201
  have ci_1211 := hz 1211
  have ci_1228 := hz 1228
  have ci_1238 := hz 1238
  have ci_1245 := hz 1245
  have ci_1246 := hz 1246
  have ci_1251 := hz 1251
  have ci_1262 := hz 1262
  have hFA : FaA S mo [] := FaA_nil _ _
  refine sgM_0 G cy S mo X hin  _ _ _ _ hw hl hat_mo ci_1201 ci_1211 ci_1228 ci_1238 ci_1245 ci_1246 ci_1251 ci_1262 hFA ?_
  intro  T0 H locs ls hw hl hat_mo ci_1201 ci_1211 ci_1228 ci_1238 ci_1245 ci_1246 ci_1251 ci_1262 hFA
  refine sgM_1 G cy S mo X hin  _ _ _ _ hw hl hat_mo ci_1201 ci_1211 ci_1228 ci_1238 ci_1245 ci_1246 ci_1251 ci_1262 hFA ?_
  intro  T1 H locs ls hw hl hat_mo ci_1201 ci_1211 ci_1228 ci_1238 ci_1245 ci_1246 ci_1251 ci_1262 hFA
  refine sgM_2 G cy S mo X hin  _ _ _ _ hw hl hat_mo ci_1201 ci_1211 ci_1228 ci_1238 ci_1245 ci_1246 ci_1251 ci_1262 hFA ?_
  intro  T2 H locs ls hw hl hat_mo ci_1201 ci_1211 ci_1228 ci_1238 ci_1245 ci_1246 ci_1251 ci_1262 hFA
  refine sgM_3 G cy S mo X hin  _ _ _ _ hw hl hat_mo ci_1201 ci_1211 ci_1228 ci_1238 ci_1245 ci_1246 ci_1251 ci_1262 hFA ?_
  intro  T3 H locs ls hw hl hat_mo ci_1201 ci_1211 ci_1228 ci_1238 ci_1245 ci_1246 ci_1251 ci_1262 hc_426 hFA
  refine sgM_4 G cy S mo X hin  _ _ _ _ hw hl hat_mo ci_1201 ci_1211 ci_1228 ci_1238 ci_1245 ci_1246 ci_1251 ci_1262 hc_426 hFA ?_
  intro q_507 T4 H locs ls hw hl hat_mo ha_509 hr_513 ci_1201 ci_1211 ci_1228 ci_1238 ci_1245 ci_1246 ci_1251 ci_1262 hc_426 hn_510 hza_511 hFA ne_mo_q_507
  refine sgM_5 G cy S mo X hin q_507 _ _ _ _ hw hl hat_mo ha_509 hr_513 ci_1201 ci_1211 ci_1228 ci_1238 ci_1245 ci_1246 ci_1251 ci_1262 hc_426 hn_510 hza_511 hFA ne_mo_q_507 ?_
  intro q_507 q_601 q_613 T5 H locs ls hw hl hat_mo ha_509 ha_603 ha_615 hr_513 hr_606 hr_619 ci_1201 ci_1211 ci_1228 ci_1238 ci_1245 ci_1246 ci_1251 ci_1262 hc_426 hn_510 hn_604 hn_616 hza_511 hza_617 hFA ne_mo_q_507 ne_mo_q_601 ne_q_507_q_601 ne_mo_q_613 ne_q_507_q_613 ne_q_601_q_613
  refine sgM_6 G cy S mo X hin q_507 q_601 q_613 _ _ _ _ hw hl hat_mo ha_509 ha_603 ha_615 hr_513 hr_606 hr_619 ci_1201 ci_1211 ci_1228 ci_1238 ci_1245 ci_1246 ci_1251 ci_1262 hc_426 hn_510 hn_604 hn_616 hza_511 hza_617 hFA ne_mo_q_507 ne_mo_q_601 ne_q_507_q_601 ne_mo_q_613 ne_q_507_q_613 ne_q_601_q_613 ?_
  intro q_507 q_601 q_613 T6 H locs ls hw hl hat_mo ha_509 ha_603 ha_615 hr_513 hr_606 hr_619 ci_1201 ci_1211 ci_1228 ci_1238 ci_1245 ci_1246 ci_1251 ci_1262 hc_426 hn_510 hn_604 hn_616 hza_511 hza_617 hFA ne_mo_q_507 ne_mo_q_601 ne_q_507_q_601 ne_mo_q_613 ne_q_507_q_613 ne_q_601_q_613
  refine sgM_7 G cy S mo X hin q_507 q_601 q_613 _ _ _ _ hw hl hat_mo ha_509 ha_603 ha_615 hr_513 hr_606 hr_619 ci_1201 ci_1211 ci_1228 ci_1238 ci_1245 ci_1246 ci_1251 ci_1262 hc_426 hn_510 hn_604 hn_616 hza_511 hza_617 hFA ne_mo_q_507 ne_mo_q_601 ne_q_507_q_601 ne_mo_q_613 ne_q_507_q_613 ne_q_601_q_613 ?_
  intro q_507 q_601 q_613 T7 H locs ls hw hl hat_mo ha_509 ha_603 ha_615 hr_513 hr_606 hr_619 ci_1201 ci_1211 ci_1228 ci_1238 ci_1245 ci_1246 ci_1251 ci_1262 hc_426 hn_510 hn_604 hn_616 hza_511 hza_617 hFA ne_mo_q_507 ne_mo_q_601 ne_q_507_q_601 ne_mo_q_613 ne_q_507_q_613 ne_q_601_q_613
  exact ret_v X hw hr hlocks (Nat.le_of_ble_eq_true rfl) (Nat.le_of_ble_eq_true rfl) ⟨hat_mo, fun g hg => by simp only [List.mem_cons, List.not_mem_nil, or_false] at hg; rcases hg with rfl | rfl | rfl | rfl | rfl | rfl | rfl | rfl <;> assumption, hc_426, fun x hx => hFA x ((by decide +kernel : ∀ x ∈ marr, x ∈ ([(1265, 14, 40), (1264, 14, 40), (1263, 14, 40), (1261, 15, 40), (1260, 14, 14), (1259, 14, 14), (1258, 14, 14), (1257, 14, 128), (1256, 14, 16), (1255, 14, 16), (1254, 14, 16), (1253, 15, 16), (1252, 14, 5), (1248, 14, 4), (1244, 15, 40), (1243, 14, 40), (1242, 14, 40), (1241, 14, 40), (1240, 14, 40), (1239, 14, 41), (1237, 14, 4), (1236, 14, 158400), (1235, 14, 13200), (1227, 13, 400), (1226, 14, 240), (1225, 14, 240), (1224, 14, 240), (1223, 14, 60), (1222, 14, 60), (1221, 14, 60), (1220, 14, 5), (1219, 14, 12), (1218, 14, 7200), (1217, 14, 4), (1216, 14, 4), (1215, 14, 4), (1214, 14, 4), (1213, 14, 4), (1212, 14, 4), (1210, 14, 8), (1209, 14, 600), (1208, 14, 600), (1207, 14, 600), (1206, 14, 10), (1205, 14, 10), (1204, 14, 10), (1203, 14, 10), (1202, 14, 10)] : List (Nat × Nat × Nat))) x hx), fun q hq => by rw [hr_619] at hq; cases hq; assumption, fun q hq => by rw [hr_513] at hq; cases hq; assumption⟩ dX12_init_485
