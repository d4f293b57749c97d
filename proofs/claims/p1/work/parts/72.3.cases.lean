set_option maxHeartbeats 8000000 in
set_option maxRecDepth 100000 in
theorem lc_23 {p : Program} {l : Launch} {e : Env} {s : State} {m : MethodId} {below : List Frame} {meth : Method} {c : Code} (hst : l.stackTraces = false) {b x mo outq : Nat} {xs : Nat → Int32} {G : va_G} {cy : Nat → ClassId} (X : Cx p c cL_law 7 s #[Value.ref b] lw_tbl RL m G cy (fun q : Nat => s.heap.size ≤ q)) (hr : meth.sig.returnType = ret) (hlocks : meth.locks = false) (hX : va_X b 6 xs s s.heap) (hbl : b < s.heap.size) (hbA : ¬ (fun q : Nat => s.heap.size ≤ q) b) (hZ : Zs (fun q : Nat => s.heap.size ≤ q) s s.heap) (sa_L_fineness sa_L_in : Nat) (hStr_L_fineness : vk_R RX11 104 "there is no such place of a cocoon" sa_L_fineness s) (hStr_L_in : vk_R RX11 221 "there is no such cocoon in a pot" sa_L_in s) (hdc : ∀ Y ∈ DcL, va_Nw (.declares (Bundle.initS Y)) s) {SX SM : PS} {H : Heap} {locs : List Loc} {ls : Array Slot} (hwX : Wd G cy (fun q : Nat => s.heap.size ≤ q) s.heap SX H locs) (hwM : Wd G cy (fun q : Nat => s.heap.size ≤ q) s.heap SM H locs) (hdM : ∀ q ∈ pL SM, q ∉ pL SX) (hFX : FX SX x) (hFM : FM SM mo) (hl : lv_has ls 7 [(4, .int 0), (3, .ref outq), (2, .ref mo), (1, .ref x), (0, .ref b)]) : W p l e room_1 s m #[Value.ref b] below meth c H locs 173 193079 (lw_Z below #[Value.ref b] s) (F0 m 1261 ls []) := by
  refine lv_aload_n X.1 X.2.1 dL_law_1261 rfl (lv_at hl 3 rfl) ?_
  refine lv_aload_n X.1 X.2.1 dL_law_1262 rfl (lv_at hl 4 rfl) ?_
  refine lv_iload X.1 X.2.1 dL_law_1263 (lv_at hl 0 rfl) ?_
  refine lv_iconst (v := 1) X.1 X.2.1 dL_law_1265 (by decide) ?_
  refine lv_iadd X.1 X.2.1 dL_law_1266 ?_
  refine lv_topi (fun v_146 ev_146 => ?_)
  obtain rfl : v_146 = 1 := ev_146.trans (by decide +kernel)
  refine va_sld X.1 X.2.1 hX hbl hbA hwM.2.2 (vp_in_iff.mpr (by decide +kernel)) dL_law_1267 ?_
  refine lv_aload_n X.1 X.2.1 dL_law_1268 rfl (lv_at hl 4 rfl) ?_
  refine lv_iload X.1 X.2.1 dL_law_1269 (lv_at hl 0 rfl) ?_
  refine lv_iconst (v := 2) X.1 X.2.1 dL_law_1271 (by decide) ?_
  refine lv_iadd X.1 X.2.1 dL_law_1272 ?_
  refine lv_topi (fun v_147 ev_147 => ?_)
  obtain rfl : v_147 = 2 := ev_147.trans (by decide +kernel)
  refine va_sld X.1 X.2.1 hX hbl hbA hwM.2.2 (vp_in_iff.mpr (by decide +kernel)) dL_law_1273 ?_
  refine k_i (rm := { frames := 4, cells := 0, slots := 0, locals := 160 }) (av := [.ref x, .int (xs (Int32.toNatClampNeg 1)), .int (xs (Int32.toNatClampNeg 2))]) X hwX (va_runV (As := [.int (xs (Int32.toNatClampNeg 1)), .int (xs (Int32.toNatClampNeg 2))]) (rest := []) (cfix X) (c_X11_number l G cy SX _ x (xs (Int32.toNatClampNeg 1)) (xs (Int32.toNatClampNeg 2)) hFX) (cwV 2 X.2.2.2.1 gk_X11_number rfl rfl rfl (by decide +kernel) ⟨Nat.le_of_ble_eq_true rfl, Nat.le_of_ble_eq_true rfl⟩) (pre_V X hwX _ hFX.1 (by decide) rfl) rfl rfl hl.1 rfl (lv_room (Nat.le_of_ble_eq_true rfl)) dL_law_1274 ⟨Nat.le_of_ble_eq_true rfl, Nat.le_of_ble_eq_true rfl⟩) 173 193079 (Nat.le_of_ble_eq_true rfl) (Nat.le_of_ble_eq_true rfl) (fun rr_1274 S2 H locs hp_1274 hw2 hfr hnw => ?_)
  have hwM := Wd_keep hwM hfr hdM hw2.2.2
  clear hwX
  refine lv_aload_n X.1 X.2.1 dL_law_1277 rfl (lv_at hl 2 rfl) ?_
  refine lv_aload_n X.1 X.2.1 dL_law_1278 rfl (lv_at hl 4 rfl) ?_
  refine lv_iload X.1 X.2.1 dL_law_1279 (lv_at hl 0 rfl) ?_
  refine lv_iconst (v := 1) X.1 X.2.1 dL_law_1281 (by decide) ?_
  refine lv_iadd X.1 X.2.1 dL_law_1282 ?_
  refine lv_topi (fun v_148 ev_148 => ?_)
  obtain rfl : v_148 = 1 := ev_148.trans (by decide +kernel)
  refine va_sld X.1 X.2.1 hX hbl hbA hwM.2.2 (vp_in_iff.mpr (by decide +kernel)) dL_law_1283 ?_
  refine lv_aload_n X.1 X.2.1 dL_law_1284 rfl (lv_at hl 4 rfl) ?_
  refine lv_iload X.1 X.2.1 dL_law_1285 (lv_at hl 0 rfl) ?_
  refine lv_iconst (v := 2) X.1 X.2.1 dL_law_1287 (by decide) ?_
  refine lv_iadd X.1 X.2.1 dL_law_1288 ?_
  refine lv_topi (fun v_149 ev_149 => ?_)
  obtain rfl : v_149 = 2 := ev_149.trans (by decide +kernel)
  refine va_sld X.1 X.2.1 hX hbl hbA hwM.2.2 (vp_in_iff.mpr (by decide +kernel)) dL_law_1289 ?_
  refine k_i (rm := { frames := 5, cells := 0, slots := 0, locals := 200 }) (av := [.ref mo, .int (xs (Int32.toNatClampNeg 1)), .int (xs (Int32.toNatClampNeg 2))]) X hwM (va_runV (As := [.int (xs (Int32.toNatClampNeg 1)), .int (xs (Int32.toNatClampNeg 2))]) (rest := [.int (rr_1274)]) (cfix X) (c_X12_number_ l G cy SM _ mo (xs (Int32.toNatClampNeg 1)) (xs (Int32.toNatClampNeg 2)) hFM) (cwV 2 X.2.2.2.1 gk_X12_number_ rfl rfl rfl (by decide +kernel) ⟨Nat.le_of_ble_eq_true rfl, Nat.le_of_ble_eq_true rfl⟩) (pre_V X hwM _ hFM.1 (by decide) rfl) rfl rfl hl.1 rfl (lv_room (Nat.le_of_ble_eq_true rfl)) dL_law_1290 ⟨Nat.le_of_ble_eq_true rfl, Nat.le_of_ble_eq_true rfl⟩) 173 193079 (Nat.le_of_ble_eq_true rfl) (Nat.le_of_ble_eq_true rfl) (fun rr_1290 S2 H locs hp_1290 hw2 hfr hnw => ?_)
  have hwM := hw2
  refine lv_icmp_eq (tgt := 1561) X.1 X.2.1 dL_law_1293 (by decide) (fun c_1293 => ?_) (fun c_1293 => absurd (hp_1274.trans hp_1290.symm) c_1293)
  refine lv_iinc (v := 6) (lv' := [(4, .int 6), (3, .ref outq), (2, .ref mo), (1, .ref x), (0, .ref b)]) X.1 X.2.1 dL_law_1561 hl (k := 0) rfl (by decide) (by decide) rfl (fun ls hl => ?_)
  refine lv_goto (tgt := 23) X.1 X.2.1 dL_law_1564 (by decide) ?_
  refine lv_iload X.1 X.2.1 dL_law_23 (lv_at hl 0 rfl) ?_
  refine lv_aload_n X.1 X.2.1 dL_law_25 rfl (lv_at hl 4 rfl) ?_
  refine va_slen X.1 X.2.1 hX hbl hbA hwM.2.2 dL_law_26 ?_
  refine lv_topi (fun lv_26 elv_26 => ?_)
  obtain rfl : lv_26 = 6 := elv_26.trans (by decide +kernel)
  refine lv_bipush (v := 6) X.1 X.2.1 dL_law_27 (by decide) ?_
  refine lv_isub X.1 X.2.1 dL_law_29 ?_
  refine lv_topi (fun v_150 ev_150 => ?_)
  obtain rfl : v_150 = 0 := ev_150.trans (by decide +kernel)
  refine lv_icmp_gt (tgt := 1567) X.1 X.2.1 dL_law_30 (by decide) (fun c_30 => ?_) (fun c_30 => absurd c_30 (by decide))
  refine lv_iconst (v := 1) X.1 X.2.1 dL_law_1567 (by decide) ?_
  refine va_forget (fun q hq => hwM.2.2.2.2 q hq) ?_
  refine W.widen (k := 600002) (n := 7302232) (Nat.le_of_ble_eq_true rfl) (Nat.le_of_ble_eq_true rfl) ?_
  exact lw_ret X.1 X.2.1 hr hlocks dL_law_1568
set_option maxHeartbeats 8000000 in
set_option maxRecDepth 100000 in
theorem lc_24 {p : Program} {l : Launch} {e : Env} {s : State} {m : MethodId} {below : List Frame} {meth : Method} {c : Code} (hst : l.stackTraces = false) {b x mo outq : Nat} {xs : Nat → Int32} {G : va_G} {cy : Nat → ClassId} (X : Cx p c cL_law 7 s #[Value.ref b] lw_tbl RL m G cy (fun q : Nat => s.heap.size ≤ q)) (hr : meth.sig.returnType = ret) (hlocks : meth.locks = false) (hX : va_X b 6 xs s s.heap) (hbl : b < s.heap.size) (hbA : ¬ (fun q : Nat => s.heap.size ≤ q) b) (hZ : Zs (fun q : Nat => s.heap.size ≤ q) s s.heap) (sa_L_fineness sa_L_in : Nat) (hStr_L_fineness : vk_R RX11 104 "there is no such place of a cocoon" sa_L_fineness s) (hStr_L_in : vk_R RX11 221 "there is no such cocoon in a pot" sa_L_in s) (hdc : ∀ Y ∈ DcL, va_Nw (.declares (Bundle.initS Y)) s) {SX SM : PS} {H : Heap} {locs : List Loc} {ls : Array Slot} (hwX : Wd G cy (fun q : Nat => s.heap.size ≤ q) s.heap SX H locs) (hwM : Wd G cy (fun q : Nat => s.heap.size ≤ q) s.heap SM H locs) (hdM : ∀ q ∈ pL SM, q ∉ pL SX) (hFX : FX SX x) (hFM : FM SM mo) (hl : lv_has ls 7 [(4, .int 0), (3, .ref outq), (2, .ref mo), (1, .ref x), (0, .ref b)]) : W p l e room_1 s m #[Value.ref b] below meth c H locs 173 193079 (lw_Z below #[Value.ref b] s) (F0 m 1298 ls []) := by
  refine lv_aload_n X.1 X.2.1 dL_law_1298 rfl (lv_at hl 3 rfl) ?_
  refine lv_aload_n X.1 X.2.1 dL_law_1299 rfl (lv_at hl 4 rfl) ?_
  refine lv_iload X.1 X.2.1 dL_law_1300 (lv_at hl 0 rfl) ?_
  refine lv_iconst (v := 1) X.1 X.2.1 dL_law_1302 (by decide) ?_
  refine lv_iadd X.1 X.2.1 dL_law_1303 ?_
  refine lv_topi (fun v_151 ev_151 => ?_)
  obtain rfl : v_151 = 1 := ev_151.trans (by decide +kernel)
  refine va_sld X.1 X.2.1 hX hbl hbA hwM.2.2 (vp_in_iff.mpr (by decide +kernel)) dL_law_1304 ?_
  refine lv_aload_n X.1 X.2.1 dL_law_1305 rfl (lv_at hl 4 rfl) ?_
  refine lv_iload X.1 X.2.1 dL_law_1306 (lv_at hl 0 rfl) ?_
  refine lv_iconst (v := 2) X.1 X.2.1 dL_law_1308 (by decide) ?_
  refine lv_iadd X.1 X.2.1 dL_law_1309 ?_
  refine lv_topi (fun v_152 ev_152 => ?_)
  obtain rfl : v_152 = 2 := ev_152.trans (by decide +kernel)
  refine va_sld X.1 X.2.1 hX hbl hbA hwM.2.2 (vp_in_iff.mpr (by decide +kernel)) dL_law_1310 ?_
  refine k_i (rm := { frames := 4, cells := 0, slots := 0, locals := 160 }) (av := [.ref x, .int (xs (Int32.toNatClampNeg 1)), .int (xs (Int32.toNatClampNeg 2))]) X hwX (va_runV (As := [.int (xs (Int32.toNatClampNeg 1)), .int (xs (Int32.toNatClampNeg 2))]) (rest := []) (cfix X) (c_X11_price l G cy SX _ x (xs (Int32.toNatClampNeg 1)) (xs (Int32.toNatClampNeg 2)) hFX) (cwV 2 X.2.2.2.1 gk_X11_price rfl rfl rfl (by decide +kernel) ⟨Nat.le_of_ble_eq_true rfl, Nat.le_of_ble_eq_true rfl⟩) (pre_V X hwX _ hFX.1 (by decide) rfl) rfl rfl hl.1 rfl (lv_room (Nat.le_of_ble_eq_true rfl)) dL_law_1311 ⟨Nat.le_of_ble_eq_true rfl, Nat.le_of_ble_eq_true rfl⟩) 173 193079 (Nat.le_of_ble_eq_true rfl) (Nat.le_of_ble_eq_true rfl) (fun rr_1311 S2 H locs hp_1311 hw2 hfr hnw => ?_)
  have hwM := Wd_keep hwM hfr hdM hw2.2.2
  clear hwX
  refine lv_aload_n X.1 X.2.1 dL_law_1314 rfl (lv_at hl 2 rfl) ?_
  refine lv_aload_n X.1 X.2.1 dL_law_1315 rfl (lv_at hl 4 rfl) ?_
  refine lv_iload X.1 X.2.1 dL_law_1316 (lv_at hl 0 rfl) ?_
  refine lv_iconst (v := 1) X.1 X.2.1 dL_law_1318 (by decide) ?_
  refine lv_iadd X.1 X.2.1 dL_law_1319 ?_
  refine lv_topi (fun v_153 ev_153 => ?_)
  obtain rfl : v_153 = 1 := ev_153.trans (by decide +kernel)
  refine va_sld X.1 X.2.1 hX hbl hbA hwM.2.2 (vp_in_iff.mpr (by decide +kernel)) dL_law_1320 ?_
  refine lv_aload_n X.1 X.2.1 dL_law_1321 rfl (lv_at hl 4 rfl) ?_
  refine lv_iload X.1 X.2.1 dL_law_1322 (lv_at hl 0 rfl) ?_
  refine lv_iconst (v := 2) X.1 X.2.1 dL_law_1324 (by decide) ?_
  refine lv_iadd X.1 X.2.1 dL_law_1325 ?_
  refine lv_topi (fun v_154 ev_154 => ?_)
  obtain rfl : v_154 = 2 := ev_154.trans (by decide +kernel)
  refine va_sld X.1 X.2.1 hX hbl hbA hwM.2.2 (vp_in_iff.mpr (by decide +kernel)) dL_law_1326 ?_
  refine k_i (rm := { frames := 5, cells := 0, slots := 0, locals := 200 }) (av := [.ref mo, .int (xs (Int32.toNatClampNeg 1)), .int (xs (Int32.toNatClampNeg 2))]) X hwM (va_runV (As := [.int (xs (Int32.toNatClampNeg 1)), .int (xs (Int32.toNatClampNeg 2))]) (rest := [.int (rr_1311)]) (cfix X) (c_X12_price l G cy SM _ mo (xs (Int32.toNatClampNeg 1)) (xs (Int32.toNatClampNeg 2)) hFM) (cwV 2 X.2.2.2.1 gk_X12_price rfl rfl rfl (by decide +kernel) ⟨Nat.le_of_ble_eq_true rfl, Nat.le_of_ble_eq_true rfl⟩) (pre_V X hwM _ hFM.1 (by decide) rfl) rfl rfl hl.1 rfl (lv_room (Nat.le_of_ble_eq_true rfl)) dL_law_1327 ⟨Nat.le_of_ble_eq_true rfl, Nat.le_of_ble_eq_true rfl⟩) 173 193079 (Nat.le_of_ble_eq_true rfl) (Nat.le_of_ble_eq_true rfl) (fun rr_1327 S2 H locs hp_1327 hw2 hfr hnw => ?_)
  have hwM := hw2
  refine lv_icmp_eq (tgt := 1561) X.1 X.2.1 dL_law_1330 (by decide) (fun c_1330 => ?_) (fun c_1330 => absurd (hp_1311.trans hp_1327.symm) c_1330)
  refine lv_iinc (v := 6) (lv' := [(4, .int 6), (3, .ref outq), (2, .ref mo), (1, .ref x), (0, .ref b)]) X.1 X.2.1 dL_law_1561 hl (k := 0) rfl (by decide) (by decide) rfl (fun ls hl => ?_)
  refine lv_goto (tgt := 23) X.1 X.2.1 dL_law_1564 (by decide) ?_
  refine lv_iload X.1 X.2.1 dL_law_23 (lv_at hl 0 rfl) ?_
  refine lv_aload_n X.1 X.2.1 dL_law_25 rfl (lv_at hl 4 rfl) ?_
  refine va_slen X.1 X.2.1 hX hbl hbA hwM.2.2 dL_law_26 ?_
  refine lv_topi (fun lv_26 elv_26 => ?_)
  obtain rfl : lv_26 = 6 := elv_26.trans (by decide +kernel)
  refine lv_bipush (v := 6) X.1 X.2.1 dL_law_27 (by decide) ?_
  refine lv_isub X.1 X.2.1 dL_law_29 ?_
  refine lv_topi (fun v_155 ev_155 => ?_)
  obtain rfl : v_155 = 0 := ev_155.trans (by decide +kernel)
  refine lv_icmp_gt (tgt := 1567) X.1 X.2.1 dL_law_30 (by decide) (fun c_30 => ?_) (fun c_30 => absurd c_30 (by decide))
  refine lv_iconst (v := 1) X.1 X.2.1 dL_law_1567 (by decide) ?_
  refine va_forget (fun q hq => hwM.2.2.2.2 q hq) ?_
  refine W.widen (k := 600002) (n := 7302232) (Nat.le_of_ble_eq_true rfl) (Nat.le_of_ble_eq_true rfl) ?_
  exact lw_ret X.1 X.2.1 hr hlocks dL_law_1568
set_option maxHeartbeats 8000000 in
set_option maxRecDepth 100000 in
theorem lc_25 {p : Program} {l : Launch} {e : Env} {s : State} {m : MethodId} {below : List Frame} {meth : Method} {c : Code} (hst : l.stackTraces = false) {b x mo outq : Nat} {xs : Nat → Int32} {G : va_G} {cy : Nat → ClassId} (X : Cx p c cL_law 7 s #[Value.ref b] lw_tbl RL m G cy (fun q : Nat => s.heap.size ≤ q)) (hr : meth.sig.returnType = ret) (hlocks : meth.locks = false) (hX : va_X b 6 xs s s.heap) (hbl : b < s.heap.size) (hbA : ¬ (fun q : Nat => s.heap.size ≤ q) b) (hZ : Zs (fun q : Nat => s.heap.size ≤ q) s s.heap) (sa_L_fineness sa_L_in : Nat) (hStr_L_fineness : vk_R RX11 104 "there is no such place of a cocoon" sa_L_fineness s) (hStr_L_in : vk_R RX11 221 "there is no such cocoon in a pot" sa_L_in s) (hdc : ∀ Y ∈ DcL, va_Nw (.declares (Bundle.initS Y)) s) {SX SM : PS} {H : Heap} {locs : List Loc} {ls : Array Slot} (hwX : Wd G cy (fun q : Nat => s.heap.size ≤ q) s.heap SX H locs) (hwM : Wd G cy (fun q : Nat => s.heap.size ≤ q) s.heap SM H locs) (hdM : ∀ q ∈ pL SM, q ∉ pL SX) (hFX : FX SX x) (hFM : FM SM mo) (hl : lv_has ls 7 [(4, .int 0), (3, .ref outq), (2, .ref mo), (1, .ref x), (0, .ref b)]) : W p l e room_1 s m #[Value.ref b] below meth c H locs 173 193079 (lw_Z below #[Value.ref b] s) (F0 m 1335 ls []) := by
  refine lv_aload_n X.1 X.2.1 dL_law_1335 rfl (lv_at hl 3 rfl) ?_
  refine lv_aload_n X.1 X.2.1 dL_law_1336 rfl (lv_at hl 4 rfl) ?_
  refine lv_iload X.1 X.2.1 dL_law_1337 (lv_at hl 0 rfl) ?_
  refine lv_iconst (v := 1) X.1 X.2.1 dL_law_1339 (by decide) ?_
  refine lv_iadd X.1 X.2.1 dL_law_1340 ?_
  refine lv_topi (fun v_156 ev_156 => ?_)
  obtain rfl : v_156 = 1 := ev_156.trans (by decide +kernel)
  refine va_sld X.1 X.2.1 hX hbl hbA hwM.2.2 (vp_in_iff.mpr (by decide +kernel)) dL_law_1341 ?_
  refine lv_aload_n X.1 X.2.1 dL_law_1342 rfl (lv_at hl 4 rfl) ?_
  refine lv_iload X.1 X.2.1 dL_law_1343 (lv_at hl 0 rfl) ?_
  refine lv_iconst (v := 2) X.1 X.2.1 dL_law_1345 (by decide) ?_
  refine lv_iadd X.1 X.2.1 dL_law_1346 ?_
  refine lv_topi (fun v_157 ev_157 => ?_)
  obtain rfl : v_157 = 2 := ev_157.trans (by decide +kernel)
  refine va_sld X.1 X.2.1 hX hbl hbA hwM.2.2 (vp_in_iff.mpr (by decide +kernel)) dL_law_1347 ?_
  refine lv_aload_n X.1 X.2.1 dL_law_1348 rfl (lv_at hl 4 rfl) ?_
  refine lv_iload X.1 X.2.1 dL_law_1349 (lv_at hl 0 rfl) ?_
  refine lv_iconst (v := 3) X.1 X.2.1 dL_law_1351 (by decide) ?_
  refine lv_iadd X.1 X.2.1 dL_law_1352 ?_
  refine lv_topi (fun v_158 ev_158 => ?_)
  obtain rfl : v_158 = 3 := ev_158.trans (by decide +kernel)
  refine va_sld X.1 X.2.1 hX hbl hbA hwM.2.2 (vp_in_iff.mpr (by decide +kernel)) dL_law_1353 ?_
  refine lv_aload_n X.1 X.2.1 dL_law_1354 rfl (lv_at hl 4 rfl) ?_
  refine lv_iload X.1 X.2.1 dL_law_1355 (lv_at hl 0 rfl) ?_
  refine lv_iconst (v := 4) X.1 X.2.1 dL_law_1357 (by decide) ?_
  refine lv_iadd X.1 X.2.1 dL_law_1358 ?_
  refine lv_topi (fun v_159 ev_159 => ?_)
  obtain rfl : v_159 = 4 := ev_159.trans (by decide +kernel)
  refine va_sld X.1 X.2.1 hX hbl hbA hwM.2.2 (vp_in_iff.mpr (by decide +kernel)) dL_law_1359 ?_
  refine lv_if_eq (tgt := 1367) X.1 X.2.1 dL_law_1360 (by decide) (fun c_1360 => ?_) (fun c_1360 => ?_)
  · have z_1360 := trivial
    refine lv_iconst (v := 0) X.1 X.2.1 dL_law_1367 (by decide) ?_
    refine k_i (rm := { frames := 4, cells := 0, slots := 0, locals := 160 }) (av := [.ref x, .int (xs (Int32.toNatClampNeg 1)), .int (xs (Int32.toNatClampNeg 2)), .int (xs (Int32.toNatClampNeg 3)), .int 0]) X hwX (va_runV (As := [.int (xs (Int32.toNatClampNeg 1)), .int (xs (Int32.toNatClampNeg 2)), .int (xs (Int32.toNatClampNeg 3)), .int 0]) (rest := []) (cfix X) (c_X11_mix l G cy SX _ x (xs (Int32.toNatClampNeg 1)) (xs (Int32.toNatClampNeg 2)) (xs (Int32.toNatClampNeg 3)) (0) hFX) (cwV 4 X.2.2.2.1 gk_X11_mix rfl rfl rfl (by decide +kernel) ⟨Nat.le_of_ble_eq_true rfl, Nat.le_of_ble_eq_true rfl⟩) (pre_V X hwX _ hFX.1 (by decide) rfl) rfl rfl hl.1 rfl (lv_room (Nat.le_of_ble_eq_true rfl)) dL_law_1368 ⟨Nat.le_of_ble_eq_true rfl, Nat.le_of_ble_eq_true rfl⟩) 173 193079 (Nat.le_of_ble_eq_true rfl) (Nat.le_of_ble_eq_true rfl) (fun rr_1368 S2 H locs hp_1368 hw2 hfr hnw => ?_)
    have hwM := Wd_keep hwM hfr hdM hw2.2.2
    clear hwX
    refine lv_aload_n X.1 X.2.1 dL_law_1371 rfl (lv_at hl 2 rfl) ?_
    refine lv_aload_n X.1 X.2.1 dL_law_1372 rfl (lv_at hl 4 rfl) ?_
    refine lv_iload X.1 X.2.1 dL_law_1373 (lv_at hl 0 rfl) ?_
    refine lv_iconst (v := 1) X.1 X.2.1 dL_law_1375 (by decide) ?_
    refine lv_iadd X.1 X.2.1 dL_law_1376 ?_
    refine lv_topi (fun v_160 ev_160 => ?_)
    obtain rfl : v_160 = 1 := ev_160.trans (by decide +kernel)
    refine va_sld X.1 X.2.1 hX hbl hbA hwM.2.2 (vp_in_iff.mpr (by decide +kernel)) dL_law_1377 ?_
    refine lv_aload_n X.1 X.2.1 dL_law_1378 rfl (lv_at hl 4 rfl) ?_
    refine lv_iload X.1 X.2.1 dL_law_1379 (lv_at hl 0 rfl) ?_
    refine lv_iconst (v := 2) X.1 X.2.1 dL_law_1381 (by decide) ?_
    refine lv_iadd X.1 X.2.1 dL_law_1382 ?_
    refine lv_topi (fun v_161 ev_161 => ?_)
    obtain rfl : v_161 = 2 := ev_161.trans (by decide +kernel)
    refine va_sld X.1 X.2.1 hX hbl hbA hwM.2.2 (vp_in_iff.mpr (by decide +kernel)) dL_law_1383 ?_
    refine lv_aload_n X.1 X.2.1 dL_law_1384 rfl (lv_at hl 4 rfl) ?_
    refine lv_iload X.1 X.2.1 dL_law_1385 (lv_at hl 0 rfl) ?_
    refine lv_iconst (v := 3) X.1 X.2.1 dL_law_1387 (by decide) ?_
    refine lv_iadd X.1 X.2.1 dL_law_1388 ?_
    refine lv_topi (fun v_162 ev_162 => ?_)
    obtain rfl : v_162 = 3 := ev_162.trans (by decide +kernel)
    refine va_sld X.1 X.2.1 hX hbl hbA hwM.2.2 (vp_in_iff.mpr (by decide +kernel)) dL_law_1389 ?_
    refine lv_aload_n X.1 X.2.1 dL_law_1390 rfl (lv_at hl 4 rfl) ?_
    refine lv_iload X.1 X.2.1 dL_law_1391 (lv_at hl 0 rfl) ?_
    refine lv_iconst (v := 4) X.1 X.2.1 dL_law_1393 (by decide) ?_
    refine lv_iadd X.1 X.2.1 dL_law_1394 ?_
    refine lv_topi (fun v_163 ev_163 => ?_)
    obtain rfl : v_163 = 4 := ev_163.trans (by decide +kernel)
    refine va_sld X.1 X.2.1 hX hbl hbA hwM.2.2 (vp_in_iff.mpr (by decide +kernel)) dL_law_1395 ?_
    refine lv_if_eq (tgt := 1403) X.1 X.2.1 dL_law_1396 (by decide) (fun c_1396 => ?_) (fun c_1396 => ?_)
    · have z_1396 := trivial
      refine lv_iconst (v := 0) X.1 X.2.1 dL_law_1403 (by decide) ?_
      refine k_i (rm := { frames := 5, cells := 0, slots := 0, locals := 200 }) (av := [.ref mo, .int (xs (Int32.toNatClampNeg 1)), .int (xs (Int32.toNatClampNeg 2)), .int (xs (Int32.toNatClampNeg 3)), .int 0]) X hwM (va_runV (As := [.int (xs (Int32.toNatClampNeg 1)), .int (xs (Int32.toNatClampNeg 2)), .int (xs (Int32.toNatClampNeg 3)), .int 0]) (rest := [.int (rr_1368)]) (cfix X) (c_X12_mix l G cy SM _ mo (xs (Int32.toNatClampNeg 1)) (xs (Int32.toNatClampNeg 2)) (xs (Int32.toNatClampNeg 3)) (0) hFM) (cwV 4 X.2.2.2.1 gk_X12_mix rfl rfl rfl (by decide +kernel) ⟨Nat.le_of_ble_eq_true rfl, Nat.le_of_ble_eq_true rfl⟩) (pre_V X hwM _ hFM.1 (by decide) rfl) rfl rfl hl.1 rfl (lv_room (Nat.le_of_ble_eq_true rfl)) dL_law_1404 ⟨Nat.le_of_ble_eq_true rfl, Nat.le_of_ble_eq_true rfl⟩) 173 193079 (Nat.le_of_ble_eq_true rfl) (Nat.le_of_ble_eq_true rfl) (fun rr_1404 S2 H locs hp_1404 hw2 hfr hnw => ?_)
      have hwM := hw2
      refine lv_icmp_eq (tgt := 1561) X.1 X.2.1 dL_law_1407 (by decide) (fun c_1407 => ?_) (fun c_1407 => absurd (hp_1368.trans hp_1404.symm) c_1407)
      refine lv_iinc (v := 6) (lv' := [(4, .int 6), (3, .ref outq), (2, .ref mo), (1, .ref x), (0, .ref b)]) X.1 X.2.1 dL_law_1561 hl (k := 0) rfl (by decide) (by decide) rfl (fun ls hl => ?_)
      refine lv_goto (tgt := 23) X.1 X.2.1 dL_law_1564 (by decide) ?_
      refine lv_iload X.1 X.2.1 dL_law_23 (lv_at hl 0 rfl) ?_
      refine lv_aload_n X.1 X.2.1 dL_law_25 rfl (lv_at hl 4 rfl) ?_
      refine va_slen X.1 X.2.1 hX hbl hbA hwM.2.2 dL_law_26 ?_
      refine lv_topi (fun lv_26 elv_26 => ?_)
      obtain rfl : lv_26 = 6 := elv_26.trans (by decide +kernel)
      refine lv_bipush (v := 6) X.1 X.2.1 dL_law_27 (by decide) ?_
      refine lv_isub X.1 X.2.1 dL_law_29 ?_
      refine lv_topi (fun v_164 ev_164 => ?_)
      obtain rfl : v_164 = 0 := ev_164.trans (by decide +kernel)
      refine lv_icmp_gt (tgt := 1567) X.1 X.2.1 dL_law_30 (by decide) (fun c_30 => ?_) (fun c_30 => absurd c_30 (by decide))
      refine lv_iconst (v := 1) X.1 X.2.1 dL_law_1567 (by decide) ?_
      refine va_forget (fun q hq => hwM.2.2.2.2 q hq) ?_
      refine W.widen (k := 600002) (n := 7302232) (Nat.le_of_ble_eq_true rfl) (Nat.le_of_ble_eq_true rfl) ?_
      exact lw_ret X.1 X.2.1 hr hlocks dL_law_1568
    · have z_1396 := trivial
      refine lv_iconst (v := 1) X.1 X.2.1 dL_law_1399 (by decide) ?_
      refine lv_goto (tgt := 1404) X.1 X.2.1 dL_law_1400 (by decide) ?_
      refine k_i (rm := { frames := 5, cells := 0, slots := 0, locals := 200 }) (av := [.ref mo, .int (xs (Int32.toNatClampNeg 1)), .int (xs (Int32.toNatClampNeg 2)), .int (xs (Int32.toNatClampNeg 3)), .int 1]) X hwM (va_runV (As := [.int (xs (Int32.toNatClampNeg 1)), .int (xs (Int32.toNatClampNeg 2)), .int (xs (Int32.toNatClampNeg 3)), .int 1]) (rest := [.int (rr_1368)]) (cfix X) (c_X12_mix l G cy SM _ mo (xs (Int32.toNatClampNeg 1)) (xs (Int32.toNatClampNeg 2)) (xs (Int32.toNatClampNeg 3)) (1) hFM) (cwV 4 X.2.2.2.1 gk_X12_mix rfl rfl rfl (by decide +kernel) ⟨Nat.le_of_ble_eq_true rfl, Nat.le_of_ble_eq_true rfl⟩) (pre_V X hwM _ hFM.1 (by decide) rfl) rfl rfl hl.1 rfl (lv_room (Nat.le_of_ble_eq_true rfl)) dL_law_1404 ⟨Nat.le_of_ble_eq_true rfl, Nat.le_of_ble_eq_true rfl⟩) 173 193079 (Nat.le_of_ble_eq_true rfl) (Nat.le_of_ble_eq_true rfl) (fun rr_1404 S2 H locs hp_1404 hw2 hfr hnw => ?_)
      have hwM := hw2
      refine lv_icmp_eq (tgt := 1561) X.1 X.2.1 dL_law_1407 (by decide) (fun c_1407 => ?_) (fun c_1407 => absurd (hp_1368.trans hp_1404.symm) c_1407)
      refine lv_iinc (v := 6) (lv' := [(4, .int 6), (3, .ref outq), (2, .ref mo), (1, .ref x), (0, .ref b)]) X.1 X.2.1 dL_law_1561 hl (k := 0) rfl (by decide) (by decide) rfl (fun ls hl => ?_)
      refine lv_goto (tgt := 23) X.1 X.2.1 dL_law_1564 (by decide) ?_
      refine lv_iload X.1 X.2.1 dL_law_23 (lv_at hl 0 rfl) ?_
      refine lv_aload_n X.1 X.2.1 dL_law_25 rfl (lv_at hl 4 rfl) ?_
      refine va_slen X.1 X.2.1 hX hbl hbA hwM.2.2 dL_law_26 ?_
      refine lv_topi (fun lv_26 elv_26 => ?_)
      obtain rfl : lv_26 = 6 := elv_26.trans (by decide +kernel)
      refine lv_bipush (v := 6) X.1 X.2.1 dL_law_27 (by decide) ?_
      refine lv_isub X.1 X.2.1 dL_law_29 ?_
      refine lv_topi (fun v_165 ev_165 => ?_)
      obtain rfl : v_165 = 0 := ev_165.trans (by decide +kernel)
      refine lv_icmp_gt (tgt := 1567) X.1 X.2.1 dL_law_30 (by decide) (fun c_30 => ?_) (fun c_30 => absurd c_30 (by decide))
      refine lv_iconst (v := 1) X.1 X.2.1 dL_law_1567 (by decide) ?_
      refine va_forget (fun q hq => hwM.2.2.2.2 q hq) ?_
      refine W.widen (k := 600002) (n := 7302232) (Nat.le_of_ble_eq_true rfl) (Nat.le_of_ble_eq_true rfl) ?_
      exact lw_ret X.1 X.2.1 hr hlocks dL_law_1568
  · have z_1360 := trivial
    refine lv_iconst (v := 1) X.1 X.2.1 dL_law_1363 (by decide) ?_
    refine lv_goto (tgt := 1368) X.1 X.2.1 dL_law_1364 (by decide) ?_
    refine k_i (rm := { frames := 4, cells := 0, slots := 0, locals := 160 }) (av := [.ref x, .int (xs (Int32.toNatClampNeg 1)), .int (xs (Int32.toNatClampNeg 2)), .int (xs (Int32.toNatClampNeg 3)), .int 1]) X hwX (va_runV (As := [.int (xs (Int32.toNatClampNeg 1)), .int (xs (Int32.toNatClampNeg 2)), .int (xs (Int32.toNatClampNeg 3)), .int 1]) (rest := []) (cfix X) (c_X11_mix l G cy SX _ x (xs (Int32.toNatClampNeg 1)) (xs (Int32.toNatClampNeg 2)) (xs (Int32.toNatClampNeg 3)) (1) hFX) (cwV 4 X.2.2.2.1 gk_X11_mix rfl rfl rfl (by decide +kernel) ⟨Nat.le_of_ble_eq_true rfl, Nat.le_of_ble_eq_true rfl⟩) (pre_V X hwX _ hFX.1 (by decide) rfl) rfl rfl hl.1 rfl (lv_room (Nat.le_of_ble_eq_true rfl)) dL_law_1368 ⟨Nat.le_of_ble_eq_true rfl, Nat.le_of_ble_eq_true rfl⟩) 173 193079 (Nat.le_of_ble_eq_true rfl) (Nat.le_of_ble_eq_true rfl) (fun rr_1368 S2 H locs hp_1368 hw2 hfr hnw => ?_)
    have hwM := Wd_keep hwM hfr hdM hw2.2.2
    clear hwX
    refine lv_aload_n X.1 X.2.1 dL_law_1371 rfl (lv_at hl 2 rfl) ?_
    refine lv_aload_n X.1 X.2.1 dL_law_1372 rfl (lv_at hl 4 rfl) ?_
    refine lv_iload X.1 X.2.1 dL_law_1373 (lv_at hl 0 rfl) ?_
    refine lv_iconst (v := 1) X.1 X.2.1 dL_law_1375 (by decide) ?_
    refine lv_iadd X.1 X.2.1 dL_law_1376 ?_
    refine lv_topi (fun v_166 ev_166 => ?_)
    obtain rfl : v_166 = 1 := ev_166.trans (by decide +kernel)
    refine va_sld X.1 X.2.1 hX hbl hbA hwM.2.2 (vp_in_iff.mpr (by decide +kernel)) dL_law_1377 ?_
    refine lv_aload_n X.1 X.2.1 dL_law_1378 rfl (lv_at hl 4 rfl) ?_
    refine lv_iload X.1 X.2.1 dL_law_1379 (lv_at hl 0 rfl) ?_
    refine lv_iconst (v := 2) X.1 X.2.1 dL_law_1381 (by decide) ?_
    refine lv_iadd X.1 X.2.1 dL_law_1382 ?_
    refine lv_topi (fun v_167 ev_167 => ?_)
    obtain rfl : v_167 = 2 := ev_167.trans (by decide +kernel)
    refine va_sld X.1 X.2.1 hX hbl hbA hwM.2.2 (vp_in_iff.mpr (by decide +kernel)) dL_law_1383 ?_
    refine lv_aload_n X.1 X.2.1 dL_law_1384 rfl (lv_at hl 4 rfl) ?_
    refine lv_iload X.1 X.2.1 dL_law_1385 (lv_at hl 0 rfl) ?_
    refine lv_iconst (v := 3) X.1 X.2.1 dL_law_1387 (by decide) ?_
    refine lv_iadd X.1 X.2.1 dL_law_1388 ?_
    refine lv_topi (fun v_168 ev_168 => ?_)
    obtain rfl : v_168 = 3 := ev_168.trans (by decide +kernel)
    refine va_sld X.1 X.2.1 hX hbl hbA hwM.2.2 (vp_in_iff.mpr (by decide +kernel)) dL_law_1389 ?_
    refine lv_aload_n X.1 X.2.1 dL_law_1390 rfl (lv_at hl 4 rfl) ?_
    refine lv_iload X.1 X.2.1 dL_law_1391 (lv_at hl 0 rfl) ?_
    refine lv_iconst (v := 4) X.1 X.2.1 dL_law_1393 (by decide) ?_
    refine lv_iadd X.1 X.2.1 dL_law_1394 ?_
    refine lv_topi (fun v_169 ev_169 => ?_)
    obtain rfl : v_169 = 4 := ev_169.trans (by decide +kernel)
    refine va_sld X.1 X.2.1 hX hbl hbA hwM.2.2 (vp_in_iff.mpr (by decide +kernel)) dL_law_1395 ?_
    refine lv_if_eq (tgt := 1403) X.1 X.2.1 dL_law_1396 (by decide) (fun c_1396 => ?_) (fun c_1396 => ?_)
    · have z_1396 := trivial
      refine lv_iconst (v := 0) X.1 X.2.1 dL_law_1403 (by decide) ?_
      refine k_i (rm := { frames := 5, cells := 0, slots := 0, locals := 200 }) (av := [.ref mo, .int (xs (Int32.toNatClampNeg 1)), .int (xs (Int32.toNatClampNeg 2)), .int (xs (Int32.toNatClampNeg 3)), .int 0]) X hwM (va_runV (As := [.int (xs (Int32.toNatClampNeg 1)), .int (xs (Int32.toNatClampNeg 2)), .int (xs (Int32.toNatClampNeg 3)), .int 0]) (rest := [.int (rr_1368)]) (cfix X) (c_X12_mix l G cy SM _ mo (xs (Int32.toNatClampNeg 1)) (xs (Int32.toNatClampNeg 2)) (xs (Int32.toNatClampNeg 3)) (0) hFM) (cwV 4 X.2.2.2.1 gk_X12_mix rfl rfl rfl (by decide +kernel) ⟨Nat.le_of_ble_eq_true rfl, Nat.le_of_ble_eq_true rfl⟩) (pre_V X hwM _ hFM.1 (by decide) rfl) rfl rfl hl.1 rfl (lv_room (Nat.le_of_ble_eq_true rfl)) dL_law_1404 ⟨Nat.le_of_ble_eq_true rfl, Nat.le_of_ble_eq_true rfl⟩) 173 193079 (Nat.le_of_ble_eq_true rfl) (Nat.le_of_ble_eq_true rfl) (fun rr_1404 S2 H locs hp_1404 hw2 hfr hnw => ?_)
      have hwM := hw2
      refine lv_icmp_eq (tgt := 1561) X.1 X.2.1 dL_law_1407 (by decide) (fun c_1407 => ?_) (fun c_1407 => absurd (hp_1368.trans hp_1404.symm) c_1407)
      refine lv_iinc (v := 6) (lv' := [(4, .int 6), (3, .ref outq), (2, .ref mo), (1, .ref x), (0, .ref b)]) X.1 X.2.1 dL_law_1561 hl (k := 0) rfl (by decide) (by decide) rfl (fun ls hl => ?_)
      refine lv_goto (tgt := 23) X.1 X.2.1 dL_law_1564 (by decide) ?_
      refine lv_iload X.1 X.2.1 dL_law_23 (lv_at hl 0 rfl) ?_
      refine lv_aload_n X.1 X.2.1 dL_law_25 rfl (lv_at hl 4 rfl) ?_
      refine va_slen X.1 X.2.1 hX hbl hbA hwM.2.2 dL_law_26 ?_
      refine lv_topi (fun lv_26 elv_26 => ?_)
      obtain rfl : lv_26 = 6 := elv_26.trans (by decide +kernel)
      refine lv_bipush (v := 6) X.1 X.2.1 dL_law_27 (by decide) ?_
      refine lv_isub X.1 X.2.1 dL_law_29 ?_
      refine lv_topi (fun v_170 ev_170 => ?_)
      obtain rfl : v_170 = 0 := ev_170.trans (by decide +kernel)
      refine lv_icmp_gt (tgt := 1567) X.1 X.2.1 dL_law_30 (by decide) (fun c_30 => ?_) (fun c_30 => absurd c_30 (by decide))
      refine lv_iconst (v := 1) X.1 X.2.1 dL_law_1567 (by decide) ?_
      refine va_forget (fun q hq => hwM.2.2.2.2 q hq) ?_
      refine W.widen (k := 600002) (n := 7302232) (Nat.le_of_ble_eq_true rfl) (Nat.le_of_ble_eq_true rfl) ?_
      exact lw_ret X.1 X.2.1 hr hlocks dL_law_1568
    · have z_1396 := trivial
      refine lv_iconst (v := 1) X.1 X.2.1 dL_law_1399 (by decide) ?_
      refine lv_goto (tgt := 1404) X.1 X.2.1 dL_law_1400 (by decide) ?_
      refine k_i (rm := { frames := 5, cells := 0, slots := 0, locals := 200 }) (av := [.ref mo, .int (xs (Int32.toNatClampNeg 1)), .int (xs (Int32.toNatClampNeg 2)), .int (xs (Int32.toNatClampNeg 3)), .int 1]) X hwM (va_runV (As := [.int (xs (Int32.toNatClampNeg 1)), .int (xs (Int32.toNatClampNeg 2)), .int (xs (Int32.toNatClampNeg 3)), .int 1]) (rest := [.int (rr_1368)]) (cfix X) (c_X12_mix l G cy SM _ mo (xs (Int32.toNatClampNeg 1)) (xs (Int32.toNatClampNeg 2)) (xs (Int32.toNatClampNeg 3)) (1) hFM) (cwV 4 X.2.2.2.1 gk_X12_mix rfl rfl rfl (by decide +kernel) ⟨Nat.le_of_ble_eq_true rfl, Nat.le_of_ble_eq_true rfl⟩) (pre_V X hwM _ hFM.1 (by decide) rfl) rfl rfl hl.1 rfl (lv_room (Nat.le_of_ble_eq_true rfl)) dL_law_1404 ⟨Nat.le_of_ble_eq_true rfl, Nat.le_of_ble_eq_true rfl⟩) 173 193079 (Nat.le_of_ble_eq_true rfl) (Nat.le_of_ble_eq_true rfl) (fun rr_1404 S2 H locs hp_1404 hw2 hfr hnw => ?_)
      have hwM := hw2
      refine lv_icmp_eq (tgt := 1561) X.1 X.2.1 dL_law_1407 (by decide) (fun c_1407 => ?_) (fun c_1407 => absurd (hp_1368.trans hp_1404.symm) c_1407)
      refine lv_iinc (v := 6) (lv' := [(4, .int 6), (3, .ref outq), (2, .ref mo), (1, .ref x), (0, .ref b)]) X.1 X.2.1 dL_law_1561 hl (k := 0) rfl (by decide) (by decide) rfl (fun ls hl => ?_)
      refine lv_goto (tgt := 23) X.1 X.2.1 dL_law_1564 (by decide) ?_
      refine lv_iload X.1 X.2.1 dL_law_23 (lv_at hl 0 rfl) ?_
      refine lv_aload_n X.1 X.2.1 dL_law_25 rfl (lv_at hl 4 rfl) ?_
      refine va_slen X.1 X.2.1 hX hbl hbA hwM.2.2 dL_law_26 ?_
      refine lv_topi (fun lv_26 elv_26 => ?_)
      obtain rfl : lv_26 = 6 := elv_26.trans (by decide +kernel)
      refine lv_bipush (v := 6) X.1 X.2.1 dL_law_27 (by decide) ?_
      refine lv_isub X.1 X.2.1 dL_law_29 ?_
      refine lv_topi (fun v_171 ev_171 => ?_)
      obtain rfl : v_171 = 0 := ev_171.trans (by decide +kernel)
      refine lv_icmp_gt (tgt := 1567) X.1 X.2.1 dL_law_30 (by decide) (fun c_30 => ?_) (fun c_30 => absurd c_30 (by decide))
      refine lv_iconst (v := 1) X.1 X.2.1 dL_law_1567 (by decide) ?_
      refine va_forget (fun q hq => hwM.2.2.2.2 q hq) ?_
      refine W.widen (k := 600002) (n := 7302232) (Nat.le_of_ble_eq_true rfl) (Nat.le_of_ble_eq_true rfl) ?_
      exact lw_ret X.1 X.2.1 hr hlocks dL_law_1568
set_option maxHeartbeats 8000000 in
set_option maxRecDepth 100000 in
theorem lc_26 {p : Program} {l : Launch} {e : Env} {s : State} {m : MethodId} {below : List Frame} {meth : Method} {c : Code} (hst : l.stackTraces = false) {b x mo outq : Nat} {xs : Nat → Int32} {G : va_G} {cy : Nat → ClassId} (X : Cx p c cL_law 7 s #[Value.ref b] lw_tbl RL m G cy (fun q : Nat => s.heap.size ≤ q)) (hr : meth.sig.returnType = ret) (hlocks : meth.locks = false) (hX : va_X b 6 xs s s.heap) (hbl : b < s.heap.size) (hbA : ¬ (fun q : Nat => s.heap.size ≤ q) b) (hZ : Zs (fun q : Nat => s.heap.size ≤ q) s s.heap) (sa_L_fineness sa_L_in : Nat) (hStr_L_fineness : vk_R RX11 104 "there is no such place of a cocoon" sa_L_fineness s) (hStr_L_in : vk_R RX11 221 "there is no such cocoon in a pot" sa_L_in s) (hdc : ∀ Y ∈ DcL, va_Nw (.declares (Bundle.initS Y)) s) {SX SM : PS} {H : Heap} {locs : List Loc} {ls : Array Slot} (hwX : Wd G cy (fun q : Nat => s.heap.size ≤ q) s.heap SX H locs) (hwM : Wd G cy (fun q : Nat => s.heap.size ≤ q) s.heap SM H locs) (hdM : ∀ q ∈ pL SM, q ∉ pL SX) (hFX : FX SX x) (hFM : FM SM mo) (hl : lv_has ls 7 [(4, .int 0), (3, .ref outq), (2, .ref mo), (1, .ref x), (0, .ref b)]) : W p l e room_1 s m #[Value.ref b] below meth c H locs 173 193079 (lw_Z below #[Value.ref b] s) (F0 m 1412 ls []) := by
  refine lv_aload_n X.1 X.2.1 dL_law_1412 rfl (lv_at hl 3 rfl) ?_
  refine lv_aload_n X.1 X.2.1 dL_law_1413 rfl (lv_at hl 4 rfl) ?_
  refine lv_iload X.1 X.2.1 dL_law_1414 (lv_at hl 0 rfl) ?_
  refine lv_iconst (v := 1) X.1 X.2.1 dL_law_1416 (by decide) ?_
  refine lv_iadd X.1 X.2.1 dL_law_1417 ?_
  refine lv_topi (fun v_172 ev_172 => ?_)
  obtain rfl : v_172 = 1 := ev_172.trans (by decide +kernel)
  refine va_sld X.1 X.2.1 hX hbl hbA hwM.2.2 (vp_in_iff.mpr (by decide +kernel)) dL_law_1418 ?_
  refine k_i (rm := { frames := 4, cells := 0, slots := 0, locals := 160 }) (av := [.ref x, .int (xs (Int32.toNatClampNeg 1))]) X hwX (va_runV (As := [.int (xs (Int32.toNatClampNeg 1))]) (rest := []) (cfix X) (c_X11_mixed l G cy SX _ x (xs (Int32.toNatClampNeg 1)) hFX) (cwV 1 X.2.2.2.1 gk_X11_mixed rfl rfl rfl (by decide +kernel) ⟨Nat.le_of_ble_eq_true rfl, Nat.le_of_ble_eq_true rfl⟩) (pre_V X hwX _ hFX.1 (by decide) rfl) rfl rfl hl.1 rfl (lv_room (Nat.le_of_ble_eq_true rfl)) dL_law_1419 ⟨Nat.le_of_ble_eq_true rfl, Nat.le_of_ble_eq_true rfl⟩) 173 193079 (Nat.le_of_ble_eq_true rfl) (Nat.le_of_ble_eq_true rfl) (fun rr_1419 S2 H locs hp_1419 hw2 hfr hnw => ?_)
  have hwM := Wd_keep hwM hfr hdM hw2.2.2
  clear hwX
  refine lv_aload_n X.1 X.2.1 dL_law_1422 rfl (lv_at hl 2 rfl) ?_
  refine lv_aload_n X.1 X.2.1 dL_law_1423 rfl (lv_at hl 4 rfl) ?_
  refine lv_iload X.1 X.2.1 dL_law_1424 (lv_at hl 0 rfl) ?_
  refine lv_iconst (v := 1) X.1 X.2.1 dL_law_1426 (by decide) ?_
  refine lv_iadd X.1 X.2.1 dL_law_1427 ?_
  refine lv_topi (fun v_173 ev_173 => ?_)
  obtain rfl : v_173 = 1 := ev_173.trans (by decide +kernel)
  refine va_sld X.1 X.2.1 hX hbl hbA hwM.2.2 (vp_in_iff.mpr (by decide +kernel)) dL_law_1428 ?_
  refine k_i (rm := { frames := 5, cells := 0, slots := 0, locals := 200 }) (av := [.ref mo, .int (xs (Int32.toNatClampNeg 1))]) X hwM (va_runV (As := [.int (xs (Int32.toNatClampNeg 1))]) (rest := [.int (rr_1419)]) (cfix X) (c_X12_mixed l G cy SM _ mo (xs (Int32.toNatClampNeg 1)) hFM) (cwV 1 X.2.2.2.1 gk_X12_mixed rfl rfl rfl (by decide +kernel) ⟨Nat.le_of_ble_eq_true rfl, Nat.le_of_ble_eq_true rfl⟩) (pre_V X hwM _ hFM.1 (by decide) rfl) rfl rfl hl.1 rfl (lv_room (Nat.le_of_ble_eq_true rfl)) dL_law_1429 ⟨Nat.le_of_ble_eq_true rfl, Nat.le_of_ble_eq_true rfl⟩) 173 193079 (Nat.le_of_ble_eq_true rfl) (Nat.le_of_ble_eq_true rfl) (fun rr_1429 S2 H locs hp_1429 hw2 hfr hnw => ?_)
  have hwM := hw2
  refine lv_icmp_eq (tgt := 1561) X.1 X.2.1 dL_law_1432 (by decide) (fun c_1432 => ?_) (fun c_1432 => absurd (hp_1419.trans hp_1429.symm) c_1432)
  refine lv_iinc (v := 6) (lv' := [(4, .int 6), (3, .ref outq), (2, .ref mo), (1, .ref x), (0, .ref b)]) X.1 X.2.1 dL_law_1561 hl (k := 0) rfl (by decide) (by decide) rfl (fun ls hl => ?_)
  refine lv_goto (tgt := 23) X.1 X.2.1 dL_law_1564 (by decide) ?_
  refine lv_iload X.1 X.2.1 dL_law_23 (lv_at hl 0 rfl) ?_
  refine lv_aload_n X.1 X.2.1 dL_law_25 rfl (lv_at hl 4 rfl) ?_
  refine va_slen X.1 X.2.1 hX hbl hbA hwM.2.2 dL_law_26 ?_
  refine lv_topi (fun lv_26 elv_26 => ?_)
  obtain rfl : lv_26 = 6 := elv_26.trans (by decide +kernel)
  refine lv_bipush (v := 6) X.1 X.2.1 dL_law_27 (by decide) ?_
  refine lv_isub X.1 X.2.1 dL_law_29 ?_
  refine lv_topi (fun v_174 ev_174 => ?_)
  obtain rfl : v_174 = 0 := ev_174.trans (by decide +kernel)
  refine lv_icmp_gt (tgt := 1567) X.1 X.2.1 dL_law_30 (by decide) (fun c_30 => ?_) (fun c_30 => absurd c_30 (by decide))
  refine lv_iconst (v := 1) X.1 X.2.1 dL_law_1567 (by decide) ?_
  refine va_forget (fun q hq => hwM.2.2.2.2 q hq) ?_
  refine W.widen (k := 600002) (n := 7302232) (Nat.le_of_ble_eq_true rfl) (Nat.le_of_ble_eq_true rfl) ?_
  exact lw_ret X.1 X.2.1 hr hlocks dL_law_1568
set_option maxHeartbeats 8000000 in
set_option maxRecDepth 100000 in
theorem lc_27 {p : Program} {l : Launch} {e : Env} {s : State} {m : MethodId} {below : List Frame} {meth : Method} {c : Code} (hst : l.stackTraces = false) {b x mo outq : Nat} {xs : Nat → Int32} {G : va_G} {cy : Nat → ClassId} (X : Cx p c cL_law 7 s #[Value.ref b] lw_tbl RL m G cy (fun q : Nat => s.heap.size ≤ q)) (hr : meth.sig.returnType = ret) (hlocks : meth.locks = false) (hX : va_X b 6 xs s s.heap) (hbl : b < s.heap.size) (hbA : ¬ (fun q : Nat => s.heap.size ≤ q) b) (hZ : Zs (fun q : Nat => s.heap.size ≤ q) s s.heap) (sa_L_fineness sa_L_in : Nat) (hStr_L_fineness : vk_R RX11 104 "there is no such place of a cocoon" sa_L_fineness s) (hStr_L_in : vk_R RX11 221 "there is no such cocoon in a pot" sa_L_in s) (hdc : ∀ Y ∈ DcL, va_Nw (.declares (Bundle.initS Y)) s) {SX SM : PS} {H : Heap} {locs : List Loc} {ls : Array Slot} (hwX : Wd G cy (fun q : Nat => s.heap.size ≤ q) s.heap SX H locs) (hwM : Wd G cy (fun q : Nat => s.heap.size ≤ q) s.heap SM H locs) (hdM : ∀ q ∈ pL SM, q ∉ pL SX) (hFX : FX SX x) (hFM : FM SM mo) (hl : lv_has ls 7 [(4, .int 0), (3, .ref outq), (2, .ref mo), (1, .ref x), (0, .ref b)]) : W p l e room_1 s m #[Value.ref b] below meth c H locs 173 193079 (lw_Z below #[Value.ref b] s) (F0 m 1437 ls []) := by
  refine lv_aload_n X.1 X.2.1 dL_law_1437 rfl (lv_at hl 3 rfl) ?_
  refine k_i (rm := { frames := 4, cells := 0, slots := 0, locals := 160 }) (av := [.ref x]) X hwX (va_runV (As := []) (rest := []) (cfix X) (c_X11_day l G cy SX _ x  hFX) (cwV 0 X.2.2.2.1 gk_X11_day rfl rfl rfl (by decide +kernel) ⟨Nat.le_of_ble_eq_true rfl, Nat.le_of_ble_eq_true rfl⟩) (pre_V X hwX _ hFX.1 (by decide) rfl) rfl rfl hl.1 rfl (lv_room (Nat.le_of_ble_eq_true rfl)) dL_law_1438 ⟨Nat.le_of_ble_eq_true rfl, Nat.le_of_ble_eq_true rfl⟩) 173 193079 (Nat.le_of_ble_eq_true rfl) (Nat.le_of_ble_eq_true rfl) (fun rr_1438 S2 H locs hp_1438 hw2 hfr hnw => ?_)
  have hwM := Wd_keep hwM hfr hdM hw2.2.2
  clear hwX
  refine lv_aload_n X.1 X.2.1 dL_law_1441 rfl (lv_at hl 2 rfl) ?_
  refine k_i (rm := { frames := 5, cells := 0, slots := 0, locals := 200 }) (av := [.ref mo]) X hwM (va_runV (As := []) (rest := [.int (rr_1438)]) (cfix X) (c_X12_day l G cy SM _ mo  hFM) (cwV 0 X.2.2.2.1 gk_X12_day rfl rfl rfl (by decide +kernel) ⟨Nat.le_of_ble_eq_true rfl, Nat.le_of_ble_eq_true rfl⟩) (pre_V X hwM _ hFM.1 (by decide) rfl) rfl rfl hl.1 rfl (lv_room (Nat.le_of_ble_eq_true rfl)) dL_law_1442 ⟨Nat.le_of_ble_eq_true rfl, Nat.le_of_ble_eq_true rfl⟩) 173 193079 (Nat.le_of_ble_eq_true rfl) (Nat.le_of_ble_eq_true rfl) (fun rr_1442 S2 H locs hp_1442 hw2 hfr hnw => ?_)
  have hwM := hw2
  refine lv_icmp_eq (tgt := 1561) X.1 X.2.1 dL_law_1445 (by decide) (fun c_1445 => ?_) (fun c_1445 => absurd (hp_1438.trans hp_1442.symm) c_1445)
  refine lv_iinc (v := 6) (lv' := [(4, .int 6), (3, .ref outq), (2, .ref mo), (1, .ref x), (0, .ref b)]) X.1 X.2.1 dL_law_1561 hl (k := 0) rfl (by decide) (by decide) rfl (fun ls hl => ?_)
  refine lv_goto (tgt := 23) X.1 X.2.1 dL_law_1564 (by decide) ?_
  refine lv_iload X.1 X.2.1 dL_law_23 (lv_at hl 0 rfl) ?_
  refine lv_aload_n X.1 X.2.1 dL_law_25 rfl (lv_at hl 4 rfl) ?_
  refine va_slen X.1 X.2.1 hX hbl hbA hwM.2.2 dL_law_26 ?_
  refine lv_topi (fun lv_26 elv_26 => ?_)
  obtain rfl : lv_26 = 6 := elv_26.trans (by decide +kernel)
  refine lv_bipush (v := 6) X.1 X.2.1 dL_law_27 (by decide) ?_
  refine lv_isub X.1 X.2.1 dL_law_29 ?_
  refine lv_topi (fun v_175 ev_175 => ?_)
  obtain rfl : v_175 = 0 := ev_175.trans (by decide +kernel)
  refine lv_icmp_gt (tgt := 1567) X.1 X.2.1 dL_law_30 (by decide) (fun c_30 => ?_) (fun c_30 => absurd c_30 (by decide))
  refine lv_iconst (v := 1) X.1 X.2.1 dL_law_1567 (by decide) ?_
  refine va_forget (fun q hq => hwM.2.2.2.2 q hq) ?_
  refine W.widen (k := 600002) (n := 7302232) (Nat.le_of_ble_eq_true rfl) (Nat.le_of_ble_eq_true rfl) ?_
  exact lw_ret X.1 X.2.1 hr hlocks dL_law_1568
set_option maxHeartbeats 8000000 in
set_option maxRecDepth 100000 in
theorem lc_28 {p : Program} {l : Launch} {e : Env} {s : State} {m : MethodId} {below : List Frame} {meth : Method} {c : Code} (hst : l.stackTraces = false) {b x mo outq : Nat} {xs : Nat → Int32} {G : va_G} {cy : Nat → ClassId} (X : Cx p c cL_law 7 s #[Value.ref b] lw_tbl RL m G cy (fun q : Nat => s.heap.size ≤ q)) (hr : meth.sig.returnType = ret) (hlocks : meth.locks = false) (hX : va_X b 6 xs s s.heap) (hbl : b < s.heap.size) (hbA : ¬ (fun q : Nat => s.heap.size ≤ q) b) (hZ : Zs (fun q : Nat => s.heap.size ≤ q) s s.heap) (sa_L_fineness sa_L_in : Nat) (hStr_L_fineness : vk_R RX11 104 "there is no such place of a cocoon" sa_L_fineness s) (hStr_L_in : vk_R RX11 221 "there is no such cocoon in a pot" sa_L_in s) (hdc : ∀ Y ∈ DcL, va_Nw (.declares (Bundle.initS Y)) s) {SX SM : PS} {H : Heap} {locs : List Loc} {ls : Array Slot} (hwX : Wd G cy (fun q : Nat => s.heap.size ≤ q) s.heap SX H locs) (hwM : Wd G cy (fun q : Nat => s.heap.size ≤ q) s.heap SM H locs) (hdM : ∀ q ∈ pL SM, q ∉ pL SX) (hFX : FX SX x) (hFM : FM SM mo) (hl : lv_has ls 7 [(4, .int 0), (3, .ref outq), (2, .ref mo), (1, .ref x), (0, .ref b)]) : W p l e room_1 s m #[Value.ref b] below meth c H locs 173 193079 (lw_Z below #[Value.ref b] s) (F0 m 1450 ls []) := by
  refine lv_aload_n X.1 X.2.1 dL_law_1450 rfl (lv_at hl 3 rfl) ?_
  refine lv_aload_n X.1 X.2.1 dL_law_1451 rfl (lv_at hl 4 rfl) ?_
  refine lv_iload X.1 X.2.1 dL_law_1452 (lv_at hl 0 rfl) ?_
  refine lv_iconst (v := 1) X.1 X.2.1 dL_law_1454 (by decide) ?_
  refine lv_iadd X.1 X.2.1 dL_law_1455 ?_
  refine lv_topi (fun v_176 ev_176 => ?_)
  obtain rfl : v_176 = 1 := ev_176.trans (by decide +kernel)
  refine va_sld X.1 X.2.1 hX hbl hbA hwM.2.2 (vp_in_iff.mpr (by decide +kernel)) dL_law_1456 ?_
  refine lv_aload_n X.1 X.2.1 dL_law_1457 rfl (lv_at hl 4 rfl) ?_
  refine lv_iload X.1 X.2.1 dL_law_1458 (lv_at hl 0 rfl) ?_
  refine lv_iconst (v := 2) X.1 X.2.1 dL_law_1460 (by decide) ?_
  refine lv_iadd X.1 X.2.1 dL_law_1461 ?_
  refine lv_topi (fun v_177 ev_177 => ?_)
  obtain rfl : v_177 = 2 := ev_177.trans (by decide +kernel)
  refine va_sld X.1 X.2.1 hX hbl hbA hwM.2.2 (vp_in_iff.mpr (by decide +kernel)) dL_law_1462 ?_
  refine k_i (rm := { frames := 4, cells := 0, slots := 0, locals := 160 }) (av := [.ref x, .int (xs (Int32.toNatClampNeg 1)), .int (xs (Int32.toNatClampNeg 2))]) X hwX (va_runV (As := [.int (xs (Int32.toNatClampNeg 1)), .int (xs (Int32.toNatClampNeg 2))]) (rest := []) (cfix X) (c_X11_fault l G cy SX _ x (xs (Int32.toNatClampNeg 1)) (xs (Int32.toNatClampNeg 2)) hFX) (cwV 2 X.2.2.2.1 gk_X11_fault rfl rfl rfl (by decide +kernel) ⟨Nat.le_of_ble_eq_true rfl, Nat.le_of_ble_eq_true rfl⟩) (pre_V X hwX _ hFX.1 (by decide) rfl) rfl rfl hl.1 rfl (lv_room (Nat.le_of_ble_eq_true rfl)) dL_law_1463 ⟨Nat.le_of_ble_eq_true rfl, Nat.le_of_ble_eq_true rfl⟩) 173 193079 (Nat.le_of_ble_eq_true rfl) (Nat.le_of_ble_eq_true rfl) (fun rr_1463 S2 H locs hp_1463 hw2 hfr hnw => ?_)
  have hwM := Wd_keep hwM hfr hdM hw2.2.2
  clear hwX
  refine lv_aload_n X.1 X.2.1 dL_law_1466 rfl (lv_at hl 2 rfl) ?_
  refine lv_aload_n X.1 X.2.1 dL_law_1467 rfl (lv_at hl 4 rfl) ?_
  refine lv_iload X.1 X.2.1 dL_law_1468 (lv_at hl 0 rfl) ?_
  refine lv_iconst (v := 1) X.1 X.2.1 dL_law_1470 (by decide) ?_
  refine lv_iadd X.1 X.2.1 dL_law_1471 ?_
  refine lv_topi (fun v_178 ev_178 => ?_)
  obtain rfl : v_178 = 1 := ev_178.trans (by decide +kernel)
  refine va_sld X.1 X.2.1 hX hbl hbA hwM.2.2 (vp_in_iff.mpr (by decide +kernel)) dL_law_1472 ?_
  refine lv_aload_n X.1 X.2.1 dL_law_1473 rfl (lv_at hl 4 rfl) ?_
  refine lv_iload X.1 X.2.1 dL_law_1474 (lv_at hl 0 rfl) ?_
  refine lv_iconst (v := 2) X.1 X.2.1 dL_law_1476 (by decide) ?_
  refine lv_iadd X.1 X.2.1 dL_law_1477 ?_
  refine lv_topi (fun v_179 ev_179 => ?_)
  obtain rfl : v_179 = 2 := ev_179.trans (by decide +kernel)
  refine va_sld X.1 X.2.1 hX hbl hbA hwM.2.2 (vp_in_iff.mpr (by decide +kernel)) dL_law_1478 ?_
  refine k_i (rm := { frames := 5, cells := 0, slots := 0, locals := 200 }) (av := [.ref mo, .int (xs (Int32.toNatClampNeg 1)), .int (xs (Int32.toNatClampNeg 2))]) X hwM (va_runV (As := [.int (xs (Int32.toNatClampNeg 1)), .int (xs (Int32.toNatClampNeg 2))]) (rest := [.int (rr_1463)]) (cfix X) (c_X12_fault l G cy SM _ mo (xs (Int32.toNatClampNeg 1)) (xs (Int32.toNatClampNeg 2)) hFM) (cwV 2 X.2.2.2.1 gk_X12_fault rfl rfl rfl (by decide +kernel) ⟨Nat.le_of_ble_eq_true rfl, Nat.le_of_ble_eq_true rfl⟩) (pre_V X hwM _ hFM.1 (by decide) rfl) rfl rfl hl.1 rfl (lv_room (Nat.le_of_ble_eq_true rfl)) dL_law_1479 ⟨Nat.le_of_ble_eq_true rfl, Nat.le_of_ble_eq_true rfl⟩) 173 193079 (Nat.le_of_ble_eq_true rfl) (Nat.le_of_ble_eq_true rfl) (fun rr_1479 S2 H locs hp_1479 hw2 hfr hnw => ?_)
  have hwM := hw2
  refine lv_icmp_eq (tgt := 1561) X.1 X.2.1 dL_law_1482 (by decide) (fun c_1482 => ?_) (fun c_1482 => absurd (hp_1463.trans hp_1479.symm) c_1482)
  refine lv_iinc (v := 6) (lv' := [(4, .int 6), (3, .ref outq), (2, .ref mo), (1, .ref x), (0, .ref b)]) X.1 X.2.1 dL_law_1561 hl (k := 0) rfl (by decide) (by decide) rfl (fun ls hl => ?_)
  refine lv_goto (tgt := 23) X.1 X.2.1 dL_law_1564 (by decide) ?_
  refine lv_iload X.1 X.2.1 dL_law_23 (lv_at hl 0 rfl) ?_
  refine lv_aload_n X.1 X.2.1 dL_law_25 rfl (lv_at hl 4 rfl) ?_
  refine va_slen X.1 X.2.1 hX hbl hbA hwM.2.2 dL_law_26 ?_
  refine lv_topi (fun lv_26 elv_26 => ?_)
  obtain rfl : lv_26 = 6 := elv_26.trans (by decide +kernel)
  refine lv_bipush (v := 6) X.1 X.2.1 dL_law_27 (by decide) ?_
  refine lv_isub X.1 X.2.1 dL_law_29 ?_
  refine lv_topi (fun v_180 ev_180 => ?_)
  obtain rfl : v_180 = 0 := ev_180.trans (by decide +kernel)
  refine lv_icmp_gt (tgt := 1567) X.1 X.2.1 dL_law_30 (by decide) (fun c_30 => ?_) (fun c_30 => absurd c_30 (by decide))
  refine lv_iconst (v := 1) X.1 X.2.1 dL_law_1567 (by decide) ?_
  refine va_forget (fun q hq => hwM.2.2.2.2 q hq) ?_
  refine W.widen (k := 600002) (n := 7302232) (Nat.le_of_ble_eq_true rfl) (Nat.le_of_ble_eq_true rfl) ?_
  exact lw_ret X.1 X.2.1 hr hlocks dL_law_1568
set_option maxHeartbeats 8000000 in
set_option maxRecDepth 100000 in
theorem lc_29 {p : Program} {l : Launch} {e : Env} {s : State} {m : MethodId} {below : List Frame} {meth : Method} {c : Code} (hst : l.stackTraces = false) {b x mo outq : Nat} {xs : Nat → Int32} {G : va_G} {cy : Nat → ClassId} (X : Cx p c cL_law 7 s #[Value.ref b] lw_tbl RL m G cy (fun q : Nat => s.heap.size ≤ q)) (hr : meth.sig.returnType = ret) (hlocks : meth.locks = false) (hX : va_X b 6 xs s s.heap) (hbl : b < s.heap.size) (hbA : ¬ (fun q : Nat => s.heap.size ≤ q) b) (hZ : Zs (fun q : Nat => s.heap.size ≤ q) s s.heap) (sa_L_fineness sa_L_in : Nat) (hStr_L_fineness : vk_R RX11 104 "there is no such place of a cocoon" sa_L_fineness s) (hStr_L_in : vk_R RX11 221 "there is no such cocoon in a pot" sa_L_in s) (hdc : ∀ Y ∈ DcL, va_Nw (.declares (Bundle.initS Y)) s) {SX SM : PS} {H : Heap} {locs : List Loc} {ls : Array Slot} (hwX : Wd G cy (fun q : Nat => s.heap.size ≤ q) s.heap SX H locs) (hwM : Wd G cy (fun q : Nat => s.heap.size ≤ q) s.heap SM H locs) (hdM : ∀ q ∈ pL SM, q ∉ pL SX) (hFX : FX SX x) (hFM : FM SM mo) (hl : lv_has ls 7 [(4, .int 0), (3, .ref outq), (2, .ref mo), (1, .ref x), (0, .ref b)]) : W p l e room_1 s m #[Value.ref b] below meth c H locs 173 193079 (lw_Z below #[Value.ref b] s) (F0 m 1487 ls []) := by
  refine lv_aload_n X.1 X.2.1 dL_law_1487 rfl (lv_at hl 3 rfl) ?_
  refine lv_aload_n X.1 X.2.1 dL_law_1488 rfl (lv_at hl 4 rfl) ?_
  refine lv_iload X.1 X.2.1 dL_law_1489 (lv_at hl 0 rfl) ?_
  refine lv_iconst (v := 1) X.1 X.2.1 dL_law_1491 (by decide) ?_
  refine lv_iadd X.1 X.2.1 dL_law_1492 ?_
  refine lv_topi (fun v_181 ev_181 => ?_)
  obtain rfl : v_181 = 1 := ev_181.trans (by decide +kernel)
  refine va_sld X.1 X.2.1 hX hbl hbA hwM.2.2 (vp_in_iff.mpr (by decide +kernel)) dL_law_1493 ?_
  refine lv_aload_n X.1 X.2.1 dL_law_1494 rfl (lv_at hl 4 rfl) ?_
  refine lv_iload X.1 X.2.1 dL_law_1495 (lv_at hl 0 rfl) ?_
  refine lv_iconst (v := 2) X.1 X.2.1 dL_law_1497 (by decide) ?_
  refine lv_iadd X.1 X.2.1 dL_law_1498 ?_
  refine lv_topi (fun v_182 ev_182 => ?_)
  obtain rfl : v_182 = 2 := ev_182.trans (by decide +kernel)
  refine va_sld X.1 X.2.1 hX hbl hbA hwM.2.2 (vp_in_iff.mpr (by decide +kernel)) dL_law_1499 ?_
  refine lv_aload_n X.1 X.2.1 dL_law_1500 rfl (lv_at hl 4 rfl) ?_
  refine lv_iload X.1 X.2.1 dL_law_1501 (lv_at hl 0 rfl) ?_
  refine lv_iconst (v := 3) X.1 X.2.1 dL_law_1503 (by decide) ?_
  refine lv_iadd X.1 X.2.1 dL_law_1504 ?_
  refine lv_topi (fun v_183 ev_183 => ?_)
  obtain rfl : v_183 = 3 := ev_183.trans (by decide +kernel)
  refine va_sld X.1 X.2.1 hX hbl hbA hwM.2.2 (vp_in_iff.mpr (by decide +kernel)) dL_law_1505 ?_
  refine k_i (rm := { frames := 4, cells := 0, slots := 0, locals := 160 }) (av := [.ref x, .int (xs (Int32.toNatClampNeg 1)), .int (xs (Int32.toNatClampNeg 2)), .int (xs (Int32.toNatClampNeg 3))]) X hwX (va_runV (As := [.int (xs (Int32.toNatClampNeg 1)), .int (xs (Int32.toNatClampNeg 2)), .int (xs (Int32.toNatClampNeg 3))]) (rest := []) (cfix X) (c_X11_pay l G cy SX _ x (xs (Int32.toNatClampNeg 1)) (xs (Int32.toNatClampNeg 2)) (xs (Int32.toNatClampNeg 3)) hFX) (cwV 3 X.2.2.2.1 gk_X11_pay rfl rfl rfl (by decide +kernel) ⟨Nat.le_of_ble_eq_true rfl, Nat.le_of_ble_eq_true rfl⟩) (pre_V X hwX _ hFX.1 (by decide) rfl) rfl rfl hl.1 rfl (lv_room (Nat.le_of_ble_eq_true rfl)) dL_law_1506 ⟨Nat.le_of_ble_eq_true rfl, Nat.le_of_ble_eq_true rfl⟩) 173 193079 (Nat.le_of_ble_eq_true rfl) (Nat.le_of_ble_eq_true rfl) (fun rr_1506 S2 H locs hp_1506 hw2 hfr hnw => ?_)
  have hwM := Wd_keep hwM hfr hdM hw2.2.2
  clear hwX
  refine lv_aload_n X.1 X.2.1 dL_law_1509 rfl (lv_at hl 2 rfl) ?_
  refine lv_aload_n X.1 X.2.1 dL_law_1510 rfl (lv_at hl 4 rfl) ?_
  refine lv_iload X.1 X.2.1 dL_law_1511 (lv_at hl 0 rfl) ?_
  refine lv_iconst (v := 1) X.1 X.2.1 dL_law_1513 (by decide) ?_
  refine lv_iadd X.1 X.2.1 dL_law_1514 ?_
  refine lv_topi (fun v_184 ev_184 => ?_)
  obtain rfl : v_184 = 1 := ev_184.trans (by decide +kernel)
  refine va_sld X.1 X.2.1 hX hbl hbA hwM.2.2 (vp_in_iff.mpr (by decide +kernel)) dL_law_1515 ?_
  refine lv_aload_n X.1 X.2.1 dL_law_1516 rfl (lv_at hl 4 rfl) ?_
  refine lv_iload X.1 X.2.1 dL_law_1517 (lv_at hl 0 rfl) ?_
  refine lv_iconst (v := 2) X.1 X.2.1 dL_law_1519 (by decide) ?_
  refine lv_iadd X.1 X.2.1 dL_law_1520 ?_
  refine lv_topi (fun v_185 ev_185 => ?_)
  obtain rfl : v_185 = 2 := ev_185.trans (by decide +kernel)
  refine va_sld X.1 X.2.1 hX hbl hbA hwM.2.2 (vp_in_iff.mpr (by decide +kernel)) dL_law_1521 ?_
  refine lv_aload_n X.1 X.2.1 dL_law_1522 rfl (lv_at hl 4 rfl) ?_
  refine lv_iload X.1 X.2.1 dL_law_1523 (lv_at hl 0 rfl) ?_
  refine lv_iconst (v := 3) X.1 X.2.1 dL_law_1525 (by decide) ?_
  refine lv_iadd X.1 X.2.1 dL_law_1526 ?_
  refine lv_topi (fun v_186 ev_186 => ?_)
  obtain rfl : v_186 = 3 := ev_186.trans (by decide +kernel)
  refine va_sld X.1 X.2.1 hX hbl hbA hwM.2.2 (vp_in_iff.mpr (by decide +kernel)) dL_law_1527 ?_
  refine k_i (rm := { frames := 5, cells := 0, slots := 0, locals := 200 }) (av := [.ref mo, .int (xs (Int32.toNatClampNeg 1)), .int (xs (Int32.toNatClampNeg 2)), .int (xs (Int32.toNatClampNeg 3))]) X hwM (va_runV (As := [.int (xs (Int32.toNatClampNeg 1)), .int (xs (Int32.toNatClampNeg 2)), .int (xs (Int32.toNatClampNeg 3))]) (rest := [.int (rr_1506)]) (cfix X) (c_X12_pay l G cy SM _ mo (xs (Int32.toNatClampNeg 1)) (xs (Int32.toNatClampNeg 2)) (xs (Int32.toNatClampNeg 3)) hFM) (cwV 3 X.2.2.2.1 gk_X12_pay rfl rfl rfl (by decide +kernel) ⟨Nat.le_of_ble_eq_true rfl, Nat.le_of_ble_eq_true rfl⟩) (pre_V X hwM _ hFM.1 (by decide) rfl) rfl rfl hl.1 rfl (lv_room (Nat.le_of_ble_eq_true rfl)) dL_law_1528 ⟨Nat.le_of_ble_eq_true rfl, Nat.le_of_ble_eq_true rfl⟩) 173 193079 (Nat.le_of_ble_eq_true rfl) (Nat.le_of_ble_eq_true rfl) (fun rr_1528 S2 H locs hp_1528 hw2 hfr hnw => ?_)
  have hwM := hw2
  refine lv_icmp_eq (tgt := 1561) X.1 X.2.1 dL_law_1531 (by decide) (fun c_1531 => ?_) (fun c_1531 => absurd (hp_1506.trans hp_1528.symm) c_1531)
  refine lv_iinc (v := 6) (lv' := [(4, .int 6), (3, .ref outq), (2, .ref mo), (1, .ref x), (0, .ref b)]) X.1 X.2.1 dL_law_1561 hl (k := 0) rfl (by decide) (by decide) rfl (fun ls hl => ?_)
  refine lv_goto (tgt := 23) X.1 X.2.1 dL_law_1564 (by decide) ?_
  refine lv_iload X.1 X.2.1 dL_law_23 (lv_at hl 0 rfl) ?_
  refine lv_aload_n X.1 X.2.1 dL_law_25 rfl (lv_at hl 4 rfl) ?_
  refine va_slen X.1 X.2.1 hX hbl hbA hwM.2.2 dL_law_26 ?_
  refine lv_topi (fun lv_26 elv_26 => ?_)
  obtain rfl : lv_26 = 6 := elv_26.trans (by decide +kernel)
  refine lv_bipush (v := 6) X.1 X.2.1 dL_law_27 (by decide) ?_
  refine lv_isub X.1 X.2.1 dL_law_29 ?_
  refine lv_topi (fun v_187 ev_187 => ?_)
  obtain rfl : v_187 = 0 := ev_187.trans (by decide +kernel)
  refine lv_icmp_gt (tgt := 1567) X.1 X.2.1 dL_law_30 (by decide) (fun c_30 => ?_) (fun c_30 => absurd c_30 (by decide))
  refine lv_iconst (v := 1) X.1 X.2.1 dL_law_1567 (by decide) ?_
  refine va_forget (fun q hq => hwM.2.2.2.2 q hq) ?_
  refine W.widen (k := 600002) (n := 7302232) (Nat.le_of_ble_eq_true rfl) (Nat.le_of_ble_eq_true rfl) ?_
  exact lw_ret X.1 X.2.1 hr hlocks dL_law_1568
set_option maxHeartbeats 8000000 in
set_option maxRecDepth 100000 in
theorem lc_30 {p : Program} {l : Launch} {e : Env} {s : State} {m : MethodId} {below : List Frame} {meth : Method} {c : Code} (hst : l.stackTraces = false) {b x mo outq : Nat} {xs : Nat → Int32} {G : va_G} {cy : Nat → ClassId} (X : Cx p c cL_law 7 s #[Value.ref b] lw_tbl RL m G cy (fun q : Nat => s.heap.size ≤ q)) (hr : meth.sig.returnType = ret) (hlocks : meth.locks = false) (hX : va_X b 6 xs s s.heap) (hbl : b < s.heap.size) (hbA : ¬ (fun q : Nat => s.heap.size ≤ q) b) (hZ : Zs (fun q : Nat => s.heap.size ≤ q) s s.heap) (sa_L_fineness sa_L_in : Nat) (hStr_L_fineness : vk_R RX11 104 "there is no such place of a cocoon" sa_L_fineness s) (hStr_L_in : vk_R RX11 221 "there is no such cocoon in a pot" sa_L_in s) (hdc : ∀ Y ∈ DcL, va_Nw (.declares (Bundle.initS Y)) s) {SX SM : PS} {H : Heap} {locs : List Loc} {ls : Array Slot} (hwX : Wd G cy (fun q : Nat => s.heap.size ≤ q) s.heap SX H locs) (hwM : Wd G cy (fun q : Nat => s.heap.size ≤ q) s.heap SM H locs) (hdM : ∀ q ∈ pL SM, q ∉ pL SX) (hFX : FX SX x) (hFM : FM SM mo) (hl : lv_has ls 7 [(4, .int 0), (3, .ref outq), (2, .ref mo), (1, .ref x), (0, .ref b)]) : W p l e room_1 s m #[Value.ref b] below meth c H locs 173 193079 (lw_Z below #[Value.ref b] s) (F0 m 1536 ls []) := by
  refine lv_aload_n X.1 X.2.1 dL_law_1536 rfl (lv_at hl 3 rfl) ?_
  refine lv_aload_n X.1 X.2.1 dL_law_1537 rfl (lv_at hl 4 rfl) ?_
  refine lv_iload X.1 X.2.1 dL_law_1538 (lv_at hl 0 rfl) ?_
  refine lv_iconst (v := 1) X.1 X.2.1 dL_law_1540 (by decide) ?_
  refine lv_iadd X.1 X.2.1 dL_law_1541 ?_
  refine lv_topi (fun v_188 ev_188 => ?_)
  obtain rfl : v_188 = 1 := ev_188.trans (by decide +kernel)
  refine va_sld X.1 X.2.1 hX hbl hbA hwM.2.2 (vp_in_iff.mpr (by decide +kernel)) dL_law_1542 ?_
  refine k_i (rm := { frames := 5, cells := 0, slots := 0, locals := 200 }) (av := [.ref x, .int (xs (Int32.toNatClampNeg 1))]) X hwX (va_runV (As := [.int (xs (Int32.toNatClampNeg 1))]) (rest := []) (cfix X) (c_X11_count l G cy SX _ x (xs (Int32.toNatClampNeg 1)) hFX) (cwV 1 X.2.2.2.1 gk_X11_count rfl rfl rfl (by decide +kernel) ⟨Nat.le_of_ble_eq_true rfl, Nat.le_of_ble_eq_true rfl⟩) (pre_V X hwX _ hFX.1 (by decide) rfl) rfl rfl hl.1 rfl (lv_room (Nat.le_of_ble_eq_true rfl)) dL_law_1543 ⟨Nat.le_of_ble_eq_true rfl, Nat.le_of_ble_eq_true rfl⟩) 173 193079 (Nat.le_of_ble_eq_true rfl) (Nat.le_of_ble_eq_true rfl) (fun rr_1543 S2 H locs hp_1543 hw2 hfr hnw => ?_)
  have hwM := Wd_keep hwM hfr hdM hw2.2.2
  clear hwX
  refine lv_aload_n X.1 X.2.1 dL_law_1546 rfl (lv_at hl 2 rfl) ?_
  refine lv_aload_n X.1 X.2.1 dL_law_1547 rfl (lv_at hl 4 rfl) ?_
  refine lv_iload X.1 X.2.1 dL_law_1548 (lv_at hl 0 rfl) ?_
  refine lv_iconst (v := 1) X.1 X.2.1 dL_law_1550 (by decide) ?_
  refine lv_iadd X.1 X.2.1 dL_law_1551 ?_
  refine lv_topi (fun v_189 ev_189 => ?_)
  obtain rfl : v_189 = 1 := ev_189.trans (by decide +kernel)
  refine va_sld X.1 X.2.1 hX hbl hbA hwM.2.2 (vp_in_iff.mpr (by decide +kernel)) dL_law_1552 ?_
  refine k_i (rm := { frames := 5, cells := 0, slots := 0, locals := 200 }) (av := [.ref mo, .int (xs (Int32.toNatClampNeg 1))]) X hwM (va_runV (As := [.int (xs (Int32.toNatClampNeg 1))]) (rest := [.int (rr_1543)]) (cfix X) (c_X12_count l G cy SM _ mo (xs (Int32.toNatClampNeg 1)) hFM) (cwV 1 X.2.2.2.1 gk_X12_count rfl rfl rfl (by decide +kernel) ⟨Nat.le_of_ble_eq_true rfl, Nat.le_of_ble_eq_true rfl⟩) (pre_V X hwM _ hFM.1 (by decide) rfl) rfl rfl hl.1 rfl (lv_room (Nat.le_of_ble_eq_true rfl)) dL_law_1553 ⟨Nat.le_of_ble_eq_true rfl, Nat.le_of_ble_eq_true rfl⟩) 173 193079 (Nat.le_of_ble_eq_true rfl) (Nat.le_of_ble_eq_true rfl) (fun rr_1553 S2 H locs hp_1553 hw2 hfr hnw => ?_)
  have hwM := hw2
  refine lv_icmp_eq (tgt := 1561) X.1 X.2.1 dL_law_1556 (by decide) (fun c_1556 => ?_) (fun c_1556 => absurd (hp_1543.trans hp_1553.symm) c_1556)
  refine lv_iinc (v := 6) (lv' := [(4, .int 6), (3, .ref outq), (2, .ref mo), (1, .ref x), (0, .ref b)]) X.1 X.2.1 dL_law_1561 hl (k := 0) rfl (by decide) (by decide) rfl (fun ls hl => ?_)
  refine lv_goto (tgt := 23) X.1 X.2.1 dL_law_1564 (by decide) ?_
  refine lv_iload X.1 X.2.1 dL_law_23 (lv_at hl 0 rfl) ?_
  refine lv_aload_n X.1 X.2.1 dL_law_25 rfl (lv_at hl 4 rfl) ?_
  refine va_slen X.1 X.2.1 hX hbl hbA hwM.2.2 dL_law_26 ?_
  refine lv_topi (fun lv_26 elv_26 => ?_)
  obtain rfl : lv_26 = 6 := elv_26.trans (by decide +kernel)
  refine lv_bipush (v := 6) X.1 X.2.1 dL_law_27 (by decide) ?_
  refine lv_isub X.1 X.2.1 dL_law_29 ?_
  refine lv_topi (fun v_190 ev_190 => ?_)
  obtain rfl : v_190 = 0 := ev_190.trans (by decide +kernel)
  refine lv_icmp_gt (tgt := 1567) X.1 X.2.1 dL_law_30 (by decide) (fun c_30 => ?_) (fun c_30 => absurd c_30 (by decide))
  refine lv_iconst (v := 1) X.1 X.2.1 dL_law_1567 (by decide) ?_
  refine va_forget (fun q hq => hwM.2.2.2.2 q hq) ?_
  refine W.widen (k := 600002) (n := 7302232) (Nat.le_of_ble_eq_true rfl) (Nat.le_of_ble_eq_true rfl) ?_
  exact lw_ret X.1 X.2.1 hr hlocks dL_law_1568
