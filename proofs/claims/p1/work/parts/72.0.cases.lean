set_option maxHeartbeats 8000000 in
set_option maxRecDepth 100000 in
theorem lc_d {p : Program} {l : Launch} {e : Env} {s : State} {m : MethodId} {below : List Frame} {meth : Method} {c : Code} (hst : l.stackTraces = false) {b x mo outq : Nat} {xs : Nat → Int32} {G : va_G} {cy : Nat → ClassId} (X : Cx p c cL_law 7 s #[Value.ref b] lw_tbl RL m G cy (fun q : Nat => s.heap.size ≤ q)) (hr : meth.sig.returnType = ret) (hlocks : meth.locks = false) (hX : va_X b 6 xs s s.heap) (hbl : b < s.heap.size) (hbA : ¬ (fun q : Nat => s.heap.size ≤ q) b) (hZ : Zs (fun q : Nat => s.heap.size ≤ q) s s.heap) (sa_L_fineness sa_L_in : Nat) (hStr_L_fineness : vk_R RX11 104 "there is no such place of a cocoon" sa_L_fineness s) (hStr_L_in : vk_R RX11 221 "there is no such cocoon in a pot" sa_L_in s) (hdc : ∀ Y ∈ DcL, va_Nw (.declares (Bundle.initS Y)) s) {SX SM : PS} {H : Heap} {locs : List Loc} {ls : Array Slot} (hwX : Wd G cy (fun q : Nat => s.heap.size ≤ q) s.heap SX H locs) (hwM : Wd G cy (fun q : Nat => s.heap.size ≤ q) s.heap SM H locs) (hdM : ∀ q ∈ pL SM, q ∉ pL SX) (hFX : FX SX x) (hFM : FM SM mo) (hl : lv_has ls 7 [(4, .int 0), (3, .ref outq), (2, .ref mo), (1, .ref x), (0, .ref b)]) : W p l e room_1 s m #[Value.ref b] below meth c H locs 173 193079 (lw_Z below #[Value.ref b] s) (F0 m 1561 ls []) := by
  refine lv_iinc (v := 6) (lv' := [(4, .int 6), (3, .ref outq), (2, .ref mo), (1, .ref x), (0, .ref b)]) X.1 X.2.1 dL_law_1561 hl (k := 0) rfl (by decide) (by decide) rfl (fun ls hl => ?_)
  refine lv_goto (tgt := 23) X.1 X.2.1 dL_law_1564 (by decide) ?_
  refine lv_iload X.1 X.2.1 dL_law_23 (lv_at hl 0 rfl) ?_
  refine lv_aload_n X.1 X.2.1 dL_law_25 rfl (lv_at hl 4 rfl) ?_
  refine va_slen X.1 X.2.1 hX hbl hbA hwM.2.2 dL_law_26 ?_
  refine lv_topi (fun lv_26 elv_26 => ?_)
  obtain rfl : lv_26 = 6 := elv_26.trans (by decide +kernel)
  refine lv_bipush (v := 6) X.1 X.2.1 dL_law_27 (by decide) ?_
  refine lv_isub X.1 X.2.1 dL_law_29 ?_
  refine lv_topi (fun v_2 ev_2 => ?_)
  obtain rfl : v_2 = 0 := ev_2.trans (by decide +kernel)
  refine lv_icmp_gt (tgt := 1567) X.1 X.2.1 dL_law_30 (by decide) (fun c_30 => ?_) (fun c_30 => absurd c_30 (by decide))
  refine lv_iconst (v := 1) X.1 X.2.1 dL_law_1567 (by decide) ?_
  refine va_forget (fun q hq => hwM.2.2.2.2 q hq) ?_
  refine W.widen (k := 600002) (n := 7302232) (Nat.le_of_ble_eq_true rfl) (Nat.le_of_ble_eq_true rfl) ?_
  exact lw_ret X.1 X.2.1 hr hlocks dL_law_1568
set_option maxHeartbeats 8000000 in
set_option maxRecDepth 100000 in
theorem lc_0 {p : Program} {l : Launch} {e : Env} {s : State} {m : MethodId} {below : List Frame} {meth : Method} {c : Code} (hst : l.stackTraces = false) {b x mo outq : Nat} {xs : Nat → Int32} {G : va_G} {cy : Nat → ClassId} (X : Cx p c cL_law 7 s #[Value.ref b] lw_tbl RL m G cy (fun q : Nat => s.heap.size ≤ q)) (hr : meth.sig.returnType = ret) (hlocks : meth.locks = false) (hX : va_X b 6 xs s s.heap) (hbl : b < s.heap.size) (hbA : ¬ (fun q : Nat => s.heap.size ≤ q) b) (hZ : Zs (fun q : Nat => s.heap.size ≤ q) s s.heap) (sa_L_fineness sa_L_in : Nat) (hStr_L_fineness : vk_R RX11 104 "there is no such place of a cocoon" sa_L_fineness s) (hStr_L_in : vk_R RX11 221 "there is no such cocoon in a pot" sa_L_in s) (hdc : ∀ Y ∈ DcL, va_Nw (.declares (Bundle.initS Y)) s) {SX SM : PS} {H : Heap} {locs : List Loc} {ls : Array Slot} (hwX : Wd G cy (fun q : Nat => s.heap.size ≤ q) s.heap SX H locs) (hwM : Wd G cy (fun q : Nat => s.heap.size ≤ q) s.heap SM H locs) (hdM : ∀ q ∈ pL SM, q ∉ pL SX) (hFX : FX SX x) (hFM : FM SM mo) (hl : lv_has ls 7 [(4, .int 0), (3, .ref outq), (2, .ref mo), (1, .ref x), (0, .ref b)]) : W p l e room_1 s m #[Value.ref b] below meth c H locs 173 193079 (lw_Z below #[Value.ref b] s) (F0 m 180 ls []) := by
  refine lv_aload_n X.1 X.2.1 dL_law_180 rfl (lv_at hl 3 rfl) ?_
  refine lv_aload_n X.1 X.2.1 dL_law_181 rfl (lv_at hl 4 rfl) ?_
  refine lv_iload X.1 X.2.1 dL_law_182 (lv_at hl 0 rfl) ?_
  refine lv_iconst (v := 1) X.1 X.2.1 dL_law_184 (by decide) ?_
  refine lv_iadd X.1 X.2.1 dL_law_185 ?_
  refine lv_topi (fun v_3 ev_3 => ?_)
  obtain rfl : v_3 = 1 := ev_3.trans (by decide +kernel)
  refine va_sld X.1 X.2.1 hX hbl hbA hwM.2.2 (vp_in_iff.mpr (by decide +kernel)) dL_law_186 ?_
  refine lv_aload_n X.1 X.2.1 dL_law_187 rfl (lv_at hl 4 rfl) ?_
  refine lv_iload X.1 X.2.1 dL_law_188 (lv_at hl 0 rfl) ?_
  refine lv_iconst (v := 2) X.1 X.2.1 dL_law_190 (by decide) ?_
  refine lv_iadd X.1 X.2.1 dL_law_191 ?_
  refine lv_topi (fun v_4 ev_4 => ?_)
  obtain rfl : v_4 = 2 := ev_4.trans (by decide +kernel)
  refine va_sld X.1 X.2.1 hX hbl hbA hwM.2.2 (vp_in_iff.mpr (by decide +kernel)) dL_law_192 ?_
  refine lv_aload_n X.1 X.2.1 dL_law_193 rfl (lv_at hl 4 rfl) ?_
  refine lv_iload X.1 X.2.1 dL_law_194 (lv_at hl 0 rfl) ?_
  refine lv_iconst (v := 3) X.1 X.2.1 dL_law_196 (by decide) ?_
  refine lv_iadd X.1 X.2.1 dL_law_197 ?_
  refine lv_topi (fun v_5 ev_5 => ?_)
  obtain rfl : v_5 = 3 := ev_5.trans (by decide +kernel)
  refine va_sld X.1 X.2.1 hX hbl hbA hwM.2.2 (vp_in_iff.mpr (by decide +kernel)) dL_law_198 ?_
  refine lv_aload_n X.1 X.2.1 dL_law_199 rfl (lv_at hl 4 rfl) ?_
  refine lv_iload X.1 X.2.1 dL_law_200 (lv_at hl 0 rfl) ?_
  refine lv_iconst (v := 4) X.1 X.2.1 dL_law_202 (by decide) ?_
  refine lv_iadd X.1 X.2.1 dL_law_203 ?_
  refine lv_topi (fun v_6 ev_6 => ?_)
  obtain rfl : v_6 = 4 := ev_6.trans (by decide +kernel)
  refine va_sld X.1 X.2.1 hX hbl hbA hwM.2.2 (vp_in_iff.mpr (by decide +kernel)) dL_law_204 ?_
  refine lv_aload_n X.1 X.2.1 dL_law_205 rfl (lv_at hl 4 rfl) ?_
  refine lv_iload X.1 X.2.1 dL_law_206 (lv_at hl 0 rfl) ?_
  refine lv_iconst (v := 5) X.1 X.2.1 dL_law_208 (by decide) ?_
  refine lv_iadd X.1 X.2.1 dL_law_209 ?_
  refine lv_topi (fun v_7 ev_7 => ?_)
  obtain rfl : v_7 = 5 := ev_7.trans (by decide +kernel)
  refine va_sld X.1 X.2.1 hX hbl hbA hwM.2.2 (vp_in_iff.mpr (by decide +kernel)) dL_law_210 ?_
  refine k_i (rm := { frames := 4, cells := 60, slots := 600, locals := 160 }) (av := [.ref x, .int (xs (Int32.toNatClampNeg 1)), .int (xs (Int32.toNatClampNeg 2)), .int (xs (Int32.toNatClampNeg 3)), .int (xs (Int32.toNatClampNeg 4)), .int (xs (Int32.toNatClampNeg 5))]) X hwX (va_runV (As := [.int (xs (Int32.toNatClampNeg 1)), .int (xs (Int32.toNatClampNeg 2)), .int (xs (Int32.toNatClampNeg 3)), .int (xs (Int32.toNatClampNeg 4)), .int (xs (Int32.toNatClampNeg 5))]) (rest := []) (cfix X) (c_X11_lot l G cy SX _ x (xs (Int32.toNatClampNeg 1)) (xs (Int32.toNatClampNeg 2)) (xs (Int32.toNatClampNeg 3)) (xs (Int32.toNatClampNeg 4)) (xs (Int32.toNatClampNeg 5)) hFX) (cwV 5 X.2.2.2.1 gk_X11_lot rfl rfl rfl (by decide +kernel) ⟨Nat.le_of_ble_eq_true rfl, Nat.le_of_ble_eq_true rfl⟩) (pre_V X hwX _ hFX.1 (by decide) rfl) rfl rfl hl.1 rfl (lv_room (Nat.le_of_ble_eq_true rfl)) dL_law_211 ⟨Nat.le_of_ble_eq_true rfl, Nat.le_of_ble_eq_true rfl⟩) 233 193679 (Nat.le_of_ble_eq_true rfl) (Nat.le_of_ble_eq_true rfl) (fun rr_211 S2 H locs hp_211 hw2 hfr hnw => ?_)
  have hwM := Wd_keep hwM hfr hdM hw2.2.2
  clear hwX
  refine lv_aload_n X.1 X.2.1 dL_law_214 rfl (lv_at hl 2 rfl) ?_
  refine lv_aload_n X.1 X.2.1 dL_law_215 rfl (lv_at hl 4 rfl) ?_
  refine lv_iload X.1 X.2.1 dL_law_216 (lv_at hl 0 rfl) ?_
  refine lv_iconst (v := 1) X.1 X.2.1 dL_law_218 (by decide) ?_
  refine lv_iadd X.1 X.2.1 dL_law_219 ?_
  refine lv_topi (fun v_8 ev_8 => ?_)
  obtain rfl : v_8 = 1 := ev_8.trans (by decide +kernel)
  refine va_sld X.1 X.2.1 hX hbl hbA hwM.2.2 (vp_in_iff.mpr (by decide +kernel)) dL_law_220 ?_
  refine lv_aload_n X.1 X.2.1 dL_law_221 rfl (lv_at hl 4 rfl) ?_
  refine lv_iload X.1 X.2.1 dL_law_222 (lv_at hl 0 rfl) ?_
  refine lv_iconst (v := 2) X.1 X.2.1 dL_law_224 (by decide) ?_
  refine lv_iadd X.1 X.2.1 dL_law_225 ?_
  refine lv_topi (fun v_9 ev_9 => ?_)
  obtain rfl : v_9 = 2 := ev_9.trans (by decide +kernel)
  refine va_sld X.1 X.2.1 hX hbl hbA hwM.2.2 (vp_in_iff.mpr (by decide +kernel)) dL_law_226 ?_
  refine lv_aload_n X.1 X.2.1 dL_law_227 rfl (lv_at hl 4 rfl) ?_
  refine lv_iload X.1 X.2.1 dL_law_228 (lv_at hl 0 rfl) ?_
  refine lv_iconst (v := 3) X.1 X.2.1 dL_law_230 (by decide) ?_
  refine lv_iadd X.1 X.2.1 dL_law_231 ?_
  refine lv_topi (fun v_10 ev_10 => ?_)
  obtain rfl : v_10 = 3 := ev_10.trans (by decide +kernel)
  refine va_sld X.1 X.2.1 hX hbl hbA hwM.2.2 (vp_in_iff.mpr (by decide +kernel)) dL_law_232 ?_
  refine lv_aload_n X.1 X.2.1 dL_law_233 rfl (lv_at hl 4 rfl) ?_
  refine lv_iload X.1 X.2.1 dL_law_234 (lv_at hl 0 rfl) ?_
  refine lv_iconst (v := 4) X.1 X.2.1 dL_law_236 (by decide) ?_
  refine lv_iadd X.1 X.2.1 dL_law_237 ?_
  refine lv_topi (fun v_11 ev_11 => ?_)
  obtain rfl : v_11 = 4 := ev_11.trans (by decide +kernel)
  refine va_sld X.1 X.2.1 hX hbl hbA hwM.2.2 (vp_in_iff.mpr (by decide +kernel)) dL_law_238 ?_
  refine lv_aload_n X.1 X.2.1 dL_law_239 rfl (lv_at hl 4 rfl) ?_
  refine lv_iload X.1 X.2.1 dL_law_240 (lv_at hl 0 rfl) ?_
  refine lv_iconst (v := 5) X.1 X.2.1 dL_law_242 (by decide) ?_
  refine lv_iadd X.1 X.2.1 dL_law_243 ?_
  refine lv_topi (fun v_12 ev_12 => ?_)
  obtain rfl : v_12 = 5 := ev_12.trans (by decide +kernel)
  refine va_sld X.1 X.2.1 hX hbl hbA hwM.2.2 (vp_in_iff.mpr (by decide +kernel)) dL_law_244 ?_
  refine k_i (rm := { frames := 5, cells := 0, slots := 0, locals := 200 }) (av := [.ref mo, .int (xs (Int32.toNatClampNeg 1)), .int (xs (Int32.toNatClampNeg 2)), .int (xs (Int32.toNatClampNeg 3)), .int (xs (Int32.toNatClampNeg 4)), .int (xs (Int32.toNatClampNeg 5))]) X hwM (va_runV (As := [.int (xs (Int32.toNatClampNeg 1)), .int (xs (Int32.toNatClampNeg 2)), .int (xs (Int32.toNatClampNeg 3)), .int (xs (Int32.toNatClampNeg 4)), .int (xs (Int32.toNatClampNeg 5))]) (rest := [.int (rr_211)]) (cfix X) (c_X12_lot l G cy SM _ mo (xs (Int32.toNatClampNeg 1)) (xs (Int32.toNatClampNeg 2)) (xs (Int32.toNatClampNeg 3)) (xs (Int32.toNatClampNeg 4)) (xs (Int32.toNatClampNeg 5)) hFM) (cwV 5 X.2.2.2.1 gk_X12_lot rfl rfl rfl (by decide +kernel) ⟨Nat.le_of_ble_eq_true rfl, Nat.le_of_ble_eq_true rfl⟩) (pre_V X hwM _ hFM.1 (by decide) rfl) rfl rfl hl.1 rfl (lv_room (Nat.le_of_ble_eq_true rfl)) dL_law_245 ⟨Nat.le_of_ble_eq_true rfl, Nat.le_of_ble_eq_true rfl⟩) 233 193679 (Nat.le_of_ble_eq_true rfl) (Nat.le_of_ble_eq_true rfl) (fun rr_245 S2 H locs hp_245 hw2 hfr hnw => ?_)
  have hwM := hw2
  refine lv_icmp_eq (tgt := 1561) X.1 X.2.1 dL_law_248 (by decide) (fun c_248 => ?_) (fun c_248 => absurd (hp_211.trans hp_245.symm) c_248)
  refine lv_iinc (v := 6) (lv' := [(4, .int 6), (3, .ref outq), (2, .ref mo), (1, .ref x), (0, .ref b)]) X.1 X.2.1 dL_law_1561 hl (k := 0) rfl (by decide) (by decide) rfl (fun ls hl => ?_)
  refine lv_goto (tgt := 23) X.1 X.2.1 dL_law_1564 (by decide) ?_
  refine lv_iload X.1 X.2.1 dL_law_23 (lv_at hl 0 rfl) ?_
  refine lv_aload_n X.1 X.2.1 dL_law_25 rfl (lv_at hl 4 rfl) ?_
  refine va_slen X.1 X.2.1 hX hbl hbA hwM.2.2 dL_law_26 ?_
  refine lv_topi (fun lv_26 elv_26 => ?_)
  obtain rfl : lv_26 = 6 := elv_26.trans (by decide +kernel)
  refine lv_bipush (v := 6) X.1 X.2.1 dL_law_27 (by decide) ?_
  refine lv_isub X.1 X.2.1 dL_law_29 ?_
  refine lv_topi (fun v_13 ev_13 => ?_)
  obtain rfl : v_13 = 0 := ev_13.trans (by decide +kernel)
  refine lv_icmp_gt (tgt := 1567) X.1 X.2.1 dL_law_30 (by decide) (fun c_30 => ?_) (fun c_30 => absurd c_30 (by decide))
  refine lv_iconst (v := 1) X.1 X.2.1 dL_law_1567 (by decide) ?_
  refine va_forget (fun q hq => hwM.2.2.2.2 q hq) ?_
  refine W.widen (k := 600002) (n := 7302232) (Nat.le_of_ble_eq_true rfl) (Nat.le_of_ble_eq_true rfl) ?_
  exact lw_ret X.1 X.2.1 hr hlocks dL_law_1568
set_option maxHeartbeats 8000000 in
set_option maxRecDepth 100000 in
theorem lc_1 {p : Program} {l : Launch} {e : Env} {s : State} {m : MethodId} {below : List Frame} {meth : Method} {c : Code} (hst : l.stackTraces = false) {b x mo outq : Nat} {xs : Nat → Int32} {G : va_G} {cy : Nat → ClassId} (X : Cx p c cL_law 7 s #[Value.ref b] lw_tbl RL m G cy (fun q : Nat => s.heap.size ≤ q)) (hr : meth.sig.returnType = ret) (hlocks : meth.locks = false) (hX : va_X b 6 xs s s.heap) (hbl : b < s.heap.size) (hbA : ¬ (fun q : Nat => s.heap.size ≤ q) b) (hZ : Zs (fun q : Nat => s.heap.size ≤ q) s s.heap) (sa_L_fineness sa_L_in : Nat) (hStr_L_fineness : vk_R RX11 104 "there is no such place of a cocoon" sa_L_fineness s) (hStr_L_in : vk_R RX11 221 "there is no such cocoon in a pot" sa_L_in s) (hdc : ∀ Y ∈ DcL, va_Nw (.declares (Bundle.initS Y)) s) {SX SM : PS} {H : Heap} {locs : List Loc} {ls : Array Slot} (hwX : Wd G cy (fun q : Nat => s.heap.size ≤ q) s.heap SX H locs) (hwM : Wd G cy (fun q : Nat => s.heap.size ≤ q) s.heap SM H locs) (hdM : ∀ q ∈ pL SM, q ∉ pL SX) (hFX : FX SX x) (hFM : FM SM mo) (hl : lv_has ls 7 [(4, .int 0), (3, .ref outq), (2, .ref mo), (1, .ref x), (0, .ref b)]) : W p l e room_1 s m #[Value.ref b] below meth c H locs 173 193079 (lw_Z below #[Value.ref b] s) (F0 m 253 ls []) := by
  refine lv_aload_n X.1 X.2.1 dL_law_253 rfl (lv_at hl 3 rfl) ?_
  refine lv_aload_n X.1 X.2.1 dL_law_254 rfl (lv_at hl 4 rfl) ?_
  refine lv_iload X.1 X.2.1 dL_law_255 (lv_at hl 0 rfl) ?_
  refine lv_iconst (v := 1) X.1 X.2.1 dL_law_257 (by decide) ?_
  refine lv_iadd X.1 X.2.1 dL_law_258 ?_
  refine lv_topi (fun v_14 ev_14 => ?_)
  obtain rfl : v_14 = 1 := ev_14.trans (by decide +kernel)
  refine va_sld X.1 X.2.1 hX hbl hbA hwM.2.2 (vp_in_iff.mpr (by decide +kernel)) dL_law_259 ?_
  refine lv_aload_n X.1 X.2.1 dL_law_260 rfl (lv_at hl 4 rfl) ?_
  refine lv_iload X.1 X.2.1 dL_law_261 (lv_at hl 0 rfl) ?_
  refine lv_iconst (v := 2) X.1 X.2.1 dL_law_263 (by decide) ?_
  refine lv_iadd X.1 X.2.1 dL_law_264 ?_
  refine lv_topi (fun v_15 ev_15 => ?_)
  obtain rfl : v_15 = 2 := ev_15.trans (by decide +kernel)
  refine va_sld X.1 X.2.1 hX hbl hbA hwM.2.2 (vp_in_iff.mpr (by decide +kernel)) dL_law_265 ?_
  refine lv_aload_n X.1 X.2.1 dL_law_266 rfl (lv_at hl 4 rfl) ?_
  refine lv_iload X.1 X.2.1 dL_law_267 (lv_at hl 0 rfl) ?_
  refine lv_iconst (v := 3) X.1 X.2.1 dL_law_269 (by decide) ?_
  refine lv_iadd X.1 X.2.1 dL_law_270 ?_
  refine lv_topi (fun v_16 ev_16 => ?_)
  obtain rfl : v_16 = 3 := ev_16.trans (by decide +kernel)
  refine va_sld X.1 X.2.1 hX hbl hbA hwM.2.2 (vp_in_iff.mpr (by decide +kernel)) dL_law_271 ?_
  refine k_i (rm := { frames := 4, cells := 0, slots := 0, locals := 160 }) (av := [.ref x, .int (xs (Int32.toNatClampNeg 1)), .int (xs (Int32.toNatClampNeg 2)), .int (xs (Int32.toNatClampNeg 3))]) X hwX (va_runV (As := [.int (xs (Int32.toNatClampNeg 1)), .int (xs (Int32.toNatClampNeg 2)), .int (xs (Int32.toNatClampNeg 3))]) (rest := []) (cfix X) (c_X11_cocoon l G cy SX _ x (xs (Int32.toNatClampNeg 1)) (xs (Int32.toNatClampNeg 2)) (xs (Int32.toNatClampNeg 3)) hFX) (cwV 3 X.2.2.2.1 gk_X11_cocoon rfl rfl rfl (by decide +kernel) ⟨Nat.le_of_ble_eq_true rfl, Nat.le_of_ble_eq_true rfl⟩) (pre_V X hwX _ hFX.1 (by decide) rfl) rfl rfl hl.1 rfl (lv_room (Nat.le_of_ble_eq_true rfl)) dL_law_272 ⟨Nat.le_of_ble_eq_true rfl, Nat.le_of_ble_eq_true rfl⟩) 173 193079 (Nat.le_of_ble_eq_true rfl) (Nat.le_of_ble_eq_true rfl) (fun rr_272 S2 H locs hp_272 hw2 hfr hnw => ?_)
  have hwM := Wd_keep hwM hfr hdM hw2.2.2
  clear hwX
  refine lv_aload_n X.1 X.2.1 dL_law_275 rfl (lv_at hl 2 rfl) ?_
  refine lv_aload_n X.1 X.2.1 dL_law_276 rfl (lv_at hl 4 rfl) ?_
  refine lv_iload X.1 X.2.1 dL_law_277 (lv_at hl 0 rfl) ?_
  refine lv_iconst (v := 1) X.1 X.2.1 dL_law_279 (by decide) ?_
  refine lv_iadd X.1 X.2.1 dL_law_280 ?_
  refine lv_topi (fun v_17 ev_17 => ?_)
  obtain rfl : v_17 = 1 := ev_17.trans (by decide +kernel)
  refine va_sld X.1 X.2.1 hX hbl hbA hwM.2.2 (vp_in_iff.mpr (by decide +kernel)) dL_law_281 ?_
  refine lv_aload_n X.1 X.2.1 dL_law_282 rfl (lv_at hl 4 rfl) ?_
  refine lv_iload X.1 X.2.1 dL_law_283 (lv_at hl 0 rfl) ?_
  refine lv_iconst (v := 2) X.1 X.2.1 dL_law_285 (by decide) ?_
  refine lv_iadd X.1 X.2.1 dL_law_286 ?_
  refine lv_topi (fun v_18 ev_18 => ?_)
  obtain rfl : v_18 = 2 := ev_18.trans (by decide +kernel)
  refine va_sld X.1 X.2.1 hX hbl hbA hwM.2.2 (vp_in_iff.mpr (by decide +kernel)) dL_law_287 ?_
  refine lv_aload_n X.1 X.2.1 dL_law_288 rfl (lv_at hl 4 rfl) ?_
  refine lv_iload X.1 X.2.1 dL_law_289 (lv_at hl 0 rfl) ?_
  refine lv_iconst (v := 3) X.1 X.2.1 dL_law_291 (by decide) ?_
  refine lv_iadd X.1 X.2.1 dL_law_292 ?_
  refine lv_topi (fun v_19 ev_19 => ?_)
  obtain rfl : v_19 = 3 := ev_19.trans (by decide +kernel)
  refine va_sld X.1 X.2.1 hX hbl hbA hwM.2.2 (vp_in_iff.mpr (by decide +kernel)) dL_law_293 ?_
  refine k_i (rm := { frames := 5, cells := 0, slots := 0, locals := 200 }) (av := [.ref mo, .int (xs (Int32.toNatClampNeg 1)), .int (xs (Int32.toNatClampNeg 2)), .int (xs (Int32.toNatClampNeg 3))]) X hwM (va_runV (As := [.int (xs (Int32.toNatClampNeg 1)), .int (xs (Int32.toNatClampNeg 2)), .int (xs (Int32.toNatClampNeg 3))]) (rest := [.int (rr_272)]) (cfix X) (c_X12_cocoon l G cy SM _ mo (xs (Int32.toNatClampNeg 1)) (xs (Int32.toNatClampNeg 2)) (xs (Int32.toNatClampNeg 3)) hFM) (cwV 3 X.2.2.2.1 gk_X12_cocoon rfl rfl rfl (by decide +kernel) ⟨Nat.le_of_ble_eq_true rfl, Nat.le_of_ble_eq_true rfl⟩) (pre_V X hwM _ hFM.1 (by decide) rfl) rfl rfl hl.1 rfl (lv_room (Nat.le_of_ble_eq_true rfl)) dL_law_294 ⟨Nat.le_of_ble_eq_true rfl, Nat.le_of_ble_eq_true rfl⟩) 173 193079 (Nat.le_of_ble_eq_true rfl) (Nat.le_of_ble_eq_true rfl) (fun rr_294 S2 H locs hp_294 hw2 hfr hnw => ?_)
  have hwM := hw2
  refine lv_icmp_eq (tgt := 1561) X.1 X.2.1 dL_law_297 (by decide) (fun c_297 => ?_) (fun c_297 => absurd (hp_272.trans hp_294.symm) c_297)
  refine lv_iinc (v := 6) (lv' := [(4, .int 6), (3, .ref outq), (2, .ref mo), (1, .ref x), (0, .ref b)]) X.1 X.2.1 dL_law_1561 hl (k := 0) rfl (by decide) (by decide) rfl (fun ls hl => ?_)
  refine lv_goto (tgt := 23) X.1 X.2.1 dL_law_1564 (by decide) ?_
  refine lv_iload X.1 X.2.1 dL_law_23 (lv_at hl 0 rfl) ?_
  refine lv_aload_n X.1 X.2.1 dL_law_25 rfl (lv_at hl 4 rfl) ?_
  refine va_slen X.1 X.2.1 hX hbl hbA hwM.2.2 dL_law_26 ?_
  refine lv_topi (fun lv_26 elv_26 => ?_)
  obtain rfl : lv_26 = 6 := elv_26.trans (by decide +kernel)
  refine lv_bipush (v := 6) X.1 X.2.1 dL_law_27 (by decide) ?_
  refine lv_isub X.1 X.2.1 dL_law_29 ?_
  refine lv_topi (fun v_20 ev_20 => ?_)
  obtain rfl : v_20 = 0 := ev_20.trans (by decide +kernel)
  refine lv_icmp_gt (tgt := 1567) X.1 X.2.1 dL_law_30 (by decide) (fun c_30 => ?_) (fun c_30 => absurd c_30 (by decide))
  refine lv_iconst (v := 1) X.1 X.2.1 dL_law_1567 (by decide) ?_
  refine va_forget (fun q hq => hwM.2.2.2.2 q hq) ?_
  refine W.widen (k := 600002) (n := 7302232) (Nat.le_of_ble_eq_true rfl) (Nat.le_of_ble_eq_true rfl) ?_
  exact lw_ret X.1 X.2.1 hr hlocks dL_law_1568
set_option maxHeartbeats 8000000 in
set_option maxRecDepth 100000 in
theorem lc_2 {p : Program} {l : Launch} {e : Env} {s : State} {m : MethodId} {below : List Frame} {meth : Method} {c : Code} (hst : l.stackTraces = false) {b x mo outq : Nat} {xs : Nat → Int32} {G : va_G} {cy : Nat → ClassId} (X : Cx p c cL_law 7 s #[Value.ref b] lw_tbl RL m G cy (fun q : Nat => s.heap.size ≤ q)) (hr : meth.sig.returnType = ret) (hlocks : meth.locks = false) (hX : va_X b 6 xs s s.heap) (hbl : b < s.heap.size) (hbA : ¬ (fun q : Nat => s.heap.size ≤ q) b) (hZ : Zs (fun q : Nat => s.heap.size ≤ q) s s.heap) (sa_L_fineness sa_L_in : Nat) (hStr_L_fineness : vk_R RX11 104 "there is no such place of a cocoon" sa_L_fineness s) (hStr_L_in : vk_R RX11 221 "there is no such cocoon in a pot" sa_L_in s) (hdc : ∀ Y ∈ DcL, va_Nw (.declares (Bundle.initS Y)) s) {SX SM : PS} {H : Heap} {locs : List Loc} {ls : Array Slot} (hwX : Wd G cy (fun q : Nat => s.heap.size ≤ q) s.heap SX H locs) (hwM : Wd G cy (fun q : Nat => s.heap.size ≤ q) s.heap SM H locs) (hdM : ∀ q ∈ pL SM, q ∉ pL SX) (hFX : FX SX x) (hFM : FM SM mo) (hl : lv_has ls 7 [(4, .int 0), (3, .ref outq), (2, .ref mo), (1, .ref x), (0, .ref b)]) : W p l e room_1 s m #[Value.ref b] below meth c H locs 173 193079 (lw_Z below #[Value.ref b] s) (F0 m 302 ls []) := by
  refine lv_aload_n X.1 X.2.1 dL_law_302 rfl (lv_at hl 3 rfl) ?_
  refine lv_aload_n X.1 X.2.1 dL_law_303 rfl (lv_at hl 4 rfl) ?_
  refine lv_iload X.1 X.2.1 dL_law_304 (lv_at hl 0 rfl) ?_
  refine lv_iconst (v := 1) X.1 X.2.1 dL_law_306 (by decide) ?_
  refine lv_iadd X.1 X.2.1 dL_law_307 ?_
  refine lv_topi (fun v_21 ev_21 => ?_)
  obtain rfl : v_21 = 1 := ev_21.trans (by decide +kernel)
  refine va_sld X.1 X.2.1 hX hbl hbA hwM.2.2 (vp_in_iff.mpr (by decide +kernel)) dL_law_308 ?_
  refine lv_aload_n X.1 X.2.1 dL_law_309 rfl (lv_at hl 4 rfl) ?_
  refine lv_iload X.1 X.2.1 dL_law_310 (lv_at hl 0 rfl) ?_
  refine lv_iconst (v := 2) X.1 X.2.1 dL_law_312 (by decide) ?_
  refine lv_iadd X.1 X.2.1 dL_law_313 ?_
  refine lv_topi (fun v_22 ev_22 => ?_)
  obtain rfl : v_22 = 2 := ev_22.trans (by decide +kernel)
  refine va_sld X.1 X.2.1 hX hbl hbA hwM.2.2 (vp_in_iff.mpr (by decide +kernel)) dL_law_314 ?_
  refine lv_aload_n X.1 X.2.1 dL_law_315 rfl (lv_at hl 4 rfl) ?_
  refine lv_iload X.1 X.2.1 dL_law_316 (lv_at hl 0 rfl) ?_
  refine lv_iconst (v := 3) X.1 X.2.1 dL_law_318 (by decide) ?_
  refine lv_iadd X.1 X.2.1 dL_law_319 ?_
  refine lv_topi (fun v_23 ev_23 => ?_)
  obtain rfl : v_23 = 3 := ev_23.trans (by decide +kernel)
  refine va_sld X.1 X.2.1 hX hbl hbA hwM.2.2 (vp_in_iff.mpr (by decide +kernel)) dL_law_320 ?_
  refine lv_aload_n X.1 X.2.1 dL_law_321 rfl (lv_at hl 1 rfl) ?_
  refine k_i (rm := { frames := 9, cells := 1, slots := 6, locals := 360 }) (av := [.ref x, .int (xs (Int32.toNatClampNeg 1)), .int (xs (Int32.toNatClampNeg 2)), .int (xs (Int32.toNatClampNeg 3)), .ref outq]) X hwX (vx_runSW (As := [.ref x, .int (xs (Int32.toNatClampNeg 1)), .int (xs (Int32.toNatClampNeg 2)), .int (xs (Int32.toNatClampNeg 3)), .ref outq]) (rest := []) (cfix X) (c_L_fineness l hst G cy SX _ _ x (xs (Int32.toNatClampNeg 1)) (xs (Int32.toNatClampNeg 2)) (xs (Int32.toNatClampNeg 3)) outq hFX) (vx_cwSW 5 X.2.2.2.1 gk_L_fineness rfl rfl rfl (by decide +kernel) ⟨Nat.le_of_ble_eq_true rfl, Nat.le_of_ble_eq_true rfl⟩) (pre_SQ X hwX hZ hStr_L_fineness hdc _) rfl rfl hl.1 rfl (lv_room (Nat.le_of_ble_eq_true rfl)) dL_law_322 ⟨Nat.le_of_ble_eq_true rfl, Nat.le_of_ble_eq_true rfl⟩) 174 193085 (Nat.le_of_ble_eq_true rfl) (Nat.le_of_ble_eq_true rfl) (fun rr_322 S2 H locs hp_322 hw2 hfr hnw => ?_)
  have hwM := Wd_keep hwM hfr hdM hw2.2.2
  clear hwX
  subst hp_322
  refine lv_istore (lv' := [(5, .int 1), (4, .int 0), (3, .ref outq), (2, .ref mo), (1, .ref x), (0, .ref b)]) X.1 X.2.1 dL_law_325 hl (by decide) rfl (fun ls hl => ?_)
  refine lv_aload_n X.1 X.2.1 dL_law_327 rfl (lv_at hl 3 rfl) ?_
  refine lv_aload_n X.1 X.2.1 dL_law_328 rfl (lv_at hl 5 rfl) ?_
  refine lv_iload X.1 X.2.1 dL_law_329 (lv_at hl 1 rfl) ?_
  refine lv_iconst (v := 1) X.1 X.2.1 dL_law_331 (by decide) ?_
  refine lv_iadd X.1 X.2.1 dL_law_332 ?_
  refine lv_topi (fun v_24 ev_24 => ?_)
  obtain rfl : v_24 = 1 := ev_24.trans (by decide +kernel)
  refine va_sld X.1 X.2.1 hX hbl hbA hwM.2.2 (vp_in_iff.mpr (by decide +kernel)) dL_law_333 ?_
  refine lv_aload_n X.1 X.2.1 dL_law_334 rfl (lv_at hl 5 rfl) ?_
  refine lv_iload X.1 X.2.1 dL_law_335 (lv_at hl 1 rfl) ?_
  refine lv_iconst (v := 2) X.1 X.2.1 dL_law_337 (by decide) ?_
  refine lv_iadd X.1 X.2.1 dL_law_338 ?_
  refine lv_topi (fun v_25 ev_25 => ?_)
  obtain rfl : v_25 = 2 := ev_25.trans (by decide +kernel)
  refine va_sld X.1 X.2.1 hX hbl hbA hwM.2.2 (vp_in_iff.mpr (by decide +kernel)) dL_law_339 ?_
  refine lv_aload_n X.1 X.2.1 dL_law_340 rfl (lv_at hl 5 rfl) ?_
  refine lv_iload X.1 X.2.1 dL_law_341 (lv_at hl 1 rfl) ?_
  refine lv_iconst (v := 3) X.1 X.2.1 dL_law_343 (by decide) ?_
  refine lv_iadd X.1 X.2.1 dL_law_344 ?_
  refine lv_topi (fun v_26 ev_26 => ?_)
  obtain rfl : v_26 = 3 := ev_26.trans (by decide +kernel)
  refine va_sld X.1 X.2.1 hX hbl hbA hwM.2.2 (vp_in_iff.mpr (by decide +kernel)) dL_law_345 ?_
  refine k_i (rm := { frames := 5, cells := 0, slots := 0, locals := 200 }) (av := [.ref mo, .int (xs (Int32.toNatClampNeg 1)), .int (xs (Int32.toNatClampNeg 2)), .int (xs (Int32.toNatClampNeg 3))]) X hwM (va_runV (As := [.int (xs (Int32.toNatClampNeg 1)), .int (xs (Int32.toNatClampNeg 2)), .int (xs (Int32.toNatClampNeg 3))]) (rest := []) (cfix X) (c_X12_fineness l G cy SM _ mo (xs (Int32.toNatClampNeg 1)) (xs (Int32.toNatClampNeg 2)) (xs (Int32.toNatClampNeg 3)) hFM) (cwV 3 X.2.2.2.1 gk_X12_fineness rfl rfl rfl (by decide +kernel) ⟨Nat.le_of_ble_eq_true rfl, Nat.le_of_ble_eq_true rfl⟩) (pre_V X hwM _ hFM.1 (by decide) rfl) rfl rfl hl.1 rfl (lv_room (Nat.le_of_ble_eq_true rfl)) dL_law_346 ⟨Nat.le_of_ble_eq_true rfl, Nat.le_of_ble_eq_true rfl⟩) 174 193085 (Nat.le_of_ble_eq_true rfl) (Nat.le_of_ble_eq_true rfl) (fun rr_346 S2 H locs hp_346 hw2 hfr hnw => ?_)
  obtain ⟨-, hat_mt, hthr⟩ := hp_346
  have hwM := hw2
  refine lv_istore (lv' := [(6, .int (rr_346)), (5, .int 1), (4, .int 0), (3, .ref outq), (2, .ref mo), (1, .ref x), (0, .ref b)]) X.1 X.2.1 dL_law_349 hl (by decide) rfl (fun ls hl => ?_)
  refine lv_aload_n X.1 X.2.1 dL_law_351 rfl (lv_at hl 4 rfl) ?_
  refine k_i (rm := { frames := 1, cells := 0, slots := 0, locals := 40 }) (av := [.ref mo]) X hwM (va_runV (As := []) (rest := []) (cfix X) (c_X12_thrown l G cy S2 _ mo hat_mt) (cwV 0 X.2.2.2.1 gk_X12_thrown rfl rfl rfl (by decide +kernel) ⟨Nat.le_of_ble_eq_true rfl, Nat.le_of_ble_eq_true rfl⟩) (pre_V X hwM _ hat_mt (by decide) rfl) rfl rfl hl.1 rfl (lv_room (Nat.le_of_ble_eq_true rfl)) dL_law_352 ⟨Nat.le_of_ble_eq_true rfl, Nat.le_of_ble_eq_true rfl⟩) 174 193085 (Nat.le_of_ble_eq_true rfl) (Nat.le_of_ble_eq_true rfl) (fun rr_352 S2 H locs hp_352 hw2 hfr hnw => ?_)
  have hwM := hw2
  refine lv_iload X.1 X.2.1 dL_law_355 (lv_at hl 1 rfl) ?_
  refine lv_icmp_eq (tgt := 362) X.1 X.2.1 dL_law_357 (by decide) (fun c_357 => ?_) (fun c_357 => absurd (hp_352.trans hthr) c_357)
  refine lv_iload X.1 X.2.1 dL_law_362 (lv_at hl 1 rfl) ?_
  refine lv_if_ne (tgt := 379) X.1 X.2.1 dL_law_364 (by decide) (fun c_364 => ?_) (fun c_364 => absurd c_364 (by decide))
  refine lv_goto (tgt := 1561) X.1 X.2.1 dL_law_379 (by decide) ?_
  refine lv_iinc (v := 6) (lv' := [(4, .int 6), (6, .int (rr_346)), (5, .int 1), (3, .ref outq), (2, .ref mo), (1, .ref x), (0, .ref b)]) X.1 X.2.1 dL_law_1561 hl (k := 2) rfl (by decide) (by decide) rfl (fun ls hl => ?_)
  refine lv_goto (tgt := 23) X.1 X.2.1 dL_law_1564 (by decide) ?_
  refine lv_iload X.1 X.2.1 dL_law_23 (lv_at hl 0 rfl) ?_
  refine lv_aload_n X.1 X.2.1 dL_law_25 rfl (lv_at hl 6 rfl) ?_
  refine va_slen X.1 X.2.1 hX hbl hbA hwM.2.2 dL_law_26 ?_
  refine lv_topi (fun lv_26 elv_26 => ?_)
  obtain rfl : lv_26 = 6 := elv_26.trans (by decide +kernel)
  refine lv_bipush (v := 6) X.1 X.2.1 dL_law_27 (by decide) ?_
  refine lv_isub X.1 X.2.1 dL_law_29 ?_
  refine lv_topi (fun v_27 ev_27 => ?_)
  obtain rfl : v_27 = 0 := ev_27.trans (by decide +kernel)
  refine lv_icmp_gt (tgt := 1567) X.1 X.2.1 dL_law_30 (by decide) (fun c_30 => ?_) (fun c_30 => absurd c_30 (by decide))
  refine lv_iconst (v := 1) X.1 X.2.1 dL_law_1567 (by decide) ?_
  refine va_forget (fun q hq => hwM.2.2.2.2 q hq) ?_
  refine W.widen (k := 600002) (n := 7302232) (Nat.le_of_ble_eq_true rfl) (Nat.le_of_ble_eq_true rfl) ?_
  exact lw_ret X.1 X.2.1 hr hlocks dL_law_1568
set_option maxHeartbeats 8000000 in
set_option maxRecDepth 100000 in
theorem lc_3 {p : Program} {l : Launch} {e : Env} {s : State} {m : MethodId} {below : List Frame} {meth : Method} {c : Code} (hst : l.stackTraces = false) {b x mo outq : Nat} {xs : Nat → Int32} {G : va_G} {cy : Nat → ClassId} (X : Cx p c cL_law 7 s #[Value.ref b] lw_tbl RL m G cy (fun q : Nat => s.heap.size ≤ q)) (hr : meth.sig.returnType = ret) (hlocks : meth.locks = false) (hX : va_X b 6 xs s s.heap) (hbl : b < s.heap.size) (hbA : ¬ (fun q : Nat => s.heap.size ≤ q) b) (hZ : Zs (fun q : Nat => s.heap.size ≤ q) s s.heap) (sa_L_fineness sa_L_in : Nat) (hStr_L_fineness : vk_R RX11 104 "there is no such place of a cocoon" sa_L_fineness s) (hStr_L_in : vk_R RX11 221 "there is no such cocoon in a pot" sa_L_in s) (hdc : ∀ Y ∈ DcL, va_Nw (.declares (Bundle.initS Y)) s) {SX SM : PS} {H : Heap} {locs : List Loc} {ls : Array Slot} (hwX : Wd G cy (fun q : Nat => s.heap.size ≤ q) s.heap SX H locs) (hwM : Wd G cy (fun q : Nat => s.heap.size ≤ q) s.heap SM H locs) (hdM : ∀ q ∈ pL SM, q ∉ pL SX) (hFX : FX SX x) (hFM : FM SM mo) (hl : lv_has ls 7 [(4, .int 0), (3, .ref outq), (2, .ref mo), (1, .ref x), (0, .ref b)]) : W p l e room_1 s m #[Value.ref b] below meth c H locs 173 193079 (lw_Z below #[Value.ref b] s) (F0 m 382 ls []) := by
  refine lv_aload_n X.1 X.2.1 dL_law_382 rfl (lv_at hl 3 rfl) ?_
  refine lv_aload_n X.1 X.2.1 dL_law_383 rfl (lv_at hl 4 rfl) ?_
  refine lv_iload X.1 X.2.1 dL_law_384 (lv_at hl 0 rfl) ?_
  refine lv_iconst (v := 1) X.1 X.2.1 dL_law_386 (by decide) ?_
  refine lv_iadd X.1 X.2.1 dL_law_387 ?_
  refine lv_topi (fun v_28 ev_28 => ?_)
  obtain rfl : v_28 = 1 := ev_28.trans (by decide +kernel)
  refine va_sld X.1 X.2.1 hX hbl hbA hwM.2.2 (vp_in_iff.mpr (by decide +kernel)) dL_law_388 ?_
  refine lv_aload_n X.1 X.2.1 dL_law_389 rfl (lv_at hl 4 rfl) ?_
  refine lv_iload X.1 X.2.1 dL_law_390 (lv_at hl 0 rfl) ?_
  refine lv_iconst (v := 2) X.1 X.2.1 dL_law_392 (by decide) ?_
  refine lv_iadd X.1 X.2.1 dL_law_393 ?_
  refine lv_topi (fun v_29 ev_29 => ?_)
  obtain rfl : v_29 = 2 := ev_29.trans (by decide +kernel)
  refine va_sld X.1 X.2.1 hX hbl hbA hwM.2.2 (vp_in_iff.mpr (by decide +kernel)) dL_law_394 ?_
  refine lv_aload_n X.1 X.2.1 dL_law_395 rfl (lv_at hl 4 rfl) ?_
  refine lv_iload X.1 X.2.1 dL_law_396 (lv_at hl 0 rfl) ?_
  refine lv_iconst (v := 3) X.1 X.2.1 dL_law_398 (by decide) ?_
  refine lv_iadd X.1 X.2.1 dL_law_399 ?_
  refine lv_topi (fun v_30 ev_30 => ?_)
  obtain rfl : v_30 = 3 := ev_30.trans (by decide +kernel)
  refine va_sld X.1 X.2.1 hX hbl hbA hwM.2.2 (vp_in_iff.mpr (by decide +kernel)) dL_law_400 ?_
  refine k_i (rm := { frames := 4, cells := 0, slots := 0, locals := 160 }) (av := [.ref x, .int (xs (Int32.toNatClampNeg 1)), .int (xs (Int32.toNatClampNeg 2)), .int (xs (Int32.toNatClampNeg 3))]) X hwX (va_runV (As := [.int (xs (Int32.toNatClampNeg 1)), .int (xs (Int32.toNatClampNeg 2)), .int (xs (Int32.toNatClampNeg 3))]) (rest := []) (cfix X) (c_X11_test l G cy SX _ x (xs (Int32.toNatClampNeg 1)) (xs (Int32.toNatClampNeg 2)) (xs (Int32.toNatClampNeg 3)) hFX) (cwV 3 X.2.2.2.1 gk_X11_test rfl rfl rfl (by decide +kernel) ⟨Nat.le_of_ble_eq_true rfl, Nat.le_of_ble_eq_true rfl⟩) (pre_V X hwX _ hFX.1 (by decide) rfl) rfl rfl hl.1 rfl (lv_room (Nat.le_of_ble_eq_true rfl)) dL_law_401 ⟨Nat.le_of_ble_eq_true rfl, Nat.le_of_ble_eq_true rfl⟩) 173 193079 (Nat.le_of_ble_eq_true rfl) (Nat.le_of_ble_eq_true rfl) (fun rr_401 S2 H locs hp_401 hw2 hfr hnw => ?_)
  have hwM := Wd_keep hwM hfr hdM hw2.2.2
  clear hwX
  refine lv_aload_n X.1 X.2.1 dL_law_404 rfl (lv_at hl 2 rfl) ?_
  refine lv_aload_n X.1 X.2.1 dL_law_405 rfl (lv_at hl 4 rfl) ?_
  refine lv_iload X.1 X.2.1 dL_law_406 (lv_at hl 0 rfl) ?_
  refine lv_iconst (v := 1) X.1 X.2.1 dL_law_408 (by decide) ?_
  refine lv_iadd X.1 X.2.1 dL_law_409 ?_
  refine lv_topi (fun v_31 ev_31 => ?_)
  obtain rfl : v_31 = 1 := ev_31.trans (by decide +kernel)
  refine va_sld X.1 X.2.1 hX hbl hbA hwM.2.2 (vp_in_iff.mpr (by decide +kernel)) dL_law_410 ?_
  refine lv_aload_n X.1 X.2.1 dL_law_411 rfl (lv_at hl 4 rfl) ?_
  refine lv_iload X.1 X.2.1 dL_law_412 (lv_at hl 0 rfl) ?_
  refine lv_iconst (v := 2) X.1 X.2.1 dL_law_414 (by decide) ?_
  refine lv_iadd X.1 X.2.1 dL_law_415 ?_
  refine lv_topi (fun v_32 ev_32 => ?_)
  obtain rfl : v_32 = 2 := ev_32.trans (by decide +kernel)
  refine va_sld X.1 X.2.1 hX hbl hbA hwM.2.2 (vp_in_iff.mpr (by decide +kernel)) dL_law_416 ?_
  refine lv_aload_n X.1 X.2.1 dL_law_417 rfl (lv_at hl 4 rfl) ?_
  refine lv_iload X.1 X.2.1 dL_law_418 (lv_at hl 0 rfl) ?_
  refine lv_iconst (v := 3) X.1 X.2.1 dL_law_420 (by decide) ?_
  refine lv_iadd X.1 X.2.1 dL_law_421 ?_
  refine lv_topi (fun v_33 ev_33 => ?_)
  obtain rfl : v_33 = 3 := ev_33.trans (by decide +kernel)
  refine va_sld X.1 X.2.1 hX hbl hbA hwM.2.2 (vp_in_iff.mpr (by decide +kernel)) dL_law_422 ?_
  refine k_i (rm := { frames := 5, cells := 0, slots := 0, locals := 200 }) (av := [.ref mo, .int (xs (Int32.toNatClampNeg 1)), .int (xs (Int32.toNatClampNeg 2)), .int (xs (Int32.toNatClampNeg 3))]) X hwM (va_runV (As := [.int (xs (Int32.toNatClampNeg 1)), .int (xs (Int32.toNatClampNeg 2)), .int (xs (Int32.toNatClampNeg 3))]) (rest := [.int (rr_401)]) (cfix X) (c_X12_test l G cy SM _ mo (xs (Int32.toNatClampNeg 1)) (xs (Int32.toNatClampNeg 2)) (xs (Int32.toNatClampNeg 3)) hFM) (cwV 3 X.2.2.2.1 gk_X12_test rfl rfl rfl (by decide +kernel) ⟨Nat.le_of_ble_eq_true rfl, Nat.le_of_ble_eq_true rfl⟩) (pre_V X hwM _ hFM.1 (by decide) rfl) rfl rfl hl.1 rfl (lv_room (Nat.le_of_ble_eq_true rfl)) dL_law_423 ⟨Nat.le_of_ble_eq_true rfl, Nat.le_of_ble_eq_true rfl⟩) 173 193079 (Nat.le_of_ble_eq_true rfl) (Nat.le_of_ble_eq_true rfl) (fun rr_423 S2 H locs hp_423 hw2 hfr hnw => ?_)
  have hwM := hw2
  refine lv_icmp_eq (tgt := 1561) X.1 X.2.1 dL_law_426 (by decide) (fun c_426 => ?_) (fun c_426 => absurd (hp_401.trans hp_423.symm) c_426)
  refine lv_iinc (v := 6) (lv' := [(4, .int 6), (3, .ref outq), (2, .ref mo), (1, .ref x), (0, .ref b)]) X.1 X.2.1 dL_law_1561 hl (k := 0) rfl (by decide) (by decide) rfl (fun ls hl => ?_)
  refine lv_goto (tgt := 23) X.1 X.2.1 dL_law_1564 (by decide) ?_
  refine lv_iload X.1 X.2.1 dL_law_23 (lv_at hl 0 rfl) ?_
  refine lv_aload_n X.1 X.2.1 dL_law_25 rfl (lv_at hl 4 rfl) ?_
  refine va_slen X.1 X.2.1 hX hbl hbA hwM.2.2 dL_law_26 ?_
  refine lv_topi (fun lv_26 elv_26 => ?_)
  obtain rfl : lv_26 = 6 := elv_26.trans (by decide +kernel)
  refine lv_bipush (v := 6) X.1 X.2.1 dL_law_27 (by decide) ?_
  refine lv_isub X.1 X.2.1 dL_law_29 ?_
  refine lv_topi (fun v_34 ev_34 => ?_)
  obtain rfl : v_34 = 0 := ev_34.trans (by decide +kernel)
  refine lv_icmp_gt (tgt := 1567) X.1 X.2.1 dL_law_30 (by decide) (fun c_30 => ?_) (fun c_30 => absurd c_30 (by decide))
  refine lv_iconst (v := 1) X.1 X.2.1 dL_law_1567 (by decide) ?_
  refine va_forget (fun q hq => hwM.2.2.2.2 q hq) ?_
  refine W.widen (k := 600002) (n := 7302232) (Nat.le_of_ble_eq_true rfl) (Nat.le_of_ble_eq_true rfl) ?_
  exact lw_ret X.1 X.2.1 hr hlocks dL_law_1568
set_option maxHeartbeats 8000000 in
set_option maxRecDepth 100000 in
theorem lc_4 {p : Program} {l : Launch} {e : Env} {s : State} {m : MethodId} {below : List Frame} {meth : Method} {c : Code} (hst : l.stackTraces = false) {b x mo outq : Nat} {xs : Nat → Int32} {G : va_G} {cy : Nat → ClassId} (X : Cx p c cL_law 7 s #[Value.ref b] lw_tbl RL m G cy (fun q : Nat => s.heap.size ≤ q)) (hr : meth.sig.returnType = ret) (hlocks : meth.locks = false) (hX : va_X b 6 xs s s.heap) (hbl : b < s.heap.size) (hbA : ¬ (fun q : Nat => s.heap.size ≤ q) b) (hZ : Zs (fun q : Nat => s.heap.size ≤ q) s s.heap) (sa_L_fineness sa_L_in : Nat) (hStr_L_fineness : vk_R RX11 104 "there is no such place of a cocoon" sa_L_fineness s) (hStr_L_in : vk_R RX11 221 "there is no such cocoon in a pot" sa_L_in s) (hdc : ∀ Y ∈ DcL, va_Nw (.declares (Bundle.initS Y)) s) {SX SM : PS} {H : Heap} {locs : List Loc} {ls : Array Slot} (hwX : Wd G cy (fun q : Nat => s.heap.size ≤ q) s.heap SX H locs) (hwM : Wd G cy (fun q : Nat => s.heap.size ≤ q) s.heap SM H locs) (hdM : ∀ q ∈ pL SM, q ∉ pL SX) (hFX : FX SX x) (hFM : FM SM mo) (hl : lv_has ls 7 [(4, .int 0), (3, .ref outq), (2, .ref mo), (1, .ref x), (0, .ref b)]) : W p l e room_1 s m #[Value.ref b] below meth c H locs 173 193079 (lw_Z below #[Value.ref b] s) (F0 m 431 ls []) := by
  refine lv_aload_n X.1 X.2.1 dL_law_431 rfl (lv_at hl 3 rfl) ?_
  refine lv_aload_n X.1 X.2.1 dL_law_432 rfl (lv_at hl 4 rfl) ?_
  refine lv_iload X.1 X.2.1 dL_law_433 (lv_at hl 0 rfl) ?_
  refine lv_iconst (v := 1) X.1 X.2.1 dL_law_435 (by decide) ?_
  refine lv_iadd X.1 X.2.1 dL_law_436 ?_
  refine lv_topi (fun v_35 ev_35 => ?_)
  obtain rfl : v_35 = 1 := ev_35.trans (by decide +kernel)
  refine va_sld X.1 X.2.1 hX hbl hbA hwM.2.2 (vp_in_iff.mpr (by decide +kernel)) dL_law_437 ?_
  refine lv_aload_n X.1 X.2.1 dL_law_438 rfl (lv_at hl 4 rfl) ?_
  refine lv_iload X.1 X.2.1 dL_law_439 (lv_at hl 0 rfl) ?_
  refine lv_iconst (v := 2) X.1 X.2.1 dL_law_441 (by decide) ?_
  refine lv_iadd X.1 X.2.1 dL_law_442 ?_
  refine lv_topi (fun v_36 ev_36 => ?_)
  obtain rfl : v_36 = 2 := ev_36.trans (by decide +kernel)
  refine va_sld X.1 X.2.1 hX hbl hbA hwM.2.2 (vp_in_iff.mpr (by decide +kernel)) dL_law_443 ?_
  refine k_i (rm := { frames := 6, cells := 60, slots := 6000, locals := 240 }) (av := [.ref x, .int (xs (Int32.toNatClampNeg 1)), .int (xs (Int32.toNatClampNeg 2))]) X hwX (va_runV (As := [.int (xs (Int32.toNatClampNeg 1)), .int (xs (Int32.toNatClampNeg 2))]) (rest := []) (cfix X) (c_X11_pot l G cy SX _ x (xs (Int32.toNatClampNeg 1)) (xs (Int32.toNatClampNeg 2)) hFX) (cwV 2 X.2.2.2.1 gk_X11_pot rfl rfl rfl (by decide +kernel) ⟨Nat.le_of_ble_eq_true rfl, Nat.le_of_ble_eq_true rfl⟩) (pre_V X hwX _ hFX.1 (by decide) rfl) rfl rfl hl.1 rfl (lv_room (Nat.le_of_ble_eq_true rfl)) dL_law_444 ⟨Nat.le_of_ble_eq_true rfl, Nat.le_of_ble_eq_true rfl⟩) 233 199079 (Nat.le_of_ble_eq_true rfl) (Nat.le_of_ble_eq_true rfl) (fun rr_444 S2 H locs hp_444 hw2 hfr hnw => ?_)
  have hwM := Wd_keep hwM hfr hdM hw2.2.2
  clear hwX
  refine lv_aload_n X.1 X.2.1 dL_law_447 rfl (lv_at hl 2 rfl) ?_
  refine lv_aload_n X.1 X.2.1 dL_law_448 rfl (lv_at hl 4 rfl) ?_
  refine lv_iload X.1 X.2.1 dL_law_449 (lv_at hl 0 rfl) ?_
  refine lv_iconst (v := 1) X.1 X.2.1 dL_law_451 (by decide) ?_
  refine lv_iadd X.1 X.2.1 dL_law_452 ?_
  refine lv_topi (fun v_37 ev_37 => ?_)
  obtain rfl : v_37 = 1 := ev_37.trans (by decide +kernel)
  refine va_sld X.1 X.2.1 hX hbl hbA hwM.2.2 (vp_in_iff.mpr (by decide +kernel)) dL_law_453 ?_
  refine lv_aload_n X.1 X.2.1 dL_law_454 rfl (lv_at hl 4 rfl) ?_
  refine lv_iload X.1 X.2.1 dL_law_455 (lv_at hl 0 rfl) ?_
  refine lv_iconst (v := 2) X.1 X.2.1 dL_law_457 (by decide) ?_
  refine lv_iadd X.1 X.2.1 dL_law_458 ?_
  refine lv_topi (fun v_38 ev_38 => ?_)
  obtain rfl : v_38 = 2 := ev_38.trans (by decide +kernel)
  refine va_sld X.1 X.2.1 hX hbl hbA hwM.2.2 (vp_in_iff.mpr (by decide +kernel)) dL_law_459 ?_
  refine k_i (rm := { frames := 5, cells := 0, slots := 0, locals := 200 }) (av := [.ref mo, .int (xs (Int32.toNatClampNeg 1)), .int (xs (Int32.toNatClampNeg 2))]) X hwM (va_runV (As := [.int (xs (Int32.toNatClampNeg 1)), .int (xs (Int32.toNatClampNeg 2))]) (rest := [.int (rr_444)]) (cfix X) (c_X12_pot l G cy SM _ mo (xs (Int32.toNatClampNeg 1)) (xs (Int32.toNatClampNeg 2)) hFM) (cwV 2 X.2.2.2.1 gk_X12_pot rfl rfl rfl (by decide +kernel) ⟨Nat.le_of_ble_eq_true rfl, Nat.le_of_ble_eq_true rfl⟩) (pre_V X hwM _ hFM.1 (by decide) rfl) rfl rfl hl.1 rfl (lv_room (Nat.le_of_ble_eq_true rfl)) dL_law_460 ⟨Nat.le_of_ble_eq_true rfl, Nat.le_of_ble_eq_true rfl⟩) 233 199079 (Nat.le_of_ble_eq_true rfl) (Nat.le_of_ble_eq_true rfl) (fun rr_460 S2 H locs hp_460 hw2 hfr hnw => ?_)
  have hwM := hw2
  refine lv_icmp_eq (tgt := 1561) X.1 X.2.1 dL_law_463 (by decide) (fun c_463 => ?_) (fun c_463 => absurd (hp_444.trans hp_460.symm) c_463)
  refine lv_iinc (v := 6) (lv' := [(4, .int 6), (3, .ref outq), (2, .ref mo), (1, .ref x), (0, .ref b)]) X.1 X.2.1 dL_law_1561 hl (k := 0) rfl (by decide) (by decide) rfl (fun ls hl => ?_)
  refine lv_goto (tgt := 23) X.1 X.2.1 dL_law_1564 (by decide) ?_
  refine lv_iload X.1 X.2.1 dL_law_23 (lv_at hl 0 rfl) ?_
  refine lv_aload_n X.1 X.2.1 dL_law_25 rfl (lv_at hl 4 rfl) ?_
  refine va_slen X.1 X.2.1 hX hbl hbA hwM.2.2 dL_law_26 ?_
  refine lv_topi (fun lv_26 elv_26 => ?_)
  obtain rfl : lv_26 = 6 := elv_26.trans (by decide +kernel)
  refine lv_bipush (v := 6) X.1 X.2.1 dL_law_27 (by decide) ?_
  refine lv_isub X.1 X.2.1 dL_law_29 ?_
  refine lv_topi (fun v_39 ev_39 => ?_)
  obtain rfl : v_39 = 0 := ev_39.trans (by decide +kernel)
  refine lv_icmp_gt (tgt := 1567) X.1 X.2.1 dL_law_30 (by decide) (fun c_30 => ?_) (fun c_30 => absurd c_30 (by decide))
  refine lv_iconst (v := 1) X.1 X.2.1 dL_law_1567 (by decide) ?_
  refine va_forget (fun q hq => hwM.2.2.2.2 q hq) ?_
  refine W.widen (k := 600002) (n := 7302232) (Nat.le_of_ble_eq_true rfl) (Nat.le_of_ble_eq_true rfl) ?_
  exact lw_ret X.1 X.2.1 hr hlocks dL_law_1568
set_option maxHeartbeats 8000000 in
set_option maxRecDepth 100000 in
theorem lc_5 {p : Program} {l : Launch} {e : Env} {s : State} {m : MethodId} {below : List Frame} {meth : Method} {c : Code} (hst : l.stackTraces = false) {b x mo outq : Nat} {xs : Nat → Int32} {G : va_G} {cy : Nat → ClassId} (X : Cx p c cL_law 7 s #[Value.ref b] lw_tbl RL m G cy (fun q : Nat => s.heap.size ≤ q)) (hr : meth.sig.returnType = ret) (hlocks : meth.locks = false) (hX : va_X b 6 xs s s.heap) (hbl : b < s.heap.size) (hbA : ¬ (fun q : Nat => s.heap.size ≤ q) b) (hZ : Zs (fun q : Nat => s.heap.size ≤ q) s s.heap) (sa_L_fineness sa_L_in : Nat) (hStr_L_fineness : vk_R RX11 104 "there is no such place of a cocoon" sa_L_fineness s) (hStr_L_in : vk_R RX11 221 "there is no such cocoon in a pot" sa_L_in s) (hdc : ∀ Y ∈ DcL, va_Nw (.declares (Bundle.initS Y)) s) {SX SM : PS} {H : Heap} {locs : List Loc} {ls : Array Slot} (hwX : Wd G cy (fun q : Nat => s.heap.size ≤ q) s.heap SX H locs) (hwM : Wd G cy (fun q : Nat => s.heap.size ≤ q) s.heap SM H locs) (hdM : ∀ q ∈ pL SM, q ∉ pL SX) (hFX : FX SX x) (hFM : FM SM mo) (hl : lv_has ls 7 [(4, .int 0), (3, .ref outq), (2, .ref mo), (1, .ref x), (0, .ref b)]) : W p l e room_1 s m #[Value.ref b] below meth c H locs 173 193079 (lw_Z below #[Value.ref b] s) (F0 m 468 ls []) := by
  refine lv_aload_n X.1 X.2.1 dL_law_468 rfl (lv_at hl 3 rfl) ?_
  refine lv_aload_n X.1 X.2.1 dL_law_469 rfl (lv_at hl 4 rfl) ?_
  refine lv_iload X.1 X.2.1 dL_law_470 (lv_at hl 0 rfl) ?_
  refine lv_iconst (v := 1) X.1 X.2.1 dL_law_472 (by decide) ?_
  refine lv_iadd X.1 X.2.1 dL_law_473 ?_
  refine lv_topi (fun v_40 ev_40 => ?_)
  obtain rfl : v_40 = 1 := ev_40.trans (by decide +kernel)
  refine va_sld X.1 X.2.1 hX hbl hbA hwM.2.2 (vp_in_iff.mpr (by decide +kernel)) dL_law_474 ?_
  refine lv_aload_n X.1 X.2.1 dL_law_475 rfl (lv_at hl 4 rfl) ?_
  refine lv_iload X.1 X.2.1 dL_law_476 (lv_at hl 0 rfl) ?_
  refine lv_iconst (v := 2) X.1 X.2.1 dL_law_478 (by decide) ?_
  refine lv_iadd X.1 X.2.1 dL_law_479 ?_
  refine lv_topi (fun v_41 ev_41 => ?_)
  obtain rfl : v_41 = 2 := ev_41.trans (by decide +kernel)
  refine va_sld X.1 X.2.1 hX hbl hbA hwM.2.2 (vp_in_iff.mpr (by decide +kernel)) dL_law_480 ?_
  refine k_i (rm := { frames := 4, cells := 0, slots := 0, locals := 160 }) (av := [.ref x, .int (xs (Int32.toNatClampNeg 1)), .int (xs (Int32.toNatClampNeg 2))]) X hwX (va_runV (As := [.int (xs (Int32.toNatClampNeg 1)), .int (xs (Int32.toNatClampNeg 2))]) (rest := []) (cfix X) (c_X11_target l G cy SX _ x (xs (Int32.toNatClampNeg 1)) (xs (Int32.toNatClampNeg 2)) hFX) (cwV 2 X.2.2.2.1 gk_X11_target rfl rfl rfl (by decide +kernel) ⟨Nat.le_of_ble_eq_true rfl, Nat.le_of_ble_eq_true rfl⟩) (pre_V X hwX _ hFX.1 (by decide) rfl) rfl rfl hl.1 rfl (lv_room (Nat.le_of_ble_eq_true rfl)) dL_law_481 ⟨Nat.le_of_ble_eq_true rfl, Nat.le_of_ble_eq_true rfl⟩) 173 193079 (Nat.le_of_ble_eq_true rfl) (Nat.le_of_ble_eq_true rfl) (fun rr_481 S2 H locs hp_481 hw2 hfr hnw => ?_)
  have hwM := Wd_keep hwM hfr hdM hw2.2.2
  clear hwX
  refine lv_aload_n X.1 X.2.1 dL_law_484 rfl (lv_at hl 2 rfl) ?_
  refine lv_aload_n X.1 X.2.1 dL_law_485 rfl (lv_at hl 4 rfl) ?_
  refine lv_iload X.1 X.2.1 dL_law_486 (lv_at hl 0 rfl) ?_
  refine lv_iconst (v := 1) X.1 X.2.1 dL_law_488 (by decide) ?_
  refine lv_iadd X.1 X.2.1 dL_law_489 ?_
  refine lv_topi (fun v_42 ev_42 => ?_)
  obtain rfl : v_42 = 1 := ev_42.trans (by decide +kernel)
  refine va_sld X.1 X.2.1 hX hbl hbA hwM.2.2 (vp_in_iff.mpr (by decide +kernel)) dL_law_490 ?_
  refine lv_aload_n X.1 X.2.1 dL_law_491 rfl (lv_at hl 4 rfl) ?_
  refine lv_iload X.1 X.2.1 dL_law_492 (lv_at hl 0 rfl) ?_
  refine lv_iconst (v := 2) X.1 X.2.1 dL_law_494 (by decide) ?_
  refine lv_iadd X.1 X.2.1 dL_law_495 ?_
  refine lv_topi (fun v_43 ev_43 => ?_)
  obtain rfl : v_43 = 2 := ev_43.trans (by decide +kernel)
  refine va_sld X.1 X.2.1 hX hbl hbA hwM.2.2 (vp_in_iff.mpr (by decide +kernel)) dL_law_496 ?_
  refine k_i (rm := { frames := 5, cells := 0, slots := 0, locals := 200 }) (av := [.ref mo, .int (xs (Int32.toNatClampNeg 1)), .int (xs (Int32.toNatClampNeg 2))]) X hwM (va_runV (As := [.int (xs (Int32.toNatClampNeg 1)), .int (xs (Int32.toNatClampNeg 2))]) (rest := [.int (rr_481)]) (cfix X) (c_X12_target l G cy SM _ mo (xs (Int32.toNatClampNeg 1)) (xs (Int32.toNatClampNeg 2)) hFM) (cwV 2 X.2.2.2.1 gk_X12_target rfl rfl rfl (by decide +kernel) ⟨Nat.le_of_ble_eq_true rfl, Nat.le_of_ble_eq_true rfl⟩) (pre_V X hwM _ hFM.1 (by decide) rfl) rfl rfl hl.1 rfl (lv_room (Nat.le_of_ble_eq_true rfl)) dL_law_497 ⟨Nat.le_of_ble_eq_true rfl, Nat.le_of_ble_eq_true rfl⟩) 173 193079 (Nat.le_of_ble_eq_true rfl) (Nat.le_of_ble_eq_true rfl) (fun rr_497 S2 H locs hp_497 hw2 hfr hnw => ?_)
  have hwM := hw2
  refine lv_icmp_eq (tgt := 1561) X.1 X.2.1 dL_law_500 (by decide) (fun c_500 => ?_) (fun c_500 => absurd (hp_481.trans hp_497.symm) c_500)
  refine lv_iinc (v := 6) (lv' := [(4, .int 6), (3, .ref outq), (2, .ref mo), (1, .ref x), (0, .ref b)]) X.1 X.2.1 dL_law_1561 hl (k := 0) rfl (by decide) (by decide) rfl (fun ls hl => ?_)
  refine lv_goto (tgt := 23) X.1 X.2.1 dL_law_1564 (by decide) ?_
  refine lv_iload X.1 X.2.1 dL_law_23 (lv_at hl 0 rfl) ?_
  refine lv_aload_n X.1 X.2.1 dL_law_25 rfl (lv_at hl 4 rfl) ?_
  refine va_slen X.1 X.2.1 hX hbl hbA hwM.2.2 dL_law_26 ?_
  refine lv_topi (fun lv_26 elv_26 => ?_)
  obtain rfl : lv_26 = 6 := elv_26.trans (by decide +kernel)
  refine lv_bipush (v := 6) X.1 X.2.1 dL_law_27 (by decide) ?_
  refine lv_isub X.1 X.2.1 dL_law_29 ?_
  refine lv_topi (fun v_44 ev_44 => ?_)
  obtain rfl : v_44 = 0 := ev_44.trans (by decide +kernel)
  refine lv_icmp_gt (tgt := 1567) X.1 X.2.1 dL_law_30 (by decide) (fun c_30 => ?_) (fun c_30 => absurd c_30 (by decide))
  refine lv_iconst (v := 1) X.1 X.2.1 dL_law_1567 (by decide) ?_
  refine va_forget (fun q hq => hwM.2.2.2.2 q hq) ?_
  refine W.widen (k := 600002) (n := 7302232) (Nat.le_of_ble_eq_true rfl) (Nat.le_of_ble_eq_true rfl) ?_
  exact lw_ret X.1 X.2.1 hr hlocks dL_law_1568
set_option maxHeartbeats 8000000 in
set_option maxRecDepth 100000 in
theorem lc_6 {p : Program} {l : Launch} {e : Env} {s : State} {m : MethodId} {below : List Frame} {meth : Method} {c : Code} (hst : l.stackTraces = false) {b x mo outq : Nat} {xs : Nat → Int32} {G : va_G} {cy : Nat → ClassId} (X : Cx p c cL_law 7 s #[Value.ref b] lw_tbl RL m G cy (fun q : Nat => s.heap.size ≤ q)) (hr : meth.sig.returnType = ret) (hlocks : meth.locks = false) (hX : va_X b 6 xs s s.heap) (hbl : b < s.heap.size) (hbA : ¬ (fun q : Nat => s.heap.size ≤ q) b) (hZ : Zs (fun q : Nat => s.heap.size ≤ q) s s.heap) (sa_L_fineness sa_L_in : Nat) (hStr_L_fineness : vk_R RX11 104 "there is no such place of a cocoon" sa_L_fineness s) (hStr_L_in : vk_R RX11 221 "there is no such cocoon in a pot" sa_L_in s) (hdc : ∀ Y ∈ DcL, va_Nw (.declares (Bundle.initS Y)) s) {SX SM : PS} {H : Heap} {locs : List Loc} {ls : Array Slot} (hwX : Wd G cy (fun q : Nat => s.heap.size ≤ q) s.heap SX H locs) (hwM : Wd G cy (fun q : Nat => s.heap.size ≤ q) s.heap SM H locs) (hdM : ∀ q ∈ pL SM, q ∉ pL SX) (hFX : FX SX x) (hFM : FM SM mo) (hl : lv_has ls 7 [(4, .int 0), (3, .ref outq), (2, .ref mo), (1, .ref x), (0, .ref b)]) : W p l e room_1 s m #[Value.ref b] below meth c H locs 173 193079 (lw_Z below #[Value.ref b] s) (F0 m 505 ls []) := by
  refine lv_aload_n X.1 X.2.1 dL_law_505 rfl (lv_at hl 3 rfl) ?_
  refine lv_aload_n X.1 X.2.1 dL_law_506 rfl (lv_at hl 4 rfl) ?_
  refine lv_iload X.1 X.2.1 dL_law_507 (lv_at hl 0 rfl) ?_
  refine lv_iconst (v := 1) X.1 X.2.1 dL_law_509 (by decide) ?_
  refine lv_iadd X.1 X.2.1 dL_law_510 ?_
  refine lv_topi (fun v_45 ev_45 => ?_)
  obtain rfl : v_45 = 1 := ev_45.trans (by decide +kernel)
  refine va_sld X.1 X.2.1 hX hbl hbA hwM.2.2 (vp_in_iff.mpr (by decide +kernel)) dL_law_511 ?_
  refine lv_aload_n X.1 X.2.1 dL_law_512 rfl (lv_at hl 4 rfl) ?_
  refine lv_iload X.1 X.2.1 dL_law_513 (lv_at hl 0 rfl) ?_
  refine lv_iconst (v := 2) X.1 X.2.1 dL_law_515 (by decide) ?_
  refine lv_iadd X.1 X.2.1 dL_law_516 ?_
  refine lv_topi (fun v_46 ev_46 => ?_)
  obtain rfl : v_46 = 2 := ev_46.trans (by decide +kernel)
  refine va_sld X.1 X.2.1 hX hbl hbA hwM.2.2 (vp_in_iff.mpr (by decide +kernel)) dL_law_517 ?_
  refine lv_aload_n X.1 X.2.1 dL_law_518 rfl (lv_at hl 4 rfl) ?_
  refine lv_iload X.1 X.2.1 dL_law_519 (lv_at hl 0 rfl) ?_
  refine lv_iconst (v := 3) X.1 X.2.1 dL_law_521 (by decide) ?_
  refine lv_iadd X.1 X.2.1 dL_law_522 ?_
  refine lv_topi (fun v_47 ev_47 => ?_)
  obtain rfl : v_47 = 3 := ev_47.trans (by decide +kernel)
  refine va_sld X.1 X.2.1 hX hbl hbA hwM.2.2 (vp_in_iff.mpr (by decide +kernel)) dL_law_523 ?_
  refine lv_aload_n X.1 X.2.1 dL_law_524 rfl (lv_at hl 4 rfl) ?_
  refine lv_iload X.1 X.2.1 dL_law_525 (lv_at hl 0 rfl) ?_
  refine lv_iconst (v := 4) X.1 X.2.1 dL_law_527 (by decide) ?_
  refine lv_iadd X.1 X.2.1 dL_law_528 ?_
  refine lv_topi (fun v_48 ev_48 => ?_)
  obtain rfl : v_48 = 4 := ev_48.trans (by decide +kernel)
  refine va_sld X.1 X.2.1 hX hbl hbA hwM.2.2 (vp_in_iff.mpr (by decide +kernel)) dL_law_529 ?_
  refine k_i (rm := { frames := 4, cells := 0, slots := 0, locals := 160 }) (av := [.ref x, .int (xs (Int32.toNatClampNeg 1)), .int (xs (Int32.toNatClampNeg 2)), .int (xs (Int32.toNatClampNeg 3)), .int (xs (Int32.toNatClampNeg 4))]) X hwX (va_runV (As := [.int (xs (Int32.toNatClampNeg 1)), .int (xs (Int32.toNatClampNeg 2)), .int (xs (Int32.toNatClampNeg 3)), .int (xs (Int32.toNatClampNeg 4))]) (rest := []) (cfix X) (c_X11_fill l G cy SX _ x (xs (Int32.toNatClampNeg 1)) (xs (Int32.toNatClampNeg 2)) (xs (Int32.toNatClampNeg 3)) (xs (Int32.toNatClampNeg 4)) hFX) (cwV 4 X.2.2.2.1 gk_X11_fill rfl rfl rfl (by decide +kernel) ⟨Nat.le_of_ble_eq_true rfl, Nat.le_of_ble_eq_true rfl⟩) (pre_V X hwX _ hFX.1 (by decide) rfl) rfl rfl hl.1 rfl (lv_room (Nat.le_of_ble_eq_true rfl)) dL_law_530 ⟨Nat.le_of_ble_eq_true rfl, Nat.le_of_ble_eq_true rfl⟩) 173 193079 (Nat.le_of_ble_eq_true rfl) (Nat.le_of_ble_eq_true rfl) (fun rr_530 S2 H locs hp_530 hw2 hfr hnw => ?_)
  have hwM := Wd_keep hwM hfr hdM hw2.2.2
  clear hwX
  refine lv_aload_n X.1 X.2.1 dL_law_533 rfl (lv_at hl 2 rfl) ?_
  refine lv_aload_n X.1 X.2.1 dL_law_534 rfl (lv_at hl 4 rfl) ?_
  refine lv_iload X.1 X.2.1 dL_law_535 (lv_at hl 0 rfl) ?_
  refine lv_iconst (v := 1) X.1 X.2.1 dL_law_537 (by decide) ?_
  refine lv_iadd X.1 X.2.1 dL_law_538 ?_
  refine lv_topi (fun v_49 ev_49 => ?_)
  obtain rfl : v_49 = 1 := ev_49.trans (by decide +kernel)
  refine va_sld X.1 X.2.1 hX hbl hbA hwM.2.2 (vp_in_iff.mpr (by decide +kernel)) dL_law_539 ?_
  refine lv_aload_n X.1 X.2.1 dL_law_540 rfl (lv_at hl 4 rfl) ?_
  refine lv_iload X.1 X.2.1 dL_law_541 (lv_at hl 0 rfl) ?_
  refine lv_iconst (v := 2) X.1 X.2.1 dL_law_543 (by decide) ?_
  refine lv_iadd X.1 X.2.1 dL_law_544 ?_
  refine lv_topi (fun v_50 ev_50 => ?_)
  obtain rfl : v_50 = 2 := ev_50.trans (by decide +kernel)
  refine va_sld X.1 X.2.1 hX hbl hbA hwM.2.2 (vp_in_iff.mpr (by decide +kernel)) dL_law_545 ?_
  refine lv_aload_n X.1 X.2.1 dL_law_546 rfl (lv_at hl 4 rfl) ?_
  refine lv_iload X.1 X.2.1 dL_law_547 (lv_at hl 0 rfl) ?_
  refine lv_iconst (v := 3) X.1 X.2.1 dL_law_549 (by decide) ?_
  refine lv_iadd X.1 X.2.1 dL_law_550 ?_
  refine lv_topi (fun v_51 ev_51 => ?_)
  obtain rfl : v_51 = 3 := ev_51.trans (by decide +kernel)
  refine va_sld X.1 X.2.1 hX hbl hbA hwM.2.2 (vp_in_iff.mpr (by decide +kernel)) dL_law_551 ?_
  refine lv_aload_n X.1 X.2.1 dL_law_552 rfl (lv_at hl 4 rfl) ?_
  refine lv_iload X.1 X.2.1 dL_law_553 (lv_at hl 0 rfl) ?_
  refine lv_iconst (v := 4) X.1 X.2.1 dL_law_555 (by decide) ?_
  refine lv_iadd X.1 X.2.1 dL_law_556 ?_
  refine lv_topi (fun v_52 ev_52 => ?_)
  obtain rfl : v_52 = 4 := ev_52.trans (by decide +kernel)
  refine va_sld X.1 X.2.1 hX hbl hbA hwM.2.2 (vp_in_iff.mpr (by decide +kernel)) dL_law_557 ?_
  refine k_i (rm := { frames := 5, cells := 0, slots := 0, locals := 200 }) (av := [.ref mo, .int (xs (Int32.toNatClampNeg 1)), .int (xs (Int32.toNatClampNeg 2)), .int (xs (Int32.toNatClampNeg 3)), .int (xs (Int32.toNatClampNeg 4))]) X hwM (va_runV (As := [.int (xs (Int32.toNatClampNeg 1)), .int (xs (Int32.toNatClampNeg 2)), .int (xs (Int32.toNatClampNeg 3)), .int (xs (Int32.toNatClampNeg 4))]) (rest := [.int (rr_530)]) (cfix X) (c_X12_fill l G cy SM _ mo (xs (Int32.toNatClampNeg 1)) (xs (Int32.toNatClampNeg 2)) (xs (Int32.toNatClampNeg 3)) (xs (Int32.toNatClampNeg 4)) hFM) (cwV 4 X.2.2.2.1 gk_X12_fill rfl rfl rfl (by decide +kernel) ⟨Nat.le_of_ble_eq_true rfl, Nat.le_of_ble_eq_true rfl⟩) (pre_V X hwM _ hFM.1 (by decide) rfl) rfl rfl hl.1 rfl (lv_room (Nat.le_of_ble_eq_true rfl)) dL_law_558 ⟨Nat.le_of_ble_eq_true rfl, Nat.le_of_ble_eq_true rfl⟩) 173 193079 (Nat.le_of_ble_eq_true rfl) (Nat.le_of_ble_eq_true rfl) (fun rr_558 S2 H locs hp_558 hw2 hfr hnw => ?_)
  have hwM := hw2
  refine lv_icmp_eq (tgt := 1561) X.1 X.2.1 dL_law_561 (by decide) (fun c_561 => ?_) (fun c_561 => absurd (hp_530.trans hp_558.symm) c_561)
  refine lv_iinc (v := 6) (lv' := [(4, .int 6), (3, .ref outq), (2, .ref mo), (1, .ref x), (0, .ref b)]) X.1 X.2.1 dL_law_1561 hl (k := 0) rfl (by decide) (by decide) rfl (fun ls hl => ?_)
  refine lv_goto (tgt := 23) X.1 X.2.1 dL_law_1564 (by decide) ?_
  refine lv_iload X.1 X.2.1 dL_law_23 (lv_at hl 0 rfl) ?_
  refine lv_aload_n X.1 X.2.1 dL_law_25 rfl (lv_at hl 4 rfl) ?_
  refine va_slen X.1 X.2.1 hX hbl hbA hwM.2.2 dL_law_26 ?_
  refine lv_topi (fun lv_26 elv_26 => ?_)
  obtain rfl : lv_26 = 6 := elv_26.trans (by decide +kernel)
  refine lv_bipush (v := 6) X.1 X.2.1 dL_law_27 (by decide) ?_
  refine lv_isub X.1 X.2.1 dL_law_29 ?_
  refine lv_topi (fun v_53 ev_53 => ?_)
  obtain rfl : v_53 = 0 := ev_53.trans (by decide +kernel)
  refine lv_icmp_gt (tgt := 1567) X.1 X.2.1 dL_law_30 (by decide) (fun c_30 => ?_) (fun c_30 => absurd c_30 (by decide))
  refine lv_iconst (v := 1) X.1 X.2.1 dL_law_1567 (by decide) ?_
  refine va_forget (fun q hq => hwM.2.2.2.2 q hq) ?_
  refine W.widen (k := 600002) (n := 7302232) (Nat.le_of_ble_eq_true rfl) (Nat.le_of_ble_eq_true rfl) ?_
  exact lw_ret X.1 X.2.1 hr hlocks dL_law_1568
