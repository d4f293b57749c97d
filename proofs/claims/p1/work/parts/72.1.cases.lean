set_option maxHeartbeats 8000000 in
set_option maxRecDepth 100000 in
theorem lc_7 {p : Program} {l : Launch} {e : Env} {s : State} {m : MethodId} {below : List Frame} {meth : Method} {c : Code} (hst : l.stackTraces = false) {b x mo outq : Nat} {xs : Nat → Int32} {G : va_G} {cy : Nat → ClassId} (X : Cx p c cL_law 7 s #[Value.ref b] lw_tbl RL m G cy (fun q : Nat => s.heap.size ≤ q)) (hr : meth.sig.returnType = ret) (hlocks : meth.locks = false) (hX : va_X b 6 xs s s.heap) (hbl : b < s.heap.size) (hbA : ¬ (fun q : Nat => s.heap.size ≤ q) b) (hZ : Zs (fun q : Nat => s.heap.size ≤ q) s s.heap) (sa_L_fineness sa_L_in : Nat) (hStr_L_fineness : vk_R RX11 104 "there is no such place of a cocoon" sa_L_fineness s) (hStr_L_in : vk_R RX11 221 "there is no such cocoon in a pot" sa_L_in s) (hdc : ∀ Y ∈ DcL, va_Nw (.declares (Bundle.initS Y)) s) {SX SM : PS} {H : Heap} {locs : List Loc} {ls : Array Slot} (hwX : Wd G cy (fun q : Nat => s.heap.size ≤ q) s.heap SX H locs) (hwM : Wd G cy (fun q : Nat => s.heap.size ≤ q) s.heap SM H locs) (hdM : ∀ q ∈ pL SM, q ∉ pL SX) (hFX : FX SX x) (hFM : FM SM mo) (hl : lv_has ls 7 [(4, .int 0), (3, .ref outq), (2, .ref mo), (1, .ref x), (0, .ref b)]) : W p l e room_1 s m #[Value.ref b] below meth c H locs 173 193079 (lw_Z below #[Value.ref b] s) (F0 m 566 ls []) := by
  refine lv_aload_n X.1 X.2.1 dL_law_566 rfl (lv_at hl 3 rfl) ?_
  refine lv_aload_n X.1 X.2.1 dL_law_567 rfl (lv_at hl 4 rfl) ?_
  refine lv_iload X.1 X.2.1 dL_law_568 (lv_at hl 0 rfl) ?_
  refine lv_iconst (v := 1) X.1 X.2.1 dL_law_570 (by decide) ?_
  refine lv_iadd X.1 X.2.1 dL_law_571 ?_
  refine lv_topi (fun v_54 ev_54 => ?_)
  obtain rfl : v_54 = 1 := ev_54.trans (by decide +kernel)
  refine va_sld X.1 X.2.1 hX hbl hbA hwM.2.2 (vp_in_iff.mpr (by decide +kernel)) dL_law_572 ?_
  refine lv_aload_n X.1 X.2.1 dL_law_573 rfl (lv_at hl 4 rfl) ?_
  refine lv_iload X.1 X.2.1 dL_law_574 (lv_at hl 0 rfl) ?_
  refine lv_iconst (v := 2) X.1 X.2.1 dL_law_576 (by decide) ?_
  refine lv_iadd X.1 X.2.1 dL_law_577 ?_
  refine lv_topi (fun v_55 ev_55 => ?_)
  obtain rfl : v_55 = 2 := ev_55.trans (by decide +kernel)
  refine va_sld X.1 X.2.1 hX hbl hbA hwM.2.2 (vp_in_iff.mpr (by decide +kernel)) dL_law_578 ?_
  refine lv_aload_n X.1 X.2.1 dL_law_579 rfl (lv_at hl 4 rfl) ?_
  refine lv_iload X.1 X.2.1 dL_law_580 (lv_at hl 0 rfl) ?_
  refine lv_iconst (v := 3) X.1 X.2.1 dL_law_582 (by decide) ?_
  refine lv_iadd X.1 X.2.1 dL_law_583 ?_
  refine lv_topi (fun v_56 ev_56 => ?_)
  obtain rfl : v_56 = 3 := ev_56.trans (by decide +kernel)
  refine va_sld X.1 X.2.1 hX hbl hbA hwM.2.2 (vp_in_iff.mpr (by decide +kernel)) dL_law_584 ?_
  refine lv_aload_n X.1 X.2.1 dL_law_585 rfl (lv_at hl 4 rfl) ?_
  refine lv_iload X.1 X.2.1 dL_law_586 (lv_at hl 0 rfl) ?_
  refine lv_iconst (v := 4) X.1 X.2.1 dL_law_588 (by decide) ?_
  refine lv_iadd X.1 X.2.1 dL_law_589 ?_
  refine lv_topi (fun v_57 ev_57 => ?_)
  obtain rfl : v_57 = 4 := ev_57.trans (by decide +kernel)
  refine va_sld X.1 X.2.1 hX hbl hbA hwM.2.2 (vp_in_iff.mpr (by decide +kernel)) dL_law_590 ?_
  refine lv_aload_n X.1 X.2.1 dL_law_591 rfl (lv_at hl 4 rfl) ?_
  refine lv_iload X.1 X.2.1 dL_law_592 (lv_at hl 0 rfl) ?_
  refine lv_iconst (v := 5) X.1 X.2.1 dL_law_594 (by decide) ?_
  refine lv_iadd X.1 X.2.1 dL_law_595 ?_
  refine lv_topi (fun v_58 ev_58 => ?_)
  obtain rfl : v_58 = 5 := ev_58.trans (by decide +kernel)
  refine va_sld X.1 X.2.1 hX hbl hbA hwM.2.2 (vp_in_iff.mpr (by decide +kernel)) dL_law_596 ?_
  refine k_i (rm := { frames := 4, cells := 0, slots := 0, locals := 160 }) (av := [.ref x, .int (xs (Int32.toNatClampNeg 1)), .int (xs (Int32.toNatClampNeg 2)), .int (xs (Int32.toNatClampNeg 3)), .int (xs (Int32.toNatClampNeg 4)), .int (xs (Int32.toNatClampNeg 5))]) X hwX (va_runV (As := [.int (xs (Int32.toNatClampNeg 1)), .int (xs (Int32.toNatClampNeg 2)), .int (xs (Int32.toNatClampNeg 3)), .int (xs (Int32.toNatClampNeg 4)), .int (xs (Int32.toNatClampNeg 5))]) (rest := []) (cfix X) (c_X11_feed l G cy SX _ x (xs (Int32.toNatClampNeg 1)) (xs (Int32.toNatClampNeg 2)) (xs (Int32.toNatClampNeg 3)) (xs (Int32.toNatClampNeg 4)) (xs (Int32.toNatClampNeg 5)) hFX) (cwV 5 X.2.2.2.1 gk_X11_feed rfl rfl rfl (by decide +kernel) ⟨Nat.le_of_ble_eq_true rfl, Nat.le_of_ble_eq_true rfl⟩) (pre_V X hwX _ hFX.1 (by decide) rfl) rfl rfl hl.1 rfl (lv_room (Nat.le_of_ble_eq_true rfl)) dL_law_597 ⟨Nat.le_of_ble_eq_true rfl, Nat.le_of_ble_eq_true rfl⟩) 173 193079 (Nat.le_of_ble_eq_true rfl) (Nat.le_of_ble_eq_true rfl) (fun rr_597 S2 H locs hp_597 hw2 hfr hnw => ?_)
  have hwM := Wd_keep hwM hfr hdM hw2.2.2
  clear hwX
  refine lv_aload_n X.1 X.2.1 dL_law_600 rfl (lv_at hl 2 rfl) ?_
  refine lv_aload_n X.1 X.2.1 dL_law_601 rfl (lv_at hl 4 rfl) ?_
  refine lv_iload X.1 X.2.1 dL_law_602 (lv_at hl 0 rfl) ?_
  refine lv_iconst (v := 1) X.1 X.2.1 dL_law_604 (by decide) ?_
  refine lv_iadd X.1 X.2.1 dL_law_605 ?_
  refine lv_topi (fun v_59 ev_59 => ?_)
  obtain rfl : v_59 = 1 := ev_59.trans (by decide +kernel)
  refine va_sld X.1 X.2.1 hX hbl hbA hwM.2.2 (vp_in_iff.mpr (by decide +kernel)) dL_law_606 ?_
  refine lv_aload_n X.1 X.2.1 dL_law_607 rfl (lv_at hl 4 rfl) ?_
  refine lv_iload X.1 X.2.1 dL_law_608 (lv_at hl 0 rfl) ?_
  refine lv_iconst (v := 2) X.1 X.2.1 dL_law_610 (by decide) ?_
  refine lv_iadd X.1 X.2.1 dL_law_611 ?_
  refine lv_topi (fun v_60 ev_60 => ?_)
  obtain rfl : v_60 = 2 := ev_60.trans (by decide +kernel)
  refine va_sld X.1 X.2.1 hX hbl hbA hwM.2.2 (vp_in_iff.mpr (by decide +kernel)) dL_law_612 ?_
  refine lv_aload_n X.1 X.2.1 dL_law_613 rfl (lv_at hl 4 rfl) ?_
  refine lv_iload X.1 X.2.1 dL_law_614 (lv_at hl 0 rfl) ?_
  refine lv_iconst (v := 3) X.1 X.2.1 dL_law_616 (by decide) ?_
  refine lv_iadd X.1 X.2.1 dL_law_617 ?_
  refine lv_topi (fun v_61 ev_61 => ?_)
  obtain rfl : v_61 = 3 := ev_61.trans (by decide +kernel)
  refine va_sld X.1 X.2.1 hX hbl hbA hwM.2.2 (vp_in_iff.mpr (by decide +kernel)) dL_law_618 ?_
  refine lv_aload_n X.1 X.2.1 dL_law_619 rfl (lv_at hl 4 rfl) ?_
  refine lv_iload X.1 X.2.1 dL_law_620 (lv_at hl 0 rfl) ?_
  refine lv_iconst (v := 4) X.1 X.2.1 dL_law_622 (by decide) ?_
  refine lv_iadd X.1 X.2.1 dL_law_623 ?_
  refine lv_topi (fun v_62 ev_62 => ?_)
  obtain rfl : v_62 = 4 := ev_62.trans (by decide +kernel)
  refine va_sld X.1 X.2.1 hX hbl hbA hwM.2.2 (vp_in_iff.mpr (by decide +kernel)) dL_law_624 ?_
  refine lv_aload_n X.1 X.2.1 dL_law_625 rfl (lv_at hl 4 rfl) ?_
  refine lv_iload X.1 X.2.1 dL_law_626 (lv_at hl 0 rfl) ?_
  refine lv_iconst (v := 5) X.1 X.2.1 dL_law_628 (by decide) ?_
  refine lv_iadd X.1 X.2.1 dL_law_629 ?_
  refine lv_topi (fun v_63 ev_63 => ?_)
  obtain rfl : v_63 = 5 := ev_63.trans (by decide +kernel)
  refine va_sld X.1 X.2.1 hX hbl hbA hwM.2.2 (vp_in_iff.mpr (by decide +kernel)) dL_law_630 ?_
  refine k_i (rm := { frames := 5, cells := 0, slots := 0, locals := 200 }) (av := [.ref mo, .int (xs (Int32.toNatClampNeg 1)), .int (xs (Int32.toNatClampNeg 2)), .int (xs (Int32.toNatClampNeg 3)), .int (xs (Int32.toNatClampNeg 4)), .int (xs (Int32.toNatClampNeg 5))]) X hwM (va_runV (As := [.int (xs (Int32.toNatClampNeg 1)), .int (xs (Int32.toNatClampNeg 2)), .int (xs (Int32.toNatClampNeg 3)), .int (xs (Int32.toNatClampNeg 4)), .int (xs (Int32.toNatClampNeg 5))]) (rest := [.int (rr_597)]) (cfix X) (c_X12_feed l G cy SM _ mo (xs (Int32.toNatClampNeg 1)) (xs (Int32.toNatClampNeg 2)) (xs (Int32.toNatClampNeg 3)) (xs (Int32.toNatClampNeg 4)) (xs (Int32.toNatClampNeg 5)) hFM) (cwV 5 X.2.2.2.1 gk_X12_feed rfl rfl rfl (by decide +kernel) ⟨Nat.le_of_ble_eq_true rfl, Nat.le_of_ble_eq_true rfl⟩) (pre_V X hwM _ hFM.1 (by decide) rfl) rfl rfl hl.1 rfl (lv_room (Nat.le_of_ble_eq_true rfl)) dL_law_631 ⟨Nat.le_of_ble_eq_true rfl, Nat.le_of_ble_eq_true rfl⟩) 173 193079 (Nat.le_of_ble_eq_true rfl) (Nat.le_of_ble_eq_true rfl) (fun rr_631 S2 H locs hp_631 hw2 hfr hnw => ?_)
  have hwM := hw2
  refine lv_icmp_eq (tgt := 1561) X.1 X.2.1 dL_law_634 (by decide) (fun c_634 => ?_) (fun c_634 => absurd (hp_597.trans hp_631.symm) c_634)
  refine lv_iinc (v := 6) (lv' := [(4, .int 6), (3, .ref outq), (2, .ref mo), (1, .ref x), (0, .ref b)]) X.1 X.2.1 dL_law_1561 hl (k := 0) rfl (by decide) (by decide) rfl (fun ls hl => ?_)
  refine lv_goto (tgt := 23) X.1 X.2.1 dL_law_1564 (by decide) ?_
  refine lv_iload X.1 X.2.1 dL_law_23 (lv_at hl 0 rfl) ?_
  refine lv_aload_n X.1 X.2.1 dL_law_25 rfl (lv_at hl 4 rfl) ?_
  refine va_slen X.1 X.2.1 hX hbl hbA hwM.2.2 dL_law_26 ?_
  refine lv_topi (fun lv_26 elv_26 => ?_)
  obtain rfl : lv_26 = 6 := elv_26.trans (by decide +kernel)
  refine lv_bipush (v := 6) X.1 X.2.1 dL_law_27 (by decide) ?_
  refine lv_isub X.1 X.2.1 dL_law_29 ?_
  refine lv_topi (fun v_64 ev_64 => ?_)
  obtain rfl : v_64 = 0 := ev_64.trans (by decide +kernel)
  refine lv_icmp_gt (tgt := 1567) X.1 X.2.1 dL_law_30 (by decide) (fun c_30 => ?_) (fun c_30 => absurd c_30 (by decide))
  refine lv_iconst (v := 1) X.1 X.2.1 dL_law_1567 (by decide) ?_
  refine va_forget (fun q hq => hwM.2.2.2.2 q hq) ?_
  refine W.widen (k := 600002) (n := 7302232) (Nat.le_of_ble_eq_true rfl) (Nat.le_of_ble_eq_true rfl) ?_
  exact lw_ret X.1 X.2.1 hr hlocks dL_law_1568
set_option maxHeartbeats 8000000 in
set_option maxRecDepth 100000 in
theorem lc_8 {p : Program} {l : Launch} {e : Env} {s : State} {m : MethodId} {below : List Frame} {meth : Method} {c : Code} (hst : l.stackTraces = false) {b x mo outq : Nat} {xs : Nat → Int32} {G : va_G} {cy : Nat → ClassId} (X : Cx p c cL_law 7 s #[Value.ref b] lw_tbl RL m G cy (fun q : Nat => s.heap.size ≤ q)) (hr : meth.sig.returnType = ret) (hlocks : meth.locks = false) (hX : va_X b 6 xs s s.heap) (hbl : b < s.heap.size) (hbA : ¬ (fun q : Nat => s.heap.size ≤ q) b) (hZ : Zs (fun q : Nat => s.heap.size ≤ q) s s.heap) (sa_L_fineness sa_L_in : Nat) (hStr_L_fineness : vk_R RX11 104 "there is no such place of a cocoon" sa_L_fineness s) (hStr_L_in : vk_R RX11 221 "there is no such cocoon in a pot" sa_L_in s) (hdc : ∀ Y ∈ DcL, va_Nw (.declares (Bundle.initS Y)) s) {SX SM : PS} {H : Heap} {locs : List Loc} {ls : Array Slot} (hwX : Wd G cy (fun q : Nat => s.heap.size ≤ q) s.heap SX H locs) (hwM : Wd G cy (fun q : Nat => s.heap.size ≤ q) s.heap SM H locs) (hdM : ∀ q ∈ pL SM, q ∉ pL SX) (hFX : FX SX x) (hFM : FM SM mo) (hl : lv_has ls 7 [(4, .int 0), (3, .ref outq), (2, .ref mo), (1, .ref x), (0, .ref b)]) : W p l e room_1 s m #[Value.ref b] below meth c H locs 173 193079 (lw_Z below #[Value.ref b] s) (F0 m 639 ls []) := by
  refine lv_aload_n X.1 X.2.1 dL_law_639 rfl (lv_at hl 3 rfl) ?_
  refine lv_aload_n X.1 X.2.1 dL_law_640 rfl (lv_at hl 4 rfl) ?_
  refine lv_iload X.1 X.2.1 dL_law_641 (lv_at hl 0 rfl) ?_
  refine lv_iconst (v := 1) X.1 X.2.1 dL_law_643 (by decide) ?_
  refine lv_iadd X.1 X.2.1 dL_law_644 ?_
  refine lv_topi (fun v_65 ev_65 => ?_)
  obtain rfl : v_65 = 1 := ev_65.trans (by decide +kernel)
  refine va_sld X.1 X.2.1 hX hbl hbA hwM.2.2 (vp_in_iff.mpr (by decide +kernel)) dL_law_645 ?_
  refine k_i (rm := { frames := 4, cells := 0, slots := 0, locals := 160 }) (av := [.ref x, .int (xs (Int32.toNatClampNeg 1))]) X hwX (va_runV (As := [.int (xs (Int32.toNatClampNeg 1))]) (rest := []) (cfix X) (c_X11_end l G cy SX _ x (xs (Int32.toNatClampNeg 1)) hFX) (cwV 1 X.2.2.2.1 gk_X11_end rfl rfl rfl (by decide +kernel) ⟨Nat.le_of_ble_eq_true rfl, Nat.le_of_ble_eq_true rfl⟩) (pre_V X hwX _ hFX.1 (by decide) rfl) rfl rfl hl.1 rfl (lv_room (Nat.le_of_ble_eq_true rfl)) dL_law_646 ⟨Nat.le_of_ble_eq_true rfl, Nat.le_of_ble_eq_true rfl⟩) 173 193079 (Nat.le_of_ble_eq_true rfl) (Nat.le_of_ble_eq_true rfl) (fun rr_646 S2 H locs hp_646 hw2 hfr hnw => ?_)
  have hwM := Wd_keep hwM hfr hdM hw2.2.2
  clear hwX
  refine lv_aload_n X.1 X.2.1 dL_law_649 rfl (lv_at hl 2 rfl) ?_
  refine lv_aload_n X.1 X.2.1 dL_law_650 rfl (lv_at hl 4 rfl) ?_
  refine lv_iload X.1 X.2.1 dL_law_651 (lv_at hl 0 rfl) ?_
  refine lv_iconst (v := 1) X.1 X.2.1 dL_law_653 (by decide) ?_
  refine lv_iadd X.1 X.2.1 dL_law_654 ?_
  refine lv_topi (fun v_66 ev_66 => ?_)
  obtain rfl : v_66 = 1 := ev_66.trans (by decide +kernel)
  refine va_sld X.1 X.2.1 hX hbl hbA hwM.2.2 (vp_in_iff.mpr (by decide +kernel)) dL_law_655 ?_
  refine k_i (rm := { frames := 5, cells := 0, slots := 0, locals := 200 }) (av := [.ref mo, .int (xs (Int32.toNatClampNeg 1))]) X hwM (va_runV (As := [.int (xs (Int32.toNatClampNeg 1))]) (rest := [.int (rr_646)]) (cfix X) (c_X12_end l G cy SM _ mo (xs (Int32.toNatClampNeg 1)) hFM) (cwV 1 X.2.2.2.1 gk_X12_end rfl rfl rfl (by decide +kernel) ⟨Nat.le_of_ble_eq_true rfl, Nat.le_of_ble_eq_true rfl⟩) (pre_V X hwM _ hFM.1 (by decide) rfl) rfl rfl hl.1 rfl (lv_room (Nat.le_of_ble_eq_true rfl)) dL_law_656 ⟨Nat.le_of_ble_eq_true rfl, Nat.le_of_ble_eq_true rfl⟩) 173 193079 (Nat.le_of_ble_eq_true rfl) (Nat.le_of_ble_eq_true rfl) (fun rr_656 S2 H locs hp_656 hw2 hfr hnw => ?_)
  have hwM := hw2
  refine lv_icmp_eq (tgt := 1561) X.1 X.2.1 dL_law_659 (by decide) (fun c_659 => ?_) (fun c_659 => absurd (hp_646.trans hp_656.symm) c_659)
  refine lv_iinc (v := 6) (lv' := [(4, .int 6), (3, .ref outq), (2, .ref mo), (1, .ref x), (0, .ref b)]) X.1 X.2.1 dL_law_1561 hl (k := 0) rfl (by decide) (by decide) rfl (fun ls hl => ?_)
  refine lv_goto (tgt := 23) X.1 X.2.1 dL_law_1564 (by decide) ?_
  refine lv_iload X.1 X.2.1 dL_law_23 (lv_at hl 0 rfl) ?_
  refine lv_aload_n X.1 X.2.1 dL_law_25 rfl (lv_at hl 4 rfl) ?_
  refine va_slen X.1 X.2.1 hX hbl hbA hwM.2.2 dL_law_26 ?_
  refine lv_topi (fun lv_26 elv_26 => ?_)
  obtain rfl : lv_26 = 6 := elv_26.trans (by decide +kernel)
  refine lv_bipush (v := 6) X.1 X.2.1 dL_law_27 (by decide) ?_
  refine lv_isub X.1 X.2.1 dL_law_29 ?_
  refine lv_topi (fun v_67 ev_67 => ?_)
  obtain rfl : v_67 = 0 := ev_67.trans (by decide +kernel)
  refine lv_icmp_gt (tgt := 1567) X.1 X.2.1 dL_law_30 (by decide) (fun c_30 => ?_) (fun c_30 => absurd c_30 (by decide))
  refine lv_iconst (v := 1) X.1 X.2.1 dL_law_1567 (by decide) ?_
  refine va_forget (fun q hq => hwM.2.2.2.2 q hq) ?_
  refine W.widen (k := 600002) (n := 7302232) (Nat.le_of_ble_eq_true rfl) (Nat.le_of_ble_eq_true rfl) ?_
  exact lw_ret X.1 X.2.1 hr hlocks dL_law_1568
set_option maxHeartbeats 8000000 in
set_option maxRecDepth 100000 in
theorem lc_9 {p : Program} {l : Launch} {e : Env} {s : State} {m : MethodId} {below : List Frame} {meth : Method} {c : Code} (hst : l.stackTraces = false) {b x mo outq : Nat} {xs : Nat → Int32} {G : va_G} {cy : Nat → ClassId} (X : Cx p c cL_law 7 s #[Value.ref b] lw_tbl RL m G cy (fun q : Nat => s.heap.size ≤ q)) (hr : meth.sig.returnType = ret) (hlocks : meth.locks = false) (hX : va_X b 6 xs s s.heap) (hbl : b < s.heap.size) (hbA : ¬ (fun q : Nat => s.heap.size ≤ q) b) (hZ : Zs (fun q : Nat => s.heap.size ≤ q) s s.heap) (sa_L_fineness sa_L_in : Nat) (hStr_L_fineness : vk_R RX11 104 "there is no such place of a cocoon" sa_L_fineness s) (hStr_L_in : vk_R RX11 221 "there is no such cocoon in a pot" sa_L_in s) (hdc : ∀ Y ∈ DcL, va_Nw (.declares (Bundle.initS Y)) s) {SX SM : PS} {H : Heap} {locs : List Loc} {ls : Array Slot} (hwX : Wd G cy (fun q : Nat => s.heap.size ≤ q) s.heap SX H locs) (hwM : Wd G cy (fun q : Nat => s.heap.size ≤ q) s.heap SM H locs) (hdM : ∀ q ∈ pL SM, q ∉ pL SX) (hFX : FX SX x) (hFM : FM SM mo) (hl : lv_has ls 7 [(4, .int 0), (3, .ref outq), (2, .ref mo), (1, .ref x), (0, .ref b)]) : W p l e room_1 s m #[Value.ref b] below meth c H locs 173 193079 (lw_Z below #[Value.ref b] s) (F0 m 664 ls []) := by
  refine lv_aload_n X.1 X.2.1 dL_law_664 rfl (lv_at hl 3 rfl) ?_
  refine lv_aload_n X.1 X.2.1 dL_law_665 rfl (lv_at hl 4 rfl) ?_
  refine lv_iload X.1 X.2.1 dL_law_666 (lv_at hl 0 rfl) ?_
  refine lv_iconst (v := 1) X.1 X.2.1 dL_law_668 (by decide) ?_
  refine lv_iadd X.1 X.2.1 dL_law_669 ?_
  refine lv_topi (fun v_68 ev_68 => ?_)
  obtain rfl : v_68 = 1 := ev_68.trans (by decide +kernel)
  refine va_sld X.1 X.2.1 hX hbl hbA hwM.2.2 (vp_in_iff.mpr (by decide +kernel)) dL_law_670 ?_
  refine k_i (rm := { frames := 4, cells := 0, slots := 0, locals := 160 }) (av := [.ref x, .int (xs (Int32.toNatClampNeg 1))]) X hwX (va_runV (As := [.int (xs (Int32.toNatClampNeg 1))]) (rest := []) (cfix X) (c_X11_program l G cy SX _ x (xs (Int32.toNatClampNeg 1)) hFX) (cwV 1 X.2.2.2.1 gk_X11_program rfl rfl rfl (by decide +kernel) ⟨Nat.le_of_ble_eq_true rfl, Nat.le_of_ble_eq_true rfl⟩) (pre_V X hwX _ hFX.1 (by decide) rfl) rfl rfl hl.1 rfl (lv_room (Nat.le_of_ble_eq_true rfl)) dL_law_671 ⟨Nat.le_of_ble_eq_true rfl, Nat.le_of_ble_eq_true rfl⟩) 173 193079 (Nat.le_of_ble_eq_true rfl) (Nat.le_of_ble_eq_true rfl) (fun rr_671 S2 H locs hp_671 hw2 hfr hnw => ?_)
  have hwM := Wd_keep hwM hfr hdM hw2.2.2
  clear hwX
  refine lv_aload_n X.1 X.2.1 dL_law_674 rfl (lv_at hl 2 rfl) ?_
  refine lv_aload_n X.1 X.2.1 dL_law_675 rfl (lv_at hl 4 rfl) ?_
  refine lv_iload X.1 X.2.1 dL_law_676 (lv_at hl 0 rfl) ?_
  refine lv_iconst (v := 1) X.1 X.2.1 dL_law_678 (by decide) ?_
  refine lv_iadd X.1 X.2.1 dL_law_679 ?_
  refine lv_topi (fun v_69 ev_69 => ?_)
  obtain rfl : v_69 = 1 := ev_69.trans (by decide +kernel)
  refine va_sld X.1 X.2.1 hX hbl hbA hwM.2.2 (vp_in_iff.mpr (by decide +kernel)) dL_law_680 ?_
  refine k_i (rm := { frames := 5, cells := 0, slots := 0, locals := 200 }) (av := [.ref mo, .int (xs (Int32.toNatClampNeg 1))]) X hwM (va_runV (As := [.int (xs (Int32.toNatClampNeg 1))]) (rest := [.int (rr_671)]) (cfix X) (c_X12_program l G cy SM _ mo (xs (Int32.toNatClampNeg 1)) hFM) (cwV 1 X.2.2.2.1 gk_X12_program rfl rfl rfl (by decide +kernel) ⟨Nat.le_of_ble_eq_true rfl, Nat.le_of_ble_eq_true rfl⟩) (pre_V X hwM _ hFM.1 (by decide) rfl) rfl rfl hl.1 rfl (lv_room (Nat.le_of_ble_eq_true rfl)) dL_law_681 ⟨Nat.le_of_ble_eq_true rfl, Nat.le_of_ble_eq_true rfl⟩) 173 193079 (Nat.le_of_ble_eq_true rfl) (Nat.le_of_ble_eq_true rfl) (fun rr_681 S2 H locs hp_681 hw2 hfr hnw => ?_)
  have hwM := hw2
  refine lv_icmp_eq (tgt := 1561) X.1 X.2.1 dL_law_684 (by decide) (fun c_684 => ?_) (fun c_684 => absurd (hp_671.trans hp_681.symm) c_684)
  refine lv_iinc (v := 6) (lv' := [(4, .int 6), (3, .ref outq), (2, .ref mo), (1, .ref x), (0, .ref b)]) X.1 X.2.1 dL_law_1561 hl (k := 0) rfl (by decide) (by decide) rfl (fun ls hl => ?_)
  refine lv_goto (tgt := 23) X.1 X.2.1 dL_law_1564 (by decide) ?_
  refine lv_iload X.1 X.2.1 dL_law_23 (lv_at hl 0 rfl) ?_
  refine lv_aload_n X.1 X.2.1 dL_law_25 rfl (lv_at hl 4 rfl) ?_
  refine va_slen X.1 X.2.1 hX hbl hbA hwM.2.2 dL_law_26 ?_
  refine lv_topi (fun lv_26 elv_26 => ?_)
  obtain rfl : lv_26 = 6 := elv_26.trans (by decide +kernel)
  refine lv_bipush (v := 6) X.1 X.2.1 dL_law_27 (by decide) ?_
  refine lv_isub X.1 X.2.1 dL_law_29 ?_
  refine lv_topi (fun v_70 ev_70 => ?_)
  obtain rfl : v_70 = 0 := ev_70.trans (by decide +kernel)
  refine lv_icmp_gt (tgt := 1567) X.1 X.2.1 dL_law_30 (by decide) (fun c_30 => ?_) (fun c_30 => absurd c_30 (by decide))
  refine lv_iconst (v := 1) X.1 X.2.1 dL_law_1567 (by decide) ?_
  refine va_forget (fun q hq => hwM.2.2.2.2 q hq) ?_
  refine W.widen (k := 600002) (n := 7302232) (Nat.le_of_ble_eq_true rfl) (Nat.le_of_ble_eq_true rfl) ?_
  exact lw_ret X.1 X.2.1 hr hlocks dL_law_1568
set_option maxHeartbeats 8000000 in
set_option maxRecDepth 100000 in
theorem lc_10 {p : Program} {l : Launch} {e : Env} {s : State} {m : MethodId} {below : List Frame} {meth : Method} {c : Code} (hst : l.stackTraces = false) {b x mo outq : Nat} {xs : Nat → Int32} {G : va_G} {cy : Nat → ClassId} (X : Cx p c cL_law 7 s #[Value.ref b] lw_tbl RL m G cy (fun q : Nat => s.heap.size ≤ q)) (hr : meth.sig.returnType = ret) (hlocks : meth.locks = false) (hX : va_X b 6 xs s s.heap) (hbl : b < s.heap.size) (hbA : ¬ (fun q : Nat => s.heap.size ≤ q) b) (hZ : Zs (fun q : Nat => s.heap.size ≤ q) s s.heap) (sa_L_fineness sa_L_in : Nat) (hStr_L_fineness : vk_R RX11 104 "there is no such place of a cocoon" sa_L_fineness s) (hStr_L_in : vk_R RX11 221 "there is no such cocoon in a pot" sa_L_in s) (hdc : ∀ Y ∈ DcL, va_Nw (.declares (Bundle.initS Y)) s) {SX SM : PS} {H : Heap} {locs : List Loc} {ls : Array Slot} (hwX : Wd G cy (fun q : Nat => s.heap.size ≤ q) s.heap SX H locs) (hwM : Wd G cy (fun q : Nat => s.heap.size ≤ q) s.heap SM H locs) (hdM : ∀ q ∈ pL SM, q ∉ pL SX) (hFX : FX SX x) (hFM : FM SM mo) (hl : lv_has ls 7 [(4, .int 0), (3, .ref outq), (2, .ref mo), (1, .ref x), (0, .ref b)]) : W p l e room_1 s m #[Value.ref b] below meth c H locs 173 193079 (lw_Z below #[Value.ref b] s) (F0 m 689 ls []) := by
  refine lv_aload_n X.1 X.2.1 dL_law_689 rfl (lv_at hl 3 rfl) ?_
  refine k_i (rm := { frames := 4, cells := 0, slots := 0, locals := 160 }) (av := [.ref x]) X hwX (va_runV (As := []) (rest := []) (cfix X) (c_X11_place l G cy SX _ x  hFX) (cwV 0 X.2.2.2.1 gk_X11_place rfl rfl rfl (by decide +kernel) ⟨Nat.le_of_ble_eq_true rfl, Nat.le_of_ble_eq_true rfl⟩) (pre_V X hwX _ hFX.1 (by decide) rfl) rfl rfl hl.1 rfl (lv_room (Nat.le_of_ble_eq_true rfl)) dL_law_690 ⟨Nat.le_of_ble_eq_true rfl, Nat.le_of_ble_eq_true rfl⟩) 173 193079 (Nat.le_of_ble_eq_true rfl) (Nat.le_of_ble_eq_true rfl) (fun rr_690 S2 H locs hp_690 hw2 hfr hnw => ?_)
  have hwM := Wd_keep hwM hfr hdM hw2.2.2
  clear hwX
  refine lv_aload_n X.1 X.2.1 dL_law_693 rfl (lv_at hl 2 rfl) ?_
  refine k_i (rm := { frames := 5, cells := 0, slots := 0, locals := 200 }) (av := [.ref mo]) X hwM (va_runV (As := []) (rest := [.int (rr_690)]) (cfix X) (c_X12_place l G cy SM _ mo  hFM) (cwV 0 X.2.2.2.1 gk_X12_place rfl rfl rfl (by decide +kernel) ⟨Nat.le_of_ble_eq_true rfl, Nat.le_of_ble_eq_true rfl⟩) (pre_V X hwM _ hFM.1 (by decide) rfl) rfl rfl hl.1 rfl (lv_room (Nat.le_of_ble_eq_true rfl)) dL_law_694 ⟨Nat.le_of_ble_eq_true rfl, Nat.le_of_ble_eq_true rfl⟩) 173 193079 (Nat.le_of_ble_eq_true rfl) (Nat.le_of_ble_eq_true rfl) (fun rr_694 S2 H locs hp_694 hw2 hfr hnw => ?_)
  have hwM := hw2
  refine lv_icmp_eq (tgt := 1561) X.1 X.2.1 dL_law_697 (by decide) (fun c_697 => ?_) (fun c_697 => absurd (hp_690.trans hp_694.symm) c_697)
  refine lv_iinc (v := 6) (lv' := [(4, .int 6), (3, .ref outq), (2, .ref mo), (1, .ref x), (0, .ref b)]) X.1 X.2.1 dL_law_1561 hl (k := 0) rfl (by decide) (by decide) rfl (fun ls hl => ?_)
  refine lv_goto (tgt := 23) X.1 X.2.1 dL_law_1564 (by decide) ?_
  refine lv_iload X.1 X.2.1 dL_law_23 (lv_at hl 0 rfl) ?_
  refine lv_aload_n X.1 X.2.1 dL_law_25 rfl (lv_at hl 4 rfl) ?_
  refine va_slen X.1 X.2.1 hX hbl hbA hwM.2.2 dL_law_26 ?_
  refine lv_topi (fun lv_26 elv_26 => ?_)
  obtain rfl : lv_26 = 6 := elv_26.trans (by decide +kernel)
  refine lv_bipush (v := 6) X.1 X.2.1 dL_law_27 (by decide) ?_
  refine lv_isub X.1 X.2.1 dL_law_29 ?_
  refine lv_topi (fun v_71 ev_71 => ?_)
  obtain rfl : v_71 = 0 := ev_71.trans (by decide +kernel)
  refine lv_icmp_gt (tgt := 1567) X.1 X.2.1 dL_law_30 (by decide) (fun c_30 => ?_) (fun c_30 => absurd c_30 (by decide))
  refine lv_iconst (v := 1) X.1 X.2.1 dL_law_1567 (by decide) ?_
  refine va_forget (fun q hq => hwM.2.2.2.2 q hq) ?_
  refine W.widen (k := 600002) (n := 7302232) (Nat.le_of_ble_eq_true rfl) (Nat.le_of_ble_eq_true rfl) ?_
  exact lw_ret X.1 X.2.1 hr hlocks dL_law_1568
set_option maxHeartbeats 8000000 in
set_option maxRecDepth 100000 in
theorem lc_11 {p : Program} {l : Launch} {e : Env} {s : State} {m : MethodId} {below : List Frame} {meth : Method} {c : Code} (hst : l.stackTraces = false) {b x mo outq : Nat} {xs : Nat → Int32} {G : va_G} {cy : Nat → ClassId} (X : Cx p c cL_law 7 s #[Value.ref b] lw_tbl RL m G cy (fun q : Nat => s.heap.size ≤ q)) (hr : meth.sig.returnType = ret) (hlocks : meth.locks = false) (hX : va_X b 6 xs s s.heap) (hbl : b < s.heap.size) (hbA : ¬ (fun q : Nat => s.heap.size ≤ q) b) (hZ : Zs (fun q : Nat => s.heap.size ≤ q) s s.heap) (sa_L_fineness sa_L_in : Nat) (hStr_L_fineness : vk_R RX11 104 "there is no such place of a cocoon" sa_L_fineness s) (hStr_L_in : vk_R RX11 221 "there is no such cocoon in a pot" sa_L_in s) (hdc : ∀ Y ∈ DcL, va_Nw (.declares (Bundle.initS Y)) s) {SX SM : PS} {H : Heap} {locs : List Loc} {ls : Array Slot} (hwX : Wd G cy (fun q : Nat => s.heap.size ≤ q) s.heap SX H locs) (hwM : Wd G cy (fun q : Nat => s.heap.size ≤ q) s.heap SM H locs) (hdM : ∀ q ∈ pL SM, q ∉ pL SX) (hFX : FX SX x) (hFM : FM SM mo) (hl : lv_has ls 7 [(4, .int 0), (3, .ref outq), (2, .ref mo), (1, .ref x), (0, .ref b)]) : W p l e room_1 s m #[Value.ref b] below meth c H locs 173 193079 (lw_Z below #[Value.ref b] s) (F0 m 702 ls []) := by
  refine lv_aload_n X.1 X.2.1 dL_law_702 rfl (lv_at hl 3 rfl) ?_
  refine lv_aload_n X.1 X.2.1 dL_law_703 rfl (lv_at hl 4 rfl) ?_
  refine lv_iload X.1 X.2.1 dL_law_704 (lv_at hl 0 rfl) ?_
  refine lv_iconst (v := 1) X.1 X.2.1 dL_law_706 (by decide) ?_
  refine lv_iadd X.1 X.2.1 dL_law_707 ?_
  refine lv_topi (fun v_72 ev_72 => ?_)
  obtain rfl : v_72 = 1 := ev_72.trans (by decide +kernel)
  refine va_sld X.1 X.2.1 hX hbl hbA hwM.2.2 (vp_in_iff.mpr (by decide +kernel)) dL_law_708 ?_
  refine lv_aload_n X.1 X.2.1 dL_law_709 rfl (lv_at hl 4 rfl) ?_
  refine lv_iload X.1 X.2.1 dL_law_710 (lv_at hl 0 rfl) ?_
  refine lv_iconst (v := 2) X.1 X.2.1 dL_law_712 (by decide) ?_
  refine lv_iadd X.1 X.2.1 dL_law_713 ?_
  refine lv_topi (fun v_73 ev_73 => ?_)
  obtain rfl : v_73 = 2 := ev_73.trans (by decide +kernel)
  refine va_sld X.1 X.2.1 hX hbl hbA hwM.2.2 (vp_in_iff.mpr (by decide +kernel)) dL_law_714 ?_
  refine k_i (rm := { frames := 4, cells := 0, slots := 0, locals := 160 }) (av := [.ref x, .int (xs (Int32.toNatClampNeg 1)), .int (xs (Int32.toNatClampNeg 2))]) X hwX (va_runV (As := [.int (xs (Int32.toNatClampNeg 1)), .int (xs (Int32.toNatClampNeg 2))]) (rest := []) (cfix X) (c_X11_run l G cy SX _ x (xs (Int32.toNatClampNeg 1)) (xs (Int32.toNatClampNeg 2)) hFX) (cwV 2 X.2.2.2.1 gk_X11_run rfl rfl rfl (by decide +kernel) ⟨Nat.le_of_ble_eq_true rfl, Nat.le_of_ble_eq_true rfl⟩) (pre_V X hwX _ hFX.1 (by decide) rfl) rfl rfl hl.1 rfl (lv_room (Nat.le_of_ble_eq_true rfl)) dL_law_715 ⟨Nat.le_of_ble_eq_true rfl, Nat.le_of_ble_eq_true rfl⟩) 173 193079 (Nat.le_of_ble_eq_true rfl) (Nat.le_of_ble_eq_true rfl) (fun rr_715 S2 H locs hp_715 hw2 hfr hnw => ?_)
  have hwM := Wd_keep hwM hfr hdM hw2.2.2
  clear hwX
  refine lv_aload_n X.1 X.2.1 dL_law_718 rfl (lv_at hl 2 rfl) ?_
  refine lv_aload_n X.1 X.2.1 dL_law_719 rfl (lv_at hl 4 rfl) ?_
  refine lv_iload X.1 X.2.1 dL_law_720 (lv_at hl 0 rfl) ?_
  refine lv_iconst (v := 1) X.1 X.2.1 dL_law_722 (by decide) ?_
  refine lv_iadd X.1 X.2.1 dL_law_723 ?_
  refine lv_topi (fun v_74 ev_74 => ?_)
  obtain rfl : v_74 = 1 := ev_74.trans (by decide +kernel)
  refine va_sld X.1 X.2.1 hX hbl hbA hwM.2.2 (vp_in_iff.mpr (by decide +kernel)) dL_law_724 ?_
  refine lv_aload_n X.1 X.2.1 dL_law_725 rfl (lv_at hl 4 rfl) ?_
  refine lv_iload X.1 X.2.1 dL_law_726 (lv_at hl 0 rfl) ?_
  refine lv_iconst (v := 2) X.1 X.2.1 dL_law_728 (by decide) ?_
  refine lv_iadd X.1 X.2.1 dL_law_729 ?_
  refine lv_topi (fun v_75 ev_75 => ?_)
  obtain rfl : v_75 = 2 := ev_75.trans (by decide +kernel)
  refine va_sld X.1 X.2.1 hX hbl hbA hwM.2.2 (vp_in_iff.mpr (by decide +kernel)) dL_law_730 ?_
  refine k_i (rm := { frames := 5, cells := 0, slots := 0, locals := 200 }) (av := [.ref mo, .int (xs (Int32.toNatClampNeg 1)), .int (xs (Int32.toNatClampNeg 2))]) X hwM (va_runV (As := [.int (xs (Int32.toNatClampNeg 1)), .int (xs (Int32.toNatClampNeg 2))]) (rest := [.int (rr_715)]) (cfix X) (c_X12_run l G cy SM _ mo (xs (Int32.toNatClampNeg 1)) (xs (Int32.toNatClampNeg 2)) hFM) (cwV 2 X.2.2.2.1 gk_X12_run rfl rfl rfl (by decide +kernel) ⟨Nat.le_of_ble_eq_true rfl, Nat.le_of_ble_eq_true rfl⟩) (pre_V X hwM _ hFM.1 (by decide) rfl) rfl rfl hl.1 rfl (lv_room (Nat.le_of_ble_eq_true rfl)) dL_law_731 ⟨Nat.le_of_ble_eq_true rfl, Nat.le_of_ble_eq_true rfl⟩) 173 193079 (Nat.le_of_ble_eq_true rfl) (Nat.le_of_ble_eq_true rfl) (fun rr_731 S2 H locs hp_731 hw2 hfr hnw => ?_)
  have hwM := hw2
  refine lv_icmp_eq (tgt := 1561) X.1 X.2.1 dL_law_734 (by decide) (fun c_734 => ?_) (fun c_734 => absurd (hp_715.trans hp_731.symm) c_734)
  refine lv_iinc (v := 6) (lv' := [(4, .int 6), (3, .ref outq), (2, .ref mo), (1, .ref x), (0, .ref b)]) X.1 X.2.1 dL_law_1561 hl (k := 0) rfl (by decide) (by decide) rfl (fun ls hl => ?_)
  refine lv_goto (tgt := 23) X.1 X.2.1 dL_law_1564 (by decide) ?_
  refine lv_iload X.1 X.2.1 dL_law_23 (lv_at hl 0 rfl) ?_
  refine lv_aload_n X.1 X.2.1 dL_law_25 rfl (lv_at hl 4 rfl) ?_
  refine va_slen X.1 X.2.1 hX hbl hbA hwM.2.2 dL_law_26 ?_
  refine lv_topi (fun lv_26 elv_26 => ?_)
  obtain rfl : lv_26 = 6 := elv_26.trans (by decide +kernel)
  refine lv_bipush (v := 6) X.1 X.2.1 dL_law_27 (by decide) ?_
  refine lv_isub X.1 X.2.1 dL_law_29 ?_
  refine lv_topi (fun v_76 ev_76 => ?_)
  obtain rfl : v_76 = 0 := ev_76.trans (by decide +kernel)
  refine lv_icmp_gt (tgt := 1567) X.1 X.2.1 dL_law_30 (by decide) (fun c_30 => ?_) (fun c_30 => absurd c_30 (by decide))
  refine lv_iconst (v := 1) X.1 X.2.1 dL_law_1567 (by decide) ?_
  refine va_forget (fun q hq => hwM.2.2.2.2 q hq) ?_
  refine W.widen (k := 600002) (n := 7302232) (Nat.le_of_ble_eq_true rfl) (Nat.le_of_ble_eq_true rfl) ?_
  exact lw_ret X.1 X.2.1 hr hlocks dL_law_1568
set_option maxHeartbeats 8000000 in
set_option maxRecDepth 100000 in
theorem lc_12 {p : Program} {l : Launch} {e : Env} {s : State} {m : MethodId} {below : List Frame} {meth : Method} {c : Code} (hst : l.stackTraces = false) {b x mo outq : Nat} {xs : Nat → Int32} {G : va_G} {cy : Nat → ClassId} (X : Cx p c cL_law 7 s #[Value.ref b] lw_tbl RL m G cy (fun q : Nat => s.heap.size ≤ q)) (hr : meth.sig.returnType = ret) (hlocks : meth.locks = false) (hX : va_X b 6 xs s s.heap) (hbl : b < s.heap.size) (hbA : ¬ (fun q : Nat => s.heap.size ≤ q) b) (hZ : Zs (fun q : Nat => s.heap.size ≤ q) s s.heap) (sa_L_fineness sa_L_in : Nat) (hStr_L_fineness : vk_R RX11 104 "there is no such place of a cocoon" sa_L_fineness s) (hStr_L_in : vk_R RX11 221 "there is no such cocoon in a pot" sa_L_in s) (hdc : ∀ Y ∈ DcL, va_Nw (.declares (Bundle.initS Y)) s) {SX SM : PS} {H : Heap} {locs : List Loc} {ls : Array Slot} (hwX : Wd G cy (fun q : Nat => s.heap.size ≤ q) s.heap SX H locs) (hwM : Wd G cy (fun q : Nat => s.heap.size ≤ q) s.heap SM H locs) (hdM : ∀ q ∈ pL SM, q ∉ pL SX) (hFX : FX SX x) (hFM : FM SM mo) (hl : lv_has ls 7 [(4, .int 0), (3, .ref outq), (2, .ref mo), (1, .ref x), (0, .ref b)]) : W p l e room_1 s m #[Value.ref b] below meth c H locs 173 193079 (lw_Z below #[Value.ref b] s) (F0 m 739 ls []) := by
  refine lv_aload_n X.1 X.2.1 dL_law_739 rfl (lv_at hl 3 rfl) ?_
  refine lv_aload_n X.1 X.2.1 dL_law_740 rfl (lv_at hl 4 rfl) ?_
  refine lv_iload X.1 X.2.1 dL_law_741 (lv_at hl 0 rfl) ?_
  refine lv_iconst (v := 1) X.1 X.2.1 dL_law_743 (by decide) ?_
  refine lv_iadd X.1 X.2.1 dL_law_744 ?_
  refine lv_topi (fun v_77 ev_77 => ?_)
  obtain rfl : v_77 = 1 := ev_77.trans (by decide +kernel)
  refine va_sld X.1 X.2.1 hX hbl hbA hwM.2.2 (vp_in_iff.mpr (by decide +kernel)) dL_law_745 ?_
  refine lv_aload_n X.1 X.2.1 dL_law_746 rfl (lv_at hl 4 rfl) ?_
  refine lv_iload X.1 X.2.1 dL_law_747 (lv_at hl 0 rfl) ?_
  refine lv_iconst (v := 2) X.1 X.2.1 dL_law_749 (by decide) ?_
  refine lv_iadd X.1 X.2.1 dL_law_750 ?_
  refine lv_topi (fun v_78 ev_78 => ?_)
  obtain rfl : v_78 = 2 := ev_78.trans (by decide +kernel)
  refine va_sld X.1 X.2.1 hX hbl hbA hwM.2.2 (vp_in_iff.mpr (by decide +kernel)) dL_law_751 ?_
  refine k_i (rm := { frames := 4, cells := 0, slots := 0, locals := 160 }) (av := [.ref x, .int (xs (Int32.toNatClampNeg 1)), .int (xs (Int32.toNatClampNeg 2))]) X hwX (va_runV (As := [.int (xs (Int32.toNatClampNeg 1)), .int (xs (Int32.toNatClampNeg 2))]) (rest := []) (cfix X) (c_X11_about l G cy SX _ x (xs (Int32.toNatClampNeg 1)) (xs (Int32.toNatClampNeg 2)) hFX) (cwV 2 X.2.2.2.1 gk_X11_about rfl rfl rfl (by decide +kernel) ⟨Nat.le_of_ble_eq_true rfl, Nat.le_of_ble_eq_true rfl⟩) (pre_V X hwX _ hFX.1 (by decide) rfl) rfl rfl hl.1 rfl (lv_room (Nat.le_of_ble_eq_true rfl)) dL_law_752 ⟨Nat.le_of_ble_eq_true rfl, Nat.le_of_ble_eq_true rfl⟩) 173 193079 (Nat.le_of_ble_eq_true rfl) (Nat.le_of_ble_eq_true rfl) (fun rr_752 S2 H locs hp_752 hw2 hfr hnw => ?_)
  have hwM := Wd_keep hwM hfr hdM hw2.2.2
  clear hwX
  refine lv_aload_n X.1 X.2.1 dL_law_755 rfl (lv_at hl 2 rfl) ?_
  refine lv_aload_n X.1 X.2.1 dL_law_756 rfl (lv_at hl 4 rfl) ?_
  refine lv_iload X.1 X.2.1 dL_law_757 (lv_at hl 0 rfl) ?_
  refine lv_iconst (v := 1) X.1 X.2.1 dL_law_759 (by decide) ?_
  refine lv_iadd X.1 X.2.1 dL_law_760 ?_
  refine lv_topi (fun v_79 ev_79 => ?_)
  obtain rfl : v_79 = 1 := ev_79.trans (by decide +kernel)
  refine va_sld X.1 X.2.1 hX hbl hbA hwM.2.2 (vp_in_iff.mpr (by decide +kernel)) dL_law_761 ?_
  refine lv_aload_n X.1 X.2.1 dL_law_762 rfl (lv_at hl 4 rfl) ?_
  refine lv_iload X.1 X.2.1 dL_law_763 (lv_at hl 0 rfl) ?_
  refine lv_iconst (v := 2) X.1 X.2.1 dL_law_765 (by decide) ?_
  refine lv_iadd X.1 X.2.1 dL_law_766 ?_
  refine lv_topi (fun v_80 ev_80 => ?_)
  obtain rfl : v_80 = 2 := ev_80.trans (by decide +kernel)
  refine va_sld X.1 X.2.1 hX hbl hbA hwM.2.2 (vp_in_iff.mpr (by decide +kernel)) dL_law_767 ?_
  refine k_i (rm := { frames := 5, cells := 0, slots := 0, locals := 200 }) (av := [.ref mo, .int (xs (Int32.toNatClampNeg 1)), .int (xs (Int32.toNatClampNeg 2))]) X hwM (va_runV (As := [.int (xs (Int32.toNatClampNeg 1)), .int (xs (Int32.toNatClampNeg 2))]) (rest := [.int (rr_752)]) (cfix X) (c_X12_about l G cy SM _ mo (xs (Int32.toNatClampNeg 1)) (xs (Int32.toNatClampNeg 2)) hFM) (cwV 2 X.2.2.2.1 gk_X12_about rfl rfl rfl (by decide +kernel) ⟨Nat.le_of_ble_eq_true rfl, Nat.le_of_ble_eq_true rfl⟩) (pre_V X hwM _ hFM.1 (by decide) rfl) rfl rfl hl.1 rfl (lv_room (Nat.le_of_ble_eq_true rfl)) dL_law_768 ⟨Nat.le_of_ble_eq_true rfl, Nat.le_of_ble_eq_true rfl⟩) 173 193079 (Nat.le_of_ble_eq_true rfl) (Nat.le_of_ble_eq_true rfl) (fun rr_768 S2 H locs hp_768 hw2 hfr hnw => ?_)
  have hwM := hw2
  refine lv_icmp_eq (tgt := 1561) X.1 X.2.1 dL_law_771 (by decide) (fun c_771 => ?_) (fun c_771 => absurd (hp_752.trans hp_768.symm) c_771)
  refine lv_iinc (v := 6) (lv' := [(4, .int 6), (3, .ref outq), (2, .ref mo), (1, .ref x), (0, .ref b)]) X.1 X.2.1 dL_law_1561 hl (k := 0) rfl (by decide) (by decide) rfl (fun ls hl => ?_)
  refine lv_goto (tgt := 23) X.1 X.2.1 dL_law_1564 (by decide) ?_
  refine lv_iload X.1 X.2.1 dL_law_23 (lv_at hl 0 rfl) ?_
  refine lv_aload_n X.1 X.2.1 dL_law_25 rfl (lv_at hl 4 rfl) ?_
  refine va_slen X.1 X.2.1 hX hbl hbA hwM.2.2 dL_law_26 ?_
  refine lv_topi (fun lv_26 elv_26 => ?_)
  obtain rfl : lv_26 = 6 := elv_26.trans (by decide +kernel)
  refine lv_bipush (v := 6) X.1 X.2.1 dL_law_27 (by decide) ?_
  refine lv_isub X.1 X.2.1 dL_law_29 ?_
  refine lv_topi (fun v_81 ev_81 => ?_)
  obtain rfl : v_81 = 0 := ev_81.trans (by decide +kernel)
  refine lv_icmp_gt (tgt := 1567) X.1 X.2.1 dL_law_30 (by decide) (fun c_30 => ?_) (fun c_30 => absurd c_30 (by decide))
  refine lv_iconst (v := 1) X.1 X.2.1 dL_law_1567 (by decide) ?_
  refine va_forget (fun q hq => hwM.2.2.2.2 q hq) ?_
  refine W.widen (k := 600002) (n := 7302232) (Nat.le_of_ble_eq_true rfl) (Nat.le_of_ble_eq_true rfl) ?_
  exact lw_ret X.1 X.2.1 hr hlocks dL_law_1568
set_option maxHeartbeats 8000000 in
set_option maxRecDepth 100000 in
theorem lc_13 {p : Program} {l : Launch} {e : Env} {s : State} {m : MethodId} {below : List Frame} {meth : Method} {c : Code} (hst : l.stackTraces = false) {b x mo outq : Nat} {xs : Nat → Int32} {G : va_G} {cy : Nat → ClassId} (X : Cx p c cL_law 7 s #[Value.ref b] lw_tbl RL m G cy (fun q : Nat => s.heap.size ≤ q)) (hr : meth.sig.returnType = ret) (hlocks : meth.locks = false) (hX : va_X b 6 xs s s.heap) (hbl : b < s.heap.size) (hbA : ¬ (fun q : Nat => s.heap.size ≤ q) b) (hZ : Zs (fun q : Nat => s.heap.size ≤ q) s s.heap) (sa_L_fineness sa_L_in : Nat) (hStr_L_fineness : vk_R RX11 104 "there is no such place of a cocoon" sa_L_fineness s) (hStr_L_in : vk_R RX11 221 "there is no such cocoon in a pot" sa_L_in s) (hdc : ∀ Y ∈ DcL, va_Nw (.declares (Bundle.initS Y)) s) {SX SM : PS} {H : Heap} {locs : List Loc} {ls : Array Slot} (hwX : Wd G cy (fun q : Nat => s.heap.size ≤ q) s.heap SX H locs) (hwM : Wd G cy (fun q : Nat => s.heap.size ≤ q) s.heap SM H locs) (hdM : ∀ q ∈ pL SM, q ∉ pL SX) (hFX : FX SX x) (hFM : FM SM mo) (hl : lv_has ls 7 [(4, .int 0), (3, .ref outq), (2, .ref mo), (1, .ref x), (0, .ref b)]) : W p l e room_1 s m #[Value.ref b] below meth c H locs 173 193079 (lw_Z below #[Value.ref b] s) (F0 m 776 ls []) := by
  refine lv_aload_n X.1 X.2.1 dL_law_776 rfl (lv_at hl 3 rfl) ?_
  refine lv_aload_n X.1 X.2.1 dL_law_777 rfl (lv_at hl 4 rfl) ?_
  refine lv_iload X.1 X.2.1 dL_law_778 (lv_at hl 0 rfl) ?_
  refine lv_iconst (v := 1) X.1 X.2.1 dL_law_780 (by decide) ?_
  refine lv_iadd X.1 X.2.1 dL_law_781 ?_
  refine lv_topi (fun v_82 ev_82 => ?_)
  obtain rfl : v_82 = 1 := ev_82.trans (by decide +kernel)
  refine va_sld X.1 X.2.1 hX hbl hbA hwM.2.2 (vp_in_iff.mpr (by decide +kernel)) dL_law_782 ?_
  refine lv_aload_n X.1 X.2.1 dL_law_783 rfl (lv_at hl 4 rfl) ?_
  refine lv_iload X.1 X.2.1 dL_law_784 (lv_at hl 0 rfl) ?_
  refine lv_iconst (v := 2) X.1 X.2.1 dL_law_786 (by decide) ?_
  refine lv_iadd X.1 X.2.1 dL_law_787 ?_
  refine lv_topi (fun v_83 ev_83 => ?_)
  obtain rfl : v_83 = 2 := ev_83.trans (by decide +kernel)
  refine va_sld X.1 X.2.1 hX hbl hbA hwM.2.2 (vp_in_iff.mpr (by decide +kernel)) dL_law_788 ?_
  refine lv_aload_n X.1 X.2.1 dL_law_789 rfl (lv_at hl 4 rfl) ?_
  refine lv_iload X.1 X.2.1 dL_law_790 (lv_at hl 0 rfl) ?_
  refine lv_iconst (v := 3) X.1 X.2.1 dL_law_792 (by decide) ?_
  refine lv_iadd X.1 X.2.1 dL_law_793 ?_
  refine lv_topi (fun v_84 ev_84 => ?_)
  obtain rfl : v_84 = 3 := ev_84.trans (by decide +kernel)
  refine va_sld X.1 X.2.1 hX hbl hbA hwM.2.2 (vp_in_iff.mpr (by decide +kernel)) dL_law_794 ?_
  refine lv_aload_n X.1 X.2.1 dL_law_795 rfl (lv_at hl 1 rfl) ?_
  refine k_i (rm := { frames := 9, cells := 1, slots := 6, locals := 360 }) (av := [.ref x, .int (xs (Int32.toNatClampNeg 1)), .int (xs (Int32.toNatClampNeg 2)), .int (xs (Int32.toNatClampNeg 3)), .ref outq]) X hwX (vx_runSW (As := [.ref x, .int (xs (Int32.toNatClampNeg 1)), .int (xs (Int32.toNatClampNeg 2)), .int (xs (Int32.toNatClampNeg 3)), .ref outq]) (rest := []) (cfix X) (c_L_in l hst G cy SX _ _ x (xs (Int32.toNatClampNeg 1)) (xs (Int32.toNatClampNeg 2)) (xs (Int32.toNatClampNeg 3)) outq hFX) (vx_cwSW 5 X.2.2.2.1 gk_L_in rfl rfl rfl (by decide +kernel) ⟨Nat.le_of_ble_eq_true rfl, Nat.le_of_ble_eq_true rfl⟩) (pre_SQ X hwX hZ hStr_L_in hdc _) rfl rfl hl.1 rfl (lv_room (Nat.le_of_ble_eq_true rfl)) dL_law_796 ⟨Nat.le_of_ble_eq_true rfl, Nat.le_of_ble_eq_true rfl⟩) 174 193085 (Nat.le_of_ble_eq_true rfl) (Nat.le_of_ble_eq_true rfl) (fun rr_796 S2 H locs hp_796 hw2 hfr hnw => ?_)
  have hwM := Wd_keep hwM hfr hdM hw2.2.2
  clear hwX
  subst hp_796
  refine lv_istore (lv' := [(5, .int 1), (4, .int 0), (3, .ref outq), (2, .ref mo), (1, .ref x), (0, .ref b)]) X.1 X.2.1 dL_law_799 hl (by decide) rfl (fun ls hl => ?_)
  refine lv_aload_n X.1 X.2.1 dL_law_801 rfl (lv_at hl 3 rfl) ?_
  refine lv_aload_n X.1 X.2.1 dL_law_802 rfl (lv_at hl 5 rfl) ?_
  refine lv_iload X.1 X.2.1 dL_law_803 (lv_at hl 1 rfl) ?_
  refine lv_iconst (v := 1) X.1 X.2.1 dL_law_805 (by decide) ?_
  refine lv_iadd X.1 X.2.1 dL_law_806 ?_
  refine lv_topi (fun v_85 ev_85 => ?_)
  obtain rfl : v_85 = 1 := ev_85.trans (by decide +kernel)
  refine va_sld X.1 X.2.1 hX hbl hbA hwM.2.2 (vp_in_iff.mpr (by decide +kernel)) dL_law_807 ?_
  refine lv_aload_n X.1 X.2.1 dL_law_808 rfl (lv_at hl 5 rfl) ?_
  refine lv_iload X.1 X.2.1 dL_law_809 (lv_at hl 1 rfl) ?_
  refine lv_iconst (v := 2) X.1 X.2.1 dL_law_811 (by decide) ?_
  refine lv_iadd X.1 X.2.1 dL_law_812 ?_
  refine lv_topi (fun v_86 ev_86 => ?_)
  obtain rfl : v_86 = 2 := ev_86.trans (by decide +kernel)
  refine va_sld X.1 X.2.1 hX hbl hbA hwM.2.2 (vp_in_iff.mpr (by decide +kernel)) dL_law_813 ?_
  refine lv_aload_n X.1 X.2.1 dL_law_814 rfl (lv_at hl 5 rfl) ?_
  refine lv_iload X.1 X.2.1 dL_law_815 (lv_at hl 1 rfl) ?_
  refine lv_iconst (v := 3) X.1 X.2.1 dL_law_817 (by decide) ?_
  refine lv_iadd X.1 X.2.1 dL_law_818 ?_
  refine lv_topi (fun v_87 ev_87 => ?_)
  obtain rfl : v_87 = 3 := ev_87.trans (by decide +kernel)
  refine va_sld X.1 X.2.1 hX hbl hbA hwM.2.2 (vp_in_iff.mpr (by decide +kernel)) dL_law_819 ?_
  refine k_i (rm := { frames := 5, cells := 0, slots := 0, locals := 200 }) (av := [.ref mo, .int (xs (Int32.toNatClampNeg 1)), .int (xs (Int32.toNatClampNeg 2)), .int (xs (Int32.toNatClampNeg 3))]) X hwM (va_runV (As := [.int (xs (Int32.toNatClampNeg 1)), .int (xs (Int32.toNatClampNeg 2)), .int (xs (Int32.toNatClampNeg 3))]) (rest := []) (cfix X) (c_X12_in l G cy SM _ mo (xs (Int32.toNatClampNeg 1)) (xs (Int32.toNatClampNeg 2)) (xs (Int32.toNatClampNeg 3)) hFM) (cwV 3 X.2.2.2.1 gk_X12_in rfl rfl rfl (by decide +kernel) ⟨Nat.le_of_ble_eq_true rfl, Nat.le_of_ble_eq_true rfl⟩) (pre_V X hwM _ hFM.1 (by decide) rfl) rfl rfl hl.1 rfl (lv_room (Nat.le_of_ble_eq_true rfl)) dL_law_820 ⟨Nat.le_of_ble_eq_true rfl, Nat.le_of_ble_eq_true rfl⟩) 174 193085 (Nat.le_of_ble_eq_true rfl) (Nat.le_of_ble_eq_true rfl) (fun rr_820 S2 H locs hp_820 hw2 hfr hnw => ?_)
  obtain ⟨-, hat_mt, hthr⟩ := hp_820
  have hwM := hw2
  refine lv_istore (lv' := [(6, .int (rr_820)), (5, .int 1), (4, .int 0), (3, .ref outq), (2, .ref mo), (1, .ref x), (0, .ref b)]) X.1 X.2.1 dL_law_823 hl (by decide) rfl (fun ls hl => ?_)
  refine lv_aload_n X.1 X.2.1 dL_law_825 rfl (lv_at hl 4 rfl) ?_
  refine k_i (rm := { frames := 1, cells := 0, slots := 0, locals := 40 }) (av := [.ref mo]) X hwM (va_runV (As := []) (rest := []) (cfix X) (c_X12_thrown l G cy S2 _ mo hat_mt) (cwV 0 X.2.2.2.1 gk_X12_thrown rfl rfl rfl (by decide +kernel) ⟨Nat.le_of_ble_eq_true rfl, Nat.le_of_ble_eq_true rfl⟩) (pre_V X hwM _ hat_mt (by decide) rfl) rfl rfl hl.1 rfl (lv_room (Nat.le_of_ble_eq_true rfl)) dL_law_826 ⟨Nat.le_of_ble_eq_true rfl, Nat.le_of_ble_eq_true rfl⟩) 174 193085 (Nat.le_of_ble_eq_true rfl) (Nat.le_of_ble_eq_true rfl) (fun rr_826 S2 H locs hp_826 hw2 hfr hnw => ?_)
  have hwM := hw2
  refine lv_iload X.1 X.2.1 dL_law_829 (lv_at hl 1 rfl) ?_
  refine lv_icmp_eq (tgt := 836) X.1 X.2.1 dL_law_831 (by decide) (fun c_831 => ?_) (fun c_831 => absurd (hp_826.trans hthr) c_831)
  refine lv_iload X.1 X.2.1 dL_law_836 (lv_at hl 1 rfl) ?_
  refine lv_if_ne (tgt := 853) X.1 X.2.1 dL_law_838 (by decide) (fun c_838 => ?_) (fun c_838 => absurd c_838 (by decide))
  refine lv_goto (tgt := 1561) X.1 X.2.1 dL_law_853 (by decide) ?_
  refine lv_iinc (v := 6) (lv' := [(4, .int 6), (6, .int (rr_820)), (5, .int 1), (3, .ref outq), (2, .ref mo), (1, .ref x), (0, .ref b)]) X.1 X.2.1 dL_law_1561 hl (k := 2) rfl (by decide) (by decide) rfl (fun ls hl => ?_)
  refine lv_goto (tgt := 23) X.1 X.2.1 dL_law_1564 (by decide) ?_
  refine lv_iload X.1 X.2.1 dL_law_23 (lv_at hl 0 rfl) ?_
  refine lv_aload_n X.1 X.2.1 dL_law_25 rfl (lv_at hl 6 rfl) ?_
  refine va_slen X.1 X.2.1 hX hbl hbA hwM.2.2 dL_law_26 ?_
  refine lv_topi (fun lv_26 elv_26 => ?_)
  obtain rfl : lv_26 = 6 := elv_26.trans (by decide +kernel)
  refine lv_bipush (v := 6) X.1 X.2.1 dL_law_27 (by decide) ?_
  refine lv_isub X.1 X.2.1 dL_law_29 ?_
  refine lv_topi (fun v_88 ev_88 => ?_)
  obtain rfl : v_88 = 0 := ev_88.trans (by decide +kernel)
  refine lv_icmp_gt (tgt := 1567) X.1 X.2.1 dL_law_30 (by decide) (fun c_30 => ?_) (fun c_30 => absurd c_30 (by decide))
  refine lv_iconst (v := 1) X.1 X.2.1 dL_law_1567 (by decide) ?_
  refine va_forget (fun q hq => hwM.2.2.2.2 q hq) ?_
  refine W.widen (k := 600002) (n := 7302232) (Nat.le_of_ble_eq_true rfl) (Nat.le_of_ble_eq_true rfl) ?_
  exact lw_ret X.1 X.2.1 hr hlocks dL_law_1568
set_option maxHeartbeats 8000000 in
set_option maxRecDepth 100000 in
theorem lc_14 {p : Program} {l : Launch} {e : Env} {s : State} {m : MethodId} {below : List Frame} {meth : Method} {c : Code} (hst : l.stackTraces = false) {b x mo outq : Nat} {xs : Nat → Int32} {G : va_G} {cy : Nat → ClassId} (X : Cx p c cL_law 7 s #[Value.ref b] lw_tbl RL m G cy (fun q : Nat => s.heap.size ≤ q)) (hr : meth.sig.returnType = ret) (hlocks : meth.locks = false) (hX : va_X b 6 xs s s.heap) (hbl : b < s.heap.size) (hbA : ¬ (fun q : Nat => s.heap.size ≤ q) b) (hZ : Zs (fun q : Nat => s.heap.size ≤ q) s s.heap) (sa_L_fineness sa_L_in : Nat) (hStr_L_fineness : vk_R RX11 104 "there is no such place of a cocoon" sa_L_fineness s) (hStr_L_in : vk_R RX11 221 "there is no such cocoon in a pot" sa_L_in s) (hdc : ∀ Y ∈ DcL, va_Nw (.declares (Bundle.initS Y)) s) {SX SM : PS} {H : Heap} {locs : List Loc} {ls : Array Slot} (hwX : Wd G cy (fun q : Nat => s.heap.size ≤ q) s.heap SX H locs) (hwM : Wd G cy (fun q : Nat => s.heap.size ≤ q) s.heap SM H locs) (hdM : ∀ q ∈ pL SM, q ∉ pL SX) (hFX : FX SX x) (hFM : FM SM mo) (hl : lv_has ls 7 [(4, .int 0), (3, .ref outq), (2, .ref mo), (1, .ref x), (0, .ref b)]) : W p l e room_1 s m #[Value.ref b] below meth c H locs 173 193079 (lw_Z below #[Value.ref b] s) (F0 m 856 ls []) := by
  refine lv_aload_n X.1 X.2.1 dL_law_856 rfl (lv_at hl 3 rfl) ?_
  refine lv_aload_n X.1 X.2.1 dL_law_857 rfl (lv_at hl 4 rfl) ?_
  refine lv_iload X.1 X.2.1 dL_law_858 (lv_at hl 0 rfl) ?_
  refine lv_iconst (v := 1) X.1 X.2.1 dL_law_860 (by decide) ?_
  refine lv_iadd X.1 X.2.1 dL_law_861 ?_
  refine lv_topi (fun v_89 ev_89 => ?_)
  obtain rfl : v_89 = 1 := ev_89.trans (by decide +kernel)
  refine va_sld X.1 X.2.1 hX hbl hbA hwM.2.2 (vp_in_iff.mpr (by decide +kernel)) dL_law_862 ?_
  refine k_i (rm := { frames := 4, cells := 0, slots := 0, locals := 160 }) (av := [.ref x, .int (xs (Int32.toNatClampNeg 1))]) X hwX (va_runV (As := [.int (xs (Int32.toNatClampNeg 1))]) (rest := []) (cfix X) (c_X11_cut l G cy SX _ x (xs (Int32.toNatClampNeg 1)) hFX) (cwV 1 X.2.2.2.1 gk_X11_cut rfl rfl rfl (by decide +kernel) ⟨Nat.le_of_ble_eq_true rfl, Nat.le_of_ble_eq_true rfl⟩) (pre_V X hwX _ hFX.1 (by decide) rfl) rfl rfl hl.1 rfl (lv_room (Nat.le_of_ble_eq_true rfl)) dL_law_863 ⟨Nat.le_of_ble_eq_true rfl, Nat.le_of_ble_eq_true rfl⟩) 173 193079 (Nat.le_of_ble_eq_true rfl) (Nat.le_of_ble_eq_true rfl) (fun rr_863 S2 H locs hp_863 hw2 hfr hnw => ?_)
  have hwM := Wd_keep hwM hfr hdM hw2.2.2
  clear hwX
  refine lv_aload_n X.1 X.2.1 dL_law_866 rfl (lv_at hl 2 rfl) ?_
  refine lv_aload_n X.1 X.2.1 dL_law_867 rfl (lv_at hl 4 rfl) ?_
  refine lv_iload X.1 X.2.1 dL_law_868 (lv_at hl 0 rfl) ?_
  refine lv_iconst (v := 1) X.1 X.2.1 dL_law_870 (by decide) ?_
  refine lv_iadd X.1 X.2.1 dL_law_871 ?_
  refine lv_topi (fun v_90 ev_90 => ?_)
  obtain rfl : v_90 = 1 := ev_90.trans (by decide +kernel)
  refine va_sld X.1 X.2.1 hX hbl hbA hwM.2.2 (vp_in_iff.mpr (by decide +kernel)) dL_law_872 ?_
  refine k_i (rm := { frames := 5, cells := 0, slots := 0, locals := 200 }) (av := [.ref mo, .int (xs (Int32.toNatClampNeg 1))]) X hwM (va_runV (As := [.int (xs (Int32.toNatClampNeg 1))]) (rest := [.int (rr_863)]) (cfix X) (c_X12_cut l G cy SM _ mo (xs (Int32.toNatClampNeg 1)) hFM) (cwV 1 X.2.2.2.1 gk_X12_cut rfl rfl rfl (by decide +kernel) ⟨Nat.le_of_ble_eq_true rfl, Nat.le_of_ble_eq_true rfl⟩) (pre_V X hwM _ hFM.1 (by decide) rfl) rfl rfl hl.1 rfl (lv_room (Nat.le_of_ble_eq_true rfl)) dL_law_873 ⟨Nat.le_of_ble_eq_true rfl, Nat.le_of_ble_eq_true rfl⟩) 173 193079 (Nat.le_of_ble_eq_true rfl) (Nat.le_of_ble_eq_true rfl) (fun rr_873 S2 H locs hp_873 hw2 hfr hnw => ?_)
  have hwM := hw2
  refine lv_icmp_eq (tgt := 1561) X.1 X.2.1 dL_law_876 (by decide) (fun c_876 => ?_) (fun c_876 => absurd (hp_863.trans hp_873.symm) c_876)
  refine lv_iinc (v := 6) (lv' := [(4, .int 6), (3, .ref outq), (2, .ref mo), (1, .ref x), (0, .ref b)]) X.1 X.2.1 dL_law_1561 hl (k := 0) rfl (by decide) (by decide) rfl (fun ls hl => ?_)
  refine lv_goto (tgt := 23) X.1 X.2.1 dL_law_1564 (by decide) ?_
  refine lv_iload X.1 X.2.1 dL_law_23 (lv_at hl 0 rfl) ?_
  refine lv_aload_n X.1 X.2.1 dL_law_25 rfl (lv_at hl 4 rfl) ?_
  refine va_slen X.1 X.2.1 hX hbl hbA hwM.2.2 dL_law_26 ?_
  refine lv_topi (fun lv_26 elv_26 => ?_)
  obtain rfl : lv_26 = 6 := elv_26.trans (by decide +kernel)
  refine lv_bipush (v := 6) X.1 X.2.1 dL_law_27 (by decide) ?_
  refine lv_isub X.1 X.2.1 dL_law_29 ?_
  refine lv_topi (fun v_91 ev_91 => ?_)
  obtain rfl : v_91 = 0 := ev_91.trans (by decide +kernel)
  refine lv_icmp_gt (tgt := 1567) X.1 X.2.1 dL_law_30 (by decide) (fun c_30 => ?_) (fun c_30 => absurd c_30 (by decide))
  refine lv_iconst (v := 1) X.1 X.2.1 dL_law_1567 (by decide) ?_
  refine va_forget (fun q hq => hwM.2.2.2.2 q hq) ?_
  refine W.widen (k := 600002) (n := 7302232) (Nat.le_of_ble_eq_true rfl) (Nat.le_of_ble_eq_true rfl) ?_
  exact lw_ret X.1 X.2.1 hr hlocks dL_law_1568
