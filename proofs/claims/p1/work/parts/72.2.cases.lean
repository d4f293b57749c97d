set_option maxHeartbeats 8000000 in
set_option maxRecDepth 100000 in
theorem lc_15 {p : Program} {l : Launch} {e : Env} {s : State} {m : MethodId} {below : List Frame} {meth : Method} {c : Code} (hst : l.stackTraces = false) {b x mo outq : Nat} {xs : Nat → Int32} {G : va_G} {cy : Nat → ClassId} (X : Cx p c cL_law 7 s #[Value.ref b] lw_tbl RL m G cy (fun q : Nat => s.heap.size ≤ q)) (hr : meth.sig.returnType = ret) (hlocks : meth.locks = false) (hX : va_X b 6 xs s s.heap) (hbl : b < s.heap.size) (hbA : ¬ (fun q : Nat => s.heap.size ≤ q) b) (hZ : Zs (fun q : Nat => s.heap.size ≤ q) s s.heap) (sa_L_fineness sa_L_in : Nat) (hStr_L_fineness : vk_R RX11 104 "there is no such place of a cocoon" sa_L_fineness s) (hStr_L_in : vk_R RX11 221 "there is no such cocoon in a pot" sa_L_in s) (hdc : ∀ Y ∈ DcL, va_Nw (.declares (Bundle.initS Y)) s) {SX SM : PS} {H : Heap} {locs : List Loc} {ls : Array Slot} (hwX : Wd G cy (fun q : Nat => s.heap.size ≤ q) s.heap SX H locs) (hwM : Wd G cy (fun q : Nat => s.heap.size ≤ q) s.heap SM H locs) (hdM : ∀ q ∈ pL SM, q ∉ pL SX) (hFX : FX SX x) (hFM : FM SM mo) (hl : lv_has ls 7 [(4, .int 0), (3, .ref outq), (2, .ref mo), (1, .ref x), (0, .ref b)]) : W p l e room_1 s m #[Value.ref b] below meth c H locs 173 193079 (lw_Z below #[Value.ref b] s) (F0 m 881 ls []) := by
  refine lv_aload_n X.1 X.2.1 dL_law_881 rfl (lv_at hl 3 rfl) ?_
  refine lv_aload_n X.1 X.2.1 dL_law_882 rfl (lv_at hl 4 rfl) ?_
  refine lv_iload X.1 X.2.1 dL_law_883 (lv_at hl 0 rfl) ?_
  refine lv_iconst (v := 1) X.1 X.2.1 dL_law_885 (by decide) ?_
  refine lv_iadd X.1 X.2.1 dL_law_886 ?_
  refine lv_topi (fun v_92 ev_92 => ?_)
  obtain rfl : v_92 = 1 := ev_92.trans (by decide +kernel)
  refine va_sld X.1 X.2.1 hX hbl hbA hwM.2.2 (vp_in_iff.mpr (by decide +kernel)) dL_law_887 ?_
  refine lv_aload_n X.1 X.2.1 dL_law_888 rfl (lv_at hl 4 rfl) ?_
  refine lv_iload X.1 X.2.1 dL_law_889 (lv_at hl 0 rfl) ?_
  refine lv_iconst (v := 2) X.1 X.2.1 dL_law_891 (by decide) ?_
  refine lv_iadd X.1 X.2.1 dL_law_892 ?_
  refine lv_topi (fun v_93 ev_93 => ?_)
  obtain rfl : v_93 = 2 := ev_93.trans (by decide +kernel)
  refine va_sld X.1 X.2.1 hX hbl hbA hwM.2.2 (vp_in_iff.mpr (by decide +kernel)) dL_law_893 ?_
  refine k_i (rm := { frames := 4, cells := 0, slots := 0, locals := 160 }) (av := [.ref x, .int (xs (Int32.toNatClampNeg 1)), .int (xs (Int32.toNatClampNeg 2))]) X hwX (va_runV (As := [.int (xs (Int32.toNatClampNeg 1)), .int (xs (Int32.toNatClampNeg 2))]) (rest := []) (cfix X) (c_X11_skein l G cy SX _ x (xs (Int32.toNatClampNeg 1)) (xs (Int32.toNatClampNeg 2)) hFX) (cwV 2 X.2.2.2.1 gk_X11_skein rfl rfl rfl (by decide +kernel) ⟨Nat.le_of_ble_eq_true rfl, Nat.le_of_ble_eq_true rfl⟩) (pre_V X hwX _ hFX.1 (by decide) rfl) rfl rfl hl.1 rfl (lv_room (Nat.le_of_ble_eq_true rfl)) dL_law_894 ⟨Nat.le_of_ble_eq_true rfl, Nat.le_of_ble_eq_true rfl⟩) 173 193079 (Nat.le_of_ble_eq_true rfl) (Nat.le_of_ble_eq_true rfl) (fun rr_894 S2 H locs hp_894 hw2 hfr hnw => ?_)
  have hwM := Wd_keep hwM hfr hdM hw2.2.2
  clear hwX
  refine lv_aload_n X.1 X.2.1 dL_law_897 rfl (lv_at hl 2 rfl) ?_
  refine lv_aload_n X.1 X.2.1 dL_law_898 rfl (lv_at hl 4 rfl) ?_
  refine lv_iload X.1 X.2.1 dL_law_899 (lv_at hl 0 rfl) ?_
  refine lv_iconst (v := 1) X.1 X.2.1 dL_law_901 (by decide) ?_
  refine lv_iadd X.1 X.2.1 dL_law_902 ?_
  refine lv_topi (fun v_94 ev_94 => ?_)
  obtain rfl : v_94 = 1 := ev_94.trans (by decide +kernel)
  refine va_sld X.1 X.2.1 hX hbl hbA hwM.2.2 (vp_in_iff.mpr (by decide +kernel)) dL_law_903 ?_
  refine lv_aload_n X.1 X.2.1 dL_law_904 rfl (lv_at hl 4 rfl) ?_
  refine lv_iload X.1 X.2.1 dL_law_905 (lv_at hl 0 rfl) ?_
  refine lv_iconst (v := 2) X.1 X.2.1 dL_law_907 (by decide) ?_
  refine lv_iadd X.1 X.2.1 dL_law_908 ?_
  refine lv_topi (fun v_95 ev_95 => ?_)
  obtain rfl : v_95 = 2 := ev_95.trans (by decide +kernel)
  refine va_sld X.1 X.2.1 hX hbl hbA hwM.2.2 (vp_in_iff.mpr (by decide +kernel)) dL_law_909 ?_
  refine k_i (rm := { frames := 5, cells := 0, slots := 0, locals := 200 }) (av := [.ref mo, .int (xs (Int32.toNatClampNeg 1)), .int (xs (Int32.toNatClampNeg 2))]) X hwM (va_runV (As := [.int (xs (Int32.toNatClampNeg 1)), .int (xs (Int32.toNatClampNeg 2))]) (rest := [.int (rr_894)]) (cfix X) (c_X12_skein l G cy SM _ mo (xs (Int32.toNatClampNeg 1)) (xs (Int32.toNatClampNeg 2)) hFM) (cwV 2 X.2.2.2.1 gk_X12_skein rfl rfl rfl (by decide +kernel) ⟨Nat.le_of_ble_eq_true rfl, Nat.le_of_ble_eq_true rfl⟩) (pre_V X hwM _ hFM.1 (by decide) rfl) rfl rfl hl.1 rfl (lv_room (Nat.le_of_ble_eq_true rfl)) dL_law_910 ⟨Nat.le_of_ble_eq_true rfl, Nat.le_of_ble_eq_true rfl⟩) 173 193079 (Nat.le_of_ble_eq_true rfl) (Nat.le_of_ble_eq_true rfl) (fun rr_910 S2 H locs hp_910 hw2 hfr hnw => ?_)
  have hwM := hw2
  refine lv_icmp_eq (tgt := 1561) X.1 X.2.1 dL_law_913 (by decide) (fun c_913 => ?_) (fun c_913 => absurd (hp_894.trans hp_910.symm) c_913)
  refine lv_iinc (v := 6) (lv' := [(4, .int 6), (3, .ref outq), (2, .ref mo), (1, .ref x), (0, .ref b)]) X.1 X.2.1 dL_law_1561 hl (k := 0) rfl (by decide) (by decide) rfl (fun ls hl => ?_)
  refine lv_goto (tgt := 23) X.1 X.2.1 dL_law_1564 (by decide) ?_
  refine lv_iload X.1 X.2.1 dL_law_23 (lv_at hl 0 rfl) ?_
  refine lv_aload_n X.1 X.2.1 dL_law_25 rfl (lv_at hl 4 rfl) ?_
  refine va_slen X.1 X.2.1 hX hbl hbA hwM.2.2 dL_law_26 ?_
  refine lv_topi (fun lv_26 elv_26 => ?_)
  obtain rfl : lv_26 = 6 := elv_26.trans (by decide +kernel)
  refine lv_bipush (v := 6) X.1 X.2.1 dL_law_27 (by decide) ?_
  refine lv_isub X.1 X.2.1 dL_law_29 ?_
  refine lv_topi (fun v_96 ev_96 => ?_)
  obtain rfl : v_96 = 0 := ev_96.trans (by decide +kernel)
  refine lv_icmp_gt (tgt := 1567) X.1 X.2.1 dL_law_30 (by decide) (fun c_30 => ?_) (fun c_30 => absurd c_30 (by decide))
  refine lv_iconst (v := 1) X.1 X.2.1 dL_law_1567 (by decide) ?_
  refine va_forget (fun q hq => hwM.2.2.2.2 q hq) ?_
  refine W.widen (k := 600002) (n := 7302232) (Nat.le_of_ble_eq_true rfl) (Nat.le_of_ble_eq_true rfl) ?_
  exact lw_ret X.1 X.2.1 hr hlocks dL_law_1568
set_option maxHeartbeats 8000000 in
set_option maxRecDepth 100000 in
theorem lc_16 {p : Program} {l : Launch} {e : Env} {s : State} {m : MethodId} {below : List Frame} {meth : Method} {c : Code} (hst : l.stackTraces = false) {b x mo outq : Nat} {xs : Nat → Int32} {G : va_G} {cy : Nat → ClassId} (X : Cx p c cL_law 7 s #[Value.ref b] lw_tbl RL m G cy (fun q : Nat => s.heap.size ≤ q)) (hr : meth.sig.returnType = ret) (hlocks : meth.locks = false) (hX : va_X b 6 xs s s.heap) (hbl : b < s.heap.size) (hbA : ¬ (fun q : Nat => s.heap.size ≤ q) b) (hZ : Zs (fun q : Nat => s.heap.size ≤ q) s s.heap) (sa_L_fineness sa_L_in : Nat) (hStr_L_fineness : vk_R RX11 104 "there is no such place of a cocoon" sa_L_fineness s) (hStr_L_in : vk_R RX11 221 "there is no such cocoon in a pot" sa_L_in s) (hdc : ∀ Y ∈ DcL, va_Nw (.declares (Bundle.initS Y)) s) {SX SM : PS} {H : Heap} {locs : List Loc} {ls : Array Slot} (hwX : Wd G cy (fun q : Nat => s.heap.size ≤ q) s.heap SX H locs) (hwM : Wd G cy (fun q : Nat => s.heap.size ≤ q) s.heap SM H locs) (hdM : ∀ q ∈ pL SM, q ∉ pL SX) (hFX : FX SX x) (hFM : FM SM mo) (hl : lv_has ls 7 [(4, .int 0), (3, .ref outq), (2, .ref mo), (1, .ref x), (0, .ref b)]) : W p l e room_1 s m #[Value.ref b] below meth c H locs 173 193079 (lw_Z below #[Value.ref b] s) (F0 m 918 ls []) := by
  refine lv_aload_n X.1 X.2.1 dL_law_918 rfl (lv_at hl 3 rfl) ?_
  refine lv_aload_n X.1 X.2.1 dL_law_919 rfl (lv_at hl 4 rfl) ?_
  refine lv_iload X.1 X.2.1 dL_law_920 (lv_at hl 0 rfl) ?_
  refine lv_iconst (v := 1) X.1 X.2.1 dL_law_922 (by decide) ?_
  refine lv_iadd X.1 X.2.1 dL_law_923 ?_
  refine lv_topi (fun v_97 ev_97 => ?_)
  obtain rfl : v_97 = 1 := ev_97.trans (by decide +kernel)
  refine va_sld X.1 X.2.1 hX hbl hbA hwM.2.2 (vp_in_iff.mpr (by decide +kernel)) dL_law_924 ?_
  refine lv_aload_n X.1 X.2.1 dL_law_925 rfl (lv_at hl 4 rfl) ?_
  refine lv_iload X.1 X.2.1 dL_law_926 (lv_at hl 0 rfl) ?_
  refine lv_iconst (v := 2) X.1 X.2.1 dL_law_928 (by decide) ?_
  refine lv_iadd X.1 X.2.1 dL_law_929 ?_
  refine lv_topi (fun v_98 ev_98 => ?_)
  obtain rfl : v_98 = 2 := ev_98.trans (by decide +kernel)
  refine va_sld X.1 X.2.1 hX hbl hbA hwM.2.2 (vp_in_iff.mpr (by decide +kernel)) dL_law_930 ?_
  refine lv_aload_n X.1 X.2.1 dL_law_931 rfl (lv_at hl 4 rfl) ?_
  refine lv_iload X.1 X.2.1 dL_law_932 (lv_at hl 0 rfl) ?_
  refine lv_iconst (v := 3) X.1 X.2.1 dL_law_934 (by decide) ?_
  refine lv_iadd X.1 X.2.1 dL_law_935 ?_
  refine lv_topi (fun v_99 ev_99 => ?_)
  obtain rfl : v_99 = 3 := ev_99.trans (by decide +kernel)
  refine va_sld X.1 X.2.1 hX hbl hbA hwM.2.2 (vp_in_iff.mpr (by decide +kernel)) dL_law_936 ?_
  refine k_i (rm := { frames := 4, cells := 0, slots := 0, locals := 160 }) (av := [.ref x, .int (xs (Int32.toNatClampNeg 1)), .int (xs (Int32.toNatClampNeg 2)), .int (xs (Int32.toNatClampNeg 3))]) X hwX (va_runV (As := [.int (xs (Int32.toNatClampNeg 1)), .int (xs (Int32.toNatClampNeg 2)), .int (xs (Int32.toNatClampNeg 3))]) (rest := []) (cfix X) (c_X11_metre l G cy SX _ x (xs (Int32.toNatClampNeg 1)) (xs (Int32.toNatClampNeg 2)) (xs (Int32.toNatClampNeg 3)) hFX) (cwV 3 X.2.2.2.1 gk_X11_metre rfl rfl rfl (by decide +kernel) ⟨Nat.le_of_ble_eq_true rfl, Nat.le_of_ble_eq_true rfl⟩) (pre_V X hwX _ hFX.1 (by decide) rfl) rfl rfl hl.1 rfl (lv_room (Nat.le_of_ble_eq_true rfl)) dL_law_937 ⟨Nat.le_of_ble_eq_true rfl, Nat.le_of_ble_eq_true rfl⟩) 173 193079 (Nat.le_of_ble_eq_true rfl) (Nat.le_of_ble_eq_true rfl) (fun rr_937 S2 H locs hp_937 hw2 hfr hnw => ?_)
  have hwM := Wd_keep hwM hfr hdM hw2.2.2
  clear hwX
  refine lv_aload_n X.1 X.2.1 dL_law_940 rfl (lv_at hl 2 rfl) ?_
  refine lv_aload_n X.1 X.2.1 dL_law_941 rfl (lv_at hl 4 rfl) ?_
  refine lv_iload X.1 X.2.1 dL_law_942 (lv_at hl 0 rfl) ?_
  refine lv_iconst (v := 1) X.1 X.2.1 dL_law_944 (by decide) ?_
  refine lv_iadd X.1 X.2.1 dL_law_945 ?_
  refine lv_topi (fun v_100 ev_100 => ?_)
  obtain rfl : v_100 = 1 := ev_100.trans (by decide +kernel)
  refine va_sld X.1 X.2.1 hX hbl hbA hwM.2.2 (vp_in_iff.mpr (by decide +kernel)) dL_law_946 ?_
  refine lv_aload_n X.1 X.2.1 dL_law_947 rfl (lv_at hl 4 rfl) ?_
  refine lv_iload X.1 X.2.1 dL_law_948 (lv_at hl 0 rfl) ?_
  refine lv_iconst (v := 2) X.1 X.2.1 dL_law_950 (by decide) ?_
  refine lv_iadd X.1 X.2.1 dL_law_951 ?_
  refine lv_topi (fun v_101 ev_101 => ?_)
  obtain rfl : v_101 = 2 := ev_101.trans (by decide +kernel)
  refine va_sld X.1 X.2.1 hX hbl hbA hwM.2.2 (vp_in_iff.mpr (by decide +kernel)) dL_law_952 ?_
  refine lv_aload_n X.1 X.2.1 dL_law_953 rfl (lv_at hl 4 rfl) ?_
  refine lv_iload X.1 X.2.1 dL_law_954 (lv_at hl 0 rfl) ?_
  refine lv_iconst (v := 3) X.1 X.2.1 dL_law_956 (by decide) ?_
  refine lv_iadd X.1 X.2.1 dL_law_957 ?_
  refine lv_topi (fun v_102 ev_102 => ?_)
  obtain rfl : v_102 = 3 := ev_102.trans (by decide +kernel)
  refine va_sld X.1 X.2.1 hX hbl hbA hwM.2.2 (vp_in_iff.mpr (by decide +kernel)) dL_law_958 ?_
  refine k_i (rm := { frames := 5, cells := 0, slots := 0, locals := 200 }) (av := [.ref mo, .int (xs (Int32.toNatClampNeg 1)), .int (xs (Int32.toNatClampNeg 2)), .int (xs (Int32.toNatClampNeg 3))]) X hwM (va_runV (As := [.int (xs (Int32.toNatClampNeg 1)), .int (xs (Int32.toNatClampNeg 2)), .int (xs (Int32.toNatClampNeg 3))]) (rest := [.int (rr_937)]) (cfix X) (c_X12_metre l G cy SM _ mo (xs (Int32.toNatClampNeg 1)) (xs (Int32.toNatClampNeg 2)) (xs (Int32.toNatClampNeg 3)) hFM) (cwV 3 X.2.2.2.1 gk_X12_metre rfl rfl rfl (by decide +kernel) ⟨Nat.le_of_ble_eq_true rfl, Nat.le_of_ble_eq_true rfl⟩) (pre_V X hwM _ hFM.1 (by decide) rfl) rfl rfl hl.1 rfl (lv_room (Nat.le_of_ble_eq_true rfl)) dL_law_959 ⟨Nat.le_of_ble_eq_true rfl, Nat.le_of_ble_eq_true rfl⟩) 173 193079 (Nat.le_of_ble_eq_true rfl) (Nat.le_of_ble_eq_true rfl) (fun rr_959 S2 H locs hp_959 hw2 hfr hnw => ?_)
  have hwM := hw2
  refine lv_icmp_eq (tgt := 1561) X.1 X.2.1 dL_law_962 (by decide) (fun c_962 => ?_) (fun c_962 => absurd (hp_937.trans hp_959.symm) c_962)
  refine lv_iinc (v := 6) (lv' := [(4, .int 6), (3, .ref outq), (2, .ref mo), (1, .ref x), (0, .ref b)]) X.1 X.2.1 dL_law_1561 hl (k := 0) rfl (by decide) (by decide) rfl (fun ls hl => ?_)
  refine lv_goto (tgt := 23) X.1 X.2.1 dL_law_1564 (by decide) ?_
  refine lv_iload X.1 X.2.1 dL_law_23 (lv_at hl 0 rfl) ?_
  refine lv_aload_n X.1 X.2.1 dL_law_25 rfl (lv_at hl 4 rfl) ?_
  refine va_slen X.1 X.2.1 hX hbl hbA hwM.2.2 dL_law_26 ?_
  refine lv_topi (fun lv_26 elv_26 => ?_)
  obtain rfl : lv_26 = 6 := elv_26.trans (by decide +kernel)
  refine lv_bipush (v := 6) X.1 X.2.1 dL_law_27 (by decide) ?_
  refine lv_isub X.1 X.2.1 dL_law_29 ?_
  refine lv_topi (fun v_103 ev_103 => ?_)
  obtain rfl : v_103 = 0 := ev_103.trans (by decide +kernel)
  refine lv_icmp_gt (tgt := 1567) X.1 X.2.1 dL_law_30 (by decide) (fun c_30 => ?_) (fun c_30 => absurd c_30 (by decide))
  refine lv_iconst (v := 1) X.1 X.2.1 dL_law_1567 (by decide) ?_
  refine va_forget (fun q hq => hwM.2.2.2.2 q hq) ?_
  refine W.widen (k := 600002) (n := 7302232) (Nat.le_of_ble_eq_true rfl) (Nat.le_of_ble_eq_true rfl) ?_
  exact lw_ret X.1 X.2.1 hr hlocks dL_law_1568
set_option maxHeartbeats 8000000 in
set_option maxRecDepth 100000 in
theorem lc_17 {p : Program} {l : Launch} {e : Env} {s : State} {m : MethodId} {below : List Frame} {meth : Method} {c : Code} (hst : l.stackTraces = false) {b x mo outq : Nat} {xs : Nat → Int32} {G : va_G} {cy : Nat → ClassId} (X : Cx p c cL_law 7 s #[Value.ref b] lw_tbl RL m G cy (fun q : Nat => s.heap.size ≤ q)) (hr : meth.sig.returnType = ret) (hlocks : meth.locks = false) (hX : va_X b 6 xs s s.heap) (hbl : b < s.heap.size) (hbA : ¬ (fun q : Nat => s.heap.size ≤ q) b) (hZ : Zs (fun q : Nat => s.heap.size ≤ q) s s.heap) (sa_L_fineness sa_L_in : Nat) (hStr_L_fineness : vk_R RX11 104 "there is no such place of a cocoon" sa_L_fineness s) (hStr_L_in : vk_R RX11 221 "there is no such cocoon in a pot" sa_L_in s) (hdc : ∀ Y ∈ DcL, va_Nw (.declares (Bundle.initS Y)) s) {SX SM : PS} {H : Heap} {locs : List Loc} {ls : Array Slot} (hwX : Wd G cy (fun q : Nat => s.heap.size ≤ q) s.heap SX H locs) (hwM : Wd G cy (fun q : Nat => s.heap.size ≤ q) s.heap SM H locs) (hdM : ∀ q ∈ pL SM, q ∉ pL SX) (hFX : FX SX x) (hFM : FM SM mo) (hl : lv_has ls 7 [(4, .int 0), (3, .ref outq), (2, .ref mo), (1, .ref x), (0, .ref b)]) : W p l e room_1 s m #[Value.ref b] below meth c H locs 173 193079 (lw_Z below #[Value.ref b] s) (F0 m 967 ls []) := by
  refine lv_aload_n X.1 X.2.1 dL_law_967 rfl (lv_at hl 3 rfl) ?_
  refine lv_aload_n X.1 X.2.1 dL_law_968 rfl (lv_at hl 4 rfl) ?_
  refine lv_iload X.1 X.2.1 dL_law_969 (lv_at hl 0 rfl) ?_
  refine lv_iconst (v := 1) X.1 X.2.1 dL_law_971 (by decide) ?_
  refine lv_iadd X.1 X.2.1 dL_law_972 ?_
  refine lv_topi (fun v_104 ev_104 => ?_)
  obtain rfl : v_104 = 1 := ev_104.trans (by decide +kernel)
  refine va_sld X.1 X.2.1 hX hbl hbA hwM.2.2 (vp_in_iff.mpr (by decide +kernel)) dL_law_973 ?_
  refine lv_aload_n X.1 X.2.1 dL_law_974 rfl (lv_at hl 4 rfl) ?_
  refine lv_iload X.1 X.2.1 dL_law_975 (lv_at hl 0 rfl) ?_
  refine lv_iconst (v := 2) X.1 X.2.1 dL_law_977 (by decide) ?_
  refine lv_iadd X.1 X.2.1 dL_law_978 ?_
  refine lv_topi (fun v_105 ev_105 => ?_)
  obtain rfl : v_105 = 2 := ev_105.trans (by decide +kernel)
  refine va_sld X.1 X.2.1 hX hbl hbA hwM.2.2 (vp_in_iff.mpr (by decide +kernel)) dL_law_979 ?_
  refine lv_aload_n X.1 X.2.1 dL_law_980 rfl (lv_at hl 4 rfl) ?_
  refine lv_iload X.1 X.2.1 dL_law_981 (lv_at hl 0 rfl) ?_
  refine lv_iconst (v := 3) X.1 X.2.1 dL_law_983 (by decide) ?_
  refine lv_iadd X.1 X.2.1 dL_law_984 ?_
  refine lv_topi (fun v_106 ev_106 => ?_)
  obtain rfl : v_106 = 3 := ev_106.trans (by decide +kernel)
  refine va_sld X.1 X.2.1 hX hbl hbA hwM.2.2 (vp_in_iff.mpr (by decide +kernel)) dL_law_985 ?_
  refine k_i (rm := { frames := 4, cells := 0, slots := 0, locals := 160 }) (av := [.ref x, .int (xs (Int32.toNatClampNeg 1)), .int (xs (Int32.toNatClampNeg 2)), .int (xs (Int32.toNatClampNeg 3))]) X hwX (va_runV (As := [.int (xs (Int32.toNatClampNeg 1)), .int (xs (Int32.toNatClampNeg 2)), .int (xs (Int32.toNatClampNeg 3))]) (rest := []) (cfix X) (c_X11_piece l G cy SX _ x (xs (Int32.toNatClampNeg 1)) (xs (Int32.toNatClampNeg 2)) (xs (Int32.toNatClampNeg 3)) hFX) (cwV 3 X.2.2.2.1 gk_X11_piece rfl rfl rfl (by decide +kernel) ⟨Nat.le_of_ble_eq_true rfl, Nat.le_of_ble_eq_true rfl⟩) (pre_V X hwX _ hFX.1 (by decide) rfl) rfl rfl hl.1 rfl (lv_room (Nat.le_of_ble_eq_true rfl)) dL_law_986 ⟨Nat.le_of_ble_eq_true rfl, Nat.le_of_ble_eq_true rfl⟩) 173 193079 (Nat.le_of_ble_eq_true rfl) (Nat.le_of_ble_eq_true rfl) (fun rr_986 S2 H locs hp_986 hw2 hfr hnw => ?_)
  have hwM := Wd_keep hwM hfr hdM hw2.2.2
  clear hwX
  refine lv_aload_n X.1 X.2.1 dL_law_989 rfl (lv_at hl 2 rfl) ?_
  refine lv_aload_n X.1 X.2.1 dL_law_990 rfl (lv_at hl 4 rfl) ?_
  refine lv_iload X.1 X.2.1 dL_law_991 (lv_at hl 0 rfl) ?_
  refine lv_iconst (v := 1) X.1 X.2.1 dL_law_993 (by decide) ?_
  refine lv_iadd X.1 X.2.1 dL_law_994 ?_
  refine lv_topi (fun v_107 ev_107 => ?_)
  obtain rfl : v_107 = 1 := ev_107.trans (by decide +kernel)
  refine va_sld X.1 X.2.1 hX hbl hbA hwM.2.2 (vp_in_iff.mpr (by decide +kernel)) dL_law_995 ?_
  refine lv_aload_n X.1 X.2.1 dL_law_996 rfl (lv_at hl 4 rfl) ?_
  refine lv_iload X.1 X.2.1 dL_law_997 (lv_at hl 0 rfl) ?_
  refine lv_iconst (v := 2) X.1 X.2.1 dL_law_999 (by decide) ?_
  refine lv_iadd X.1 X.2.1 dL_law_1000 ?_
  refine lv_topi (fun v_108 ev_108 => ?_)
  obtain rfl : v_108 = 2 := ev_108.trans (by decide +kernel)
  refine va_sld X.1 X.2.1 hX hbl hbA hwM.2.2 (vp_in_iff.mpr (by decide +kernel)) dL_law_1001 ?_
  refine lv_aload_n X.1 X.2.1 dL_law_1002 rfl (lv_at hl 4 rfl) ?_
  refine lv_iload X.1 X.2.1 dL_law_1003 (lv_at hl 0 rfl) ?_
  refine lv_iconst (v := 3) X.1 X.2.1 dL_law_1005 (by decide) ?_
  refine lv_iadd X.1 X.2.1 dL_law_1006 ?_
  refine lv_topi (fun v_109 ev_109 => ?_)
  obtain rfl : v_109 = 3 := ev_109.trans (by decide +kernel)
  refine va_sld X.1 X.2.1 hX hbl hbA hwM.2.2 (vp_in_iff.mpr (by decide +kernel)) dL_law_1007 ?_
  refine k_i (rm := { frames := 5, cells := 0, slots := 0, locals := 200 }) (av := [.ref mo, .int (xs (Int32.toNatClampNeg 1)), .int (xs (Int32.toNatClampNeg 2)), .int (xs (Int32.toNatClampNeg 3))]) X hwM (va_runV (As := [.int (xs (Int32.toNatClampNeg 1)), .int (xs (Int32.toNatClampNeg 2)), .int (xs (Int32.toNatClampNeg 3))]) (rest := [.int (rr_986)]) (cfix X) (c_X12_piece l G cy SM _ mo (xs (Int32.toNatClampNeg 1)) (xs (Int32.toNatClampNeg 2)) (xs (Int32.toNatClampNeg 3)) hFM) (cwV 3 X.2.2.2.1 gk_X12_piece rfl rfl rfl (by decide +kernel) ⟨Nat.le_of_ble_eq_true rfl, Nat.le_of_ble_eq_true rfl⟩) (pre_V X hwM _ hFM.1 (by decide) rfl) rfl rfl hl.1 rfl (lv_room (Nat.le_of_ble_eq_true rfl)) dL_law_1008 ⟨Nat.le_of_ble_eq_true rfl, Nat.le_of_ble_eq_true rfl⟩) 173 193079 (Nat.le_of_ble_eq_true rfl) (Nat.le_of_ble_eq_true rfl) (fun rr_1008 S2 H locs hp_1008 hw2 hfr hnw => ?_)
  have hwM := hw2
  refine lv_icmp_eq (tgt := 1561) X.1 X.2.1 dL_law_1011 (by decide) (fun c_1011 => ?_) (fun c_1011 => absurd (hp_986.trans hp_1008.symm) c_1011)
  refine lv_iinc (v := 6) (lv' := [(4, .int 6), (3, .ref outq), (2, .ref mo), (1, .ref x), (0, .ref b)]) X.1 X.2.1 dL_law_1561 hl (k := 0) rfl (by decide) (by decide) rfl (fun ls hl => ?_)
  refine lv_goto (tgt := 23) X.1 X.2.1 dL_law_1564 (by decide) ?_
  refine lv_iload X.1 X.2.1 dL_law_23 (lv_at hl 0 rfl) ?_
  refine lv_aload_n X.1 X.2.1 dL_law_25 rfl (lv_at hl 4 rfl) ?_
  refine va_slen X.1 X.2.1 hX hbl hbA hwM.2.2 dL_law_26 ?_
  refine lv_topi (fun lv_26 elv_26 => ?_)
  obtain rfl : lv_26 = 6 := elv_26.trans (by decide +kernel)
  refine lv_bipush (v := 6) X.1 X.2.1 dL_law_27 (by decide) ?_
  refine lv_isub X.1 X.2.1 dL_law_29 ?_
  refine lv_topi (fun v_110 ev_110 => ?_)
  obtain rfl : v_110 = 0 := ev_110.trans (by decide +kernel)
  refine lv_icmp_gt (tgt := 1567) X.1 X.2.1 dL_law_30 (by decide) (fun c_30 => ?_) (fun c_30 => absurd c_30 (by decide))
  refine lv_iconst (v := 1) X.1 X.2.1 dL_law_1567 (by decide) ?_
  refine va_forget (fun q hq => hwM.2.2.2.2 q hq) ?_
  refine W.widen (k := 600002) (n := 7302232) (Nat.le_of_ble_eq_true rfl) (Nat.le_of_ble_eq_true rfl) ?_
  exact lw_ret X.1 X.2.1 hr hlocks dL_law_1568
set_option maxHeartbeats 8000000 in
set_option maxRecDepth 100000 in
theorem lc_18 {p : Program} {l : Launch} {e : Env} {s : State} {m : MethodId} {below : List Frame} {meth : Method} {c : Code} (hst : l.stackTraces = false) {b x mo outq : Nat} {xs : Nat → Int32} {G : va_G} {cy : Nat → ClassId} (X : Cx p c cL_law 7 s #[Value.ref b] lw_tbl RL m G cy (fun q : Nat => s.heap.size ≤ q)) (hr : meth.sig.returnType = ret) (hlocks : meth.locks = false) (hX : va_X b 6 xs s s.heap) (hbl : b < s.heap.size) (hbA : ¬ (fun q : Nat => s.heap.size ≤ q) b) (hZ : Zs (fun q : Nat => s.heap.size ≤ q) s s.heap) (sa_L_fineness sa_L_in : Nat) (hStr_L_fineness : vk_R RX11 104 "there is no such place of a cocoon" sa_L_fineness s) (hStr_L_in : vk_R RX11 221 "there is no such cocoon in a pot" sa_L_in s) (hdc : ∀ Y ∈ DcL, va_Nw (.declares (Bundle.initS Y)) s) {SX SM : PS} {H : Heap} {locs : List Loc} {ls : Array Slot} (hwX : Wd G cy (fun q : Nat => s.heap.size ≤ q) s.heap SX H locs) (hwM : Wd G cy (fun q : Nat => s.heap.size ≤ q) s.heap SM H locs) (hdM : ∀ q ∈ pL SM, q ∉ pL SX) (hFX : FX SX x) (hFM : FM SM mo) (hl : lv_has ls 7 [(4, .int 0), (3, .ref outq), (2, .ref mo), (1, .ref x), (0, .ref b)]) : W p l e room_1 s m #[Value.ref b] below meth c H locs 173 193079 (lw_Z below #[Value.ref b] s) (F0 m 1016 ls []) := by
  refine lv_aload_n X.1 X.2.1 dL_law_1016 rfl (lv_at hl 3 rfl) ?_
  refine lv_aload_n X.1 X.2.1 dL_law_1017 rfl (lv_at hl 4 rfl) ?_
  refine lv_iload X.1 X.2.1 dL_law_1018 (lv_at hl 0 rfl) ?_
  refine lv_iconst (v := 1) X.1 X.2.1 dL_law_1020 (by decide) ?_
  refine lv_iadd X.1 X.2.1 dL_law_1021 ?_
  refine lv_topi (fun v_111 ev_111 => ?_)
  obtain rfl : v_111 = 1 := ev_111.trans (by decide +kernel)
  refine va_sld X.1 X.2.1 hX hbl hbA hwM.2.2 (vp_in_iff.mpr (by decide +kernel)) dL_law_1022 ?_
  refine lv_aload_n X.1 X.2.1 dL_law_1023 rfl (lv_at hl 4 rfl) ?_
  refine lv_iload X.1 X.2.1 dL_law_1024 (lv_at hl 0 rfl) ?_
  refine lv_iconst (v := 2) X.1 X.2.1 dL_law_1026 (by decide) ?_
  refine lv_iadd X.1 X.2.1 dL_law_1027 ?_
  refine lv_topi (fun v_112 ev_112 => ?_)
  obtain rfl : v_112 = 2 := ev_112.trans (by decide +kernel)
  refine va_sld X.1 X.2.1 hX hbl hbA hwM.2.2 (vp_in_iff.mpr (by decide +kernel)) dL_law_1028 ?_
  refine lv_aload_n X.1 X.2.1 dL_law_1029 rfl (lv_at hl 4 rfl) ?_
  refine lv_iload X.1 X.2.1 dL_law_1030 (lv_at hl 0 rfl) ?_
  refine lv_iconst (v := 3) X.1 X.2.1 dL_law_1032 (by decide) ?_
  refine lv_iadd X.1 X.2.1 dL_law_1033 ?_
  refine lv_topi (fun v_113 ev_113 => ?_)
  obtain rfl : v_113 = 3 := ev_113.trans (by decide +kernel)
  refine va_sld X.1 X.2.1 hX hbl hbA hwM.2.2 (vp_in_iff.mpr (by decide +kernel)) dL_law_1034 ?_
  refine k_i (rm := { frames := 4, cells := 0, slots := 0, locals := 160 }) (av := [.ref x, .int (xs (Int32.toNatClampNeg 1)), .int (xs (Int32.toNatClampNeg 2)), .int (xs (Int32.toNatClampNeg 3))]) X hwX (va_runV (As := [.int (xs (Int32.toNatClampNeg 1)), .int (xs (Int32.toNatClampNeg 2)), .int (xs (Int32.toNatClampNeg 3))]) (rest := []) (cfix X) (c_X11_grade l G cy SX _ x (xs (Int32.toNatClampNeg 1)) (xs (Int32.toNatClampNeg 2)) (xs (Int32.toNatClampNeg 3)) hFX) (cwV 3 X.2.2.2.1 gk_X11_grade rfl rfl rfl (by decide +kernel) ⟨Nat.le_of_ble_eq_true rfl, Nat.le_of_ble_eq_true rfl⟩) (pre_V X hwX _ hFX.1 (by decide) rfl) rfl rfl hl.1 rfl (lv_room (Nat.le_of_ble_eq_true rfl)) dL_law_1035 ⟨Nat.le_of_ble_eq_true rfl, Nat.le_of_ble_eq_true rfl⟩) 173 193079 (Nat.le_of_ble_eq_true rfl) (Nat.le_of_ble_eq_true rfl) (fun rr_1035 S2 H locs hp_1035 hw2 hfr hnw => ?_)
  have hwM := Wd_keep hwM hfr hdM hw2.2.2
  clear hwX
  refine lv_aload_n X.1 X.2.1 dL_law_1038 rfl (lv_at hl 2 rfl) ?_
  refine lv_aload_n X.1 X.2.1 dL_law_1039 rfl (lv_at hl 4 rfl) ?_
  refine lv_iload X.1 X.2.1 dL_law_1040 (lv_at hl 0 rfl) ?_
  refine lv_iconst (v := 1) X.1 X.2.1 dL_law_1042 (by decide) ?_
  refine lv_iadd X.1 X.2.1 dL_law_1043 ?_
  refine lv_topi (fun v_114 ev_114 => ?_)
  obtain rfl : v_114 = 1 := ev_114.trans (by decide +kernel)
  refine va_sld X.1 X.2.1 hX hbl hbA hwM.2.2 (vp_in_iff.mpr (by decide +kernel)) dL_law_1044 ?_
  refine lv_aload_n X.1 X.2.1 dL_law_1045 rfl (lv_at hl 4 rfl) ?_
  refine lv_iload X.1 X.2.1 dL_law_1046 (lv_at hl 0 rfl) ?_
  refine lv_iconst (v := 2) X.1 X.2.1 dL_law_1048 (by decide) ?_
  refine lv_iadd X.1 X.2.1 dL_law_1049 ?_
  refine lv_topi (fun v_115 ev_115 => ?_)
  obtain rfl : v_115 = 2 := ev_115.trans (by decide +kernel)
  refine va_sld X.1 X.2.1 hX hbl hbA hwM.2.2 (vp_in_iff.mpr (by decide +kernel)) dL_law_1050 ?_
  refine lv_aload_n X.1 X.2.1 dL_law_1051 rfl (lv_at hl 4 rfl) ?_
  refine lv_iload X.1 X.2.1 dL_law_1052 (lv_at hl 0 rfl) ?_
  refine lv_iconst (v := 3) X.1 X.2.1 dL_law_1054 (by decide) ?_
  refine lv_iadd X.1 X.2.1 dL_law_1055 ?_
  refine lv_topi (fun v_116 ev_116 => ?_)
  obtain rfl : v_116 = 3 := ev_116.trans (by decide +kernel)
  refine va_sld X.1 X.2.1 hX hbl hbA hwM.2.2 (vp_in_iff.mpr (by decide +kernel)) dL_law_1056 ?_
  refine k_i (rm := { frames := 5, cells := 0, slots := 0, locals := 200 }) (av := [.ref mo, .int (xs (Int32.toNatClampNeg 1)), .int (xs (Int32.toNatClampNeg 2)), .int (xs (Int32.toNatClampNeg 3))]) X hwM (va_runV (As := [.int (xs (Int32.toNatClampNeg 1)), .int (xs (Int32.toNatClampNeg 2)), .int (xs (Int32.toNatClampNeg 3))]) (rest := [.int (rr_1035)]) (cfix X) (c_X12_grade l G cy SM _ mo (xs (Int32.toNatClampNeg 1)) (xs (Int32.toNatClampNeg 2)) (xs (Int32.toNatClampNeg 3)) hFM) (cwV 3 X.2.2.2.1 gk_X12_grade rfl rfl rfl (by decide +kernel) ⟨Nat.le_of_ble_eq_true rfl, Nat.le_of_ble_eq_true rfl⟩) (pre_V X hwM _ hFM.1 (by decide) rfl) rfl rfl hl.1 rfl (lv_room (Nat.le_of_ble_eq_true rfl)) dL_law_1057 ⟨Nat.le_of_ble_eq_true rfl, Nat.le_of_ble_eq_true rfl⟩) 173 193079 (Nat.le_of_ble_eq_true rfl) (Nat.le_of_ble_eq_true rfl) (fun rr_1057 S2 H locs hp_1057 hw2 hfr hnw => ?_)
  have hwM := hw2
  refine lv_icmp_eq (tgt := 1561) X.1 X.2.1 dL_law_1060 (by decide) (fun c_1060 => ?_) (fun c_1060 => absurd (hp_1035.trans hp_1057.symm) c_1060)
  refine lv_iinc (v := 6) (lv' := [(4, .int 6), (3, .ref outq), (2, .ref mo), (1, .ref x), (0, .ref b)]) X.1 X.2.1 dL_law_1561 hl (k := 0) rfl (by decide) (by decide) rfl (fun ls hl => ?_)
  refine lv_goto (tgt := 23) X.1 X.2.1 dL_law_1564 (by decide) ?_
  refine lv_iload X.1 X.2.1 dL_law_23 (lv_at hl 0 rfl) ?_
  refine lv_aload_n X.1 X.2.1 dL_law_25 rfl (lv_at hl 4 rfl) ?_
  refine va_slen X.1 X.2.1 hX hbl hbA hwM.2.2 dL_law_26 ?_
  refine lv_topi (fun lv_26 elv_26 => ?_)
  obtain rfl : lv_26 = 6 := elv_26.trans (by decide +kernel)
  refine lv_bipush (v := 6) X.1 X.2.1 dL_law_27 (by decide) ?_
  refine lv_isub X.1 X.2.1 dL_law_29 ?_
  refine lv_topi (fun v_117 ev_117 => ?_)
  obtain rfl : v_117 = 0 := ev_117.trans (by decide +kernel)
  refine lv_icmp_gt (tgt := 1567) X.1 X.2.1 dL_law_30 (by decide) (fun c_30 => ?_) (fun c_30 => absurd c_30 (by decide))
  refine lv_iconst (v := 1) X.1 X.2.1 dL_law_1567 (by decide) ?_
  refine va_forget (fun q hq => hwM.2.2.2.2 q hq) ?_
  refine W.widen (k := 600002) (n := 7302232) (Nat.le_of_ble_eq_true rfl) (Nat.le_of_ble_eq_true rfl) ?_
  exact lw_ret X.1 X.2.1 hr hlocks dL_law_1568
set_option maxHeartbeats 8000000 in
set_option maxRecDepth 100000 in
theorem lc_19 {p : Program} {l : Launch} {e : Env} {s : State} {m : MethodId} {below : List Frame} {meth : Method} {c : Code} (hst : l.stackTraces = false) {b x mo outq : Nat} {xs : Nat → Int32} {G : va_G} {cy : Nat → ClassId} (X : Cx p c cL_law 7 s #[Value.ref b] lw_tbl RL m G cy (fun q : Nat => s.heap.size ≤ q)) (hr : meth.sig.returnType = ret) (hlocks : meth.locks = false) (hX : va_X b 6 xs s s.heap) (hbl : b < s.heap.size) (hbA : ¬ (fun q : Nat => s.heap.size ≤ q) b) (hZ : Zs (fun q : Nat => s.heap.size ≤ q) s s.heap) (sa_L_fineness sa_L_in : Nat) (hStr_L_fineness : vk_R RX11 104 "there is no such place of a cocoon" sa_L_fineness s) (hStr_L_in : vk_R RX11 221 "there is no such cocoon in a pot" sa_L_in s) (hdc : ∀ Y ∈ DcL, va_Nw (.declares (Bundle.initS Y)) s) {SX SM : PS} {H : Heap} {locs : List Loc} {ls : Array Slot} (hwX : Wd G cy (fun q : Nat => s.heap.size ≤ q) s.heap SX H locs) (hwM : Wd G cy (fun q : Nat => s.heap.size ≤ q) s.heap SM H locs) (hdM : ∀ q ∈ pL SM, q ∉ pL SX) (hFX : FX SX x) (hFM : FM SM mo) (hl : lv_has ls 7 [(4, .int 0), (3, .ref outq), (2, .ref mo), (1, .ref x), (0, .ref b)]) : W p l e room_1 s m #[Value.ref b] below meth c H locs 173 193079 (lw_Z below #[Value.ref b] s) (F0 m 1065 ls []) := by
  refine lv_aload_n X.1 X.2.1 dL_law_1065 rfl (lv_at hl 3 rfl) ?_
  refine lv_aload_n X.1 X.2.1 dL_law_1066 rfl (lv_at hl 4 rfl) ?_
  refine lv_iload X.1 X.2.1 dL_law_1067 (lv_at hl 0 rfl) ?_
  refine lv_iconst (v := 1) X.1 X.2.1 dL_law_1069 (by decide) ?_
  refine lv_iadd X.1 X.2.1 dL_law_1070 ?_
  refine lv_topi (fun v_118 ev_118 => ?_)
  obtain rfl : v_118 = 1 := ev_118.trans (by decide +kernel)
  refine va_sld X.1 X.2.1 hX hbl hbA hwM.2.2 (vp_in_iff.mpr (by decide +kernel)) dL_law_1071 ?_
  refine k_i (rm := { frames := 4, cells := 0, slots := 0, locals := 160 }) (av := [.ref x, .int (xs (Int32.toNatClampNeg 1))]) X hwX (va_runV (As := [.int (xs (Int32.toNatClampNeg 1))]) (rest := []) (cfix X) (c_X11_drawn l G cy SX _ x (xs (Int32.toNatClampNeg 1)) hFX) (cwV 1 X.2.2.2.1 gk_X11_drawn rfl rfl rfl (by decide +kernel) ⟨Nat.le_of_ble_eq_true rfl, Nat.le_of_ble_eq_true rfl⟩) (pre_V X hwX _ hFX.1 (by decide) rfl) rfl rfl hl.1 rfl (lv_room (Nat.le_of_ble_eq_true rfl)) dL_law_1072 ⟨Nat.le_of_ble_eq_true rfl, Nat.le_of_ble_eq_true rfl⟩) 173 193079 (Nat.le_of_ble_eq_true rfl) (Nat.le_of_ble_eq_true rfl) (fun rr_1072 S2 H locs hp_1072 hw2 hfr hnw => ?_)
  have hwM := Wd_keep hwM hfr hdM hw2.2.2
  clear hwX
  refine lv_aload_n X.1 X.2.1 dL_law_1075 rfl (lv_at hl 2 rfl) ?_
  refine lv_aload_n X.1 X.2.1 dL_law_1076 rfl (lv_at hl 4 rfl) ?_
  refine lv_iload X.1 X.2.1 dL_law_1077 (lv_at hl 0 rfl) ?_
  refine lv_iconst (v := 1) X.1 X.2.1 dL_law_1079 (by decide) ?_
  refine lv_iadd X.1 X.2.1 dL_law_1080 ?_
  refine lv_topi (fun v_119 ev_119 => ?_)
  obtain rfl : v_119 = 1 := ev_119.trans (by decide +kernel)
  refine va_sld X.1 X.2.1 hX hbl hbA hwM.2.2 (vp_in_iff.mpr (by decide +kernel)) dL_law_1081 ?_
  refine k_i (rm := { frames := 5, cells := 0, slots := 0, locals := 200 }) (av := [.ref mo, .int (xs (Int32.toNatClampNeg 1))]) X hwM (va_runV (As := [.int (xs (Int32.toNatClampNeg 1))]) (rest := [.int (rr_1072)]) (cfix X) (c_X12_drawn l G cy SM _ mo (xs (Int32.toNatClampNeg 1)) hFM) (cwV 1 X.2.2.2.1 gk_X12_drawn rfl rfl rfl (by decide +kernel) ⟨Nat.le_of_ble_eq_true rfl, Nat.le_of_ble_eq_true rfl⟩) (pre_V X hwM _ hFM.1 (by decide) rfl) rfl rfl hl.1 rfl (lv_room (Nat.le_of_ble_eq_true rfl)) dL_law_1082 ⟨Nat.le_of_ble_eq_true rfl, Nat.le_of_ble_eq_true rfl⟩) 173 193079 (Nat.le_of_ble_eq_true rfl) (Nat.le_of_ble_eq_true rfl) (fun rr_1082 S2 H locs hp_1082 hw2 hfr hnw => ?_)
  have hwM := hw2
  refine lv_icmp_eq (tgt := 1561) X.1 X.2.1 dL_law_1085 (by decide) (fun c_1085 => ?_) (fun c_1085 => absurd (hp_1072.trans hp_1082.symm) c_1085)
  refine lv_iinc (v := 6) (lv' := [(4, .int 6), (3, .ref outq), (2, .ref mo), (1, .ref x), (0, .ref b)]) X.1 X.2.1 dL_law_1561 hl (k := 0) rfl (by decide) (by decide) rfl (fun ls hl => ?_)
  refine lv_goto (tgt := 23) X.1 X.2.1 dL_law_1564 (by decide) ?_
  refine lv_iload X.1 X.2.1 dL_law_23 (lv_at hl 0 rfl) ?_
  refine lv_aload_n X.1 X.2.1 dL_law_25 rfl (lv_at hl 4 rfl) ?_
  refine va_slen X.1 X.2.1 hX hbl hbA hwM.2.2 dL_law_26 ?_
  refine lv_topi (fun lv_26 elv_26 => ?_)
  obtain rfl : lv_26 = 6 := elv_26.trans (by decide +kernel)
  refine lv_bipush (v := 6) X.1 X.2.1 dL_law_27 (by decide) ?_
  refine lv_isub X.1 X.2.1 dL_law_29 ?_
  refine lv_topi (fun v_120 ev_120 => ?_)
  obtain rfl : v_120 = 0 := ev_120.trans (by decide +kernel)
  refine lv_icmp_gt (tgt := 1567) X.1 X.2.1 dL_law_30 (by decide) (fun c_30 => ?_) (fun c_30 => absurd c_30 (by decide))
  refine lv_iconst (v := 1) X.1 X.2.1 dL_law_1567 (by decide) ?_
  refine va_forget (fun q hq => hwM.2.2.2.2 q hq) ?_
  refine W.widen (k := 600002) (n := 7302232) (Nat.le_of_ble_eq_true rfl) (Nat.le_of_ble_eq_true rfl) ?_
  exact lw_ret X.1 X.2.1 hr hlocks dL_law_1568
set_option maxHeartbeats 8000000 in
set_option maxRecDepth 100000 in
theorem lc_20 {p : Program} {l : Launch} {e : Env} {s : State} {m : MethodId} {below : List Frame} {meth : Method} {c : Code} (hst : l.stackTraces = false) {b x mo outq : Nat} {xs : Nat → Int32} {G : va_G} {cy : Nat → ClassId} (X : Cx p c cL_law 7 s #[Value.ref b] lw_tbl RL m G cy (fun q : Nat => s.heap.size ≤ q)) (hr : meth.sig.returnType = ret) (hlocks : meth.locks = false) (hX : va_X b 6 xs s s.heap) (hbl : b < s.heap.size) (hbA : ¬ (fun q : Nat => s.heap.size ≤ q) b) (hZ : Zs (fun q : Nat => s.heap.size ≤ q) s s.heap) (sa_L_fineness sa_L_in : Nat) (hStr_L_fineness : vk_R RX11 104 "there is no such place of a cocoon" sa_L_fineness s) (hStr_L_in : vk_R RX11 221 "there is no such cocoon in a pot" sa_L_in s) (hdc : ∀ Y ∈ DcL, va_Nw (.declares (Bundle.initS Y)) s) {SX SM : PS} {H : Heap} {locs : List Loc} {ls : Array Slot} (hwX : Wd G cy (fun q : Nat => s.heap.size ≤ q) s.heap SX H locs) (hwM : Wd G cy (fun q : Nat => s.heap.size ≤ q) s.heap SM H locs) (hdM : ∀ q ∈ pL SM, q ∉ pL SX) (hFX : FX SX x) (hFM : FM SM mo) (hl : lv_has ls 7 [(4, .int 0), (3, .ref outq), (2, .ref mo), (1, .ref x), (0, .ref b)]) : W p l e room_1 s m #[Value.ref b] below meth c H locs 173 193079 (lw_Z below #[Value.ref b] s) (F0 m 1090 ls []) := by
  refine lv_aload_n X.1 X.2.1 dL_law_1090 rfl (lv_at hl 3 rfl) ?_
  refine lv_aload_n X.1 X.2.1 dL_law_1091 rfl (lv_at hl 4 rfl) ?_
  refine lv_iload X.1 X.2.1 dL_law_1092 (lv_at hl 0 rfl) ?_
  refine lv_iconst (v := 1) X.1 X.2.1 dL_law_1094 (by decide) ?_
  refine lv_iadd X.1 X.2.1 dL_law_1095 ?_
  refine lv_topi (fun v_121 ev_121 => ?_)
  obtain rfl : v_121 = 1 := ev_121.trans (by decide +kernel)
  refine va_sld X.1 X.2.1 hX hbl hbA hwM.2.2 (vp_in_iff.mpr (by decide +kernel)) dL_law_1096 ?_
  refine lv_aload_n X.1 X.2.1 dL_law_1097 rfl (lv_at hl 4 rfl) ?_
  refine lv_iload X.1 X.2.1 dL_law_1098 (lv_at hl 0 rfl) ?_
  refine lv_iconst (v := 2) X.1 X.2.1 dL_law_1100 (by decide) ?_
  refine lv_iadd X.1 X.2.1 dL_law_1101 ?_
  refine lv_topi (fun v_122 ev_122 => ?_)
  obtain rfl : v_122 = 2 := ev_122.trans (by decide +kernel)
  refine va_sld X.1 X.2.1 hX hbl hbA hwM.2.2 (vp_in_iff.mpr (by decide +kernel)) dL_law_1102 ?_
  refine lv_aload_n X.1 X.2.1 dL_law_1103 rfl (lv_at hl 4 rfl) ?_
  refine lv_iload X.1 X.2.1 dL_law_1104 (lv_at hl 0 rfl) ?_
  refine lv_iconst (v := 3) X.1 X.2.1 dL_law_1106 (by decide) ?_
  refine lv_iadd X.1 X.2.1 dL_law_1107 ?_
  refine lv_topi (fun v_123 ev_123 => ?_)
  obtain rfl : v_123 = 3 := ev_123.trans (by decide +kernel)
  refine va_sld X.1 X.2.1 hX hbl hbA hwM.2.2 (vp_in_iff.mpr (by decide +kernel)) dL_law_1108 ?_
  refine lv_aload_n X.1 X.2.1 dL_law_1109 rfl (lv_at hl 4 rfl) ?_
  refine lv_iload X.1 X.2.1 dL_law_1110 (lv_at hl 0 rfl) ?_
  refine lv_iconst (v := 4) X.1 X.2.1 dL_law_1112 (by decide) ?_
  refine lv_iadd X.1 X.2.1 dL_law_1113 ?_
  refine lv_topi (fun v_124 ev_124 => ?_)
  obtain rfl : v_124 = 4 := ev_124.trans (by decide +kernel)
  refine va_sld X.1 X.2.1 hX hbl hbA hwM.2.2 (vp_in_iff.mpr (by decide +kernel)) dL_law_1114 ?_
  refine k_i (rm := { frames := 6, cells := 0, slots := 0, locals := 240 }) (av := [.ref x, .int (xs (Int32.toNatClampNeg 1)), .int (xs (Int32.toNatClampNeg 2)), .int (xs (Int32.toNatClampNeg 3)), .int (xs (Int32.toNatClampNeg 4))]) X hwX (va_runV (As := [.int (xs (Int32.toNatClampNeg 1)), .int (xs (Int32.toNatClampNeg 2)), .int (xs (Int32.toNatClampNeg 3)), .int (xs (Int32.toNatClampNeg 4))]) (rest := []) (cfix X) (c_X11_shelve l G cy SX _ x (xs (Int32.toNatClampNeg 1)) (xs (Int32.toNatClampNeg 2)) (xs (Int32.toNatClampNeg 3)) (xs (Int32.toNatClampNeg 4)) hFX) (cwV 4 X.2.2.2.1 gk_X11_shelve rfl rfl rfl (by decide +kernel) ⟨Nat.le_of_ble_eq_true rfl, Nat.le_of_ble_eq_true rfl⟩) (pre_V X hwX _ hFX.1 (by decide) rfl) rfl rfl hl.1 rfl (lv_room (Nat.le_of_ble_eq_true rfl)) dL_law_1115 ⟨Nat.le_of_ble_eq_true rfl, Nat.le_of_ble_eq_true rfl⟩) 173 193079 (Nat.le_of_ble_eq_true rfl) (Nat.le_of_ble_eq_true rfl) (fun rr_1115 S2 H locs hp_1115 hw2 hfr hnw => ?_)
  have hwM := Wd_keep hwM hfr hdM hw2.2.2
  clear hwX
  refine lv_aload_n X.1 X.2.1 dL_law_1118 rfl (lv_at hl 2 rfl) ?_
  refine lv_aload_n X.1 X.2.1 dL_law_1119 rfl (lv_at hl 4 rfl) ?_
  refine lv_iload X.1 X.2.1 dL_law_1120 (lv_at hl 0 rfl) ?_
  refine lv_iconst (v := 1) X.1 X.2.1 dL_law_1122 (by decide) ?_
  refine lv_iadd X.1 X.2.1 dL_law_1123 ?_
  refine lv_topi (fun v_125 ev_125 => ?_)
  obtain rfl : v_125 = 1 := ev_125.trans (by decide +kernel)
  refine va_sld X.1 X.2.1 hX hbl hbA hwM.2.2 (vp_in_iff.mpr (by decide +kernel)) dL_law_1124 ?_
  refine lv_aload_n X.1 X.2.1 dL_law_1125 rfl (lv_at hl 4 rfl) ?_
  refine lv_iload X.1 X.2.1 dL_law_1126 (lv_at hl 0 rfl) ?_
  refine lv_iconst (v := 2) X.1 X.2.1 dL_law_1128 (by decide) ?_
  refine lv_iadd X.1 X.2.1 dL_law_1129 ?_
  refine lv_topi (fun v_126 ev_126 => ?_)
  obtain rfl : v_126 = 2 := ev_126.trans (by decide +kernel)
  refine va_sld X.1 X.2.1 hX hbl hbA hwM.2.2 (vp_in_iff.mpr (by decide +kernel)) dL_law_1130 ?_
  refine lv_aload_n X.1 X.2.1 dL_law_1131 rfl (lv_at hl 4 rfl) ?_
  refine lv_iload X.1 X.2.1 dL_law_1132 (lv_at hl 0 rfl) ?_
  refine lv_iconst (v := 3) X.1 X.2.1 dL_law_1134 (by decide) ?_
  refine lv_iadd X.1 X.2.1 dL_law_1135 ?_
  refine lv_topi (fun v_127 ev_127 => ?_)
  obtain rfl : v_127 = 3 := ev_127.trans (by decide +kernel)
  refine va_sld X.1 X.2.1 hX hbl hbA hwM.2.2 (vp_in_iff.mpr (by decide +kernel)) dL_law_1136 ?_
  refine lv_aload_n X.1 X.2.1 dL_law_1137 rfl (lv_at hl 4 rfl) ?_
  refine lv_iload X.1 X.2.1 dL_law_1138 (lv_at hl 0 rfl) ?_
  refine lv_iconst (v := 4) X.1 X.2.1 dL_law_1140 (by decide) ?_
  refine lv_iadd X.1 X.2.1 dL_law_1141 ?_
  refine lv_topi (fun v_128 ev_128 => ?_)
  obtain rfl : v_128 = 4 := ev_128.trans (by decide +kernel)
  refine va_sld X.1 X.2.1 hX hbl hbA hwM.2.2 (vp_in_iff.mpr (by decide +kernel)) dL_law_1142 ?_
  refine k_i (rm := { frames := 5, cells := 0, slots := 0, locals := 200 }) (av := [.ref mo, .int (xs (Int32.toNatClampNeg 1)), .int (xs (Int32.toNatClampNeg 2)), .int (xs (Int32.toNatClampNeg 3)), .int (xs (Int32.toNatClampNeg 4))]) X hwM (va_runV (As := [.int (xs (Int32.toNatClampNeg 1)), .int (xs (Int32.toNatClampNeg 2)), .int (xs (Int32.toNatClampNeg 3)), .int (xs (Int32.toNatClampNeg 4))]) (rest := [.int (rr_1115)]) (cfix X) (c_X12_shelve l G cy SM _ mo (xs (Int32.toNatClampNeg 1)) (xs (Int32.toNatClampNeg 2)) (xs (Int32.toNatClampNeg 3)) (xs (Int32.toNatClampNeg 4)) hFM) (cwV 4 X.2.2.2.1 gk_X12_shelve rfl rfl rfl (by decide +kernel) ⟨Nat.le_of_ble_eq_true rfl, Nat.le_of_ble_eq_true rfl⟩) (pre_V X hwM _ hFM.1 (by decide) rfl) rfl rfl hl.1 rfl (lv_room (Nat.le_of_ble_eq_true rfl)) dL_law_1143 ⟨Nat.le_of_ble_eq_true rfl, Nat.le_of_ble_eq_true rfl⟩) 173 193079 (Nat.le_of_ble_eq_true rfl) (Nat.le_of_ble_eq_true rfl) (fun rr_1143 S2 H locs hp_1143 hw2 hfr hnw => ?_)
  have hwM := hw2
  refine lv_icmp_eq (tgt := 1561) X.1 X.2.1 dL_law_1146 (by decide) (fun c_1146 => ?_) (fun c_1146 => absurd (hp_1115.trans hp_1143.symm) c_1146)
  refine lv_iinc (v := 6) (lv' := [(4, .int 6), (3, .ref outq), (2, .ref mo), (1, .ref x), (0, .ref b)]) X.1 X.2.1 dL_law_1561 hl (k := 0) rfl (by decide) (by decide) rfl (fun ls hl => ?_)
  refine lv_goto (tgt := 23) X.1 X.2.1 dL_law_1564 (by decide) ?_
  refine lv_iload X.1 X.2.1 dL_law_23 (lv_at hl 0 rfl) ?_
  refine lv_aload_n X.1 X.2.1 dL_law_25 rfl (lv_at hl 4 rfl) ?_
  refine va_slen X.1 X.2.1 hX hbl hbA hwM.2.2 dL_law_26 ?_
  refine lv_topi (fun lv_26 elv_26 => ?_)
  obtain rfl : lv_26 = 6 := elv_26.trans (by decide +kernel)
  refine lv_bipush (v := 6) X.1 X.2.1 dL_law_27 (by decide) ?_
  refine lv_isub X.1 X.2.1 dL_law_29 ?_
  refine lv_topi (fun v_129 ev_129 => ?_)
  obtain rfl : v_129 = 0 := ev_129.trans (by decide +kernel)
  refine lv_icmp_gt (tgt := 1567) X.1 X.2.1 dL_law_30 (by decide) (fun c_30 => ?_) (fun c_30 => absurd c_30 (by decide))
  refine lv_iconst (v := 1) X.1 X.2.1 dL_law_1567 (by decide) ?_
  refine va_forget (fun q hq => hwM.2.2.2.2 q hq) ?_
  refine W.widen (k := 600002) (n := 7302232) (Nat.le_of_ble_eq_true rfl) (Nat.le_of_ble_eq_true rfl) ?_
  exact lw_ret X.1 X.2.1 hr hlocks dL_law_1568
set_option maxHeartbeats 8000000 in
set_option maxRecDepth 100000 in
theorem lc_21 {p : Program} {l : Launch} {e : Env} {s : State} {m : MethodId} {below : List Frame} {meth : Method} {c : Code} (hst : l.stackTraces = false) {b x mo outq : Nat} {xs : Nat → Int32} {G : va_G} {cy : Nat → ClassId} (X : Cx p c cL_law 7 s #[Value.ref b] lw_tbl RL m G cy (fun q : Nat => s.heap.size ≤ q)) (hr : meth.sig.returnType = ret) (hlocks : meth.locks = false) (hX : va_X b 6 xs s s.heap) (hbl : b < s.heap.size) (hbA : ¬ (fun q : Nat => s.heap.size ≤ q) b) (hZ : Zs (fun q : Nat => s.heap.size ≤ q) s s.heap) (sa_L_fineness sa_L_in : Nat) (hStr_L_fineness : vk_R RX11 104 "there is no such place of a cocoon" sa_L_fineness s) (hStr_L_in : vk_R RX11 221 "there is no such cocoon in a pot" sa_L_in s) (hdc : ∀ Y ∈ DcL, va_Nw (.declares (Bundle.initS Y)) s) {SX SM : PS} {H : Heap} {locs : List Loc} {ls : Array Slot} (hwX : Wd G cy (fun q : Nat => s.heap.size ≤ q) s.heap SX H locs) (hwM : Wd G cy (fun q : Nat => s.heap.size ≤ q) s.heap SM H locs) (hdM : ∀ q ∈ pL SM, q ∉ pL SX) (hFX : FX SX x) (hFM : FM SM mo) (hl : lv_has ls 7 [(4, .int 0), (3, .ref outq), (2, .ref mo), (1, .ref x), (0, .ref b)]) : W p l e room_1 s m #[Value.ref b] below meth c H locs 173 193079 (lw_Z below #[Value.ref b] s) (F0 m 1151 ls []) := by
  refine lv_aload_n X.1 X.2.1 dL_law_1151 rfl (lv_at hl 3 rfl) ?_
  refine lv_aload_n X.1 X.2.1 dL_law_1152 rfl (lv_at hl 4 rfl) ?_
  refine lv_iload X.1 X.2.1 dL_law_1153 (lv_at hl 0 rfl) ?_
  refine lv_iconst (v := 1) X.1 X.2.1 dL_law_1155 (by decide) ?_
  refine lv_iadd X.1 X.2.1 dL_law_1156 ?_
  refine lv_topi (fun v_130 ev_130 => ?_)
  obtain rfl : v_130 = 1 := ev_130.trans (by decide +kernel)
  refine va_sld X.1 X.2.1 hX hbl hbA hwM.2.2 (vp_in_iff.mpr (by decide +kernel)) dL_law_1157 ?_
  refine lv_aload_n X.1 X.2.1 dL_law_1158 rfl (lv_at hl 4 rfl) ?_
  refine lv_iload X.1 X.2.1 dL_law_1159 (lv_at hl 0 rfl) ?_
  refine lv_iconst (v := 2) X.1 X.2.1 dL_law_1161 (by decide) ?_
  refine lv_iadd X.1 X.2.1 dL_law_1162 ?_
  refine lv_topi (fun v_131 ev_131 => ?_)
  obtain rfl : v_131 = 2 := ev_131.trans (by decide +kernel)
  refine va_sld X.1 X.2.1 hX hbl hbA hwM.2.2 (vp_in_iff.mpr (by decide +kernel)) dL_law_1163 ?_
  refine k_i (rm := { frames := 4, cells := 0, slots := 0, locals := 160 }) (av := [.ref x, .int (xs (Int32.toNatClampNeg 1)), .int (xs (Int32.toNatClampNeg 2))]) X hwX (va_runV (As := [.int (xs (Int32.toNatClampNeg 1)), .int (xs (Int32.toNatClampNeg 2))]) (rest := []) (cfix X) (c_X11_take l G cy SX _ x (xs (Int32.toNatClampNeg 1)) (xs (Int32.toNatClampNeg 2)) hFX) (cwV 2 X.2.2.2.1 gk_X11_take rfl rfl rfl (by decide +kernel) ⟨Nat.le_of_ble_eq_true rfl, Nat.le_of_ble_eq_true rfl⟩) (pre_V X hwX _ hFX.1 (by decide) rfl) rfl rfl hl.1 rfl (lv_room (Nat.le_of_ble_eq_true rfl)) dL_law_1164 ⟨Nat.le_of_ble_eq_true rfl, Nat.le_of_ble_eq_true rfl⟩) 173 193079 (Nat.le_of_ble_eq_true rfl) (Nat.le_of_ble_eq_true rfl) (fun rr_1164 S2 H locs hp_1164 hw2 hfr hnw => ?_)
  have hwM := Wd_keep hwM hfr hdM hw2.2.2
  clear hwX
  refine lv_aload_n X.1 X.2.1 dL_law_1167 rfl (lv_at hl 2 rfl) ?_
  refine lv_aload_n X.1 X.2.1 dL_law_1168 rfl (lv_at hl 4 rfl) ?_
  refine lv_iload X.1 X.2.1 dL_law_1169 (lv_at hl 0 rfl) ?_
  refine lv_iconst (v := 1) X.1 X.2.1 dL_law_1171 (by decide) ?_
  refine lv_iadd X.1 X.2.1 dL_law_1172 ?_
  refine lv_topi (fun v_132 ev_132 => ?_)
  obtain rfl : v_132 = 1 := ev_132.trans (by decide +kernel)
  refine va_sld X.1 X.2.1 hX hbl hbA hwM.2.2 (vp_in_iff.mpr (by decide +kernel)) dL_law_1173 ?_
  refine lv_aload_n X.1 X.2.1 dL_law_1174 rfl (lv_at hl 4 rfl) ?_
  refine lv_iload X.1 X.2.1 dL_law_1175 (lv_at hl 0 rfl) ?_
  refine lv_iconst (v := 2) X.1 X.2.1 dL_law_1177 (by decide) ?_
  refine lv_iadd X.1 X.2.1 dL_law_1178 ?_
  refine lv_topi (fun v_133 ev_133 => ?_)
  obtain rfl : v_133 = 2 := ev_133.trans (by decide +kernel)
  refine va_sld X.1 X.2.1 hX hbl hbA hwM.2.2 (vp_in_iff.mpr (by decide +kernel)) dL_law_1179 ?_
  refine k_i (rm := { frames := 5, cells := 0, slots := 0, locals := 200 }) (av := [.ref mo, .int (xs (Int32.toNatClampNeg 1)), .int (xs (Int32.toNatClampNeg 2))]) X hwM (va_runV (As := [.int (xs (Int32.toNatClampNeg 1)), .int (xs (Int32.toNatClampNeg 2))]) (rest := [.int (rr_1164)]) (cfix X) (c_X12_take l G cy SM _ mo (xs (Int32.toNatClampNeg 1)) (xs (Int32.toNatClampNeg 2)) hFM) (cwV 2 X.2.2.2.1 gk_X12_take rfl rfl rfl (by decide +kernel) ⟨Nat.le_of_ble_eq_true rfl, Nat.le_of_ble_eq_true rfl⟩) (pre_V X hwM _ hFM.1 (by decide) rfl) rfl rfl hl.1 rfl (lv_room (Nat.le_of_ble_eq_true rfl)) dL_law_1180 ⟨Nat.le_of_ble_eq_true rfl, Nat.le_of_ble_eq_true rfl⟩) 173 193079 (Nat.le_of_ble_eq_true rfl) (Nat.le_of_ble_eq_true rfl) (fun rr_1180 S2 H locs hp_1180 hw2 hfr hnw => ?_)
  have hwM := hw2
  refine lv_icmp_eq (tgt := 1561) X.1 X.2.1 dL_law_1183 (by decide) (fun c_1183 => ?_) (fun c_1183 => absurd (hp_1164.trans hp_1180.symm) c_1183)
  refine lv_iinc (v := 6) (lv' := [(4, .int 6), (3, .ref outq), (2, .ref mo), (1, .ref x), (0, .ref b)]) X.1 X.2.1 dL_law_1561 hl (k := 0) rfl (by decide) (by decide) rfl (fun ls hl => ?_)
  refine lv_goto (tgt := 23) X.1 X.2.1 dL_law_1564 (by decide) ?_
  refine lv_iload X.1 X.2.1 dL_law_23 (lv_at hl 0 rfl) ?_
  refine lv_aload_n X.1 X.2.1 dL_law_25 rfl (lv_at hl 4 rfl) ?_
  refine va_slen X.1 X.2.1 hX hbl hbA hwM.2.2 dL_law_26 ?_
  refine lv_topi (fun lv_26 elv_26 => ?_)
  obtain rfl : lv_26 = 6 := elv_26.trans (by decide +kernel)
  refine lv_bipush (v := 6) X.1 X.2.1 dL_law_27 (by decide) ?_
  refine lv_isub X.1 X.2.1 dL_law_29 ?_
  refine lv_topi (fun v_134 ev_134 => ?_)
  obtain rfl : v_134 = 0 := ev_134.trans (by decide +kernel)
  refine lv_icmp_gt (tgt := 1567) X.1 X.2.1 dL_law_30 (by decide) (fun c_30 => ?_) (fun c_30 => absurd c_30 (by decide))
  refine lv_iconst (v := 1) X.1 X.2.1 dL_law_1567 (by decide) ?_
  refine va_forget (fun q hq => hwM.2.2.2.2 q hq) ?_
  refine W.widen (k := 600002) (n := 7302232) (Nat.le_of_ble_eq_true rfl) (Nat.le_of_ble_eq_true rfl) ?_
  exact lw_ret X.1 X.2.1 hr hlocks dL_law_1568
set_option maxHeartbeats 8000000 in
set_option maxRecDepth 100000 in
theorem lc_22 {p : Program} {l : Launch} {e : Env} {s : State} {m : MethodId} {below : List Frame} {meth : Method} {c : Code} (hst : l.stackTraces = false) {b x mo outq : Nat} {xs : Nat → Int32} {G : va_G} {cy : Nat → ClassId} (X : Cx p c cL_law 7 s #[Value.ref b] lw_tbl RL m G cy (fun q : Nat => s.heap.size ≤ q)) (hr : meth.sig.returnType = ret) (hlocks : meth.locks = false) (hX : va_X b 6 xs s s.heap) (hbl : b < s.heap.size) (hbA : ¬ (fun q : Nat => s.heap.size ≤ q) b) (hZ : Zs (fun q : Nat => s.heap.size ≤ q) s s.heap) (sa_L_fineness sa_L_in : Nat) (hStr_L_fineness : vk_R RX11 104 "there is no such place of a cocoon" sa_L_fineness s) (hStr_L_in : vk_R RX11 221 "there is no such cocoon in a pot" sa_L_in s) (hdc : ∀ Y ∈ DcL, va_Nw (.declares (Bundle.initS Y)) s) {SX SM : PS} {H : Heap} {locs : List Loc} {ls : Array Slot} (hwX : Wd G cy (fun q : Nat => s.heap.size ≤ q) s.heap SX H locs) (hwM : Wd G cy (fun q : Nat => s.heap.size ≤ q) s.heap SM H locs) (hdM : ∀ q ∈ pL SM, q ∉ pL SX) (hFX : FX SX x) (hFM : FM SM mo) (hl : lv_has ls 7 [(4, .int 0), (3, .ref outq), (2, .ref mo), (1, .ref x), (0, .ref b)]) : W p l e room_1 s m #[Value.ref b] below meth c H locs 173 193079 (lw_Z below #[Value.ref b] s) (F0 m 1188 ls []) := by
  refine lv_aload_n X.1 X.2.1 dL_law_1188 rfl (lv_at hl 3 rfl) ?_
  refine lv_aload_n X.1 X.2.1 dL_law_1189 rfl (lv_at hl 4 rfl) ?_
  refine lv_iload X.1 X.2.1 dL_law_1190 (lv_at hl 0 rfl) ?_
  refine lv_iconst (v := 1) X.1 X.2.1 dL_law_1192 (by decide) ?_
  refine lv_iadd X.1 X.2.1 dL_law_1193 ?_
  refine lv_topi (fun v_135 ev_135 => ?_)
  obtain rfl : v_135 = 1 := ev_135.trans (by decide +kernel)
  refine va_sld X.1 X.2.1 hX hbl hbA hwM.2.2 (vp_in_iff.mpr (by decide +kernel)) dL_law_1194 ?_
  refine lv_aload_n X.1 X.2.1 dL_law_1195 rfl (lv_at hl 4 rfl) ?_
  refine lv_iload X.1 X.2.1 dL_law_1196 (lv_at hl 0 rfl) ?_
  refine lv_iconst (v := 2) X.1 X.2.1 dL_law_1198 (by decide) ?_
  refine lv_iadd X.1 X.2.1 dL_law_1199 ?_
  refine lv_topi (fun v_136 ev_136 => ?_)
  obtain rfl : v_136 = 2 := ev_136.trans (by decide +kernel)
  refine va_sld X.1 X.2.1 hX hbl hbA hwM.2.2 (vp_in_iff.mpr (by decide +kernel)) dL_law_1200 ?_
  refine lv_aload_n X.1 X.2.1 dL_law_1201 rfl (lv_at hl 4 rfl) ?_
  refine lv_iload X.1 X.2.1 dL_law_1202 (lv_at hl 0 rfl) ?_
  refine lv_iconst (v := 3) X.1 X.2.1 dL_law_1204 (by decide) ?_
  refine lv_iadd X.1 X.2.1 dL_law_1205 ?_
  refine lv_topi (fun v_137 ev_137 => ?_)
  obtain rfl : v_137 = 3 := ev_137.trans (by decide +kernel)
  refine va_sld X.1 X.2.1 hX hbl hbA hwM.2.2 (vp_in_iff.mpr (by decide +kernel)) dL_law_1206 ?_
  refine lv_aload_n X.1 X.2.1 dL_law_1207 rfl (lv_at hl 4 rfl) ?_
  refine lv_iload X.1 X.2.1 dL_law_1208 (lv_at hl 0 rfl) ?_
  refine lv_iconst (v := 4) X.1 X.2.1 dL_law_1210 (by decide) ?_
  refine lv_iadd X.1 X.2.1 dL_law_1211 ?_
  refine lv_topi (fun v_138 ev_138 => ?_)
  obtain rfl : v_138 = 4 := ev_138.trans (by decide +kernel)
  refine va_sld X.1 X.2.1 hX hbl hbA hwM.2.2 (vp_in_iff.mpr (by decide +kernel)) dL_law_1212 ?_
  refine lv_aload_n X.1 X.2.1 dL_law_1213 rfl (lv_at hl 4 rfl) ?_
  refine lv_iload X.1 X.2.1 dL_law_1214 (lv_at hl 0 rfl) ?_
  refine lv_iconst (v := 5) X.1 X.2.1 dL_law_1216 (by decide) ?_
  refine lv_iadd X.1 X.2.1 dL_law_1217 ?_
  refine lv_topi (fun v_139 ev_139 => ?_)
  obtain rfl : v_139 = 5 := ev_139.trans (by decide +kernel)
  refine va_sld X.1 X.2.1 hX hbl hbA hwM.2.2 (vp_in_iff.mpr (by decide +kernel)) dL_law_1218 ?_
  refine k_i (rm := { frames := 4, cells := 0, slots := 0, locals := 160 }) (av := [.ref x, .int (xs (Int32.toNatClampNeg 1)), .int (xs (Int32.toNatClampNeg 2)), .int (xs (Int32.toNatClampNeg 3)), .int (xs (Int32.toNatClampNeg 4)), .int (xs (Int32.toNatClampNeg 5))]) X hwX (va_runV (As := [.int (xs (Int32.toNatClampNeg 1)), .int (xs (Int32.toNatClampNeg 2)), .int (xs (Int32.toNatClampNeg 3)), .int (xs (Int32.toNatClampNeg 4)), .int (xs (Int32.toNatClampNeg 5))]) (rest := []) (cfix X) (c_X11_copy l G cy SX _ x (xs (Int32.toNatClampNeg 1)) (xs (Int32.toNatClampNeg 2)) (xs (Int32.toNatClampNeg 3)) (xs (Int32.toNatClampNeg 4)) (xs (Int32.toNatClampNeg 5)) hFX) (cwV 5 X.2.2.2.1 gk_X11_copy rfl rfl rfl (by decide +kernel) ⟨Nat.le_of_ble_eq_true rfl, Nat.le_of_ble_eq_true rfl⟩) (pre_V X hwX _ hFX.1 (by decide) rfl) rfl rfl hl.1 rfl (lv_room (Nat.le_of_ble_eq_true rfl)) dL_law_1219 ⟨Nat.le_of_ble_eq_true rfl, Nat.le_of_ble_eq_true rfl⟩) 173 193079 (Nat.le_of_ble_eq_true rfl) (Nat.le_of_ble_eq_true rfl) (fun rr_1219 S2 H locs hp_1219 hw2 hfr hnw => ?_)
  have hwM := Wd_keep hwM hfr hdM hw2.2.2
  clear hwX
  refine lv_aload_n X.1 X.2.1 dL_law_1222 rfl (lv_at hl 2 rfl) ?_
  refine lv_aload_n X.1 X.2.1 dL_law_1223 rfl (lv_at hl 4 rfl) ?_
  refine lv_iload X.1 X.2.1 dL_law_1224 (lv_at hl 0 rfl) ?_
  refine lv_iconst (v := 1) X.1 X.2.1 dL_law_1226 (by decide) ?_
  refine lv_iadd X.1 X.2.1 dL_law_1227 ?_
  refine lv_topi (fun v_140 ev_140 => ?_)
  obtain rfl : v_140 = 1 := ev_140.trans (by decide +kernel)
  refine va_sld X.1 X.2.1 hX hbl hbA hwM.2.2 (vp_in_iff.mpr (by decide +kernel)) dL_law_1228 ?_
  refine lv_aload_n X.1 X.2.1 dL_law_1229 rfl (lv_at hl 4 rfl) ?_
  refine lv_iload X.1 X.2.1 dL_law_1230 (lv_at hl 0 rfl) ?_
  refine lv_iconst (v := 2) X.1 X.2.1 dL_law_1232 (by decide) ?_
  refine lv_iadd X.1 X.2.1 dL_law_1233 ?_
  refine lv_topi (fun v_141 ev_141 => ?_)
  obtain rfl : v_141 = 2 := ev_141.trans (by decide +kernel)
  refine va_sld X.1 X.2.1 hX hbl hbA hwM.2.2 (vp_in_iff.mpr (by decide +kernel)) dL_law_1234 ?_
  refine lv_aload_n X.1 X.2.1 dL_law_1235 rfl (lv_at hl 4 rfl) ?_
  refine lv_iload X.1 X.2.1 dL_law_1236 (lv_at hl 0 rfl) ?_
  refine lv_iconst (v := 3) X.1 X.2.1 dL_law_1238 (by decide) ?_
  refine lv_iadd X.1 X.2.1 dL_law_1239 ?_
  refine lv_topi (fun v_142 ev_142 => ?_)
  obtain rfl : v_142 = 3 := ev_142.trans (by decide +kernel)
  refine va_sld X.1 X.2.1 hX hbl hbA hwM.2.2 (vp_in_iff.mpr (by decide +kernel)) dL_law_1240 ?_
  refine lv_aload_n X.1 X.2.1 dL_law_1241 rfl (lv_at hl 4 rfl) ?_
  refine lv_iload X.1 X.2.1 dL_law_1242 (lv_at hl 0 rfl) ?_
  refine lv_iconst (v := 4) X.1 X.2.1 dL_law_1244 (by decide) ?_
  refine lv_iadd X.1 X.2.1 dL_law_1245 ?_
  refine lv_topi (fun v_143 ev_143 => ?_)
  obtain rfl : v_143 = 4 := ev_143.trans (by decide +kernel)
  refine va_sld X.1 X.2.1 hX hbl hbA hwM.2.2 (vp_in_iff.mpr (by decide +kernel)) dL_law_1246 ?_
  refine lv_aload_n X.1 X.2.1 dL_law_1247 rfl (lv_at hl 4 rfl) ?_
  refine lv_iload X.1 X.2.1 dL_law_1248 (lv_at hl 0 rfl) ?_
  refine lv_iconst (v := 5) X.1 X.2.1 dL_law_1250 (by decide) ?_
  refine lv_iadd X.1 X.2.1 dL_law_1251 ?_
  refine lv_topi (fun v_144 ev_144 => ?_)
  obtain rfl : v_144 = 5 := ev_144.trans (by decide +kernel)
  refine va_sld X.1 X.2.1 hX hbl hbA hwM.2.2 (vp_in_iff.mpr (by decide +kernel)) dL_law_1252 ?_
  refine k_i (rm := { frames := 5, cells := 0, slots := 0, locals := 200 }) (av := [.ref mo, .int (xs (Int32.toNatClampNeg 1)), .int (xs (Int32.toNatClampNeg 2)), .int (xs (Int32.toNatClampNeg 3)), .int (xs (Int32.toNatClampNeg 4)), .int (xs (Int32.toNatClampNeg 5))]) X hwM (va_runV (As := [.int (xs (Int32.toNatClampNeg 1)), .int (xs (Int32.toNatClampNeg 2)), .int (xs (Int32.toNatClampNeg 3)), .int (xs (Int32.toNatClampNeg 4)), .int (xs (Int32.toNatClampNeg 5))]) (rest := [.int (rr_1219)]) (cfix X) (c_X12_copy l G cy SM _ mo (xs (Int32.toNatClampNeg 1)) (xs (Int32.toNatClampNeg 2)) (xs (Int32.toNatClampNeg 3)) (xs (Int32.toNatClampNeg 4)) (xs (Int32.toNatClampNeg 5)) hFM) (cwV 5 X.2.2.2.1 gk_X12_copy rfl rfl rfl (by decide +kernel) ⟨Nat.le_of_ble_eq_true rfl, Nat.le_of_ble_eq_true rfl⟩) (pre_V X hwM _ hFM.1 (by decide) rfl) rfl rfl hl.1 rfl (lv_room (Nat.le_of_ble_eq_true rfl)) dL_law_1253 ⟨Nat.le_of_ble_eq_true rfl, Nat.le_of_ble_eq_true rfl⟩) 173 193079 (Nat.le_of_ble_eq_true rfl) (Nat.le_of_ble_eq_true rfl) (fun rr_1253 S2 H locs hp_1253 hw2 hfr hnw => ?_)
  have hwM := hw2
  refine lv_icmp_eq (tgt := 1561) X.1 X.2.1 dL_law_1256 (by decide) (fun c_1256 => ?_) (fun c_1256 => absurd (hp_1219.trans hp_1253.symm) c_1256)
  refine lv_iinc (v := 6) (lv' := [(4, .int 6), (3, .ref outq), (2, .ref mo), (1, .ref x), (0, .ref b)]) X.1 X.2.1 dL_law_1561 hl (k := 0) rfl (by decide) (by decide) rfl (fun ls hl => ?_)
  refine lv_goto (tgt := 23) X.1 X.2.1 dL_law_1564 (by decide) ?_
  refine lv_iload X.1 X.2.1 dL_law_23 (lv_at hl 0 rfl) ?_
  refine lv_aload_n X.1 X.2.1 dL_law_25 rfl (lv_at hl 4 rfl) ?_
  refine va_slen X.1 X.2.1 hX hbl hbA hwM.2.2 dL_law_26 ?_
  refine lv_topi (fun lv_26 elv_26 => ?_)
  obtain rfl : lv_26 = 6 := elv_26.trans (by decide +kernel)
  refine lv_bipush (v := 6) X.1 X.2.1 dL_law_27 (by decide) ?_
  refine lv_isub X.1 X.2.1 dL_law_29 ?_
  refine lv_topi (fun v_145 ev_145 => ?_)
  obtain rfl : v_145 = 0 := ev_145.trans (by decide +kernel)
  refine lv_icmp_gt (tgt := 1567) X.1 X.2.1 dL_law_30 (by decide) (fun c_30 => ?_) (fun c_30 => absurd c_30 (by decide))
  refine lv_iconst (v := 1) X.1 X.2.1 dL_law_1567 (by decide) ?_
  refine va_forget (fun q hq => hwM.2.2.2.2 q hq) ?_
  refine W.widen (k := 600002) (n := 7302232) (Nat.le_of_ble_eq_true rfl) (Nat.le_of_ble_eq_true rfl) ?_
  exact lw_ret X.1 X.2.1 hr hlocks dL_law_1568
