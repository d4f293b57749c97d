def MLG : List Nat := [3, 4, 5, 6, 101, 102, 103, 203, 204, 205, 206, 207, 300, 301, 304, 404, 405, 406, 407, 408, 500, 502, 600, 707, 708, 709, 802, 803, 804, 805, 806, 902, 903, 904, 1001, 1002, 1004, 1005, 1006, 1110, 303, 409, 1106, 10014, 10016, 10017, 10019, 10034, 10074, 10094, 10114, 10134, 10154, 10174, 10194, 11614, 11634, 11674, 11694, 11714, 11734, 11754, 11774, 800, 905, 906, 907, 908]
def MLL : List Nat := [3, 4, 5, 6, 101, 102, 103, 203, 204, 205, 206, 207, 300, 301, 304, 404, 405, 406, 407, 408, 500, 502, 600, 707, 708, 709, 802, 803, 804, 805, 806, 902, 903, 904, 1001, 1002, 1004, 1005, 1006, 1110, 303, 409, 1106, 10014, 10016, 10017, 10019, 10034, 10074, 10094, 10114, 10134, 10154, 10174, 10194, 11614, 11634, 11674, 11694, 11714, 11734, 11754, 11774, 800, 905, 906, 907, 908, 1102, 10036, 10054]
def MLP : List Nat := [3, 4, 5, 6, 101, 102, 103, 203, 204, 205, 206, 207, 300, 301, 304, 404, 405, 406, 407, 408, 500, 502, 600, 707, 708, 709, 802, 803, 804, 805, 806, 902, 903, 904, 1001, 1002, 1004, 1005, 1006, 1110, 303, 409, 1106, 10014, 10016, 10017, 10019, 10034, 10074, 10094, 10114, 10134, 10154, 10174, 10194, 11614, 11634, 11674, 11694, 11714, 11734, 11754, 11774, 800, 905, 906, 907, 908, 1104, 10018]
set_option maxRecDepth 20000 in
theorem ggX0_init_X11_next : GoodIn wsX0_init wsX11_next := goodIn_h _ [18, 0] [0, 1] (by decide +kernel) (by decide +kernel)
set_option maxRecDepth 20000 in
theorem gX0_init_X11_next_n30 : GoodIn wsX0_init (wsX11_next) := ggX0_init_X11_next
theorem dX0_init_0 : decode cX0_init 0 = .ok (.aload_n 0, 1) := by decide +kernel
theorem dX0_init_1 : decode cX0_init 1 = .ok (.invokespecial 3, 3) := by decide +kernel
theorem dX0_init_4 : decode cX0_init 4 = .ok (.aload_n 0, 1) := by decide +kernel
theorem dX0_init_5 : decode cX0_init 5 = .ok (.iconst 0, 1) := by decide +kernel
theorem dX0_init_6 : decode cX0_init 6 = .ok (.putfield 9, 3) := by decide +kernel
theorem dX0_init_9 : decode cX0_init 9 = .ok (.aload_n 0, 1) := by decide +kernel
theorem dX0_init_10 : decode cX0_init 10 = .ok (.iconst (-1), 1) := by decide +kernel
theorem dX0_init_11 : decode cX0_init 11 = .ok (.putfield 15, 3) := by decide +kernel
theorem dX0_init_14 : decode cX0_init 14 = .ok (.aload_n 0, 1) := by decide +kernel
theorem dX0_init_15 : decode cX0_init 15 = .ok (.iload_n 1, 1) := by decide +kernel
theorem dX0_init_16 : decode cX0_init 16 = .ok (.putfield 18, 3) := by decide +kernel
theorem dX0_init_19 : decode cX0_init 19 = .ok (.aload_n 0, 1) := by decide +kernel
theorem dX0_init_20 : decode cX0_init 20 = .ok (.iload_n 2, 1) := by decide +kernel
theorem dX0_init_21 : decode cX0_init 21 = .ok (.putfield 21, 3) := by decide +kernel
theorem dX0_init_24 : decode cX0_init 24 = .ok (.aload_n 0, 1) := by decide +kernel
theorem dX0_init_25 : decode cX0_init 25 = .ok (.iload_n 3, 1) := by decide +kernel
theorem dX0_init_26 : decode cX0_init 26 = .ok (.putfield 24, 3) := by decide +kernel
theorem dX0_init_29 : decode cX0_init 29 = .ok (.aload_n 0, 1) := by decide +kernel
theorem dX0_init_30 : decode cX0_init 30 = .ok (.iload 6, 2) := by decide +kernel
theorem dX0_init_32 : decode cX0_init 32 = .ok (.putfield 27, 3) := by decide +kernel
theorem dX0_init_35 : decode cX0_init 35 = .ok (.iload_n 3, 1) := by decide +kernel
theorem dX0_init_36 : decode cX0_init 36 = .ok (.sipush 7919, 3) := by decide +kernel
theorem dX0_init_39 : decode cX0_init 39 = .ok (.iload_n 2, 1) := by decide +kernel
theorem dX0_init_40 : decode cX0_init 40 = .ok (.imul, 1) := by decide +kernel
theorem dX0_init_41 : decode cX0_init 41 = .ok (.iadd, 1) := by decide +kernel
theorem dX0_init_42 : decode cX0_init 42 = .ok (.invokestatic 30, 3) := by decide +kernel
theorem dX0_init_45 : decode cX0_init 45 = .ok (.istore 7, 2) := by decide +kernel
theorem dX0_init_47 : decode cX0_init 47 = .ok (.aload_n 0, 1) := by decide +kernel
theorem dX0_init_48 : decode cX0_init 48 = .ok (.bipush 20, 2) := by decide +kernel
theorem dX0_init_50 : decode cX0_init 50 = .ok (.iload 5, 2) := by decide +kernel
theorem dX0_init_52 : decode cX0_init 52 = .ok (.iload 7, 2) := by decide +kernel
theorem dX0_init_54 : decode cX0_init 54 = .ok (.bipush 16, 2) := by decide +kernel
theorem dX0_init_56 : decode cX0_init 56 = .ok (.iushr, 1) := by decide +kernel
theorem dX0_init_57 : decode cX0_init 57 = .ok (.bipush 41, 2) := by decide +kernel
theorem dX0_init_59 : decode cX0_init 59 = .ok (.irem, 1) := by decide +kernel
theorem dX0_init_60 : decode cX0_init 60 = .ok (.iadd, 1) := by decide +kernel
theorem dX0_init_61 : decode cX0_init 61 = .ok (.bipush 20, 2) := by decide +kernel
theorem dX0_init_63 : decode cX0_init 63 = .ok (.isub, 1) := by decide +kernel
theorem dX0_init_64 : decode cX0_init 64 = .ok (.invokestatic 34, 3) := by decide +kernel
theorem dX0_init_67 : decode cX0_init 67 = .ok (.putfield 40, 3) := by decide +kernel
theorem dX0_init_70 : decode cX0_init 70 = .ok (.iload 7, 2) := by decide +kernel
theorem dX0_init_72 : decode cX0_init 72 = .ok (.invokestatic 30, 3) := by decide +kernel
theorem dX0_init_75 : decode cX0_init 75 = .ok (.istore 7, 2) := by decide +kernel
theorem dX0_init_77 : decode cX0_init 77 = .ok (.aload_n 0, 1) := by decide +kernel
theorem dX0_init_78 : decode cX0_init 78 = .ok (.iload 4, 2) := by decide +kernel
theorem dX0_init_80 : decode cX0_init 80 = .ok (.iload 7, 2) := by decide +kernel
theorem dX0_init_82 : decode cX0_init 82 = .ok (.bipush 16, 2) := by decide +kernel
theorem dX0_init_84 : decode cX0_init 84 = .ok (.iushr, 1) := by decide +kernel
theorem dX0_init_85 : decode cX0_init 85 = .ok (.bipush 9, 2) := by decide +kernel
theorem dX0_init_87 : decode cX0_init 87 = .ok (.irem, 1) := by decide +kernel
theorem dX0_init_88 : decode cX0_init 88 = .ok (.iadd, 1) := by decide +kernel
theorem dX0_init_89 : decode cX0_init 89 = .ok (.iconst 4, 1) := by decide +kernel
theorem dX0_init_90 : decode cX0_init 90 = .ok (.isub, 1) := by decide +kernel
theorem dX0_init_91 : decode cX0_init 91 = .ok (.putfield 43, 3) := by decide +kernel
theorem dX0_init_94 : decode cX0_init 94 = .ok (.return_, 1) := by decide +kernel
theorem dX5_init_0 : decode cX5_init 0 = .ok (.aload_n 0, 1) := by decide +kernel
theorem dX5_init_1 : decode cX5_init 1 = .ok (.invokespecial 3, 3) := by decide +kernel
theorem dX5_init_4 : decode cX5_init 4 = .ok (.aload_n 0, 1) := by decide +kernel
theorem dX5_init_5 : decode cX5_init 5 = .ok (.iconst 1, 1) := by decide +kernel
theorem dX5_init_6 : decode cX5_init 6 = .ok (.iload_n 1, 1) := by decide +kernel
theorem dX5_init_7 : decode cX5_init 7 = .ok (.invokestatic 9, 3) := by decide +kernel
theorem dX5_init_10 : decode cX5_init 10 = .ok (.anewarray 15, 3) := by decide +kernel
theorem dX5_init_13 : decode cX5_init 13 = .ok (.putfield 17, 3) := by decide +kernel
theorem dX5_init_16 : decode cX5_init 16 = .ok (.return_, 1) := by decide +kernel
theorem dX6_init_0 : decode cX6_init 0 = .ok (.aload_n 0, 1) := by decide +kernel
theorem dX6_init_1 : decode cX6_init 1 = .ok (.invokespecial 3, 3) := by decide +kernel
theorem dX6_init_4 : decode cX6_init 4 = .ok (.aload_n 0, 1) := by decide +kernel
theorem dX6_init_5 : decode cX6_init 5 = .ok (.bipush 12, 2) := by decide +kernel
theorem dX6_init_7 : decode cX6_init 7 = .ok (.newarray .int, 2) := by decide +kernel
theorem dX6_init_9 : decode cX6_init 9 = .ok (.putfield 9, 3) := by decide +kernel
theorem dX6_init_12 : decode cX6_init 12 = .ok (.aload_n 0, 1) := by decide +kernel
theorem dX6_init_13 : decode cX6_init 13 = .ok (.bipush 12, 2) := by decide +kernel
theorem dX6_init_15 : decode cX6_init 15 = .ok (.newarray .int, 2) := by decide +kernel
theorem dX6_init_17 : decode cX6_init 17 = .ok (.putfield 15, 3) := by decide +kernel
theorem dX6_init_20 : decode cX6_init 20 = .ok (.aload_n 0, 1) := by decide +kernel
theorem dX6_init_21 : decode cX6_init 21 = .ok (.bipush 12, 2) := by decide +kernel
theorem dX6_init_23 : decode cX6_init 23 = .ok (.newarray .int, 2) := by decide +kernel
theorem dX6_init_25 : decode cX6_init 25 = .ok (.putfield 18, 3) := by decide +kernel
theorem dX6_init_28 : decode cX6_init 28 = .ok (.aload_n 0, 1) := by decide +kernel
theorem dX6_init_29 : decode cX6_init 29 = .ok (.bipush 48, 2) := by decide +kernel
theorem dX6_init_31 : decode cX6_init 31 = .ok (.newarray .int, 2) := by decide +kernel
theorem dX6_init_33 : decode cX6_init 33 = .ok (.putfield 21, 3) := by decide +kernel
theorem dX6_init_36 : decode cX6_init 36 = .ok (.aload_n 0, 1) := by decide +kernel
theorem dX6_init_37 : decode cX6_init 37 = .ok (.bipush 48, 2) := by decide +kernel
theorem dX6_init_39 : decode cX6_init 39 = .ok (.newarray .int, 2) := by decide +kernel
theorem dX6_init_41 : decode cX6_init 41 = .ok (.putfield 24, 3) := by decide +kernel
theorem dX6_init_44 : decode cX6_init 44 = .ok (.aload_n 0, 1) := by decide +kernel
theorem dX6_init_45 : decode cX6_init 45 = .ok (.bipush 48, 2) := by decide +kernel
theorem dX6_init_47 : decode cX6_init 47 = .ok (.newarray .int, 2) := by decide +kernel
theorem dX6_init_49 : decode cX6_init 49 = .ok (.putfield 27, 3) := by decide +kernel
theorem dX6_init_52 : decode cX6_init 52 = .ok (.return_, 1) := by decide +kernel
theorem dX9_init_0 : decode cX9_init 0 = .ok (.aload_n 0, 1) := by decide +kernel
theorem dX9_init_1 : decode cX9_init 1 = .ok (.invokespecial 3, 3) := by decide +kernel
theorem dX9_init_4 : decode cX9_init 4 = .ok (.aload_n 0, 1) := by decide +kernel
theorem dX9_init_5 : decode cX9_init 5 = .ok (.sipush 300, 3) := by decide +kernel
theorem dX9_init_8 : decode cX9_init 8 = .ok (.newarray .int, 2) := by decide +kernel
theorem dX9_init_10 : decode cX9_init 10 = .ok (.putfield 9, 3) := by decide +kernel
theorem dX9_init_13 : decode cX9_init 13 = .ok (.aload_n 0, 1) := by decide +kernel
theorem dX9_init_14 : decode cX9_init 14 = .ok (.sipush 300, 3) := by decide +kernel
theorem dX9_init_17 : decode cX9_init 17 = .ok (.newarray .int, 2) := by decide +kernel
theorem dX9_init_19 : decode cX9_init 19 = .ok (.putfield 15, 3) := by decide +kernel
theorem dX9_init_22 : decode cX9_init 22 = .ok (.aload_n 0, 1) := by decide +kernel
theorem dX9_init_23 : decode cX9_init 23 = .ok (.bipush 32, 2) := by decide +kernel
theorem dX9_init_25 : decode cX9_init 25 = .ok (.newarray .int, 2) := by decide +kernel
theorem dX9_init_27 : decode cX9_init 27 = .ok (.putfield 18, 3) := by decide +kernel
theorem dX9_init_30 : decode cX9_init 30 = .ok (.aload_n 0, 1) := by decide +kernel
theorem dX9_init_31 : decode cX9_init 31 = .ok (.bipush 32, 2) := by decide +kernel
theorem dX9_init_33 : decode cX9_init 33 = .ok (.newarray .int, 2) := by decide +kernel
theorem dX9_init_35 : decode cX9_init 35 = .ok (.putfield 21, 3) := by decide +kernel
theorem dX9_init_38 : decode cX9_init 38 = .ok (.aload_n 0, 1) := by decide +kernel
theorem dX9_init_39 : decode cX9_init 39 = .ok (.bipush 32, 2) := by decide +kernel
theorem dX9_init_41 : decode cX9_init 41 = .ok (.newarray .int, 2) := by decide +kernel
theorem dX9_init_43 : decode cX9_init 43 = .ok (.putfield 24, 3) := by decide +kernel
theorem dX9_init_46 : decode cX9_init 46 = .ok (.aload_n 0, 1) := by decide +kernel
theorem dX9_init_47 : decode cX9_init 47 = .ok (.bipush 32, 2) := by decide +kernel
theorem dX9_init_49 : decode cX9_init 49 = .ok (.newarray .int, 2) := by decide +kernel
theorem dX9_init_51 : decode cX9_init 51 = .ok (.putfield 27, 3) := by decide +kernel
theorem dX9_init_54 : decode cX9_init 54 = .ok (.return_, 1) := by decide +kernel
theorem dJ7_copyOf_59c91_0 : decode cJ7_copyOf_59c91 0 = .ok (.iload_n 1, 1) := by decide +kernel
theorem dJ7_copyOf_59c91_1 : decode cJ7_copyOf_59c91 1 = .ok (.aload_n 0, 1) := by decide +kernel
theorem dJ7_copyOf_59c91_2 : decode cJ7_copyOf_59c91 2 = .ok (.arraylength, 1) := by decide +kernel
theorem dJ7_copyOf_59c91_3 : decode cJ7_copyOf_59c91 3 = .ok (.if_icmp .ne 11, 3) := by decide +kernel
theorem dJ7_copyOf_59c91_6 : decode cJ7_copyOf_59c91 6 = .ok (.aload_n 0, 1) := by decide +kernel
theorem dJ7_copyOf_59c91_7 : decode cJ7_copyOf_59c91 7 = .ok (.invokevirtual 316, 3) := by decide +kernel
theorem dJ7_copyOf_59c91_10 : decode cJ7_copyOf_59c91 10 = .ok (.checkcast 317, 3) := by decide +kernel
theorem dJ7_copyOf_59c91_13 : decode cJ7_copyOf_59c91 13 = .ok (.areturn, 1) := by decide +kernel
theorem dJ7_copyOf_59c91_14 : decode cJ7_copyOf_59c91 14 = .ok (.iload_n 1, 1) := by decide +kernel
theorem dJ7_copyOf_59c91_15 : decode cJ7_copyOf_59c91 15 = .ok (.newarray .int, 2) := by decide +kernel
theorem dJ7_copyOf_59c91_17 : decode cJ7_copyOf_59c91 17 = .ok (.astore_n 2, 1) := by decide +kernel
theorem dJ7_copyOf_59c91_18 : decode cJ7_copyOf_59c91 18 = .ok (.aload_n 0, 1) := by decide +kernel
theorem dJ7_copyOf_59c91_19 : decode cJ7_copyOf_59c91 19 = .ok (.iconst 0, 1) := by decide +kernel
theorem dJ7_copyOf_59c91_20 : decode cJ7_copyOf_59c91 20 = .ok (.aload_n 2, 1) := by decide +kernel
theorem dJ7_copyOf_59c91_21 : decode cJ7_copyOf_59c91 21 = .ok (.iconst 0, 1) := by decide +kernel
theorem dJ7_copyOf_59c91_22 : decode cJ7_copyOf_59c91 22 = .ok (.aload_n 0, 1) := by decide +kernel
theorem dJ7_copyOf_59c91_23 : decode cJ7_copyOf_59c91 23 = .ok (.arraylength, 1) := by decide +kernel
theorem dJ7_copyOf_59c91_24 : decode cJ7_copyOf_59c91 24 = .ok (.iload_n 1, 1) := by decide +kernel
theorem dJ7_copyOf_59c91_25 : decode cJ7_copyOf_59c91 25 = .ok (.invokestatic 304, 3) := by decide +kernel
theorem dJ7_copyOf_59c91_28 : decode cJ7_copyOf_59c91 28 = .ok (.invokestatic 150, 3) := by decide +kernel
theorem dJ7_copyOf_59c91_31 : decode cJ7_copyOf_59c91 31 = .ok (.aload_n 2, 1) := by decide +kernel
theorem dJ7_copyOf_59c91_32 : decode cJ7_copyOf_59c91 32 = .ok (.areturn, 1) := by decide +kernel
theorem inn_X0_init_0 : ∀ w ∈ u_ws RX0 TX0 10, w ∈ wsX0_init := fun w h => List.mem_cons_of_mem _ (List.mem_append_right _ h)
theorem inn_X5_init_5 : ∀ w ∈ u_ws RX5 TX5 3, w ∈ wsX5_init := fun w h => List.mem_cons_of_mem _ (List.mem_append_right _ h)
theorem inn_X6_init_6 : ∀ w ∈ u_ws RX6 TX6 7, w ∈ wsX6_init := fun w h => List.mem_cons_of_mem _ (List.mem_append_right _ h)
theorem inn_X9_init_9 : ∀ w ∈ u_ws RX9 TX9 9, w ∈ wsX9_init := fun w h => List.mem_cons_of_mem _ (List.mem_append_right _ h)
set_option maxHeartbeats 4000000 in
set_option maxRecDepth 100000 in
theorem k_J7_copyOf_59c91 (l : Launch) (G : va_G) (cy : Nat → ClassId) (κ : Nat → Nat) (S : PS) (sz : Nat) (x : Nat) (a1 : Int32) (a1_z : Int) (n0 : Nat) (nq : Nat) (B : Nat) (hC : CI S) (ha_x : At S x 14) (hz_a1 : a1.toInt = a1_z) (hp_0 : pN S x = n0) (hp_1 : a1_z = (nq : Int)) (hp_2 : nq ≤ 3600) (hp_3 : n0 ≤ 3600) (hp_4 : nq ≤ B) : Cq l yJ7_copyOf_59c91 wsJ7_copyOf_59c91 ({ frames := 2, cells := 1, slots := B, locals := 96 }) G cy κ S sz [.ref x, .int (a1)] (fun (r : Option Nat) (S9 : PS) => ∃ q, r = some q ∧ Cpy S S9 q nq) := by
  refine ent_m (cc := cJ7_copyOf_59c91) (maxL := 3) (ret := (some (.array .int))) (by decide) rfl (Nat.le_of_ble_eq_true rfl) ?_
  intro p e s m below meth c ls X hr hlocks hin hw hl hsz
  subst hsz
  have X : Cx p c cJ7_copyOf_59c91 3 s [.ref x, .int (a1)].toArray wsJ7_copyOf_59c91 RJ7 m G cy κ (AS S s.heap.size) := X
  have hl : lv_has ls 3 [(0, .ref x), (1, .int (a1))] := hl
  have rg_a1 : (-2147483648) ≤ a1_z ∧ a1_z ≤ 2147483647 := by rw [← hz_a1]; exact ⟨z_lo _, z_hi _⟩
  refine lv_iload_n X.1 X.2.1 dJ7_copyOf_59c91_0 rfl (lv_at hl 1 rfl) ?_
  refine lv_aload_n X.1 X.2.1 dJ7_copyOf_59c91_1 rfl (lv_at hl 0 rfl) ?_
  refine r_alen X hw ha_x rfl (by decide) rfl dJ7_copyOf_59c91_2 ?_
  rw [hp_0]
  refine lv_topi (fun v_1 ev_1 => ?_)
  have z_2 : v_1.toInt = (n0 : Int) := z_len ev_1 (by omega)
  refine lv_icmp_ne (tgt := 14) X.1 X.2.1 dJ7_copyOf_59c91_3 (by decide) (fun c_3 => ?_) (fun c_3 => ?_)
  · have z_b_4 := trivial
    have k_5 : a1_z ≠ v_1.toInt := z_ne hz_a1 rfl c_3
    refine lv_iload_n X.1 X.2.1 dJ7_copyOf_59c91_14 rfl (lv_at hl 1 rfl) ?_
    refine r_newI (N := nq) X hw 14 (0 + nq) 1 rfl (X.2.2.2.1 (.arrayClass .int) (by decide +kernel)) (z_nn hz_a1 (by omega)) (z_tn (by have := hz_a1; omega) (by have := hz_a1; omega)) (by omega) (by show 0 + 1 ≤ 1; omega) (by show 0 + nq ≤ (0 + nq); omega) (by show 1 ≤ 1; omega) (by show (0 + nq) ≤ B; omega) dJ7_copyOf_59c91_15 (fun q_6 H hq_6 hw => ?_)
    obtain ⟨S_7, eS_7⟩ : ∃ T, T = sN S q_6 14 nq := ⟨_, rfl⟩
    rw [← eS_7] at hw
    have ha_8 : At S_7 q_6 14 := by rw [eS_7]; exact At_nN _ _ _ _
    have hn_9 : pN S_7 q_6 = nq := by rw [eS_7]; exact pN_sN_new
    refine lv_astore_n (lv' := [(2, .ref q_6), (0, .ref x), (1, .int (a1))]) X.1 X.2.1 dJ7_copyOf_59c91_17 rfl hl (by decide) rfl (fun ls hl => ?_)
    refine lv_aload_n X.1 X.2.1 dJ7_copyOf_59c91_18 rfl (lv_at hl 1 rfl) ?_
    refine lv_iconst (v := 0) X.1 X.2.1 dJ7_copyOf_59c91_19 (by decide) ?_
    refine lv_aload_n X.1 X.2.1 dJ7_copyOf_59c91_20 rfl (lv_at hl 0 rfl) ?_
    refine lv_iconst (v := 0) X.1 X.2.1 dJ7_copyOf_59c91_21 (by decide) ?_
    refine lv_aload_n X.1 X.2.1 dJ7_copyOf_59c91_22 rfl (lv_at hl 1 rfl) ?_
    have t_10 : At S_7 x 14 := by rw [eS_7]; exact At_sN ha_x hq_6
    have t_11 : pN S_7 x = n0 := by rw [eS_7]; exact (pN_sN_ne (ne_of_new hq_6 ha_x.1)).trans hp_0
    refine r_alen X hw t_10 rfl (by decide) rfl dJ7_copyOf_59c91_23 ?_
    rw [t_11]
    refine lv_topi (fun v_12 ev_12 => ?_)
    have z_13 : v_12.toInt = (n0 : Int) := z_len ev_12 (by omega)
    refine lv_iload_n X.1 X.2.1 dJ7_copyOf_59c91_24 rfl (lv_at hl 2 rfl) ?_
    refine va_mmin X.1 X.2.1 (X.2.2.1.trans hl.1.symm) X.2.2.2.2.1 (X.2.2.2.1 (.methodLink RJ7 304 Lib.Math.min.name) (by decide +kernel)) (X.2.2.2.1 (.static Lib.Math.min.name) (by decide +kernel)) (X.2.2.2.1 (.initialized "java/lang/Math") (by decide +kernel)) (X.2.2.2.1 (.code Lib.Math.min.name Lib.Math.min.code 2 (some .int)) (by decide +kernel)) (Nat.le_of_ble_eq_true rfl) (Nat.le_of_ble_eq_true rfl) (by show 1 ≤ 1; omega) (by show (0 + nq) ≤ B; omega) dJ7_copyOf_59c91_25 ?_
    refine lv_topi (fun v_14 ev_14 => ?_)
    have z_15 := z_min ev_14 rfl hz_a1
    refine r_copyI X hw hl t_10 rfl ha_8 rfl (X.2.2.2.1 (.methodLink RJ7 150 arraycopyName) (by decide +kernel)) (X.2.2.2.1 (.native arraycopyName) (by decide +kernel)) (X.2.2.2.1 (.static arraycopyName) (by decide +kernel)) (X.2.2.2.1 (.initialized "java/lang/System") (by decide +kernel)) (by rw [t_11]; exact z_cp ti_0 rfl (by omega) (by omega) (by omega)) (by rw [hn_9]; exact z_cp ti_0 rfl (by omega) (by omega) (by omega)) (z_nn ti_0 (by omega)) (z_nn ti_0 (by omega)) (z_nn rfl (by omega)) (Nat.le_of_ble_eq_true rfl) (Nat.le_of_ble_eq_true rfl) dJ7_copyOf_59c91_28 (fun H locs hw => ?_)
    obtain ⟨S_16, eS_16⟩ : ∃ T, T = sA S_7 q_6 (va_cpy (pA S_7 x) (pA S_7 q_6) (Int32.toNatClampNeg (0)) (Int32.toNatClampNeg (0)) (Int32.toNatClampNeg (v_14))) := ⟨_, rfl⟩
    rw [← eS_16] at hw
    have hcp := Cpy_of hC hq_6 eS_7 eS_16
    refine lv_aload_n X.1 X.2.1 dJ7_copyOf_59c91_31 rfl (lv_at hl 0 rfl) ?_
    have t_17 : At S_16 q_6 14 := tAt_sA eS_16 ha_8
    exact ret_qA (some q_6) rfl X hw hr hlocks (by show 1 ≤ 1; omega) (by show (0 + nq) ≤ B; omega) ⟨_, rfl, (by first | exact hcp | (have hz : nq = n0 := (by omega); rw [hz]; exact hcp))⟩ dJ7_copyOf_59c91_32
  · have z_b_18 := trivial
    have k_19 : a1_z = v_1.toInt := z_eq hz_a1 rfl c_3
    refine lv_aload_n X.1 X.2.1 dJ7_copyOf_59c91_6 rfl (lv_at hl 0 rfl) ?_
    refine r_clone X hw hl ha_x rfl (X.2.2.2.1 (.methodLink RJ7 316 ⟨"[I", "clone", "()Ljava/lang/Object;"⟩) (by decide +kernel)) (X.2.2.2.1 (.sameMethod "[I" "java/lang/Object" "clone" "()Ljava/lang/Object;") (by decide +kernel)) (X.2.2.2.1 (.native ⟨"java/lang/Object", "clone", "()Ljava/lang/Object;"⟩) (by decide +kernel)) (X.2.2.2.1 (.instanceMethod ⟨"java/lang/Object", "clone", "()Ljava/lang/Object;"⟩) (by decide +kernel)) (X.2.2.2.1 (.selects "[I" ⟨"[I", "clone", "()Ljava/lang/Object;"⟩ ⟨"java/lang/Object", "clone", "()Ljava/lang/Object;"⟩) (by decide +kernel)) (Nat.le_of_ble_eq_true rfl) (Nat.le_of_ble_eq_true rfl) (Nat.le_of_ble_eq_true rfl) (by show 0 + pN S x ≤ _; rw [hp_0]; show 0 + n0 ≤ B; omega) dJ7_copyOf_59c91_7 (fun q_20 H hq_20 hw => ?_)
    rw [hp_0]
    rw [hp_0] at hw
    obtain ⟨S_21, eS_21⟩ : ∃ T, T = sN S q_20 14 n0 := ⟨_, rfl⟩
    rw [← eS_21] at hw
    obtain ⟨S_22, eS_22⟩ : ∃ T, T = sA S_21 q_20 (pA S x) := ⟨_, rfl⟩
    rw [← eS_22] at hw
    have hcp := Cpy_of hC hq_20 eS_21 eS_22
    have ha_q_20 := hcp.2.2.1
    refine r_castI X hw ha_q_20 rfl (X.2.2.2.1 (.classLink RJ7 317 "[I") (by decide +kernel)) dJ7_copyOf_59c91_10 ?_
    exact ret_qA (some q_20) rfl X hw hr hlocks (by show 1 ≤ 1; omega) (by show (0 + n0) ≤ B; omega) ⟨_, rfl, (by first | exact hcp | (have hz : nq = n0 := (by omega); rw [hz]; exact hcp))⟩ dJ7_copyOf_59c91_13
set_option maxHeartbeats 4000000 in
set_option maxRecDepth 100000 in
theorem k_J7_copyOf_59c91_F (l : Launch) (G : va_G) (cy : Nat → ClassId) (κ : Nat → Nat) (S : PS) (sz : Nat) (x : Nat) (a1 : Int32) (a1_z : Int) (n0 : Nat) (nq : Nat) (B : Nat) (hC : CI S) (ha_x : At S x 1614) (hz_a1 : a1.toInt = a1_z) (hp_0 : pN S x = n0) (hp_1 : a1_z = (nq : Int)) (hp_2 : nq ≤ 3600) (hp_3 : n0 ≤ 3600) (hp_4 : nq ≤ B) : Cq l yJ7_copyOf_59c91 wsJ7_copyOf_59c91 ({ frames := 2, cells := 1, slots := B, locals := 96 }) G cy κ S sz [.ref x, .int (a1)] (fun (r : Option Nat) (S9 : PS) => ∃ q, r = some q ∧ Cp9 S S9 q nq ∧ CyI S S9 x q n0 nq) := by
  refine ent_m (cc := cJ7_copyOf_59c91) (maxL := 3) (ret := (some (.array .int))) (by decide) rfl (Nat.le_of_ble_eq_true rfl) ?_
  intro p e s m below meth c ls X hr hlocks hin hw hl hsz
  subst hsz
  have X : Cx p c cJ7_copyOf_59c91 3 s [.ref x, .int (a1)].toArray wsJ7_copyOf_59c91 RJ7 m G cy κ (AS S s.heap.size) := X
  have hl : lv_has ls 3 [(0, .ref x), (1, .int (a1))] := hl
  have rg_a1 : (-2147483648) ≤ a1_z ∧ a1_z ≤ 2147483647 := by rw [← hz_a1]; exact ⟨z_lo _, z_hi _⟩
  refine lv_iload_n X.1 X.2.1 dJ7_copyOf_59c91_0 rfl (lv_at hl 1 rfl) ?_
  refine lv_aload_n X.1 X.2.1 dJ7_copyOf_59c91_1 rfl (lv_at hl 0 rfl) ?_
  refine r_alen X hw ha_x rfl (by decide) rfl dJ7_copyOf_59c91_2 ?_
  rw [hp_0]
  refine lv_topi (fun v_1 ev_1 => ?_)
  have z_2 : v_1.toInt = (n0 : Int) := z_len ev_1 (by omega)
  refine lv_icmp_ne (tgt := 14) X.1 X.2.1 dJ7_copyOf_59c91_3 (by decide) (fun c_3 => ?_) (fun c_3 => ?_)
  · have z_b_4 := trivial
    have k_5 : a1_z ≠ v_1.toInt := z_ne hz_a1 rfl c_3
    refine lv_iload_n X.1 X.2.1 dJ7_copyOf_59c91_14 rfl (lv_at hl 1 rfl) ?_
    refine r_newI (N := nq) X hw 1654 (0 + nq) 1 rfl (X.2.2.2.1 (.arrayClass .int) (by decide +kernel)) (z_nn hz_a1 (by omega)) (z_tn (by have := hz_a1; omega) (by have := hz_a1; omega)) (by omega) (by show 0 + 1 ≤ 1; omega) (by show 0 + nq ≤ (0 + nq); omega) (by show 1 ≤ 1; omega) (by show (0 + nq) ≤ B; omega) dJ7_copyOf_59c91_15 (fun q_6 H hq_6 hw => ?_)
    obtain ⟨S_7, eS_7⟩ : ∃ T, T = sN S q_6 1654 nq := ⟨_, rfl⟩
    rw [← eS_7] at hw
    have ha_8 : At S_7 q_6 1654 := by rw [eS_7]; exact At_nN _ _ _ _
    have hn_9 : pN S_7 q_6 = nq := by rw [eS_7]; exact pN_sN_new
    refine lv_astore_n (lv' := [(2, .ref q_6), (0, .ref x), (1, .int (a1))]) X.1 X.2.1 dJ7_copyOf_59c91_17 rfl hl (by decide) rfl (fun ls hl => ?_)
    refine lv_aload_n X.1 X.2.1 dJ7_copyOf_59c91_18 rfl (lv_at hl 1 rfl) ?_
    refine lv_iconst (v := 0) X.1 X.2.1 dJ7_copyOf_59c91_19 (by decide) ?_
    refine lv_aload_n X.1 X.2.1 dJ7_copyOf_59c91_20 rfl (lv_at hl 0 rfl) ?_
    refine lv_iconst (v := 0) X.1 X.2.1 dJ7_copyOf_59c91_21 (by decide) ?_
    refine lv_aload_n X.1 X.2.1 dJ7_copyOf_59c91_22 rfl (lv_at hl 1 rfl) ?_
    have t_10 : At S_7 x 1614 := by rw [eS_7]; exact At_sN ha_x hq_6
    have t_11 : pN S_7 x = n0 := by rw [eS_7]; exact (pN_sN_ne (ne_of_new hq_6 ha_x.1)).trans hp_0
    refine r_alen X hw t_10 rfl (by decide) rfl dJ7_copyOf_59c91_23 ?_
    rw [t_11]
    refine lv_topi (fun v_12 ev_12 => ?_)
    have z_13 : v_12.toInt = (n0 : Int) := z_len ev_12 (by omega)
    refine lv_iload_n X.1 X.2.1 dJ7_copyOf_59c91_24 rfl (lv_at hl 2 rfl) ?_
    refine va_mmin X.1 X.2.1 (X.2.2.1.trans hl.1.symm) X.2.2.2.2.1 (X.2.2.2.1 (.methodLink RJ7 304 Lib.Math.min.name) (by decide +kernel)) (X.2.2.2.1 (.static Lib.Math.min.name) (by decide +kernel)) (X.2.2.2.1 (.initialized "java/lang/Math") (by decide +kernel)) (X.2.2.2.1 (.code Lib.Math.min.name Lib.Math.min.code 2 (some .int)) (by decide +kernel)) (Nat.le_of_ble_eq_true rfl) (Nat.le_of_ble_eq_true rfl) (by show 1 ≤ 1; omega) (by show (0 + nq) ≤ B; omega) dJ7_copyOf_59c91_25 ?_
    refine lv_topi (fun v_14 ev_14 => ?_)
    have z_15 := z_min ev_14 rfl hz_a1
    refine r_copyI X hw hl t_10 rfl ha_8 rfl (X.2.2.2.1 (.methodLink RJ7 150 arraycopyName) (by decide +kernel)) (X.2.2.2.1 (.native arraycopyName) (by decide +kernel)) (X.2.2.2.1 (.static arraycopyName) (by decide +kernel)) (X.2.2.2.1 (.initialized "java/lang/System") (by decide +kernel)) (by rw [t_11]; exact z_cp ti_0 rfl (by omega) (by omega) (by omega)) (by rw [hn_9]; exact z_cp ti_0 rfl (by omega) (by omega) (by omega)) (z_nn ti_0 (by omega)) (z_nn ti_0 (by omega)) (z_nn rfl (by omega)) (Nat.le_of_ble_eq_true rfl) (Nat.le_of_ble_eq_true rfl) dJ7_copyOf_59c91_28 (fun H locs hw => ?_)
    obtain ⟨S_16, eS_16⟩ : ∃ T, T = sA S_7 q_6 (va_cpy (pA S_7 x) (pA S_7 q_6) (Int32.toNatClampNeg (0)) (Int32.toNatClampNeg (0)) (Int32.toNatClampNeg (v_14))) := ⟨_, rfl⟩
    rw [← eS_16] at hw
    have hcp := Cp9_of hC hq_6 eS_7 eS_16
    refine lv_aload_n X.1 X.2.1 dJ7_copyOf_59c91_31 rfl (lv_at hl 0 rfl) ?_
    have t_17 : At S_16 q_6 1654 := tAt_sA eS_16 ha_8
    exact ret_qA (some q_6) rfl X hw hr hlocks (by show 1 ≤ 1; omega) (by show (0 + nq) ≤ B; omega) ⟨_, rfl, (by first | exact hcp | (have hz : nq = n0 := (by omega); rw [hz]; exact hcp)), (CyI_of ha_x.1 hq_6 eS_7 eS_16 (by decide) (by decide) (fun i h1 h2 => by have hzn := z_nat (x := v_14) rfl (by omega); omega))⟩ dJ7_copyOf_59c91_32
  · have z_b_18 := trivial
    have k_19 : a1_z = v_1.toInt := z_eq hz_a1 rfl c_3
    refine lv_aload_n X.1 X.2.1 dJ7_copyOf_59c91_6 rfl (lv_at hl 0 rfl) ?_
    refine r_clone9 X hw hl ha_x rfl (X.2.2.2.1 (.methodLink RJ7 316 ⟨"[I", "clone", "()Ljava/lang/Object;"⟩) (by decide +kernel)) (X.2.2.2.1 (.sameMethod "[I" "java/lang/Object" "clone" "()Ljava/lang/Object;") (by decide +kernel)) (X.2.2.2.1 (.native ⟨"java/lang/Object", "clone", "()Ljava/lang/Object;"⟩) (by decide +kernel)) (X.2.2.2.1 (.instanceMethod ⟨"java/lang/Object", "clone", "()Ljava/lang/Object;"⟩) (by decide +kernel)) (X.2.2.2.1 (.selects "[I" ⟨"[I", "clone", "()Ljava/lang/Object;"⟩ ⟨"java/lang/Object", "clone", "()Ljava/lang/Object;"⟩) (by decide +kernel)) (Nat.le_of_ble_eq_true rfl) (Nat.le_of_ble_eq_true rfl) (Nat.le_of_ble_eq_true rfl) (by show 0 + pN S x ≤ _; rw [hp_0]; show 0 + n0 ≤ B; omega) dJ7_copyOf_59c91_7 (fun q_20 H hq_20 hw => ?_)
    rw [hp_0]
    rw [hp_0] at hw
    obtain ⟨S_21, eS_21⟩ : ∃ T, T = sN S q_20 1654 n0 := ⟨_, rfl⟩
    rw [← eS_21] at hw
    obtain ⟨S_22, eS_22⟩ : ∃ T, T = sA S_21 q_20 (pA S x) := ⟨_, rfl⟩
    rw [← eS_22] at hw
    have hcp := Cp9_of hC hq_20 eS_21 eS_22
    have ha_q_20 := hcp.2.2.1
    refine r_castI X hw ha_q_20 rfl (X.2.2.2.1 (.classLink RJ7 317 "[I") (by decide +kernel)) dJ7_copyOf_59c91_10 ?_
    exact ret_qA (some q_20) rfl X hw hr hlocks (by show 1 ≤ 1; omega) (by show (0 + n0) ≤ B; omega) ⟨_, rfl, (by first | exact hcp | (have hz : nq = n0 := (by omega); rw [hz]; exact hcp)), (fun i _ _ => by rw [eS_22]; exact congrFun (if_pos rfl) i)⟩ dJ7_copyOf_59c91_13
set_option maxHeartbeats 4000000 in
set_option maxRecDepth 100000 in
theorem k_J7_copyOf_59c91_E (l : Launch) (G : va_G) (cy : Nat → ClassId) (κ : Nat → Nat) (S : PS) (sz : Nat) (x : Nat) (a1 : Int32) (a1_z : Int) (n0 : Nat) (nq : Nat) (B : Nat) (hC : CI S) (ha_x : At S x 1634) (hz_a1 : a1.toInt = a1_z) (hp_0 : pN S x = n0) (hp_1 : a1_z = (nq : Int)) (hp_2 : nq ≤ 3600) (hp_3 : n0 ≤ 3600) (hp_4 : nq ≤ B) : Cq l yJ7_copyOf_59c91 wsJ7_copyOf_59c91 ({ frames := 2, cells := 1, slots := B, locals := 96 }) G cy κ S sz [.ref x, .int (a1)] (fun (r : Option Nat) (S9 : PS) => ∃ q, r = some q ∧ Cp9 S S9 q nq ∧ CyI S S9 x q n0 nq) := by
  refine ent_m (cc := cJ7_copyOf_59c91) (maxL := 3) (ret := (some (.array .int))) (by decide) rfl (Nat.le_of_ble_eq_true rfl) ?_
  intro p e s m below meth c ls X hr hlocks hin hw hl hsz
  subst hsz
  have X : Cx p c cJ7_copyOf_59c91 3 s [.ref x, .int (a1)].toArray wsJ7_copyOf_59c91 RJ7 m G cy κ (AS S s.heap.size) := X
  have hl : lv_has ls 3 [(0, .ref x), (1, .int (a1))] := hl
  have rg_a1 : (-2147483648) ≤ a1_z ∧ a1_z ≤ 2147483647 := by rw [← hz_a1]; exact ⟨z_lo _, z_hi _⟩
  refine lv_iload_n X.1 X.2.1 dJ7_copyOf_59c91_0 rfl (lv_at hl 1 rfl) ?_
  refine lv_aload_n X.1 X.2.1 dJ7_copyOf_59c91_1 rfl (lv_at hl 0 rfl) ?_
  refine r_alen X hw ha_x rfl (by decide) rfl dJ7_copyOf_59c91_2 ?_
  rw [hp_0]
  refine lv_topi (fun v_1 ev_1 => ?_)
  have z_2 : v_1.toInt = (n0 : Int) := z_len ev_1 (by omega)
  refine lv_icmp_ne (tgt := 14) X.1 X.2.1 dJ7_copyOf_59c91_3 (by decide) (fun c_3 => ?_) (fun c_3 => ?_)
  · have z_b_4 := trivial
    have k_5 : a1_z ≠ v_1.toInt := z_ne hz_a1 rfl c_3
    refine lv_iload_n X.1 X.2.1 dJ7_copyOf_59c91_14 rfl (lv_at hl 1 rfl) ?_
    refine r_newI (N := nq) X hw 1654 (0 + nq) 1 rfl (X.2.2.2.1 (.arrayClass .int) (by decide +kernel)) (z_nn hz_a1 (by omega)) (z_tn (by have := hz_a1; omega) (by have := hz_a1; omega)) (by omega) (by show 0 + 1 ≤ 1; omega) (by show 0 + nq ≤ (0 + nq); omega) (by show 1 ≤ 1; omega) (by show (0 + nq) ≤ B; omega) dJ7_copyOf_59c91_15 (fun q_6 H hq_6 hw => ?_)
    obtain ⟨S_7, eS_7⟩ : ∃ T, T = sN S q_6 1654 nq := ⟨_, rfl⟩
    rw [← eS_7] at hw
    have ha_8 : At S_7 q_6 1654 := by rw [eS_7]; exact At_nN _ _ _ _
    have hn_9 : pN S_7 q_6 = nq := by rw [eS_7]; exact pN_sN_new
    refine lv_astore_n (lv' := [(2, .ref q_6), (0, .ref x), (1, .int (a1))]) X.1 X.2.1 dJ7_copyOf_59c91_17 rfl hl (by decide) rfl (fun ls hl => ?_)
    refine lv_aload_n X.1 X.2.1 dJ7_copyOf_59c91_18 rfl (lv_at hl 1 rfl) ?_
    refine lv_iconst (v := 0) X.1 X.2.1 dJ7_copyOf_59c91_19 (by decide) ?_
    refine lv_aload_n X.1 X.2.1 dJ7_copyOf_59c91_20 rfl (lv_at hl 0 rfl) ?_
    refine lv_iconst (v := 0) X.1 X.2.1 dJ7_copyOf_59c91_21 (by decide) ?_
    refine lv_aload_n X.1 X.2.1 dJ7_copyOf_59c91_22 rfl (lv_at hl 1 rfl) ?_
    have t_10 : At S_7 x 1634 := by rw [eS_7]; exact At_sN ha_x hq_6
    have t_11 : pN S_7 x = n0 := by rw [eS_7]; exact (pN_sN_ne (ne_of_new hq_6 ha_x.1)).trans hp_0
    refine r_alen X hw t_10 rfl (by decide) rfl dJ7_copyOf_59c91_23 ?_
    rw [t_11]
    refine lv_topi (fun v_12 ev_12 => ?_)
    have z_13 : v_12.toInt = (n0 : Int) := z_len ev_12 (by omega)
    refine lv_iload_n X.1 X.2.1 dJ7_copyOf_59c91_24 rfl (lv_at hl 2 rfl) ?_
    refine va_mmin X.1 X.2.1 (X.2.2.1.trans hl.1.symm) X.2.2.2.2.1 (X.2.2.2.1 (.methodLink RJ7 304 Lib.Math.min.name) (by decide +kernel)) (X.2.2.2.1 (.static Lib.Math.min.name) (by decide +kernel)) (X.2.2.2.1 (.initialized "java/lang/Math") (by decide +kernel)) (X.2.2.2.1 (.code Lib.Math.min.name Lib.Math.min.code 2 (some .int)) (by decide +kernel)) (Nat.le_of_ble_eq_true rfl) (Nat.le_of_ble_eq_true rfl) (by show 1 ≤ 1; omega) (by show (0 + nq) ≤ B; omega) dJ7_copyOf_59c91_25 ?_
    refine lv_topi (fun v_14 ev_14 => ?_)
    have z_15 := z_min ev_14 rfl hz_a1
    refine r_copyI X hw hl t_10 rfl ha_8 rfl (X.2.2.2.1 (.methodLink RJ7 150 arraycopyName) (by decide +kernel)) (X.2.2.2.1 (.native arraycopyName) (by decide +kernel)) (X.2.2.2.1 (.static arraycopyName) (by decide +kernel)) (X.2.2.2.1 (.initialized "java/lang/System") (by decide +kernel)) (by rw [t_11]; exact z_cp ti_0 rfl (by omega) (by omega) (by omega)) (by rw [hn_9]; exact z_cp ti_0 rfl (by omega) (by omega) (by omega)) (z_nn ti_0 (by omega)) (z_nn ti_0 (by omega)) (z_nn rfl (by omega)) (Nat.le_of_ble_eq_true rfl) (Nat.le_of_ble_eq_true rfl) dJ7_copyOf_59c91_28 (fun H locs hw => ?_)
    obtain ⟨S_16, eS_16⟩ : ∃ T, T = sA S_7 q_6 (va_cpy (pA S_7 x) (pA S_7 q_6) (Int32.toNatClampNeg (0)) (Int32.toNatClampNeg (0)) (Int32.toNatClampNeg (v_14))) := ⟨_, rfl⟩
    rw [← eS_16] at hw
    have hcp := Cp9_of hC hq_6 eS_7 eS_16
    refine lv_aload_n X.1 X.2.1 dJ7_copyOf_59c91_31 rfl (lv_at hl 0 rfl) ?_
    have t_17 : At S_16 q_6 1654 := tAt_sA eS_16 ha_8
    exact ret_qA (some q_6) rfl X hw hr hlocks (by show 1 ≤ 1; omega) (by show (0 + nq) ≤ B; omega) ⟨_, rfl, (by first | exact hcp | (have hz : nq = n0 := (by omega); rw [hz]; exact hcp)), (CyI_of ha_x.1 hq_6 eS_7 eS_16 (by decide) (by decide) (fun i h1 h2 => by have hzn := z_nat (x := v_14) rfl (by omega); omega))⟩ dJ7_copyOf_59c91_32
  · have z_b_18 := trivial
    have k_19 : a1_z = v_1.toInt := z_eq hz_a1 rfl c_3
    refine lv_aload_n X.1 X.2.1 dJ7_copyOf_59c91_6 rfl (lv_at hl 0 rfl) ?_
    refine r_clone9 X hw hl ha_x rfl (X.2.2.2.1 (.methodLink RJ7 316 ⟨"[I", "clone", "()Ljava/lang/Object;"⟩) (by decide +kernel)) (X.2.2.2.1 (.sameMethod "[I" "java/lang/Object" "clone" "()Ljava/lang/Object;") (by decide +kernel)) (X.2.2.2.1 (.native ⟨"java/lang/Object", "clone", "()Ljava/lang/Object;"⟩) (by decide +kernel)) (X.2.2.2.1 (.instanceMethod ⟨"java/lang/Object", "clone", "()Ljava/lang/Object;"⟩) (by decide +kernel)) (X.2.2.2.1 (.selects "[I" ⟨"[I", "clone", "()Ljava/lang/Object;"⟩ ⟨"java/lang/Object", "clone", "()Ljava/lang/Object;"⟩) (by decide +kernel)) (Nat.le_of_ble_eq_true rfl) (Nat.le_of_ble_eq_true rfl) (Nat.le_of_ble_eq_true rfl) (by show 0 + pN S x ≤ _; rw [hp_0]; show 0 + n0 ≤ B; omega) dJ7_copyOf_59c91_7 (fun q_20 H hq_20 hw => ?_)
    rw [hp_0]
    rw [hp_0] at hw
    obtain ⟨S_21, eS_21⟩ : ∃ T, T = sN S q_20 1654 n0 := ⟨_, rfl⟩
    rw [← eS_21] at hw
    obtain ⟨S_22, eS_22⟩ : ∃ T, T = sA S_21 q_20 (pA S x) := ⟨_, rfl⟩
    rw [← eS_22] at hw
    have hcp := Cp9_of hC hq_20 eS_21 eS_22
    have ha_q_20 := hcp.2.2.1
    refine r_castI X hw ha_q_20 rfl (X.2.2.2.1 (.classLink RJ7 317 "[I") (by decide +kernel)) dJ7_copyOf_59c91_10 ?_
    exact ret_qA (some q_20) rfl X hw hr hlocks (by show 1 ≤ 1; omega) (by show (0 + n0) ≤ B; omega) ⟨_, rfl, (by first | exact hcp | (have hz : nq = n0 := (by omega); rw [hz]; exact hcp)), (fun i _ _ => by rw [eS_22]; exact congrFun (if_pos rfl) i)⟩ dJ7_copyOf_59c91_13
set_option maxHeartbeats 4000000 in
set_option maxRecDepth 100000 in
theorem k_J7_copyOf_59c91_G (l : Launch) (G : va_G) (cy : Nat → ClassId) (κ : Nat → Nat) (S : PS) (sz : Nat) (x : Nat) (a1 : Int32) (a1_z : Int) (n0 : Nat) (nq : Nat) (B : Nat) (hC : CI S) (ha_x : At S x 14) (hz_a1 : a1.toInt = a1_z) (hp_0 : pN S x = n0) (hp_1 : a1_z = (nq : Int)) (hp_2 : nq ≤ 3600) (hp_3 : n0 ≤ 3600) (hp_4 : nq ≤ B) : Cq l yJ7_copyOf_59c91 wsJ7_copyOf_59c91 ({ frames := 2, cells := 1, slots := B, locals := 96 }) G cy κ S sz [.ref x, .int (a1)] (fun (r : Option Nat) (S9 : PS) => ∃ q, r = some q ∧ Cp9 S S9 q nq ∧ CyI S S9 x q n0 nq) := by
  refine ent_m (cc := cJ7_copyOf_59c91) (maxL := 3) (ret := (some (.array .int))) (by decide) rfl (Nat.le_of_ble_eq_true rfl) ?_
  intro p e s m below meth c ls X hr hlocks hin hw hl hsz
  subst hsz
  have X : Cx p c cJ7_copyOf_59c91 3 s [.ref x, .int (a1)].toArray wsJ7_copyOf_59c91 RJ7 m G cy κ (AS S s.heap.size) := X
  have hl : lv_has ls 3 [(0, .ref x), (1, .int (a1))] := hl
  have rg_a1 : (-2147483648) ≤ a1_z ∧ a1_z ≤ 2147483647 := by rw [← hz_a1]; exact ⟨z_lo _, z_hi _⟩
  refine lv_iload_n X.1 X.2.1 dJ7_copyOf_59c91_0 rfl (lv_at hl 1 rfl) ?_
  refine lv_aload_n X.1 X.2.1 dJ7_copyOf_59c91_1 rfl (lv_at hl 0 rfl) ?_
  refine r_alen X hw ha_x rfl (by decide) rfl dJ7_copyOf_59c91_2 ?_
  rw [hp_0]
  refine lv_topi (fun v_1 ev_1 => ?_)
  have z_2 : v_1.toInt = (n0 : Int) := z_len ev_1 (by omega)
  refine lv_icmp_ne (tgt := 14) X.1 X.2.1 dJ7_copyOf_59c91_3 (by decide) (fun c_3 => ?_) (fun c_3 => ?_)
  · have z_b_4 := trivial
    have k_5 : a1_z ≠ v_1.toInt := z_ne hz_a1 rfl c_3
    refine lv_iload_n X.1 X.2.1 dJ7_copyOf_59c91_14 rfl (lv_at hl 1 rfl) ?_
    refine r_newI (N := nq) X hw 1654 (0 + nq) 1 rfl (X.2.2.2.1 (.arrayClass .int) (by decide +kernel)) (z_nn hz_a1 (by omega)) (z_tn (by have := hz_a1; omega) (by have := hz_a1; omega)) (by omega) (by show 0 + 1 ≤ 1; omega) (by show 0 + nq ≤ (0 + nq); omega) (by show 1 ≤ 1; omega) (by show (0 + nq) ≤ B; omega) dJ7_copyOf_59c91_15 (fun q_6 H hq_6 hw => ?_)
    obtain ⟨S_7, eS_7⟩ : ∃ T, T = sN S q_6 1654 nq := ⟨_, rfl⟩
    rw [← eS_7] at hw
    have ha_8 : At S_7 q_6 1654 := by rw [eS_7]; exact At_nN _ _ _ _
    have hn_9 : pN S_7 q_6 = nq := by rw [eS_7]; exact pN_sN_new
    refine lv_astore_n (lv' := [(2, .ref q_6), (0, .ref x), (1, .int (a1))]) X.1 X.2.1 dJ7_copyOf_59c91_17 rfl hl (by decide) rfl (fun ls hl => ?_)
    refine lv_aload_n X.1 X.2.1 dJ7_copyOf_59c91_18 rfl (lv_at hl 1 rfl) ?_
    refine lv_iconst (v := 0) X.1 X.2.1 dJ7_copyOf_59c91_19 (by decide) ?_
    refine lv_aload_n X.1 X.2.1 dJ7_copyOf_59c91_20 rfl (lv_at hl 0 rfl) ?_
    refine lv_iconst (v := 0) X.1 X.2.1 dJ7_copyOf_59c91_21 (by decide) ?_
    refine lv_aload_n X.1 X.2.1 dJ7_copyOf_59c91_22 rfl (lv_at hl 1 rfl) ?_
    have t_10 : At S_7 x 14 := by rw [eS_7]; exact At_sN ha_x hq_6
    have t_11 : pN S_7 x = n0 := by rw [eS_7]; exact (pN_sN_ne (ne_of_new hq_6 ha_x.1)).trans hp_0
    refine r_alen X hw t_10 rfl (by decide) rfl dJ7_copyOf_59c91_23 ?_
    rw [t_11]
    refine lv_topi (fun v_12 ev_12 => ?_)
    have z_13 : v_12.toInt = (n0 : Int) := z_len ev_12 (by omega)
    refine lv_iload_n X.1 X.2.1 dJ7_copyOf_59c91_24 rfl (lv_at hl 2 rfl) ?_
    refine va_mmin X.1 X.2.1 (X.2.2.1.trans hl.1.symm) X.2.2.2.2.1 (X.2.2.2.1 (.methodLink RJ7 304 Lib.Math.min.name) (by decide +kernel)) (X.2.2.2.1 (.static Lib.Math.min.name) (by decide +kernel)) (X.2.2.2.1 (.initialized "java/lang/Math") (by decide +kernel)) (X.2.2.2.1 (.code Lib.Math.min.name Lib.Math.min.code 2 (some .int)) (by decide +kernel)) (Nat.le_of_ble_eq_true rfl) (Nat.le_of_ble_eq_true rfl) (by show 1 ≤ 1; omega) (by show (0 + nq) ≤ B; omega) dJ7_copyOf_59c91_25 ?_
    refine lv_topi (fun v_14 ev_14 => ?_)
    have z_15 := z_min ev_14 rfl hz_a1
    refine r_copyI X hw hl t_10 rfl ha_8 rfl (X.2.2.2.1 (.methodLink RJ7 150 arraycopyName) (by decide +kernel)) (X.2.2.2.1 (.native arraycopyName) (by decide +kernel)) (X.2.2.2.1 (.static arraycopyName) (by decide +kernel)) (X.2.2.2.1 (.initialized "java/lang/System") (by decide +kernel)) (by rw [t_11]; exact z_cp ti_0 rfl (by omega) (by omega) (by omega)) (by rw [hn_9]; exact z_cp ti_0 rfl (by omega) (by omega) (by omega)) (z_nn ti_0 (by omega)) (z_nn ti_0 (by omega)) (z_nn rfl (by omega)) (Nat.le_of_ble_eq_true rfl) (Nat.le_of_ble_eq_true rfl) dJ7_copyOf_59c91_28 (fun H locs hw => ?_)
    obtain ⟨S_16, eS_16⟩ : ∃ T, T = sA S_7 q_6 (va_cpy (pA S_7 x) (pA S_7 q_6) (Int32.toNatClampNeg (0)) (Int32.toNatClampNeg (0)) (Int32.toNatClampNeg (v_14))) := ⟨_, rfl⟩
    rw [← eS_16] at hw
    have hcp := Cp9_of hC hq_6 eS_7 eS_16
    refine lv_aload_n X.1 X.2.1 dJ7_copyOf_59c91_31 rfl (lv_at hl 0 rfl) ?_
    have t_17 : At S_16 q_6 1654 := tAt_sA eS_16 ha_8
    exact ret_qA (some q_6) rfl X hw hr hlocks (by show 1 ≤ 1; omega) (by show (0 + nq) ≤ B; omega) ⟨_, rfl, (by first | exact hcp | (have hz : nq = n0 := (by omega); rw [hz]; exact hcp)), (CyI_of ha_x.1 hq_6 eS_7 eS_16 (by decide) (by decide) (fun i h1 h2 => by have hzn := z_nat (x := v_14) rfl (by omega); omega))⟩ dJ7_copyOf_59c91_32
  · have z_b_18 := trivial
    have k_19 : a1_z = v_1.toInt := z_eq hz_a1 rfl c_3
    refine lv_aload_n X.1 X.2.1 dJ7_copyOf_59c91_6 rfl (lv_at hl 0 rfl) ?_
    refine r_clone9 X hw hl ha_x rfl (X.2.2.2.1 (.methodLink RJ7 316 ⟨"[I", "clone", "()Ljava/lang/Object;"⟩) (by decide +kernel)) (X.2.2.2.1 (.sameMethod "[I" "java/lang/Object" "clone" "()Ljava/lang/Object;") (by decide +kernel)) (X.2.2.2.1 (.native ⟨"java/lang/Object", "clone", "()Ljava/lang/Object;"⟩) (by decide +kernel)) (X.2.2.2.1 (.instanceMethod ⟨"java/lang/Object", "clone", "()Ljava/lang/Object;"⟩) (by decide +kernel)) (X.2.2.2.1 (.selects "[I" ⟨"[I", "clone", "()Ljava/lang/Object;"⟩ ⟨"java/lang/Object", "clone", "()Ljava/lang/Object;"⟩) (by decide +kernel)) (Nat.le_of_ble_eq_true rfl) (Nat.le_of_ble_eq_true rfl) (Nat.le_of_ble_eq_true rfl) (by show 0 + pN S x ≤ _; rw [hp_0]; show 0 + n0 ≤ B; omega) dJ7_copyOf_59c91_7 (fun q_20 H hq_20 hw => ?_)
    rw [hp_0]
    rw [hp_0] at hw
    obtain ⟨S_21, eS_21⟩ : ∃ T, T = sN S q_20 1654 n0 := ⟨_, rfl⟩
    rw [← eS_21] at hw
    obtain ⟨S_22, eS_22⟩ : ∃ T, T = sA S_21 q_20 (pA S x) := ⟨_, rfl⟩
    rw [← eS_22] at hw
    have hcp := Cp9_of hC hq_20 eS_21 eS_22
    have ha_q_20 := hcp.2.2.1
    refine r_castI X hw ha_q_20 rfl (X.2.2.2.1 (.classLink RJ7 317 "[I") (by decide +kernel)) dJ7_copyOf_59c91_10 ?_
    exact ret_qA (some q_20) rfl X hw hr hlocks (by show 1 ≤ 1; omega) (by show (0 + n0) ≤ B; omega) ⟨_, rfl, (by first | exact hcp | (have hz : nq = n0 := (by omega); rw [hz]; exact hcp)), (fun i _ _ => by rw [eS_22]; exact congrFun (if_pos rfl) i)⟩ dJ7_copyOf_59c91_13
