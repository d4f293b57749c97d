set_option maxRecDepth 20000 in
theorem ggX12_condition_X12_which : GoodIn wsX12_condition wsX12_which := goodIn_h _ [5, 3, 0, 0, 0, 0, 0, 0, 0, 0, 0, 0, 0, 0, 0, 0, 0, 0, 0, 0, 0, 0, 0, 0, 0, 0, 0, 0, 0, 0, 0, 0, 0, 0, 0, 0, 0, 0, 0, 0, 0, 0, 0, 0, 0, 0, 0, 0, 0, 0, 0, 0, 0, 0, 0, 0, 0, 0, 0, 0, 0, 21, 0, 0, 0, 0, 0, 0, 0, 0, 0, 0, 0, 0, 0, 0, 0, 0, 0, 0, 0, 0, 0, 0, 0, 0, 0, 0, 0, 0, 0, 0, 0, 0, 0, 0, 0, 0, 0, 0, 0, 0, 0, 0, 0, 0, 0, 0, 0, 0, 0, 0, 0, 0, 0, 0, 0, 0, 0, 0, 0, 0, 0, 0, 0, 0, 0] [2, 3, 0, 4, 5, 6, 7, 8, 9, 10, 11, 12, 13, 14, 15, 16, 17, 18, 19, 20, 21, 22, 23, 24, 25, 26, 27, 28, 29, 30, 31, 32, 33, 34, 35, 36, 37, 38, 39, 40, 41, 42, 43, 44, 45, 46, 47, 48, 49, 50, 51, 52, 53, 54, 55, 56, 57, 1, 58, 59, 60, 61, 62, 63, 64, 65, 66, 67, 68, 69, 70, 71, 72, 73, 74, 75, 76, 77, 78, 79, 80, 81, 82, 83, 84, 85, 86, 87, 88, 89, 90, 91, 92, 93, 94, 95, 96, 97, 98, 99, 100, 101, 102, 103, 104, 105, 106, 107, 108, 109, 110, 111, 112, 113, 114, 115, 116, 117, 118, 119, 120, 121, 122, 123, 124, 125, 126] (by decide +kernel) (by decide +kernel)
set_option maxRecDepth 20000 in
theorem gX12_condition_X12_which : GoodIn wsX12_condition (wsV RX12 254 RX12 yX12_which wsX12_which) := goodIn_app (goodIn_of _ (by decide +kernel)) ggX12_condition_X12_which
set_option maxRecDepth 20000 in
theorem ggX12_condition_X12_wrong : GoodIn wsX12_condition wsX12_wrong := goodIn_h _ [5, 7, 58, 0, 16, 0, 0, 0, 0, 0, 0, 0, 0, 0, 0, 0, 0, 0, 0, 0, 0, 0, 0, 0, 0, 0, 0, 0, 0, 0, 0, 0, 0, 0, 0, 0, 0, 0, 0, 0, 0, 0, 0, 0, 0, 0, 0, 0, 0, 0, 0, 0, 0, 0, 0, 0, 0, 0, 0, 0, 0, 0, 0, 0, 0, 0, 0, 0, 0, 0] [2, 0, 1, 3, 4, 5, 6, 7, 8, 9, 10, 11, 12, 13, 14, 15, 16, 17, 18, 19, 20, 21, 22, 23, 24, 25, 26, 27, 28, 29, 30, 31, 32, 33, 34, 35, 36, 37, 38, 39, 40, 41, 42, 43, 44, 45, 46, 47, 48, 49, 50, 51, 52, 53, 54, 55, 56, 57, 58, 59, 60, 61, 62, 63, 64, 65, 66, 67, 68, 69] (by decide +kernel) (by decide +kernel)
set_option maxRecDepth 20000 in
theorem gX12_condition_X12_wrong : GoodIn wsX12_condition (wsV RX12 246 RX12 yX12_wrong wsX12_wrong) := goodIn_app (goodIn_of _ (by decide +kernel)) ggX12_condition_X12_wrong
set_option maxRecDepth 20000 in
theorem ggX12_condition_X12_token : GoodIn wsX12_condition wsX12_token := goodIn_h _ [9, 1, 0, 0, 49, 0, 0, 0, 0, 0, 8, 0, 0, 0, 0, 8, 0, 0, 0, 0, 0, 0, 0, 0, 0, 0, 0, 0, 0, 0, 0, 0, 0, 0, 0, 0, 0, 0, 0, 0, 0, 0, 0, 0, 0, 0, 0, 0, 0, 0, 0, 0, 0, 0, 0, 0, 0, 0, 0, 0, 0, 0, 0, 0, 0, 0, 0, 0, 0, 0, 0, 0, 0, 0, 0, 0, 0, 0, 0, 0, 0] [10, 2, 3, 8, 1, 11, 4, 5, 6, 0, 7, 9, 12, 13, 14, 15, 16, 17, 18, 19, 20, 21, 22, 23, 24, 25, 26, 27, 28, 29, 30, 31, 32, 33, 34, 35, 36, 37, 38, 39, 40, 41, 42, 43, 44, 45, 46, 47, 48, 49, 50, 51, 52, 53, 54, 55, 56, 57, 58, 59, 60, 61, 62, 63, 64, 65, 66, 67, 68, 69, 70, 71, 72, 73, 74, 75, 76, 77, 78, 79, 80] (by decide +kernel) (by decide +kernel)
set_option maxRecDepth 20000 in
theorem gX12_condition_X12_token : GoodIn wsX12_condition (wsV RX12 249 RX12 yX12_token wsX12_token) := goodIn_app (goodIn_of _ (by decide +kernel)) ggX12_condition_X12_token
set_option maxRecDepth 20000 in
theorem ggX12_condition_X12_is : GoodIn wsX12_condition wsX12_is := goodIn_h _ [5, 3, 2, 0, 0, 0, 0, 0, 0, 0, 0, 0, 0, 0, 0, 0, 0, 0, 0, 0, 0, 0, 0, 0, 0, 0, 0, 0, 0, 0, 0, 0, 0, 0, 0, 0, 0, 0, 0, 0, 0, 0, 0, 0, 0, 0, 0, 0, 0, 0, 0, 0, 0, 0, 0, 0, 0, 0, 0, 16, 4, 0, 0, 0, 0, 0, 0, 0, 0, 0, 0, 0, 0, 0, 0, 0, 0, 0, 0, 0, 0, 0, 0, 0, 0, 0, 0, 0, 0, 0, 0, 0, 0, 0, 0, 0, 0, 0, 0, 0, 0, 0, 0, 0, 0, 0, 0, 0, 0, 0, 0, 0, 0, 0, 0, 0, 0, 0, 0, 0, 0, 0, 0, 0, 0, 0] [59, 0, 2, 3, 4, 5, 6, 7, 8, 9, 10, 11, 12, 13, 14, 15, 53, 54, 55, 1, 56, 57, 58, 16, 17, 18, 19, 20, 21, 22, 23, 24, 25, 26, 27, 28, 29, 30, 31, 32, 33, 34, 35, 36, 37, 38, 39, 40, 41, 42, 43, 44, 45, 46, 47, 48, 49, 50, 51, 52, 60, 61, 62, 63, 64, 65, 66, 67, 68, 69, 70, 71, 72, 73, 74, 75, 76, 77, 78, 79, 80, 81, 82, 83, 84, 85, 86, 87, 88, 89, 90, 91, 92, 93, 94, 95, 96, 97, 98, 99, 100, 101, 102, 103, 104, 105, 106, 107, 108, 109, 110, 111, 112, 113, 114, 115, 116, 117, 118, 119, 120, 121, 122, 123, 124, 125] (by decide +kernel) (by decide +kernel)
set_option maxRecDepth 20000 in
theorem gX12_condition_X12_is : GoodIn wsX12_condition (wsV RX12 242 RX12 yX12_is wsX12_is) := goodIn_app (goodIn_of _ (by decide +kernel)) ggX12_condition_X12_is
set_option maxRecDepth 20000 in
theorem ggX12_condition_X12_number : GoodIn wsX12_condition wsX12_number := goodIn_h _ [5, 3, 1, 0, 0, 49, 0, 0, 0, 0, 0, 0, 0, 0, 0, 0, 0, 0, 0, 0, 0, 0, 0, 0, 7, 0, 0, 0, 0, 0, 0, 0, 0, 0, 0, 0, 0, 0, 0, 0, 0, 0, 0, 0, 0, 0, 0, 0, 0, 0, 0, 0, 0, 0, 0, 0, 0, 0, 0, 0, 0, 0, 0, 0, 0, 0, 0, 0, 0, 0, 0, 0, 0, 0, 0, 0, 0, 0, 0, 0, 0, 0, 0, 0, 0, 0, 0, 0, 0, 0, 0] [24, 2, 20, 11, 12, 13, 1, 14, 0, 4, 15, 16, 17, 18, 19, 3, 9, 5, 6, 7, 8, 10, 21, 22, 23, 25, 26, 27, 28, 29, 30, 31, 32, 33, 34, 35, 36, 37, 38, 39, 40, 41, 42, 43, 44, 45, 46, 47, 48, 49, 50, 51, 52, 53, 54, 55, 56, 57, 58, 59, 60, 61, 62, 63, 64, 65, 66, 67, 68, 69, 70, 71, 72, 73, 74, 75, 76, 77, 78, 79, 80, 81, 82, 83, 84, 85, 86, 87, 88, 89, 90] (by decide +kernel) (by decide +kernel)
set_option maxRecDepth 20000 in
theorem gX12_condition_X12_number : GoodIn wsX12_condition (wsV RX12 264 RX12 yX12_number wsX12_number) := goodIn_app (goodIn_of _ (by decide +kernel)) ggX12_condition_X12_number
theorem dX12_condition_0 : decode cX12_condition 0 = .ok (.aload_n 0, 1) := by decide +kernel
theorem dX12_condition_1 : decode cX12_condition 1 = .ok (.ldc 252, 2) := by decide +kernel
theorem dX12_condition_3 : decode cX12_condition 3 = .ok (.invokevirtual 254, 3) := by decide +kernel
theorem dX12_condition_6 : decode cX12_condition 6 = .ok (.istore_n 2, 1) := by decide +kernel
theorem dX12_condition_7 : decode cX12_condition 7 = .ok (.iload_n 2, 1) := by decide +kernel
theorem dX12_condition_8 : decode cX12_condition 8 = .ok (.iconst (-1), 1) := by decide +kernel
theorem dX12_condition_9 : decode cX12_condition 9 = .ok (.if_icmp .ne 9, 3) := by decide +kernel
theorem dX12_condition_12 : decode cX12_condition 12 = .ok (.aload_n 0, 1) := by decide +kernel
theorem dX12_condition_13 : decode cX12_condition 13 = .ok (.iconst 1, 1) := by decide +kernel
theorem dX12_condition_14 : decode cX12_condition 14 = .ok (.invokevirtual 246, 3) := by decide +kernel
theorem dX12_condition_17 : decode cX12_condition 17 = .ok (.ireturn, 1) := by decide +kernel
theorem dX12_condition_18 : decode cX12_condition 18 = .ok (.aload_n 0, 1) := by decide +kernel
theorem dX12_condition_19 : decode cX12_condition 19 = .ok (.getfield 70, 3) := by decide +kernel
theorem dX12_condition_22 : decode cX12_condition 22 = .ok (.iload_n 1, 1) := by decide +kernel
theorem dX12_condition_23 : decode cX12_condition 23 = .ok (.iaload, 1) := by decide +kernel
theorem dX12_condition_24 : decode cX12_condition 24 = .ok (.iconst 4, 1) := by decide +kernel
theorem dX12_condition_25 : decode cX12_condition 25 = .ok (.if_icmp .ne 9, 3) := by decide +kernel
theorem dX12_condition_28 : decode cX12_condition 28 = .ok (.aload_n 0, 1) := by decide +kernel
theorem dX12_condition_29 : decode cX12_condition 29 = .ok (.iconst 2, 1) := by decide +kernel
theorem dX12_condition_30 : decode cX12_condition 30 = .ok (.invokevirtual 246, 3) := by decide +kernel
theorem dX12_condition_33 : decode cX12_condition 33 = .ok (.ireturn, 1) := by decide +kernel
theorem dX12_condition_34 : decode cX12_condition 34 = .ok (.iconst 4, 1) := by decide +kernel
theorem dX12_condition_35 : decode cX12_condition 35 = .ok (.iload_n 1, 1) := by decide +kernel
theorem dX12_condition_36 : decode cX12_condition 36 = .ok (.imul, 1) := by decide +kernel
theorem dX12_condition_37 : decode cX12_condition 37 = .ok (.aload_n 0, 1) := by decide +kernel
theorem dX12_condition_38 : decode cX12_condition 38 = .ok (.getfield 70, 3) := by decide +kernel
theorem dX12_condition_41 : decode cX12_condition 41 = .ok (.iload_n 1, 1) := by decide +kernel
theorem dX12_condition_42 : decode cX12_condition 42 = .ok (.iaload, 1) := by decide +kernel
theorem dX12_condition_43 : decode cX12_condition 43 = .ok (.iadd, 1) := by decide +kernel
theorem dX12_condition_44 : decode cX12_condition 44 = .ok (.istore_n 3, 1) := by decide +kernel
theorem dX12_condition_45 : decode cX12_condition 45 = .ok (.aload_n 0, 1) := by decide +kernel
theorem dX12_condition_46 : decode cX12_condition 46 = .ok (.invokevirtual 249, 3) := by decide +kernel
theorem dX12_condition_49 : decode cX12_condition 49 = .ok (.aload_n 0, 1) := by decide +kernel
theorem dX12_condition_50 : decode cX12_condition 50 = .ok (.getfield 73, 3) := by decide +kernel
theorem dX12_condition_53 : decode cX12_condition 53 = .ok (.iload_n 3, 1) := by decide +kernel
theorem dX12_condition_54 : decode cX12_condition 54 = .ok (.iload_n 2, 1) := by decide +kernel
theorem dX12_condition_55 : decode cX12_condition 55 = .ok (.iastore, 1) := by decide +kernel
theorem dX12_condition_56 : decode cX12_condition 56 = .ok (.aload_n 0, 1) := by decide +kernel
theorem dX12_condition_57 : decode cX12_condition 57 = .ok (.getfield 76, 3) := by decide +kernel
theorem dX12_condition_60 : decode cX12_condition 60 = .ok (.iload_n 3, 1) := by decide +kernel
theorem dX12_condition_61 : decode cX12_condition 61 = .ok (.aload_n 0, 1) := by decide +kernel
theorem dX12_condition_62 : decode cX12_condition 62 = .ok (.ldc_w 258, 3) := by decide +kernel
theorem dX12_condition_65 : decode cX12_condition 65 = .ok (.invokevirtual 242, 3) := by decide +kernel
theorem dX12_condition_68 : decode cX12_condition 68 = .ok (.ifCond .eq 7, 3) := by decide +kernel
theorem dX12_condition_71 : decode cX12_condition 71 = .ok (.iconst 0, 1) := by decide +kernel
theorem dX12_condition_72 : decode cX12_condition 72 = .ok (.goto 18, 3) := by decide +kernel
theorem dX12_condition_75 : decode cX12_condition 75 = .ok (.aload_n 0, 1) := by decide +kernel
theorem dX12_condition_76 : decode cX12_condition 76 = .ok (.ldc_w 260, 3) := by decide +kernel
theorem dX12_condition_79 : decode cX12_condition 79 = .ok (.invokevirtual 242, 3) := by decide +kernel
theorem dX12_condition_82 : decode cX12_condition 82 = .ok (.ifCond .eq 7, 3) := by decide +kernel
theorem dX12_condition_85 : decode cX12_condition 85 = .ok (.iconst 1, 1) := by decide +kernel
theorem dX12_condition_86 : decode cX12_condition 86 = .ok (.goto 4, 3) := by decide +kernel
theorem dX12_condition_89 : decode cX12_condition 89 = .ok (.iconst 2, 1) := by decide +kernel
theorem dX12_condition_90 : decode cX12_condition 90 = .ok (.iastore, 1) := by decide +kernel
theorem dX12_condition_91 : decode cX12_condition 91 = .ok (.aload_n 0, 1) := by decide +kernel
theorem dX12_condition_92 : decode cX12_condition 92 = .ok (.ldc_w 258, 3) := by decide +kernel
theorem dX12_condition_95 : decode cX12_condition 95 = .ok (.invokevirtual 242, 3) := by decide +kernel
theorem dX12_condition_98 : decode cX12_condition 98 = .ok (.ifCond .ne 29, 3) := by decide +kernel
theorem dX12_condition_101 : decode cX12_condition 101 = .ok (.aload_n 0, 1) := by decide +kernel
theorem dX12_condition_102 : decode cX12_condition 102 = .ok (.ldc_w 260, 3) := by decide +kernel
theorem dX12_condition_105 : decode cX12_condition 105 = .ok (.invokevirtual 242, 3) := by decide +kernel
theorem dX12_condition_108 : decode cX12_condition 108 = .ok (.ifCond .ne 19, 3) := by decide +kernel
theorem dX12_condition_111 : decode cX12_condition 111 = .ok (.aload_n 0, 1) := by decide +kernel
theorem dX12_condition_112 : decode cX12_condition 112 = .ok (.ldc_w 262, 3) := by decide +kernel
theorem dX12_condition_115 : decode cX12_condition 115 = .ok (.invokevirtual 242, 3) := by decide +kernel
theorem dX12_condition_118 : decode cX12_condition 118 = .ok (.ifCond .ne 9, 3) := by decide +kernel
theorem dX12_condition_121 : decode cX12_condition 121 = .ok (.aload_n 0, 1) := by decide +kernel
theorem dX12_condition_122 : decode cX12_condition 122 = .ok (.iconst 1, 1) := by decide +kernel
theorem dX12_condition_123 : decode cX12_condition 123 = .ok (.invokevirtual 246, 3) := by decide +kernel
theorem dX12_condition_126 : decode cX12_condition 126 = .ok (.ireturn, 1) := by decide +kernel
theorem dX12_condition_127 : decode cX12_condition 127 = .ok (.aload_n 0, 1) := by decide +kernel
theorem dX12_condition_128 : decode cX12_condition 128 = .ok (.invokevirtual 249, 3) := by decide +kernel
theorem dX12_condition_131 : decode cX12_condition 131 = .ok (.aload_n 0, 1) := by decide +kernel
theorem dX12_condition_132 : decode cX12_condition 132 = .ok (.getfield 79, 3) := by decide +kernel
theorem dX12_condition_135 : decode cX12_condition 135 = .ok (.iload_n 3, 1) := by decide +kernel
theorem dX12_condition_136 : decode cX12_condition 136 = .ok (.aload_n 0, 1) := by decide +kernel
theorem dX12_condition_137 : decode cX12_condition 137 = .ok (.invokevirtual 264, 3) := by decide +kernel
theorem dX12_condition_140 : decode cX12_condition 140 = .ok (.iastore, 1) := by decide +kernel
theorem dX12_condition_141 : decode cX12_condition 141 = .ok (.aload_n 0, 1) := by decide +kernel
theorem dX12_condition_142 : decode cX12_condition 142 = .ok (.getfield 70, 3) := by decide +kernel
theorem dX12_condition_145 : decode cX12_condition 145 = .ok (.iload_n 1, 1) := by decide +kernel
theorem dX12_condition_146 : decode cX12_condition 146 = .ok (.dup2, 1) := by decide +kernel
theorem dX12_condition_147 : decode cX12_condition 147 = .ok (.iaload, 1) := by decide +kernel
theorem dX12_condition_148 : decode cX12_condition 148 = .ok (.iconst 1, 1) := by decide +kernel
theorem dX12_condition_149 : decode cX12_condition 149 = .ok (.iadd, 1) := by decide +kernel
theorem dX12_condition_150 : decode cX12_condition 150 = .ok (.iastore, 1) := by decide +kernel
theorem dX12_condition_151 : decode cX12_condition 151 = .ok (.aload_n 0, 1) := by decide +kernel
theorem dX12_condition_152 : decode cX12_condition 152 = .ok (.getfield 229, 3) := by decide +kernel
theorem dX12_condition_155 : decode cX12_condition 155 = .ok (.ifCond .ne 7, 3) := by decide +kernel
theorem dX12_condition_158 : decode cX12_condition 158 = .ok (.iconst 1, 1) := by decide +kernel
theorem dX12_condition_159 : decode cX12_condition 159 = .ok (.goto 4, 3) := by decide +kernel
theorem dX12_condition_162 : decode cX12_condition 162 = .ok (.iconst 0, 1) := by decide +kernel
theorem dX12_condition_163 : decode cX12_condition 163 = .ok (.ireturn, 1) := by decide +kernel
theorem inn_X12_condition_12 : ∀ w ∈ u_ws RX12 TX12 66, w ∈ wsX12_condition := fun w h => List.mem_cons_of_mem _ (List.mem_append_right _ h)
set_option maxHeartbeats 4000000 in
set_option maxRecDepth 100000 in
theorem k_X12_condition (l : Launch) (G : va_G) (cy : Nat → ClassId) (κ : Nat → Nat) (S : PS) (sz : Nat) (x : Nat) (a1 : Int32) (a1_z : Int) (hG : GX S) (ha_x : At S x 12) (hz_a1 : a1.toInt = a1_z) (hp_0 : 48 ≤ a1_z) (hp_1 : a1_z ≤ 59) : Ci l yX12_condition wsX12_condition ({ frames := 6, cells := 0, slots := 0, locals := 288 }) G cy κ S sz [.ref x, .int (a1)] (fun (r : Int32) (S9 : PS) => Ok MC S S9 ∧ (((zA S9 x 1223 a1_z.toNat = zA S x 1223 a1_z.toNat + 1 ∧ zA S9 x 1223 a1_z.toNat ≤ 4) ∧ r = 1) ∨ ((True) ∧ r = 0))) := by
  refine ent_m (cc := cX12_condition) (maxL := 4) (ret := (some .boolean)) (by decide) rfl (Nat.le_of_ble_eq_true rfl) ?_
  intro p e s m below meth c ls X hr hlocks hin hw hl hsz
  subst hsz
  have X : Cx p c cX12_condition 4 s [.ref x, .int (a1)].toArray wsX12_condition RX12 m G cy κ (AS S s.heap.size) := X
  have hl : lv_has ls 4 [(0, .ref x), (1, .int (a1))] := hl
  have rg_a1 : (-2147483648) ≤ a1_z ∧ a1_z ≤ 2147483647 := by rw [← hz_a1]; exact ⟨z_lo _, z_hi _⟩
  have hO : Ok MC S S := Ok.rf hG
  generalize hQQ : MQ below _ _ _ _ _ _ = QQ
  replace hQQ := hQQ.symm
  refine lv_aload_n X.1 X.2.1 dX12_condition_0 rfl (lv_at hl 0 rfl) ?_
  refine va_ldcS (q := κ (100 + 17)) X.1 X.2.1 X.2.2.2.2.1 (show vk_R RX12 252 "fine ends basket lost made thin day " (κ (100 + 17)) s from (X.2.2.2.2.2.2.2.2.2.2.2.2.2.2 17 (by decide)).1) dX12_condition_1 ?_
  refine k_i (rm := { frames := 5, cells := 0, slots := 0, locals := 240 }) (av := [.ref x, .ref (κ (100 + 17))]) X hw (va_runV (As := [.ref (κ (100 + 17))]) (rest := []) (cfix X) (k_X12_which l G cy κ S _ x 17 hO.1 ha_x (by decide)) (cwV 1 X.2.2.2.1 gX12_condition_X12_which rfl rfl rfl (by decide +kernel) ⟨Nat.le_of_ble_eq_true rfl, Nat.le_of_ble_eq_true rfl⟩) (pre_V X hw _ ha_x rfl (by decide) rfl) rfl rfl hl.1 rfl (lv_room (Nat.le_of_ble_eq_true rfl)) dX12_condition_3 ⟨Nat.le_of_ble_eq_true rfl, Nat.le_of_ble_eq_true rfl⟩) 0 0 (Nat.le_of_ble_eq_true rfl) (Nat.le_of_ble_eq_true rfl) (fun rr_1 S_2 H locs hp hw hfr hnw => ?_)
  obtain ⟨e2, hp⟩ := hp
  subst e2
  have rg_3 := And.intro (z_lo rr_1) (z_hi rr_1)
  refine lv_istore_n (lv' := [(2, .int (rr_1)), (0, .ref x), (1, .int (a1))]) X.1 X.2.1 dX12_condition_6 rfl hl (by decide) rfl (fun ls hl => ?_)
  refine lv_iload_n X.1 X.2.1 dX12_condition_7 rfl (lv_at hl 0 rfl) ?_
  refine lv_iconst (v := (-1)) X.1 X.2.1 dX12_condition_8 (by decide) ?_
  refine lv_icmp_ne (tgt := 18) X.1 X.2.1 dX12_condition_9 (by decide) (fun c_4 => ?_) (fun c_4 => ?_)
  · have z_b_5 := trivial
    have k_6 : rr_1.toInt ≠ (-1) := z_ne rfl ti_m1 c_4
    refine lv_aload_n X.1 X.2.1 dX12_condition_18 rfl (lv_at hl 1 rfl) ?_
    obtain ⟨q_7, h_8, h_9, h_10⟩ := gQ_12_1223 hO.1 ha_x
    refine r_getR (g := 1223) X hw ha_x rfl 23 h_8 (by decide) rfl inn_X12_condition_12 (by decide) (X.2.2.2.1 (.fieldLink RX12 70 "SilkMillModel" "conditions" "[I") (by decide +kernel)) rfl (gv_1223 _ _) dX12_condition_19 ?_
    refine lv_iload_n X.1 X.2.1 dX12_condition_22 rfl (lv_at hl 2 rfl) ?_
    refine r_iald X hw h_9 rfl (by rw [h_10]; exact z_ix hz_a1 (by omega) (by omega)) dX12_condition_23 ?_
    refine lv_topi (fun v_11 ev_11 => ?_)
    have z_12 := gE_674 hO.1 h_9 (Int32.toNatClampNeg (a1)); rw [← ev_11] at z_12
    have ev_11 := ev_11.symm
    have zf_13 : zA S x 1223 (a1_z).toNat = v_11.toInt := (zA_of h_8 hz_a1 (by omega) ev_11)
    refine lv_iconst (v := 4) X.1 X.2.1 dX12_condition_24 (by decide) ?_
    refine lv_icmp_ne (tgt := 34) X.1 X.2.1 dX12_condition_25 (by decide) (fun c_14 => ?_) (fun c_14 => ?_)
    · have z_b_15 := trivial
      have k_16 : v_11.toInt ≠ 4 := z_ne rfl ti_4 c_14
      refine lv_iconst (v := 4) X.1 X.2.1 dX12_condition_34 (by decide) ?_
      refine lv_iload_n X.1 X.2.1 dX12_condition_35 rfl (lv_at hl 2 rfl) ?_
      refine lv_imul X.1 X.2.1 dX12_condition_36 ?_
      refine lv_topi (fun v_17 ev_17 => ?_)
      have z_18 : v_17.toInt = 4 * a1_z := z_mul ev_17 ti_4 hz_a1 (by omega) (by omega)
      refine lv_aload_n X.1 X.2.1 dX12_condition_37 rfl (lv_at hl 1 rfl) ?_
      refine r_getR (g := 1223) X hw ha_x rfl 23 h_8 (by decide) rfl inn_X12_condition_12 (by decide) (X.2.2.2.1 (.fieldLink RX12 70 "SilkMillModel" "conditions" "[I") (by decide +kernel)) rfl (gv_1223 _ _) dX12_condition_38 ?_
      refine lv_iload_n X.1 X.2.1 dX12_condition_41 rfl (lv_at hl 2 rfl) ?_
      refine r_iald X hw h_9 rfl (by rw [h_10]; exact z_ix hz_a1 (by omega) (by omega)) dX12_condition_42 ?_
      rw [ev_11]
      refine lv_iadd X.1 X.2.1 dX12_condition_43 ?_
      refine lv_topi (fun v_19 ev_19 => ?_)
      have z_20 : v_19.toInt = (4 * a1_z) + v_11.toInt := z_add ev_19 z_18 rfl (by omega) (by omega)
      refine lv_istore_n (lv' := [(3, .int (v_19)), (2, .int (rr_1)), (0, .ref x), (1, .int (a1))]) X.1 X.2.1 dX12_condition_44 rfl hl (by decide) rfl (fun ls hl => ?_)
      refine lv_aload_n X.1 X.2.1 dX12_condition_45 rfl (lv_at hl 2 rfl) ?_
      refine k_v (rm := { frames := 2, cells := 0, slots := 0, locals := 96 }) (av := [.ref x]) X hw (va_runV (As := []) (rest := []) (cfix X) (k_X12_token l G cy κ S _ x hO.1 ha_x) (cwV 0 X.2.2.2.1 gX12_condition_X12_token rfl rfl rfl (by decide +kernel) ⟨Nat.le_of_ble_eq_true rfl, Nat.le_of_ble_eq_true rfl⟩) (pre_V X hw _ ha_x rfl (by decide) rfl) rfl rfl hl.1 rfl (lv_room (Nat.le_of_ble_eq_true rfl)) dX12_condition_46 ⟨Nat.le_of_ble_eq_true rfl, Nat.le_of_ble_eq_true rfl⟩) 0 0 (Nat.le_of_ble_eq_true rfl) (Nat.le_of_ble_eq_true rfl) (fun S_22 H locs hp hw hfr hnw => ?_)
      obtain ⟨hk_23, hp⟩ := hp
      have hO_24 : Ok MC S S_22 := hO.call hk_23 (by decide +kernel)
      refine lv_aload_n X.1 X.2.1 dX12_condition_49 rfl (lv_at hl 2 rfl) ?_
      have t_25 : At S_22 x 12 := hk_23.fr.at ha_x
      obtain ⟨q_26, h_27, h_28, h_29⟩ := gQ_12_1224 hO_24.1 t_25
      refine r_getR (g := 1224) X hw t_25 rfl 24 h_27 (by decide) rfl inn_X12_condition_12 (by decide) (X.2.2.2.1 (.fieldLink RX12 73 "SilkMillModel" "field" "[I") (by decide +kernel)) rfl (gv_1224 _ _) dX12_condition_50 ?_
      refine lv_iload_n X.1 X.2.1 dX12_condition_53 rfl (lv_at hl 0 rfl) ?_
      refine lv_iload_n X.1 X.2.1 dX12_condition_54 rfl (lv_at hl 1 rfl) ?_
      refine r_iast X hw h_28 rfl (by rw [h_29]; exact z_ix z_20 (by omega) (by omega)) dX12_condition_55 (fun H locs hw => ?_)
      obtain ⟨S_30, eS_30⟩ : ∃ T, T = sA S_22 q_26 (upd (pA S_22 q_26) (Int32.toNatClampNeg (v_19)) (rr_1)) := ⟨_, rfl⟩
      rw [← eS_30] at hw
      have hO_31 : Ok MC S S_30 := hO_24.sA eS_30 h_28 (by decide +kernel) (uA_694 hO_24.1 h_28)
      have h_32 : pA S_30 q_26 (Int32.toNatClampNeg (v_19)) = rr_1 := tA_sAs eS_30
      have zc_36 : zA S_22 x 1223 = zA S x 1223 := zA_fr hk_23.fr ha_x (ex3 (gQ_12_1223 hO.1 ha_x)) (by decide +kernel) (by decide +kernel)
      have zc_37 : zA S_30 x 1223 = zA S x 1223 := (zA_sAn eS_30 (ex3 (gQ_12_1223 hO_24.1 t_25)) h_28 rfl).trans zc_36
      have L_33 : ∀ (T_34 : PS) (H : Heap) (locs : List Loc) (ls : Array Slot) , (Wd G cy (AS S s.heap.size) s.heap T_34 H locs) → (At T_34 x 12) → (Ok MC S T_34) → (zA T_34 x 1223 = zA S x 1223) → (lv_has ls 4 [(3, .int (v_19)), (2, .int (rr_1)), (0, .ref x), (1, .int (a1))]) → W p l e ({ frames := 6, cells := 0, slots := 0, locals := 288 }) s m [.ref x, .int (a1)].toArray below meth c H locs 0 0 QQ (F0 m 91 ls []) := by
        intro T_34 H locs ls  hw ha_x_L_35 hO_T_34 zk_38 hl
        refine lv_aload_n X.1 X.2.1 dX12_condition_91 rfl (lv_at hl 2 rfl) ?_
        refine lv_ldcwS (q := κ (100 + 18)) X.1 X.2.1 X.2.2.2.2.1 (show vk_R RX12 258 "<" (κ (100 + 18)) s from (X.2.2.2.2.2.2.2.2.2.2.2.2.2.2 18 (by decide)).1) dX12_condition_92 ?_
        refine k_i (rm := { frames := 5, cells := 0, slots := 0, locals := 240 }) (av := [.ref x, .ref (κ (100 + 18))]) X hw (va_runV (As := [.ref (κ (100 + 18))]) (rest := []) (cfix X) (k_X12_is l G cy κ T_34 _ x 18 hO_T_34.1 ha_x_L_35 (by decide)) (cwV 1 X.2.2.2.1 gX12_condition_X12_is rfl rfl rfl (by decide +kernel) ⟨Nat.le_of_ble_eq_true rfl, Nat.le_of_ble_eq_true rfl⟩) (pre_V X hw _ ha_x_L_35 rfl (by decide) rfl) rfl rfl hl.1 rfl (lv_room (Nat.le_of_ble_eq_true rfl)) dX12_condition_95 ⟨Nat.le_of_ble_eq_true rfl, Nat.le_of_ble_eq_true rfl⟩) 0 0 (Nat.le_of_ble_eq_true rfl) (Nat.le_of_ble_eq_true rfl) (fun rr_39 S_40 H locs hp hw hfr hnw => ?_)
        obtain ⟨e2, hp⟩ := hp
        subst e2
        rcases hp with ⟨f_41, er_42⟩ | ⟨f_41, er_42⟩ <;> subst er_42
        · have z_b_43 := trivial
          refine lv_if_ne (tgt := 127) X.1 X.2.1 dX12_condition_98 (by decide) (fun c_44 => ?_) (fun c_44 => absurd c_44 (by decide))
          refine lv_aload_n X.1 X.2.1 dX12_condition_127 rfl (lv_at hl 2 rfl) ?_
          refine k_v (rm := { frames := 2, cells := 0, slots := 0, locals := 96 }) (av := [.ref x]) X hw (va_runV (As := []) (rest := []) (cfix X) (k_X12_token l G cy κ T_34 _ x hO_T_34.1 ha_x_L_35) (cwV 0 X.2.2.2.1 gX12_condition_X12_token rfl rfl rfl (by decide +kernel) ⟨Nat.le_of_ble_eq_true rfl, Nat.le_of_ble_eq_true rfl⟩) (pre_V X hw _ ha_x_L_35 rfl (by decide) rfl) rfl rfl hl.1 rfl (lv_room (Nat.le_of_ble_eq_true rfl)) dX12_condition_128 ⟨Nat.le_of_ble_eq_true rfl, Nat.le_of_ble_eq_true rfl⟩) 0 0 (Nat.le_of_ble_eq_true rfl) (Nat.le_of_ble_eq_true rfl) (fun S_46 H locs hp hw hfr hnw => ?_)
          obtain ⟨hk_47, hp⟩ := hp
          have hO_48 : Ok MC S S_46 := hO_T_34.call hk_47 (by decide +kernel)
          refine lv_aload_n X.1 X.2.1 dX12_condition_131 rfl (lv_at hl 2 rfl) ?_
          have t_49 : At S_46 x 12 := hk_47.fr.at ha_x_L_35
          obtain ⟨q_50, h_51, h_52, h_53⟩ := gQ_12_1226 hO_48.1 t_49
          refine r_getR (g := 1226) X hw t_49 rfl 26 h_51 (by decide) rfl inn_X12_condition_12 (by decide) (X.2.2.2.1 (.fieldLink RX12 79 "SilkMillModel" "than" "[I") (by decide +kernel)) rfl (gv_1226 _ _) dX12_condition_132 ?_
          refine lv_iload_n X.1 X.2.1 dX12_condition_135 rfl (lv_at hl 0 rfl) ?_
          refine lv_aload_n X.1 X.2.1 dX12_condition_136 rfl (lv_at hl 2 rfl) ?_
          refine k_i (rm := { frames := 3, cells := 0, slots := 0, locals := 144 }) (av := [.ref x]) X hw (va_runV (As := []) (rest := [.int (v_19), .ref q_50]) (cfix X) (k_X12_number l G cy κ S_46 _ x hO_48.1 t_49) (cwV 0 X.2.2.2.1 gX12_condition_X12_number rfl rfl rfl (by decide +kernel) ⟨Nat.le_of_ble_eq_true rfl, Nat.le_of_ble_eq_true rfl⟩) (pre_V X hw _ t_49 rfl (by decide) rfl) rfl rfl hl.1 rfl (lv_room (Nat.le_of_ble_eq_true rfl)) dX12_condition_137 ⟨Nat.le_of_ble_eq_true rfl, Nat.le_of_ble_eq_true rfl⟩) 0 0 (Nat.le_of_ble_eq_true rfl) (Nat.le_of_ble_eq_true rfl) (fun rr_54 S_55 H locs hp hw hfr hnw => ?_)
          obtain ⟨hk_56, hp⟩ := hp
          have hO_57 : Ok MC S S_55 := hO_48.call hk_56 (by decide +kernel)
          have rg_58 := And.intro (z_lo rr_54) (z_hi rr_54)
          have t_59 : At S_55 q_50 734 := hk_56.fr.at h_52
          have t_60 : pN S_55 q_50 = 240 := hk_56.fr.N h_52 h_53
          clear h_53
          refine r_iast X hw t_59 rfl (by rw [t_60]; exact z_ix z_20 (by omega) (by omega)) dX12_condition_140 (fun H locs hw => ?_)
          obtain ⟨S_61, eS_61⟩ : ∃ T, T = sA S_55 q_50 (upd (pA S_55 q_50) (Int32.toNatClampNeg (v_19)) (rr_54)) := ⟨_, rfl⟩
          rw [← eS_61] at hw
          have hO_62 : Ok MC S S_61 := hO_57.sA eS_61 t_59 (by decide +kernel) (uA_734 hO_57.1 t_59)
          have h_63 : pA S_61 q_50 (Int32.toNatClampNeg (v_19)) = rr_54 := tA_sAs eS_61
          refine lv_aload_n X.1 X.2.1 dX12_condition_141 rfl (lv_at hl 2 rfl) ?_
          have t_64 : At S_55 x 12 := hk_56.fr.at t_49
          have t_65 : At S_61 x 12 := tAt_sA eS_61 t_64
          obtain ⟨q_66, h_67, h_68, h_69⟩ := gQ_12_1223 hO_62.1 t_65
          refine r_getR (g := 1223) X hw t_65 rfl 23 h_67 (by decide) rfl inn_X12_condition_12 (by decide) (X.2.2.2.1 (.fieldLink RX12 70 "SilkMillModel" "conditions" "[I") (by decide +kernel)) rfl (gv_1223 _ _) dX12_condition_142 ?_
          have zc_70 : zA S_46 x 1223 = zA S x 1223 := (zA_fr hk_47.fr ha_x_L_35 (ex3 (gQ_12_1223 hO_T_34.1 ha_x_L_35)) (by decide +kernel) (by decide +kernel)).trans zk_38
          have zc_71 : zA S_55 x 1223 = zA S x 1223 := (zA_fr hk_56.fr t_49 (ex3 (gQ_12_1223 hO_48.1 t_49)) (by decide +kernel) (by decide +kernel)).trans zc_70
          have t_72 : At S_55 x 12 := hk_56.fr.at t_49
          have zc_73 : zA S_61 x 1223 = zA S x 1223 := (zA_sAn eS_61 (ex3 (gQ_12_1223 hO_57.1 t_72)) t_59 rfl).trans zc_71
          have zz_74 := congrFun zc_73 a1_z.toNat
          refine lv_iload_n X.1 X.2.1 dX12_condition_145 rfl (lv_at hl 3 rfl) ?_
          refine lv_dup2_11 X.1 X.2.1 dX12_condition_146 rfl rfl ?_
          refine r_iald X hw h_68 rfl (by rw [h_69]; exact z_ix hz_a1 (by omega) (by omega)) dX12_condition_147 ?_
          refine lv_topi (fun v_75 ev_75 => ?_)
          have z_76 := gE_674 hO_62.1 h_68 (Int32.toNatClampNeg (a1)); rw [← ev_75] at z_76
          have ev_75 := ev_75.symm
          have zf_77 : zA S_61 x 1223 (a1_z).toNat = v_75.toInt := (zA_of h_67 hz_a1 (by omega) ev_75)
          refine lv_iconst (v := 1) X.1 X.2.1 dX12_condition_148 (by decide) ?_
          refine lv_iadd X.1 X.2.1 dX12_condition_149 ?_
          refine lv_topi (fun v_78 ev_78 => ?_)
          have z_79 : v_78.toInt = v_75.toInt + 1 := z_add ev_78 rfl ti_1 (by omega) (by omega)
          refine r_iast X hw h_68 rfl (by rw [h_69]; exact z_ix hz_a1 (by omega) (by omega)) dX12_condition_150 (fun H locs hw => ?_)
          obtain ⟨S_80, eS_80⟩ : ∃ T, T = sA S_61 q_66 (upd (pA S_61 q_66) (Int32.toNatClampNeg (a1)) (v_78)) := ⟨_, rfl⟩
          rw [← eS_80] at hw
          have hO_81 : Ok MC S S_80 := hO_62.sA eS_80 h_68 (by decide +kernel) (uA_674 hO_62.1 h_68 (by omega) (by omega))
          have h_82 : pA S_80 q_66 (Int32.toNatClampNeg (a1)) = v_78 := tA_sAs eS_80
          have t_83 : pR S_80 1223 x = some q_66 := tR_sA eS_80 h_67
          have t_85 : pR S_61 1223 x = some q_66 := by have h := t_83; rw [eS_80, pR_sA] at h; exact h
          have zs_84 : ∀ j, zA S_80 x 1223 j = if j = (a1_z).toNat then (v_75.toInt + 1) else zA S_61 x 1223 j := by have h := zA_sAs eS_80 t_85 z_79; rw [z_nc hz_a1 (by omega)] at h; exact h
          have zs_86 := zs_84 (a1_z).toNat; rw [if_pos rfl] at zs_86
          refine lv_aload_n X.1 X.2.1 dX12_condition_151 rfl (lv_at hl 2 rfl) ?_
          have t_87 : At S_80 x 12 := tAt_sA eS_80 t_65
          obtain ⟨v_88, ev_88⟩ : ∃ v, pI S_80 1230 x = v := ⟨_, rfl⟩
          have rg_90 := And.intro (z_lo v_88) (z_hi v_88)
          refine r_getI (g := 1230) (x := v_88) X hw t_87 rfl 30 ev_88 (by decide) rfl inn_X12_condition_12 (by decide) (X.2.2.2.1 (.fieldLink RX12 229 "SilkMillModel" "faultKind" "I") (by decide +kernel)) rfl (gv_1230 _ _) dX12_condition_152 ?_
          refine lv_if_ne (tgt := 162) X.1 X.2.1 dX12_condition_155 (by decide) (fun c_91 => ?_) (fun c_91 => ?_)
          · have z_b_92 := trivial
            have k_93 : v_88.toInt ≠ 0 := z_ne rfl ti_0 c_91
            refine lv_iconst (v := 0) X.1 X.2.1 dX12_condition_162 (by decide) ?_
            rw [hQQ]
            exact ret_z X hw hr hlocks (Nat.le_of_ble_eq_true rfl) (Nat.le_of_ble_eq_true rfl) (by decide) ⟨hO_81, Or.inr ⟨trivial, rfl⟩⟩ dX12_condition_163
          · have z_b_94 := trivial
            have k_95 : v_88.toInt = 0 := z_eq rfl ti_0 c_91
            refine lv_iconst (v := 1) X.1 X.2.1 dX12_condition_158 (by decide) ?_
            refine lv_goto (tgt := 163) X.1 X.2.1 dX12_condition_159 (by decide) ?_
            rw [hQQ]
            exact ret_z X hw hr hlocks (Nat.le_of_ble_eq_true rfl) (Nat.le_of_ble_eq_true rfl) (by decide) ⟨hO_81, Or.inl ⟨by omega, rfl⟩⟩ dX12_condition_163
        · have z_b_96 := trivial
          refine lv_if_ne (tgt := 127) X.1 X.2.1 dX12_condition_98 (by decide) (fun c_97 => absurd c_97 (by decide)) (fun c_97 => ?_)
          refine lv_aload_n X.1 X.2.1 dX12_condition_101 rfl (lv_at hl 2 rfl) ?_
          refine lv_ldcwS (q := κ (100 + 19)) X.1 X.2.1 X.2.2.2.2.1 (show vk_R RX12 260 "=" (κ (100 + 19)) s from (X.2.2.2.2.2.2.2.2.2.2.2.2.2.2 19 (by decide)).1) dX12_condition_102 ?_
          refine k_i (rm := { frames := 5, cells := 0, slots := 0, locals := 240 }) (av := [.ref x, .ref (κ (100 + 19))]) X hw (va_runV (As := [.ref (κ (100 + 19))]) (rest := []) (cfix X) (k_X12_is l G cy κ T_34 _ x 19 hO_T_34.1 ha_x_L_35 (by decide)) (cwV 1 X.2.2.2.1 gX12_condition_X12_is rfl rfl rfl (by decide +kernel) ⟨Nat.le_of_ble_eq_true rfl, Nat.le_of_ble_eq_true rfl⟩) (pre_V X hw _ ha_x_L_35 rfl (by decide) rfl) rfl rfl hl.1 rfl (lv_room (Nat.le_of_ble_eq_true rfl)) dX12_condition_105 ⟨Nat.le_of_ble_eq_true rfl, Nat.le_of_ble_eq_true rfl⟩) 0 0 (Nat.le_of_ble_eq_true rfl) (Nat.le_of_ble_eq_true rfl) (fun rr_98 S_99 H locs hp hw hfr hnw => ?_)
          obtain ⟨e2, hp⟩ := hp
          subst e2
          rcases hp with ⟨f_100, er_101⟩ | ⟨f_100, er_101⟩ <;> subst er_101
          · have z_b_102 := trivial
            refine lv_if_ne (tgt := 127) X.1 X.2.1 dX12_condition_108 (by decide) (fun c_103 => ?_) (fun c_103 => absurd c_103 (by decide))
            refine lv_aload_n X.1 X.2.1 dX12_condition_127 rfl (lv_at hl 2 rfl) ?_
            refine k_v (rm := { frames := 2, cells := 0, slots := 0, locals := 96 }) (av := [.ref x]) X hw (va_runV (As := []) (rest := []) (cfix X) (k_X12_token l G cy κ T_34 _ x hO_T_34.1 ha_x_L_35) (cwV 0 X.2.2.2.1 gX12_condition_X12_token rfl rfl rfl (by decide +kernel) ⟨Nat.le_of_ble_eq_true rfl, Nat.le_of_ble_eq_true rfl⟩) (pre_V X hw _ ha_x_L_35 rfl (by decide) rfl) rfl rfl hl.1 rfl (lv_room (Nat.le_of_ble_eq_true rfl)) dX12_condition_128 ⟨Nat.le_of_ble_eq_true rfl, Nat.le_of_ble_eq_true rfl⟩) 0 0 (Nat.le_of_ble_eq_true rfl) (Nat.le_of_ble_eq_true rfl) (fun S_105 H locs hp hw hfr hnw => ?_)
            obtain ⟨hk_106, hp⟩ := hp
            have hO_107 : Ok MC S S_105 := hO_T_34.call hk_106 (by decide +kernel)
            refine lv_aload_n X.1 X.2.1 dX12_condition_131 rfl (lv_at hl 2 rfl) ?_
            have t_108 : At S_105 x 12 := hk_106.fr.at ha_x_L_35
            obtain ⟨q_109, h_110, h_111, h_112⟩ := gQ_12_1226 hO_107.1 t_108
            refine r_getR (g := 1226) X hw t_108 rfl 26 h_110 (by decide) rfl inn_X12_condition_12 (by decide) (X.2.2.2.1 (.fieldLink RX12 79 "SilkMillModel" "than" "[I") (by decide +kernel)) rfl (gv_1226 _ _) dX12_condition_132 ?_
            refine lv_iload_n X.1 X.2.1 dX12_condition_135 rfl (lv_at hl 0 rfl) ?_
            refine lv_aload_n X.1 X.2.1 dX12_condition_136 rfl (lv_at hl 2 rfl) ?_
            refine k_i (rm := { frames := 3, cells := 0, slots := 0, locals := 144 }) (av := [.ref x]) X hw (va_runV (As := []) (rest := [.int (v_19), .ref q_109]) (cfix X) (k_X12_number l G cy κ S_105 _ x hO_107.1 t_108) (cwV 0 X.2.2.2.1 gX12_condition_X12_number rfl rfl rfl (by decide +kernel) ⟨Nat.le_of_ble_eq_true rfl, Nat.le_of_ble_eq_true rfl⟩) (pre_V X hw _ t_108 rfl (by decide) rfl) rfl rfl hl.1 rfl (lv_room (Nat.le_of_ble_eq_true rfl)) dX12_condition_137 ⟨Nat.le_of_ble_eq_true rfl, Nat.le_of_ble_eq_true rfl⟩) 0 0 (Nat.le_of_ble_eq_true rfl) (Nat.le_of_ble_eq_true rfl) (fun rr_113 S_114 H locs hp hw hfr hnw => ?_)
            obtain ⟨hk_115, hp⟩ := hp
            have hO_116 : Ok MC S S_114 := hO_107.call hk_115 (by decide +kernel)
            have rg_117 := And.intro (z_lo rr_113) (z_hi rr_113)
            have t_118 : At S_114 q_109 734 := hk_115.fr.at h_111
            have t_119 : pN S_114 q_109 = 240 := hk_115.fr.N h_111 h_112
            clear h_112
            refine r_iast X hw t_118 rfl (by rw [t_119]; exact z_ix z_20 (by omega) (by omega)) dX12_condition_140 (fun H locs hw => ?_)
            obtain ⟨S_120, eS_120⟩ : ∃ T, T = sA S_114 q_109 (upd (pA S_114 q_109) (Int32.toNatClampNeg (v_19)) (rr_113)) := ⟨_, rfl⟩
            rw [← eS_120] at hw
            have hO_121 : Ok MC S S_120 := hO_116.sA eS_120 t_118 (by decide +kernel) (uA_734 hO_116.1 t_118)
            have h_122 : pA S_120 q_109 (Int32.toNatClampNeg (v_19)) = rr_113 := tA_sAs eS_120
            refine lv_aload_n X.1 X.2.1 dX12_condition_141 rfl (lv_at hl 2 rfl) ?_
            have t_123 : At S_114 x 12 := hk_115.fr.at t_108
            have t_124 : At S_120 x 12 := tAt_sA eS_120 t_123
            obtain ⟨q_125, h_126, h_127, h_128⟩ := gQ_12_1223 hO_121.1 t_124
            refine r_getR (g := 1223) X hw t_124 rfl 23 h_126 (by decide) rfl inn_X12_condition_12 (by decide) (X.2.2.2.1 (.fieldLink RX12 70 "SilkMillModel" "conditions" "[I") (by decide +kernel)) rfl (gv_1223 _ _) dX12_condition_142 ?_
            have zc_129 : zA S_105 x 1223 = zA S x 1223 := (zA_fr hk_106.fr ha_x_L_35 (ex3 (gQ_12_1223 hO_T_34.1 ha_x_L_35)) (by decide +kernel) (by decide +kernel)).trans zk_38
            have zc_130 : zA S_114 x 1223 = zA S x 1223 := (zA_fr hk_115.fr t_108 (ex3 (gQ_12_1223 hO_107.1 t_108)) (by decide +kernel) (by decide +kernel)).trans zc_129
            have t_131 : At S_114 x 12 := hk_115.fr.at t_108
            have zc_132 : zA S_120 x 1223 = zA S x 1223 := (zA_sAn eS_120 (ex3 (gQ_12_1223 hO_116.1 t_131)) t_118 rfl).trans zc_130
            have zz_133 := congrFun zc_132 a1_z.toNat
            refine lv_iload_n X.1 X.2.1 dX12_condition_145 rfl (lv_at hl 3 rfl) ?_
            refine lv_dup2_11 X.1 X.2.1 dX12_condition_146 rfl rfl ?_
            refine r_iald X hw h_127 rfl (by rw [h_128]; exact z_ix hz_a1 (by omega) (by omega)) dX12_condition_147 ?_
            refine lv_topi (fun v_134 ev_134 => ?_)
            have z_135 := gE_674 hO_121.1 h_127 (Int32.toNatClampNeg (a1)); rw [← ev_134] at z_135
            have ev_134 := ev_134.symm
            have zf_136 : zA S_120 x 1223 (a1_z).toNat = v_134.toInt := (zA_of h_126 hz_a1 (by omega) ev_134)
            refine lv_iconst (v := 1) X.1 X.2.1 dX12_condition_148 (by decide) ?_
            refine lv_iadd X.1 X.2.1 dX12_condition_149 ?_
            refine lv_topi (fun v_137 ev_137 => ?_)
            have z_138 : v_137.toInt = v_134.toInt + 1 := z_add ev_137 rfl ti_1 (by omega) (by omega)
            refine r_iast X hw h_127 rfl (by rw [h_128]; exact z_ix hz_a1 (by omega) (by omega)) dX12_condition_150 (fun H locs hw => ?_)
            obtain ⟨S_139, eS_139⟩ : ∃ T, T = sA S_120 q_125 (upd (pA S_120 q_125) (Int32.toNatClampNeg (a1)) (v_137)) := ⟨_, rfl⟩
            rw [← eS_139] at hw
            have hO_140 : Ok MC S S_139 := hO_121.sA eS_139 h_127 (by decide +kernel) (uA_674 hO_121.1 h_127 (by omega) (by omega))
            have h_141 : pA S_139 q_125 (Int32.toNatClampNeg (a1)) = v_137 := tA_sAs eS_139
            have t_142 : pR S_139 1223 x = some q_125 := tR_sA eS_139 h_126
            have t_144 : pR S_120 1223 x = some q_125 := by have h := t_142; rw [eS_139, pR_sA] at h; exact h
            have zs_143 : ∀ j, zA S_139 x 1223 j = if j = (a1_z).toNat then (v_134.toInt + 1) else zA S_120 x 1223 j := by have h := zA_sAs eS_139 t_144 z_138; rw [z_nc hz_a1 (by omega)] at h; exact h
            have zs_145 := zs_143 (a1_z).toNat; rw [if_pos rfl] at zs_145
            refine lv_aload_n X.1 X.2.1 dX12_condition_151 rfl (lv_at hl 2 rfl) ?_
            have t_146 : At S_139 x 12 := tAt_sA eS_139 t_124
            obtain ⟨v_147, ev_147⟩ : ∃ v, pI S_139 1230 x = v := ⟨_, rfl⟩
            have rg_149 := And.intro (z_lo v_147) (z_hi v_147)
            refine r_getI (g := 1230) (x := v_147) X hw t_146 rfl 30 ev_147 (by decide) rfl inn_X12_condition_12 (by decide) (X.2.2.2.1 (.fieldLink RX12 229 "SilkMillModel" "faultKind" "I") (by decide +kernel)) rfl (gv_1230 _ _) dX12_condition_152 ?_
            refine lv_if_ne (tgt := 162) X.1 X.2.1 dX12_condition_155 (by decide) (fun c_150 => ?_) (fun c_150 => ?_)
            · have z_b_151 := trivial
              have k_152 : v_147.toInt ≠ 0 := z_ne rfl ti_0 c_150
              refine lv_iconst (v := 0) X.1 X.2.1 dX12_condition_162 (by decide) ?_
              rw [hQQ]
              exact ret_z X hw hr hlocks (Nat.le_of_ble_eq_true rfl) (Nat.le_of_ble_eq_true rfl) (by decide) ⟨hO_140, Or.inr ⟨trivial, rfl⟩⟩ dX12_condition_163
            · have z_b_153 := trivial
              have k_154 : v_147.toInt = 0 := z_eq rfl ti_0 c_150
              refine lv_iconst (v := 1) X.1 X.2.1 dX12_condition_158 (by decide) ?_
              refine lv_goto (tgt := 163) X.1 X.2.1 dX12_condition_159 (by decide) ?_
              rw [hQQ]
              exact ret_z X hw hr hlocks (Nat.le_of_ble_eq_true rfl) (Nat.le_of_ble_eq_true rfl) (by decide) ⟨hO_140, Or.inl ⟨by omega, rfl⟩⟩ dX12_condition_163
          · have z_b_155 := trivial
            refine lv_if_ne (tgt := 127) X.1 X.2.1 dX12_condition_108 (by decide) (fun c_156 => absurd c_156 (by decide)) (fun c_156 => ?_)
            refine lv_aload_n X.1 X.2.1 dX12_condition_111 rfl (lv_at hl 2 rfl) ?_
            refine lv_ldcwS (q := κ (100 + 20)) X.1 X.2.1 X.2.2.2.2.1 (show vk_R RX12 262 ">" (κ (100 + 20)) s from (X.2.2.2.2.2.2.2.2.2.2.2.2.2.2 20 (by decide)).1) dX12_condition_112 ?_
            refine k_i (rm := { frames := 5, cells := 0, slots := 0, locals := 240 }) (av := [.ref x, .ref (κ (100 + 20))]) X hw (va_runV (As := [.ref (κ (100 + 20))]) (rest := []) (cfix X) (k_X12_is l G cy κ T_34 _ x 20 hO_T_34.1 ha_x_L_35 (by decide)) (cwV 1 X.2.2.2.1 gX12_condition_X12_is rfl rfl rfl (by decide +kernel) ⟨Nat.le_of_ble_eq_true rfl, Nat.le_of_ble_eq_true rfl⟩) (pre_V X hw _ ha_x_L_35 rfl (by decide) rfl) rfl rfl hl.1 rfl (lv_room (Nat.le_of_ble_eq_true rfl)) dX12_condition_115 ⟨Nat.le_of_ble_eq_true rfl, Nat.le_of_ble_eq_true rfl⟩) 0 0 (Nat.le_of_ble_eq_true rfl) (Nat.le_of_ble_eq_true rfl) (fun rr_157 S_158 H locs hp hw hfr hnw => ?_)
            obtain ⟨e2, hp⟩ := hp
            subst e2
            rcases hp with ⟨f_159, er_160⟩ | ⟨f_159, er_160⟩ <;> subst er_160
            · have z_b_161 := trivial
              refine lv_if_ne (tgt := 127) X.1 X.2.1 dX12_condition_118 (by decide) (fun c_162 => ?_) (fun c_162 => absurd c_162 (by decide))
              refine lv_aload_n X.1 X.2.1 dX12_condition_127 rfl (lv_at hl 2 rfl) ?_
              refine k_v (rm := { frames := 2, cells := 0, slots := 0, locals := 96 }) (av := [.ref x]) X hw (va_runV (As := []) (rest := []) (cfix X) (k_X12_token l G cy κ T_34 _ x hO_T_34.1 ha_x_L_35) (cwV 0 X.2.2.2.1 gX12_condition_X12_token rfl rfl rfl (by decide +kernel) ⟨Nat.le_of_ble_eq_true rfl, Nat.le_of_ble_eq_true rfl⟩) (pre_V X hw _ ha_x_L_35 rfl (by decide) rfl) rfl rfl hl.1 rfl (lv_room (Nat.le_of_ble_eq_true rfl)) dX12_condition_128 ⟨Nat.le_of_ble_eq_true rfl, Nat.le_of_ble_eq_true rfl⟩) 0 0 (Nat.le_of_ble_eq_true rfl) (Nat.le_of_ble_eq_true rfl) (fun S_164 H locs hp hw hfr hnw => ?_)
              obtain ⟨hk_165, hp⟩ := hp
              have hO_166 : Ok MC S S_164 := hO_T_34.call hk_165 (by decide +kernel)
              refine lv_aload_n X.1 X.2.1 dX12_condition_131 rfl (lv_at hl 2 rfl) ?_
              have t_167 : At S_164 x 12 := hk_165.fr.at ha_x_L_35
              obtain ⟨q_168, h_169, h_170, h_171⟩ := gQ_12_1226 hO_166.1 t_167
              refine r_getR (g := 1226) X hw t_167 rfl 26 h_169 (by decide) rfl inn_X12_condition_12 (by decide) (X.2.2.2.1 (.fieldLink RX12 79 "SilkMillModel" "than" "[I") (by decide +kernel)) rfl (gv_1226 _ _) dX12_condition_132 ?_
              refine lv_iload_n X.1 X.2.1 dX12_condition_135 rfl (lv_at hl 0 rfl) ?_
              refine lv_aload_n X.1 X.2.1 dX12_condition_136 rfl (lv_at hl 2 rfl) ?_
              refine k_i (rm := { frames := 3, cells := 0, slots := 0, locals := 144 }) (av := [.ref x]) X hw (va_runV (As := []) (rest := [.int (v_19), .ref q_168]) (cfix X) (k_X12_number l G cy κ S_164 _ x hO_166.1 t_167) (cwV 0 X.2.2.2.1 gX12_condition_X12_number rfl rfl rfl (by decide +kernel) ⟨Nat.le_of_ble_eq_true rfl, Nat.le_of_ble_eq_true rfl⟩) (pre_V X hw _ t_167 rfl (by decide) rfl) rfl rfl hl.1 rfl (lv_room (Nat.le_of_ble_eq_true rfl)) dX12_condition_137 ⟨Nat.le_of_ble_eq_true rfl, Nat.le_of_ble_eq_true rfl⟩) 0 0 (Nat.le_of_ble_eq_true rfl) (Nat.le_of_ble_eq_true rfl) (fun rr_172 S_173 H locs hp hw hfr hnw => ?_)
              obtain ⟨hk_174, hp⟩ := hp
              have hO_175 : Ok MC S S_173 := hO_166.call hk_174 (by decide +kernel)
              have rg_176 := And.intro (z_lo rr_172) (z_hi rr_172)
              have t_177 : At S_173 q_168 734 := hk_174.fr.at h_170
              have t_178 : pN S_173 q_168 = 240 := hk_174.fr.N h_170 h_171
              clear h_171
              refine r_iast X hw t_177 rfl (by rw [t_178]; exact z_ix z_20 (by omega) (by omega)) dX12_condition_140 (fun H locs hw => ?_)
              obtain ⟨S_179, eS_179⟩ : ∃ T, T = sA S_173 q_168 (upd (pA S_173 q_168) (Int32.toNatClampNeg (v_19)) (rr_172)) := ⟨_, rfl⟩
              rw [← eS_179] at hw
              have hO_180 : Ok MC S S_179 := hO_175.sA eS_179 t_177 (by decide +kernel) (uA_734 hO_175.1 t_177)
              have h_181 : pA S_179 q_168 (Int32.toNatClampNeg (v_19)) = rr_172 := tA_sAs eS_179
              refine lv_aload_n X.1 X.2.1 dX12_condition_141 rfl (lv_at hl 2 rfl) ?_
              have t_182 : At S_173 x 12 := hk_174.fr.at t_167
              have t_183 : At S_179 x 12 := tAt_sA eS_179 t_182
              obtain ⟨q_184, h_185, h_186, h_187⟩ := gQ_12_1223 hO_180.1 t_183
              refine r_getR (g := 1223) X hw t_183 rfl 23 h_185 (by decide) rfl inn_X12_condition_12 (by decide) (X.2.2.2.1 (.fieldLink RX12 70 "SilkMillModel" "conditions" "[I") (by decide +kernel)) rfl (gv_1223 _ _) dX12_condition_142 ?_
              have zc_188 : zA S_164 x 1223 = zA S x 1223 := (zA_fr hk_165.fr ha_x_L_35 (ex3 (gQ_12_1223 hO_T_34.1 ha_x_L_35)) (by decide +kernel) (by decide +kernel)).trans zk_38
              have zc_189 : zA S_173 x 1223 = zA S x 1223 := (zA_fr hk_174.fr t_167 (ex3 (gQ_12_1223 hO_166.1 t_167)) (by decide +kernel) (by decide +kernel)).trans zc_188
              have t_190 : At S_173 x 12 := hk_174.fr.at t_167
              have zc_191 : zA S_179 x 1223 = zA S x 1223 := (zA_sAn eS_179 (ex3 (gQ_12_1223 hO_175.1 t_190)) t_177 rfl).trans zc_189
              have zz_192 := congrFun zc_191 a1_z.toNat
              refine lv_iload_n X.1 X.2.1 dX12_condition_145 rfl (lv_at hl 3 rfl) ?_
              refine lv_dup2_11 X.1 X.2.1 dX12_condition_146 rfl rfl ?_
              refine r_iald X hw h_186 rfl (by rw [h_187]; exact z_ix hz_a1 (by omega) (by omega)) dX12_condition_147 ?_
              refine lv_topi (fun v_193 ev_193 => ?_)
              have z_194 := gE_674 hO_180.1 h_186 (Int32.toNatClampNeg (a1)); rw [← ev_193] at z_194
              have ev_193 := ev_193.symm
              have zf_195 : zA S_179 x 1223 (a1_z).toNat = v_193.toInt := (zA_of h_185 hz_a1 (by omega) ev_193)
              refine lv_iconst (v := 1) X.1 X.2.1 dX12_condition_148 (by decide) ?_
              refine lv_iadd X.1 X.2.1 dX12_condition_149 ?_
              refine lv_topi (fun v_196 ev_196 => ?_)
              have z_197 : v_196.toInt = v_193.toInt + 1 := z_add ev_196 rfl ti_1 (by omega) (by omega)
              refine r_iast X hw h_186 rfl (by rw [h_187]; exact z_ix hz_a1 (by omega) (by omega)) dX12_condition_150 (fun H locs hw => ?_)
              obtain ⟨S_198, eS_198⟩ : ∃ T, T = sA S_179 q_184 (upd (pA S_179 q_184) (Int32.toNatClampNeg (a1)) (v_196)) := ⟨_, rfl⟩
              rw [← eS_198] at hw
              have hO_199 : Ok MC S S_198 := hO_180.sA eS_198 h_186 (by decide +kernel) (uA_674 hO_180.1 h_186 (by omega) (by omega))
              have h_200 : pA S_198 q_184 (Int32.toNatClampNeg (a1)) = v_196 := tA_sAs eS_198
              have t_201 : pR S_198 1223 x = some q_184 := tR_sA eS_198 h_185
              have t_203 : pR S_179 1223 x = some q_184 := by have h := t_201; rw [eS_198, pR_sA] at h; exact h
              have zs_202 : ∀ j, zA S_198 x 1223 j = if j = (a1_z).toNat then (v_193.toInt + 1) else zA S_179 x 1223 j := by have h := zA_sAs eS_198 t_203 z_197; rw [z_nc hz_a1 (by omega)] at h; exact h
              have zs_204 := zs_202 (a1_z).toNat; rw [if_pos rfl] at zs_204
              refine lv_aload_n X.1 X.2.1 dX12_condition_151 rfl (lv_at hl 2 rfl) ?_
              have t_205 : At S_198 x 12 := tAt_sA eS_198 t_183
              obtain ⟨v_206, ev_206⟩ : ∃ v, pI S_198 1230 x = v := ⟨_, rfl⟩
              have rg_208 := And.intro (z_lo v_206) (z_hi v_206)
              refine r_getI (g := 1230) (x := v_206) X hw t_205 rfl 30 ev_206 (by decide) rfl inn_X12_condition_12 (by decide) (X.2.2.2.1 (.fieldLink RX12 229 "SilkMillModel" "faultKind" "I") (by decide +kernel)) rfl (gv_1230 _ _) dX12_condition_152 ?_
              refine lv_if_ne (tgt := 162) X.1 X.2.1 dX12_condition_155 (by decide) (fun c_209 => ?_) (fun c_209 => ?_)
              · have z_b_210 := trivial
                have k_211 : v_206.toInt ≠ 0 := z_ne rfl ti_0 c_209
                refine lv_iconst (v := 0) X.1 X.2.1 dX12_condition_162 (by decide) ?_
                rw [hQQ]
                exact ret_z X hw hr hlocks (Nat.le_of_ble_eq_true rfl) (Nat.le_of_ble_eq_true rfl) (by decide) ⟨hO_199, Or.inr ⟨trivial, rfl⟩⟩ dX12_condition_163
              · have z_b_212 := trivial
                have k_213 : v_206.toInt = 0 := z_eq rfl ti_0 c_209
                refine lv_iconst (v := 1) X.1 X.2.1 dX12_condition_158 (by decide) ?_
                refine lv_goto (tgt := 163) X.1 X.2.1 dX12_condition_159 (by decide) ?_
                rw [hQQ]
                exact ret_z X hw hr hlocks (Nat.le_of_ble_eq_true rfl) (Nat.le_of_ble_eq_true rfl) (by decide) ⟨hO_199, Or.inl ⟨by omega, rfl⟩⟩ dX12_condition_163
            · have z_b_214 := trivial
              refine lv_if_ne (tgt := 127) X.1 X.2.1 dX12_condition_118 (by decide) (fun c_215 => absurd c_215 (by decide)) (fun c_215 => ?_)
              refine lv_aload_n X.1 X.2.1 dX12_condition_121 rfl (lv_at hl 2 rfl) ?_
              refine lv_iconst (v := 1) X.1 X.2.1 dX12_condition_122 (by decide) ?_
              refine k_i (rm := { frames := 1, cells := 0, slots := 0, locals := 48 }) (av := [.ref x, .int 1]) X hw (va_runV (As := [.int 1]) (rest := []) (cfix X) (k_X12_wrong l G cy κ T_34 _ x (1) (1) hO_T_34.1 ha_x_L_35 ti_1) (cwV 1 X.2.2.2.1 gX12_condition_X12_wrong rfl rfl rfl (by decide +kernel) ⟨Nat.le_of_ble_eq_true rfl, Nat.le_of_ble_eq_true rfl⟩) (pre_V X hw _ ha_x_L_35 rfl (by decide) rfl) rfl rfl hl.1 rfl (lv_room (Nat.le_of_ble_eq_true rfl)) dX12_condition_123 ⟨Nat.le_of_ble_eq_true rfl, Nat.le_of_ble_eq_true rfl⟩) 0 0 (Nat.le_of_ble_eq_true rfl) (Nat.le_of_ble_eq_true rfl) (fun rr_216 S_217 H locs hp hw hfr hnw => ?_)
              obtain ⟨hk_218, hp⟩ := hp
              have hO_219 : Ok MC S S_217 := hO_T_34.call hk_218 (by decide +kernel)
              rcases hp with ⟨f_220, er_221⟩ | ⟨f_220, er_221⟩ <;> subst er_221
              · have z_b_222 := trivial
                exact f_220.elim
              · have z_b_223 := trivial
                rw [hQQ]
                exact ret_z X hw hr hlocks (Nat.le_of_ble_eq_true rfl) (Nat.le_of_ble_eq_true rfl) (by decide) ⟨hO_219, Or.inr ⟨trivial, rfl⟩⟩ dX12_condition_126
      refine lv_aload_n X.1 X.2.1 dX12_condition_56 rfl (lv_at hl 2 rfl) ?_
      have t_224 : At S_30 x 12 := tAt_sA eS_30 t_25
      obtain ⟨q_225, h_226, h_227, h_228⟩ := gQ_12_1225 hO_31.1 t_224
      refine r_getR (g := 1225) X hw t_224 rfl 25 h_226 (by decide) rfl inn_X12_condition_12 (by decide) (X.2.2.2.1 (.fieldLink RX12 76 "SilkMillModel" "rel" "[I") (by decide +kernel)) rfl (gv_1225 _ _) dX12_condition_57 ?_
      refine lv_iload_n X.1 X.2.1 dX12_condition_60 rfl (lv_at hl 0 rfl) ?_
      refine lv_aload_n X.1 X.2.1 dX12_condition_61 rfl (lv_at hl 2 rfl) ?_
      refine lv_ldcwS (q := κ (100 + 18)) X.1 X.2.1 X.2.2.2.2.1 (show vk_R RX12 258 "<" (κ (100 + 18)) s from (X.2.2.2.2.2.2.2.2.2.2.2.2.2.2 18 (by decide)).1) dX12_condition_62 ?_
      refine k_i (rm := { frames := 5, cells := 0, slots := 0, locals := 240 }) (av := [.ref x, .ref (κ (100 + 18))]) X hw (va_runV (As := [.ref (κ (100 + 18))]) (rest := [.int (v_19), .ref q_225]) (cfix X) (k_X12_is l G cy κ S_30 _ x 18 hO_31.1 t_224 (by decide)) (cwV 1 X.2.2.2.1 gX12_condition_X12_is rfl rfl rfl (by decide +kernel) ⟨Nat.le_of_ble_eq_true rfl, Nat.le_of_ble_eq_true rfl⟩) (pre_V X hw _ t_224 rfl (by decide) rfl) rfl rfl hl.1 rfl (lv_room (Nat.le_of_ble_eq_true rfl)) dX12_condition_65 ⟨Nat.le_of_ble_eq_true rfl, Nat.le_of_ble_eq_true rfl⟩) 0 0 (Nat.le_of_ble_eq_true rfl) (Nat.le_of_ble_eq_true rfl) (fun rr_229 S_230 H locs hp hw hfr hnw => ?_)
      obtain ⟨e2, hp⟩ := hp
      subst e2
      rcases hp with ⟨f_231, er_232⟩ | ⟨f_231, er_232⟩ <;> subst er_232
      · have z_b_233 := trivial
        refine lv_if_eq (tgt := 75) X.1 X.2.1 dX12_condition_68 (by decide) (fun c_234 => absurd c_234 (by decide)) (fun c_234 => ?_)
        refine lv_iconst (v := 0) X.1 X.2.1 dX12_condition_71 (by decide) ?_
        refine lv_goto (tgt := 90) X.1 X.2.1 dX12_condition_72 (by decide) ?_
        refine r_iast X hw h_227 rfl (by rw [h_228]; exact z_ix z_20 (by omega) (by omega)) dX12_condition_90 (fun H locs hw => ?_)
        obtain ⟨S_235, eS_235⟩ : ∃ T, T = sA S_30 q_225 (upd (pA S_30 q_225) (Int32.toNatClampNeg (v_19)) (0)) := ⟨_, rfl⟩
        rw [← eS_235] at hw
        have hO_236 : Ok MC S S_235 := hO_31.sA eS_235 h_227 (by decide +kernel) (uA_714 hO_31.1 h_227)
        have h_237 : pA S_235 q_225 (Int32.toNatClampNeg (v_19)) = 0 := tA_sAs eS_235
        have t_238 : At S_235 x 12 := tAt_sA eS_235 t_224
        have zc_239 : zA S_235 x 1223 = zA S x 1223 := (zA_sAn eS_235 (ex3 (gQ_12_1223 hO_31.1 t_224)) h_227 rfl).trans zc_37
        exact L_33 _ _ _ _  hw t_238 hO_236 zc_239 (lv_sub hl [0, 1, 2, 3] rfl)
      · have z_b_240 := trivial
        refine lv_if_eq (tgt := 75) X.1 X.2.1 dX12_condition_68 (by decide) (fun c_241 => ?_) (fun c_241 => absurd c_241 (by decide))
        refine lv_aload_n X.1 X.2.1 dX12_condition_75 rfl (lv_at hl 2 rfl) ?_
        refine lv_ldcwS (q := κ (100 + 19)) X.1 X.2.1 X.2.2.2.2.1 (show vk_R RX12 260 "=" (κ (100 + 19)) s from (X.2.2.2.2.2.2.2.2.2.2.2.2.2.2 19 (by decide)).1) dX12_condition_76 ?_
        refine k_i (rm := { frames := 5, cells := 0, slots := 0, locals := 240 }) (av := [.ref x, .ref (κ (100 + 19))]) X hw (va_runV (As := [.ref (κ (100 + 19))]) (rest := [.int (v_19), .ref q_225]) (cfix X) (k_X12_is l G cy κ S_30 _ x 19 hO_31.1 t_224 (by decide)) (cwV 1 X.2.2.2.1 gX12_condition_X12_is rfl rfl rfl (by decide +kernel) ⟨Nat.le_of_ble_eq_true rfl, Nat.le_of_ble_eq_true rfl⟩) (pre_V X hw _ t_224 rfl (by decide) rfl) rfl rfl hl.1 rfl (lv_room (Nat.le_of_ble_eq_true rfl)) dX12_condition_79 ⟨Nat.le_of_ble_eq_true rfl, Nat.le_of_ble_eq_true rfl⟩) 0 0 (Nat.le_of_ble_eq_true rfl) (Nat.le_of_ble_eq_true rfl) (fun rr_242 S_243 H locs hp hw hfr hnw => ?_)
        obtain ⟨e2, hp⟩ := hp
        subst e2
        rcases hp with ⟨f_244, er_245⟩ | ⟨f_244, er_245⟩ <;> subst er_245
        · have z_b_246 := trivial
          refine lv_if_eq (tgt := 89) X.1 X.2.1 dX12_condition_82 (by decide) (fun c_247 => absurd c_247 (by decide)) (fun c_247 => ?_)
          refine lv_iconst (v := 1) X.1 X.2.1 dX12_condition_85 (by decide) ?_
          refine lv_goto (tgt := 90) X.1 X.2.1 dX12_condition_86 (by decide) ?_
          refine r_iast X hw h_227 rfl (by rw [h_228]; exact z_ix z_20 (by omega) (by omega)) dX12_condition_90 (fun H locs hw => ?_)
          obtain ⟨S_248, eS_248⟩ : ∃ T, T = sA S_30 q_225 (upd (pA S_30 q_225) (Int32.toNatClampNeg (v_19)) (1)) := ⟨_, rfl⟩
          rw [← eS_248] at hw
          have hO_249 : Ok MC S S_248 := hO_31.sA eS_248 h_227 (by decide +kernel) (uA_714 hO_31.1 h_227)
          have h_250 : pA S_248 q_225 (Int32.toNatClampNeg (v_19)) = 1 := tA_sAs eS_248
          have t_251 : At S_248 x 12 := tAt_sA eS_248 t_224
          have zc_252 : zA S_248 x 1223 = zA S x 1223 := (zA_sAn eS_248 (ex3 (gQ_12_1223 hO_31.1 t_224)) h_227 rfl).trans zc_37
          exact L_33 _ _ _ _  hw t_251 hO_249 zc_252 (lv_sub hl [0, 1, 2, 3] rfl)
        · have z_b_253 := trivial
          refine lv_if_eq (tgt := 89) X.1 X.2.1 dX12_condition_82 (by decide) (fun c_254 => ?_) (fun c_254 => absurd c_254 (by decide))
          refine lv_iconst (v := 2) X.1 X.2.1 dX12_condition_89 (by decide) ?_
          refine r_iast X hw h_227 rfl (by rw [h_228]; exact z_ix z_20 (by omega) (by omega)) dX12_condition_90 (fun H locs hw => ?_)
          obtain ⟨S_255, eS_255⟩ : ∃ T, T = sA S_30 q_225 (upd (pA S_30 q_225) (Int32.toNatClampNeg (v_19)) (2)) := ⟨_, rfl⟩
          rw [← eS_255] at hw
          have hO_256 : Ok MC S S_255 := hO_31.sA eS_255 h_227 (by decide +kernel) (uA_714 hO_31.1 h_227)
          have h_257 : pA S_255 q_225 (Int32.toNatClampNeg (v_19)) = 2 := tA_sAs eS_255
          have t_258 : At S_255 x 12 := tAt_sA eS_255 t_224
          have zc_259 : zA S_255 x 1223 = zA S x 1223 := (zA_sAn eS_255 (ex3 (gQ_12_1223 hO_31.1 t_224)) h_227 rfl).trans zc_37
          exact L_33 _ _ _ _  hw t_258 hO_256 zc_259 (lv_sub hl [0, 1, 2, 3] rfl)
    · have z_b_260 := trivial
      have k_261 : v_11.toInt = 4 := z_eq rfl ti_4 c_14
      refine lv_aload_n X.1 X.2.1 dX12_condition_28 rfl (lv_at hl 1 rfl) ?_
      refine lv_iconst (v := 2) X.1 X.2.1 dX12_condition_29 (by decide) ?_
      refine k_i (rm := { frames := 1, cells := 0, slots := 0, locals := 48 }) (av := [.ref x, .int 2]) X hw (va_runV (As := [.int 2]) (rest := []) (cfix X) (k_X12_wrong l G cy κ S _ x (2) (2) hO.1 ha_x ti_2) (cwV 1 X.2.2.2.1 gX12_condition_X12_wrong rfl rfl rfl (by decide +kernel) ⟨Nat.le_of_ble_eq_true rfl, Nat.le_of_ble_eq_true rfl⟩) (pre_V X hw _ ha_x rfl (by decide) rfl) rfl rfl hl.1 rfl (lv_room (Nat.le_of_ble_eq_true rfl)) dX12_condition_30 ⟨Nat.le_of_ble_eq_true rfl, Nat.le_of_ble_eq_true rfl⟩) 0 0 (Nat.le_of_ble_eq_true rfl) (Nat.le_of_ble_eq_true rfl) (fun rr_262 S_263 H locs hp hw hfr hnw => ?_)
      obtain ⟨hk_264, hp⟩ := hp
      have hO_265 : Ok MC S S_263 := hO.call hk_264 (by decide +kernel)
      rcases hp with ⟨f_266, er_267⟩ | ⟨f_266, er_267⟩ <;> subst er_267
      · have z_b_268 := trivial
        exact f_266.elim
      · have z_b_269 := trivial
        rw [hQQ]
        exact ret_z X hw hr hlocks (Nat.le_of_ble_eq_true rfl) (Nat.le_of_ble_eq_true rfl) (by decide) ⟨hO_265, Or.inr ⟨trivial, rfl⟩⟩ dX12_condition_33
  · have z_b_270 := trivial
    have k_271 : rr_1.toInt = (-1) := z_eq rfl ti_m1 c_4
    refine lv_aload_n X.1 X.2.1 dX12_condition_12 rfl (lv_at hl 1 rfl) ?_
    refine lv_iconst (v := 1) X.1 X.2.1 dX12_condition_13 (by decide) ?_
    refine k_i (rm := { frames := 1, cells := 0, slots := 0, locals := 48 }) (av := [.ref x, .int 1]) X hw (va_runV (As := [.int 1]) (rest := []) (cfix X) (k_X12_wrong l G cy κ S _ x (1) (1) hO.1 ha_x ti_1) (cwV 1 X.2.2.2.1 gX12_condition_X12_wrong rfl rfl rfl (by decide +kernel) ⟨Nat.le_of_ble_eq_true rfl, Nat.le_of_ble_eq_true rfl⟩) (pre_V X hw _ ha_x rfl (by decide) rfl) rfl rfl hl.1 rfl (lv_room (Nat.le_of_ble_eq_true rfl)) dX12_condition_14 ⟨Nat.le_of_ble_eq_true rfl, Nat.le_of_ble_eq_true rfl⟩) 0 0 (Nat.le_of_ble_eq_true rfl) (Nat.le_of_ble_eq_true rfl) (fun rr_272 S_273 H locs hp hw hfr hnw => ?_)
    obtain ⟨hk_274, hp⟩ := hp
    have hO_275 : Ok MC S S_273 := hO.call hk_274 (by decide +kernel)
    rcases hp with ⟨f_276, er_277⟩ | ⟨f_276, er_277⟩ <;> subst er_277
    · have z_b_278 := trivial
      exact f_276.elim
    · have z_b_279 := trivial
      rw [hQQ]
      exact ret_z X hw hr hlocks (Nat.le_of_ble_eq_true rfl) (Nat.le_of_ble_eq_true rfl) (by decide) ⟨hO_275, Or.inr ⟨trivial, rfl⟩⟩ dX12_condition_17
