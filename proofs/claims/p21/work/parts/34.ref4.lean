set_option maxRecDepth 20000 in
theorem ggX12_weight_X12_fineAt : GoodIn wsX12_weight wsX12_fineAt := goodIn_h _ [4, 0, 0, 0, 0, 0, 0, 0, 0, 0, 0, 0, 0, 0, 0, 0, 0, 0, 0, 0, 0, 0, 0, 0, 0, 0, 0, 0, 0, 0, 0, 0, 0, 0, 0, 0, 0, 0, 0, 0, 0, 0, 0, 0, 0, 0, 0, 0, 0, 0, 0, 0, 0, 0, 0, 0, 0, 0, 0, 0, 0, 0, 0, 0, 0, 0, 0, 0, 0, 0, 0, 0, 0, 0, 0, 0, 0, 0, 0, 0, 0, 0, 0, 0, 0, 0, 0, 0, 0] [1, 2, 3, 4, 5, 6, 0, 7, 8, 9, 10, 11, 12, 13, 14, 15, 16, 17, 18, 19, 20, 21, 22, 23, 24, 25, 26, 27, 28, 29, 30, 31, 32, 33, 34, 35, 36, 37, 38, 39, 40, 41, 42, 43, 44, 45, 46, 47, 48, 49, 50, 51, 52, 53, 54, 55, 56, 57, 58, 59, 60, 61, 62, 63, 64, 65, 66, 67, 68, 69, 70, 71, 72, 73, 74, 75, 76, 77, 78, 79, 80, 81, 82, 83, 84, 85, 86, 87, 88] (by decide +kernel) (by decide +kernel)
set_option maxRecDepth 20000 in
theorem gX12_weight_X12_fineAt : GoodIn wsX12_weight (wsV RX12 287 RX12 yX12_fineAt wsX12_fineAt) := goodIn_app (goodIn_of _ (by decide +kernel)) ggX12_weight_X12_fineAt
theorem dX12_weight_0 : decode cX12_weight 0 = .ok (.iconst 0, 1) := by decide +kernel
theorem dX12_weight_1 : decode cX12_weight 1 = .ok (.istore_n 3, 1) := by decide +kernel
theorem dX12_weight_2 : decode cX12_weight 2 = .ok (.iload_n 1, 1) := by decide +kernel
theorem dX12_weight_3 : decode cX12_weight 3 = .ok (.istore 4, 2) := by decide +kernel
theorem dX12_weight_5 : decode cX12_weight 5 = .ok (.iload 4, 2) := by decide +kernel
theorem dX12_weight_7 : decode cX12_weight 7 = .ok (.iload_n 1, 1) := by decide +kernel
theorem dX12_weight_8 : decode cX12_weight 8 = .ok (.iload_n 2, 1) := by decide +kernel
theorem dX12_weight_9 : decode cX12_weight 9 = .ok (.iadd, 1) := by decide +kernel
theorem dX12_weight_10 : decode cX12_weight 10 = .ok (.if_icmp .ge 18, 3) := by decide +kernel
theorem dX12_weight_13 : decode cX12_weight 13 = .ok (.iload_n 3, 1) := by decide +kernel
theorem dX12_weight_14 : decode cX12_weight 14 = .ok (.aload_n 0, 1) := by decide +kernel
theorem dX12_weight_15 : decode cX12_weight 15 = .ok (.iload 4, 2) := by decide +kernel
theorem dX12_weight_17 : decode cX12_weight 17 = .ok (.invokevirtual 287, 3) := by decide +kernel
theorem dX12_weight_20 : decode cX12_weight 20 = .ok (.iadd, 1) := by decide +kernel
theorem dX12_weight_21 : decode cX12_weight 21 = .ok (.istore_n 3, 1) := by decide +kernel
theorem dX12_weight_22 : decode cX12_weight 22 = .ok (.iinc 4 1, 3) := by decide +kernel
theorem dX12_weight_25 : decode cX12_weight 25 = .ok (.goto (-20), 3) := by decide +kernel
theorem dX12_weight_28 : decode cX12_weight 28 = .ok (.iload_n 3, 1) := by decide +kernel
theorem dX12_weight_29 : decode cX12_weight 29 = .ok (.ireturn, 1) := by decide +kernel
theorem dX12_metres_0 : decode cX12_metres 0 = .ok (.aload_n 0, 1) := by decide +kernel
theorem dX12_metres_1 : decode cX12_metres 1 = .ok (.getfield 100, 3) := by decide +kernel
theorem dX12_metres_4 : decode cX12_metres 4 = .ok (.iload_n 1, 1) := by decide +kernel
theorem dX12_metres_5 : decode cX12_metres 5 = .ok (.iconst 1, 1) := by decide +kernel
theorem dX12_metres_6 : decode cX12_metres 6 = .ok (.iadd, 1) := by decide +kernel
theorem dX12_metres_7 : decode cX12_metres 7 = .ok (.iaload, 1) := by decide +kernel
theorem dX12_metres_8 : decode cX12_metres 8 = .ok (.aload_n 0, 1) := by decide +kernel
theorem dX12_metres_9 : decode cX12_metres 9 = .ok (.getfield 100, 3) := by decide +kernel
theorem dX12_metres_12 : decode cX12_metres 12 = .ok (.iload_n 1, 1) := by decide +kernel
theorem dX12_metres_13 : decode cX12_metres 13 = .ok (.iaload, 1) := by decide +kernel
theorem dX12_metres_14 : decode cX12_metres 14 = .ok (.isub, 1) := by decide +kernel
theorem dX12_metres_15 : decode cX12_metres 15 = .ok (.ireturn, 1) := by decide +kernel
theorem dX12_endOf_0 : decode cX12_endOf 0 = .ok (.aload_n 0, 1) := by decide +kernel
theorem dX12_endOf_1 : decode cX12_endOf 1 = .ok (.getfield 90, 3) := by decide +kernel
theorem dX12_endOf_4 : decode cX12_endOf 4 = .ok (.iload_n 1, 1) := by decide +kernel
theorem dX12_endOf_5 : decode cX12_endOf 5 = .ok (.iaload, 1) := by decide +kernel
theorem dX12_endOf_6 : decode cX12_endOf 6 = .ok (.iconst 1, 1) := by decide +kernel
theorem dX12_endOf_7 : decode cX12_endOf 7 = .ok (.isub, 1) := by decide +kernel
theorem dX12_endOf_8 : decode cX12_endOf 8 = .ok (.istore_n 3, 1) := by decide +kernel
theorem dX12_endOf_9 : decode cX12_endOf 9 = .ok (.iload_n 3, 1) := by decide +kernel
theorem dX12_endOf_10 : decode cX12_endOf 10 = .ok (.ifCond .lt 28, 3) := by decide +kernel
theorem dX12_endOf_13 : decode cX12_endOf 13 = .ok (.aload_n 0, 1) := by decide +kernel
theorem dX12_endOf_14 : decode cX12_endOf 14 = .ok (.getfield 94, 3) := by decide +kernel
theorem dX12_endOf_17 : decode cX12_endOf 17 = .ok (.bipush 12, 2) := by decide +kernel
theorem dX12_endOf_19 : decode cX12_endOf 19 = .ok (.iload_n 1, 1) := by decide +kernel
theorem dX12_endOf_20 : decode cX12_endOf 20 = .ok (.imul, 1) := by decide +kernel
theorem dX12_endOf_21 : decode cX12_endOf 21 = .ok (.iload_n 3, 1) := by decide +kernel
theorem dX12_endOf_22 : decode cX12_endOf 22 = .ok (.iadd, 1) := by decide +kernel
theorem dX12_endOf_23 : decode cX12_endOf 23 = .ok (.iaload, 1) := by decide +kernel
theorem dX12_endOf_24 : decode cX12_endOf 24 = .ok (.sipush 1000, 3) := by decide +kernel
theorem dX12_endOf_27 : decode cX12_endOf 27 = .ok (.idiv, 1) := by decide +kernel
theorem dX12_endOf_28 : decode cX12_endOf 28 = .ok (.iload_n 2, 1) := by decide +kernel
theorem dX12_endOf_29 : decode cX12_endOf 29 = .ok (.if_icmp .eq 9, 3) := by decide +kernel
theorem dX12_endOf_32 : decode cX12_endOf 32 = .ok (.iinc 3 (-1), 3) := by decide +kernel
theorem dX12_endOf_35 : decode cX12_endOf 35 = .ok (.goto (-26), 3) := by decide +kernel
theorem dX12_endOf_38 : decode cX12_endOf 38 = .ok (.iload_n 3, 1) := by decide +kernel
theorem dX12_endOf_39 : decode cX12_endOf 39 = .ok (.ireturn, 1) := by decide +kernel
set_option maxRecDepth 20000 in
theorem ggX12_weightOf_X12_metres : GoodIn wsX12_weightOf wsX12_metres := goodIn_h _ [1, 4, 29, 0, 0, 0, 0, 0, 0, 0, 0, 0, 0, 0, 0, 0, 0, 0, 0, 0, 0, 0, 0, 0, 0, 0, 0, 0, 0, 0, 0, 0, 0, 0, 0, 0, 0, 0, 0, 0, 0, 0, 0, 0, 0, 0, 0, 0, 0, 0, 0, 0, 0, 0, 0, 0, 0, 0, 0, 0, 0, 0, 0, 0, 0, 0, 0, 0] [1, 0, 2, 3, 4, 5, 6, 7, 8, 9, 10, 11, 12, 13, 14, 15, 16, 17, 18, 19, 20, 21, 22, 23, 24, 25, 26, 27, 28, 29, 30, 31, 32, 33, 34, 35, 36, 37, 38, 39, 40, 41, 42, 43, 44, 45, 46, 47, 48, 49, 50, 51, 52, 53, 54, 55, 56, 57, 58, 59, 60, 61, 62, 63, 64, 65, 66, 67] (by decide +kernel) (by decide +kernel)
set_option maxRecDepth 20000 in
theorem gX12_weightOf_X12_metres : GoodIn wsX12_weightOf (wsV RX12 350 RX12 yX12_metres wsX12_metres) := goodIn_app (goodIn_of _ (by decide +kernel)) ggX12_weightOf_X12_metres
set_option maxRecDepth 20000 in
theorem ggX12_weightOf_X12_weight : GoodIn wsX12_weightOf wsX12_weight := goodIn_h _ [5, 4, 0, 0, 0, 0, 0, 0, 0, 0, 0, 0, 0, 0, 0, 0, 0, 0, 0, 0, 0, 0, 0, 0, 0, 0, 0, 0, 0, 0, 0, 0, 0, 0, 0, 0, 0, 0, 0, 0, 0, 0, 0, 0, 0, 0, 0, 0, 0, 0, 0, 0, 0, 0, 0, 0, 0, 0, 0, 0, 0, 0, 0, 0, 0, 0, 0, 0, 0, 0, 0, 0, 0, 0, 0, 0, 0, 0, 0, 0, 0, 0, 0, 0, 0, 0, 0, 0, 0, 0, 0, 0, 0] [1, 2, 3, 4, 0, 5, 6, 7, 8, 9, 10, 11, 12, 13, 14, 15, 16, 17, 18, 19, 20, 21, 22, 23, 24, 25, 26, 27, 28, 29, 30, 31, 32, 33, 34, 35, 36, 37, 38, 39, 40, 41, 42, 43, 44, 45, 46, 47, 48, 49, 50, 51, 52, 53, 54, 55, 56, 57, 58, 59, 60, 61, 62, 63, 64, 65, 66, 67, 68, 69, 70, 71, 72, 73, 74, 75, 76, 77, 78, 79, 80, 81, 82, 83, 84, 85, 86, 87, 88, 89, 90, 91, 92] (by decide +kernel) (by decide +kernel)
set_option maxRecDepth 20000 in
theorem gX12_weightOf_X12_weight : GoodIn wsX12_weightOf (wsV RX12 299 RX12 yX12_weight wsX12_weight) := goodIn_app (goodIn_of _ (by decide +kernel)) ggX12_weightOf_X12_weight
theorem dX12_weightOf_0 : decode cX12_weightOf 0 = .ok (.aload_n 0, 1) := by decide +kernel
theorem dX12_weightOf_1 : decode cX12_weightOf 1 = .ok (.aload_n 0, 1) := by decide +kernel
theorem dX12_weightOf_2 : decode cX12_weightOf 2 = .ok (.getfield 100, 3) := by decide +kernel
theorem dX12_weightOf_5 : decode cX12_weightOf 5 = .ok (.iload_n 1, 1) := by decide +kernel
theorem dX12_weightOf_6 : decode cX12_weightOf 6 = .ok (.iaload, 1) := by decide +kernel
theorem dX12_weightOf_7 : decode cX12_weightOf 7 = .ok (.aload_n 0, 1) := by decide +kernel
theorem dX12_weightOf_8 : decode cX12_weightOf 8 = .ok (.iload_n 1, 1) := by decide +kernel
theorem dX12_weightOf_9 : decode cX12_weightOf 9 = .ok (.invokevirtual 350, 3) := by decide +kernel
theorem dX12_weightOf_12 : decode cX12_weightOf 12 = .ok (.invokevirtual 299, 3) := by decide +kernel
theorem dX12_weightOf_15 : decode cX12_weightOf 15 = .ok (.ireturn, 1) := by decide +kernel
set_option maxRecDepth 20000 in
theorem ggX12_priceOf_X12_weightOf : GoodIn wsX12_priceOf wsX12_weightOf := goodIn_h _ [5, 0, 0, 0, 0, 0, 0, 0, 0, 0, 0, 0, 0, 0, 0, 0, 0, 0, 0, 0, 0, 0, 0, 0, 0, 0, 0, 0, 0, 0, 0, 0, 0, 0, 0, 0, 5, 0, 0, 0, 0, 0, 0, 0, 0, 0, 0, 0, 0, 0, 0, 0, 0, 0, 0, 0, 0, 0, 0, 0, 0, 0, 0, 0, 0, 0, 0, 0, 0, 0, 0, 0, 0, 0, 0, 0, 0, 0, 0, 0, 0, 0, 0, 0, 0, 0, 0, 0, 0, 0, 0, 0, 0, 0, 0, 0, 0, 0, 0, 0, 0, 0] [1, 2, 3, 4, 5, 0, 6, 7, 8, 9, 10, 11, 12, 13, 14, 15, 16, 17, 18, 19, 20, 21, 22, 23, 24, 25, 26, 27, 28, 29, 30, 31, 32, 33, 34, 35, 36, 37, 38, 39, 40, 41, 42, 43, 44, 45, 46, 47, 48, 49, 50, 51, 52, 53, 54, 55, 56, 57, 58, 59, 60, 61, 62, 63, 64, 65, 66, 67, 68, 69, 70, 71, 72, 73, 74, 75, 76, 77, 78, 79, 80, 81, 82, 83, 84, 85, 86, 87, 88, 89, 90, 91, 92, 93, 94, 95, 96, 97, 98, 99, 100, 101] (by decide +kernel) (by decide +kernel)
set_option maxRecDepth 20000 in
theorem gX12_priceOf_X12_weightOf : GoodIn wsX12_priceOf (wsV RX12 356 RX12 yX12_weightOf wsX12_weightOf) := goodIn_app (goodIn_of _ (by decide +kernel)) ggX12_priceOf_X12_weightOf
set_option maxRecDepth 20000 in
theorem ggX12_priceOf_X12_gradeOf : GoodIn wsX12_priceOf wsX12_gradeOf := goodIn_h _ [44, 0, 0, 0, 0, 0, 0, 0, 0, 0, 0, 0, 0, 0, 0, 0, 0, 0, 0, 0, 0, 0, 0, 0, 0, 0, 0, 0, 0, 0, 0, 0, 0, 0, 0, 0, 0, 0, 0, 0, 0, 0, 0, 0, 0, 0, 0, 0, 0, 0, 0, 0, 0, 0, 0, 0, 0, 0, 0, 0, 0, 0, 0, 0, 0, 0, 0, 0] [0, 1, 2, 3, 4, 5, 6, 7, 8, 9, 10, 11, 12, 13, 14, 15, 16, 17, 18, 19, 20, 21, 22, 23, 24, 25, 26, 27, 28, 29, 30, 31, 32, 33, 34, 35, 36, 37, 38, 39, 40, 41, 42, 43, 44, 45, 46, 47, 48, 49, 50, 51, 52, 53, 54, 55, 56, 57, 58, 59, 60, 61, 62, 63, 64, 65, 66, 67] (by decide +kernel) (by decide +kernel)
set_option maxRecDepth 20000 in
theorem gX12_priceOf_X12_gradeOf : GoodIn wsX12_priceOf (wsV RX12 359 RX12 yX12_gradeOf wsX12_gradeOf) := goodIn_app (goodIn_of _ (by decide +kernel)) ggX12_priceOf_X12_gradeOf
theorem dX12_priceOf_0 : decode cX12_priceOf 0 = .ok (.aload_n 0, 1) := by decide +kernel
theorem dX12_priceOf_1 : decode cX12_priceOf 1 = .ok (.iload_n 1, 1) := by decide +kernel
theorem dX12_priceOf_2 : decode cX12_priceOf 2 = .ok (.invokevirtual 356, 3) := by decide +kernel
theorem dX12_priceOf_5 : decode cX12_priceOf 5 = .ok (.aload_n 0, 1) := by decide +kernel
theorem dX12_priceOf_6 : decode cX12_priceOf 6 = .ok (.getfield 119, 3) := by decide +kernel
theorem dX12_priceOf_9 : decode cX12_priceOf 9 = .ok (.aload_n 0, 1) := by decide +kernel
theorem dX12_priceOf_10 : decode cX12_priceOf 10 = .ok (.iload_n 1, 1) := by decide +kernel
theorem dX12_priceOf_11 : decode cX12_priceOf 11 = .ok (.invokevirtual 359, 3) := by decide +kernel
theorem dX12_priceOf_14 : decode cX12_priceOf 14 = .ok (.iaload, 1) := by decide +kernel
theorem dX12_priceOf_15 : decode cX12_priceOf 15 = .ok (.imul, 1) := by decide +kernel
theorem dX12_priceOf_16 : decode cX12_priceOf 16 = .ok (.bipush 100, 2) := by decide +kernel
theorem dX12_priceOf_18 : decode cX12_priceOf 18 = .ok (.idiv, 1) := by decide +kernel
theorem dX12_priceOf_19 : decode cX12_priceOf 19 = .ok (.ireturn, 1) := by decide +kernel
theorem inn_X12_endOf_12 : ∀ w ∈ u_ws RX12 TX12 66, w ∈ wsX12_endOf := fun w h => List.mem_cons_of_mem _ (List.mem_append_right _ h)
theorem inn_X12_metres_12 : ∀ w ∈ u_ws RX12 TX12 66, w ∈ wsX12_metres := fun w h => List.mem_cons_of_mem _ (List.mem_append_right _ h)
theorem inn_X12_priceOf_12 : ∀ w ∈ u_ws RX12 TX12 66, w ∈ wsX12_priceOf := fun w h => List.mem_cons_of_mem _ (List.mem_append_right _ h)
theorem inn_X12_weightOf_12 : ∀ w ∈ u_ws RX12 TX12 66, w ∈ wsX12_weightOf := fun w h => List.mem_cons_of_mem _ (List.mem_append_right _ h)
set_option maxHeartbeats 4000000 in
set_option maxRecDepth 100000 in
theorem k_X12_weight (l : Launch) (G : va_G) (cy : Nat → ClassId) (κ : Nat → Nat) (S : PS) (sz : Nat) (x : Nat) (a1 : Int32) (a1_z : Int) (a2 : Int32) (a2_z : Int) (hG : GX S) (ha_x : At S x 12) (hz_a1 : a1.toInt = a1_z) (hz_a2 : a2.toInt = a2_z) (hp_0 : 0 ≤ a1_z) (hp_1 : 0 ≤ a2_z) (hp_2 : a1_z + a2_z ≤ 13200) (hp_3 : MI S x) : Ci l yX12_weight wsX12_weight ({ frames := 5, cells := 0, slots := 0, locals := 240 }) G cy κ S sz [.ref x, .int (a1), .int (a2)] (fun (r : Int32) (S9 : PS) => S = S9 ∧ (True)) := by
  refine ent_m (cc := cX12_weight) (maxL := 5) (ret := (some .int)) (by decide) rfl (Nat.le_of_ble_eq_true rfl) ?_
  intro p e s m below meth c ls X hr hlocks hin hw hl hsz
  subst hsz
  have X : Cx p c cX12_weight 5 s [.ref x, .int (a1), .int (a2)].toArray wsX12_weight RX12 m G cy κ (AS S s.heap.size) := X
  have hl : lv_has ls 5 [(0, .ref x), (1, .int (a1)), (2, .int (a2))] := hl
  have rg_a1 : (-2147483648) ≤ a1_z ∧ a1_z ≤ 2147483647 := by rw [← hz_a1]; exact ⟨z_lo _, z_hi _⟩
  have rg_a2 : (-2147483648) ≤ a2_z ∧ a2_z ≤ 2147483647 := by rw [← hz_a2]; exact ⟨z_lo _, z_hi _⟩
  generalize hQQ : MQ below _ _ _ _ _ _ = QQ
  replace hQQ := hQQ.symm
  refine lv_iconst (v := 0) X.1 X.2.1 dX12_weight_0 (by decide) ?_
  refine lv_istore_n (lv' := [(3, .int 0), (0, .ref x), (1, .int (a1)), (2, .int (a2))]) X.1 X.2.1 dX12_weight_1 rfl hl (by decide) rfl (fun ls hl => ?_)
  refine lv_iload_n X.1 X.2.1 dX12_weight_2 rfl (lv_at hl 2 rfl) ?_
  refine lv_istore (lv' := [(4, .int (a1)), (3, .int 0), (0, .ref x), (1, .int (a1)), (2, .int (a2))]) X.1 X.2.1 dX12_weight_3 hl (by decide) rfl (fun ls hl => ?_)
  have L_1 : ∀ (n : Nat) (H : Heap) (locs : List Loc) (ls : Array Slot) (i3_2 : Int32) (i3_2_z : Int) (i4_3 : Int32) (i4_3_z : Int), ((a1_z + a2_z - i4_3_z).toNat = n) → (Wd G cy (AS S s.heap.size) s.heap S H locs) → (i3_2.toInt = i3_2_z) → (i4_3.toInt = i4_3_z) → (0 ≤ i4_3_z ∧ i4_3_z ≤ 13200) → (lv_has ls 5 [(3, .int (i3_2)), (4, .int (i4_3)), (0, .ref x), (1, .int (a1)), (2, .int (a2))]) → W p l e ({ frames := 5, cells := 0, slots := 0, locals := 240 }) s m [.ref x, .int (a1), .int (a2)].toArray below meth c H locs 0 0 QQ (F0 m 5 ls []) := by
    intro n
    induction n using Nat.strongRecOn with
    | ind n ih_L_1 =>
    intro H locs ls i3_2 i3_2_z i4_3 i4_3_z hn hw hz_i3_2 hz_i4_3 hr_i4_3 hl
    have rg_4 : (-2147483648) ≤ i3_2_z ∧ i3_2_z ≤ 2147483647 := by rw [← hz_i3_2]; exact ⟨z_lo _, z_hi _⟩
    have rg_5 : (-2147483648) ≤ i4_3_z ∧ i4_3_z ≤ 2147483647 := by rw [← hz_i4_3]; exact ⟨z_lo _, z_hi _⟩
    refine lv_iload X.1 X.2.1 dX12_weight_5 (lv_at hl 1 rfl) ?_
    refine lv_iload_n X.1 X.2.1 dX12_weight_7 rfl (lv_at hl 3 rfl) ?_
    refine lv_iload_n X.1 X.2.1 dX12_weight_8 rfl (lv_at hl 4 rfl) ?_
    refine lv_iadd X.1 X.2.1 dX12_weight_9 ?_
    refine lv_topi (fun v_6 ev_6 => ?_)
    have z_7 : v_6.toInt = a1_z + a2_z := z_add ev_6 hz_a1 hz_a2 (by omega) (by omega)
    refine lv_icmp_ge (tgt := 28) X.1 X.2.1 dX12_weight_10 (by decide) (fun c_8 => ?_) (fun c_8 => ?_)
    · have z_b_9 := trivial
      have k_10 : i4_3_z ≥ (a1_z + a2_z) := z_le z_7 hz_i4_3 c_8
      refine lv_iload_n X.1 X.2.1 dX12_weight_28 rfl (lv_at hl 0 rfl) ?_
      rw [hQQ]
      exact ret_i X hw hr hlocks (Nat.le_of_ble_eq_true rfl) (Nat.le_of_ble_eq_true rfl) ⟨rfl, trivial⟩ dX12_weight_29
    · have z_b_11 := trivial
      have k_12 : i4_3_z < (a1_z + a2_z) := z_nle z_7 hz_i4_3 c_8
      refine lv_iload_n X.1 X.2.1 dX12_weight_13 rfl (lv_at hl 0 rfl) ?_
      refine lv_aload_n X.1 X.2.1 dX12_weight_14 rfl (lv_at hl 2 rfl) ?_
      refine lv_iload X.1 X.2.1 dX12_weight_15 (lv_at hl 1 rfl) ?_
      refine k_i (rm := { frames := 4, cells := 0, slots := 0, locals := 192 }) (av := [.ref x, .int (i4_3)]) X hw (va_runV (As := [.int (i4_3)]) (rest := [.int (i3_2)]) (cfix X) (k_X12_fineAt l G cy κ S _ x (i4_3) (i4_3_z) hG ha_x hz_i4_3 (by omega) (by omega) hp_3) (cwV 1 X.2.2.2.1 gX12_weight_X12_fineAt rfl rfl rfl (by decide +kernel) ⟨Nat.le_of_ble_eq_true rfl, Nat.le_of_ble_eq_true rfl⟩) (pre_V X hw _ ha_x rfl (by decide) rfl) rfl rfl hl.1 rfl (lv_room (Nat.le_of_ble_eq_true rfl)) dX12_weight_17 ⟨Nat.le_of_ble_eq_true rfl, Nat.le_of_ble_eq_true rfl⟩) 0 0 (Nat.le_of_ble_eq_true rfl) (Nat.le_of_ble_eq_true rfl) (fun rr_13 S_14 H locs hp hw hfr hnw => ?_)
      obtain ⟨e2, hp⟩ := hp
      subst e2
      have rg_15 := And.intro (z_lo rr_13) (z_hi rr_13)
      refine lv_iadd X.1 X.2.1 dX12_weight_20 ?_
      refine lv_topi (fun v_16 ev_16 => ?_)
      have rg_17 := And.intro (z_lo v_16) (z_hi v_16)
      refine lv_istore_n (lv' := [(3, .int (v_16)), (4, .int (i4_3)), (0, .ref x), (1, .int (a1)), (2, .int (a2))]) X.1 X.2.1 dX12_weight_21 rfl hl (by decide) rfl (fun ls hl => ?_)
      obtain ⟨x_18, ex_18⟩ : ∃ y : Int32, y = i4_3 + 1 := ⟨_, rfl⟩
      have z_19 : x_18.toInt = i4_3_z + 1 := z_add ex_18 hz_i4_3 ti_1 (by omega) (by omega)
      refine lv_iinc (v := x_18) (lv' := [(4, .int (x_18)), (3, .int (v_16)), (0, .ref x), (1, .int (a1)), (2, .int (a2))]) X.1 X.2.1 dX12_weight_22 hl (k := 1) rfl (by rw [ex_18]; rfl) (by decide) rfl (fun ls hl => ?_)
      refine lv_goto (tgt := 5) X.1 X.2.1 dX12_weight_25 (by decide) ?_
      exact ih_L_1 _ (by omega) _ _ _ (v_16) (v_16.toInt) (x_18) (x_18.toInt) rfl hw rfl rfl (by omega) (lv_sub hl [1, 0, 2, 3, 4] rfl)
  exact L_1 _ _ _ _ (0) (0) (a1) (a1_z) rfl hw ti_0 hz_a1 (by omega) (lv_sub hl [1, 0, 2, 3, 4] rfl)
set_option maxHeartbeats 4000000 in
set_option maxRecDepth 100000 in
theorem k_X12_metres (l : Launch) (G : va_G) (cy : Nat → ClassId) (κ : Nat → Nat) (S : PS) (sz : Nat) (x : Nat) (a1 : Int32) (a1_z : Int) (hG : GX S) (ha_x : At S x 12) (hz_a1 : a1.toInt = a1_z) (hp_0 : 0 ≤ a1_z) (hp_1 : a1_z ≤ 39) (hp_2 : a1_z < (pI S 1238 x).toInt) (hp_3 : MI S x) : Ci l yX12_metres wsX12_metres ({ frames := 1, cells := 0, slots := 0, locals := 48 }) G cy κ S sz [.ref x, .int (a1)] (fun (r : Int32) (S9 : PS) => S = S9 ∧ (1 ≤ r.toInt ∧ r.toInt ≤ 300 ∧ r.toInt = zA S x 1239 (a1_z + 1).toNat - zA S x 1239 a1_z.toNat)) := by
  refine ent_m (cc := cX12_metres) (maxL := 2) (ret := (some .int)) (by decide) rfl (Nat.le_of_ble_eq_true rfl) ?_
  intro p e s m below meth c ls X hr hlocks hin hw hl hsz
  subst hsz
  have X : Cx p c cX12_metres 2 s [.ref x, .int (a1)].toArray wsX12_metres RX12 m G cy κ (AS S s.heap.size) := X
  have hl : lv_has ls 2 [(0, .ref x), (1, .int (a1))] := hl
  have rg_a1 : (-2147483648) ≤ a1_z ∧ a1_z ≤ 2147483647 := by rw [← hz_a1]; exact ⟨z_lo _, z_hi _⟩
  have h7 := MI_7 hp_3 (k := a1_z) (by omega) (by omega)
  refine lv_aload_n X.1 X.2.1 dX12_metres_0 rfl (lv_at hl 0 rfl) ?_
  obtain ⟨q_1, h_2, h_3, h_4⟩ := gQ_12_1239 hG ha_x
  refine r_getR (g := 1239) X hw ha_x rfl 39 h_2 (by decide) rfl inn_X12_metres_12 (by decide) (X.2.2.2.1 (.fieldLink RX12 100 "SilkMillModel" "firstMetre" "[I") (by decide +kernel)) rfl (gv_1239 _ _) dX12_metres_1 ?_
  refine lv_iload_n X.1 X.2.1 dX12_metres_4 rfl (lv_at hl 1 rfl) ?_
  refine lv_iconst (v := 1) X.1 X.2.1 dX12_metres_5 (by decide) ?_
  refine lv_iadd X.1 X.2.1 dX12_metres_6 ?_
  refine lv_topi (fun v_5 ev_5 => ?_)
  have z_6 : v_5.toInt = a1_z + 1 := z_add ev_5 hz_a1 ti_1 (by omega) (by omega)
  refine r_iald X hw h_3 rfl (by rw [h_4]; exact z_ix z_6 (by omega) (by omega)) dX12_metres_7 ?_
  refine lv_topi (fun v_7 ev_7 => ?_)
  have z_8 := gE_994 hG h_3 (Int32.toNatClampNeg (v_5)); rw [← ev_7] at z_8
  have ev_7 := ev_7.symm
  have zf_9 : zA S x 1239 ((a1_z + 1)).toNat = v_7.toInt := (zA_of h_2 z_6 (by omega) ev_7)
  refine lv_aload_n X.1 X.2.1 dX12_metres_8 rfl (lv_at hl 0 rfl) ?_
  refine r_getR (g := 1239) X hw ha_x rfl 39 h_2 (by decide) rfl inn_X12_metres_12 (by decide) (X.2.2.2.1 (.fieldLink RX12 100 "SilkMillModel" "firstMetre" "[I") (by decide +kernel)) rfl (gv_1239 _ _) dX12_metres_9 ?_
  refine lv_iload_n X.1 X.2.1 dX12_metres_12 rfl (lv_at hl 1 rfl) ?_
  refine r_iald X hw h_3 rfl (by rw [h_4]; exact z_ix hz_a1 (by omega) (by omega)) dX12_metres_13 ?_
  refine lv_topi (fun v_10 ev_10 => ?_)
  have z_11 := gE_994 hG h_3 (Int32.toNatClampNeg (a1)); rw [← ev_10] at z_11
  have ev_10 := ev_10.symm
  have zf_12 : zA S x 1239 (a1_z).toNat = v_10.toInt := (zA_of h_2 hz_a1 (by omega) ev_10)
  refine lv_isub X.1 X.2.1 dX12_metres_14 ?_
  refine lv_topi (fun v_13 ev_13 => ?_)
  have z_14 : v_13.toInt = v_7.toInt - v_10.toInt := z_sub ev_13 rfl rfl (by omega) (by omega)
  exact ret_i X hw hr hlocks (Nat.le_of_ble_eq_true rfl) (Nat.le_of_ble_eq_true rfl) ⟨rfl, ⟨by have hzr := z_14; omega, by have hzr := z_14; omega, by have hzr := z_14; omega⟩⟩ dX12_metres_15
set_option maxHeartbeats 4000000 in
set_option maxRecDepth 100000 in
theorem k_X12_weightOf (l : Launch) (G : va_G) (cy : Nat → ClassId) (κ : Nat → Nat) (S : PS) (sz : Nat) (x : Nat) (a1 : Int32) (a1_z : Int) (hG : GX S) (ha_x : At S x 12) (hz_a1 : a1.toInt = a1_z) (hp_0 : 0 ≤ a1_z) (hp_1 : a1_z ≤ 39) (hp_2 : a1_z < (pI S 1238 x).toInt) (hp_3 : MI S x) : Ci l yX12_weightOf wsX12_weightOf ({ frames := 6, cells := 0, slots := 0, locals := 288 }) G cy κ S sz [.ref x, .int (a1)] (fun (r : Int32) (S9 : PS) => S = S9 ∧ (True)) := by
  refine ent_m (cc := cX12_weightOf) (maxL := 2) (ret := (some .int)) (by decide) rfl (Nat.le_of_ble_eq_true rfl) ?_
  intro p e s m below meth c ls X hr hlocks hin hw hl hsz
  subst hsz
  have X : Cx p c cX12_weightOf 2 s [.ref x, .int (a1)].toArray wsX12_weightOf RX12 m G cy κ (AS S s.heap.size) := X
  have hl : lv_has ls 2 [(0, .ref x), (1, .int (a1))] := hl
  have rg_a1 : (-2147483648) ≤ a1_z ∧ a1_z ≤ 2147483647 := by rw [← hz_a1]; exact ⟨z_lo _, z_hi _⟩
  have h7 := MI_7 hp_3 (k := a1_z) (by omega) (by omega)
  refine lv_aload_n X.1 X.2.1 dX12_weightOf_0 rfl (lv_at hl 0 rfl) ?_
  refine lv_aload_n X.1 X.2.1 dX12_weightOf_1 rfl (lv_at hl 0 rfl) ?_
  obtain ⟨q_1, h_2, h_3, h_4⟩ := gQ_12_1239 hG ha_x
  refine r_getR (g := 1239) X hw ha_x rfl 39 h_2 (by decide) rfl inn_X12_weightOf_12 (by decide) (X.2.2.2.1 (.fieldLink RX12 100 "SilkMillModel" "firstMetre" "[I") (by decide +kernel)) rfl (gv_1239 _ _) dX12_weightOf_2 ?_
  refine lv_iload_n X.1 X.2.1 dX12_weightOf_5 rfl (lv_at hl 1 rfl) ?_
  refine r_iald X hw h_3 rfl (by rw [h_4]; exact z_ix hz_a1 (by omega) (by omega)) dX12_weightOf_6 ?_
  refine lv_topi (fun v_5 ev_5 => ?_)
  have z_6 := gE_994 hG h_3 (Int32.toNatClampNeg (a1)); rw [← ev_5] at z_6
  have ev_5 := ev_5.symm
  have zf_7 : zA S x 1239 (a1_z).toNat = v_5.toInt := (zA_of h_2 hz_a1 (by omega) ev_5)
  refine lv_aload_n X.1 X.2.1 dX12_weightOf_7 rfl (lv_at hl 0 rfl) ?_
  refine lv_iload_n X.1 X.2.1 dX12_weightOf_8 rfl (lv_at hl 1 rfl) ?_
  refine k_i (rm := { frames := 1, cells := 0, slots := 0, locals := 48 }) (av := [.ref x, .int (a1)]) X hw (va_runV (As := [.int (a1)]) (rest := [.int (v_5), .ref x]) (cfix X) (k_X12_metres l G cy κ S _ x (a1) (a1_z) hG ha_x hz_a1 (by first | assumption | omega) (by first | assumption | omega) (by first | assumption | omega) hp_3) (cwV 1 X.2.2.2.1 gX12_weightOf_X12_metres rfl rfl rfl (by decide +kernel) ⟨Nat.le_of_ble_eq_true rfl, Nat.le_of_ble_eq_true rfl⟩) (pre_V X hw _ ha_x rfl (by decide) rfl) rfl rfl hl.1 rfl (lv_room (Nat.le_of_ble_eq_true rfl)) dX12_weightOf_9 ⟨Nat.le_of_ble_eq_true rfl, Nat.le_of_ble_eq_true rfl⟩) 0 0 (Nat.le_of_ble_eq_true rfl) (Nat.le_of_ble_eq_true rfl) (fun rr_8 S_9 H locs hp hw hfr hnw => ?_)
  obtain ⟨e2, hp⟩ := hp
  subst e2
  obtain ⟨f_10, f_11, f_12⟩ := hp
  refine k_i (rm := { frames := 5, cells := 0, slots := 0, locals := 240 }) (av := [.ref x, .int (v_5), .int (rr_8)]) X hw (va_runV (As := [.int (v_5), .int (rr_8)]) (rest := []) (cfix X) (k_X12_weight l G cy κ S _ x (v_5) (v_5.toInt) (rr_8) (rr_8.toInt) hG ha_x rfl rfl (by first | assumption | omega) (by first | assumption | omega) (by first | assumption | omega) hp_3) (cwV 2 X.2.2.2.1 gX12_weightOf_X12_weight rfl rfl rfl (by decide +kernel) ⟨Nat.le_of_ble_eq_true rfl, Nat.le_of_ble_eq_true rfl⟩) (pre_V X hw _ ha_x rfl (by decide) rfl) rfl rfl hl.1 rfl (lv_room (Nat.le_of_ble_eq_true rfl)) dX12_weightOf_12 ⟨Nat.le_of_ble_eq_true rfl, Nat.le_of_ble_eq_true rfl⟩) 0 0 (Nat.le_of_ble_eq_true rfl) (Nat.le_of_ble_eq_true rfl) (fun rr_13 S_14 H locs hp hw hfr hnw => ?_)
  obtain ⟨e2, hp⟩ := hp
  subst e2
  have rg_15 := And.intro (z_lo rr_13) (z_hi rr_13)
  exact ret_i X hw hr hlocks (Nat.le_of_ble_eq_true rfl) (Nat.le_of_ble_eq_true rfl) ⟨rfl, trivial⟩ dX12_weightOf_15
set_option maxHeartbeats 4000000 in
set_option maxRecDepth 100000 in
theorem k_X12_priceOf (l : Launch) (G : va_G) (cy : Nat → ClassId) (κ : Nat → Nat) (S : PS) (sz : Nat) (x : Nat) (a1 : Int32) (a1_z : Int) (hG : GX S) (ha_x : At S x 12) (hz_a1 : a1.toInt = a1_z) (hp_0 : 0 ≤ a1_z) (hp_1 : a1_z ≤ 39) (hp_2 : a1_z < (pI S 1238 x).toInt) (hp_3 : MI S x) : Ci l yX12_priceOf wsX12_priceOf ({ frames := 7, cells := 0, slots := 0, locals := 336 }) G cy κ S sz [.ref x, .int (a1)] (fun (r : Int32) (S9 : PS) => S = S9 ∧ (True)) := by
  refine ent_m (cc := cX12_priceOf) (maxL := 2) (ret := (some .int)) (by decide) rfl (Nat.le_of_ble_eq_true rfl) ?_
  intro p e s m below meth c ls X hr hlocks hin hw hl hsz
  subst hsz
  have X : Cx p c cX12_priceOf 2 s [.ref x, .int (a1)].toArray wsX12_priceOf RX12 m G cy κ (AS S s.heap.size) := X
  have hl : lv_has ls 2 [(0, .ref x), (1, .int (a1))] := hl
  have rg_a1 : (-2147483648) ≤ a1_z ∧ a1_z ≤ 2147483647 := by rw [← hz_a1]; exact ⟨z_lo _, z_hi _⟩
  refine lv_aload_n X.1 X.2.1 dX12_priceOf_0 rfl (lv_at hl 0 rfl) ?_
  refine lv_iload_n X.1 X.2.1 dX12_priceOf_1 rfl (lv_at hl 1 rfl) ?_
  refine k_i (rm := { frames := 6, cells := 0, slots := 0, locals := 288 }) (av := [.ref x, .int (a1)]) X hw (va_runV (As := [.int (a1)]) (rest := []) (cfix X) (k_X12_weightOf l G cy κ S _ x (a1) (a1_z) hG ha_x hz_a1 (by first | assumption | omega) (by first | assumption | omega) (by first | assumption | omega) hp_3) (cwV 1 X.2.2.2.1 gX12_priceOf_X12_weightOf rfl rfl rfl (by decide +kernel) ⟨Nat.le_of_ble_eq_true rfl, Nat.le_of_ble_eq_true rfl⟩) (pre_V X hw _ ha_x rfl (by decide) rfl) rfl rfl hl.1 rfl (lv_room (Nat.le_of_ble_eq_true rfl)) dX12_priceOf_2 ⟨Nat.le_of_ble_eq_true rfl, Nat.le_of_ble_eq_true rfl⟩) 0 0 (Nat.le_of_ble_eq_true rfl) (Nat.le_of_ble_eq_true rfl) (fun rr_1 S_2 H locs hp hw hfr hnw => ?_)
  obtain ⟨e2, hp⟩ := hp
  subst e2
  have rg_3 := And.intro (z_lo rr_1) (z_hi rr_1)
  refine lv_aload_n X.1 X.2.1 dX12_priceOf_5 rfl (lv_at hl 0 rfl) ?_
  obtain ⟨q_4, h_5, h_6, h_7⟩ := gQ_12_1248 hG ha_x
  refine r_getR (g := 1248) X hw ha_x rfl 48 h_5 (by decide) rfl inn_X12_priceOf_12 (by decide) (X.2.2.2.1 (.fieldLink RX12 119 "SilkMillModel" "price" "[I") (by decide +kernel)) rfl (gv_1248 _ _) dX12_priceOf_6 ?_
  refine lv_aload_n X.1 X.2.1 dX12_priceOf_9 rfl (lv_at hl 0 rfl) ?_
  refine lv_iload_n X.1 X.2.1 dX12_priceOf_10 rfl (lv_at hl 1 rfl) ?_
  refine k_i (rm := { frames := 1, cells := 0, slots := 0, locals := 48 }) (av := [.ref x, .int (a1)]) X hw (va_runV (As := [.int (a1)]) (rest := [.ref q_4, .int (rr_1)]) (cfix X) (k_X12_gradeOf l G cy κ S _ x (a1) (a1_z) hG ha_x hz_a1 (by first | assumption | omega) (by first | assumption | omega)) (cwV 1 X.2.2.2.1 gX12_priceOf_X12_gradeOf rfl rfl rfl (by decide +kernel) ⟨Nat.le_of_ble_eq_true rfl, Nat.le_of_ble_eq_true rfl⟩) (pre_V X hw _ ha_x rfl (by decide) rfl) rfl rfl hl.1 rfl (lv_room (Nat.le_of_ble_eq_true rfl)) dX12_priceOf_11 ⟨Nat.le_of_ble_eq_true rfl, Nat.le_of_ble_eq_true rfl⟩) 0 0 (Nat.le_of_ble_eq_true rfl) (Nat.le_of_ble_eq_true rfl) (fun rr_8 S_9 H locs hp hw hfr hnw => ?_)
  obtain ⟨e2, hp⟩ := hp
  subst e2
  obtain ⟨f_10, f_11⟩ := hp
  refine r_iald X hw h_6 rfl (by rw [h_7]; exact z_ix rfl (by omega) (by omega)) dX12_priceOf_14 ?_
  refine lv_topi (fun v_12 ev_12 => ?_)
  have rg_13 := And.intro (z_lo v_12) (z_hi v_12)
  have ev_12 := ev_12.symm
  refine lv_imul X.1 X.2.1 dX12_priceOf_15 ?_
  refine lv_topi (fun v_14 ev_14 => ?_)
  have rg_15 := And.intro (z_lo v_14) (z_hi v_14)
  refine lv_bipush (v := 100) X.1 X.2.1 dX12_priceOf_16 (by decide) ?_
  refine lv_idiv X.1 X.2.1 dX12_priceOf_18 (by decide) ?_
  refine lv_topi (fun v_16 ev_16 => ?_)
  have rg_17 := And.intro (z_lo v_16) (z_hi v_16)
  exact ret_i X hw hr hlocks (Nat.le_of_ble_eq_true rfl) (Nat.le_of_ble_eq_true rfl) ⟨rfl, trivial⟩ dX12_priceOf_19
set_option maxHeartbeats 4000000 in
set_option maxRecDepth 100000 in
theorem k_X12_endOf (l : Launch) (G : va_G) (cy : Nat → ClassId) (κ : Nat → Nat) (S : PS) (sz : Nat) (x : Nat) (a1 : Int32) (a1_z : Int) (a2 : Int32) (a2_z : Int) (hG : GX S) (ha_x : At S x 12) (hz_a1 : a1.toInt = a1_z) (hz_a2 : a2.toInt = a2_z) (hp_0 : 0 ≤ a1_z) (hp_1 : a1_z ≤ 13199) : Ci l yX12_endOf wsX12_endOf ({ frames := 1, cells := 0, slots := 0, locals := 48 }) G cy κ S sz [.ref x, .int (a1), .int (a2)] (fun (r : Int32) (S9 : PS) => S = S9 ∧ (True)) := by
  refine ent_m (cc := cX12_endOf) (maxL := 4) (ret := (some .int)) (by decide) rfl (Nat.le_of_ble_eq_true rfl) ?_
  intro p e s m below meth c ls X hr hlocks hin hw hl hsz
  subst hsz
  have X : Cx p c cX12_endOf 4 s [.ref x, .int (a1), .int (a2)].toArray wsX12_endOf RX12 m G cy κ (AS S s.heap.size) := X
  have hl : lv_has ls 4 [(0, .ref x), (1, .int (a1)), (2, .int (a2))] := hl
  have rg_a1 : (-2147483648) ≤ a1_z ∧ a1_z ≤ 2147483647 := by rw [← hz_a1]; exact ⟨z_lo _, z_hi _⟩
  have rg_a2 : (-2147483648) ≤ a2_z ∧ a2_z ≤ 2147483647 := by rw [← hz_a2]; exact ⟨z_lo _, z_hi _⟩
  generalize hQQ : MQ below _ _ _ _ _ _ = QQ
  replace hQQ := hQQ.symm
  refine lv_aload_n X.1 X.2.1 dX12_endOf_0 rfl (lv_at hl 0 rfl) ?_
  obtain ⟨q_1, h_2, h_3, h_4⟩ := gQ_12_1235 hG ha_x
  refine r_getR (g := 1235) X hw ha_x rfl 35 h_2 (by decide) rfl inn_X12_endOf_12 (by decide) (X.2.2.2.1 (.fieldLink RX12 90 "SilkMillModel" "metreEnds" "[I") (by decide +kernel)) rfl (gv_1235 _ _) dX12_endOf_1 ?_
  refine lv_iload_n X.1 X.2.1 dX12_endOf_4 rfl (lv_at hl 1 rfl) ?_
  refine r_iald X hw h_3 rfl (by rw [h_4]; exact z_ix hz_a1 (by omega) (by omega)) dX12_endOf_5 ?_
  refine lv_topi (fun v_5 ev_5 => ?_)
  have z_6 := gE_914 hG h_3 (Int32.toNatClampNeg (a1)); rw [← ev_5] at z_6
  have ev_5 := ev_5.symm
  refine lv_iconst (v := 1) X.1 X.2.1 dX12_endOf_6 (by decide) ?_
  refine lv_isub X.1 X.2.1 dX12_endOf_7 ?_
  refine lv_topi (fun v_7 ev_7 => ?_)
  have z_8 : v_7.toInt = v_5.toInt - 1 := z_sub ev_7 rfl ti_1 (by omega) (by omega)
  refine lv_istore_n (lv' := [(3, .int (v_7)), (0, .ref x), (1, .int (a1)), (2, .int (a2))]) X.1 X.2.1 dX12_endOf_8 rfl hl (by decide) rfl (fun ls hl => ?_)
  have L_9 : ∀ (n : Nat) (H : Heap) (locs : List Loc) (ls : Array Slot) (i3_10 : Int32) (i3_10_z : Int), ((i3_10_z + 1).toNat = n) → (Wd G cy (AS S s.heap.size) s.heap S H locs) → (i3_10.toInt = i3_10_z) → ((-1) ≤ i3_10_z ∧ i3_10_z ≤ 11) → (lv_has ls 4 [(3, .int (i3_10)), (0, .ref x), (1, .int (a1)), (2, .int (a2))]) → W p l e ({ frames := 1, cells := 0, slots := 0, locals := 48 }) s m [.ref x, .int (a1), .int (a2)].toArray below meth c H locs 0 0 QQ (F0 m 9 ls []) := by
    intro n
    induction n using Nat.strongRecOn with
    | ind n ih_L_9 =>
    intro H locs ls i3_10 i3_10_z hn hw hz_i3_10 hr_i3_10 hl
    have rg_11 : (-2147483648) ≤ i3_10_z ∧ i3_10_z ≤ 2147483647 := by rw [← hz_i3_10]; exact ⟨z_lo _, z_hi _⟩
    refine lv_iload_n X.1 X.2.1 dX12_endOf_9 rfl (lv_at hl 0 rfl) ?_
    refine lv_if_lt (tgt := 38) X.1 X.2.1 dX12_endOf_10 (by decide) (fun c_12 => ?_) (fun c_12 => ?_)
    · have z_b_13 := trivial
      have k_14 : i3_10_z < 0 := z_lt hz_i3_10 ti_0 c_12
      refine lv_iload_n X.1 X.2.1 dX12_endOf_38 rfl (lv_at hl 0 rfl) ?_
      rw [hQQ]
      exact ret_i X hw hr hlocks (Nat.le_of_ble_eq_true rfl) (Nat.le_of_ble_eq_true rfl) ⟨rfl, trivial⟩ dX12_endOf_39
    · have z_b_15 := trivial
      have k_16 : i3_10_z ≥ 0 := z_nlt hz_i3_10 ti_0 c_12
      refine lv_aload_n X.1 X.2.1 dX12_endOf_13 rfl (lv_at hl 1 rfl) ?_
      obtain ⟨q_17, h_18, h_19, h_20⟩ := gQ_12_1236 hG ha_x
      refine r_getR (g := 1236) X hw ha_x rfl 36 h_18 (by decide) rfl inn_X12_endOf_12 (by decide) (X.2.2.2.1 (.fieldLink RX12 94 "SilkMillModel" "drawn" "[I") (by decide +kernel)) rfl (gv_1236 _ _) dX12_endOf_14 ?_
      refine lv_bipush (v := 12) X.1 X.2.1 dX12_endOf_17 (by decide) ?_
      refine lv_iload_n X.1 X.2.1 dX12_endOf_19 rfl (lv_at hl 2 rfl) ?_
      refine lv_imul X.1 X.2.1 dX12_endOf_20 ?_
      refine lv_topi (fun v_21 ev_21 => ?_)
      have z_22 : v_21.toInt = 12 * a1_z := z_mul ev_21 ti_12 hz_a1 (by omega) (by omega)
      refine lv_iload_n X.1 X.2.1 dX12_endOf_21 rfl (lv_at hl 0 rfl) ?_
      refine lv_iadd X.1 X.2.1 dX12_endOf_22 ?_
      refine lv_topi (fun v_23 ev_23 => ?_)
      have z_24 : v_23.toInt = (12 * a1_z) + i3_10_z := z_add ev_23 z_22 hz_i3_10 (by omega) (by omega)
      refine r_iald X hw h_19 rfl (by rw [h_20]; exact z_ix z_24 (by omega) (by omega)) dX12_endOf_23 ?_
      refine lv_topi (fun v_25 ev_25 => ?_)
      have z_26 := gE_934 hG h_19 (Int32.toNatClampNeg (v_23)); rw [← ev_25] at z_26
      have ev_25 := ev_25.symm
      refine lv_sipush (v := 1000) X.1 X.2.1 dX12_endOf_24 (by decide) ?_
      refine lv_idiv X.1 X.2.1 dX12_endOf_27 (by decide) ?_
      refine lv_topi (fun v_27 ev_27 => ?_)
      have z_28 : v_27.toInt = v_25.toInt / 1000 := z_div ev_27 rfl ti_1000 (by omega) (by omega)
      refine lv_iload_n X.1 X.2.1 dX12_endOf_28 rfl (lv_at hl 3 rfl) ?_
      refine lv_icmp_eq (tgt := 38) X.1 X.2.1 dX12_endOf_29 (by decide) (fun c_29 => ?_) (fun c_29 => ?_)
      · have z_b_30 := trivial
        have k_31 : (v_25.toInt / 1000) = a2_z := z_eq z_28 hz_a2 c_29
        refine lv_iload_n X.1 X.2.1 dX12_endOf_38 rfl (lv_at hl 0 rfl) ?_
        rw [hQQ]
        exact ret_i X hw hr hlocks (Nat.le_of_ble_eq_true rfl) (Nat.le_of_ble_eq_true rfl) ⟨rfl, trivial⟩ dX12_endOf_39
      · have z_b_32 := trivial
        have k_33 : (v_25.toInt / 1000) ≠ a2_z := z_ne z_28 hz_a2 c_29
        obtain ⟨x_34, ex_34⟩ : ∃ y : Int32, y = i3_10 + (-1) := ⟨_, rfl⟩
        have z_35 : x_34.toInt = i3_10_z + (-1) := z_add ex_34 hz_i3_10 ti_m1 (by omega) (by omega)
        refine lv_iinc (v := x_34) (lv' := [(3, .int (x_34)), (0, .ref x), (1, .int (a1)), (2, .int (a2))]) X.1 X.2.1 dX12_endOf_32 hl (k := 0) rfl (by rw [ex_34]; rfl) (by decide) rfl (fun ls hl => ?_)
        refine lv_goto (tgt := 9) X.1 X.2.1 dX12_endOf_35 (by decide) ?_
        exact ih_L_9 _ (by omega) _ _ _ (x_34) (x_34.toInt) rfl hw rfl (by omega) (lv_sub hl [0, 1, 2, 3] rfl)
  exact L_9 _ _ _ _ (v_7) ((v_5.toInt - 1)) rfl hw z_8 (by omega) (lv_sub hl [0, 1, 2, 3] rfl)
