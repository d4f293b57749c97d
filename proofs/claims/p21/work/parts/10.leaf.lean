def eCO : List Nat := [3, 4]
def eRW : List Nat := [500, 502, 10016]
def eBA : List Nat := [902, 903, 904]
def eAM : List Nat := [902, 903, 11614, 11634]
def eDR : List Nat := [101, 102, 103, 10074]
def eRO : List Nat := [10034]
def eRA : List Nat := [10034, 10134]
def eRU : List Nat := [600, 10134]
def eWD : List Nat := [10114]
def ePC : List Nat := [3, 300, 303]
def ePU : List Nat := [300, 304]
def ePW : List Nat := [300, 301, 10114]
def eRT : List Nat := [3]
def eGU : List Nat := [3, 300]
def eMX : List Nat := [203, 204, 205, 206, 207, 11734, 11754, 11774]
def eMM : List Nat := [708, 709]
def eFA : List Nat := [806, 11674, 11694, 11714]
def eAP : List Nat := [1000, 10013]
def eFF : List Nat := [1001, 1002]
def eTK : List Nat := [1004, 1005, 1006]
def eID : List Nat := [10194]
def eTG : List Nat := [404]
def eEN : List Nat := [1000]
def ePR : List Nat := [10154]
def eDY : List Nat := [801]
def eRC : List Nat := [3, 5, 500, 502, 10016]
def eFL : List Nat := [3, 406, 500, 502, 10016]
def eCF : List Nat := [3, 500, 502, 10016]
def eFI : List Nat := [3, 405, 406, 500, 502, 10016]
def eTH : List Nat := [3, 804, 500, 502, 10016]
def eMR : List Nat := [905, 906, 907, 908]
def eKE : List Nat := [800, 803, 805, 10019]
def eMI : List Nat := [203, 204, 205, 206, 207, 11734, 11754, 11774, 708, 709]
def eTX : List Nat := [1001, 1002, 1004, 1005, 1006, 600, 10034, 10134]
def eGR : List Nat := [101, 102, 103, 10074, 707]
def eSH : List Nat := [3, 300, 301, 303, 304, 10114, 1110]
def ePG : List Nat := [1001, 1002, 1004, 1005, 1006, 600, 10034, 10134, 1000, 409, 1106]
def eMO : List Nat := [905, 906, 907, 908, 6, 904, 10014]
def eDE : List Nat := [905, 906, 907, 908, 6, 904, 10014, 3, 4, 500, 502, 10016]
def eCU : List Nat := [800, 803, 805, 10019, 902, 903, 904]
def eAC : List Nat := [800, 803, 805, 10019, 902, 903, 904, 3, 405, 406, 500, 502, 804, 10016]
def eDM : List Nat := [3, 4, 6, 407, 500, 502, 800, 802, 803, 805, 902, 903, 904, 905, 906, 907, 908, 10014, 10016, 10019, 11614, 11634]
def eTI : List Nat := [3, 4, 6, 405, 406, 407, 408, 500, 502, 800, 802, 803, 804, 805, 902, 903, 904, 905, 906, 907, 908, 10014, 10016, 10019, 11614, 11634]
def eLO : List Nat := [1102, 10036, 10054]
def ePT : List Nat := [1104, 10018]
theorem dX0_code_0 : decode cX0_code 0 = .ok (.aload_n 0, 1) := by decide +kernel
theorem dX0_code_1 : decode cX0_code 1 = .ok (.getfield 18, 3) := by decide +kernel
theorem dX0_code_4 : decode cX0_code 4 = .ok (.bipush 100, 2) := by decide +kernel
theorem dX0_code_6 : decode cX0_code 6 = .ok (.imul, 1) := by decide +kernel
theorem dX0_code_7 : decode cX0_code 7 = .ok (.aload_n 0, 1) := by decide +kernel
theorem dX0_code_8 : decode cX0_code 8 = .ok (.getfield 21, 3) := by decide +kernel
theorem dX0_code_11 : decode cX0_code 11 = .ok (.iadd, 1) := by decide +kernel
theorem dX0_code_12 : decode cX0_code 12 = .ok (.ireturn, 1) := by decide +kernel
theorem dX0_isInPot_0 : decode cX0_isInPot 0 = .ok (.aload_n 0, 1) := by decide +kernel
theorem dX0_isInPot_1 : decode cX0_isInPot 1 = .ok (.getfield 9, 3) := by decide +kernel
theorem dX0_isInPot_4 : decode cX0_isInPot 4 = .ok (.iconst 1, 1) := by decide +kernel
theorem dX0_isInPot_5 : decode cX0_isInPot 5 = .ok (.if_icmp .eq 19, 3) := by decide +kernel
theorem dX0_isInPot_8 : decode cX0_isInPot 8 = .ok (.aload_n 0, 1) := by decide +kernel
theorem dX0_isInPot_9 : decode cX0_isInPot 9 = .ok (.getfield 9, 3) := by decide +kernel
theorem dX0_isInPot_12 : decode cX0_isInPot 12 = .ok (.iconst 2, 1) := by decide +kernel
theorem dX0_isInPot_13 : decode cX0_isInPot 13 = .ok (.if_icmp .eq 11, 3) := by decide +kernel
theorem dX0_isInPot_16 : decode cX0_isInPot 16 = .ok (.aload_n 0, 1) := by decide +kernel
theorem dX0_isInPot_17 : decode cX0_isInPot 17 = .ok (.getfield 9, 3) := by decide +kernel
theorem dX0_isInPot_20 : decode cX0_isInPot 20 = .ok (.iconst 3, 1) := by decide +kernel
theorem dX0_isInPot_21 : decode cX0_isInPot 21 = .ok (.if_icmp .ne 7, 3) := by decide +kernel
theorem dX0_isInPot_24 : decode cX0_isInPot 24 = .ok (.iconst 1, 1) := by decide +kernel
theorem dX0_isInPot_25 : decode cX0_isInPot 25 = .ok (.goto 4, 3) := by decide +kernel
theorem dX0_isInPot_28 : decode cX0_isInPot 28 = .ok (.iconst 0, 1) := by decide +kernel
theorem dX0_isInPot_29 : decode cX0_isInPot 29 = .ok (.ireturn, 1) := by decide +kernel
theorem dX0_finenessAt_0 : decode cX0_finenessAt 0 = .ok (.iload_n 1, 1) := by decide +kernel
theorem dX0_finenessAt_1 : decode cX0_finenessAt 1 = .ok (.ifCond .lt 11, 3) := by decide +kernel
theorem dX0_finenessAt_4 : decode cX0_finenessAt 4 = .ok (.iload_n 1, 1) := by decide +kernel
theorem dX0_finenessAt_5 : decode cX0_finenessAt 5 = .ok (.aload_n 0, 1) := by decide +kernel
theorem dX0_finenessAt_6 : decode cX0_finenessAt 6 = .ok (.getfield 40, 3) := by decide +kernel
theorem dX0_finenessAt_9 : decode cX0_finenessAt 9 = .ok (.if_icmp .lt 5, 3) := by decide +kernel
theorem dX0_finenessAt_12 : decode cX0_finenessAt 12 = .ok (.iconst 0, 1) := by decide +kernel
theorem dX0_finenessAt_13 : decode cX0_finenessAt 13 = .ok (.ireturn, 1) := by decide +kernel
theorem dX0_finenessAt_14 : decode cX0_finenessAt 14 = .ok (.aload_n 0, 1) := by decide +kernel
theorem dX0_finenessAt_15 : decode cX0_finenessAt 15 = .ok (.getfield 43, 3) := by decide +kernel
theorem dX0_finenessAt_18 : decode cX0_finenessAt 18 = .ok (.getstatic 46, 3) := by decide +kernel
theorem dX0_finenessAt_21 : decode cX0_finenessAt 21 = .ok (.bipush 8, 2) := by decide +kernel
theorem dX0_finenessAt_23 : decode cX0_finenessAt 23 = .ok (.iload_n 1, 1) := by decide +kernel
theorem dX0_finenessAt_24 : decode cX0_finenessAt 24 = .ok (.imul, 1) := by decide +kernel
theorem dX0_finenessAt_25 : decode cX0_finenessAt 25 = .ok (.aload_n 0, 1) := by decide +kernel
theorem dX0_finenessAt_26 : decode cX0_finenessAt 26 = .ok (.getfield 40, 3) := by decide +kernel
theorem dX0_finenessAt_29 : decode cX0_finenessAt 29 = .ok (.idiv, 1) := by decide +kernel
theorem dX0_finenessAt_30 : decode cX0_finenessAt 30 = .ok (.iaload, 1) := by decide +kernel
theorem dX0_finenessAt_31 : decode cX0_finenessAt 31 = .ok (.imul, 1) := by decide +kernel
theorem dX0_finenessAt_32 : decode cX0_finenessAt 32 = .ok (.bipush 100, 2) := by decide +kernel
theorem dX0_finenessAt_34 : decode cX0_finenessAt 34 = .ok (.idiv, 1) := by decide +kernel
theorem dX0_finenessAt_35 : decode cX0_finenessAt 35 = .ok (.ireturn, 1) := by decide +kernel
theorem dX11_next_0 : decode cX11_next 0 = .ok (.iload_n 0, 1) := by decide +kernel
theorem dX11_next_1 : decode cX11_next 1 = .ok (.ldc_w 380, 3) := by decide +kernel
theorem dX11_next_4 : decode cX11_next 4 = .ok (.imul, 1) := by decide +kernel
theorem dX11_next_5 : decode cX11_next 5 = .ok (.sipush 12345, 3) := by decide +kernel
theorem dX11_next_8 : decode cX11_next 8 = .ok (.iadd, 1) := by decide +kernel
theorem dX11_next_9 : decode cX11_next 9 = .ok (.ireturn, 1) := by decide +kernel
theorem dX11_isWithin_0 : decode cX11_isWithin 0 = .ok (.iload_n 0, 1) := by decide +kernel
theorem dX11_isWithin_1 : decode cX11_isWithin 1 = .ok (.iload_n 1, 1) := by decide +kernel
theorem dX11_isWithin_2 : decode cX11_isWithin 2 = .ok (.if_icmp .lt 12, 3) := by decide +kernel
theorem dX11_isWithin_5 : decode cX11_isWithin 5 = .ok (.iload_n 0, 1) := by decide +kernel
theorem dX11_isWithin_6 : decode cX11_isWithin 6 = .ok (.iload_n 2, 1) := by decide +kernel
theorem dX11_isWithin_7 : decode cX11_isWithin 7 = .ok (.if_icmp .gt 7, 3) := by decide +kernel
theorem dX11_isWithin_10 : decode cX11_isWithin 10 = .ok (.iconst 1, 1) := by decide +kernel
theorem dX11_isWithin_11 : decode cX11_isWithin 11 = .ok (.goto 4, 3) := by decide +kernel
theorem dX11_isWithin_14 : decode cX11_isWithin 14 = .ok (.iconst 0, 1) := by decide +kernel
theorem dX11_isWithin_15 : decode cX11_isWithin 15 = .ok (.ireturn, 1) := by decide +kernel
set_option maxRecDepth 20000 in
theorem ggX11_isTarget_X11_isWithin : GoodIn wsX11_isTarget wsX11_isWithin := goodIn_h _ [4] [0] (by decide +kernel) (by decide +kernel)
set_option maxRecDepth 20000 in
theorem gX11_isTarget_X11_isWithin : GoodIn wsX11_isTarget (va_wsS RX11 67 yX11_isWithin wsX11_isWithin) := goodIn_app (goodIn_of _ (by decide +kernel)) ggX11_isTarget_X11_isWithin
theorem dX11_isTarget_0 : decode cX11_isTarget 0 = .ok (.iload_n 0, 1) := by decide +kernel
theorem dX11_isTarget_1 : decode cX11_isTarget 1 = .ok (.bipush 10, 2) := by decide +kernel
theorem dX11_isTarget_3 : decode cX11_isTarget 3 = .ok (.sipush 2000, 3) := by decide +kernel
theorem dX11_isTarget_6 : decode cX11_isTarget 6 = .ok (.invokestatic 67, 3) := by decide +kernel
theorem dX11_isTarget_9 : decode cX11_isTarget 9 = .ok (.ireturn, 1) := by decide +kernel
theorem dX11_isStretch_0 : decode cX11_isStretch 0 = .ok (.iload_n 1, 1) := by decide +kernel
theorem dX11_isStretch_1 : decode cX11_isStretch 1 = .ok (.ifCond .lt 23, 3) := by decide +kernel
theorem dX11_isStretch_4 : decode cX11_isStretch 4 = .ok (.iload_n 1, 1) := by decide +kernel
theorem dX11_isStretch_5 : decode cX11_isStretch 5 = .ok (.iload_n 2, 1) := by decide +kernel
theorem dX11_isStretch_6 : decode cX11_isStretch 6 = .ok (.if_icmp .gt 18, 3) := by decide +kernel
theorem dX11_isStretch_9 : decode cX11_isStretch 9 = .ok (.iload_n 0, 1) := by decide +kernel
theorem dX11_isStretch_10 : decode cX11_isStretch 10 = .ok (.ifCond .lt 14, 3) := by decide +kernel
theorem dX11_isStretch_13 : decode cX11_isStretch 13 = .ok (.iload_n 0, 1) := by decide +kernel
theorem dX11_isStretch_14 : decode cX11_isStretch 14 = .ok (.iload_n 2, 1) := by decide +kernel
theorem dX11_isStretch_15 : decode cX11_isStretch 15 = .ok (.iload_n 1, 1) := by decide +kernel
theorem dX11_isStretch_16 : decode cX11_isStretch 16 = .ok (.isub, 1) := by decide +kernel
theorem dX11_isStretch_17 : decode cX11_isStretch 17 = .ok (.if_icmp .gt 7, 3) := by decide +kernel
theorem dX11_isStretch_20 : decode cX11_isStretch 20 = .ok (.iconst 1, 1) := by decide +kernel
theorem dX11_isStretch_21 : decode cX11_isStretch 21 = .ok (.goto 4, 3) := by decide +kernel
theorem dX11_isStretch_24 : decode cX11_isStretch 24 = .ok (.iconst 0, 1) := by decide +kernel
theorem dX11_isStretch_25 : decode cX11_isStretch 25 = .ok (.ireturn, 1) := by decide +kernel
theorem dX12_within_0 : decode cX12_within 0 = .ok (.iload_n 0, 1) := by decide +kernel
theorem dX12_within_1 : decode cX12_within 1 = .ok (.iload_n 1, 1) := by decide +kernel
theorem dX12_within_2 : decode cX12_within 2 = .ok (.if_icmp .lt 12, 3) := by decide +kernel
theorem dX12_within_5 : decode cX12_within 5 = .ok (.iload_n 0, 1) := by decide +kernel
theorem dX12_within_6 : decode cX12_within 6 = .ok (.iload_n 2, 1) := by decide +kernel
theorem dX12_within_7 : decode cX12_within 7 = .ok (.if_icmp .gt 7, 3) := by decide +kernel
theorem dX12_within_10 : decode cX12_within 10 = .ok (.iconst 1, 1) := by decide +kernel
theorem dX12_within_11 : decode cX12_within 11 = .ok (.goto 4, 3) := by decide +kernel
theorem dX12_within_14 : decode cX12_within 14 = .ok (.iconst 0, 1) := by decide +kernel
theorem dX12_within_15 : decode cX12_within 15 = .ok (.ireturn, 1) := by decide +kernel
theorem dX12_next_0 : decode cX12_next 0 = .ok (.iload_n 0, 1) := by decide +kernel
theorem dX12_next_1 : decode cX12_next 1 = .ok (.ldc 164, 2) := by decide +kernel
theorem dX12_next_3 : decode cX12_next 3 = .ok (.imul, 1) := by decide +kernel
theorem dX12_next_4 : decode cX12_next 4 = .ok (.sipush 12345, 3) := by decide +kernel
theorem dX12_next_7 : decode cX12_next 7 = .ok (.iadd, 1) := by decide +kernel
theorem dX12_next_8 : decode cX12_next 8 = .ok (.ireturn, 1) := by decide +kernel
theorem inn_X0_code_0 : ∀ w ∈ u_ws RX0 TX0 10, w ∈ wsX0_code := fun w h => List.mem_cons_of_mem _ (List.mem_append_right _ h)
theorem inn_X0_finenessAt_0 : ∀ w ∈ u_ws RX0 TX0 10, w ∈ wsX0_finenessAt := fun w h => List.mem_cons_of_mem _ (List.mem_append_right _ h)
theorem inn_X0_isInPot_0 : ∀ w ∈ u_ws RX0 TX0 10, w ∈ wsX0_isInPot := fun w h => List.mem_cons_of_mem _ (List.mem_append_right _ h)
set_option maxHeartbeats 4000000 in
set_option maxRecDepth 100000 in
theorem k_X11_isWithin (l : Launch) (G : va_G) (cy : Nat → ClassId) (κ : Nat → Nat) (S : PS) (sz : Nat) (v : Int32) (v_z : Int) (lo : Int32) (lo_z : Int) (hi : Int32) (hi_z : Int) (hG : GX S) (hz_v : v.toInt = v_z) (hz_lo : lo.toInt = lo_z) (hz_hi : hi.toInt = hi_z) : Ci l yX11_isWithin wsX11_isWithin ({ frames := 1, cells := 0, slots := 0, locals := 48 }) G cy κ S sz [.int (v), .int (lo), .int (hi)] (fun (r : Int32) (S9 : PS) => S = S9 ∧ (((lo_z ≤ v_z ∧ v_z ≤ hi_z) ∧ r = 1) ∨ ((¬ (lo_z ≤ v_z ∧ v_z ≤ hi_z)) ∧ r = 0))) := by
  refine ent_m (cc := cX11_isWithin) (maxL := 3) (ret := (some .boolean)) (by decide) rfl (Nat.le_of_ble_eq_true rfl) ?_
  intro p e s m below meth c ls X hr hlocks hin hw hl hsz
  subst hsz
  have X : Cx p c cX11_isWithin 3 s [.int (v), .int (lo), .int (hi)].toArray wsX11_isWithin RX11 m G cy κ (AS S s.heap.size) := X
  have hl : lv_has ls 3 [(0, .int (v)), (1, .int (lo)), (2, .int (hi))] := hl
  have rg_v : (-2147483648) ≤ v_z ∧ v_z ≤ 2147483647 := by rw [← hz_v]; exact ⟨z_lo _, z_hi _⟩
  have rg_lo : (-2147483648) ≤ lo_z ∧ lo_z ≤ 2147483647 := by rw [← hz_lo]; exact ⟨z_lo _, z_hi _⟩
  have rg_hi : (-2147483648) ≤ hi_z ∧ hi_z ≤ 2147483647 := by rw [← hz_hi]; exact ⟨z_lo _, z_hi _⟩
  refine lv_iload_n X.1 X.2.1 dX11_isWithin_0 rfl (lv_at hl 0 rfl) ?_
  refine lv_iload_n X.1 X.2.1 dX11_isWithin_1 rfl (lv_at hl 1 rfl) ?_
  refine lv_icmp_lt (tgt := 14) X.1 X.2.1 dX11_isWithin_2 (by decide) (fun c_1 => ?_) (fun c_1 => ?_)
  · have z_b_2 := trivial
    have k_3 : v_z < lo_z := z_lt hz_v hz_lo c_1
    refine lv_iconst (v := 0) X.1 X.2.1 dX11_isWithin_14 (by decide) ?_
    exact ret_z X hw hr hlocks (Nat.le_of_ble_eq_true rfl) (Nat.le_of_ble_eq_true rfl) (by decide) ⟨rfl, Or.inr ⟨by omega, rfl⟩⟩ dX11_isWithin_15
  · have z_b_4 := trivial
    have k_5 : v_z ≥ lo_z := z_nlt hz_v hz_lo c_1
    refine lv_iload_n X.1 X.2.1 dX11_isWithin_5 rfl (lv_at hl 0 rfl) ?_
    refine lv_iload_n X.1 X.2.1 dX11_isWithin_6 rfl (lv_at hl 2 rfl) ?_
    refine lv_icmp_gt (tgt := 14) X.1 X.2.1 dX11_isWithin_7 (by decide) (fun c_6 => ?_) (fun c_6 => ?_)
    · have z_b_7 := trivial
      have k_8 : v_z > hi_z := z_lt hz_hi hz_v c_6
      refine lv_iconst (v := 0) X.1 X.2.1 dX11_isWithin_14 (by decide) ?_
      exact ret_z X hw hr hlocks (Nat.le_of_ble_eq_true rfl) (Nat.le_of_ble_eq_true rfl) (by decide) ⟨rfl, Or.inr ⟨by omega, rfl⟩⟩ dX11_isWithin_15
    · have z_b_9 := trivial
      have k_10 : v_z ≤ hi_z := z_nlt hz_hi hz_v c_6
      refine lv_iconst (v := 1) X.1 X.2.1 dX11_isWithin_10 (by decide) ?_
      refine lv_goto (tgt := 15) X.1 X.2.1 dX11_isWithin_11 (by decide) ?_
      exact ret_z X hw hr hlocks (Nat.le_of_ble_eq_true rfl) (Nat.le_of_ble_eq_true rfl) (by decide) ⟨rfl, Or.inl ⟨by omega, rfl⟩⟩ dX11_isWithin_15
set_option maxHeartbeats 4000000 in
set_option maxRecDepth 100000 in
theorem k_X12_within (l : Launch) (G : va_G) (cy : Nat → ClassId) (κ : Nat → Nat) (S : PS) (sz : Nat) (v : Int32) (v_z : Int) (lo : Int32) (lo_z : Int) (hi : Int32) (hi_z : Int) (hG : GX S) (hz_v : v.toInt = v_z) (hz_lo : lo.toInt = lo_z) (hz_hi : hi.toInt = hi_z) : Ci l yX12_within wsX12_within ({ frames := 1, cells := 0, slots := 0, locals := 48 }) G cy κ S sz [.int (v), .int (lo), .int (hi)] (fun (r : Int32) (S9 : PS) => S = S9 ∧ (((lo_z ≤ v_z ∧ v_z ≤ hi_z) ∧ r = 1) ∨ ((¬ (lo_z ≤ v_z ∧ v_z ≤ hi_z)) ∧ r = 0))) := by
  refine ent_m (cc := cX12_within) (maxL := 3) (ret := (some .boolean)) (by decide) rfl (Nat.le_of_ble_eq_true rfl) ?_
  intro p e s m below meth c ls X hr hlocks hin hw hl hsz
  subst hsz
  have X : Cx p c cX12_within 3 s [.int (v), .int (lo), .int (hi)].toArray wsX12_within RX12 m G cy κ (AS S s.heap.size) := X
  have hl : lv_has ls 3 [(0, .int (v)), (1, .int (lo)), (2, .int (hi))] := hl
  have rg_v : (-2147483648) ≤ v_z ∧ v_z ≤ 2147483647 := by rw [← hz_v]; exact ⟨z_lo _, z_hi _⟩
  have rg_lo : (-2147483648) ≤ lo_z ∧ lo_z ≤ 2147483647 := by rw [← hz_lo]; exact ⟨z_lo _, z_hi _⟩
  have rg_hi : (-2147483648) ≤ hi_z ∧ hi_z ≤ 2147483647 := by rw [← hz_hi]; exact ⟨z_lo _, z_hi _⟩
  refine lv_iload_n X.1 X.2.1 dX12_within_0 rfl (lv_at hl 0 rfl) ?_
  refine lv_iload_n X.1 X.2.1 dX12_within_1 rfl (lv_at hl 1 rfl) ?_
  refine lv_icmp_lt (tgt := 14) X.1 X.2.1 dX12_within_2 (by decide) (fun c_1 => ?_) (fun c_1 => ?_)
  · have z_b_2 := trivial
    have k_3 : v_z < lo_z := z_lt hz_v hz_lo c_1
    refine lv_iconst (v := 0) X.1 X.2.1 dX12_within_14 (by decide) ?_
    exact ret_z X hw hr hlocks (Nat.le_of_ble_eq_true rfl) (Nat.le_of_ble_eq_true rfl) (by decide) ⟨rfl, Or.inr ⟨by omega, rfl⟩⟩ dX12_within_15
  · have z_b_4 := trivial
    have k_5 : v_z ≥ lo_z := z_nlt hz_v hz_lo c_1
    refine lv_iload_n X.1 X.2.1 dX12_within_5 rfl (lv_at hl 0 rfl) ?_
    refine lv_iload_n X.1 X.2.1 dX12_within_6 rfl (lv_at hl 2 rfl) ?_
    refine lv_icmp_gt (tgt := 14) X.1 X.2.1 dX12_within_7 (by decide) (fun c_6 => ?_) (fun c_6 => ?_)
    · have z_b_7 := trivial
      have k_8 : v_z > hi_z := z_lt hz_hi hz_v c_6
      refine lv_iconst (v := 0) X.1 X.2.1 dX12_within_14 (by decide) ?_
      exact ret_z X hw hr hlocks (Nat.le_of_ble_eq_true rfl) (Nat.le_of_ble_eq_true rfl) (by decide) ⟨rfl, Or.inr ⟨by omega, rfl⟩⟩ dX12_within_15
    · have z_b_9 := trivial
      have k_10 : v_z ≤ hi_z := z_nlt hz_hi hz_v c_6
      refine lv_iconst (v := 1) X.1 X.2.1 dX12_within_10 (by decide) ?_
      refine lv_goto (tgt := 15) X.1 X.2.1 dX12_within_11 (by decide) ?_
      exact ret_z X hw hr hlocks (Nat.le_of_ble_eq_true rfl) (Nat.le_of_ble_eq_true rfl) (by decide) ⟨rfl, Or.inl ⟨by omega, rfl⟩⟩ dX12_within_15
set_option maxHeartbeats 4000000 in
set_option maxRecDepth 100000 in
theorem k_X11_isTarget (l : Launch) (G : va_G) (cy : Nat → ClassId) (κ : Nat → Nat) (S : PS) (sz : Nat) (v : Int32) (v_z : Int) (hG : GX S) (hz_v : v.toInt = v_z) : Ci l yX11_isTarget wsX11_isTarget ({ frames := 2, cells := 0, slots := 0, locals := 96 }) G cy κ S sz [.int (v)] (fun (r : Int32) (S9 : PS) => S = S9 ∧ (((10 ≤ v_z ∧ v_z ≤ 2000) ∧ r = 1) ∨ ((¬ (10 ≤ v_z ∧ v_z ≤ 2000)) ∧ r = 0))) := by
  refine ent_m (cc := cX11_isTarget) (maxL := 1) (ret := (some .boolean)) (by decide) rfl (Nat.le_of_ble_eq_true rfl) ?_
  intro p e s m below meth c ls X hr hlocks hin hw hl hsz
  subst hsz
  have X : Cx p c cX11_isTarget 1 s [.int (v)].toArray wsX11_isTarget RX11 m G cy κ (AS S s.heap.size) := X
  have hl : lv_has ls 1 [(0, .int (v))] := hl
  have rg_v : (-2147483648) ≤ v_z ∧ v_z ≤ 2147483647 := by rw [← hz_v]; exact ⟨z_lo _, z_hi _⟩
  refine lv_iload_n X.1 X.2.1 dX11_isTarget_0 rfl (lv_at hl 0 rfl) ?_
  refine lv_bipush (v := 10) X.1 X.2.1 dX11_isTarget_1 (by decide) ?_
  refine lv_sipush (v := 2000) X.1 X.2.1 dX11_isTarget_3 (by decide) ?_
  refine k_i (rm := { frames := 1, cells := 0, slots := 0, locals := 48 }) (av := [.int (v), .int 10, .int 2000]) X hw (va_runS (As := [.int (v), .int 10, .int 2000]) (rest := []) (cfix X) (k_X11_isWithin l G cy κ S _ (v) (v_z) (10) (10) (2000) (2000) hG hz_v ti_10 ti_2000) (cwS 3 X.2.2.2.1 gX11_isTarget_X11_isWithin rfl rfl rfl (by decide +kernel) ⟨Nat.le_of_ble_eq_true rfl, Nat.le_of_ble_eq_true rfl⟩) (pre_S X hw _) rfl rfl hl.1 rfl (lv_room (Nat.le_of_ble_eq_true rfl)) dX11_isTarget_6 ⟨Nat.le_of_ble_eq_true rfl, Nat.le_of_ble_eq_true rfl⟩) 0 0 (Nat.le_of_ble_eq_true rfl) (Nat.le_of_ble_eq_true rfl) (fun rr_1 S_2 H locs hp hw hfr hnw => ?_)
  obtain ⟨e2, hp⟩ := hp
  subst e2
  rcases hp with ⟨f_3, er_4⟩ | ⟨f_3, er_4⟩ <;> subst er_4
  · have z_b_5 := trivial
    exact ret_z X hw hr hlocks (Nat.le_of_ble_eq_true rfl) (Nat.le_of_ble_eq_true rfl) (by decide) ⟨rfl, Or.inl ⟨by omega, rfl⟩⟩ dX11_isTarget_9
  · have z_b_6 := trivial
    exact ret_z X hw hr hlocks (Nat.le_of_ble_eq_true rfl) (Nat.le_of_ble_eq_true rfl) (by decide) ⟨rfl, Or.inr ⟨by omega, rfl⟩⟩ dX11_isTarget_9
set_option maxHeartbeats 4000000 in
set_option maxRecDepth 100000 in
theorem k_X11_isStretch (l : Launch) (G : va_G) (cy : Nat → ClassId) (κ : Nat → Nat) (S : PS) (sz : Nat) (fr : Int32) (fr_z : Int) (nn : Int32) (nn_z : Int) (si : Int32) (si_z : Int) (hG : GX S) (hz_fr : fr.toInt = fr_z) (hz_nn : nn.toInt = nn_z) (hz_si : si.toInt = si_z) (hp_0 : 0 ≤ si_z) : Ci l yX11_isStretch wsX11_isStretch ({ frames := 1, cells := 0, slots := 0, locals := 48 }) G cy κ S sz [.int (fr), .int (nn), .int (si)] (fun (r : Int32) (S9 : PS) => S = S9 ∧ (((0 ≤ nn_z ∧ 0 ≤ fr_z ∧ fr_z + nn_z ≤ si_z) ∧ r = 1) ∨ ((True) ∧ r = 0))) := by
  refine ent_m (cc := cX11_isStretch) (maxL := 3) (ret := (some .boolean)) (by decide) rfl (Nat.le_of_ble_eq_true rfl) ?_
  intro p e s m below meth c ls X hr hlocks hin hw hl hsz
  subst hsz
  have X : Cx p c cX11_isStretch 3 s [.int (fr), .int (nn), .int (si)].toArray wsX11_isStretch RX11 m G cy κ (AS S s.heap.size) := X
  have hl : lv_has ls 3 [(0, .int (fr)), (1, .int (nn)), (2, .int (si))] := hl
  have rg_fr : (-2147483648) ≤ fr_z ∧ fr_z ≤ 2147483647 := by rw [← hz_fr]; exact ⟨z_lo _, z_hi _⟩
  have rg_nn : (-2147483648) ≤ nn_z ∧ nn_z ≤ 2147483647 := by rw [← hz_nn]; exact ⟨z_lo _, z_hi _⟩
  have rg_si : (-2147483648) ≤ si_z ∧ si_z ≤ 2147483647 := by rw [← hz_si]; exact ⟨z_lo _, z_hi _⟩
  refine lv_iload_n X.1 X.2.1 dX11_isStretch_0 rfl (lv_at hl 1 rfl) ?_
  refine lv_if_lt (tgt := 24) X.1 X.2.1 dX11_isStretch_1 (by decide) (fun c_1 => ?_) (fun c_1 => ?_)
  · have z_b_2 := trivial
    have k_3 : nn_z < 0 := z_lt hz_nn ti_0 c_1
    refine lv_iconst (v := 0) X.1 X.2.1 dX11_isStretch_24 (by decide) ?_
    exact ret_z X hw hr hlocks (Nat.le_of_ble_eq_true rfl) (Nat.le_of_ble_eq_true rfl) (by decide) ⟨rfl, Or.inr ⟨trivial, rfl⟩⟩ dX11_isStretch_25
  · have z_b_4 := trivial
    have k_5 : nn_z ≥ 0 := z_nlt hz_nn ti_0 c_1
    refine lv_iload_n X.1 X.2.1 dX11_isStretch_4 rfl (lv_at hl 1 rfl) ?_
    refine lv_iload_n X.1 X.2.1 dX11_isStretch_5 rfl (lv_at hl 2 rfl) ?_
    refine lv_icmp_gt (tgt := 24) X.1 X.2.1 dX11_isStretch_6 (by decide) (fun c_6 => ?_) (fun c_6 => ?_)
    · have z_b_7 := trivial
      have k_8 : nn_z > si_z := z_lt hz_si hz_nn c_6
      refine lv_iconst (v := 0) X.1 X.2.1 dX11_isStretch_24 (by decide) ?_
      exact ret_z X hw hr hlocks (Nat.le_of_ble_eq_true rfl) (Nat.le_of_ble_eq_true rfl) (by decide) ⟨rfl, Or.inr ⟨trivial, rfl⟩⟩ dX11_isStretch_25
    · have z_b_9 := trivial
      have k_10 : nn_z ≤ si_z := z_nlt hz_si hz_nn c_6
      refine lv_iload_n X.1 X.2.1 dX11_isStretch_9 rfl (lv_at hl 0 rfl) ?_
      refine lv_if_lt (tgt := 24) X.1 X.2.1 dX11_isStretch_10 (by decide) (fun c_11 => ?_) (fun c_11 => ?_)
      · have z_b_12 := trivial
        have k_13 : fr_z < 0 := z_lt hz_fr ti_0 c_11
        refine lv_iconst (v := 0) X.1 X.2.1 dX11_isStretch_24 (by decide) ?_
        exact ret_z X hw hr hlocks (Nat.le_of_ble_eq_true rfl) (Nat.le_of_ble_eq_true rfl) (by decide) ⟨rfl, Or.inr ⟨trivial, rfl⟩⟩ dX11_isStretch_25
      · have z_b_14 := trivial
        have k_15 : fr_z ≥ 0 := z_nlt hz_fr ti_0 c_11
        refine lv_iload_n X.1 X.2.1 dX11_isStretch_13 rfl (lv_at hl 0 rfl) ?_
        refine lv_iload_n X.1 X.2.1 dX11_isStretch_14 rfl (lv_at hl 2 rfl) ?_
        refine lv_iload_n X.1 X.2.1 dX11_isStretch_15 rfl (lv_at hl 1 rfl) ?_
        refine lv_isub X.1 X.2.1 dX11_isStretch_16 ?_
        refine lv_topi (fun v_16 ev_16 => ?_)
        have z_17 : v_16.toInt = si_z - nn_z := z_sub ev_16 hz_si hz_nn (by omega) (by omega)
        refine lv_icmp_gt (tgt := 24) X.1 X.2.1 dX11_isStretch_17 (by decide) (fun c_18 => ?_) (fun c_18 => ?_)
        · have z_b_19 := trivial
          have k_20 : fr_z > v_16.toInt := z_lt rfl hz_fr c_18
          refine lv_iconst (v := 0) X.1 X.2.1 dX11_isStretch_24 (by decide) ?_
          exact ret_z X hw hr hlocks (Nat.le_of_ble_eq_true rfl) (Nat.le_of_ble_eq_true rfl) (by decide) ⟨rfl, Or.inr ⟨trivial, rfl⟩⟩ dX11_isStretch_25
        · have z_b_21 := trivial
          have k_22 : fr_z ≤ v_16.toInt := z_nlt rfl hz_fr c_18
          refine lv_iconst (v := 1) X.1 X.2.1 dX11_isStretch_20 (by decide) ?_
          refine lv_goto (tgt := 25) X.1 X.2.1 dX11_isStretch_21 (by decide) ?_
          exact ret_z X hw hr hlocks (Nat.le_of_ble_eq_true rfl) (Nat.le_of_ble_eq_true rfl) (by decide) ⟨rfl, Or.inl ⟨by omega, rfl⟩⟩ dX11_isStretch_25
set_option maxHeartbeats 4000000 in
set_option maxRecDepth 100000 in
theorem k_X0_code (l : Launch) (G : va_G) (cy : Nat → ClassId) (κ : Nat → Nat) (S : PS) (sz : Nat) (x : Nat) (hG : GX S) (ha_x : At S x 0) : Ci l yX0_code wsX0_code ({ frames := 1, cells := 0, slots := 0, locals := 48 }) G cy κ S sz [.ref x] (fun (r : Int32) (S9 : PS) => S = S9 ∧ (True)) := by
  refine ent_m (cc := cX0_code) (maxL := 1) (ret := (some .int)) (by decide) rfl (Nat.le_of_ble_eq_true rfl) ?_
  intro p e s m below meth c ls X hr hlocks hin hw hl hsz
  subst hsz
  have X : Cx p c cX0_code 1 s [.ref x].toArray wsX0_code RX0 m G cy κ (AS S s.heap.size) := X
  have hl : lv_has ls 1 [(0, .ref x)] := hl
  refine lv_aload_n X.1 X.2.1 dX0_code_0 rfl (lv_at hl 0 rfl) ?_
  obtain ⟨v_1, ev_1⟩ : ∃ v, pI S 0 x = v := ⟨_, rfl⟩
  have rg_3 := And.intro (z_lo v_1) (z_hi v_1)
  refine r_getI (g := 0) (x := v_1) X hw ha_x rfl 0 ev_1 (by decide) rfl inn_X0_code_0 (by decide) (X.2.2.2.1 (.fieldLink RX0 18 "SilkMill$Cocoon" "lotNumber" "I") (by decide +kernel)) rfl (gv_0 _ _) dX0_code_1 ?_
  refine lv_bipush (v := 100) X.1 X.2.1 dX0_code_4 (by decide) ?_
  refine lv_imul X.1 X.2.1 dX0_code_6 ?_
  refine lv_topi (fun v_4 ev_4 => ?_)
  have rg_5 := And.intro (z_lo v_4) (z_hi v_4)
  refine lv_aload_n X.1 X.2.1 dX0_code_7 rfl (lv_at hl 0 rfl) ?_
  obtain ⟨v_6, ev_6⟩ : ∃ v, pI S 1 x = v := ⟨_, rfl⟩
  have rg_8 := And.intro (z_lo v_6) (z_hi v_6)
  refine r_getI (g := 1) (x := v_6) X hw ha_x rfl 1 ev_6 (by decide) rfl inn_X0_code_0 (by decide) (X.2.2.2.1 (.fieldLink RX0 21 "SilkMill$Cocoon" "index" "I") (by decide +kernel)) rfl (gv_1 _ _) dX0_code_8 ?_
  refine lv_iadd X.1 X.2.1 dX0_code_11 ?_
  refine lv_topi (fun v_9 ev_9 => ?_)
  have rg_10 := And.intro (z_lo v_9) (z_hi v_9)
  exact ret_i X hw hr hlocks (Nat.le_of_ble_eq_true rfl) (Nat.le_of_ble_eq_true rfl) ⟨rfl, trivial⟩ dX0_code_12
set_option maxHeartbeats 4000000 in
set_option maxRecDepth 100000 in
theorem k_X0_isInPot (l : Launch) (G : va_G) (cy : Nat → ClassId) (κ : Nat → Nat) (S : PS) (sz : Nat) (x : Nat) (hG : GX S) (ha_x : At S x 0) : Ci l yX0_isInPot wsX0_isInPot ({ frames := 1, cells := 0, slots := 0, locals := 48 }) G cy κ S sz [.ref x] (fun (r : Int32) (S9 : PS) => S = S9 ∧ (((True) ∧ r = 1) ∨ ((True) ∧ r = 0))) := by
  refine ent_m (cc := cX0_isInPot) (maxL := 1) (ret := (some .boolean)) (by decide) rfl (Nat.le_of_ble_eq_true rfl) ?_
  intro p e s m below meth c ls X hr hlocks hin hw hl hsz
  subst hsz
  have X : Cx p c cX0_isInPot 1 s [.ref x].toArray wsX0_isInPot RX0 m G cy κ (AS S s.heap.size) := X
  have hl : lv_has ls 1 [(0, .ref x)] := hl
  refine lv_aload_n X.1 X.2.1 dX0_isInPot_0 rfl (lv_at hl 0 rfl) ?_
  obtain ⟨v_1, ev_1⟩ : ∃ v, pI S 3 x = v := ⟨_, rfl⟩
  have rg_3 := And.intro (z_lo v_1) (z_hi v_1)
  refine r_getI (g := 3) (x := v_1) X hw ha_x rfl 3 ev_1 (by decide) rfl inn_X0_isInPot_0 (by decide) (X.2.2.2.1 (.fieldLink RX0 9 "SilkMill$Cocoon" "stand" "I") (by decide +kernel)) rfl (gv_3 _ _) dX0_isInPot_1 ?_
  refine lv_iconst (v := 1) X.1 X.2.1 dX0_isInPot_4 (by decide) ?_
  refine lv_icmp_eq (tgt := 24) X.1 X.2.1 dX0_isInPot_5 (by decide) (fun c_4 => ?_) (fun c_4 => ?_)
  · have z_b_5 := trivial
    have k_6 : v_1.toInt = 1 := z_eq rfl ti_1 c_4
    refine lv_iconst (v := 1) X.1 X.2.1 dX0_isInPot_24 (by decide) ?_
    refine lv_goto (tgt := 29) X.1 X.2.1 dX0_isInPot_25 (by decide) ?_
    exact ret_z X hw hr hlocks (Nat.le_of_ble_eq_true rfl) (Nat.le_of_ble_eq_true rfl) (by decide) ⟨rfl, Or.inl ⟨trivial, rfl⟩⟩ dX0_isInPot_29
  · have z_b_7 := trivial
    have k_8 : v_1.toInt ≠ 1 := z_ne rfl ti_1 c_4
    refine lv_aload_n X.1 X.2.1 dX0_isInPot_8 rfl (lv_at hl 0 rfl) ?_
    refine r_getI (g := 3) (x := v_1) X hw ha_x rfl 3 ev_1 (by decide) rfl inn_X0_isInPot_0 (by decide) (X.2.2.2.1 (.fieldLink RX0 9 "SilkMill$Cocoon" "stand" "I") (by decide +kernel)) rfl (gv_3 _ _) dX0_isInPot_9 ?_
    refine lv_iconst (v := 2) X.1 X.2.1 dX0_isInPot_12 (by decide) ?_
    refine lv_icmp_eq (tgt := 24) X.1 X.2.1 dX0_isInPot_13 (by decide) (fun c_9 => ?_) (fun c_9 => ?_)
    · have z_b_10 := trivial
      have k_11 : v_1.toInt = 2 := z_eq rfl ti_2 c_9
      refine lv_iconst (v := 1) X.1 X.2.1 dX0_isInPot_24 (by decide) ?_
      refine lv_goto (tgt := 29) X.1 X.2.1 dX0_isInPot_25 (by decide) ?_
      exact ret_z X hw hr hlocks (Nat.le_of_ble_eq_true rfl) (Nat.le_of_ble_eq_true rfl) (by decide) ⟨rfl, Or.inl ⟨trivial, rfl⟩⟩ dX0_isInPot_29
    · have z_b_12 := trivial
      have k_13 : v_1.toInt ≠ 2 := z_ne rfl ti_2 c_9
      refine lv_aload_n X.1 X.2.1 dX0_isInPot_16 rfl (lv_at hl 0 rfl) ?_
      refine r_getI (g := 3) (x := v_1) X hw ha_x rfl 3 ev_1 (by decide) rfl inn_X0_isInPot_0 (by decide) (X.2.2.2.1 (.fieldLink RX0 9 "SilkMill$Cocoon" "stand" "I") (by decide +kernel)) rfl (gv_3 _ _) dX0_isInPot_17 ?_
      refine lv_iconst (v := 3) X.1 X.2.1 dX0_isInPot_20 (by decide) ?_
      refine lv_icmp_ne (tgt := 28) X.1 X.2.1 dX0_isInPot_21 (by decide) (fun c_14 => ?_) (fun c_14 => ?_)
      · have z_b_15 := trivial
        have k_16 : v_1.toInt ≠ 3 := z_ne rfl ti_3 c_14
        refine lv_iconst (v := 0) X.1 X.2.1 dX0_isInPot_28 (by decide) ?_
        exact ret_z X hw hr hlocks (Nat.le_of_ble_eq_true rfl) (Nat.le_of_ble_eq_true rfl) (by decide) ⟨rfl, Or.inr ⟨trivial, rfl⟩⟩ dX0_isInPot_29
      · have z_b_17 := trivial
        have k_18 : v_1.toInt = 3 := z_eq rfl ti_3 c_14
        refine lv_iconst (v := 1) X.1 X.2.1 dX0_isInPot_24 (by decide) ?_
        refine lv_goto (tgt := 29) X.1 X.2.1 dX0_isInPot_25 (by decide) ?_
        exact ret_z X hw hr hlocks (Nat.le_of_ble_eq_true rfl) (Nat.le_of_ble_eq_true rfl) (by decide) ⟨rfl, Or.inl ⟨trivial, rfl⟩⟩ dX0_isInPot_29
set_option maxHeartbeats 4000000 in
set_option maxRecDepth 100000 in
theorem k_X0_finenessAt (l : Launch) (G : va_G) (cy : Nat → ClassId) (κ : Nat → Nat) (S : PS) (sz : Nat) (x : Nat) (a1 : Int32) (a1_z : Int) (hG : GX S) (ha_x : At S x 0) (hz_a1 : a1.toInt = a1_z) : Ci l yX0_finenessAt wsX0_finenessAt ({ frames := 1, cells := 0, slots := 0, locals := 48 }) G cy κ S sz [.ref x, .int (a1)] (fun (r : Int32) (S9 : PS) => S = S9 ∧ (True)) := by
  refine ent_m (cc := cX0_finenessAt) (maxL := 2) (ret := (some .int)) (by decide) rfl (Nat.le_of_ble_eq_true rfl) ?_
  intro p e s m below meth c ls X hr hlocks hin hw hl hsz
  subst hsz
  have X : Cx p c cX0_finenessAt 2 s [.ref x, .int (a1)].toArray wsX0_finenessAt RX0 m G cy κ (AS S s.heap.size) := X
  have hl : lv_has ls 2 [(0, .ref x), (1, .int (a1))] := hl
  have rg_a1 : (-2147483648) ≤ a1_z ∧ a1_z ≤ 2147483647 := by rw [← hz_a1]; exact ⟨z_lo _, z_hi _⟩
  refine lv_iload_n X.1 X.2.1 dX0_finenessAt_0 rfl (lv_at hl 1 rfl) ?_
  refine lv_if_lt (tgt := 12) X.1 X.2.1 dX0_finenessAt_1 (by decide) (fun c_1 => ?_) (fun c_1 => ?_)
  · have z_b_2 := trivial
    have k_3 : a1_z < 0 := z_lt hz_a1 ti_0 c_1
    refine lv_iconst (v := 0) X.1 X.2.1 dX0_finenessAt_12 (by decide) ?_
    exact ret_i X hw hr hlocks (Nat.le_of_ble_eq_true rfl) (Nat.le_of_ble_eq_true rfl) ⟨rfl, trivial⟩ dX0_finenessAt_13
  · have z_b_4 := trivial
    have k_5 : a1_z ≥ 0 := z_nlt hz_a1 ti_0 c_1
    refine lv_iload_n X.1 X.2.1 dX0_finenessAt_4 rfl (lv_at hl 1 rfl) ?_
    refine lv_aload_n X.1 X.2.1 dX0_finenessAt_5 rfl (lv_at hl 0 rfl) ?_
    obtain ⟨v_6, ev_6⟩ : ∃ v, pI S 2 x = v := ⟨_, rfl⟩
    have rg_7 := gI_0_2 hG ha_x; rw [ev_6] at rg_7
    refine r_getI (g := 2) (x := v_6) X hw ha_x rfl 2 ev_6 (by decide) rfl inn_X0_finenessAt_0 (by decide) (X.2.2.2.1 (.fieldLink RX0 40 "SilkMill$Cocoon" "length" "I") (by decide +kernel)) rfl (gv_2 _ _) dX0_finenessAt_6 ?_
    refine lv_icmp_lt (tgt := 14) X.1 X.2.1 dX0_finenessAt_9 (by decide) (fun c_8 => ?_) (fun c_8 => ?_)
    · have z_b_9 := trivial
      have k_10 : a1_z < v_6.toInt := z_lt hz_a1 rfl c_8
      refine lv_aload_n X.1 X.2.1 dX0_finenessAt_14 rfl (lv_at hl 0 rfl) ?_
      obtain ⟨v_11, ev_11⟩ : ∃ v, pI S 8 x = v := ⟨_, rfl⟩
      have rg_13 := And.intro (z_lo v_11) (z_hi v_11)
      refine r_getI (g := 8) (x := v_11) X hw ha_x rfl 8 ev_11 (by decide) rfl inn_X0_finenessAt_0 (by decide) (X.2.2.2.1 (.fieldLink RX0 43 "SilkMill$Cocoon" "base" "I") (by decide +kernel)) rfl (gv_8 _ _) dX0_finenessAt_15 ?_
      refine va_getsN (host := RX11) X.1 X.2.1 X.2.2.2.2.2.2.2.2.1 hw.2.2 X.2.2.2.2.1 (va_Nw.use rfl X.2.2.2.2.2.2.2.1.2.2.2.2.1) (fun x h => h) dX0_finenessAt_18 ?_
      refine lv_bipush (v := 8) X.1 X.2.1 dX0_finenessAt_21 (by decide) ?_
      refine lv_iload_n X.1 X.2.1 dX0_finenessAt_23 rfl (lv_at hl 1 rfl) ?_
      refine lv_imul X.1 X.2.1 dX0_finenessAt_24 ?_
      refine lv_topi (fun v_14 ev_14 => ?_)
      have z_15 : v_14.toInt = 8 * a1_z := z_mul ev_14 ti_8 hz_a1 (by omega) (by omega)
      refine lv_aload_n X.1 X.2.1 dX0_finenessAt_25 rfl (lv_at hl 0 rfl) ?_
      refine r_getI (g := 2) (x := v_6) X hw ha_x rfl 2 ev_6 (by decide) rfl inn_X0_finenessAt_0 (by decide) (X.2.2.2.1 (.fieldLink RX0 40 "SilkMill$Cocoon" "length" "I") (by decide +kernel)) rfl (gv_2 _ _) dX0_finenessAt_26 ?_
      refine lv_idiv X.1 X.2.1 dX0_finenessAt_29 (z_nz rfl (by omega)) ?_
      refine lv_topi (fun v_16 ev_16 => ?_)
      have z_17 : v_16.toInt = v_14.toInt / v_6.toInt := z_div ev_16 rfl rfl (by omega) (by omega)
      have z_18 : v_16.toInt < 8 := by rw [z_17]; exact Int.ediv_lt_of_lt_mul (by omega) (by omega)
      have z_19 : 0 ≤ v_16.toInt ∧ v_16.toInt ≤ v_14.toInt := by rw [z_17]; exact ⟨Int.ediv_nonneg (by omega) (by omega), Int.ediv_le_self _ (by omega)⟩
      refine va_ti X.1 X.2.1 X.2.2.2.2.2.2.2.2.2.1 hw.2.2 (v := .int (thinF (Int32.toNatClampNeg (v_16)))) (z_ix rfl (by omega) (by omega)) rfl dX0_finenessAt_30 ?_
      refine lv_topi (fun v_20 ev_20 => ?_)
      have z_21 : 0 ≤ v_20.toInt ∧ v_20.toInt ≤ 104 := thin_rng ev_20
      refine lv_imul X.1 X.2.1 dX0_finenessAt_31 ?_
      refine lv_topi (fun v_22 ev_22 => ?_)
      have rg_23 := And.intro (z_lo v_22) (z_hi v_22)
      refine lv_bipush (v := 100) X.1 X.2.1 dX0_finenessAt_32 (by decide) ?_
      refine lv_idiv X.1 X.2.1 dX0_finenessAt_34 (by decide) ?_
      refine lv_topi (fun v_24 ev_24 => ?_)
      have rg_25 := And.intro (z_lo v_24) (z_hi v_24)
      exact ret_i X hw hr hlocks (Nat.le_of_ble_eq_true rfl) (Nat.le_of_ble_eq_true rfl) ⟨rfl, trivial⟩ dX0_finenessAt_35
    · have z_b_26 := trivial
      have k_27 : a1_z ≥ v_6.toInt := z_nlt hz_a1 rfl c_8
      refine lv_iconst (v := 0) X.1 X.2.1 dX0_finenessAt_12 (by decide) ?_
      exact ret_i X hw hr hlocks (Nat.le_of_ble_eq_true rfl) (Nat.le_of_ble_eq_true rfl) ⟨rfl, trivial⟩ dX0_finenessAt_13
