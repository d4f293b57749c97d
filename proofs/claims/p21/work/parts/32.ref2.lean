theorem len_pos {sd lg i v : Int32} (e : v = lg + prt (nxt (sd + 7919 * i)) 41 - 20) (h : 20 ≤ v) : v = lenI sd lg i := by
  unfold lenI; rw [← e, if_pos h]
theorem len_neg {sd lg i v : Int32} (e : v = lg + prt (nxt (sd + 7919 * i)) 41 - 20) (h : ¬ 20 ≤ v) : 20 = lenI sd lg i := by
  unfold lenI; rw [← e, if_neg h]
theorem lz1 {a : Int32} {z : Int} (h : a.toInt = z) (h0 : 0 ≤ z) : (a / 60).toNatClampNeg = (z / 60).toNat := by
  have h1 : (a / 60).toInt = z / 60 := z_div rfl h (by decide) h0 (by decide)
  have h2 := z_nat h1 (by omega)
  omega
theorem lz2 {a : Int32} {z : Int} (h : a.toInt = z) (h0 : 0 ≤ z) : a - a / 60 * 60 = Int32.ofInt (z % 60) := by
  have h1 : (a - a / 60 * 60).toInt = z % 60 := z_rem rfl h (by decide) h0 (by decide)
  apply Int32.toInt_inj.mp
  rw [h1, Int32.toInt_ofInt]
  exact (bm_id (by omega) (by omega)).symm
theorem lenI_ge (sd lg i : Int32) : 20 ≤ (lenI sd lg i).toInt := by
  unfold lenI
  split
  · rename_i h; have := z_le (show (20 : Int32).toInt = 20 by decide) rfl h; exact this
  · decide
theorem lenZ_ge (S : PS) (x : Nat) (c : Int) : 20 ≤ lenZ S x c := by rw [lenZ_eq]; exact lenI_ge _ _ _
/-! ===== the reference's rows over a call that leaves them alone ===== -/
def miK : List (Nat × Nat) := [(1203, 274), (1205, 314), (1207, 354), (1208, 374), (1209, 394), (1218, 574), (1219, 594), (1236, 934), (1237, 954), (1239, 994), (1253, 1275), (1254, 1294), (1255, 1314)]
def freeM (M : List Nat) : Bool := miK.all (fun p => !(M.contains (10000 + p.2)) && !(M.contains p.1)) && !(M.contains 1201) && !(M.contains 1238)
theorem mA_fr {M : List Nat} {S S' : PS} {x g k : Nat} (hF : Fr M S S') (ha : At S x 12) (hq : ∃ q, pR S g x = some q ∧ At S q k) (h1 : M.contains g = false) (h2 : M.contains (10000 + k) = false) : mA S' x g = mA S x g := by
  obtain ⟨q, hr, hk⟩ := hq
  rw [mA_eq hr, mA_eq (hF.R' h1 ha hr)]
  exact hF.A' h2 hk
theorem mi_q {S : PS} {x : Nat} (hG : GX S) (ha : At S x 12) : ∀ p ∈ miK, ∃ q, pR S p.1 x = some q ∧ At S q p.2 := by
  intro p hp
  simp only [miK, List.mem_cons, List.not_mem_nil, or_false] at hp
  rcases hp with rfl | rfl | rfl | rfl | rfl | rfl | rfl | rfl | rfl | rfl | rfl | rfl | rfl
  · obtain ⟨q, h1, h2, h3⟩ := gQ_12_1203 hG ha; exact ⟨q, h1, h2⟩
  · obtain ⟨q, h1, h2, h3⟩ := gQ_12_1205 hG ha; exact ⟨q, h1, h2⟩
  · obtain ⟨q, h1, h2, h3⟩ := gQ_12_1207 hG ha; exact ⟨q, h1, h2⟩
  · obtain ⟨q, h1, h2, h3⟩ := gQ_12_1208 hG ha; exact ⟨q, h1, h2⟩
  · obtain ⟨q, h1, h2, h3⟩ := gQ_12_1209 hG ha; exact ⟨q, h1, h2⟩
  · obtain ⟨q, h1, h2, h3⟩ := gQ_12_1218 hG ha; exact ⟨q, h1, h2⟩
  · obtain ⟨q, h1, h2, h3⟩ := gQ_12_1219 hG ha; exact ⟨q, h1, h2⟩
  · obtain ⟨q, h1, h2, h3⟩ := gQ_12_1236 hG ha; exact ⟨q, h1, h2⟩
  · obtain ⟨q, h1, h2, h3⟩ := gQ_12_1237 hG ha; exact ⟨q, h1, h2⟩
  · obtain ⟨q, h1, h2, h3⟩ := gQ_12_1239 hG ha; exact ⟨q, h1, h2⟩
  · obtain ⟨q, h1, h2, h3⟩ := gQ_12_1253 hG ha; exact ⟨q, h1, h2⟩
  · obtain ⟨q, h1, h2, h3⟩ := gQ_12_1254 hG ha; exact ⟨q, h1, h2⟩
  · obtain ⟨q, h1, h2, h3⟩ := gQ_12_1255 hG ha; exact ⟨q, h1, h2⟩
theorem mA_free {M : List Nat} {S S' : PS} {x : Nat} (hG : GX S) (ha : At S x 12) (hF : Fr M S S') (hM : freeM M = true) : ∀ p ∈ miK, mA S' x p.1 = mA S x p.1 := fun p hp => by
  unfold freeM at hM
  rw [Bool.and_eq_true, Bool.and_eq_true, List.all_eq_true] at hM
  have h := hM.1.1 p hp
  rw [Bool.and_eq_true, Bool.not_eq_true', Bool.not_eq_true'] at h
  exact mA_fr hF ha (mi_q hG ha p hp) h.2 h.1
theorem zA_free {M : List Nat} {S S' : PS} {x g : Nat} (hG : GX S) (ha : At S x 12) (hF : Fr M S S') (hM : freeM M = true) (hg : ∃ k, (g, k) ∈ miK) : zA S' x g = zA S x g := by
  obtain ⟨k, hk⟩ := hg
  funext i
  rw [zA_eq, zA_eq, mA_free hG ha hF hM (g, k) hk]
theorem lenZ_free {M : List Nat} {S S' : PS} {x : Nat} (hG : GX S) (ha : At S x 12) (hF : Fr M S S') (hM : freeM M = true) : lenZ S' x = lenZ S x := by
  funext c
  rw [lenZ_eq, lenZ_eq, mA_free hG ha hF hM (1203, 274) (by decide +kernel), mA_free hG ha hF hM (1205, 314) (by decide +kernel)]
theorem MIe_free {M : List Nat} {S S' : PS} {x : Nat} {e : Int} (hG : GX S) (ha : At S x 12) (hF : Fr M S S') (hM : freeM M = true) (h : MIe S x e) : MIe S' x e := by
  have hM2 := hM
  unfold freeM at hM2
  rw [Bool.and_eq_true, Bool.and_eq_true, Bool.not_eq_true', Bool.not_eq_true'] at hM2
  unfold MIe at h ⊢
  rw [hF.I' hM2.1.2 ha rfl, hF.I' hM2.2 ha rfl, lenZ_free hG ha hF hM, zA_free (g := 1207) hG ha hF hM ⟨354, by decide +kernel⟩, zA_free (g := 1208) hG ha hF hM ⟨374, by decide +kernel⟩, zA_free (g := 1209) hG ha hF hM ⟨394, by decide +kernel⟩, zA_free (g := 1218) hG ha hF hM ⟨574, by decide +kernel⟩, zA_free (g := 1219) hG ha hF hM ⟨594, by decide +kernel⟩, zA_free (g := 1236) hG ha hF hM ⟨934, by decide +kernel⟩, zA_free (g := 1239) hG ha hF hM ⟨994, by decide +kernel⟩, zA_free (g := 1253) hG ha hF hM ⟨1275, by decide +kernel⟩, zA_free (g := 1254) hG ha hF hM ⟨1294, by decide +kernel⟩, zA_free (g := 1255) hG ha hF hM ⟨1314, by decide +kernel⟩]
  exact h
theorem GR_free {M : List Nat} {S S' : PS} {x : Nat} (hG : GX S) (ha : At S x 12) (hF : Fr M S S') (hM : freeM M = true) (h : GR S x) : GR S' x := by
  unfold GR at h ⊢
  rw [zA_free hG ha hF hM ⟨954, by decide +kernel⟩]
  exact h
set_option maxRecDepth 20000 in
theorem ggX12_lengthOf_X12_next : GoodIn wsX12_lengthOf wsX12_next := goodIn_h _ [6, 0] [0, 1] (by decide +kernel) (by decide +kernel)
set_option maxRecDepth 20000 in
theorem gX12_lengthOf_X12_next : GoodIn wsX12_lengthOf (va_wsS RX12 172 yX12_next wsX12_next) := goodIn_app (goodIn_of _ (by decide +kernel)) ggX12_lengthOf_X12_next
set_option maxRecDepth 20000 in
theorem ggX12_lengthOf_X12_part : GoodIn wsX12_lengthOf wsX12_part := goodIn_h _ [10] [0] (by decide +kernel) (by decide +kernel)
set_option maxRecDepth 20000 in
theorem gX12_lengthOf_X12_part : GoodIn wsX12_lengthOf (va_wsS RX12 176 yX12_part wsX12_part) := goodIn_app (goodIn_of _ (by decide +kernel)) ggX12_lengthOf_X12_part
theorem dX12_lengthOf_0 : decode cX12_lengthOf 0 = .ok (.iload_n 1, 1) := by decide +kernel
theorem dX12_lengthOf_1 : decode cX12_lengthOf 1 = .ok (.bipush 60, 2) := by decide +kernel
theorem dX12_lengthOf_3 : decode cX12_lengthOf 3 = .ok (.idiv, 1) := by decide +kernel
theorem dX12_lengthOf_4 : decode cX12_lengthOf 4 = .ok (.istore_n 2, 1) := by decide +kernel
theorem dX12_lengthOf_5 : decode cX12_lengthOf 5 = .ok (.aload_n 0, 1) := by decide +kernel
theorem dX12_lengthOf_6 : decode cX12_lengthOf 6 = .ok (.getfield 19, 3) := by decide +kernel
theorem dX12_lengthOf_9 : decode cX12_lengthOf 9 = .ok (.iload_n 2, 1) := by decide +kernel
theorem dX12_lengthOf_10 : decode cX12_lengthOf 10 = .ok (.iaload, 1) := by decide +kernel
theorem dX12_lengthOf_11 : decode cX12_lengthOf 11 = .ok (.aload_n 0, 1) := by decide +kernel
theorem dX12_lengthOf_12 : decode cX12_lengthOf 12 = .ok (.getfield 13, 3) := by decide +kernel
theorem dX12_lengthOf_15 : decode cX12_lengthOf 15 = .ok (.iload_n 2, 1) := by decide +kernel
theorem dX12_lengthOf_16 : decode cX12_lengthOf 16 = .ok (.iaload, 1) := by decide +kernel
theorem dX12_lengthOf_17 : decode cX12_lengthOf 17 = .ok (.sipush 7919, 3) := by decide +kernel
theorem dX12_lengthOf_20 : decode cX12_lengthOf 20 = .ok (.iload_n 1, 1) := by decide +kernel
theorem dX12_lengthOf_21 : decode cX12_lengthOf 21 = .ok (.bipush 60, 2) := by decide +kernel
theorem dX12_lengthOf_23 : decode cX12_lengthOf 23 = .ok (.irem, 1) := by decide +kernel
theorem dX12_lengthOf_24 : decode cX12_lengthOf 24 = .ok (.imul, 1) := by decide +kernel
theorem dX12_lengthOf_25 : decode cX12_lengthOf 25 = .ok (.iadd, 1) := by decide +kernel
theorem dX12_lengthOf_26 : decode cX12_lengthOf 26 = .ok (.invokestatic 172, 3) := by decide +kernel
theorem dX12_lengthOf_29 : decode cX12_lengthOf 29 = .ok (.bipush 41, 2) := by decide +kernel
theorem dX12_lengthOf_31 : decode cX12_lengthOf 31 = .ok (.invokestatic 176, 3) := by decide +kernel
theorem dX12_lengthOf_34 : decode cX12_lengthOf 34 = .ok (.iadd, 1) := by decide +kernel
theorem dX12_lengthOf_35 : decode cX12_lengthOf 35 = .ok (.bipush 20, 2) := by decide +kernel
theorem dX12_lengthOf_37 : decode cX12_lengthOf 37 = .ok (.isub, 1) := by decide +kernel
theorem dX12_lengthOf_38 : decode cX12_lengthOf 38 = .ok (.istore_n 3, 1) := by decide +kernel
theorem dX12_lengthOf_39 : decode cX12_lengthOf 39 = .ok (.iload_n 3, 1) := by decide +kernel
theorem dX12_lengthOf_40 : decode cX12_lengthOf 40 = .ok (.bipush 20, 2) := by decide +kernel
theorem dX12_lengthOf_42 : decode cX12_lengthOf 42 = .ok (.if_icmp .ge 8, 3) := by decide +kernel
theorem dX12_lengthOf_45 : decode cX12_lengthOf 45 = .ok (.bipush 20, 2) := by decide +kernel
theorem dX12_lengthOf_47 : decode cX12_lengthOf 47 = .ok (.goto 4, 3) := by decide +kernel
theorem dX12_lengthOf_50 : decode cX12_lengthOf 50 = .ok (.iload_n 3, 1) := by decide +kernel
theorem dX12_lengthOf_51 : decode cX12_lengthOf 51 = .ok (.ireturn, 1) := by decide +kernel
set_option maxRecDepth 20000 in
theorem ggX12_fineOf_X12_next : GoodIn wsX12_fineOf wsX12_next := goodIn_h _ [7, 0] [0, 1] (by decide +kernel) (by decide +kernel)
set_option maxRecDepth 20000 in
theorem gX12_fineOf_X12_next : GoodIn wsX12_fineOf (va_wsS RX12 172 yX12_next wsX12_next) := goodIn_app (goodIn_of _ (by decide +kernel)) ggX12_fineOf_X12_next
set_option maxRecDepth 20000 in
theorem ggX12_fineOf_X12_part : GoodIn wsX12_fineOf wsX12_part := goodIn_h _ [11] [0] (by decide +kernel) (by decide +kernel)
set_option maxRecDepth 20000 in
theorem gX12_fineOf_X12_part : GoodIn wsX12_fineOf (va_wsS RX12 176 yX12_part wsX12_part) := goodIn_app (goodIn_of _ (by decide +kernel)) ggX12_fineOf_X12_part
set_option maxRecDepth 20000 in
theorem ggX12_fineOf_X12_lengthOf : GoodIn wsX12_fineOf wsX12_lengthOf := goodIn_h _ [1, 2, 0, 0, 0, 0, 0, 0, 0, 3, 0, 0, 0, 0, 0, 0, 0, 0, 0, 0, 0, 0, 0, 0, 0, 0, 0, 0, 0, 0, 0, 0, 0, 0, 0, 0, 0, 0, 0, 0, 0, 0, 0, 0, 0, 0, 0, 0, 0, 0, 0, 0, 0, 0, 0, 0, 0, 0, 0, 0, 0, 0, 0, 0, 0, 0, 0, 0, 0, 0, 0, 0, 0, 0, 0, 0, 0] [9, 10, 0, 1, 2, 3, 4, 5, 6, 7, 8, 11, 12, 13, 14, 15, 16, 17, 18, 19, 20, 21, 22, 23, 24, 25, 26, 27, 28, 29, 30, 31, 32, 33, 34, 35, 36, 37, 38, 39, 40, 41, 42, 43, 44, 45, 46, 47, 48, 49, 50, 51, 52, 53, 54, 55, 56, 57, 58, 59, 60, 61, 62, 63, 64, 65, 66, 67, 68, 69, 70, 71, 72, 73, 74, 75, 76] (by decide +kernel) (by decide +kernel)
set_option maxRecDepth 20000 in
theorem gX12_fineOf_X12_lengthOf : GoodIn wsX12_fineOf (wsV RX12 180 RX12 yX12_lengthOf wsX12_lengthOf) := goodIn_app (goodIn_of _ (by decide +kernel)) ggX12_fineOf_X12_lengthOf
theorem dX12_fineOf_0 : decode cX12_fineOf 0 = .ok (.iload_n 1, 1) := by decide +kernel
theorem dX12_fineOf_1 : decode cX12_fineOf 1 = .ok (.bipush 60, 2) := by decide +kernel
theorem dX12_fineOf_3 : decode cX12_fineOf 3 = .ok (.idiv, 1) := by decide +kernel
theorem dX12_fineOf_4 : decode cX12_fineOf 4 = .ok (.istore_n 3, 1) := by decide +kernel
theorem dX12_fineOf_5 : decode cX12_fineOf 5 = .ok (.aload_n 0, 1) := by decide +kernel
theorem dX12_fineOf_6 : decode cX12_fineOf 6 = .ok (.getfield 13, 3) := by decide +kernel
theorem dX12_fineOf_9 : decode cX12_fineOf 9 = .ok (.iload_n 3, 1) := by decide +kernel
theorem dX12_fineOf_10 : decode cX12_fineOf 10 = .ok (.iaload, 1) := by decide +kernel
theorem dX12_fineOf_11 : decode cX12_fineOf 11 = .ok (.sipush 7919, 3) := by decide +kernel
theorem dX12_fineOf_14 : decode cX12_fineOf 14 = .ok (.iload_n 1, 1) := by decide +kernel
theorem dX12_fineOf_15 : decode cX12_fineOf 15 = .ok (.bipush 60, 2) := by decide +kernel
theorem dX12_fineOf_17 : decode cX12_fineOf 17 = .ok (.irem, 1) := by decide +kernel
theorem dX12_fineOf_18 : decode cX12_fineOf 18 = .ok (.imul, 1) := by decide +kernel
theorem dX12_fineOf_19 : decode cX12_fineOf 19 = .ok (.iadd, 1) := by decide +kernel
theorem dX12_fineOf_20 : decode cX12_fineOf 20 = .ok (.invokestatic 172, 3) := by decide +kernel
theorem dX12_fineOf_23 : decode cX12_fineOf 23 = .ok (.invokestatic 172, 3) := by decide +kernel
theorem dX12_fineOf_26 : decode cX12_fineOf 26 = .ok (.istore 4, 2) := by decide +kernel
theorem dX12_fineOf_28 : decode cX12_fineOf 28 = .ok (.aload_n 0, 1) := by decide +kernel
theorem dX12_fineOf_29 : decode cX12_fineOf 29 = .ok (.getfield 16, 3) := by decide +kernel
theorem dX12_fineOf_32 : decode cX12_fineOf 32 = .ok (.iload_n 3, 1) := by decide +kernel
theorem dX12_fineOf_33 : decode cX12_fineOf 33 = .ok (.iaload, 1) := by decide +kernel
theorem dX12_fineOf_34 : decode cX12_fineOf 34 = .ok (.iload 4, 2) := by decide +kernel
theorem dX12_fineOf_36 : decode cX12_fineOf 36 = .ok (.bipush 9, 2) := by decide +kernel
theorem dX12_fineOf_38 : decode cX12_fineOf 38 = .ok (.invokestatic 176, 3) := by decide +kernel
theorem dX12_fineOf_41 : decode cX12_fineOf 41 = .ok (.iadd, 1) := by decide +kernel
theorem dX12_fineOf_42 : decode cX12_fineOf 42 = .ok (.iconst 4, 1) := by decide +kernel
theorem dX12_fineOf_43 : decode cX12_fineOf 43 = .ok (.isub, 1) := by decide +kernel
theorem dX12_fineOf_44 : decode cX12_fineOf 44 = .ok (.istore 5, 2) := by decide +kernel
theorem dX12_fineOf_46 : decode cX12_fineOf 46 = .ok (.iload 5, 2) := by decide +kernel
theorem dX12_fineOf_48 : decode cX12_fineOf 48 = .ok (.aload_n 0, 1) := by decide +kernel
theorem dX12_fineOf_49 : decode cX12_fineOf 49 = .ok (.getfield 34, 3) := by decide +kernel
theorem dX12_fineOf_52 : decode cX12_fineOf 52 = .ok (.bipush 8, 2) := by decide +kernel
theorem dX12_fineOf_54 : decode cX12_fineOf 54 = .ok (.iload_n 2, 1) := by decide +kernel
theorem dX12_fineOf_55 : decode cX12_fineOf 55 = .ok (.imul, 1) := by decide +kernel
theorem dX12_fineOf_56 : decode cX12_fineOf 56 = .ok (.aload_n 0, 1) := by decide +kernel
theorem dX12_fineOf_57 : decode cX12_fineOf 57 = .ok (.iload_n 1, 1) := by decide +kernel
theorem dX12_fineOf_58 : decode cX12_fineOf 58 = .ok (.invokevirtual 180, 3) := by decide +kernel
theorem dX12_fineOf_61 : decode cX12_fineOf 61 = .ok (.idiv, 1) := by decide +kernel
theorem dX12_fineOf_62 : decode cX12_fineOf 62 = .ok (.iaload, 1) := by decide +kernel
theorem dX12_fineOf_63 : decode cX12_fineOf 63 = .ok (.imul, 1) := by decide +kernel
theorem dX12_fineOf_64 : decode cX12_fineOf 64 = .ok (.bipush 100, 2) := by decide +kernel
theorem dX12_fineOf_66 : decode cX12_fineOf 66 = .ok (.idiv, 1) := by decide +kernel
theorem dX12_fineOf_67 : decode cX12_fineOf 67 = .ok (.ireturn, 1) := by decide +kernel
set_option maxRecDepth 20000 in
theorem ggX12_silk_X12_fineOf : GoodIn wsX12_silk wsX12_fineOf := goodIn_h _ [4, 0, 0, 0, 0, 0, 0, 0, 0, 0, 0, 0, 0, 0, 0, 0, 0, 0, 0, 0, 0, 0, 0, 0, 0, 0, 0, 0, 0, 0, 0, 0, 0, 0, 0, 0, 0, 0, 0, 0, 0, 0, 0, 0, 0, 0, 0, 0, 0, 0, 0, 0, 0, 0, 0, 0, 0, 0, 0, 0, 0, 0, 0, 0, 0, 0, 0, 0, 0, 0, 0, 0, 0, 0, 0, 0, 0, 0, 0, 0, 0, 0, 0] [1, 2, 3, 4, 5, 6, 0, 7, 8, 9, 10, 11, 12, 13, 14, 15, 16, 17, 18, 19, 20, 21, 22, 23, 24, 25, 26, 27, 28, 29, 30, 31, 32, 33, 34, 35, 36, 37, 38, 39, 40, 41, 42, 43, 44, 45, 46, 47, 48, 49, 50, 51, 52, 53, 54, 55, 56, 57, 58, 59, 60, 61, 62, 63, 64, 65, 66, 67, 68, 69, 70, 71, 72, 73, 74, 75, 76, 77, 78, 79, 80, 81, 82] (by decide +kernel) (by decide +kernel)
set_option maxRecDepth 20000 in
theorem gX12_silk_X12_fineOf : GoodIn wsX12_silk (wsV RX12 183 RX12 yX12_fineOf wsX12_fineOf) := goodIn_app (goodIn_of _ (by decide +kernel)) ggX12_silk_X12_fineOf
theorem dX12_silk_0 : decode cX12_silk 0 = .ok (.iconst 0, 1) := by decide +kernel
theorem dX12_silk_1 : decode cX12_silk 1 = .ok (.istore 4, 2) := by decide +kernel
theorem dX12_silk_3 : decode cX12_silk 3 = .ok (.iload_n 2, 1) := by decide +kernel
theorem dX12_silk_4 : decode cX12_silk 4 = .ok (.istore 5, 2) := by decide +kernel
theorem dX12_silk_6 : decode cX12_silk 6 = .ok (.iload 5, 2) := by decide +kernel
theorem dX12_silk_8 : decode cX12_silk 8 = .ok (.iload_n 3, 1) := by decide +kernel
theorem dX12_silk_9 : decode cX12_silk 9 = .ok (.if_icmp .ge 21, 3) := by decide +kernel
theorem dX12_silk_12 : decode cX12_silk 12 = .ok (.iload 4, 2) := by decide +kernel
theorem dX12_silk_14 : decode cX12_silk 14 = .ok (.aload_n 0, 1) := by decide +kernel
theorem dX12_silk_15 : decode cX12_silk 15 = .ok (.iload_n 1, 1) := by decide +kernel
theorem dX12_silk_16 : decode cX12_silk 16 = .ok (.iload 5, 2) := by decide +kernel
theorem dX12_silk_18 : decode cX12_silk 18 = .ok (.invokevirtual 183, 3) := by decide +kernel
theorem dX12_silk_21 : decode cX12_silk 21 = .ok (.iadd, 1) := by decide +kernel
theorem dX12_silk_22 : decode cX12_silk 22 = .ok (.istore 4, 2) := by decide +kernel
theorem dX12_silk_24 : decode cX12_silk 24 = .ok (.iinc 5 1, 3) := by decide +kernel
theorem dX12_silk_27 : decode cX12_silk 27 = .ok (.goto (-21), 3) := by decide +kernel
theorem dX12_silk_30 : decode cX12_silk 30 = .ok (.iload 4, 2) := by decide +kernel
theorem dX12_silk_32 : decode cX12_silk 32 = .ok (.ireturn, 1) := by decide +kernel
theorem inn_X12_fineOf_12 : ∀ w ∈ u_ws RX12 TX12 66, w ∈ wsX12_fineOf := fun w h => List.mem_cons_of_mem _ (List.mem_append_right _ h)
theorem inn_X12_lengthOf_12 : ∀ w ∈ u_ws RX12 TX12 66, w ∈ wsX12_lengthOf := fun w h => List.mem_cons_of_mem _ (List.mem_append_right _ h)
set_option maxHeartbeats 4000000 in
set_option maxRecDepth 100000 in
theorem k_X12_next2 (l : Launch) (G : va_G) (cy : Nat → ClassId) (κ : Nat → Nat) (S : PS) (sz : Nat) (x1 : Int32) (x1_z : Int) (hG : GX S) (hz_x1 : x1.toInt = x1_z) : Ci l yX12_next wsX12_next ({ frames := 1, cells := 0, slots := 0, locals := 48 }) G cy κ S sz [.int (x1)] (fun (r : Int32) (S9 : PS) => S = S9 ∧ (r = nxt x1)) := by
  refine ent_m (cc := cX12_next) (maxL := 1) (ret := (some .int)) (by decide) rfl (Nat.le_of_ble_eq_true rfl) ?_
  intro p e s m below meth c ls X hr hlocks hin hw hl hsz
  subst hsz
  have X : Cx p c cX12_next 1 s [.int (x1)].toArray wsX12_next RX12 m G cy κ (AS S s.heap.size) := X
  have hl : lv_has ls 1 [(0, .int (x1))] := hl
  have rg_x1 : (-2147483648) ≤ x1_z ∧ x1_z ≤ 2147483647 := by rw [← hz_x1]; exact ⟨z_lo _, z_hi _⟩
  refine lv_iload_n X.1 X.2.1 dX12_next_0 rfl (lv_at hl 0 rfl) ?_
  refine lv_ldc (v := 1103515245) X.1 X.2.1 X.2.2.2.2.1 (X.2.2.2.1 (.constant RX12 164 1103515245) (by decide +kernel)) dX12_next_1 ?_
  refine lv_imul X.1 X.2.1 dX12_next_3 ?_
  refine lv_topi (fun v_1 ev_1 => ?_)
  have rg_2 := And.intro (z_lo v_1) (z_hi v_1)
  refine lv_sipush (v := 12345) X.1 X.2.1 dX12_next_4 (by decide) ?_
  refine lv_iadd X.1 X.2.1 dX12_next_7 ?_
  refine lv_topi (fun v_3 ev_3 => ?_)
  have rg_4 := And.intro (z_lo v_3) (z_hi v_3)
  exact ret_i X hw hr hlocks (Nat.le_of_ble_eq_true rfl) (Nat.le_of_ble_eq_true rfl) ⟨rfl, (by subst_vars; rfl)⟩ dX12_next_8
set_option maxHeartbeats 4000000 in
set_option maxRecDepth 100000 in
theorem k_X12_part2 (l : Launch) (G : va_G) (cy : Nat → ClassId) (κ : Nat → Nat) (S : PS) (sz : Nat) (a1 : Int32) (a1_z : Int) (a2 : Int32) (a2_z : Int) (hG : GX S) (hz_a1 : a1.toInt = a1_z) (hz_a2 : a2.toInt = a2_z) (hp_0 : 0 < a2_z) : Ci l yX12_part wsX12_part ({ frames := 1, cells := 0, slots := 0, locals := 48 }) G cy κ S sz [.int (a1), .int (a2)] (fun (r : Int32) (S9 : PS) => S = S9 ∧ (0 ≤ r.toInt ∧ r.toInt < a2_z ∧ r.toInt ≤ 65535 ∧ r = prt a1 a2)) := by
  refine ent_m (cc := cX12_part) (maxL := 2) (ret := (some .int)) (by decide) rfl (Nat.le_of_ble_eq_true rfl) ?_
  intro p e s m below meth c ls X hr hlocks hin hw hl hsz
  subst hsz
  have X : Cx p c cX12_part 2 s [.int (a1), .int (a2)].toArray wsX12_part RX12 m G cy κ (AS S s.heap.size) := X
  have hl : lv_has ls 2 [(0, .int (a1)), (1, .int (a2))] := hl
  have rg_a1 : (-2147483648) ≤ a1_z ∧ a1_z ≤ 2147483647 := by rw [← hz_a1]; exact ⟨z_lo _, z_hi _⟩
  have rg_a2 : (-2147483648) ≤ a2_z ∧ a2_z ≤ 2147483647 := by rw [← hz_a2]; exact ⟨z_lo _, z_hi _⟩
  refine lv_iload_n X.1 X.2.1 dX12_part_0 rfl (lv_at hl 0 rfl) ?_
  refine lv_bipush (v := 16) X.1 X.2.1 dX12_part_1 (by decide) ?_
  refine lv_iushr X.1 X.2.1 dX12_part_3 rfl ?_
  refine lv_topi (fun v_1 ev_1 => ?_)
  have z_2 : 0 ≤ v_1.toInt ∧ v_1.toInt ≤ 65535 := z_ushr16 ev_1
  refine lv_iload_n X.1 X.2.1 dX12_part_4 rfl (lv_at hl 1 rfl) ?_
  refine lv_irem X.1 X.2.1 dX12_part_5 (z_nz hz_a2 (by omega)) ?_
  refine lv_topi (fun v_3 ev_3 => ?_)
  have z_4 : v_3.toInt = v_1.toInt % a2_z := z_rem ev_3 rfl hz_a2 (by omega) (by omega)
  have z_5 : 0 ≤ v_3.toInt ∧ v_3.toInt < a2_z := by rw [z_4]; exact ⟨Int.emod_nonneg _ (by omega), Int.emod_lt_of_pos _ (by omega)⟩
  have z_6 : v_3.toInt ≤ v_1.toInt := by rw [z_4]; exact emod_le (by omega) (by omega)
  exact ret_i X hw hr hlocks (Nat.le_of_ble_eq_true rfl) (Nat.le_of_ble_eq_true rfl) ⟨rfl, ⟨by omega, by omega, by omega, by subst_vars; rfl⟩⟩ dX12_part_6
set_option maxHeartbeats 4000000 in
set_option maxRecDepth 100000 in
theorem k_X12_lengthOf (l : Launch) (G : va_G) (cy : Nat → ClassId) (κ : Nat → Nat) (S : PS) (sz : Nat) (x : Nat) (a1 : Int32) (a1_z : Int) (hG : GX S) (ha_x : At S x 12) (hz_a1 : a1.toInt = a1_z) (hp_0 : 0 ≤ a1_z) (hp_1 : a1_z ≤ 599) : Ci l yX12_lengthOf wsX12_lengthOf ({ frames := 2, cells := 0, slots := 0, locals := 96 }) G cy κ S sz [.ref x, .int (a1)] (fun (r : Int32) (S9 : PS) => S = S9 ∧ (r.toInt = lenZ S x a1_z ∧ 20 ≤ r.toInt ∧ r.toInt ≤ 220)) := by
  refine ent_m (cc := cX12_lengthOf) (maxL := 4) (ret := (some .int)) (by decide) rfl (Nat.le_of_ble_eq_true rfl) ?_
  intro p e s m below meth c ls X hr hlocks hin hw hl hsz
  subst hsz
  have X : Cx p c cX12_lengthOf 4 s [.ref x, .int (a1)].toArray wsX12_lengthOf RX12 m G cy κ (AS S s.heap.size) := X
  have hl : lv_has ls 4 [(0, .ref x), (1, .int (a1))] := hl
  have rg_a1 : (-2147483648) ≤ a1_z ∧ a1_z ≤ 2147483647 := by rw [← hz_a1]; exact ⟨z_lo _, z_hi _⟩
  refine lv_iload_n X.1 X.2.1 dX12_lengthOf_0 rfl (lv_at hl 1 rfl) ?_
  refine lv_bipush (v := 60) X.1 X.2.1 dX12_lengthOf_1 (by decide) ?_
  refine lv_idiv X.1 X.2.1 dX12_lengthOf_3 (by decide) ?_
  refine lv_topi (fun v_1 ev_1 => ?_)
  have z_2 : v_1.toInt = a1_z / 60 := z_div ev_1 hz_a1 ti_60 (by omega) (by omega)
  refine lv_istore_n (lv' := [(2, .int (v_1)), (0, .ref x), (1, .int (a1))]) X.1 X.2.1 dX12_lengthOf_4 rfl hl (by decide) rfl (fun ls hl => ?_)
  refine lv_aload_n X.1 X.2.1 dX12_lengthOf_5 rfl (lv_at hl 1 rfl) ?_
  obtain ⟨q_3, h_4, h_5, h_6⟩ := gQ_12_1205 hG ha_x
  refine r_getR (g := 1205) X hw ha_x rfl 5 h_4 (by decide) rfl inn_X12_lengthOf_12 (by decide) (X.2.2.2.1 (.fieldLink RX12 19 "SilkMillModel" "lotLong" "[I") (by decide +kernel)) rfl (gv_1205 _ _) dX12_lengthOf_6 ?_
  refine lv_iload_n X.1 X.2.1 dX12_lengthOf_9 rfl (lv_at hl 0 rfl) ?_
  refine r_iald X hw h_5 rfl (by rw [h_6]; exact z_ix z_2 (by omega) (by omega)) dX12_lengthOf_10 ?_
  refine lv_topi (fun v_7 ev_7 => ?_)
  have z_8 := gE_314 hG h_5 (Int32.toNatClampNeg (v_1)); rw [← ev_7] at z_8
  have ev_7 := ev_7.symm
  refine lv_aload_n X.1 X.2.1 dX12_lengthOf_11 rfl (lv_at hl 1 rfl) ?_
  obtain ⟨q_9, h_10, h_11, h_12⟩ := gQ_12_1203 hG ha_x
  refine r_getR (g := 1203) X hw ha_x rfl 3 h_10 (by decide) rfl inn_X12_lengthOf_12 (by decide) (X.2.2.2.1 (.fieldLink RX12 13 "SilkMillModel" "lotSeed" "[I") (by decide +kernel)) rfl (gv_1203 _ _) dX12_lengthOf_12 ?_
  refine lv_iload_n X.1 X.2.1 dX12_lengthOf_15 rfl (lv_at hl 0 rfl) ?_
  refine r_iald X hw h_11 rfl (by rw [h_12]; exact z_ix z_2 (by omega) (by omega)) dX12_lengthOf_16 ?_
  refine lv_topi (fun v_13 ev_13 => ?_)
  have rg_14 := And.intro (z_lo v_13) (z_hi v_13)
  have ev_13 := ev_13.symm
  refine lv_sipush (v := 7919) X.1 X.2.1 dX12_lengthOf_17 (by decide) ?_
  refine lv_iload_n X.1 X.2.1 dX12_lengthOf_20 rfl (lv_at hl 2 rfl) ?_
  refine lv_bipush (v := 60) X.1 X.2.1 dX12_lengthOf_21 (by decide) ?_
  refine lv_irem X.1 X.2.1 dX12_lengthOf_23 (by decide) ?_
  refine lv_topi (fun v_15 ev_15 => ?_)
  have z_16 : v_15.toInt = a1_z % 60 := z_rem ev_15 hz_a1 ti_60 (by omega) (by omega)
  have z_17 : 0 ≤ v_15.toInt ∧ v_15.toInt < 60 := by rw [z_16]; exact ⟨Int.emod_nonneg _ (by omega), Int.emod_lt_of_pos _ (by omega)⟩
  refine lv_imul X.1 X.2.1 dX12_lengthOf_24 ?_
  refine lv_topi (fun v_18 ev_18 => ?_)
  have z_19 : v_18.toInt = 7919 * (a1_z % 60) := z_mul ev_18 ti_7919 z_16 (by omega) (by omega)
  refine lv_iadd X.1 X.2.1 dX12_lengthOf_25 ?_
  refine lv_topi (fun v_20 ev_20 => ?_)
  have rg_21 := And.intro (z_lo v_20) (z_hi v_20)
  refine k_i (rm := { frames := 1, cells := 0, slots := 0, locals := 48 }) (av := [.int (v_20)]) X hw (va_runS (As := [.int (v_20)]) (rest := [.int (v_7)]) (cfix X) (k_X12_next2 l G cy κ S _ (v_20) (v_20.toInt) hG rfl) (cwS 1 X.2.2.2.1 gX12_lengthOf_X12_next rfl rfl rfl (by decide +kernel) ⟨Nat.le_of_ble_eq_true rfl, Nat.le_of_ble_eq_true rfl⟩) (pre_S X hw _) rfl rfl hl.1 rfl (lv_room (Nat.le_of_ble_eq_true rfl)) dX12_lengthOf_26 ⟨Nat.le_of_ble_eq_true rfl, Nat.le_of_ble_eq_true rfl⟩) 0 0 (Nat.le_of_ble_eq_true rfl) (Nat.le_of_ble_eq_true rfl) (fun rr_22 S_23 H locs hp hw hfr hnw => ?_)
  obtain ⟨e2, hp⟩ := hp
  subst e2
  have f_24 := hp
  refine lv_bipush (v := 41) X.1 X.2.1 dX12_lengthOf_29 (by decide) ?_
  refine k_i (rm := { frames := 1, cells := 0, slots := 0, locals := 48 }) (av := [.int (rr_22), .int 41]) X hw (va_runS (As := [.int (rr_22), .int 41]) (rest := [.int (v_7)]) (cfix X) (k_X12_part2 l G cy κ S _ (rr_22) (rr_22.toInt) (41) (41) hG rfl ti_41 (by first | assumption | omega)) (cwS 2 X.2.2.2.1 gX12_lengthOf_X12_part rfl rfl rfl (by decide +kernel) ⟨Nat.le_of_ble_eq_true rfl, Nat.le_of_ble_eq_true rfl⟩) (pre_S X hw _) rfl rfl hl.1 rfl (lv_room (Nat.le_of_ble_eq_true rfl)) dX12_lengthOf_31 ⟨Nat.le_of_ble_eq_true rfl, Nat.le_of_ble_eq_true rfl⟩) 0 0 (Nat.le_of_ble_eq_true rfl) (Nat.le_of_ble_eq_true rfl) (fun rr_25 S_26 H locs hp hw hfr hnw => ?_)
  obtain ⟨e2, hp⟩ := hp
  subst e2
  obtain ⟨f_27, f_28, f_29, f_30⟩ := hp
  refine lv_iadd X.1 X.2.1 dX12_lengthOf_34 ?_
  refine lv_topi (fun v_31 ev_31 => ?_)
  have z_32 : v_31.toInt = v_7.toInt + rr_25.toInt := z_add ev_31 rfl rfl (by omega) (by omega)
  refine lv_bipush (v := 20) X.1 X.2.1 dX12_lengthOf_35 (by decide) ?_
  refine lv_isub X.1 X.2.1 dX12_lengthOf_37 ?_
  refine lv_topi (fun v_33 ev_33 => ?_)
  have z_34 : v_33.toInt = (v_7.toInt + rr_25.toInt) - 20 := z_sub ev_33 z_32 ti_20 (by omega) (by omega)
  refine lv_istore_n (lv' := [(3, .int (v_33)), (2, .int (v_1)), (0, .ref x), (1, .int (a1))]) X.1 X.2.1 dX12_lengthOf_38 rfl hl (by decide) rfl (fun ls hl => ?_)
  refine lv_iload_n X.1 X.2.1 dX12_lengthOf_39 rfl (lv_at hl 0 rfl) ?_
  refine lv_bipush (v := 20) X.1 X.2.1 dX12_lengthOf_40 (by decide) ?_
  refine lv_icmp_ge (tgt := 50) X.1 X.2.1 dX12_lengthOf_42 (by decide) (fun c_35 => ?_) (fun c_35 => ?_)
  · have z_b_36 := trivial
    have k_37 : ((v_7.toInt + rr_25.toInt) - 20) ≥ 20 := z_le ti_20 z_34 c_35
    refine lv_iload_n X.1 X.2.1 dX12_lengthOf_50 rfl (lv_at hl 0 rfl) ?_
    exact ret_i X hw hr hlocks (Nat.le_of_ble_eq_true rfl) (Nat.le_of_ble_eq_true rfl) ⟨rfl, ⟨(by rw [lenZ_eq, mA_eq h_10, mA_eq h_4, ← lz1 hz_a1 (by omega), ← lz2 hz_a1 (by omega)]; exact congrArg Int32.toInt (len_pos (by subst_vars; rfl) (by assumption))), by omega, by omega⟩⟩ dX12_lengthOf_51
  · have z_b_38 := trivial
    have k_39 : ((v_7.toInt + rr_25.toInt) - 20) < 20 := z_nle ti_20 z_34 c_35
    refine lv_bipush (v := 20) X.1 X.2.1 dX12_lengthOf_45 (by decide) ?_
    refine lv_goto (tgt := 51) X.1 X.2.1 dX12_lengthOf_47 (by decide) ?_
    exact ret_i X hw hr hlocks (Nat.le_of_ble_eq_true rfl) (Nat.le_of_ble_eq_true rfl) ⟨rfl, ⟨(by rw [lenZ_eq, mA_eq h_10, mA_eq h_4, ← lz1 hz_a1 (by omega), ← lz2 hz_a1 (by omega)]; exact congrArg Int32.toInt (len_neg (v := v_33) (by subst_vars; rfl) (by assumption))), by decide, by decide⟩⟩ dX12_lengthOf_51
set_option maxHeartbeats 4000000 in
set_option maxRecDepth 100000 in
theorem k_X12_fineOf (l : Launch) (G : va_G) (cy : Nat → ClassId) (κ : Nat → Nat) (S : PS) (sz : Nat) (x : Nat) (a1 : Int32) (a1_z : Int) (a2 : Int32) (a2_z : Int) (hG : GX S) (ha_x : At S x 12) (hz_a1 : a1.toInt = a1_z) (hz_a2 : a2.toInt = a2_z) (hp_0 : 0 ≤ a1_z) (hp_1 : a1_z ≤ 599) (hp_2 : 0 ≤ a2_z) (hp_3 : a2_z ≤ 219) (hp_4 : a2_z < lenZ S x a1_z) : Ci l yX12_fineOf wsX12_fineOf ({ frames := 3, cells := 0, slots := 0, locals := 144 }) G cy κ S sz [.ref x, .int (a1), .int (a2)] (fun (r : Int32) (S9 : PS) => S = S9 ∧ (True)) := by
  refine ent_m (cc := cX12_fineOf) (maxL := 6) (ret := (some .int)) (by decide) rfl (Nat.le_of_ble_eq_true rfl) ?_
  intro p e s m below meth c ls X hr hlocks hin hw hl hsz
  subst hsz
  have X : Cx p c cX12_fineOf 6 s [.ref x, .int (a1), .int (a2)].toArray wsX12_fineOf RX12 m G cy κ (AS S s.heap.size) := X
  have hl : lv_has ls 6 [(0, .ref x), (1, .int (a1)), (2, .int (a2))] := hl
  have rg_a1 : (-2147483648) ≤ a1_z ∧ a1_z ≤ 2147483647 := by rw [← hz_a1]; exact ⟨z_lo _, z_hi _⟩
  have rg_a2 : (-2147483648) ≤ a2_z ∧ a2_z ≤ 2147483647 := by rw [← hz_a2]; exact ⟨z_lo _, z_hi _⟩
  refine lv_iload_n X.1 X.2.1 dX12_fineOf_0 rfl (lv_at hl 1 rfl) ?_
  refine lv_bipush (v := 60) X.1 X.2.1 dX12_fineOf_1 (by decide) ?_
  refine lv_idiv X.1 X.2.1 dX12_fineOf_3 (by decide) ?_
  refine lv_topi (fun v_1 ev_1 => ?_)
  have z_2 : v_1.toInt = a1_z / 60 := z_div ev_1 hz_a1 ti_60 (by omega) (by omega)
  refine lv_istore_n (lv' := [(3, .int (v_1)), (0, .ref x), (1, .int (a1)), (2, .int (a2))]) X.1 X.2.1 dX12_fineOf_4 rfl hl (by decide) rfl (fun ls hl => ?_)
  refine lv_aload_n X.1 X.2.1 dX12_fineOf_5 rfl (lv_at hl 1 rfl) ?_
  obtain ⟨q_3, h_4, h_5, h_6⟩ := gQ_12_1203 hG ha_x
  refine r_getR (g := 1203) X hw ha_x rfl 3 h_4 (by decide) rfl inn_X12_fineOf_12 (by decide) (X.2.2.2.1 (.fieldLink RX12 13 "SilkMillModel" "lotSeed" "[I") (by decide +kernel)) rfl (gv_1203 _ _) dX12_fineOf_6 ?_
  refine lv_iload_n X.1 X.2.1 dX12_fineOf_9 rfl (lv_at hl 0 rfl) ?_
  refine r_iald X hw h_5 rfl (by rw [h_6]; exact z_ix z_2 (by omega) (by omega)) dX12_fineOf_10 ?_
  refine lv_topi (fun v_7 ev_7 => ?_)
  have rg_8 := And.intro (z_lo v_7) (z_hi v_7)
  have ev_7 := ev_7.symm
  refine lv_sipush (v := 7919) X.1 X.2.1 dX12_fineOf_11 (by decide) ?_
  refine lv_iload_n X.1 X.2.1 dX12_fineOf_14 rfl (lv_at hl 2 rfl) ?_
  refine lv_bipush (v := 60) X.1 X.2.1 dX12_fineOf_15 (by decide) ?_
  refine lv_irem X.1 X.2.1 dX12_fineOf_17 (by decide) ?_
  refine lv_topi (fun v_9 ev_9 => ?_)
  have z_10 : v_9.toInt = a1_z % 60 := z_rem ev_9 hz_a1 ti_60 (by omega) (by omega)
  have z_11 : 0 ≤ v_9.toInt ∧ v_9.toInt < 60 := by rw [z_10]; exact ⟨Int.emod_nonneg _ (by omega), Int.emod_lt_of_pos _ (by omega)⟩
  refine lv_imul X.1 X.2.1 dX12_fineOf_18 ?_
  refine lv_topi (fun v_12 ev_12 => ?_)
  have z_13 : v_12.toInt = 7919 * (a1_z % 60) := z_mul ev_12 ti_7919 z_10 (by omega) (by omega)
  refine lv_iadd X.1 X.2.1 dX12_fineOf_19 ?_
  refine lv_topi (fun v_14 ev_14 => ?_)
  have rg_15 := And.intro (z_lo v_14) (z_hi v_14)
  refine k_i (rm := { frames := 1, cells := 0, slots := 0, locals := 48 }) (av := [.int (v_14)]) X hw (va_runS (As := [.int (v_14)]) (rest := []) (cfix X) (k_X12_next2 l G cy κ S _ (v_14) (v_14.toInt) hG rfl) (cwS 1 X.2.2.2.1 gX12_fineOf_X12_next rfl rfl rfl (by decide +kernel) ⟨Nat.le_of_ble_eq_true rfl, Nat.le_of_ble_eq_true rfl⟩) (pre_S X hw _) rfl rfl hl.1 rfl (lv_room (Nat.le_of_ble_eq_true rfl)) dX12_fineOf_20 ⟨Nat.le_of_ble_eq_true rfl, Nat.le_of_ble_eq_true rfl⟩) 0 0 (Nat.le_of_ble_eq_true rfl) (Nat.le_of_ble_eq_true rfl) (fun rr_16 S_17 H locs hp hw hfr hnw => ?_)
  obtain ⟨e2, hp⟩ := hp
  subst e2
  have f_18 := hp
  refine k_i (rm := { frames := 1, cells := 0, slots := 0, locals := 48 }) (av := [.int (rr_16)]) X hw (va_runS (As := [.int (rr_16)]) (rest := []) (cfix X) (k_X12_next2 l G cy κ S _ (rr_16) (rr_16.toInt) hG rfl) (cwS 1 X.2.2.2.1 gX12_fineOf_X12_next rfl rfl rfl (by decide +kernel) ⟨Nat.le_of_ble_eq_true rfl, Nat.le_of_ble_eq_true rfl⟩) (pre_S X hw _) rfl rfl hl.1 rfl (lv_room (Nat.le_of_ble_eq_true rfl)) dX12_fineOf_23 ⟨Nat.le_of_ble_eq_true rfl, Nat.le_of_ble_eq_true rfl⟩) 0 0 (Nat.le_of_ble_eq_true rfl) (Nat.le_of_ble_eq_true rfl) (fun rr_19 S_20 H locs hp hw hfr hnw => ?_)
  obtain ⟨e2, hp⟩ := hp
  subst e2
  have f_21 := hp
  refine lv_istore (lv' := [(4, .int (rr_19)), (3, .int (v_1)), (0, .ref x), (1, .int (a1)), (2, .int (a2))]) X.1 X.2.1 dX12_fineOf_26 hl (by decide) rfl (fun ls hl => ?_)
  refine lv_aload_n X.1 X.2.1 dX12_fineOf_28 rfl (lv_at hl 2 rfl) ?_
  obtain ⟨q_22, h_23, h_24, h_25⟩ := gQ_12_1204 hG ha_x
  refine r_getR (g := 1204) X hw ha_x rfl 4 h_23 (by decide) rfl inn_X12_fineOf_12 (by decide) (X.2.2.2.1 (.fieldLink RX12 16 "SilkMillModel" "lotBase" "[I") (by decide +kernel)) rfl (gv_1204 _ _) dX12_fineOf_29 ?_
  refine lv_iload_n X.1 X.2.1 dX12_fineOf_32 rfl (lv_at hl 1 rfl) ?_
  refine r_iald X hw h_24 rfl (by rw [h_25]; exact z_ix z_2 (by omega) (by omega)) dX12_fineOf_33 ?_
  refine lv_topi (fun v_26 ev_26 => ?_)
  have rg_27 := And.intro (z_lo v_26) (z_hi v_26)
  have ev_26 := ev_26.symm
  refine lv_iload X.1 X.2.1 dX12_fineOf_34 (lv_at hl 0 rfl) ?_
  refine lv_bipush (v := 9) X.1 X.2.1 dX12_fineOf_36 (by decide) ?_
  refine k_i (rm := { frames := 1, cells := 0, slots := 0, locals := 48 }) (av := [.int (rr_19), .int 9]) X hw (va_runS (As := [.int (rr_19), .int 9]) (rest := [.int (v_26)]) (cfix X) (k_X12_part2 l G cy κ S _ (rr_19) (rr_19.toInt) (9) (9) hG rfl ti_9 (by first | assumption | omega)) (cwS 2 X.2.2.2.1 gX12_fineOf_X12_part rfl rfl rfl (by decide +kernel) ⟨Nat.le_of_ble_eq_true rfl, Nat.le_of_ble_eq_true rfl⟩) (pre_S X hw _) rfl rfl hl.1 rfl (lv_room (Nat.le_of_ble_eq_true rfl)) dX12_fineOf_38 ⟨Nat.le_of_ble_eq_true rfl, Nat.le_of_ble_eq_true rfl⟩) 0 0 (Nat.le_of_ble_eq_true rfl) (Nat.le_of_ble_eq_true rfl) (fun rr_28 S_29 H locs hp hw hfr hnw => ?_)
  obtain ⟨e2, hp⟩ := hp
  subst e2
  obtain ⟨f_30, f_31, f_32, f_33⟩ := hp
  refine lv_iadd X.1 X.2.1 dX12_fineOf_41 ?_
  refine lv_topi (fun v_34 ev_34 => ?_)
  have rg_35 := And.intro (z_lo v_34) (z_hi v_34)
  refine lv_iconst (v := 4) X.1 X.2.1 dX12_fineOf_42 (by decide) ?_
  refine lv_isub X.1 X.2.1 dX12_fineOf_43 ?_
  refine lv_topi (fun v_36 ev_36 => ?_)
  have rg_37 := And.intro (z_lo v_36) (z_hi v_36)
  refine lv_istore (lv' := [(5, .int (v_36)), (4, .int (rr_19)), (3, .int (v_1)), (0, .ref x), (1, .int (a1)), (2, .int (a2))]) X.1 X.2.1 dX12_fineOf_44 hl (by decide) rfl (fun ls hl => ?_)
  refine lv_iload X.1 X.2.1 dX12_fineOf_46 (lv_at hl 0 rfl) ?_
  refine lv_aload_n X.1 X.2.1 dX12_fineOf_48 rfl (lv_at hl 3 rfl) ?_
  obtain ⟨q_38, h_39, h_40, h_41⟩ := gQ_12_1210 hG ha_x
  refine r_getR (g := 1210) X hw ha_x rfl 10 h_39 (by decide) rfl inn_X12_fineOf_12 (by decide) (X.2.2.2.1 (.fieldLink RX12 34 "SilkMillModel" "thin" "[I") (by decide +kernel)) rfl (gv_1210 _ _) dX12_fineOf_49 ?_
  refine lv_bipush (v := 8) X.1 X.2.1 dX12_fineOf_52 (by decide) ?_
  refine lv_iload_n X.1 X.2.1 dX12_fineOf_54 rfl (lv_at hl 5 rfl) ?_
  refine lv_imul X.1 X.2.1 dX12_fineOf_55 ?_
  refine lv_topi (fun v_42 ev_42 => ?_)
  have z_43 : v_42.toInt = 8 * a2_z := z_mul ev_42 ti_8 hz_a2 (by omega) (by omega)
  refine lv_aload_n X.1 X.2.1 dX12_fineOf_56 rfl (lv_at hl 3 rfl) ?_
  refine lv_iload_n X.1 X.2.1 dX12_fineOf_57 rfl (lv_at hl 4 rfl) ?_
  refine k_i (rm := { frames := 2, cells := 0, slots := 0, locals := 96 }) (av := [.ref x, .int (a1)]) X hw (va_runV (As := [.int (a1)]) (rest := [.int (v_42), .ref q_38, .int (v_36)]) (cfix X) (k_X12_lengthOf l G cy κ S _ x (a1) (a1_z) hG ha_x hz_a1 (by first | assumption | omega) (by first | assumption | omega)) (cwV 1 X.2.2.2.1 gX12_fineOf_X12_lengthOf rfl rfl rfl (by decide +kernel) ⟨Nat.le_of_ble_eq_true rfl, Nat.le_of_ble_eq_true rfl⟩) (pre_V X hw _ ha_x rfl (by decide) rfl) rfl rfl hl.1 rfl (lv_room (Nat.le_of_ble_eq_true rfl)) dX12_fineOf_58 ⟨Nat.le_of_ble_eq_true rfl, Nat.le_of_ble_eq_true rfl⟩) 0 0 (Nat.le_of_ble_eq_true rfl) (Nat.le_of_ble_eq_true rfl) (fun rr_44 S_45 H locs hp hw hfr hnw => ?_)
  obtain ⟨e2, hp⟩ := hp
  subst e2
  obtain ⟨f_46, f_47, f_48⟩ := hp
  refine lv_idiv X.1 X.2.1 dX12_fineOf_61 (z_nz rfl (by omega)) ?_
  refine lv_topi (fun v_49 ev_49 => ?_)
  have z_50 : v_49.toInt = (8 * a2_z) / rr_44.toInt := z_div ev_49 z_43 rfl (by omega) (by omega)
  have z_51 : v_49.toInt < 8 := by rw [z_50]; exact Int.ediv_lt_of_lt_mul (by omega) (by omega)
  have z_52 : 0 ≤ v_49.toInt ∧ v_49.toInt ≤ (8 * a2_z) := by rw [z_50]; exact ⟨Int.ediv_nonneg (by omega) (by omega), Int.ediv_le_self _ (by omega)⟩
  refine r_iald X hw h_40 rfl (by rw [h_41]; exact z_ix rfl (by omega) (by omega)) dX12_fineOf_62 ?_
  refine lv_topi (fun v_53 ev_53 => ?_)
  have rg_54 := And.intro (z_lo v_53) (z_hi v_53)
  have ev_53 := ev_53.symm
  refine lv_imul X.1 X.2.1 dX12_fineOf_63 ?_
  refine lv_topi (fun v_55 ev_55 => ?_)
  have rg_56 := And.intro (z_lo v_55) (z_hi v_55)
  refine lv_bipush (v := 100) X.1 X.2.1 dX12_fineOf_64 (by decide) ?_
  refine lv_idiv X.1 X.2.1 dX12_fineOf_66 (by decide) ?_
  refine lv_topi (fun v_57 ev_57 => ?_)
  have rg_58 := And.intro (z_lo v_57) (z_hi v_57)
  exact ret_i X hw hr hlocks (Nat.le_of_ble_eq_true rfl) (Nat.le_of_ble_eq_true rfl) ⟨rfl, trivial⟩ dX12_fineOf_67
set_option maxHeartbeats 4000000 in
set_option maxRecDepth 100000 in
theorem k_X12_silk (l : Launch) (G : va_G) (cy : Nat → ClassId) (κ : Nat → Nat) (S : PS) (sz : Nat) (x : Nat) (a1 : Int32) (a1_z : Int) (a2 : Int32) (a2_z : Int) (a3 : Int32) (a3_z : Int) (hG : GX S) (ha_x : At S x 12) (hz_a1 : a1.toInt = a1_z) (hz_a2 : a2.toInt = a2_z) (hz_a3 : a3.toInt = a3_z) (hp_0 : 0 ≤ a1_z) (hp_1 : a1_z ≤ 599) (hp_2 : 0 ≤ a2_z) (hp_3 : a3_z ≤ 220) (hp_4 : a3_z ≤ lenZ S x a1_z) : Ci l yX12_silk wsX12_silk ({ frames := 4, cells := 0, slots := 0, locals := 192 }) G cy κ S sz [.ref x, .int (a1), .int (a2), .int (a3)] (fun (r : Int32) (S9 : PS) => S = S9 ∧ (True)) := by
  refine ent_m (cc := cX12_silk) (maxL := 6) (ret := (some .int)) (by decide) rfl (Nat.le_of_ble_eq_true rfl) ?_
  intro p e s m below meth c ls X hr hlocks hin hw hl hsz
  subst hsz
  have X : Cx p c cX12_silk 6 s [.ref x, .int (a1), .int (a2), .int (a3)].toArray wsX12_silk RX12 m G cy κ (AS S s.heap.size) := X
  have hl : lv_has ls 6 [(0, .ref x), (1, .int (a1)), (2, .int (a2)), (3, .int (a3))] := hl
  have rg_a1 : (-2147483648) ≤ a1_z ∧ a1_z ≤ 2147483647 := by rw [← hz_a1]; exact ⟨z_lo _, z_hi _⟩
  have rg_a2 : (-2147483648) ≤ a2_z ∧ a2_z ≤ 2147483647 := by rw [← hz_a2]; exact ⟨z_lo _, z_hi _⟩
  have rg_a3 : (-2147483648) ≤ a3_z ∧ a3_z ≤ 2147483647 := by rw [← hz_a3]; exact ⟨z_lo _, z_hi _⟩
  generalize hQQ : MQ below _ _ _ _ _ _ = QQ
  replace hQQ := hQQ.symm
  refine lv_iconst (v := 0) X.1 X.2.1 dX12_silk_0 (by decide) ?_
  refine lv_istore (lv' := [(4, .int 0), (0, .ref x), (1, .int (a1)), (2, .int (a2)), (3, .int (a3))]) X.1 X.2.1 dX12_silk_1 hl (by decide) rfl (fun ls hl => ?_)
  refine lv_iload_n X.1 X.2.1 dX12_silk_3 rfl (lv_at hl 3 rfl) ?_
  refine lv_istore (lv' := [(5, .int (a2)), (4, .int 0), (0, .ref x), (1, .int (a1)), (2, .int (a2)), (3, .int (a3))]) X.1 X.2.1 dX12_silk_4 hl (by decide) rfl (fun ls hl => ?_)
  have L_1 : ∀ (n : Nat) (H : Heap) (locs : List Loc) (ls : Array Slot) (i4_2 : Int32) (i4_2_z : Int) (i5_3 : Int32) (i5_3_z : Int), ((a3_z - i5_3_z).toNat = n) → (Wd G cy (AS S s.heap.size) s.heap S H locs) → (i4_2.toInt = i4_2_z) → (i5_3.toInt = i5_3_z) → (0 ≤ i5_3_z ∧ i5_3_z ≤ 2147483647) → (lv_has ls 6 [(4, .int (i4_2)), (5, .int (i5_3)), (0, .ref x), (1, .int (a1)), (2, .int (a2)), (3, .int (a3))]) → W p l e ({ frames := 4, cells := 0, slots := 0, locals := 192 }) s m [.ref x, .int (a1), .int (a2), .int (a3)].toArray below meth c H locs 0 0 QQ (F0 m 6 ls []) := by
    intro n
    induction n using Nat.strongRecOn with
    | ind n ih_L_1 =>
    intro H locs ls i4_2 i4_2_z i5_3 i5_3_z hn hw hz_i4_2 hz_i5_3 hr_i5_3 hl
    have rg_4 : (-2147483648) ≤ i4_2_z ∧ i4_2_z ≤ 2147483647 := by rw [← hz_i4_2]; exact ⟨z_lo _, z_hi _⟩
    have rg_5 : (-2147483648) ≤ i5_3_z ∧ i5_3_z ≤ 2147483647 := by rw [← hz_i5_3]; exact ⟨z_lo _, z_hi _⟩
    refine lv_iload X.1 X.2.1 dX12_silk_6 (lv_at hl 1 rfl) ?_
    refine lv_iload_n X.1 X.2.1 dX12_silk_8 rfl (lv_at hl 5 rfl) ?_
    refine lv_icmp_ge (tgt := 30) X.1 X.2.1 dX12_silk_9 (by decide) (fun c_6 => ?_) (fun c_6 => ?_)
    · have z_b_7 := trivial
      have k_8 : i5_3_z ≥ a3_z := z_le hz_a3 hz_i5_3 c_6
      refine lv_iload X.1 X.2.1 dX12_silk_30 (lv_at hl 0 rfl) ?_
      rw [hQQ]
      exact ret_i X hw hr hlocks (Nat.le_of_ble_eq_true rfl) (Nat.le_of_ble_eq_true rfl) ⟨rfl, trivial⟩ dX12_silk_32
    · have z_b_9 := trivial
      have k_10 : i5_3_z < a3_z := z_nle hz_a3 hz_i5_3 c_6
      refine lv_iload X.1 X.2.1 dX12_silk_12 (lv_at hl 0 rfl) ?_
      refine lv_aload_n X.1 X.2.1 dX12_silk_14 rfl (lv_at hl 2 rfl) ?_
      refine lv_iload_n X.1 X.2.1 dX12_silk_15 rfl (lv_at hl 3 rfl) ?_
      refine lv_iload X.1 X.2.1 dX12_silk_16 (lv_at hl 1 rfl) ?_
      refine k_i (rm := { frames := 3, cells := 0, slots := 0, locals := 144 }) (av := [.ref x, .int (a1), .int (i5_3)]) X hw (va_runV (As := [.int (a1), .int (i5_3)]) (rest := [.int (i4_2)]) (cfix X) (k_X12_fineOf l G cy κ S _ x (a1) (a1_z) (i5_3) (i5_3_z) hG ha_x hz_a1 hz_i5_3 (by first | assumption | omega) (by first | assumption | omega) (by first | assumption | omega) (by first | assumption | omega) (by first | assumption | omega)) (cwV 2 X.2.2.2.1 gX12_silk_X12_fineOf rfl rfl rfl (by decide +kernel) ⟨Nat.le_of_ble_eq_true rfl, Nat.le_of_ble_eq_true rfl⟩) (pre_V X hw _ ha_x rfl (by decide) rfl) rfl rfl hl.1 rfl (lv_room (Nat.le_of_ble_eq_true rfl)) dX12_silk_18 ⟨Nat.le_of_ble_eq_true rfl, Nat.le_of_ble_eq_true rfl⟩) 0 0 (Nat.le_of_ble_eq_true rfl) (Nat.le_of_ble_eq_true rfl) (fun rr_11 S_12 H locs hp hw hfr hnw => ?_)
      obtain ⟨e2, hp⟩ := hp
      subst e2
      have rg_13 := And.intro (z_lo rr_11) (z_hi rr_11)
      refine lv_iadd X.1 X.2.1 dX12_silk_21 ?_
      refine lv_topi (fun v_14 ev_14 => ?_)
      have rg_15 := And.intro (z_lo v_14) (z_hi v_14)
      refine lv_istore (lv' := [(4, .int (v_14)), (5, .int (i5_3)), (0, .ref x), (1, .int (a1)), (2, .int (a2)), (3, .int (a3))]) X.1 X.2.1 dX12_silk_22 hl (by decide) rfl (fun ls hl => ?_)
      obtain ⟨x_16, ex_16⟩ : ∃ y : Int32, y = i5_3 + 1 := ⟨_, rfl⟩
      have z_17 : x_16.toInt = i5_3_z + 1 := z_add ex_16 hz_i5_3 ti_1 (by omega) (by omega)
      refine lv_iinc (v := x_16) (lv' := [(5, .int (x_16)), (4, .int (v_14)), (0, .ref x), (1, .int (a1)), (2, .int (a2)), (3, .int (a3))]) X.1 X.2.1 dX12_silk_24 hl (k := 1) rfl (by rw [ex_16]; rfl) (by decide) rfl (fun ls hl => ?_)
      refine lv_goto (tgt := 6) X.1 X.2.1 dX12_silk_27 (by decide) ?_
      exact ih_L_1 _ (by omega) _ _ _ (v_14) (v_14.toInt) (x_16) (x_16.toInt) rfl hw rfl rfl (by omega) (lv_sub hl [1, 0, 2, 3, 4, 5] rfl)
  exact L_1 _ _ _ _ (0) (0) (a2) (a2_z) rfl hw ti_0 hz_a2 (by omega) (lv_sub hl [1, 0, 2, 3, 4, 5] rfl)
