set_option maxRecDepth 20000 in
theorem ggX12_take_X12_within : GoodIn wsX12_take wsX12_within := goodIn_r _ [11] (by decide +kernel) (by decide +kernel)
set_option maxRecDepth 20000 in
theorem gX12_take_X12_within : GoodIn wsX12_take (va_wsS RX12 168 yX12_within wsX12_within) := goodIn_app (goodIn_of _ (by decide +kernel)) ggX12_take_X12_within
theorem dX12_take_0 : decode cX12_take 0 = .ok (.aload_n 0, 1) := by decide +kernel
theorem dX12_take_1 : decode cX12_take 1 = .ok (.iconst 0, 1) := by decide +kernel
theorem dX12_take_2 : decode cX12_take 2 = .ok (.putfield 161, 3) := by decide +kernel
theorem dX12_take_5 : decode cX12_take 5 = .ok (.iload_n 1, 1) := by decide +kernel
theorem dX12_take_6 : decode cX12_take 6 = .ok (.iconst 0, 1) := by decide +kernel
theorem dX12_take_7 : decode cX12_take 7 = .ok (.bipush 15, 2) := by decide +kernel
theorem dX12_take_9 : decode cX12_take 9 = .ok (.invokestatic 168, 3) := by decide +kernel
theorem dX12_take_12 : decode cX12_take 12 = .ok (.ifCond .eq 12, 3) := by decide +kernel
theorem dX12_take_15 : decode cX12_take 15 = .ok (.iload_n 2, 1) := by decide +kernel
theorem dX12_take_16 : decode cX12_take 16 = .ok (.iconst 0, 1) := by decide +kernel
theorem dX12_take_17 : decode cX12_take 17 = .ok (.iconst 2, 1) := by decide +kernel
theorem dX12_take_18 : decode cX12_take 18 = .ok (.invokestatic 168, 3) := by decide +kernel
theorem dX12_take_21 : decode cX12_take 21 = .ok (.ifCond .ne 5, 3) := by decide +kernel
theorem dX12_take_24 : decode cX12_take 24 = .ok (.iconst (-1), 1) := by decide +kernel
theorem dX12_take_25 : decode cX12_take 25 = .ok (.ireturn, 1) := by decide +kernel
theorem dX12_take_26 : decode cX12_take 26 = .ok (.aload_n 0, 1) := by decide +kernel
theorem dX12_take_27 : decode cX12_take 27 = .ok (.getfield 125, 3) := by decide +kernel
theorem dX12_take_30 : decode cX12_take 30 = .ok (.iload_n 1, 1) := by decide +kernel
theorem dX12_take_31 : decode cX12_take 31 = .ok (.baload, 1) := by decide +kernel
theorem dX12_take_32 : decode cX12_take 32 = .ok (.ifCond .ne 6, 3) := by decide +kernel
theorem dX12_take_35 : decode cX12_take 35 = .ok (.bipush (-2), 2) := by decide +kernel
theorem dX12_take_37 : decode cX12_take 37 = .ok (.ireturn, 1) := by decide +kernel
set_option maxRecDepth 20000 in
theorem ggX12_copy_X12_isWord : GoodIn wsX12_copy wsX12_isWord := goodIn_r _ [9, 10, 11, 2, 12, 13, 8, 14, 15, 16, 17, 18, 19, 20, 21, 22, 23, 24, 25, 26, 27, 28, 29, 30, 31, 32, 33, 34, 35, 36, 37, 38, 39, 40, 41, 42, 43, 44, 45, 46, 47, 48, 49, 50, 51, 52, 53, 54, 55, 56, 57, 58, 59, 60, 61, 62, 63, 64, 65, 66, 67, 68, 69, 70, 71, 72, 73, 74, 75, 76, 77, 78, 79, 80] (by decide +kernel) (by decide +kernel)
set_option maxRecDepth 20000 in
theorem gX12_copy_X12_isWord : GoodIn wsX12_copy (wsV RX12 400 RX12 yX12_isWord wsX12_isWord) := goodIn_app (goodIn_of _ (by decide +kernel)) ggX12_copy_X12_isWord
theorem dX12_copy_0 : decode cX12_copy 0 = .ok (.aload_n 0, 1) := by decide +kernel
theorem dX12_copy_1 : decode cX12_copy 1 = .ok (.iconst 0, 1) := by decide +kernel
theorem dX12_copy_2 : decode cX12_copy 2 = .ok (.putfield 161, 3) := by decide +kernel
theorem dX12_copy_5 : decode cX12_copy 5 = .ok (.aload_n 0, 1) := by decide +kernel
theorem dX12_copy_6 : decode cX12_copy 6 = .ok (.iload_n 1, 1) := by decide +kernel
theorem dX12_copy_7 : decode cX12_copy 7 = .ok (.invokevirtual 400, 3) := by decide +kernel
theorem dX12_copy_10 : decode cX12_copy 10 = .ok (.ifCond .eq 25, 3) := by decide +kernel
theorem dX12_copy_35 : decode cX12_copy 35 = .ok (.iconst 0, 1) := by decide +kernel
theorem dX12_copy_36 : decode cX12_copy 36 = .ok (.ireturn, 1) := by decide +kernel
set_option maxRecDepth 20000 in
theorem ggX12_number__X12_isWord : GoodIn wsX12_number_ wsX12_isWord := goodIn_r _ [8, 9, 10, 2, 11, 12, 7, 13, 14, 15, 16, 17, 18, 19, 20, 21, 22, 23, 24, 25, 26, 27, 28, 29, 30, 31, 32, 33, 34, 35, 36, 37, 38, 39, 40, 41, 42, 43, 44, 45, 46, 47, 48, 49, 50, 51, 52, 53, 54, 55, 56, 57, 58, 59, 60, 61, 62, 63, 64, 65, 66, 67, 68, 69, 70, 71, 72, 73, 74, 75, 76, 77, 78, 79] (by decide +kernel) (by decide +kernel)
set_option maxRecDepth 20000 in
theorem gX12_number__X12_isWord : GoodIn wsX12_number_ (wsV RX12 400 RX12 yX12_isWord wsX12_isWord) := goodIn_app (goodIn_of _ (by decide +kernel)) ggX12_number__X12_isWord
theorem dX12_number__0 : decode cX12_number_ 0 = .ok (.aload_n 0, 1) := by decide +kernel
theorem dX12_number__1 : decode cX12_number_ 1 = .ok (.iconst 0, 1) := by decide +kernel
theorem dX12_number__2 : decode cX12_number_ 2 = .ok (.putfield 161, 3) := by decide +kernel
theorem dX12_number__5 : decode cX12_number_ 5 = .ok (.aload_n 0, 1) := by decide +kernel
theorem dX12_number__6 : decode cX12_number_ 6 = .ok (.iload_n 1, 1) := by decide +kernel
theorem dX12_number__7 : decode cX12_number_ 7 = .ok (.invokevirtual 400, 3) := by decide +kernel
theorem dX12_number__10 : decode cX12_number_ 10 = .ok (.ifCond .eq 33, 3) := by decide +kernel
theorem dX12_number__43 : decode cX12_number_ 43 = .ok (.iconst (-1), 1) := by decide +kernel
theorem dX12_number__44 : decode cX12_number_ 44 = .ok (.ireturn, 1) := by decide +kernel
theorem inn_X12_copy_12 : ∀ w ∈ u_ws RX12 TX12 66, w ∈ wsX12_copy := fun w h => List.mem_cons_of_mem _ (List.mem_append_right _ h)
theorem inn_X12_number__12 : ∀ w ∈ u_ws RX12 TX12 66, w ∈ wsX12_number_ := fun w h => List.mem_cons_of_mem _ (List.mem_append_right _ h)
theorem inn_X12_take_12 : ∀ w ∈ u_ws RX12 TX12 66, w ∈ wsX12_take := fun w h => List.mem_cons_of_mem _ (List.mem_append_right _ h)
