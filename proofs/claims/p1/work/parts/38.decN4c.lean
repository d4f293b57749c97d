theorem dX3_hasRow_0 : decode cX3_hasRow 0 = .ok (.aload_n 0, 1) := by decide +kernel
theorem dX3_hasRow_1 : decode cX3_hasRow 1 = .ok (.getfield 9, 3) := by decide +kernel
theorem dX3_hasRow_4 : decode cX3_hasRow 4 = .ok (.iconst 2, 1) := by decide +kernel
theorem dX3_hasRow_5 : decode cX3_hasRow 5 = .ok (.if_icmp .ne 14, 3) := by decide +kernel
theorem dX3_hasRow_19 : decode cX3_hasRow 19 = .ok (.iconst 0, 1) := by decide +kernel
theorem dX3_hasRow_20 : decode cX3_hasRow 20 = .ok (.ireturn, 1) := by decide +kernel
set_option maxRecDepth 20000 in
theorem ggX11_take_X11_shelfAt : GoodIn wsX11_take wsX11_shelfAt := goodIn_r _ [8, 9, 44, 45, 46, 47, 48, 49, 50, 51, 52, 53, 54, 55] (by decide +kernel) (by decide +kernel)
set_option maxRecDepth 20000 in
theorem gX11_take_X11_shelfAt : GoodIn wsX11_take (wsV RX11 303 RX11 yX11_shelfAt wsX11_shelfAt) := goodIn_app (goodIn_of _ (by decide +kernel)) ggX11_take_X11_shelfAt
set_option maxRecDepth 20000 in
theorem ggX11_take_X11_isWithin : GoodIn wsX11_take wsX11_isWithin := goodIn_r _ [12] (by decide +kernel) (by decide +kernel)
set_option maxRecDepth 20000 in
theorem gX11_take_X11_isWithin : GoodIn wsX11_take (va_wsS RX11 67 yX11_isWithin wsX11_isWithin) := goodIn_app (goodIn_of _ (by decide +kernel)) ggX11_take_X11_isWithin
theorem dX11_take_0 : decode cX11_take 0 = .ok (.aload_n 0, 1) := by decide +kernel
theorem dX11_take_1 : decode cX11_take 1 = .ok (.iload_n 1, 1) := by decide +kernel
theorem dX11_take_2 : decode cX11_take 2 = .ok (.invokevirtual 303, 3) := by decide +kernel
theorem dX11_take_5 : decode cX11_take 5 = .ok (.astore_n 3, 1) := by decide +kernel
theorem dX11_take_6 : decode cX11_take 6 = .ok (.aload_n 3, 1) := by decide +kernel
theorem dX11_take_7 : decode cX11_take 7 = .ok (.ifnull 12, 3) := by decide +kernel
theorem dX11_take_10 : decode cX11_take 10 = .ok (.iload_n 2, 1) := by decide +kernel
theorem dX11_take_11 : decode cX11_take 11 = .ok (.iconst 0, 1) := by decide +kernel
theorem dX11_take_12 : decode cX11_take 12 = .ok (.iconst 2, 1) := by decide +kernel
theorem dX11_take_13 : decode cX11_take 13 = .ok (.invokestatic 67, 3) := by decide +kernel
theorem dX11_take_16 : decode cX11_take 16 = .ok (.ifCond .ne 5, 3) := by decide +kernel
theorem dX11_take_19 : decode cX11_take 19 = .ok (.iconst (-1), 1) := by decide +kernel
theorem dX11_take_20 : decode cX11_take 20 = .ok (.ireturn, 1) := by decide +kernel
theorem dX11_take_21 : decode cX11_take 21 = .ok (.aload_n 3, 1) := by decide +kernel
theorem dX11_take_22 : decode cX11_take 22 = .ok (.getfield 307, 3) := by decide +kernel
theorem dX11_take_25 : decode cX11_take 25 = .ok (.iconst (-1), 1) := by decide +kernel
theorem dX11_take_26 : decode cX11_take 26 = .ok (.if_icmp .ne 6, 3) := by decide +kernel
theorem dX11_take_29 : decode cX11_take 29 = .ok (.bipush (-2), 2) := by decide +kernel
theorem dX11_take_31 : decode cX11_take 31 = .ok (.ireturn, 1) := by decide +kernel
set_option maxRecDepth 20000 in
theorem ggX11_copy_X11_shelfAt : GoodIn wsX11_copy wsX11_shelfAt := goodIn_r _ [11, 12, 28, 29, 30, 31, 32, 33, 34, 35, 36, 37, 38, 39] (by decide +kernel) (by decide +kernel)
set_option maxRecDepth 20000 in
theorem gX11_copy_X11_shelfAt : GoodIn wsX11_copy (wsV RX11 303 RX11 yX11_shelfAt wsX11_shelfAt) := goodIn_app (goodIn_of _ (by decide +kernel)) ggX11_copy_X11_shelfAt
set_option maxRecDepth 20000 in
theorem ggX11_copy_X3_hasRow : GoodIn wsX11_copy wsX3_hasRow := goodIn_r _ [17, 18, 19, 23, 24, 25, 26, 27] (by decide +kernel) (by decide +kernel)
set_option maxRecDepth 20000 in
theorem gX11_copy_X3_hasRow : GoodIn wsX11_copy (wsV RX11 330 RX3 yX3_hasRow wsX3_hasRow) := goodIn_app (goodIn_of _ (by decide +kernel)) ggX11_copy_X3_hasRow
theorem dX11_copy_0 : decode cX11_copy 0 = .ok (.aload_n 0, 1) := by decide +kernel
theorem dX11_copy_1 : decode cX11_copy 1 = .ok (.iload_n 1, 1) := by decide +kernel
theorem dX11_copy_2 : decode cX11_copy 2 = .ok (.invokevirtual 303, 3) := by decide +kernel
theorem dX11_copy_5 : decode cX11_copy 5 = .ok (.astore 6, 2) := by decide +kernel
theorem dX11_copy_7 : decode cX11_copy 7 = .ok (.aload_n 0, 1) := by decide +kernel
theorem dX11_copy_8 : decode cX11_copy 8 = .ok (.iload_n 3, 1) := by decide +kernel
theorem dX11_copy_9 : decode cX11_copy 9 = .ok (.invokevirtual 303, 3) := by decide +kernel
theorem dX11_copy_12 : decode cX11_copy 12 = .ok (.astore 7, 2) := by decide +kernel
theorem dX11_copy_14 : decode cX11_copy 14 = .ok (.aload 6, 2) := by decide +kernel
theorem dX11_copy_16 : decode cX11_copy 16 = .ok (.ifnull 24, 3) := by decide +kernel
theorem dX11_copy_19 : decode cX11_copy 19 = .ok (.aload 7, 2) := by decide +kernel
theorem dX11_copy_21 : decode cX11_copy 21 = .ok (.ifnull 19, 3) := by decide +kernel
theorem dX11_copy_24 : decode cX11_copy 24 = .ok (.aload 6, 2) := by decide +kernel
theorem dX11_copy_26 : decode cX11_copy 26 = .ok (.invokevirtual 330, 3) := by decide +kernel
theorem dX11_copy_29 : decode cX11_copy 29 = .ok (.ifCond .eq 11, 3) := by decide +kernel
theorem dX11_copy_40 : decode cX11_copy 40 = .ok (.iconst 0, 1) := by decide +kernel
theorem dX11_copy_41 : decode cX11_copy 41 = .ok (.ireturn, 1) := by decide +kernel
set_option maxRecDepth 20000 in
theorem ggX11_number_X11_shelfAt : GoodIn wsX11_number wsX11_shelfAt := goodIn_r _ [7, 8, 21, 22, 23, 24, 25, 26, 27, 28, 29, 30, 31, 32] (by decide +kernel) (by decide +kernel)
set_option maxRecDepth 20000 in
theorem gX11_number_X11_shelfAt : GoodIn wsX11_number (wsV RX11 303 RX11 yX11_shelfAt wsX11_shelfAt) := goodIn_app (goodIn_of _ (by decide +kernel)) ggX11_number_X11_shelfAt
set_option maxRecDepth 20000 in
theorem ggX11_number_X3_hasRow : GoodIn wsX11_number wsX3_hasRow := goodIn_r _ [13, 14, 15, 16, 17, 18, 19, 20] (by decide +kernel) (by decide +kernel)
set_option maxRecDepth 20000 in
theorem gX11_number_X3_hasRow : GoodIn wsX11_number (wsV RX11 330 RX3 yX3_hasRow wsX3_hasRow) := goodIn_app (goodIn_of _ (by decide +kernel)) ggX11_number_X3_hasRow
theorem dX11_number_0 : decode cX11_number 0 = .ok (.aload_n 0, 1) := by decide +kernel
theorem dX11_number_1 : decode cX11_number 1 = .ok (.iload_n 1, 1) := by decide +kernel
theorem dX11_number_2 : decode cX11_number 2 = .ok (.invokevirtual 303, 3) := by decide +kernel
theorem dX11_number_5 : decode cX11_number 5 = .ok (.astore_n 3, 1) := by decide +kernel
theorem dX11_number_6 : decode cX11_number 6 = .ok (.aload_n 3, 1) := by decide +kernel
theorem dX11_number_7 : decode cX11_number 7 = .ok (.ifnull 22, 3) := by decide +kernel
theorem dX11_number_10 : decode cX11_number 10 = .ok (.aload_n 3, 1) := by decide +kernel
theorem dX11_number_11 : decode cX11_number 11 = .ok (.invokevirtual 330, 3) := by decide +kernel
theorem dX11_number_14 : decode cX11_number 14 = .ok (.ifCond .eq 15, 3) := by decide +kernel
theorem dX11_number_29 : decode cX11_number 29 = .ok (.iconst (-1), 1) := by decide +kernel
theorem dX11_number_30 : decode cX11_number 30 = .ok (.ireturn, 1) := by decide +kernel
set_option maxRecDepth 20000 in
theorem ggX11_price_X11_isWithin : GoodIn wsX11_price wsX11_isWithin := goodIn_r _ [6] (by decide +kernel) (by decide +kernel)
set_option maxRecDepth 20000 in
theorem gX11_price_X11_isWithin : GoodIn wsX11_price (va_wsS RX11 67 yX11_isWithin wsX11_isWithin) := goodIn_app (goodIn_of _ (by decide +kernel)) ggX11_price_X11_isWithin
theorem dX11_price_0 : decode cX11_price 0 = .ok (.iload_n 1, 1) := by decide +kernel
theorem dX11_price_1 : decode cX11_price 1 = .ok (.iconst 0, 1) := by decide +kernel
theorem dX11_price_2 : decode cX11_price 2 = .ok (.iconst 3, 1) := by decide +kernel
theorem dX11_price_3 : decode cX11_price 3 = .ok (.invokestatic 67, 3) := by decide +kernel
theorem dX11_price_6 : decode cX11_price 6 = .ok (.ifCond .eq 14, 3) := by decide +kernel
theorem dX11_price_9 : decode cX11_price 9 = .ok (.iload_n 2, 1) := by decide +kernel
theorem dX11_price_10 : decode cX11_price 10 = .ok (.iconst 0, 1) := by decide +kernel
theorem dX11_price_11 : decode cX11_price 11 = .ok (.sipush 1000, 3) := by decide +kernel
theorem dX11_price_14 : decode cX11_price 14 = .ok (.invokestatic 67, 3) := by decide +kernel
theorem dX11_price_17 : decode cX11_price 17 = .ok (.ifCond .ne 5, 3) := by decide +kernel
theorem dX11_price_20 : decode cX11_price 20 = .ok (.iconst 0, 1) := by decide +kernel
theorem dX11_price_21 : decode cX11_price 21 = .ok (.ireturn, 1) := by decide +kernel
theorem dX11_price_22 : decode cX11_price 22 = .ok (.aload_n 0, 1) := by decide +kernel
theorem dX11_price_23 : decode cX11_price 23 = .ok (.getfield 42, 3) := by decide +kernel
theorem dX11_price_26 : decode cX11_price 26 = .ok (.getfield 339, 3) := by decide +kernel
theorem dX11_price_29 : decode cX11_price 29 = .ok (.iload_n 1, 1) := by decide +kernel
theorem dX11_price_30 : decode cX11_price 30 = .ok (.iload_n 2, 1) := by decide +kernel
theorem dX11_price_31 : decode cX11_price 31 = .ok (.iastore, 1) := by decide +kernel
theorem dX11_price_32 : decode cX11_price 32 = .ok (.iconst 1, 1) := by decide +kernel
theorem dX11_price_33 : decode cX11_price 33 = .ok (.ireturn, 1) := by decide +kernel
theorem dX11_shelfAt_0 : decode cX11_shelfAt 0 = .ok (.iload_n 1, 1) := by decide +kernel
theorem dX11_shelfAt_1 : decode cX11_shelfAt 1 = .ok (.ifCond .lt 9, 3) := by decide +kernel
theorem dX11_shelfAt_4 : decode cX11_shelfAt 4 = .ok (.iload_n 1, 1) := by decide +kernel
theorem dX11_shelfAt_5 : decode cX11_shelfAt 5 = .ok (.bipush 16, 2) := by decide +kernel
theorem dX11_shelfAt_7 : decode cX11_shelfAt 7 = .ok (.if_icmp .lt 7, 3) := by decide +kernel
theorem dX11_shelfAt_10 : decode cX11_shelfAt 10 = .ok (.aconst_null, 1) := by decide +kernel
theorem dX11_shelfAt_11 : decode cX11_shelfAt 11 = .ok (.goto 9, 3) := by decide +kernel
theorem dX11_shelfAt_14 : decode cX11_shelfAt 14 = .ok (.aload_n 0, 1) := by decide +kernel
theorem dX11_shelfAt_15 : decode cX11_shelfAt 15 = .ok (.getfield 55, 3) := by decide +kernel
theorem dX11_shelfAt_18 : decode cX11_shelfAt 18 = .ok (.iload_n 1, 1) := by decide +kernel
theorem dX11_shelfAt_19 : decode cX11_shelfAt 19 = .ok (.aaload, 1) := by decide +kernel
theorem dX11_shelfAt_20 : decode cX11_shelfAt 20 = .ok (.areturn, 1) := by decide +kernel
theorem inn_X11_price_11 : ∀ w ∈ u_ws RX11 TX11 12, w ∈ wsX11_price := fun w h => List.mem_cons_of_mem _ (List.mem_append_left _ (List.mem_append_right _ h))
theorem inn_X11_price_8 : ∀ w ∈ u_ws RX8 TX8 13, w ∈ wsX11_price := fun w h => List.mem_cons_of_mem _ (List.mem_append_right _ h)
theorem inn_X11_shelfAt_11 : ∀ w ∈ u_ws RX11 TX11 12, w ∈ wsX11_shelfAt := fun w h => List.mem_cons_of_mem _ (List.mem_append_right _ h)
theorem inn_X11_take_3 : ∀ w ∈ u_ws RX3 TX3 5, w ∈ wsX11_take := fun w h => List.mem_cons_of_mem _ (List.mem_append_left _ (List.mem_append_left _ (List.mem_append_right _ h)))
theorem inn_X3_hasRow_3 : ∀ w ∈ u_ws RX3 TX3 5, w ∈ wsX3_hasRow := fun w h => List.mem_cons_of_mem _ (List.mem_append_right _ h)
