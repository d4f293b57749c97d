theorem dX2_beginFor_0 : decode cX2_beginFor 0 = .ok (.aload_n 0, 1) := by decide +kernel
theorem dX2_beginFor_1 : decode cX2_beginFor 1 = .ok (.iconst 0, 1) := by decide +kernel
theorem dX2_beginFor_2 : decode cX2_beginFor 2 = .ok (.putfield 21, 3) := by decide +kernel
theorem dX2_beginFor_5 : decode cX2_beginFor 5 = .ok (.aload_n 0, 1) := by decide +kernel
theorem dX2_beginFor_6 : decode cX2_beginFor 6 = .ok (.iconst 0, 1) := by decide +kernel
theorem dX2_beginFor_7 : decode cX2_beginFor 7 = .ok (.putfield 25, 3) := by decide +kernel
theorem dX2_beginFor_10 : decode cX2_beginFor 10 = .ok (.aload_n 0, 1) := by decide +kernel
theorem dX2_beginFor_11 : decode cX2_beginFor 11 = .ok (.iload_n 1, 1) := by decide +kernel
theorem dX2_beginFor_12 : decode cX2_beginFor 12 = .ok (.putfield 28, 3) := by decide +kernel
theorem dX2_beginFor_15 : decode cX2_beginFor 15 = .ok (.aload_n 0, 1) := by decide +kernel
theorem dX2_beginFor_16 : decode cX2_beginFor 16 = .ok (.ldc 33, 2) := by decide +kernel
theorem dX2_beginFor_18 : decode cX2_beginFor 18 = .ok (.putfield 34, 3) := by decide +kernel
theorem dX2_beginFor_21 : decode cX2_beginFor 21 = .ok (.aload_n 0, 1) := by decide +kernel
theorem dX2_beginFor_22 : decode cX2_beginFor 22 = .ok (.iconst 0, 1) := by decide +kernel
theorem dX2_beginFor_23 : decode cX2_beginFor 23 = .ok (.putfield 37, 3) := by decide +kernel
theorem dX2_beginFor_26 : decode cX2_beginFor 26 = .ok (.return_, 1) := by decide +kernel
set_option maxRecDepth 20000 in
theorem ggX2_leastPrice_X2_seek : GoodIn wsX2_leastPrice wsX2_seek := goodIn_r _ [7, 8, 3, 9, 2, 10, 11, 4, 5, 6, 12, 13, 14, 15, 16, 17, 18, 19] (by decide +kernel) (by decide +kernel)
set_option maxRecDepth 20000 in
theorem gX2_leastPrice_X2_seek : GoodIn wsX2_leastPrice (va_wsS RX2 40 yX2_seek wsX2_seek) := goodIn_app (goodIn_of _ (by decide +kernel)) ggX2_leastPrice_X2_seek
theorem dX2_leastPrice_0 : decode cX2_leastPrice 0 = .ok (.aload_n 0, 1) := by decide +kernel
theorem dX2_leastPrice_1 : decode cX2_leastPrice 1 = .ok (.iconst 0, 1) := by decide +kernel
theorem dX2_leastPrice_2 : decode cX2_leastPrice 2 = .ok (.iconst 0, 1) := by decide +kernel
theorem dX2_leastPrice_3 : decode cX2_leastPrice 3 = .ok (.aload_n 0, 1) := by decide +kernel
theorem dX2_leastPrice_4 : decode cX2_leastPrice 4 = .ok (.getfield 25, 3) := by decide +kernel
theorem dX2_leastPrice_7 : decode cX2_leastPrice 7 = .ok (.iconst 0, 1) := by decide +kernel
theorem dX2_leastPrice_8 : decode cX2_leastPrice 8 = .ok (.invokestatic 40, 3) := by decide +kernel
theorem dX2_leastPrice_11 : decode cX2_leastPrice 11 = .ok (.aload_n 0, 1) := by decide +kernel
theorem dX2_leastPrice_12 : decode cX2_leastPrice 12 = .ok (.getfield 37, 3) := by decide +kernel
theorem dX2_leastPrice_15 : decode cX2_leastPrice 15 = .ok (.ifCond .ne 7, 3) := by decide +kernel
theorem dX2_leastPrice_18 : decode cX2_leastPrice 18 = .ok (.iconst (-1), 1) := by decide +kernel
theorem dX2_leastPrice_19 : decode cX2_leastPrice 19 = .ok (.goto 7, 3) := by decide +kernel
theorem dX2_leastPrice_26 : decode cX2_leastPrice 26 = .ok (.ireturn, 1) := by decide +kernel
theorem dX2_seek_0 : decode cX2_seek 0 = .ok (.iload_n 3, 1) := by decide +kernel
theorem dX2_seek_1 : decode cX2_seek 1 = .ok (.aload_n 0, 1) := by decide +kernel
theorem dX2_seek_2 : decode cX2_seek 2 = .ok (.getfield 28, 3) := by decide +kernel
theorem dX2_seek_5 : decode cX2_seek 5 = .ok (.if_icmp .lt 12, 3) := by decide +kernel
theorem dX2_seek_17 : decode cX2_seek 17 = .ok (.return_, 1) := by decide +kernel
set_option maxRecDepth 20000 in
theorem ggX8_mixFor_X2_beginFor : GoodIn wsX8_mixFor wsX2_beginFor := goodIn_r _ [12, 13, 14, 15, 16, 17, 18, 89, 90, 91, 92, 93, 94, 95, 96] (by decide +kernel) (by decide +kernel)
set_option maxRecDepth 20000 in
theorem gX8_mixFor_X2_beginFor : GoodIn wsX8_mixFor (wsV RX8 72 RX2 yX2_beginFor wsX2_beginFor) := goodIn_app (goodIn_of _ (by decide +kernel)) ggX8_mixFor_X2_beginFor
set_option maxRecDepth 20000 in
theorem ggX8_mixFor_X2_leastPrice : GoodIn wsX8_mixFor wsX2_leastPrice := goodIn_r _ [44, 14, 18, 17, 45, 46, 11, 47, 15, 13, 40, 39, 89, 90, 91, 92, 93, 94, 95, 96] (by decide +kernel) (by decide +kernel)
set_option maxRecDepth 20000 in
theorem gX8_mixFor_X2_leastPrice : GoodIn wsX8_mixFor (wsV RX8 98 RX2 yX2_leastPrice wsX2_leastPrice) := goodIn_app (goodIn_of _ (by decide +kernel)) ggX8_mixFor_X2_leastPrice
theorem dX8_mixFor_0 : decode cX8_mixFor 0 = .ok (.aload_n 0, 1) := by decide +kernel
theorem dX8_mixFor_1 : decode cX8_mixFor 1 = .ok (.getfield 33, 3) := by decide +kernel
theorem dX8_mixFor_4 : decode cX8_mixFor 4 = .ok (.iload_n 1, 1) := by decide +kernel
theorem dX8_mixFor_5 : decode cX8_mixFor 5 = .ok (.invokevirtual 72, 3) := by decide +kernel
theorem dX8_mixFor_8 : decode cX8_mixFor 8 = .ok (.iconst 0, 1) := by decide +kernel
theorem dX8_mixFor_9 : decode cX8_mixFor 9 = .ok (.istore 5, 2) := by decide +kernel
theorem dX8_mixFor_11 : decode cX8_mixFor 11 = .ok (.iload 5, 2) := by decide +kernel
theorem dX8_mixFor_13 : decode cX8_mixFor 13 = .ok (.aload_n 0, 1) := by decide +kernel
theorem dX8_mixFor_14 : decode cX8_mixFor 14 = .ok (.getfield 37, 3) := by decide +kernel
theorem dX8_mixFor_17 : decode cX8_mixFor 17 = .ok (.if_icmp .ge 71, 3) := by decide +kernel
theorem dX8_mixFor_88 : decode cX8_mixFor 88 = .ok (.aload_n 0, 1) := by decide +kernel
theorem dX8_mixFor_89 : decode cX8_mixFor 89 = .ok (.getfield 33, 3) := by decide +kernel
theorem dX8_mixFor_92 : decode cX8_mixFor 92 = .ok (.invokevirtual 98, 3) := by decide +kernel
theorem dX8_mixFor_95 : decode cX8_mixFor 95 = .ok (.istore 5, 2) := by decide +kernel
theorem dX8_mixFor_97 : decode cX8_mixFor 97 = .ok (.iload 5, 2) := by decide +kernel
theorem dX8_mixFor_99 : decode cX8_mixFor 99 = .ok (.iconst (-1), 1) := by decide +kernel
theorem dX8_mixFor_100 : decode cX8_mixFor 100 = .ok (.if_icmp .eq 9, 3) := by decide +kernel
theorem dX8_mixFor_109 : decode cX8_mixFor 109 = .ok (.iload 5, 2) := by decide +kernel
theorem dX8_mixFor_111 : decode cX8_mixFor 111 = .ok (.ireturn, 1) := by decide +kernel
set_option maxRecDepth 20000 in
theorem ggX11_mix_X8_mixFor : GoodIn wsX11_mix wsX8_mixFor := goodIn_r _ [6, 7, 8, 9, 10, 11, 12, 13, 14, 15, 16, 17, 18, 19, 20, 21, 22, 23, 24, 25, 26, 27, 5, 28, 29, 30, 31, 32, 33, 34, 35, 36, 37, 38, 39, 40, 41, 42, 43, 44, 45, 46, 47, 48, 49, 50, 51, 52, 53, 54, 55, 56, 57, 58, 59, 60, 61, 74, 75, 76, 77, 78, 79, 80, 81, 82, 83, 84, 85, 86, 87, 88, 89, 90, 91, 92, 93, 94, 95, 96, 97, 98, 99, 100, 101, 102, 103, 104, 105, 106, 107, 108, 109, 110, 111, 112, 113] (by decide +kernel) (by decide +kernel)
set_option maxRecDepth 20000 in
theorem gX11_mix_X8_mixFor : GoodIn wsX11_mix (wsV RX11 342 RX8 yX8_mixFor wsX8_mixFor) := goodIn_app (goodIn_of _ (by decide +kernel)) ggX11_mix_X8_mixFor
theorem dX11_mix_0 : decode cX11_mix 0 = .ok (.iload_n 1, 1) := by decide +kernel
theorem dX11_mix_1 : decode cX11_mix 1 = .ok (.iconst 1, 1) := by decide +kernel
theorem dX11_mix_2 : decode cX11_mix 2 = .ok (.if_icmp .ge 7, 3) := by decide +kernel
theorem dX11_mix_5 : decode cX11_mix 5 = .ok (.iconst (-1), 1) := by decide +kernel
theorem dX11_mix_6 : decode cX11_mix 6 = .ok (.goto 15, 3) := by decide +kernel
theorem dX11_mix_9 : decode cX11_mix 9 = .ok (.aload_n 0, 1) := by decide +kernel
theorem dX11_mix_10 : decode cX11_mix 10 = .ok (.getfield 42, 3) := by decide +kernel
theorem dX11_mix_13 : decode cX11_mix 13 = .ok (.iload_n 1, 1) := by decide +kernel
theorem dX11_mix_14 : decode cX11_mix 14 = .ok (.iload_n 2, 1) := by decide +kernel
theorem dX11_mix_15 : decode cX11_mix 15 = .ok (.iload_n 3, 1) := by decide +kernel
theorem dX11_mix_16 : decode cX11_mix 16 = .ok (.iload 4, 2) := by decide +kernel
theorem dX11_mix_18 : decode cX11_mix 18 = .ok (.invokevirtual 342, 3) := by decide +kernel
theorem dX11_mix_21 : decode cX11_mix 21 = .ok (.ireturn, 1) := by decide +kernel
theorem inn_X11_mix_11 : ∀ w ∈ u_ws RX11 TX11 12, w ∈ wsX11_mix := fun w h => List.mem_cons_of_mem _ (List.mem_append_left _ (List.mem_append_left _ (List.mem_append_left _ (List.mem_append_left _ (List.mem_append_right _ h)))))
theorem inn_X2_beginFor_2 : ∀ w ∈ u_ws RX2 TX2 8, w ∈ wsX2_beginFor := fun w h => List.mem_cons_of_mem _ (List.mem_append_right _ h)
theorem inn_X2_leastPrice_2 : ∀ w ∈ u_ws RX2 TX2 8, w ∈ wsX2_leastPrice := fun w h => List.mem_cons_of_mem _ (List.mem_append_right _ h)
theorem inn_X2_seek_2 : ∀ w ∈ u_ws RX2 TX2 8, w ∈ wsX2_seek := fun w h => List.mem_cons_of_mem _ (List.mem_append_right _ h)
theorem inn_X8_mixFor_8 : ∀ w ∈ u_ws RX8 TX8 13, w ∈ wsX8_mixFor := fun w h => List.mem_cons_of_mem _ (List.mem_append_left _ (List.mem_append_left _ (List.mem_append_left _ (List.mem_append_right _ h))))
