set_option maxRecDepth 20000 in
theorem ggL_fineness_X11_fineness : GoodIn wsL_fineness wsX11_fineness := goodIn_ca (goodIn_r _ [6, 7, 8, 9, 10, 11, 12, 5, 13, 14, 15, 16, 17, 18, 19, 20, 21, 22, 23, 24, 25, 26, 27, 28, 29, 30, 31, 32, 33, 34, 35, 36, 37, 38, 39, 40, 41, 42, 43, 44, 45] (by decide +kernel) (by decide +kernel)) (goodIn_sub (fun _ h => List.mem_cons_of_mem _ (List.mem_append_right _ h)) (by decide +kernel))
set_option maxRecDepth 20000 in
theorem gL_fineness_X11_fineness : GoodIn wsL_fineness (wsV RL 7 RX11 yX11_fineness wsX11_fineness) := goodIn_app (goodIn_of _ (by decide +kernel)) ggL_fineness_X11_fineness
theorem dL_fineness_0 : decode cL_fineness 0 = .ok (.aload 4, 2) := by decide +kernel
theorem dL_fineness_2 : decode cL_fineness 2 = .ok (.iconst 0, 1) := by decide +kernel
theorem dL_fineness_3 : decode cL_fineness 3 = .ok (.aload_n 0, 1) := by decide +kernel
theorem dL_fineness_4 : decode cL_fineness 4 = .ok (.iload_n 1, 1) := by decide +kernel
theorem dL_fineness_5 : decode cL_fineness 5 = .ok (.iload_n 2, 1) := by decide +kernel
theorem dL_fineness_6 : decode cL_fineness 6 = .ok (.iload_n 3, 1) := by decide +kernel
theorem dL_fineness_7 : decode cL_fineness 7 = .ok (.invokevirtual 7, 3) := by decide +kernel
theorem dL_fineness_15 : decode cL_fineness 15 = .ok (.astore 5, 2) := by decide +kernel
theorem dL_fineness_17 : decode cL_fineness 17 = .ok (.iconst 1, 1) := by decide +kernel
theorem dL_fineness_18 : decode cL_fineness 18 = .ok (.ireturn, 1) := by decide +kernel
set_option maxRecDepth 20000 in
theorem ggL_in_X11_in : GoodIn wiL_in wiX11_in := goodIn_ca (goodIn_r _ [6, 7, 8, 9, 10, 11, 5, 12, 13, 14, 15, 16, 17, 18, 19, 20, 21, 22, 23, 24, 25, 26, 27, 28, 29, 30, 31, 32, 33, 34, 35, 36, 37, 38, 39, 40, 41, 42, 43, 44, 45, 46, 47, 48, 49, 50, 51, 52, 53, 54, 55, 56, 57, 58, 59, 60, 61, 62, 63, 64, 65, 66, 67, 68, 69, 70, 71, 72, 73, 74, 75, 76, 77, 78] (by decide +kernel) (by decide +kernel)) (goodIn_sub (fun _ h => List.mem_cons_of_mem _ (List.mem_append_right _ h)) (by decide +kernel))
set_option maxRecDepth 20000 in
theorem gL_in_X11_in : GoodIn wiL_in (wsV RL 15 RX11 yX11_in wiX11_in) := goodIn_app (goodIn_of _ (by decide +kernel)) ggL_in_X11_in
theorem dL_in_0 : decode cL_in 0 = .ok (.aload 4, 2) := by decide +kernel
theorem dL_in_2 : decode cL_in 2 = .ok (.iconst 0, 1) := by decide +kernel
theorem dL_in_3 : decode cL_in 3 = .ok (.aload_n 0, 1) := by decide +kernel
theorem dL_in_4 : decode cL_in 4 = .ok (.iload_n 1, 1) := by decide +kernel
theorem dL_in_5 : decode cL_in 5 = .ok (.iload_n 2, 1) := by decide +kernel
theorem dL_in_6 : decode cL_in 6 = .ok (.iload_n 3, 1) := by decide +kernel
theorem dL_in_7 : decode cL_in 7 = .ok (.invokevirtual 15, 3) := by decide +kernel
theorem dL_in_15 : decode cL_in 15 = .ok (.astore 5, 2) := by decide +kernel
theorem dL_in_17 : decode cL_in 17 = .ok (.iconst 1, 1) := by decide +kernel
theorem dL_in_18 : decode cL_in 18 = .ok (.ireturn, 1) := by decide +kernel
