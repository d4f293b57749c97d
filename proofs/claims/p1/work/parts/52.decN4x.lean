set_option maxRecDepth 20000 in
theorem ggX11_fineness_X11_cocoonAt : GoodIn wsX11_fineness wsX11_cocoonAt := goodIn_r _ [8, 9, 10, 11, 29, 30, 31, 32, 33, 34, 35, 36, 37, 38, 39, 40] (by decide +kernel) (by decide +kernel)
set_option maxRecDepth 20000 in
theorem gX11_fineness_X11_cocoonAt : GoodIn wsX11_fineness (wsV RX11 74 RX11 yX11_cocoonAt wsX11_cocoonAt) := goodIn_app (goodIn_of _ (by decide +kernel)) ggX11_fineness_X11_cocoonAt
theorem dX11_fineness_0 : decode cX11_fineness 0 = .ok (.aload_n 0, 1) := by decide +kernel
theorem dX11_fineness_1 : decode cX11_fineness 1 = .ok (.iload_n 1, 1) := by decide +kernel
theorem dX11_fineness_2 : decode cX11_fineness 2 = .ok (.iload_n 2, 1) := by decide +kernel
theorem dX11_fineness_3 : decode cX11_fineness 3 = .ok (.invokevirtual 74, 3) := by decide +kernel
theorem dX11_fineness_6 : decode cX11_fineness 6 = .ok (.astore 4, 2) := by decide +kernel
theorem dX11_fineness_8 : decode cX11_fineness 8 = .ok (.aload 4, 2) := by decide +kernel
theorem dX11_fineness_10 : decode cX11_fineness 10 = .ok (.ifnull 16, 3) := by decide +kernel
theorem dX11_fineness_26 : decode cX11_fineness 26 = .ok (.new 102, 3) := by decide +kernel
theorem dX11_fineness_29 : decode cX11_fineness 29 = .ok (.dup, 1) := by decide +kernel
theorem dX11_fineness_30 : decode cX11_fineness 30 = .ok (.ldc 104, 2) := by decide +kernel
theorem dX11_fineness_32 : decode cX11_fineness 32 = .ok (.invokespecial 106, 3) := by decide +kernel
theorem dX11_fineness_35 : decode cX11_fineness 35 = .ok (.athrow, 1) := by decide +kernel
set_option maxRecDepth 20000 in
theorem ggX11_in_X11_potAt : GoodIn wiX11_in wsX11_potAt := goodIn_r _ [7, 8, 9, 37, 38, 39, 40, 41, 42, 43, 44, 45, 46, 47, 48] (by decide +kernel) (by decide +kernel)
set_option maxRecDepth 20000 in
theorem gX11_in_X11_potAt : GoodIn wiX11_in (wsV RX11 134 RX11 yX11_potAt wsX11_potAt) := goodIn_app (goodIn_of _ (by decide +kernel)) ggX11_in_X11_potAt
theorem dX11_in_0 : decode cX11_in 0 = .ok (.aload_n 0, 1) := by decide +kernel
theorem dX11_in_1 : decode cX11_in 1 = .ok (.iload_n 1, 1) := by decide +kernel
theorem dX11_in_2 : decode cX11_in 2 = .ok (.invokevirtual 134, 3) := by decide +kernel
theorem dX11_in_5 : decode cX11_in 5 = .ok (.astore 4, 2) := by decide +kernel
theorem dX11_in_7 : decode cX11_in 7 = .ok (.aload 4, 2) := by decide +kernel
theorem dX11_in_9 : decode cX11_in 9 = .ok (.ifnonnull 7, 3) := by decide +kernel
theorem dX11_in_12 : decode cX11_in 12 = .ok (.aconst_null, 1) := by decide +kernel
theorem dX11_in_13 : decode cX11_in 13 = .ok (.goto 9, 3) := by decide +kernel
theorem dX11_in_22 : decode cX11_in 22 = .ok (.astore 5, 2) := by decide +kernel
theorem dX11_in_24 : decode cX11_in 24 = .ok (.aload 5, 2) := by decide +kernel
theorem dX11_in_26 : decode cX11_in 26 = .ok (.ifnonnull 7, 3) := by decide +kernel
theorem dX11_in_29 : decode cX11_in 29 = .ok (.aconst_null, 1) := by decide +kernel
theorem dX11_in_30 : decode cX11_in 30 = .ok (.goto 9, 3) := by decide +kernel
theorem dX11_in_39 : decode cX11_in 39 = .ok (.astore 6, 2) := by decide +kernel
theorem dX11_in_41 : decode cX11_in 41 = .ok (.aload 6, 2) := by decide +kernel
theorem dX11_in_43 : decode cX11_in 43 = .ok (.ifnonnull 13, 3) := by decide +kernel
theorem dX11_in_46 : decode cX11_in 46 = .ok (.new 219, 3) := by decide +kernel
theorem dX11_in_49 : decode cX11_in 49 = .ok (.dup, 1) := by decide +kernel
theorem dX11_in_50 : decode cX11_in 50 = .ok (.ldc 221, 2) := by decide +kernel
theorem dX11_in_52 : decode cX11_in 52 = .ok (.invokespecial 223, 3) := by decide +kernel
theorem dX11_in_55 : decode cX11_in 55 = .ok (.athrow, 1) := by decide +kernel
