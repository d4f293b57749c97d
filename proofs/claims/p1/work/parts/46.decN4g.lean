set_option maxRecDepth 20000 in
theorem ggX3_putWord_X11_isWithin : GoodIn wsX3_putWord wsX11_isWithin := goodIn_r _ [6] (by decide +kernel) (by decide +kernel)
set_option maxRecDepth 20000 in
theorem gX3_putWord_X11_isWithin_n34 : GoodIn wsX3_putWord (wsX11_isWithin) := ggX3_putWord_X11_isWithin
set_option maxRecDepth 20000 in
theorem ggX3_putWord_J7_fill_53178 : GoodIn wsX3_putWord wsJ7_fill_53178 := goodIn_r _ [10] (by decide +kernel) (by decide +kernel)
set_option maxRecDepth 20000 in
theorem gX3_putWord_J7_fill_53178 : GoodIn wsX3_putWord (va_wsS RX3 38 yJ7_fill_53178 wsJ7_fill_53178) := goodIn_app (goodIn_of _ (by decide +kernel)) ggX3_putWord_J7_fill_53178
theorem dX3_putWord_0 : decode cX3_putWord 0 = .ok (.iload_n 1, 1) := by decide +kernel
theorem dX3_putWord_1 : decode cX3_putWord 1 = .ok (.iconst 0, 1) := by decide +kernel
theorem dX3_putWord_2 : decode cX3_putWord 2 = .ok (.bipush 8, 2) := by decide +kernel
theorem dX3_putWord_4 : decode cX3_putWord 4 = .ok (.invokestatic 34, 3) := by decide +kernel
theorem dX3_putWord_7 : decode cX3_putWord 7 = .ok (.ifCond .ne 5, 3) := by decide +kernel
theorem dX3_putWord_10 : decode cX3_putWord 10 = .ok (.iconst 0, 1) := by decide +kernel
theorem dX3_putWord_11 : decode cX3_putWord 11 = .ok (.ireturn, 1) := by decide +kernel
theorem dX3_putWord_12 : decode cX3_putWord 12 = .ok (.aload_n 0, 1) := by decide +kernel
theorem dX3_putWord_13 : decode cX3_putWord 13 = .ok (.getfield 15, 3) := by decide +kernel
theorem dX3_putWord_16 : decode cX3_putWord 16 = .ok (.iload_n 2, 1) := by decide +kernel
theorem dX3_putWord_17 : decode cX3_putWord 17 = .ok (.invokestatic 38, 3) := by decide +kernel
theorem dX3_putWord_20 : decode cX3_putWord 20 = .ok (.aload_n 0, 1) := by decide +kernel
theorem dX3_putWord_21 : decode cX3_putWord 21 = .ok (.iload_n 1, 1) := by decide +kernel
theorem dX3_putWord_22 : decode cX3_putWord 22 = .ok (.putfield 19, 3) := by decide +kernel
theorem dX3_putWord_25 : decode cX3_putWord 25 = .ok (.aload_n 0, 1) := by decide +kernel
theorem dX3_putWord_26 : decode cX3_putWord 26 = .ok (.iconst 2, 1) := by decide +kernel
theorem dX3_putWord_27 : decode cX3_putWord 27 = .ok (.putfield 9, 3) := by decide +kernel
theorem dX3_putWord_30 : decode cX3_putWord 30 = .ok (.iconst 1, 1) := by decide +kernel
theorem dX3_putWord_31 : decode cX3_putWord 31 = .ok (.ireturn, 1) := by decide +kernel
set_option maxRecDepth 20000 in
theorem ggX11_shelve_X11_shelfAt : GoodIn wsX11_shelve wsX11_shelfAt := goodIn_r _ [7, 8, 46, 47, 48, 49, 50, 51, 52, 53, 54, 55, 56, 57] (by decide +kernel) (by decide +kernel)
set_option maxRecDepth 20000 in
theorem gX11_shelve_X11_shelfAt : GoodIn wsX11_shelve (wsV RX11 303 RX11 yX11_shelfAt wsX11_shelfAt) := goodIn_app (goodIn_of _ (by decide +kernel)) ggX11_shelve_X11_shelfAt
set_option maxRecDepth 20000 in
theorem ggX11_shelve_X11_cocoonAt : GoodIn wsX11_shelve wsX11_cocoonAt := goodIn_r _ [12, 13, 14, 15, 46, 47, 48, 49, 50, 51, 52, 53, 54, 55, 56, 57] (by decide +kernel) (by decide +kernel)
set_option maxRecDepth 20000 in
theorem gX11_shelve_X11_cocoonAt : GoodIn wsX11_shelve (wsV RX11 74 RX11 yX11_cocoonAt wsX11_cocoonAt) := goodIn_app (goodIn_of _ (by decide +kernel)) ggX11_shelve_X11_cocoonAt
set_option maxRecDepth 20000 in
theorem ggX11_shelve_X3_putCocoon : GoodIn wsX11_shelve wsX3_putCocoon := goodIn_r _ [20, 21, 22, 23, 58, 59, 60, 61, 62, 63, 64, 65, 66, 67, 41, 42, 43, 44, 45] (by decide +kernel) (by decide +kernel)
set_option maxRecDepth 20000 in
theorem gX11_shelve_X3_putCocoon : GoodIn wsX11_shelve (wsV RX11 310 RX3 yX3_putCocoon wsX3_putCocoon) := goodIn_app (goodIn_of _ (by decide +kernel)) ggX11_shelve_X3_putCocoon
set_option maxRecDepth 20000 in
theorem ggX11_shelve_X3_putNumber : GoodIn wsX11_shelve wsX3_putNumber := goodIn_r _ [27, 28, 23, 41, 42, 43, 44, 45] (by decide +kernel) (by decide +kernel)
set_option maxRecDepth 20000 in
theorem gX11_shelve_X3_putNumber : GoodIn wsX11_shelve (wsV RX11 314 RX3 yX3_putNumber wsX3_putNumber) := goodIn_app (goodIn_of _ (by decide +kernel)) ggX11_shelve_X3_putNumber
set_option maxRecDepth 20000 in
theorem ggX11_shelve_X3_putWord : GoodIn wsX11_shelve wsX3_putWord := goodIn_r _ [32, 33, 34, 23, 35, 6, 36, 37, 38, 39, 40, 41, 42, 43, 44, 45] (by decide +kernel) (by decide +kernel)
set_option maxRecDepth 20000 in
theorem gX11_shelve_X3_putWord : GoodIn wsX11_shelve (wsV RX11 317 RX3 yX3_putWord wsX3_putWord) := goodIn_app (goodIn_of _ (by decide +kernel)) ggX11_shelve_X3_putWord
theorem dX11_shelve_0 : decode cX11_shelve 0 = .ok (.aload_n 0, 1) := by decide +kernel
theorem dX11_shelve_1 : decode cX11_shelve 1 = .ok (.iload_n 1, 1) := by decide +kernel
theorem dX11_shelve_2 : decode cX11_shelve 2 = .ok (.invokevirtual 303, 3) := by decide +kernel
theorem dX11_shelve_5 : decode cX11_shelve 5 = .ok (.astore 5, 2) := by decide +kernel
theorem dX11_shelve_7 : decode cX11_shelve 7 = .ok (.aload 5, 2) := by decide +kernel
theorem dX11_shelve_9 : decode cX11_shelve 9 = .ok (.ifnull 12, 3) := by decide +kernel
theorem dX11_shelve_12 : decode cX11_shelve 12 = .ok (.aload 5, 2) := by decide +kernel
theorem dX11_shelve_14 : decode cX11_shelve 14 = .ok (.getfield 307, 3) := by decide +kernel
theorem dX11_shelve_17 : decode cX11_shelve 17 = .ok (.iconst (-1), 1) := by decide +kernel
theorem dX11_shelve_18 : decode cX11_shelve 18 = .ok (.if_icmp .eq 5, 3) := by decide +kernel
theorem dX11_shelve_21 : decode cX11_shelve 21 = .ok (.iconst 0, 1) := by decide +kernel
theorem dX11_shelve_22 : decode cX11_shelve 22 = .ok (.ireturn, 1) := by decide +kernel
theorem dX11_shelve_23 : decode cX11_shelve 23 = .ok (.iload_n 2, 1) := by decide +kernel
theorem dX11_shelve_24 : decode cX11_shelve 24 = .ok (.tableswitch 69 0 2 #[28, 45, 56], 28) := by decide +kernel
theorem dX11_shelve_52 : decode cX11_shelve 52 = .ok (.aload 5, 2) := by decide +kernel
theorem dX11_shelve_54 : decode cX11_shelve 54 = .ok (.aload_n 0, 1) := by decide +kernel
theorem dX11_shelve_55 : decode cX11_shelve 55 = .ok (.iload_n 3, 1) := by decide +kernel
theorem dX11_shelve_56 : decode cX11_shelve 56 = .ok (.iload 4, 2) := by decide +kernel
theorem dX11_shelve_58 : decode cX11_shelve 58 = .ok (.invokevirtual 74, 3) := by decide +kernel
theorem dX11_shelve_61 : decode cX11_shelve 61 = .ok (.invokevirtual 310, 3) := by decide +kernel
theorem dX11_shelve_64 : decode cX11_shelve 64 = .ok (.istore 6, 2) := by decide +kernel
theorem dX11_shelve_66 : decode cX11_shelve 66 = .ok (.goto 30, 3) := by decide +kernel
theorem dX11_shelve_69 : decode cX11_shelve 69 = .ok (.aload 5, 2) := by decide +kernel
theorem dX11_shelve_71 : decode cX11_shelve 71 = .ok (.iload_n 3, 1) := by decide +kernel
theorem dX11_shelve_72 : decode cX11_shelve 72 = .ok (.invokevirtual 314, 3) := by decide +kernel
theorem dX11_shelve_75 : decode cX11_shelve 75 = .ok (.istore 6, 2) := by decide +kernel
theorem dX11_shelve_77 : decode cX11_shelve 77 = .ok (.goto 19, 3) := by decide +kernel
theorem dX11_shelve_80 : decode cX11_shelve 80 = .ok (.aload 5, 2) := by decide +kernel
theorem dX11_shelve_82 : decode cX11_shelve 82 = .ok (.iload_n 3, 1) := by decide +kernel
theorem dX11_shelve_83 : decode cX11_shelve 83 = .ok (.iload 4, 2) := by decide +kernel
theorem dX11_shelve_85 : decode cX11_shelve 85 = .ok (.invokevirtual 317, 3) := by decide +kernel
theorem dX11_shelve_88 : decode cX11_shelve 88 = .ok (.istore 6, 2) := by decide +kernel
theorem dX11_shelve_90 : decode cX11_shelve 90 = .ok (.goto 6, 3) := by decide +kernel
theorem dX11_shelve_93 : decode cX11_shelve 93 = .ok (.iconst 0, 1) := by decide +kernel
theorem dX11_shelve_94 : decode cX11_shelve 94 = .ok (.istore 6, 2) := by decide +kernel
theorem dX11_shelve_96 : decode cX11_shelve 96 = .ok (.iload 6, 2) := by decide +kernel
theorem dX11_shelve_98 : decode cX11_shelve 98 = .ok (.ifCond .eq 13, 3) := by decide +kernel
theorem dX11_shelve_101 : decode cX11_shelve 101 = .ok (.aload_n 0, 1) := by decide +kernel
theorem dX11_shelve_102 : decode cX11_shelve 102 = .ok (.dup, 1) := by decide +kernel
theorem dX11_shelve_103 : decode cX11_shelve 103 = .ok (.getfield 321, 3) := by decide +kernel
theorem dX11_shelve_106 : decode cX11_shelve 106 = .ok (.iconst 1, 1) := by decide +kernel
theorem dX11_shelve_107 : decode cX11_shelve 107 = .ok (.iadd, 1) := by decide +kernel
theorem dX11_shelve_108 : decode cX11_shelve 108 = .ok (.putfield 321, 3) := by decide +kernel
theorem dX11_shelve_111 : decode cX11_shelve 111 = .ok (.iload 6, 2) := by decide +kernel
theorem dX11_shelve_113 : decode cX11_shelve 113 = .ok (.ireturn, 1) := by decide +kernel
theorem dJ7_fill_53178_0 : decode cJ7_fill_53178 0 = .ok (.iconst 0, 1) := by decide +kernel
theorem dJ7_fill_53178_1 : decode cJ7_fill_53178 1 = .ok (.istore_n 2, 1) := by decide +kernel
theorem dJ7_fill_53178_2 : decode cJ7_fill_53178 2 = .ok (.aload_n 0, 1) := by decide +kernel
theorem dJ7_fill_53178_3 : decode cJ7_fill_53178 3 = .ok (.arraylength, 1) := by decide +kernel
theorem dJ7_fill_53178_4 : decode cJ7_fill_53178 4 = .ok (.istore_n 3, 1) := by decide +kernel
theorem dJ7_fill_53178_5 : decode cJ7_fill_53178 5 = .ok (.iload_n 2, 1) := by decide +kernel
theorem dJ7_fill_53178_6 : decode cJ7_fill_53178 6 = .ok (.iload_n 3, 1) := by decide +kernel
theorem dJ7_fill_53178_7 : decode cJ7_fill_53178 7 = .ok (.if_icmp .ge 13, 3) := by decide +kernel
theorem dJ7_fill_53178_10 : decode cJ7_fill_53178 10 = .ok (.aload_n 0, 1) := by decide +kernel
theorem dJ7_fill_53178_11 : decode cJ7_fill_53178 11 = .ok (.iload_n 2, 1) := by decide +kernel
theorem dJ7_fill_53178_12 : decode cJ7_fill_53178 12 = .ok (.iload_n 1, 1) := by decide +kernel
theorem dJ7_fill_53178_13 : decode cJ7_fill_53178 13 = .ok (.iastore, 1) := by decide +kernel
theorem dJ7_fill_53178_14 : decode cJ7_fill_53178 14 = .ok (.iinc 2 1, 3) := by decide +kernel
theorem dJ7_fill_53178_17 : decode cJ7_fill_53178 17 = .ok (.goto (-12), 3) := by decide +kernel
theorem dJ7_fill_53178_20 : decode cJ7_fill_53178 20 = .ok (.return_, 1) := by decide +kernel
theorem inn_X11_shelve_11 : ∀ w ∈ u_ws RX11 TX11 12, w ∈ wsX11_shelve := fun w h => List.mem_cons_of_mem _ (List.mem_append_left _ (List.mem_append_right _ h))
theorem inn_X11_shelve_3 : ∀ w ∈ u_ws RX3 TX3 5, w ∈ wsX11_shelve := fun w h => List.mem_cons_of_mem _ (List.mem_append_left _ (List.mem_append_left _ (List.mem_append_right _ h)))
theorem inn_X3_putWord_3 : ∀ w ∈ u_ws RX3 TX3 5, w ∈ wsX3_putWord := fun w h => List.mem_cons_of_mem _ (List.mem_append_right _ h)
