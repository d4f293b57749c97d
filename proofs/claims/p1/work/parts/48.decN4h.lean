set_option maxRecDepth 20000 in
theorem ggX0_init_X11_next : GoodIn wsX0_init wsX11_next := goodIn_r _ [18, 19] (by decide +kernel) (by decide +kernel)
set_option maxRecDepth 20000 in
theorem gX0_init_X11_next_n30 : GoodIn wsX0_init (wsX11_next) := ggX0_init_X11_next
theorem dX0_init_0 : decode cX0_init 0 = .ok (.aload_n 0, 1) := by decide +kernel
theorem dX0_init_1 : decode cX0_init 1 = .ok (.invokespecial 3, 3) := by decide +kernel
theorem dX0_init_4 : decode cX0_init 4 = .ok (.aload_n 0, 1) := by decide +kernel
theorem dX0_init_5 : decode cX0_init 5 = .ok (.iconst 0, 1) := by decide +kernel
theorem dX0_init_6 : decode cX0_init 6 = .ok (.putfield 9, 3) := by decide +kernel
theorem dX0_init_9 : decode cX0_init 9 = .ok (.aload_n 0, 1) := by decide +kernel
theorem dX0_init_10 : decode cX0_init 10 = .ok (.iconst (-1), 1) := by decide +kernel
theorem dX0_init_11 : decode cX0_init 11 = .ok (.putfield 15, 3) := by decide +kernel
theorem dX0_init_14 : decode cX0_init 14 = .ok (.aload_n 0, 1) := by decide +kernel
theorem dX0_init_15 : decode cX0_init 15 = .ok (.iload_n 1, 1) := by decide +kernel
theorem dX0_init_16 : decode cX0_init 16 = .ok (.putfield 18, 3) := by decide +kernel
theorem dX0_init_19 : decode cX0_init 19 = .ok (.aload_n 0, 1) := by decide +kernel
theorem dX0_init_20 : decode cX0_init 20 = .ok (.iload_n 2, 1) := by decide +kernel
theorem dX0_init_21 : decode cX0_init 21 = .ok (.putfield 21, 3) := by decide +kernel
theorem dX0_init_24 : decode cX0_init 24 = .ok (.aload_n 0, 1) := by decide +kernel
theorem dX0_init_25 : decode cX0_init 25 = .ok (.iload_n 3, 1) := by decide +kernel
theorem dX0_init_26 : decode cX0_init 26 = .ok (.putfield 24, 3) := by decide +kernel
theorem dX0_init_29 : decode cX0_init 29 = .ok (.aload_n 0, 1) := by decide +kernel
theorem dX0_init_30 : decode cX0_init 30 = .ok (.iload 6, 2) := by decide +kernel
theorem dX0_init_32 : decode cX0_init 32 = .ok (.putfield 27, 3) := by decide +kernel
theorem dX0_init_35 : decode cX0_init 35 = .ok (.iload_n 3, 1) := by decide +kernel
theorem dX0_init_36 : decode cX0_init 36 = .ok (.sipush 7919, 3) := by decide +kernel
theorem dX0_init_39 : decode cX0_init 39 = .ok (.iload_n 2, 1) := by decide +kernel
theorem dX0_init_40 : decode cX0_init 40 = .ok (.imul, 1) := by decide +kernel
theorem dX0_init_41 : decode cX0_init 41 = .ok (.iadd, 1) := by decide +kernel
theorem dX0_init_42 : decode cX0_init 42 = .ok (.invokestatic 30, 3) := by decide +kernel
theorem dX0_init_45 : decode cX0_init 45 = .ok (.istore 7, 2) := by decide +kernel
theorem dX0_init_47 : decode cX0_init 47 = .ok (.aload_n 0, 1) := by decide +kernel
theorem dX0_init_48 : decode cX0_init 48 = .ok (.bipush 20, 2) := by decide +kernel
theorem dX0_init_50 : decode cX0_init 50 = .ok (.iload 5, 2) := by decide +kernel
theorem dX0_init_52 : decode cX0_init 52 = .ok (.iload 7, 2) := by decide +kernel
theorem dX0_init_54 : decode cX0_init 54 = .ok (.bipush 16, 2) := by decide +kernel
theorem dX0_init_56 : decode cX0_init 56 = .ok (.iushr, 1) := by decide +kernel
theorem dX0_init_57 : decode cX0_init 57 = .ok (.bipush 41, 2) := by decide +kernel
theorem dX0_init_59 : decode cX0_init 59 = .ok (.irem, 1) := by decide +kernel
theorem dX0_init_60 : decode cX0_init 60 = .ok (.iadd, 1) := by decide +kernel
theorem dX0_init_61 : decode cX0_init 61 = .ok (.bipush 20, 2) := by decide +kernel
theorem dX0_init_63 : decode cX0_init 63 = .ok (.isub, 1) := by decide +kernel
theorem dX0_init_64 : decode cX0_init 64 = .ok (.invokestatic 34, 3) := by decide +kernel
theorem dX0_init_67 : decode cX0_init 67 = .ok (.putfield 40, 3) := by decide +kernel
theorem dX0_init_70 : decode cX0_init 70 = .ok (.iload 7, 2) := by decide +kernel
theorem dX0_init_72 : decode cX0_init 72 = .ok (.invokestatic 30, 3) := by decide +kernel
theorem dX0_init_75 : decode cX0_init 75 = .ok (.istore 7, 2) := by decide +kernel
theorem dX0_init_77 : decode cX0_init 77 = .ok (.aload_n 0, 1) := by decide +kernel
theorem dX0_init_78 : decode cX0_init 78 = .ok (.iload 4, 2) := by decide +kernel
theorem dX0_init_80 : decode cX0_init 80 = .ok (.iload 7, 2) := by decide +kernel
theorem dX0_init_82 : decode cX0_init 82 = .ok (.bipush 16, 2) := by decide +kernel
theorem dX0_init_84 : decode cX0_init 84 = .ok (.iushr, 1) := by decide +kernel
theorem dX0_init_85 : decode cX0_init 85 = .ok (.bipush 9, 2) := by decide +kernel
theorem dX0_init_87 : decode cX0_init 87 = .ok (.irem, 1) := by decide +kernel
theorem dX0_init_88 : decode cX0_init 88 = .ok (.iadd, 1) := by decide +kernel
theorem dX0_init_89 : decode cX0_init 89 = .ok (.iconst 4, 1) := by decide +kernel
theorem dX0_init_90 : decode cX0_init 90 = .ok (.isub, 1) := by decide +kernel
theorem dX0_init_91 : decode cX0_init 91 = .ok (.putfield 43, 3) := by decide +kernel
theorem dX0_init_94 : decode cX0_init 94 = .ok (.return_, 1) := by decide +kernel
set_option maxRecDepth 20000 in
theorem ggX11_lot_X11_isWithin : GoodIn wsX11_lot wsX11_isWithin := goodIn_r _ [10] (by decide +kernel) (by decide +kernel)
set_option maxRecDepth 20000 in
theorem gX11_lot_X11_isWithin : GoodIn wsX11_lot (va_wsS RX11 67 yX11_isWithin wsX11_isWithin) := goodIn_app (goodIn_of _ (by decide +kernel)) ggX11_lot_X11_isWithin
set_option maxRecDepth 20000 in
theorem ggX11_lot_X0_init : GoodIn wsX11_lot wsX0_init := goodIn_r _ [13, 14, 15, 16, 17, 18, 19, 20, 21, 22, 23, 24, 25, 26, 27, 28, 29, 9, 30, 31, 44, 45, 46, 47, 48, 49, 50, 51, 52, 53] (by decide +kernel) (by decide +kernel)
set_option maxRecDepth 20000 in
theorem gX11_lot_X0_init : GoodIn wsX11_lot (wsX0_init) := ggX11_lot_X0_init
theorem dX11_lot_0 : decode cX11_lot 0 = .ok (.aload_n 0, 1) := by decide +kernel
theorem dX11_lot_1 : decode cX11_lot 1 = .ok (.getfield 63, 3) := by decide +kernel
theorem dX11_lot_4 : decode cX11_lot 4 = .ok (.bipush 10, 2) := by decide +kernel
theorem dX11_lot_6 : decode cX11_lot 6 = .ok (.if_icmp .ge 49, 3) := by decide +kernel
theorem dX11_lot_9 : decode cX11_lot 9 = .ok (.iload_n 1, 1) := by decide +kernel
theorem dX11_lot_10 : decode cX11_lot 10 = .ok (.iconst 1, 1) := by decide +kernel
theorem dX11_lot_11 : decode cX11_lot 11 = .ok (.bipush 60, 2) := by decide +kernel
theorem dX11_lot_13 : decode cX11_lot 13 = .ok (.invokestatic 67, 3) := by decide +kernel
theorem dX11_lot_16 : decode cX11_lot 16 = .ok (.ifCond .eq 39, 3) := by decide +kernel
theorem dX11_lot_19 : decode cX11_lot 19 = .ok (.iload_n 3, 1) := by decide +kernel
theorem dX11_lot_20 : decode cX11_lot 20 = .ok (.bipush 20, 2) := by decide +kernel
theorem dX11_lot_22 : decode cX11_lot 22 = .ok (.bipush 60, 2) := by decide +kernel
theorem dX11_lot_24 : decode cX11_lot 24 = .ok (.invokestatic 67, 3) := by decide +kernel
theorem dX11_lot_27 : decode cX11_lot 27 = .ok (.ifCond .eq 28, 3) := by decide +kernel
theorem dX11_lot_30 : decode cX11_lot 30 = .ok (.iload 4, 2) := by decide +kernel
theorem dX11_lot_32 : decode cX11_lot 32 = .ok (.bipush 40, 2) := by decide +kernel
theorem dX11_lot_34 : decode cX11_lot 34 = .ok (.sipush 200, 3) := by decide +kernel
theorem dX11_lot_37 : decode cX11_lot 37 = .ok (.invokestatic 67, 3) := by decide +kernel
theorem dX11_lot_40 : decode cX11_lot 40 = .ok (.ifCond .eq 15, 3) := by decide +kernel
theorem dX11_lot_43 : decode cX11_lot 43 = .ok (.iload 5, 2) := by decide +kernel
theorem dX11_lot_45 : decode cX11_lot 45 = .ok (.iconst 0, 1) := by decide +kernel
theorem dX11_lot_46 : decode cX11_lot 46 = .ok (.sipush 200, 3) := by decide +kernel
theorem dX11_lot_49 : decode cX11_lot 49 = .ok (.invokestatic 67, 3) := by decide +kernel
theorem dX11_lot_52 : decode cX11_lot 52 = .ok (.ifCond .ne 5, 3) := by decide +kernel
theorem dX11_lot_55 : decode cX11_lot 55 = .ok (.iconst (-1), 1) := by decide +kernel
theorem dX11_lot_56 : decode cX11_lot 56 = .ok (.ireturn, 1) := by decide +kernel
theorem dX11_lot_57 : decode cX11_lot 57 = .ok (.iconst 0, 1) := by decide +kernel
theorem dX11_lot_58 : decode cX11_lot 58 = .ok (.istore 6, 2) := by decide +kernel
theorem dX11_lot_60 : decode cX11_lot 60 = .ok (.iload 6, 2) := by decide +kernel
theorem dX11_lot_62 : decode cX11_lot 62 = .ok (.iload_n 1, 1) := by decide +kernel
theorem dX11_lot_63 : decode cX11_lot 63 = .ok (.if_icmp .ge 43, 3) := by decide +kernel
theorem dX11_lot_66 : decode cX11_lot 66 = .ok (.aload_n 0, 1) := by decide +kernel
theorem dX11_lot_67 : decode cX11_lot 67 = .ok (.getfield 11, 3) := by decide +kernel
theorem dX11_lot_70 : decode cX11_lot 70 = .ok (.aload_n 0, 1) := by decide +kernel
theorem dX11_lot_71 : decode cX11_lot 71 = .ok (.getfield 63, 3) := by decide +kernel
theorem dX11_lot_74 : decode cX11_lot 74 = .ok (.bipush 60, 2) := by decide +kernel
theorem dX11_lot_76 : decode cX11_lot 76 = .ok (.imul, 1) := by decide +kernel
theorem dX11_lot_77 : decode cX11_lot 77 = .ok (.iload 6, 2) := by decide +kernel
theorem dX11_lot_79 : decode cX11_lot 79 = .ok (.iadd, 1) := by decide +kernel
theorem dX11_lot_80 : decode cX11_lot 80 = .ok (.new 9, 3) := by decide +kernel
theorem dX11_lot_83 : decode cX11_lot 83 = .ok (.dup, 1) := by decide +kernel
theorem dX11_lot_84 : decode cX11_lot 84 = .ok (.aload_n 0, 1) := by decide +kernel
theorem dX11_lot_85 : decode cX11_lot 85 = .ok (.getfield 63, 3) := by decide +kernel
theorem dX11_lot_88 : decode cX11_lot 88 = .ok (.iload 6, 2) := by decide +kernel
theorem dX11_lot_90 : decode cX11_lot 90 = .ok (.iload_n 2, 1) := by decide +kernel
theorem dX11_lot_91 : decode cX11_lot 91 = .ok (.iload_n 3, 1) := by decide +kernel
theorem dX11_lot_92 : decode cX11_lot 92 = .ok (.iload 4, 2) := by decide +kernel
theorem dX11_lot_94 : decode cX11_lot 94 = .ok (.iload 5, 2) := by decide +kernel
theorem dX11_lot_96 : decode cX11_lot 96 = .ok (.invokespecial 71, 3) := by decide +kernel
theorem dX11_lot_99 : decode cX11_lot 99 = .ok (.aastore, 1) := by decide +kernel
theorem dX11_lot_100 : decode cX11_lot 100 = .ok (.iinc 6 1, 3) := by decide +kernel
theorem dX11_lot_103 : decode cX11_lot 103 = .ok (.goto (-43), 3) := by decide +kernel
theorem dX11_lot_106 : decode cX11_lot 106 = .ok (.aload_n 0, 1) := by decide +kernel
theorem dX11_lot_107 : decode cX11_lot 107 = .ok (.getfield 15, 3) := by decide +kernel
theorem dX11_lot_110 : decode cX11_lot 110 = .ok (.aload_n 0, 1) := by decide +kernel
theorem dX11_lot_111 : decode cX11_lot 111 = .ok (.getfield 63, 3) := by decide +kernel
theorem dX11_lot_114 : decode cX11_lot 114 = .ok (.iload_n 1, 1) := by decide +kernel
theorem dX11_lot_115 : decode cX11_lot 115 = .ok (.iastore, 1) := by decide +kernel
theorem dX11_lot_116 : decode cX11_lot 116 = .ok (.aload_n 0, 1) := by decide +kernel
theorem dX11_lot_117 : decode cX11_lot 117 = .ok (.dup, 1) := by decide +kernel
theorem dX11_lot_118 : decode cX11_lot 118 = .ok (.getfield 63, 3) := by decide +kernel
theorem dX11_lot_121 : decode cX11_lot 121 = .ok (.iconst 1, 1) := by decide +kernel
theorem dX11_lot_122 : decode cX11_lot 122 = .ok (.iadd, 1) := by decide +kernel
theorem dX11_lot_123 : decode cX11_lot 123 = .ok (.putfield 63, 3) := by decide +kernel
theorem dX11_lot_126 : decode cX11_lot 126 = .ok (.aload_n 0, 1) := by decide +kernel
theorem dX11_lot_127 : decode cX11_lot 127 = .ok (.getfield 63, 3) := by decide +kernel
theorem dX11_lot_130 : decode cX11_lot 130 = .ok (.iconst 1, 1) := by decide +kernel
theorem dX11_lot_131 : decode cX11_lot 131 = .ok (.isub, 1) := by decide +kernel
theorem dX11_lot_132 : decode cX11_lot 132 = .ok (.ireturn, 1) := by decide +kernel
theorem dX11_next_0 : decode cX11_next 0 = .ok (.iload_n 0, 1) := by decide +kernel
theorem dX11_next_1 : decode cX11_next 1 = .ok (.ldc_w 380, 3) := by decide +kernel
theorem dX11_next_4 : decode cX11_next 4 = .ok (.imul, 1) := by decide +kernel
theorem dX11_next_5 : decode cX11_next 5 = .ok (.sipush 12345, 3) := by decide +kernel
theorem dX11_next_8 : decode cX11_next 8 = .ok (.iadd, 1) := by decide +kernel
theorem dX11_next_9 : decode cX11_next 9 = .ok (.ireturn, 1) := by decide +kernel
theorem inn_X0_init_0 : ∀ w ∈ u_ws RX0 TX0 10, w ∈ wsX0_init := fun w h => List.mem_cons_of_mem _ (List.mem_append_right _ h)
theorem inn_X11_lot_0 : ∀ w ∈ u_ws RX0 TX0 10, w ∈ wsX11_lot := fun w h => List.mem_cons_of_mem _ (List.mem_append_right _ h)
theorem inn_X11_lot_11 : ∀ w ∈ u_ws RX11 TX11 12, w ∈ wsX11_lot := fun w h => List.mem_cons_of_mem _ (List.mem_append_left _ (List.mem_append_right _ h))
