set_option maxRecDepth 20000 in
theorem ggX12_lot_X12_within : GoodIn wsX12_lot wsX12_within := goodIn_r _ [11] (by decide +kernel) (by decide +kernel)
set_option maxRecDepth 20000 in
theorem gX12_lot_X12_within : GoodIn wsX12_lot (va_wsS RX12 168 yX12_within wsX12_within) := goodIn_app (goodIn_of _ (by decide +kernel)) ggX12_lot_X12_within
theorem dX12_lot_0 : decode cX12_lot 0 = .ok (.aload_n 0, 1) := by decide +kernel
theorem dX12_lot_1 : decode cX12_lot 1 = .ok (.iconst 0, 1) := by decide +kernel
theorem dX12_lot_2 : decode cX12_lot 2 = .ok (.putfield 161, 3) := by decide +kernel
theorem dX12_lot_5 : decode cX12_lot 5 = .ok (.aload_n 0, 1) := by decide +kernel
theorem dX12_lot_6 : decode cX12_lot 6 = .ok (.getfield 165, 3) := by decide +kernel
theorem dX12_lot_9 : decode cX12_lot 9 = .ok (.bipush 10, 2) := by decide +kernel
theorem dX12_lot_11 : decode cX12_lot 11 = .ok (.if_icmp .eq 49, 3) := by decide +kernel
theorem dX12_lot_14 : decode cX12_lot 14 = .ok (.iload_n 1, 1) := by decide +kernel
theorem dX12_lot_15 : decode cX12_lot 15 = .ok (.iconst 1, 1) := by decide +kernel
theorem dX12_lot_16 : decode cX12_lot 16 = .ok (.bipush 60, 2) := by decide +kernel
theorem dX12_lot_18 : decode cX12_lot 18 = .ok (.invokestatic 168, 3) := by decide +kernel
theorem dX12_lot_21 : decode cX12_lot 21 = .ok (.ifCond .eq 39, 3) := by decide +kernel
theorem dX12_lot_24 : decode cX12_lot 24 = .ok (.iload_n 3, 1) := by decide +kernel
theorem dX12_lot_25 : decode cX12_lot 25 = .ok (.bipush 20, 2) := by decide +kernel
theorem dX12_lot_27 : decode cX12_lot 27 = .ok (.bipush 60, 2) := by decide +kernel
theorem dX12_lot_29 : decode cX12_lot 29 = .ok (.invokestatic 168, 3) := by decide +kernel
theorem dX12_lot_32 : decode cX12_lot 32 = .ok (.ifCond .eq 28, 3) := by decide +kernel
theorem dX12_lot_35 : decode cX12_lot 35 = .ok (.iload 4, 2) := by decide +kernel
theorem dX12_lot_37 : decode cX12_lot 37 = .ok (.bipush 40, 2) := by decide +kernel
theorem dX12_lot_39 : decode cX12_lot 39 = .ok (.sipush 200, 3) := by decide +kernel
theorem dX12_lot_42 : decode cX12_lot 42 = .ok (.invokestatic 168, 3) := by decide +kernel
theorem dX12_lot_45 : decode cX12_lot 45 = .ok (.ifCond .eq 15, 3) := by decide +kernel
theorem dX12_lot_48 : decode cX12_lot 48 = .ok (.iload 5, 2) := by decide +kernel
theorem dX12_lot_50 : decode cX12_lot 50 = .ok (.iconst 0, 1) := by decide +kernel
theorem dX12_lot_51 : decode cX12_lot 51 = .ok (.sipush 200, 3) := by decide +kernel
theorem dX12_lot_54 : decode cX12_lot 54 = .ok (.invokestatic 168, 3) := by decide +kernel
theorem dX12_lot_57 : decode cX12_lot 57 = .ok (.ifCond .ne 5, 3) := by decide +kernel
theorem dX12_lot_60 : decode cX12_lot 60 = .ok (.iconst (-1), 1) := by decide +kernel
theorem dX12_lot_61 : decode cX12_lot 61 = .ok (.ireturn, 1) := by decide +kernel
theorem dX12_lot_62 : decode cX12_lot 62 = .ok (.aload_n 0, 1) := by decide +kernel
theorem dX12_lot_63 : decode cX12_lot 63 = .ok (.getfield 7, 3) := by decide +kernel
theorem dX12_lot_66 : decode cX12_lot 66 = .ok (.aload_n 0, 1) := by decide +kernel
theorem dX12_lot_67 : decode cX12_lot 67 = .ok (.getfield 165, 3) := by decide +kernel
theorem dX12_lot_70 : decode cX12_lot 70 = .ok (.iload_n 1, 1) := by decide +kernel
theorem dX12_lot_71 : decode cX12_lot 71 = .ok (.iastore, 1) := by decide +kernel
theorem dX12_lot_72 : decode cX12_lot 72 = .ok (.aload_n 0, 1) := by decide +kernel
theorem dX12_lot_73 : decode cX12_lot 73 = .ok (.getfield 13, 3) := by decide +kernel
theorem dX12_lot_76 : decode cX12_lot 76 = .ok (.aload_n 0, 1) := by decide +kernel
theorem dX12_lot_77 : decode cX12_lot 77 = .ok (.getfield 165, 3) := by decide +kernel
theorem dX12_lot_80 : decode cX12_lot 80 = .ok (.iload_n 2, 1) := by decide +kernel
theorem dX12_lot_81 : decode cX12_lot 81 = .ok (.iastore, 1) := by decide +kernel
theorem dX12_lot_82 : decode cX12_lot 82 = .ok (.aload_n 0, 1) := by decide +kernel
theorem dX12_lot_83 : decode cX12_lot 83 = .ok (.getfield 16, 3) := by decide +kernel
theorem dX12_lot_86 : decode cX12_lot 86 = .ok (.aload_n 0, 1) := by decide +kernel
theorem dX12_lot_87 : decode cX12_lot 87 = .ok (.getfield 165, 3) := by decide +kernel
theorem dX12_lot_90 : decode cX12_lot 90 = .ok (.iload_n 3, 1) := by decide +kernel
theorem dX12_lot_91 : decode cX12_lot 91 = .ok (.iastore, 1) := by decide +kernel
theorem dX12_lot_92 : decode cX12_lot 92 = .ok (.aload_n 0, 1) := by decide +kernel
theorem dX12_lot_93 : decode cX12_lot 93 = .ok (.getfield 19, 3) := by decide +kernel
theorem dX12_lot_96 : decode cX12_lot 96 = .ok (.aload_n 0, 1) := by decide +kernel
theorem dX12_lot_97 : decode cX12_lot 97 = .ok (.getfield 165, 3) := by decide +kernel
theorem dX12_lot_100 : decode cX12_lot 100 = .ok (.iload 4, 2) := by decide +kernel
theorem dX12_lot_102 : decode cX12_lot 102 = .ok (.iastore, 1) := by decide +kernel
theorem dX12_lot_103 : decode cX12_lot 103 = .ok (.aload_n 0, 1) := by decide +kernel
theorem dX12_lot_104 : decode cX12_lot 104 = .ok (.getfield 22, 3) := by decide +kernel
theorem dX12_lot_107 : decode cX12_lot 107 = .ok (.aload_n 0, 1) := by decide +kernel
theorem dX12_lot_108 : decode cX12_lot 108 = .ok (.getfield 165, 3) := by decide +kernel
theorem dX12_lot_111 : decode cX12_lot 111 = .ok (.iload 5, 2) := by decide +kernel
theorem dX12_lot_113 : decode cX12_lot 113 = .ok (.iastore, 1) := by decide +kernel
theorem dX12_lot_114 : decode cX12_lot 114 = .ok (.aload_n 0, 1) := by decide +kernel
theorem dX12_lot_115 : decode cX12_lot 115 = .ok (.dup, 1) := by decide +kernel
theorem dX12_lot_116 : decode cX12_lot 116 = .ok (.getfield 165, 3) := by decide +kernel
theorem dX12_lot_119 : decode cX12_lot 119 = .ok (.iconst 1, 1) := by decide +kernel
theorem dX12_lot_120 : decode cX12_lot 120 = .ok (.iadd, 1) := by decide +kernel
theorem dX12_lot_121 : decode cX12_lot 121 = .ok (.putfield 165, 3) := by decide +kernel
theorem dX12_lot_124 : decode cX12_lot 124 = .ok (.aload_n 0, 1) := by decide +kernel
theorem dX12_lot_125 : decode cX12_lot 125 = .ok (.getfield 165, 3) := by decide +kernel
theorem dX12_lot_128 : decode cX12_lot 128 = .ok (.iconst 1, 1) := by decide +kernel
theorem dX12_lot_129 : decode cX12_lot 129 = .ok (.isub, 1) := by decide +kernel
theorem dX12_lot_130 : decode cX12_lot 130 = .ok (.ireturn, 1) := by decide +kernel
theorem inn_X12_lot_12 : ∀ w ∈ u_ws RX12 TX12 66, w ∈ wsX12_lot := fun w h => List.mem_cons_of_mem _ (List.mem_append_right _ h)
