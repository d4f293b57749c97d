set_option maxRecDepth 20000 in
theorem ggX12_lot_X12_within : GoodIn wsX12_lot wsX12_within := goodIn_r _ [11] (by decide +kernel) (by decide +kernel)
set_option maxRecDepth 20000 in
theorem gX12_lot_X12_within : GoodIn wsX12_lot (va_wsS RX12 168 yX12_within wsX12_within) := goodIn_app (goodIn_of _ (by decide +kernel)) ggX12_lot_X12_within
theorem dX12_lot_0 : decode cX12_lot 0 = .ok (.aload_n 0, 1) := by decide +kernel
theorem dX12_lot_1 : decode cX12_lot 1 = .ok (.iconst 0, 1) := by decide +kernel
theorem dX12_lot_2 : decode cX12_lot 2 = .ok (.putfield 161, 3) := by decide +kernel
theorem dX12_lot_5 : decode cX12_lot 5 = .ok (.aload_n 0, 1) := by decide +kernel
theorem dX12_lot_6 : decode cX12_lot 6 = .ok (.getfield 165, 3) := by decide +kernel
theorem dX12_lot_9 : decode cX12_lot 9 = .ok (.bipush 10, 2) := by decide +kernel
theorem dX12_lot_11 : decode cX12_lot 11 = .ok (.if_icmp .eq 49, 3) := by decide +kernel
theorem dX12_lot_14 : decode cX12_lot 14 = .ok (.iload_n 1, 1) := by decide +kernel
theorem dX12_lot_15 : decode cX12_lot 15 = .ok (.iconst 1, 1) := by decide +kernel
theorem dX12_lot_16 : decode cX12_lot 16 = .ok (.bipush 60, 2) := by decide +kernel
theorem dX12_lot_18 : decode cX12_lot 18 = .ok (.invokestatic 168, 3) := by decide +kernel
theorem dX12_lot_21 : decode cX12_lot 21 = .ok (.ifCond .eq 39, 3) := by decide +kernel
theorem dX12_lot_24 : decode cX12_lot 24 = .ok (.iload_n 3, 1) := by decide +kernel
theorem dX12_lot_25 : decode cX12_lot 25 = .ok (.bipush 20, 2) := by decide +kernel
theorem dX12_lot_27 : decode cX12_lot 27 = .ok (.bipush 60, 2) := by decide +kernel
theorem dX12_lot_29 : decode cX12_lot 29 = .ok (.invokestatic 168, 3) := by decide +kernel
theorem dX12_lot_32 : decode cX12_lot 32 = .ok (.ifCond .eq 28, 3) := by decide +kernel
theorem dX12_lot_35 : decode cX12_lot 35 = .ok (.iload 4, 2) := by decide +kernel
theorem dX12_lot_37 : decode cX12_lot 37 = .ok (.bipush 40, 2) := by decide +kernel
theorem dX12_lot_39 : decode cX12_lot 39 = .ok (.sipush 200, 3) := by decide +kernel
theorem dX12_lot_42 : decode cX12_lot 42 = .ok (.invokestatic 168, 3) := by decide +kernel
theorem dX12_lot_45 : decode cX12_lot 45 = .ok (.ifCond .eq 15, 3) := by decide +kernel
theorem dX12_lot_48 : decode cX12_lot 48 = .ok (.iload 5, 2) := by decide +kernel
theorem dX12_lot_50 : decode cX12_lot 50 = .ok (.iconst 0, 1) := by decide +kernel
theorem dX12_lot_51 : decode cX12_lot 51 = .ok (.sipush 200, 3) := by decide +kernel
theorem dX12_lot_54 : decode cX12_lot 54 = .ok (.invokestatic 168, 3) := by decide +kernel
theorem dX12_lot_57 : decode cX12_lot 57 = .ok (.ifCond .ne 5, 3) := by decide +kernel
theorem dX12_lot_60 : decode cX12_lot 60 = .ok (.iconst (-1), 1) := by decide +kernel
theorem dX12_lot_61 : decode cX12_lot 61 = .ok (.ireturn, 1) := by decide +kernel
theorem dX12_lot_62 : decode cX12_lot 62 = .ok (.aload_n 0, 1) := by decide +kernel
theorem dX12_lot_63 : decode cX12_lot 63 = .ok (.getfield 7, 3) := by decide +kernel
theorem dX12_lot_66 : decode cX12_lot 66 = .ok (.aload_n 0, 1) := by decide +kernel
theorem dX12_lot_67 : decode cX12_lot 67 = .ok (.getfield 165, 3) := by decide +kernel
theorem dX12_lot_70 : decode cX12_lot 70 = .ok (.iload_n 1, 1) := by decide +kernel
theorem dX12_lot_71 : decode cX12_lot 71 = .ok (.iastore, 1) := by decide +kernel
theorem dX12_lot_72 : decode cX12_lot 72 = .ok (.aload_n 0, 1) := by decide +kernel
theorem dX12_lot_73 : decode cX12_lot 73 = .ok (.getfield 13, 3) := by decide +kernel
theorem dX12_lot_76 : decode cX12_lot 76 = .ok (.aload_n 0, 1) := by decide +kernel
theorem dX12_lot_77 : decode cX12_lot 77 = .ok (.getfield 165, 3) := by decide +kernel
theorem dX12_lot_80 : decode cX12_lot 80 = .ok (.iload_n 2, 1) := by decide +kernel
theorem dX12_lot_81 : decode cX12_lot 81 = .ok (.iastore, 1) := by decide +kernel
theorem dX12_lot_82 : decode cX12_lot 82 = .ok (.aload_n 0, 1) := by decide +kernel
theorem dX12_lot_83 : decode cX12_lot 83 = .ok (.getfield 16, 3) := by decide +kernel
theorem dX12_lot_86 : decode cX12_lot 86 = .ok (.aload_n 0, 1) := by decide +kernel
theorem dX12_lot_87 : decode cX12_lot 87 = .ok (.getfield 165, 3) := by decide +kernel
theorem dX12_lot_90 : decode cX12_lot 90 = .ok (.iload_n 3, 1) := by decide +kernel
theorem dX12_lot_91 : decode cX12_lot 91 = .ok (.iastore, 1) := by decide +kernel
theorem dX12_lot_92 : decode cX12_lot 92 = .ok (.aload_n 0, 1) := by decide +kernel
theorem dX12_lot_93 : decode cX12_lot 93 = .ok (.getfield 19, 3) := by decide +kernel
theorem dX12_lot_96 : decode cX12_lot 96 = .ok (.aload_n 0, 1) := by decide +kernel
theorem dX12_lot_97 : decode cX12_lot 97 = .ok (.getfield 165, 3) := by decide +kernel
theorem dX12_lot_100 : decode cX12_lot 100 = .ok (.iload 4, 2) := by decide +kernel
theorem dX12_lot_102 : decode cX12_lot 102 = .ok (.iastore, 1) := by decide +kernel
theorem dX12_lot_103 : decode cX12_lot 103 = .ok (.aload_n 0, 1) := by decide +kernel
theorem dX12_lot_104 : decode cX12_lot 104 = .ok (.getfield 22, 3) := by decide +kernel
theorem dX12_lot_107 : decode cX12_lot 107 = .ok (.aload_n 0, 1) := by decide +kernel
theorem dX12_lot_108 : decode cX12_lot 108 = .ok (.getfield 165, 3) := by decide +kernel
theorem dX12_lot_111 : decode cX12_lot 111 = .ok (.iload 5, 2) := by decide +kernel
theorem dX12_lot_113 : decode cX12_lot 113 = .ok (.iastore, 1) := by decide +kernel
theorem dX12_lot_114 : decode cX12_lot 114 = .ok (.aload_n 0, 1) := by decide +kernel
theorem dX12_lot_115 : decode cX12_lot 115 = .ok (.dup, 1) := by decide +kernel
theorem dX12_lot_116 : decode cX12_lot 116 = .ok (.getfield 165, 3) := by decide +kernel
theorem dX12_lot_119 : decode cX12_lot 119 = .ok (.iconst 1, 1) := by decide +kernel
theorem dX12_lot_120 : decode cX12_lot 120 = .ok (.iadd, 1) := by decide +kernel
theorem dX12_lot_121 : decode cX12_lot 121 = .ok (.putfield 165, 3) := by decide +kernel
theorem dX12_lot_124 : decode cX12_lot 124 = .ok (.aload_n 0, 1) := by decide +kernel
theorem dX12_lot_125 : decode cX12_lot 125 = .ok (.getfield 165, 3) := by decide +kernel
theorem dX12_lot_128 : decode cX12_lot 128 = .ok (.iconst 1, 1) := by decide +kernel
theorem dX12_lot_129 : decode cX12_lot 129 = .ok (.isub, 1) := by decide +kernel
theorem dX12_lot_130 : decode cX12_lot 130 = .ok (.ireturn, 1) := by decide +kernel
set_option maxRecDepth 20000 in
theorem ggX12_pot_X12_within : GoodIn wsX12_pot wsX12_within := goodIn_r _ [8] (by decide +kernel) (by decide +kernel)
set_option maxRecDepth 20000 in
theorem gX12_pot_X12_within : GoodIn wsX12_pot (va_wsS RX12 168 yX12_within wsX12_within) := goodIn_app (goodIn_of _ (by decide +kernel)) ggX12_pot_X12_within
theorem dX12_pot_0 : decode cX12_pot 0 = .ok (.aload_n 0, 1) := by decide +kernel
theorem dX12_pot_1 : decode cX12_pot 1 = .ok (.iconst 0, 1) := by decide +kernel
theorem dX12_pot_2 : decode cX12_pot 2 = .ok (.putfield 161, 3) := by decide +kernel
theorem dX12_pot_5 : decode cX12_pot 5 = .ok (.aload_n 0, 1) := by decide +kernel
theorem dX12_pot_6 : decode cX12_pot 6 = .ok (.getfield 197, 3) := by decide +kernel
theorem dX12_pot_9 : decode cX12_pot 9 = .ok (.iconst 4, 1) := by decide +kernel
theorem dX12_pot_10 : decode cX12_pot 10 = .ok (.if_icmp .eq 25, 3) := by decide +kernel
theorem dX12_pot_13 : decode cX12_pot 13 = .ok (.iload_n 1, 1) := by decide +kernel
theorem dX12_pot_14 : decode cX12_pot 14 = .ok (.bipush 10, 2) := by decide +kernel
theorem dX12_pot_16 : decode cX12_pot 16 = .ok (.sipush 2000, 3) := by decide +kernel
theorem dX12_pot_19 : decode cX12_pot 19 = .ok (.invokestatic 168, 3) := by decide +kernel
theorem dX12_pot_22 : decode cX12_pot 22 = .ok (.ifCond .eq 13, 3) := by decide +kernel
theorem dX12_pot_25 : decode cX12_pot 25 = .ok (.iload_n 2, 1) := by decide +kernel
theorem dX12_pot_26 : decode cX12_pot 26 = .ok (.iconst 1, 1) := by decide +kernel
theorem dX12_pot_27 : decode cX12_pot 27 = .ok (.bipush 50, 2) := by decide +kernel
theorem dX12_pot_29 : decode cX12_pot 29 = .ok (.invokestatic 168, 3) := by decide +kernel
theorem dX12_pot_32 : decode cX12_pot 32 = .ok (.ifCond .ne 5, 3) := by decide +kernel
theorem dX12_pot_35 : decode cX12_pot 35 = .ok (.iconst (-1), 1) := by decide +kernel
theorem dX12_pot_36 : decode cX12_pot 36 = .ok (.ireturn, 1) := by decide +kernel
theorem dX12_pot_37 : decode cX12_pot 37 = .ok (.aload_n 0, 1) := by decide +kernel
theorem dX12_pot_38 : decode cX12_pot 38 = .ok (.getfield 37, 3) := by decide +kernel
theorem dX12_pot_41 : decode cX12_pot 41 = .ok (.aload_n 0, 1) := by decide +kernel
theorem dX12_pot_42 : decode cX12_pot 42 = .ok (.getfield 197, 3) := by decide +kernel
theorem dX12_pot_45 : decode cX12_pot 45 = .ok (.iload_n 1, 1) := by decide +kernel
theorem dX12_pot_46 : decode cX12_pot 46 = .ok (.iastore, 1) := by decide +kernel
theorem dX12_pot_47 : decode cX12_pot 47 = .ok (.aload_n 0, 1) := by decide +kernel
theorem dX12_pot_48 : decode cX12_pot 48 = .ok (.getfield 40, 3) := by decide +kernel
theorem dX12_pot_51 : decode cX12_pot 51 = .ok (.aload_n 0, 1) := by decide +kernel
theorem dX12_pot_52 : decode cX12_pot 52 = .ok (.getfield 197, 3) := by decide +kernel
theorem dX12_pot_55 : decode cX12_pot 55 = .ok (.iload_n 2, 1) := by decide +kernel
theorem dX12_pot_56 : decode cX12_pot 56 = .ok (.iastore, 1) := by decide +kernel
theorem dX12_pot_57 : decode cX12_pot 57 = .ok (.aload_n 0, 1) := by decide +kernel
theorem dX12_pot_58 : decode cX12_pot 58 = .ok (.dup, 1) := by decide +kernel
theorem dX12_pot_59 : decode cX12_pot 59 = .ok (.getfield 197, 3) := by decide +kernel
theorem dX12_pot_62 : decode cX12_pot 62 = .ok (.iconst 1, 1) := by decide +kernel
theorem dX12_pot_63 : decode cX12_pot 63 = .ok (.iadd, 1) := by decide +kernel
theorem dX12_pot_64 : decode cX12_pot 64 = .ok (.putfield 197, 3) := by decide +kernel
theorem dX12_pot_67 : decode cX12_pot 67 = .ok (.aload_n 0, 1) := by decide +kernel
theorem dX12_pot_68 : decode cX12_pot 68 = .ok (.getfield 197, 3) := by decide +kernel
theorem dX12_pot_71 : decode cX12_pot 71 = .ok (.iconst 1, 1) := by decide +kernel
theorem dX12_pot_72 : decode cX12_pot 72 = .ok (.isub, 1) := by decide +kernel
theorem dX12_pot_73 : decode cX12_pot 73 = .ok (.ireturn, 1) := by decide +kernel
set_option maxRecDepth 20000 in
theorem ggX12_take_X12_within : GoodIn wsX12_take wsX12_within := goodIn_r _ [11] (by decide +kernel) (by decide +kernel)
set_option maxRecDepth 20000 in
theorem gX12_take_X12_within : GoodIn wsX12_take (va_wsS RX12 168 yX12_within wsX12_within) := goodIn_app (goodIn_of _ (by decide +kernel)) ggX12_take_X12_within
theorem dX12_take_0 : decode cX12_take 0 = .ok (.aload_n 0, 1) := by decide +kernel
theorem dX12_take_1 : decode cX12_take 1 = .ok (.iconst 0, 1) := by decide +kernel
theorem dX12_take_2 : decode cX12_take 2 = .ok (.putfield 161, 3) := by decide +kernel
theorem dX12_take_5 : decode cX12_take 5 = .ok (.iload_n 1, 1) := by decide +kernel
theorem dX12_take_6 : decode cX12_take 6 = .ok (.iconst 0, 1) := by decide +kernel
theorem dX12_take_7 : decode cX12_take 7 = .ok (.bipush 15, 2) := by decide +kernel
theorem dX12_take_9 : decode cX12_take 9 = .ok (.invokestatic 168, 3) := by decide +kernel
theorem dX12_take_12 : decode cX12_take 12 = .ok (.ifCond .eq 12, 3) := by decide +kernel
theorem dX12_take_15 : decode cX12_take 15 = .ok (.iload_n 2, 1) := by decide +kernel
theorem dX12_take_16 : decode cX12_take 16 = .ok (.iconst 0, 1) := by decide +kernel
theorem dX12_take_17 : decode cX12_take 17 = .ok (.iconst 2, 1) := by decide +kernel
theorem dX12_take_18 : decode cX12_take 18 = .ok (.invokestatic 168, 3) := by decide +kernel
theorem dX12_take_21 : decode cX12_take 21 = .ok (.ifCond .ne 5, 3) := by decide +kernel
theorem dX12_take_24 : decode cX12_take 24 = .ok (.iconst (-1), 1) := by decide +kernel
theorem dX12_take_25 : decode cX12_take 25 = .ok (.ireturn, 1) := by decide +kernel
theorem dX12_take_26 : decode cX12_take 26 = .ok (.aload_n 0, 1) := by decide +kernel
theorem dX12_take_27 : decode cX12_take 27 = .ok (.getfield 125, 3) := by decide +kernel
theorem dX12_take_30 : decode cX12_take 30 = .ok (.iload_n 1, 1) := by decide +kernel
theorem dX12_take_31 : decode cX12_take 31 = .ok (.baload, 1) := by decide +kernel
theorem dX12_take_32 : decode cX12_take 32 = .ok (.ifCond .ne 6, 3) := by decide +kernel
theorem dX12_take_35 : decode cX12_take 35 = .ok (.bipush (-2), 2) := by decide +kernel
theorem dX12_take_37 : decode cX12_take 37 = .ok (.ireturn, 1) := by decide +kernel
set_option maxRecDepth 20000 in
theorem ggX12_copy_X12_isWord : GoodIn wsX12_copy wsX12_isWord := goodIn_r _ [9, 10, 11, 2, 12, 13, 8, 14, 15, 16, 17, 18, 19, 20, 21, 22, 23, 24, 25, 26, 27, 28, 29, 30, 31, 32, 33, 34, 35, 36, 37, 38, 39, 40, 41, 42, 43, 44, 45, 46, 47, 48, 49, 50, 51, 52, 53, 54, 55, 56, 57, 58, 59, 60, 61, 62, 63, 64, 65, 66, 67, 68, 69, 70, 71, 72, 73, 74, 75, 76, 77, 78, 79, 80] (by decide +kernel) (by decide +kernel)
set_option maxRecDepth 20000 in
theorem gX12_copy_X12_isWord : GoodIn wsX12_copy (wsV RX12 400 RX12 yX12_isWord wsX12_isWord) := goodIn_app (goodIn_of _ (by decide +kernel)) ggX12_copy_X12_isWord
theorem dX12_copy_0 : decode cX12_copy 0 = .ok (.aload_n 0, 1) := by decide +kernel
theorem dX12_copy_1 : decode cX12_copy 1 = .ok (.iconst 0, 1) := by decide +kernel
theorem dX12_copy_2 : decode cX12_copy 2 = .ok (.putfield 161, 3) := by decide +kernel
theorem dX12_copy_5 : decode cX12_copy 5 = .ok (.aload_n 0, 1) := by decide +kernel
theorem dX12_copy_6 : decode cX12_copy 6 = .ok (.iload_n 1, 1) := by decide +kernel
theorem dX12_copy_7 : decode cX12_copy 7 = .ok (.invokevirtual 400, 3) := by decide +kernel
theorem dX12_copy_10 : decode cX12_copy 10 = .ok (.ifCond .eq 25, 3) := by decide +kernel
theorem dX12_copy_35 : decode cX12_copy 35 = .ok (.iconst 0, 1) := by decide +kernel
theorem dX12_copy_36 : decode cX12_copy 36 = .ok (.ireturn, 1) := by decide +kernel
set_option maxRecDepth 20000 in
theorem ggX12_number__X12_isWord : GoodIn wsX12_number_ wsX12_isWord := goodIn_r _ [8, 9, 10, 2, 11, 12, 7, 13, 14, 15, 16, 17, 18, 19, 20, 21, 22, 23, 24, 25, 26, 27, 28, 29, 30, 31, 32, 33, 34, 35, 36, 37, 38, 39, 40, 41, 42, 43, 44, 45, 46, 47, 48, 49, 50, 51, 52, 53, 54, 55, 56, 57, 58, 59, 60, 61, 62, 63, 64, 65, 66, 67, 68, 69, 70, 71, 72, 73, 74, 75, 76, 77, 78, 79] (by decide +kernel) (by decide +kernel)
set_option maxRecDepth 20000 in
theorem gX12_number__X12_isWord : GoodIn wsX12_number_ (wsV RX12 400 RX12 yX12_isWord wsX12_isWord) := goodIn_app (goodIn_of _ (by decide +kernel)) ggX12_number__X12_isWord
theorem dX12_number__0 : decode cX12_number_ 0 = .ok (.aload_n 0, 1) := by decide +kernel
theorem dX12_number__1 : decode cX12_number_ 1 = .ok (.iconst 0, 1) := by decide +kernel
theorem dX12_number__2 : decode cX12_number_ 2 = .ok (.putfield 161, 3) := by decide +kernel
theorem dX12_number__5 : decode cX12_number_ 5 = .ok (.aload_n 0, 1) := by decide +kernel
theorem dX12_number__6 : decode cX12_number_ 6 = .ok (.iload_n 1, 1) := by decide +kernel
theorem dX12_number__7 : decode cX12_number_ 7 = .ok (.invokevirtual 400, 3) := by decide +kernel
theorem dX12_number__10 : decode cX12_number_ 10 = .ok (.ifCond .eq 33, 3) := by decide +kernel
theorem dX12_number__43 : decode cX12_number_ 43 = .ok (.iconst (-1), 1) := by decide +kernel
theorem dX12_number__44 : decode cX12_number_ 44 = .ok (.ireturn, 1) := by decide +kernel
theorem inn_X12_copy_12 : ∀ w ∈ u_ws RX12 TX12 66, w ∈ wsX12_copy := fun w h => List.mem_cons_of_mem _ (List.mem_append_right _ h)
theorem inn_X12_lot_12 : ∀ w ∈ u_ws RX12 TX12 66, w ∈ wsX12_lot := fun w h => List.mem_cons_of_mem _ (List.mem_append_right _ h)
theorem inn_X12_number__12 : ∀ w ∈ u_ws RX12 TX12 66, w ∈ wsX12_number_ := fun w h => List.mem_cons_of_mem _ (List.mem_append_right _ h)
theorem inn_X12_pot_12 : ∀ w ∈ u_ws RX12 TX12 66, w ∈ wsX12_pot := fun w h => List.mem_cons_of_mem _ (List.mem_append_right _ h)
theorem inn_X12_take_12 : ∀ w ∈ u_ws RX12 TX12 66, w ∈ wsX12_take := fun w h => List.mem_cons_of_mem _ (List.mem_append_right _ h)
