set_option maxRecDepth 20000 in
theorem ggX0_init_X11_next : GoodIn wsX0_init wsX11_next := goodIn_r _ [18, 19] (by decide +kernel) (by decide +kernel)
set_option maxRecDepth 20000 in
theorem gX0_init_X11_next_n30 : GoodIn wsX0_init (wsX11_next) := ggX0_init_X11_next
theorem dX0_init_0 : decode cX0_init 0 = .ok (.aload_n 0, 1) := by decide +kernel
theorem dX0_init_1 : decode cX0_init 1 = .ok (.invokespecial 3, 3) := by decide +kernel
theorem dX0_init_4 : decode cX0_init 4 = .ok (.aload_n 0, 1) := by decide +kernel
theorem dX0_init_5 : decode cX0_init 5 = .ok (.iconst 0, 1) := by decide +kernel
theorem dX0_init_6 : decode cX0_init 6 = .ok (.putfield 9, 3) := by decide +kernel
theorem dX0_init_9 : decode cX0_init 9 = .ok (.aload_n 0, 1) := by decide +kernel
theorem dX0_init_10 : decode cX0_init 10 = .ok (.iconst (-1), 1) := by decide +kernel
theorem dX0_init_11 : decode cX0_init 11 = .ok (.putfield 15, 3) := by decide +kernel
theorem dX0_init_14 : decode cX0_init 14 = .ok (.aload_n 0, 1) := by decide +kernel
theorem dX0_init_15 : decode cX0_init 15 = .ok (.iload_n 1, 1) := by decide +kernel
theorem dX0_init_16 : decode cX0_init 16 = .ok (.putfield 18, 3) := by decide +kernel
theorem dX0_init_19 : decode cX0_init 19 = .ok (.aload_n 0, 1) := by decide +kernel
theorem dX0_init_20 : decode cX0_init 20 = .ok (.iload_n 2, 1) := by decide +kernel
theorem dX0_init_21 : decode cX0_init 21 = .ok (.putfield 21, 3) := by decide +kernel
theorem dX0_init_24 : decode cX0_init 24 = .ok (.aload_n 0, 1) := by decide +kernel
theorem dX0_init_25 : decode cX0_init 25 = .ok (.iload_n 3, 1) := by decide +kernel
theorem dX0_init_26 : decode cX0_init 26 = .ok (.putfield 24, 3) := by decide +kernel
theorem dX0_init_29 : decode cX0_init 29 = .ok (.aload_n 0, 1) := by decide +kernel
theorem dX0_init_30 : decode cX0_init 30 = .ok (.iload 6, 2) := by decide +kernel
theorem dX0_init_32 : decode cX0_init 32 = .ok (.putfield 27, 3) := by decide +kernel
theorem dX0_init_35 : decode cX0_init 35 = .ok (.iload_n 3, 1) := by decide +kernel
theorem dX0_init_36 : decode cX0_init 36 = .ok (.sipush 7919, 3) := by decide +kernel
theorem dX0_init_39 : decode cX0_init 39 = .ok (.iload_n 2, 1) := by decide +kernel
theorem dX0_init_40 : decode cX0_init 40 = .ok (.imul, 1) := by decide +kernel
theorem dX0_init_41 : decode cX0_init 41 = .ok (.iadd, 1) := by decide +kernel
theorem dX0_init_42 : decode cX0_init 42 = .ok (.invokestatic 30, 3) := by decide +kernel
theorem dX0_init_45 : decode cX0_init 45 = .ok (.istore 7, 2) := by decide +kernel
theorem dX0_init_47 : decode cX0_init 47 = .ok (.aload_n 0, 1) := by decide +kernel
theorem dX0_init_48 : decode cX0_init 48 = .ok (.bipush 20, 2) := by decide +kernel
theorem dX0_init_50 : decode cX0_init 50 = .ok (.iload 5, 2) := by decide +kernel
theorem dX0_init_52 : decode cX0_init 52 = .ok (.iload 7, 2) := by decide +kernel
theorem dX0_init_54 : decode cX0_init 54 = .ok (.bipush 16, 2) := by decide +kernel
theorem dX0_init_56 : decode cX0_init 56 = .ok (.iushr, 1) := by decide +kernel
theorem dX0_init_57 : decode cX0_init 57 = .ok (.bipush 41, 2) := by decide +kernel
theorem dX0_init_59 : decode cX0_init 59 = .ok (.irem, 1) := by decide +kernel
theorem dX0_init_60 : decode cX0_init 60 = .ok (.iadd, 1) := by decide +kernel
theorem dX0_init_61 : decode cX0_init 61 = .ok (.bipush 20, 2) := by decide +kernel
theorem dX0_init_63 : decode cX0_init 63 = .ok (.isub, 1) := by decide +kernel
theorem dX0_init_64 : decode cX0_init 64 = .ok (.invokestatic 34, 3) := by decide +kernel
theorem dX0_init_67 : decode cX0_init 67 = .ok (.putfield 40, 3) := by decide +kernel
theorem dX0_init_70 : decode cX0_init 70 = .ok (.iload 7, 2) := by decide +kernel
theorem dX0_init_72 : decode cX0_init 72 = .ok (.invokestatic 30, 3) := by decide +kernel
theorem dX0_init_75 : decode cX0_init 75 = .ok (.istore 7, 2) := by decide +kernel
theorem dX0_init_77 : decode cX0_init 77 = .ok (.aload_n 0, 1) := by decide +kernel
theorem dX0_init_78 : decode cX0_init 78 = .ok (.iload 4, 2) := by decide +kernel
theorem dX0_init_80 : decode cX0_init 80 = .ok (.iload 7, 2) := by decide +kernel
theorem dX0_init_82 : decode cX0_init 82 = .ok (.bipush 16, 2) := by decide +kernel
theorem dX0_init_84 : decode cX0_init 84 = .ok (.iushr, 1) := by decide +kernel
theorem dX0_init_85 : decode cX0_init 85 = .ok (.bipush 9, 2) := by decide +kernel
theorem dX0_init_87 : decode cX0_init 87 = .ok (.irem, 1) := by decide +kernel
theorem dX0_init_88 : decode cX0_init 88 = .ok (.iadd, 1) := by decide +kernel
theorem dX0_init_89 : decode cX0_init 89 = .ok (.iconst 4, 1) := by decide +kernel
theorem dX0_init_90 : decode cX0_init 90 = .ok (.isub, 1) := by decide +kernel
theorem dX0_init_91 : decode cX0_init 91 = .ok (.putfield 43, 3) := by decide +kernel
theorem dX0_init_94 : decode cX0_init 94 = .ok (.return_, 1) := by decide +kernel
theorem dX2_beginFor_0 : decode cX2_beginFor 0 = .ok (.aload_n 0, 1) := by decide +kernel
theorem dX2_beginFor_1 : decode cX2_beginFor 1 = .ok (.iconst 0, 1) := by decide +kernel
theorem dX2_beginFor_2 : decode cX2_beginFor 2 = .ok (.putfield 21, 3) := by decide +kernel
theorem dX2_beginFor_5 : decode cX2_beginFor 5 = .ok (.aload_n 0, 1) := by decide +kernel
theorem dX2_beginFor_6 : decode cX2_beginFor 6 = .ok (.iconst 0, 1) := by decide +kernel
theorem dX2_beginFor_7 : decode cX2_beginFor 7 = .ok (.putfield 25, 3) := by decide +kernel
theorem dX2_beginFor_10 : decode cX2_beginFor 10 = .ok (.aload_n 0, 1) := by decide +kernel
theorem dX2_beginFor_11 : decode cX2_beginFor 11 = .ok (.iload_n 1, 1) := by decide +kernel
theorem dX2_beginFor_12 : decode cX2_beginFor 12 = .ok (.putfield 28, 3) := by decide +kernel
theorem dX2_beginFor_15 : decode cX2_beginFor 15 = .ok (.aload_n 0, 1) := by decide +kernel
theorem dX2_beginFor_16 : decode cX2_beginFor 16 = .ok (.ldc 33, 2) := by decide +kernel
theorem dX2_beginFor_18 : decode cX2_beginFor 18 = .ok (.putfield 34, 3) := by decide +kernel
theorem dX2_beginFor_21 : decode cX2_beginFor 21 = .ok (.aload_n 0, 1) := by decide +kernel
theorem dX2_beginFor_22 : decode cX2_beginFor 22 = .ok (.iconst 0, 1) := by decide +kernel
theorem dX2_beginFor_23 : decode cX2_beginFor 23 = .ok (.putfield 37, 3) := by decide +kernel
theorem dX2_beginFor_26 : decode cX2_beginFor 26 = .ok (.return_, 1) := by decide +kernel
set_option maxRecDepth 20000 in
theorem ggX2_leastPrice_X2_seek : GoodIn wsX2_leastPrice wsX2_seek := goodIn_r _ [7, 8, 3, 9, 2, 10, 11, 4, 5, 6, 12, 13, 14, 15, 16, 17, 18, 19] (by decide +kernel) (by decide +kernel)
set_option maxRecDepth 20000 in
theorem gX2_leastPrice_X2_seek : GoodIn wsX2_leastPrice (va_wsS RX2 40 yX2_seek wsX2_seek) := goodIn_app (goodIn_of _ (by decide +kernel)) ggX2_leastPrice_X2_seek
theorem dX2_leastPrice_0 : decode cX2_leastPrice 0 = .ok (.aload_n 0, 1) := by decide +kernel
theorem dX2_leastPrice_1 : decode cX2_leastPrice 1 = .ok (.iconst 0, 1) := by decide +kernel
theorem dX2_leastPrice_2 : decode cX2_leastPrice 2 = .ok (.iconst 0, 1) := by decide +kernel
theorem dX2_leastPrice_3 : decode cX2_leastPrice 3 = .ok (.aload_n 0, 1) := by decide +kernel
theorem dX2_leastPrice_4 : decode cX2_leastPrice 4 = .ok (.getfield 25, 3) := by decide +kernel
theorem dX2_leastPrice_7 : decode cX2_leastPrice 7 = .ok (.iconst 0, 1) := by decide +kernel
theorem dX2_leastPrice_8 : decode cX2_leastPrice 8 = .ok (.invokestatic 40, 3) := by decide +kernel
theorem dX2_leastPrice_11 : decode cX2_leastPrice 11 = .ok (.aload_n 0, 1) := by decide +kernel
theorem dX2_leastPrice_12 : decode cX2_leastPrice 12 = .ok (.getfield 37, 3) := by decide +kernel
theorem dX2_leastPrice_15 : decode cX2_leastPrice 15 = .ok (.ifCond .ne 7, 3) := by decide +kernel
theorem dX2_leastPrice_18 : decode cX2_leastPrice 18 = .ok (.iconst (-1), 1) := by decide +kernel
theorem dX2_leastPrice_19 : decode cX2_leastPrice 19 = .ok (.goto 7, 3) := by decide +kernel
theorem dX2_leastPrice_26 : decode cX2_leastPrice 26 = .ok (.ireturn, 1) := by decide +kernel
theorem dX2_seek_0 : decode cX2_seek 0 = .ok (.iload_n 3, 1) := by decide +kernel
theorem dX2_seek_1 : decode cX2_seek 1 = .ok (.aload_n 0, 1) := by decide +kernel
theorem dX2_seek_2 : decode cX2_seek 2 = .ok (.getfield 28, 3) := by decide +kernel
theorem dX2_seek_5 : decode cX2_seek 5 = .ok (.if_icmp .lt 12, 3) := by decide +kernel
theorem dX2_seek_17 : decode cX2_seek 17 = .ok (.return_, 1) := by decide +kernel
theorem dX3_hasRow_0 : decode cX3_hasRow 0 = .ok (.aload_n 0, 1) := by decide +kernel
theorem dX3_hasRow_1 : decode cX3_hasRow 1 = .ok (.getfield 9, 3) := by decide +kernel
theorem dX3_hasRow_4 : decode cX3_hasRow 4 = .ok (.iconst 2, 1) := by decide +kernel
theorem dX3_hasRow_5 : decode cX3_hasRow 5 = .ok (.if_icmp .ne 14, 3) := by decide +kernel
theorem dX3_hasRow_19 : decode cX3_hasRow 19 = .ok (.iconst 0, 1) := by decide +kernel
theorem dX3_hasRow_20 : decode cX3_hasRow 20 = .ok (.ireturn, 1) := by decide +kernel
theorem dX3_putCocoon_0 : decode cX3_putCocoon 0 = .ok (.aload_n 1, 1) := by decide +kernel
theorem dX3_putCocoon_1 : decode cX3_putCocoon 1 = .ok (.ifnull 10, 3) := by decide +kernel
theorem dX3_putCocoon_11 : decode cX3_putCocoon 11 = .ok (.iconst 0, 1) := by decide +kernel
theorem dX3_putCocoon_12 : decode cX3_putCocoon 12 = .ok (.ireturn, 1) := by decide +kernel
theorem dX3_putNumber_0 : decode cX3_putNumber 0 = .ok (.aload_n 0, 1) := by decide +kernel
theorem dX3_putNumber_1 : decode cX3_putNumber 1 = .ok (.iload_n 1, 1) := by decide +kernel
theorem dX3_putNumber_2 : decode cX3_putNumber 2 = .ok (.putfield 31, 3) := by decide +kernel
theorem dX3_putNumber_5 : decode cX3_putNumber 5 = .ok (.aload_n 0, 1) := by decide +kernel
theorem dX3_putNumber_6 : decode cX3_putNumber 6 = .ok (.iconst 1, 1) := by decide +kernel
theorem dX3_putNumber_7 : decode cX3_putNumber 7 = .ok (.putfield 9, 3) := by decide +kernel
theorem dX3_putNumber_10 : decode cX3_putNumber 10 = .ok (.iconst 1, 1) := by decide +kernel
theorem dX3_putNumber_11 : decode cX3_putNumber 11 = .ok (.ireturn, 1) := by decide +kernel
set_option maxRecDepth 20000 in
theorem ggX3_putWord_X11_isWithin : GoodIn wsX3_putWord wsX11_isWithin := goodIn_r _ [6] (by decide +kernel) (by decide +kernel)
set_option maxRecDepth 20000 in
theorem gX3_putWord_X11_isWithin_n34 : GoodIn wsX3_putWord (wsX11_isWithin) := ggX3_putWord_X11_isWithin
set_option maxRecDepth 20000 in
theorem ggX3_putWord_J7_fill_53178 : GoodIn wsX3_putWord wsJ7_fill_53178 := goodIn_r _ [10] (by decide +kernel) (by decide +kernel)
set_option maxRecDepth 20000 in
theorem gX3_putWord_J7_fill_53178 : GoodIn wsX3_putWord (va_wsS RX3 38 yJ7_fill_53178 wsJ7_fill_53178) := goodIn_app (goodIn_of _ (by decide +kernel)) ggX3_putWord_J7_fill_53178
theorem dX3_putWord_0 : decode cX3_putWord 0 = .ok (.iload_n 1, 1) := by decide +kernel
theorem dX3_putWord_1 : decode cX3_putWord 1 = .ok (.iconst 0, 1) := by decide +kernel
theorem dX3_putWord_2 : decode cX3_putWord 2 = .ok (.bipush 8, 2) := by decide +kernel
theorem dX3_putWord_4 : decode cX3_putWord 4 = .ok (.invokestatic 34, 3) := by decide +kernel
theorem dX3_putWord_7 : decode cX3_putWord 7 = .ok (.ifCond .ne 5, 3) := by decide +kernel
theorem dX3_putWord_10 : decode cX3_putWord 10 = .ok (.iconst 0, 1) := by decide +kernel
theorem dX3_putWord_11 : decode cX3_putWord 11 = .ok (.ireturn, 1) := by decide +kernel
theorem dX3_putWord_12 : decode cX3_putWord 12 = .ok (.aload_n 0, 1) := by decide +kernel
theorem dX3_putWord_13 : decode cX3_putWord 13 = .ok (.getfield 15, 3) := by decide +kernel
theorem dX3_putWord_16 : decode cX3_putWord 16 = .ok (.iload_n 2, 1) := by decide +kernel
theorem dX3_putWord_17 : decode cX3_putWord 17 = .ok (.invokestatic 38, 3) := by decide +kernel
theorem dX3_putWord_20 : decode cX3_putWord 20 = .ok (.aload_n 0, 1) := by decide +kernel
theorem dX3_putWord_21 : decode cX3_putWord 21 = .ok (.iload_n 1, 1) := by decide +kernel
theorem dX3_putWord_22 : decode cX3_putWord 22 = .ok (.putfield 19, 3) := by decide +kernel
theorem dX3_putWord_25 : decode cX3_putWord 25 = .ok (.aload_n 0, 1) := by decide +kernel
theorem dX3_putWord_26 : decode cX3_putWord 26 = .ok (.iconst 2, 1) := by decide +kernel
theorem dX3_putWord_27 : decode cX3_putWord 27 = .ok (.putfield 9, 3) := by decide +kernel
theorem dX3_putWord_30 : decode cX3_putWord 30 = .ok (.iconst 1, 1) := by decide +kernel
theorem dX3_putWord_31 : decode cX3_putWord 31 = .ok (.ireturn, 1) := by decide +kernel
set_option maxRecDepth 20000 in
theorem ggX8_mixFor_X2_beginFor : GoodIn wsX8_mixFor wsX2_beginFor := goodIn_r _ [12, 13, 14, 15, 16, 17, 18, 89, 90, 91, 92, 93, 94, 95, 96] (by decide +kernel) (by decide +kernel)
set_option maxRecDepth 20000 in
theorem gX8_mixFor_X2_beginFor : GoodIn wsX8_mixFor (wsV RX8 72 RX2 yX2_beginFor wsX2_beginFor) := goodIn_app (goodIn_of _ (by decide +kernel)) ggX8_mixFor_X2_beginFor
set_option maxRecDepth 20000 in
theorem ggX8_mixFor_X2_leastPrice : GoodIn wsX8_mixFor wsX2_leastPrice := goodIn_r _ [44, 14, 18, 17, 45, 46, 11, 47, 15, 13, 40, 39, 89, 90, 91, 92, 93, 94, 95, 96] (by decide +kernel) (by decide +kernel)
set_option maxRecDepth 20000 in
theorem gX8_mixFor_X2_leastPrice : GoodIn wsX8_mixFor (wsV RX8 98 RX2 yX2_leastPrice wsX2_leastPrice) := goodIn_app (goodIn_of _ (by decide +kernel)) ggX8_mixFor_X2_leastPrice
theorem dX8_mixFor_0 : decode cX8_mixFor 0 = .ok (.aload_n 0, 1) := by decide +kernel
theorem dX8_mixFor_1 : decode cX8_mixFor 1 = .ok (.getfield 33, 3) := by decide +kernel
theorem dX8_mixFor_4 : decode cX8_mixFor 4 = .ok (.iload_n 1, 1) := by decide +kernel
theorem dX8_mixFor_5 : decode cX8_mixFor 5 = .ok (.invokevirtual 72, 3) := by decide +kernel
theorem dX8_mixFor_8 : decode cX8_mixFor 8 = .ok (.iconst 0, 1) := by decide +kernel
theorem dX8_mixFor_9 : decode cX8_mixFor 9 = .ok (.istore 5, 2) := by decide +kernel
theorem dX8_mixFor_11 : decode cX8_mixFor 11 = .ok (.iload 5, 2) := by decide +kernel
theorem dX8_mixFor_13 : decode cX8_mixFor 13 = .ok (.aload_n 0, 1) := by decide +kernel
theorem dX8_mixFor_14 : decode cX8_mixFor 14 = .ok (.getfield 37, 3) := by decide +kernel
theorem dX8_mixFor_17 : decode cX8_mixFor 17 = .ok (.if_icmp .ge 71, 3) := by decide +kernel
theorem dX8_mixFor_88 : decode cX8_mixFor 88 = .ok (.aload_n 0, 1) := by decide +kernel
theorem dX8_mixFor_89 : decode cX8_mixFor 89 = .ok (.getfield 33, 3) := by decide +kernel
theorem dX8_mixFor_92 : decode cX8_mixFor 92 = .ok (.invokevirtual 98, 3) := by decide +kernel
theorem dX8_mixFor_95 : decode cX8_mixFor 95 = .ok (.istore 5, 2) := by decide +kernel
theorem dX8_mixFor_97 : decode cX8_mixFor 97 = .ok (.iload 5, 2) := by decide +kernel
theorem dX8_mixFor_99 : decode cX8_mixFor 99 = .ok (.iconst (-1), 1) := by decide +kernel
theorem dX8_mixFor_100 : decode cX8_mixFor 100 = .ok (.if_icmp .eq 9, 3) := by decide +kernel
theorem dX8_mixFor_109 : decode cX8_mixFor 109 = .ok (.iload 5, 2) := by decide +kernel
theorem dX8_mixFor_111 : decode cX8_mixFor 111 = .ok (.ireturn, 1) := by decide +kernel
theorem dX10_append_0 : decode cX10_append 0 = .ok (.aload_n 0, 1) := by decide +kernel
theorem dX10_append_1 : decode cX10_append 1 = .ok (.getfield 19, 3) := by decide +kernel
theorem dX10_append_4 : decode cX10_append 4 = .ok (.iconst 4, 1) := by decide +kernel
theorem dX10_append_5 : decode cX10_append 5 = .ok (.iadd, 1) := by decide +kernel
theorem dX10_append_6 : decode cX10_append 6 = .ok (.sipush 400, 3) := by decide +kernel
theorem dX10_append_9 : decode cX10_append 9 = .ok (.if_icmp .gt 72, 3) := by decide +kernel
theorem dX10_append_12 : decode cX10_append 12 = .ok (.aload_n 0, 1) := by decide +kernel
theorem dX10_append_13 : decode cX10_append 13 = .ok (.getfield 15, 3) := by decide +kernel
theorem dX10_append_16 : decode cX10_append 16 = .ok (.aload_n 0, 1) := by decide +kernel
theorem dX10_append_17 : decode cX10_append 17 = .ok (.getfield 19, 3) := by decide +kernel
theorem dX10_append_20 : decode cX10_append 20 = .ok (.iload_n 1, 1) := by decide +kernel
theorem dX10_append_21 : decode cX10_append 21 = .ok (.bipush 24, 2) := by decide +kernel
theorem dX10_append_23 : decode cX10_append 23 = .ok (.iushr, 1) := by decide +kernel
theorem dX10_append_24 : decode cX10_append 24 = .ok (.i2b, 1) := by decide +kernel
theorem dX10_append_25 : decode cX10_append 25 = .ok (.bastore, 1) := by decide +kernel
theorem dX10_append_26 : decode cX10_append 26 = .ok (.aload_n 0, 1) := by decide +kernel
theorem dX10_append_27 : decode cX10_append 27 = .ok (.getfield 15, 3) := by decide +kernel
theorem dX10_append_30 : decode cX10_append 30 = .ok (.aload_n 0, 1) := by decide +kernel
theorem dX10_append_31 : decode cX10_append 31 = .ok (.getfield 19, 3) := by decide +kernel
theorem dX10_append_34 : decode cX10_append 34 = .ok (.iconst 1, 1) := by decide +kernel
theorem dX10_append_35 : decode cX10_append 35 = .ok (.iadd, 1) := by decide +kernel
theorem dX10_append_36 : decode cX10_append 36 = .ok (.iload_n 1, 1) := by decide +kernel
theorem dX10_append_37 : decode cX10_append 37 = .ok (.bipush 16, 2) := by decide +kernel
theorem dX10_append_39 : decode cX10_append 39 = .ok (.iushr, 1) := by decide +kernel
theorem dX10_append_40 : decode cX10_append 40 = .ok (.i2b, 1) := by decide +kernel
theorem dX10_append_41 : decode cX10_append 41 = .ok (.bastore, 1) := by decide +kernel
theorem dX10_append_42 : decode cX10_append 42 = .ok (.aload_n 0, 1) := by decide +kernel
theorem dX10_append_43 : decode cX10_append 43 = .ok (.getfield 15, 3) := by decide +kernel
theorem dX10_append_46 : decode cX10_append 46 = .ok (.aload_n 0, 1) := by decide +kernel
theorem dX10_append_47 : decode cX10_append 47 = .ok (.getfield 19, 3) := by decide +kernel
theorem dX10_append_50 : decode cX10_append 50 = .ok (.iconst 2, 1) := by decide +kernel
theorem dX10_append_51 : decode cX10_append 51 = .ok (.iadd, 1) := by decide +kernel
theorem dX10_append_52 : decode cX10_append 52 = .ok (.iload_n 1, 1) := by decide +kernel
theorem dX10_append_53 : decode cX10_append 53 = .ok (.bipush 8, 2) := by decide +kernel
theorem dX10_append_55 : decode cX10_append 55 = .ok (.iushr, 1) := by decide +kernel
theorem dX10_append_56 : decode cX10_append 56 = .ok (.i2b, 1) := by decide +kernel
theorem dX10_append_57 : decode cX10_append 57 = .ok (.bastore, 1) := by decide +kernel
theorem dX10_append_58 : decode cX10_append 58 = .ok (.aload_n 0, 1) := by decide +kernel
theorem dX10_append_59 : decode cX10_append 59 = .ok (.getfield 15, 3) := by decide +kernel
theorem dX10_append_62 : decode cX10_append 62 = .ok (.aload_n 0, 1) := by decide +kernel
theorem dX10_append_63 : decode cX10_append 63 = .ok (.getfield 19, 3) := by decide +kernel
theorem dX10_append_66 : decode cX10_append 66 = .ok (.iconst 3, 1) := by decide +kernel
theorem dX10_append_67 : decode cX10_append 67 = .ok (.iadd, 1) := by decide +kernel
theorem dX10_append_68 : decode cX10_append 68 = .ok (.iload_n 1, 1) := by decide +kernel
theorem dX10_append_69 : decode cX10_append 69 = .ok (.i2b, 1) := by decide +kernel
theorem dX10_append_70 : decode cX10_append 70 = .ok (.bastore, 1) := by decide +kernel
theorem dX10_append_71 : decode cX10_append 71 = .ok (.aload_n 0, 1) := by decide +kernel
theorem dX10_append_72 : decode cX10_append 72 = .ok (.dup, 1) := by decide +kernel
theorem dX10_append_73 : decode cX10_append 73 = .ok (.getfield 19, 3) := by decide +kernel
theorem dX10_append_76 : decode cX10_append 76 = .ok (.iconst 4, 1) := by decide +kernel
theorem dX10_append_77 : decode cX10_append 77 = .ok (.iadd, 1) := by decide +kernel
theorem dX10_append_78 : decode cX10_append 78 = .ok (.putfield 19, 3) := by decide +kernel
theorem dX10_append_81 : decode cX10_append 81 = .ok (.return_, 1) := by decide +kernel
theorem dX10_forgetFault_0 : decode cX10_forgetFault 0 = .ok (.aload_n 0, 1) := by decide +kernel
theorem dX10_forgetFault_1 : decode cX10_forgetFault 1 = .ok (.iconst 0, 1) := by decide +kernel
theorem dX10_forgetFault_2 : decode cX10_forgetFault 2 = .ok (.putfield 22, 3) := by decide +kernel
theorem dX10_forgetFault_5 : decode cX10_forgetFault 5 = .ok (.aload_n 0, 1) := by decide +kernel
theorem dX10_forgetFault_6 : decode cX10_forgetFault 6 = .ok (.iconst (-1), 1) := by decide +kernel
theorem dX10_forgetFault_7 : decode cX10_forgetFault 7 = .ok (.putfield 9, 3) := by decide +kernel
theorem dX10_forgetFault_10 : decode cX10_forgetFault 10 = .ok (.return_, 1) := by decide +kernel
set_option maxRecDepth 20000 in
theorem ggX11_lot_X11_isWithin : GoodIn wsX11_lot wsX11_isWithin := goodIn_r _ [10] (by decide +kernel) (by decide +kernel)
set_option maxRecDepth 20000 in
theorem gX11_lot_X11_isWithin : GoodIn wsX11_lot (va_wsS RX11 67 yX11_isWithin wsX11_isWithin) := goodIn_app (goodIn_of _ (by decide +kernel)) ggX11_lot_X11_isWithin
set_option maxRecDepth 20000 in
theorem ggX11_lot_X0_init : GoodIn wsX11_lot wsX0_init := goodIn_r _ [13, 14, 15, 16, 17, 18, 19, 20, 21, 22, 23, 24, 25, 26, 27, 28, 29, 9, 30, 31, 44, 45, 46, 47, 48, 49, 50, 51, 52, 53] (by decide +kernel) (by decide +kernel)
set_option maxRecDepth 20000 in
theorem gX11_lot_X0_init : GoodIn wsX11_lot (wsX0_init) := ggX11_lot_X0_init
theorem dX11_lot_0 : decode cX11_lot 0 = .ok (.aload_n 0, 1) := by decide +kernel
theorem dX11_lot_1 : decode cX11_lot 1 = .ok (.getfield 63, 3) := by decide +kernel
theorem dX11_lot_4 : decode cX11_lot 4 = .ok (.bipush 10, 2) := by decide +kernel
theorem dX11_lot_6 : decode cX11_lot 6 = .ok (.if_icmp .ge 49, 3) := by decide +kernel
theorem dX11_lot_9 : decode cX11_lot 9 = .ok (.iload_n 1, 1) := by decide +kernel
theorem dX11_lot_10 : decode cX11_lot 10 = .ok (.iconst 1, 1) := by decide +kernel
theorem dX11_lot_11 : decode cX11_lot 11 = .ok (.bipush 60, 2) := by decide +kernel
theorem dX11_lot_13 : decode cX11_lot 13 = .ok (.invokestatic 67, 3) := by decide +kernel
theorem dX11_lot_16 : decode cX11_lot 16 = .ok (.ifCond .eq 39, 3) := by decide +kernel
theorem dX11_lot_19 : decode cX11_lot 19 = .ok (.iload_n 3, 1) := by decide +kernel
theorem dX11_lot_20 : decode cX11_lot 20 = .ok (.bipush 20, 2) := by decide +kernel
theorem dX11_lot_22 : decode cX11_lot 22 = .ok (.bipush 60, 2) := by decide +kernel
theorem dX11_lot_24 : decode cX11_lot 24 = .ok (.invokestatic 67, 3) := by decide +kernel
theorem dX11_lot_27 : decode cX11_lot 27 = .ok (.ifCond .eq 28, 3) := by decide +kernel
theorem dX11_lot_30 : decode cX11_lot 30 = .ok (.iload 4, 2) := by decide +kernel
theorem dX11_lot_32 : decode cX11_lot 32 = .ok (.bipush 40, 2) := by decide +kernel
theorem dX11_lot_34 : decode cX11_lot 34 = .ok (.sipush 200, 3) := by decide +kernel
theorem dX11_lot_37 : decode cX11_lot 37 = .ok (.invokestatic 67, 3) := by decide +kernel
theorem dX11_lot_40 : decode cX11_lot 40 = .ok (.ifCond .eq 15, 3) := by decide +kernel
theorem dX11_lot_43 : decode cX11_lot 43 = .ok (.iload 5, 2) := by decide +kernel
theorem dX11_lot_45 : decode cX11_lot 45 = .ok (.iconst 0, 1) := by decide +kernel
theorem dX11_lot_46 : decode cX11_lot 46 = .ok (.sipush 200, 3) := by decide +kernel
theorem dX11_lot_49 : decode cX11_lot 49 = .ok (.invokestatic 67, 3) := by decide +kernel
theorem dX11_lot_52 : decode cX11_lot 52 = .ok (.ifCond .ne 5, 3) := by decide +kernel
theorem dX11_lot_55 : decode cX11_lot 55 = .ok (.iconst (-1), 1) := by decide +kernel
theorem dX11_lot_56 : decode cX11_lot 56 = .ok (.ireturn, 1) := by decide +kernel
theorem dX11_lot_57 : decode cX11_lot 57 = .ok (.iconst 0, 1) := by decide +kernel
theorem dX11_lot_58 : decode cX11_lot 58 = .ok (.istore 6, 2) := by decide +kernel
theorem dX11_lot_60 : decode cX11_lot 60 = .ok (.iload 6, 2) := by decide +kernel
theorem dX11_lot_62 : decode cX11_lot 62 = .ok (.iload_n 1, 1) := by decide +kernel
theorem dX11_lot_63 : decode cX11_lot 63 = .ok (.if_icmp .ge 43, 3) := by decide +kernel
theorem dX11_lot_66 : decode cX11_lot 66 = .ok (.aload_n 0, 1) := by decide +kernel
theorem dX11_lot_67 : decode cX11_lot 67 = .ok (.getfield 11, 3) := by decide +kernel
theorem dX11_lot_70 : decode cX11_lot 70 = .ok (.aload_n 0, 1) := by decide +kernel
theorem dX11_lot_71 : decode cX11_lot 71 = .ok (.getfield 63, 3) := by decide +kernel
theorem dX11_lot_74 : decode cX11_lot 74 = .ok (.bipush 60, 2) := by decide +kernel
theorem dX11_lot_76 : decode cX11_lot 76 = .ok (.imul, 1) := by decide +kernel
theorem dX11_lot_77 : decode cX11_lot 77 = .ok (.iload 6, 2) := by decide +kernel
theorem dX11_lot_79 : decode cX11_lot 79 = .ok (.iadd, 1) := by decide +kernel
theorem dX11_lot_80 : decode cX11_lot 80 = .ok (.new 9, 3) := by decide +kernel
theorem dX11_lot_83 : decode cX11_lot 83 = .ok (.dup, 1) := by decide +kernel
theorem dX11_lot_84 : decode cX11_lot 84 = .ok (.aload_n 0, 1) := by decide +kernel
theorem dX11_lot_85 : decode cX11_lot 85 = .ok (.getfield 63, 3) := by decide +kernel
theorem dX11_lot_88 : decode cX11_lot 88 = .ok (.iload 6, 2) := by decide +kernel
theorem dX11_lot_90 : decode cX11_lot 90 = .ok (.iload_n 2, 1) := by decide +kernel
theorem dX11_lot_91 : decode cX11_lot 91 = .ok (.iload_n 3, 1) := by decide +kernel
theorem dX11_lot_92 : decode cX11_lot 92 = .ok (.iload 4, 2) := by decide +kernel
theorem dX11_lot_94 : decode cX11_lot 94 = .ok (.iload 5, 2) := by decide +kernel
theorem dX11_lot_96 : decode cX11_lot 96 = .ok (.invokespecial 71, 3) := by decide +kernel
theorem dX11_lot_99 : decode cX11_lot 99 = .ok (.aastore, 1) := by decide +kernel
theorem dX11_lot_100 : decode cX11_lot 100 = .ok (.iinc 6 1, 3) := by decide +kernel
theorem dX11_lot_103 : decode cX11_lot 103 = .ok (.goto (-43), 3) := by decide +kernel
theorem dX11_lot_106 : decode cX11_lot 106 = .ok (.aload_n 0, 1) := by decide +kernel
theorem dX11_lot_107 : decode cX11_lot 107 = .ok (.getfield 15, 3) := by decide +kernel
theorem dX11_lot_110 : decode cX11_lot 110 = .ok (.aload_n 0, 1) := by decide +kernel
theorem dX11_lot_111 : decode cX11_lot 111 = .ok (.getfield 63, 3) := by decide +kernel
theorem dX11_lot_114 : decode cX11_lot 114 = .ok (.iload_n 1, 1) := by decide +kernel
theorem dX11_lot_115 : decode cX11_lot 115 = .ok (.iastore, 1) := by decide +kernel
theorem dX11_lot_116 : decode cX11_lot 116 = .ok (.aload_n 0, 1) := by decide +kernel
theorem dX11_lot_117 : decode cX11_lot 117 = .ok (.dup, 1) := by decide +kernel
theorem dX11_lot_118 : decode cX11_lot 118 = .ok (.getfield 63, 3) := by decide +kernel
theorem dX11_lot_121 : decode cX11_lot 121 = .ok (.iconst 1, 1) := by decide +kernel
theorem dX11_lot_122 : decode cX11_lot 122 = .ok (.iadd, 1) := by decide +kernel
theorem dX11_lot_123 : decode cX11_lot 123 = .ok (.putfield 63, 3) := by decide +kernel
theorem dX11_lot_126 : decode cX11_lot 126 = .ok (.aload_n 0, 1) := by decide +kernel
theorem dX11_lot_127 : decode cX11_lot 127 = .ok (.getfield 63, 3) := by decide +kernel
theorem dX11_lot_130 : decode cX11_lot 130 = .ok (.iconst 1, 1) := by decide +kernel
theorem dX11_lot_131 : decode cX11_lot 131 = .ok (.isub, 1) := by decide +kernel
theorem dX11_lot_132 : decode cX11_lot 132 = .ok (.ireturn, 1) := by decide +kernel
set_option maxRecDepth 20000 in
theorem ggX11_pot_X11_isTarget : GoodIn wsX11_pot wsX11_isTarget := goodIn_r _ [9, 10, 11, 8, 12] (by decide +kernel) (by decide +kernel)
set_option maxRecDepth 20000 in
theorem gX11_pot_X11_isTarget : GoodIn wsX11_pot (va_wsS RX11 127 yX11_isTarget wsX11_isTarget) := goodIn_app (goodIn_of _ (by decide +kernel)) ggX11_pot_X11_isTarget
set_option maxRecDepth 20000 in
theorem ggX11_pot_X11_isWithin : GoodIn wsX11_pot wsX11_isWithin := goodIn_r _ [12] (by decide +kernel) (by decide +kernel)
set_option maxRecDepth 20000 in
theorem gX11_pot_X11_isWithin : GoodIn wsX11_pot (va_wsS RX11 67 yX11_isWithin wsX11_isWithin) := goodIn_app (goodIn_of _ (by decide +kernel)) ggX11_pot_X11_isWithin
set_option maxRecDepth 20000 in
theorem ggX11_pot_X4_init : GoodIn wsX11_pot wsX4_init := goodIn_r _ [15, 16, 17, 18, 19, 20, 21, 22, 23, 24, 25, 26, 27, 28, 29, 30, 31, 32, 33, 34, 35, 36, 37, 38, 39, 40, 41, 42, 43, 44, 45, 46, 47, 48, 49, 50, 51, 52, 53, 54, 55, 56, 57, 58, 59, 60, 61, 62, 63, 64, 65, 90, 91, 92, 78, 79, 80, 81, 82, 83, 84, 85, 86, 87, 88, 89, 93, 94, 95, 96, 97, 98, 99, 100, 101, 102, 103, 104, 105, 106, 107, 108] (by decide +kernel) (by decide +kernel)
set_option maxRecDepth 20000 in
theorem gX11_pot_X4_init : GoodIn wsX11_pot (wsX4_init) := ggX11_pot_X4_init
theorem dX11_pot_0 : decode cX11_pot 0 = .ok (.aload_n 0, 1) := by decide +kernel
theorem dX11_pot_1 : decode cX11_pot 1 = .ok (.getfield 124, 3) := by decide +kernel
theorem dX11_pot_4 : decode cX11_pot 4 = .ok (.iconst 4, 1) := by decide +kernel
theorem dX11_pot_5 : decode cX11_pot 5 = .ok (.if_icmp .ge 20, 3) := by decide +kernel
theorem dX11_pot_8 : decode cX11_pot 8 = .ok (.iload_n 1, 1) := by decide +kernel
theorem dX11_pot_9 : decode cX11_pot 9 = .ok (.invokestatic 127, 3) := by decide +kernel
theorem dX11_pot_12 : decode cX11_pot 12 = .ok (.ifCond .eq 13, 3) := by decide +kernel
theorem dX11_pot_15 : decode cX11_pot 15 = .ok (.iload_n 2, 1) := by decide +kernel
theorem dX11_pot_16 : decode cX11_pot 16 = .ok (.iconst 1, 1) := by decide +kernel
theorem dX11_pot_17 : decode cX11_pot 17 = .ok (.bipush 50, 2) := by decide +kernel
theorem dX11_pot_19 : decode cX11_pot 19 = .ok (.invokestatic 67, 3) := by decide +kernel
theorem dX11_pot_22 : decode cX11_pot 22 = .ok (.ifCond .ne 5, 3) := by decide +kernel
theorem dX11_pot_25 : decode cX11_pot 25 = .ok (.iconst (-1), 1) := by decide +kernel
theorem dX11_pot_26 : decode cX11_pot 26 = .ok (.ireturn, 1) := by decide +kernel
theorem dX11_pot_27 : decode cX11_pot 27 = .ok (.aload_n 0, 1) := by decide +kernel
theorem dX11_pot_28 : decode cX11_pot 28 = .ok (.getfield 21, 3) := by decide +kernel
theorem dX11_pot_31 : decode cX11_pot 31 = .ok (.aload_n 0, 1) := by decide +kernel
theorem dX11_pot_32 : decode cX11_pot 32 = .ok (.getfield 124, 3) := by decide +kernel
theorem dX11_pot_35 : decode cX11_pot 35 = .ok (.new 19, 3) := by decide +kernel
theorem dX11_pot_38 : decode cX11_pot 38 = .ok (.dup, 1) := by decide +kernel
theorem dX11_pot_39 : decode cX11_pot 39 = .ok (.aload_n 0, 1) := by decide +kernel
theorem dX11_pot_40 : decode cX11_pot 40 = .ok (.getfield 124, 3) := by decide +kernel
theorem dX11_pot_43 : decode cX11_pot 43 = .ok (.iload_n 1, 1) := by decide +kernel
theorem dX11_pot_44 : decode cX11_pot 44 = .ok (.iload_n 2, 1) := by decide +kernel
theorem dX11_pot_45 : decode cX11_pot 45 = .ok (.invokespecial 131, 3) := by decide +kernel
theorem dX11_pot_48 : decode cX11_pot 48 = .ok (.aastore, 1) := by decide +kernel
theorem dX11_pot_49 : decode cX11_pot 49 = .ok (.aload_n 0, 1) := by decide +kernel
theorem dX11_pot_50 : decode cX11_pot 50 = .ok (.dup, 1) := by decide +kernel
theorem dX11_pot_51 : decode cX11_pot 51 = .ok (.getfield 124, 3) := by decide +kernel
theorem dX11_pot_54 : decode cX11_pot 54 = .ok (.iconst 1, 1) := by decide +kernel
theorem dX11_pot_55 : decode cX11_pot 55 = .ok (.iadd, 1) := by decide +kernel
theorem dX11_pot_56 : decode cX11_pot 56 = .ok (.putfield 124, 3) := by decide +kernel
theorem dX11_pot_59 : decode cX11_pot 59 = .ok (.aload_n 0, 1) := by decide +kernel
theorem dX11_pot_60 : decode cX11_pot 60 = .ok (.getfield 124, 3) := by decide +kernel
theorem dX11_pot_63 : decode cX11_pot 63 = .ok (.iconst 1, 1) := by decide +kernel
theorem dX11_pot_64 : decode cX11_pot 64 = .ok (.isub, 1) := by decide +kernel
theorem dX11_pot_65 : decode cX11_pot 65 = .ok (.ireturn, 1) := by decide +kernel
set_option maxRecDepth 20000 in
theorem ggX11_feed_X10_append : GoodIn wsX11_feed wsX10_append := goodIn_r _ [7, 8, 9, 22, 23, 24, 25, 26, 27, 28] (by decide +kernel) (by decide +kernel)
set_option maxRecDepth 20000 in
theorem gX11_feed_X10_append : GoodIn wsX11_feed (wsV RX11 148 RX10 yX10_append wsX10_append) := goodIn_app (goodIn_of _ (by decide +kernel)) ggX11_feed_X10_append
theorem dX11_feed_0 : decode cX11_feed 0 = .ok (.aload_n 0, 1) := by decide +kernel
theorem dX11_feed_1 : decode cX11_feed 1 = .ok (.getfield 28, 3) := by decide +kernel
theorem dX11_feed_4 : decode cX11_feed 4 = .ok (.getfield 145, 3) := by decide +kernel
theorem dX11_feed_7 : decode cX11_feed 7 = .ok (.bipush 20, 2) := by decide +kernel
theorem dX11_feed_9 : decode cX11_feed 9 = .ok (.iadd, 1) := by decide +kernel
theorem dX11_feed_10 : decode cX11_feed 10 = .ok (.sipush 400, 3) := by decide +kernel
theorem dX11_feed_13 : decode cX11_feed 13 = .ok (.if_icmp .le 5, 3) := by decide +kernel
theorem dX11_feed_18 : decode cX11_feed 18 = .ok (.aload_n 0, 1) := by decide +kernel
theorem dX11_feed_19 : decode cX11_feed 19 = .ok (.getfield 28, 3) := by decide +kernel
theorem dX11_feed_22 : decode cX11_feed 22 = .ok (.iload_n 1, 1) := by decide +kernel
theorem dX11_feed_23 : decode cX11_feed 23 = .ok (.invokevirtual 148, 3) := by decide +kernel
theorem dX11_feed_26 : decode cX11_feed 26 = .ok (.aload_n 0, 1) := by decide +kernel
theorem dX11_feed_27 : decode cX11_feed 27 = .ok (.getfield 28, 3) := by decide +kernel
theorem dX11_feed_30 : decode cX11_feed 30 = .ok (.iload_n 2, 1) := by decide +kernel
theorem dX11_feed_31 : decode cX11_feed 31 = .ok (.invokevirtual 148, 3) := by decide +kernel
theorem dX11_feed_34 : decode cX11_feed 34 = .ok (.aload_n 0, 1) := by decide +kernel
theorem dX11_feed_35 : decode cX11_feed 35 = .ok (.getfield 28, 3) := by decide +kernel
theorem dX11_feed_38 : decode cX11_feed 38 = .ok (.iload_n 3, 1) := by decide +kernel
theorem dX11_feed_39 : decode cX11_feed 39 = .ok (.invokevirtual 148, 3) := by decide +kernel
theorem dX11_feed_42 : decode cX11_feed 42 = .ok (.aload_n 0, 1) := by decide +kernel
theorem dX11_feed_43 : decode cX11_feed 43 = .ok (.getfield 28, 3) := by decide +kernel
theorem dX11_feed_46 : decode cX11_feed 46 = .ok (.iload 4, 2) := by decide +kernel
theorem dX11_feed_48 : decode cX11_feed 48 = .ok (.invokevirtual 148, 3) := by decide +kernel
theorem dX11_feed_51 : decode cX11_feed 51 = .ok (.aload_n 0, 1) := by decide +kernel
theorem dX11_feed_52 : decode cX11_feed 52 = .ok (.getfield 28, 3) := by decide +kernel
theorem dX11_feed_55 : decode cX11_feed 55 = .ok (.iload 5, 2) := by decide +kernel
theorem dX11_feed_57 : decode cX11_feed 57 = .ok (.invokevirtual 148, 3) := by decide +kernel
theorem dX11_feed_60 : decode cX11_feed 60 = .ok (.aload_n 0, 1) := by decide +kernel
theorem dX11_feed_61 : decode cX11_feed 61 = .ok (.getfield 28, 3) := by decide +kernel
theorem dX11_feed_64 : decode cX11_feed 64 = .ok (.getfield 145, 3) := by decide +kernel
theorem dX11_feed_67 : decode cX11_feed 67 = .ok (.ireturn, 1) := by decide +kernel
theorem dX11_end_0 : decode cX11_end 0 = .ok (.iload_n 1, 1) := by decide +kernel
theorem dX11_end_1 : decode cX11_end 1 = .ok (.ifCond .lt 14, 3) := by decide +kernel
theorem dX11_end_4 : decode cX11_end 4 = .ok (.iload_n 1, 1) := by decide +kernel
theorem dX11_end_5 : decode cX11_end 5 = .ok (.aload_n 0, 1) := by decide +kernel
theorem dX11_end_6 : decode cX11_end 6 = .ok (.getfield 28, 3) := by decide +kernel
theorem dX11_end_9 : decode cX11_end 9 = .ok (.getfield 145, 3) := by decide +kernel
theorem dX11_end_12 : decode cX11_end 12 = .ok (.if_icmp .le 5, 3) := by decide +kernel
theorem dX11_end_15 : decode cX11_end 15 = .ok (.iconst (-1), 1) := by decide +kernel
theorem dX11_end_16 : decode cX11_end 16 = .ok (.ireturn, 1) := by decide +kernel
theorem dX11_end_17 : decode cX11_end 17 = .ok (.aload_n 0, 1) := by decide +kernel
theorem dX11_end_18 : decode cX11_end 18 = .ok (.getfield 28, 3) := by decide +kernel
theorem dX11_end_21 : decode cX11_end 21 = .ok (.iload_n 1, 1) := by decide +kernel
theorem dX11_end_22 : decode cX11_end 22 = .ok (.putfield 145, 3) := by decide +kernel
theorem dX11_end_25 : decode cX11_end 25 = .ok (.iload_n 1, 1) := by decide +kernel
theorem dX11_end_26 : decode cX11_end 26 = .ok (.ireturn, 1) := by decide +kernel
set_option maxRecDepth 20000 in
theorem ggX11_program_X11_potAt : GoodIn wsX11_program wsX11_potAt := goodIn_r _ [11, 12, 13, 161, 162, 163, 164, 165, 166, 167, 168, 169, 170, 171, 172] (by decide +kernel) (by decide +kernel)
set_option maxRecDepth 20000 in
theorem gX11_program_X11_potAt : GoodIn wsX11_program (wsV RX11 134 RX11 yX11_potAt wsX11_potAt) := goodIn_app (goodIn_of _ (by decide +kernel)) ggX11_program_X11_potAt
set_option maxRecDepth 20000 in
theorem ggX11_program_X10_forgetFault : GoodIn wsX11_program wsX10_forgetFault := goodIn_r _ [18, 19, 20, 173, 174, 175, 176, 177, 178, 179] (by decide +kernel) (by decide +kernel)
set_option maxRecDepth 20000 in
theorem gX11_program_X10_forgetFault : GoodIn wsX11_program (wsV RX11 152 RX10 yX10_forgetFault wsX10_forgetFault) := goodIn_app (goodIn_of _ (by decide +kernel)) ggX11_program_X10_forgetFault
theorem dX11_program_0 : decode cX11_program 0 = .ok (.aload_n 0, 1) := by decide +kernel
theorem dX11_program_1 : decode cX11_program 1 = .ok (.iload_n 1, 1) := by decide +kernel
theorem dX11_program_2 : decode cX11_program 2 = .ok (.invokevirtual 134, 3) := by decide +kernel
theorem dX11_program_5 : decode cX11_program 5 = .ok (.astore_n 2, 1) := by decide +kernel
theorem dX11_program_6 : decode cX11_program 6 = .ok (.aload_n 2, 1) := by decide +kernel
theorem dX11_program_7 : decode cX11_program 7 = .ok (.ifnonnull 12, 3) := by decide +kernel
theorem dX11_program_10 : decode cX11_program 10 = .ok (.aload_n 0, 1) := by decide +kernel
theorem dX11_program_11 : decode cX11_program 11 = .ok (.getfield 28, 3) := by decide +kernel
theorem dX11_program_14 : decode cX11_program 14 = .ok (.invokevirtual 152, 3) := by decide +kernel
theorem dX11_program_17 : decode cX11_program 17 = .ok (.iconst (-1), 1) := by decide +kernel
theorem dX11_program_18 : decode cX11_program 18 = .ok (.ireturn, 1) := by decide +kernel
set_option maxRecDepth 20000 in
theorem ggX11_shelve_X11_shelfAt : GoodIn wsX11_shelve wsX11_shelfAt := goodIn_r _ [7, 8, 46, 47, 48, 49, 50, 51, 52, 53, 54, 55, 56, 57] (by decide +kernel) (by decide +kernel)
set_option maxRecDepth 20000 in
theorem gX11_shelve_X11_shelfAt : GoodIn wsX11_shelve (wsV RX11 303 RX11 yX11_shelfAt wsX11_shelfAt) := goodIn_app (goodIn_of _ (by decide +kernel)) ggX11_shelve_X11_shelfAt
set_option maxRecDepth 20000 in
theorem ggX11_shelve_X11_cocoonAt : GoodIn wsX11_shelve wsX11_cocoonAt := goodIn_r _ [12, 13, 14, 15, 46, 47, 48, 49, 50, 51, 52, 53, 54, 55, 56, 57] (by decide +kernel) (by decide +kernel)
set_option maxRecDepth 20000 in
theorem gX11_shelve_X11_cocoonAt : GoodIn wsX11_shelve (wsV RX11 74 RX11 yX11_cocoonAt wsX11_cocoonAt) := goodIn_app (goodIn_of _ (by decide +kernel)) ggX11_shelve_X11_cocoonAt
set_option maxRecDepth 20000 in
theorem ggX11_shelve_X3_putCocoon : GoodIn wsX11_shelve wsX3_putCocoon := goodIn_r _ [20, 21, 22, 23, 58, 59, 60, 61, 62, 63, 64, 65, 66, 67, 41, 42, 43, 44, 45] (by decide +kernel) (by decide +kernel)
set_option maxRecDepth 20000 in
theorem gX11_shelve_X3_putCocoon : GoodIn wsX11_shelve (wsV RX11 310 RX3 yX3_putCocoon wsX3_putCocoon) := goodIn_app (goodIn_of _ (by decide +kernel)) ggX11_shelve_X3_putCocoon
set_option maxRecDepth 20000 in
theorem ggX11_shelve_X3_putNumber : GoodIn wsX11_shelve wsX3_putNumber := goodIn_r _ [27, 28, 23, 41, 42, 43, 44, 45] (by decide +kernel) (by decide +kernel)
set_option maxRecDepth 20000 in
theorem gX11_shelve_X3_putNumber : GoodIn wsX11_shelve (wsV RX11 314 RX3 yX3_putNumber wsX3_putNumber) := goodIn_app (goodIn_of _ (by decide +kernel)) ggX11_shelve_X3_putNumber
set_option maxRecDepth 20000 in
theorem ggX11_shelve_X3_putWord : GoodIn wsX11_shelve wsX3_putWord := goodIn_r _ [32, 33, 34, 23, 35, 6, 36, 37, 38, 39, 40, 41, 42, 43, 44, 45] (by decide +kernel) (by decide +kernel)
set_option maxRecDepth 20000 in
theorem gX11_shelve_X3_putWord : GoodIn wsX11_shelve (wsV RX11 317 RX3 yX3_putWord wsX3_putWord) := goodIn_app (goodIn_of _ (by decide +kernel)) ggX11_shelve_X3_putWord
theorem dX11_shelve_0 : decode cX11_shelve 0 = .ok (.aload_n 0, 1) := by decide +kernel
theorem dX11_shelve_1 : decode cX11_shelve 1 = .ok (.iload_n 1, 1) := by decide +kernel
theorem dX11_shelve_2 : decode cX11_shelve 2 = .ok (.invokevirtual 303, 3) := by decide +kernel
theorem dX11_shelve_5 : decode cX11_shelve 5 = .ok (.astore 5, 2) := by decide +kernel
theorem dX11_shelve_7 : decode cX11_shelve 7 = .ok (.aload 5, 2) := by decide +kernel
theorem dX11_shelve_9 : decode cX11_shelve 9 = .ok (.ifnull 12, 3) := by decide +kernel
theorem dX11_shelve_12 : decode cX11_shelve 12 = .ok (.aload 5, 2) := by decide +kernel
theorem dX11_shelve_14 : decode cX11_shelve 14 = .ok (.getfield 307, 3) := by decide +kernel
theorem dX11_shelve_17 : decode cX11_shelve 17 = .ok (.iconst (-1), 1) := by decide +kernel
theorem dX11_shelve_18 : decode cX11_shelve 18 = .ok (.if_icmp .eq 5, 3) := by decide +kernel
theorem dX11_shelve_21 : decode cX11_shelve 21 = .ok (.iconst 0, 1) := by decide +kernel
theorem dX11_shelve_22 : decode cX11_shelve 22 = .ok (.ireturn, 1) := by decide +kernel
theorem dX11_shelve_23 : decode cX11_shelve 23 = .ok (.iload_n 2, 1) := by decide +kernel
theorem dX11_shelve_24 : decode cX11_shelve 24 = .ok (.tableswitch 69 0 2 #[28, 45, 56], 28) := by decide +kernel
theorem dX11_shelve_52 : decode cX11_shelve 52 = .ok (.aload 5, 2) := by decide +kernel
theorem dX11_shelve_54 : decode cX11_shelve 54 = .ok (.aload_n 0, 1) := by decide +kernel
theorem dX11_shelve_55 : decode cX11_shelve 55 = .ok (.iload_n 3, 1) := by decide +kernel
theorem dX11_shelve_56 : decode cX11_shelve 56 = .ok (.iload 4, 2) := by decide +kernel
theorem dX11_shelve_58 : decode cX11_shelve 58 = .ok (.invokevirtual 74, 3) := by decide +kernel
theorem dX11_shelve_61 : decode cX11_shelve 61 = .ok (.invokevirtual 310, 3) := by decide +kernel
theorem dX11_shelve_64 : decode cX11_shelve 64 = .ok (.istore 6, 2) := by decide +kernel
theorem dX11_shelve_66 : decode cX11_shelve 66 = .ok (.goto 30, 3) := by decide +kernel
theorem dX11_shelve_69 : decode cX11_shelve 69 = .ok (.aload 5, 2) := by decide +kernel
theorem dX11_shelve_71 : decode cX11_shelve 71 = .ok (.iload_n 3, 1) := by decide +kernel
theorem dX11_shelve_72 : decode cX11_shelve 72 = .ok (.invokevirtual 314, 3) := by decide +kernel
theorem dX11_shelve_75 : decode cX11_shelve 75 = .ok (.istore 6, 2) := by decide +kernel
theorem dX11_shelve_77 : decode cX11_shelve 77 = .ok (.goto 19, 3) := by decide +kernel
theorem dX11_shelve_80 : decode cX11_shelve 80 = .ok (.aload 5, 2) := by decide +kernel
theorem dX11_shelve_82 : decode cX11_shelve 82 = .ok (.iload_n 3, 1) := by decide +kernel
theorem dX11_shelve_83 : decode cX11_shelve 83 = .ok (.iload 4, 2) := by decide +kernel
theorem dX11_shelve_85 : decode cX11_shelve 85 = .ok (.invokevirtual 317, 3) := by decide +kernel
theorem dX11_shelve_88 : decode cX11_shelve 88 = .ok (.istore 6, 2) := by decide +kernel
theorem dX11_shelve_90 : decode cX11_shelve 90 = .ok (.goto 6, 3) := by decide +kernel
theorem dX11_shelve_93 : decode cX11_shelve 93 = .ok (.iconst 0, 1) := by decide +kernel
theorem dX11_shelve_94 : decode cX11_shelve 94 = .ok (.istore 6, 2) := by decide +kernel
theorem dX11_shelve_96 : decode cX11_shelve 96 = .ok (.iload 6, 2) := by decide +kernel
theorem dX11_shelve_98 : decode cX11_shelve 98 = .ok (.ifCond .eq 13, 3) := by decide +kernel
theorem dX11_shelve_101 : decode cX11_shelve 101 = .ok (.aload_n 0, 1) := by decide +kernel
theorem dX11_shelve_102 : decode cX11_shelve 102 = .ok (.dup, 1) := by decide +kernel
theorem dX11_shelve_103 : decode cX11_shelve 103 = .ok (.getfield 321, 3) := by decide +kernel
theorem dX11_shelve_106 : decode cX11_shelve 106 = .ok (.iconst 1, 1) := by decide +kernel
theorem dX11_shelve_107 : decode cX11_shelve 107 = .ok (.iadd, 1) := by decide +kernel
theorem dX11_shelve_108 : decode cX11_shelve 108 = .ok (.putfield 321, 3) := by decide +kernel
theorem dX11_shelve_111 : decode cX11_shelve 111 = .ok (.iload 6, 2) := by decide +kernel
theorem dX11_shelve_113 : decode cX11_shelve 113 = .ok (.ireturn, 1) := by decide +kernel
set_option maxRecDepth 20000 in
theorem ggX11_take_X11_shelfAt : GoodIn wsX11_take wsX11_shelfAt := goodIn_r _ [8, 9, 44, 45, 46, 47, 48, 49, 50, 51, 52, 53, 54, 55] (by decide +kernel) (by decide +kernel)
set_option maxRecDepth 20000 in
theorem gX11_take_X11_shelfAt : GoodIn wsX11_take (wsV RX11 303 RX11 yX11_shelfAt wsX11_shelfAt) := goodIn_app (goodIn_of _ (by decide +kernel)) ggX11_take_X11_shelfAt
set_option maxRecDepth 20000 in
theorem ggX11_take_X11_isWithin : GoodIn wsX11_take wsX11_isWithin := goodIn_r _ [12] (by decide +kernel) (by decide +kernel)
set_option maxRecDepth 20000 in
theorem gX11_take_X11_isWithin : GoodIn wsX11_take (va_wsS RX11 67 yX11_isWithin wsX11_isWithin) := goodIn_app (goodIn_of _ (by decide +kernel)) ggX11_take_X11_isWithin
theorem dX11_take_0 : decode cX11_take 0 = .ok (.aload_n 0, 1) := by decide +kernel
theorem dX11_take_1 : decode cX11_take 1 = .ok (.iload_n 1, 1) := by decide +kernel
theorem dX11_take_2 : decode cX11_take 2 = .ok (.invokevirtual 303, 3) := by decide +kernel
theorem dX11_take_5 : decode cX11_take 5 = .ok (.astore_n 3, 1) := by decide +kernel
theorem dX11_take_6 : decode cX11_take 6 = .ok (.aload_n 3, 1) := by decide +kernel
theorem dX11_take_7 : decode cX11_take 7 = .ok (.ifnull 12, 3) := by decide +kernel
theorem dX11_take_10 : decode cX11_take 10 = .ok (.iload_n 2, 1) := by decide +kernel
theorem dX11_take_11 : decode cX11_take 11 = .ok (.iconst 0, 1) := by decide +kernel
theorem dX11_take_12 : decode cX11_take 12 = .ok (.iconst 2, 1) := by decide +kernel
theorem dX11_take_13 : decode cX11_take 13 = .ok (.invokestatic 67, 3) := by decide +kernel
theorem dX11_take_16 : decode cX11_take 16 = .ok (.ifCond .ne 5, 3) := by decide +kernel
theorem dX11_take_19 : decode cX11_take 19 = .ok (.iconst (-1), 1) := by decide +kernel
theorem dX11_take_20 : decode cX11_take 20 = .ok (.ireturn, 1) := by decide +kernel
theorem dX11_take_21 : decode cX11_take 21 = .ok (.aload_n 3, 1) := by decide +kernel
theorem dX11_take_22 : decode cX11_take 22 = .ok (.getfield 307, 3) := by decide +kernel
theorem dX11_take_25 : decode cX11_take 25 = .ok (.iconst (-1), 1) := by decide +kernel
theorem dX11_take_26 : decode cX11_take 26 = .ok (.if_icmp .ne 6, 3) := by decide +kernel
theorem dX11_take_29 : decode cX11_take 29 = .ok (.bipush (-2), 2) := by decide +kernel
theorem dX11_take_31 : decode cX11_take 31 = .ok (.ireturn, 1) := by decide +kernel
set_option maxRecDepth 20000 in
theorem ggX11_copy_X11_shelfAt : GoodIn wsX11_copy wsX11_shelfAt := goodIn_r _ [11, 12, 28, 29, 30, 31, 32, 33, 34, 35, 36, 37, 38, 39] (by decide +kernel) (by decide +kernel)
set_option maxRecDepth 20000 in
theorem gX11_copy_X11_shelfAt : GoodIn wsX11_copy (wsV RX11 303 RX11 yX11_shelfAt wsX11_shelfAt) := goodIn_app (goodIn_of _ (by decide +kernel)) ggX11_copy_X11_shelfAt
set_option maxRecDepth 20000 in
theorem ggX11_copy_X3_hasRow : GoodIn wsX11_copy wsX3_hasRow := goodIn_r _ [17, 18, 19, 23, 24, 25, 26, 27] (by decide +kernel) (by decide +kernel)
set_option maxRecDepth 20000 in
theorem gX11_copy_X3_hasRow : GoodIn wsX11_copy (wsV RX11 330 RX3 yX3_hasRow wsX3_hasRow) := goodIn_app (goodIn_of _ (by decide +kernel)) ggX11_copy_X3_hasRow
theorem dX11_copy_0 : decode cX11_copy 0 = .ok (.aload_n 0, 1) := by decide +kernel
theorem dX11_copy_1 : decode cX11_copy 1 = .ok (.iload_n 1, 1) := by decide +kernel
theorem dX11_copy_2 : decode cX11_copy 2 = .ok (.invokevirtual 303, 3) := by decide +kernel
theorem dX11_copy_5 : decode cX11_copy 5 = .ok (.astore 6, 2) := by decide +kernel
theorem dX11_copy_7 : decode cX11_copy 7 = .ok (.aload_n 0, 1) := by decide +kernel
theorem dX11_copy_8 : decode cX11_copy 8 = .ok (.iload_n 3, 1) := by decide +kernel
theorem dX11_copy_9 : decode cX11_copy 9 = .ok (.invokevirtual 303, 3) := by decide +kernel
theorem dX11_copy_12 : decode cX11_copy 12 = .ok (.astore 7, 2) := by decide +kernel
theorem dX11_copy_14 : decode cX11_copy 14 = .ok (.aload 6, 2) := by decide +kernel
theorem dX11_copy_16 : decode cX11_copy 16 = .ok (.ifnull 24, 3) := by decide +kernel
theorem dX11_copy_19 : decode cX11_copy 19 = .ok (.aload 7, 2) := by decide +kernel
theorem dX11_copy_21 : decode cX11_copy 21 = .ok (.ifnull 19, 3) := by decide +kernel
theorem dX11_copy_24 : decode cX11_copy 24 = .ok (.aload 6, 2) := by decide +kernel
theorem dX11_copy_26 : decode cX11_copy 26 = .ok (.invokevirtual 330, 3) := by decide +kernel
theorem dX11_copy_29 : decode cX11_copy 29 = .ok (.ifCond .eq 11, 3) := by decide +kernel
theorem dX11_copy_40 : decode cX11_copy 40 = .ok (.iconst 0, 1) := by decide +kernel
theorem dX11_copy_41 : decode cX11_copy 41 = .ok (.ireturn, 1) := by decide +kernel
set_option maxRecDepth 20000 in
theorem ggX11_number_X11_shelfAt : GoodIn wsX11_number wsX11_shelfAt := goodIn_r _ [7, 8, 21, 22, 23, 24, 25, 26, 27, 28, 29, 30, 31, 32] (by decide +kernel) (by decide +kernel)
set_option maxRecDepth 20000 in
theorem gX11_number_X11_shelfAt : GoodIn wsX11_number (wsV RX11 303 RX11 yX11_shelfAt wsX11_shelfAt) := goodIn_app (goodIn_of _ (by decide +kernel)) ggX11_number_X11_shelfAt
set_option maxRecDepth 20000 in
theorem ggX11_number_X3_hasRow : GoodIn wsX11_number wsX3_hasRow := goodIn_r _ [13, 14, 15, 16, 17, 18, 19, 20] (by decide +kernel) (by decide +kernel)
set_option maxRecDepth 20000 in
theorem gX11_number_X3_hasRow : GoodIn wsX11_number (wsV RX11 330 RX3 yX3_hasRow wsX3_hasRow) := goodIn_app (goodIn_of _ (by decide +kernel)) ggX11_number_X3_hasRow
theorem dX11_number_0 : decode cX11_number 0 = .ok (.aload_n 0, 1) := by decide +kernel
theorem dX11_number_1 : decode cX11_number 1 = .ok (.iload_n 1, 1) := by decide +kernel
theorem dX11_number_2 : decode cX11_number 2 = .ok (.invokevirtual 303, 3) := by decide +kernel
theorem dX11_number_5 : decode cX11_number 5 = .ok (.astore_n 3, 1) := by decide +kernel
theorem dX11_number_6 : decode cX11_number 6 = .ok (.aload_n 3, 1) := by decide +kernel
theorem dX11_number_7 : decode cX11_number 7 = .ok (.ifnull 22, 3) := by decide +kernel
theorem dX11_number_10 : decode cX11_number 10 = .ok (.aload_n 3, 1) := by decide +kernel
theorem dX11_number_11 : decode cX11_number 11 = .ok (.invokevirtual 330, 3) := by decide +kernel
theorem dX11_number_14 : decode cX11_number 14 = .ok (.ifCond .eq 15, 3) := by decide +kernel
theorem dX11_number_29 : decode cX11_number 29 = .ok (.iconst (-1), 1) := by decide +kernel
theorem dX11_number_30 : decode cX11_number 30 = .ok (.ireturn, 1) := by decide +kernel
set_option maxRecDepth 20000 in
theorem ggX11_price_X11_isWithin : GoodIn wsX11_price wsX11_isWithin := goodIn_r _ [6] (by decide +kernel) (by decide +kernel)
set_option maxRecDepth 20000 in
theorem gX11_price_X11_isWithin : GoodIn wsX11_price (va_wsS RX11 67 yX11_isWithin wsX11_isWithin) := goodIn_app (goodIn_of _ (by decide +kernel)) ggX11_price_X11_isWithin
theorem dX11_price_0 : decode cX11_price 0 = .ok (.iload_n 1, 1) := by decide +kernel
theorem dX11_price_1 : decode cX11_price 1 = .ok (.iconst 0, 1) := by decide +kernel
theorem dX11_price_2 : decode cX11_price 2 = .ok (.iconst 3, 1) := by decide +kernel
theorem dX11_price_3 : decode cX11_price 3 = .ok (.invokestatic 67, 3) := by decide +kernel
theorem dX11_price_6 : decode cX11_price 6 = .ok (.ifCond .eq 14, 3) := by decide +kernel
theorem dX11_price_9 : decode cX11_price 9 = .ok (.iload_n 2, 1) := by decide +kernel
theorem dX11_price_10 : decode cX11_price 10 = .ok (.iconst 0, 1) := by decide +kernel
theorem dX11_price_11 : decode cX11_price 11 = .ok (.sipush 1000, 3) := by decide +kernel
theorem dX11_price_14 : decode cX11_price 14 = .ok (.invokestatic 67, 3) := by decide +kernel
theorem dX11_price_17 : decode cX11_price 17 = .ok (.ifCond .ne 5, 3) := by decide +kernel
theorem dX11_price_20 : decode cX11_price 20 = .ok (.iconst 0, 1) := by decide +kernel
theorem dX11_price_21 : decode cX11_price 21 = .ok (.ireturn, 1) := by decide +kernel
theorem dX11_price_22 : decode cX11_price 22 = .ok (.aload_n 0, 1) := by decide +kernel
theorem dX11_price_23 : decode cX11_price 23 = .ok (.getfield 42, 3) := by decide +kernel
theorem dX11_price_26 : decode cX11_price 26 = .ok (.getfield 339, 3) := by decide +kernel
theorem dX11_price_29 : decode cX11_price 29 = .ok (.iload_n 1, 1) := by decide +kernel
theorem dX11_price_30 : decode cX11_price 30 = .ok (.iload_n 2, 1) := by decide +kernel
theorem dX11_price_31 : decode cX11_price 31 = .ok (.iastore, 1) := by decide +kernel
theorem dX11_price_32 : decode cX11_price 32 = .ok (.iconst 1, 1) := by decide +kernel
theorem dX11_price_33 : decode cX11_price 33 = .ok (.ireturn, 1) := by decide +kernel
set_option maxRecDepth 20000 in
theorem ggX11_mix_X8_mixFor : GoodIn wsX11_mix wsX8_mixFor := goodIn_r _ [6, 7, 8, 9, 10, 11, 12, 13, 14, 15, 16, 17, 18, 19, 20, 21, 22, 23, 24, 25, 26, 27, 5, 28, 29, 30, 31, 32, 33, 34, 35, 36, 37, 38, 39, 40, 41, 42, 43, 44, 45, 46, 47, 48, 49, 50, 51, 52, 53, 54, 55, 56, 57, 58, 59, 60, 61, 74, 75, 76, 77, 78, 79, 80, 81, 82, 83, 84, 85, 86, 87, 88, 89, 90, 91, 92, 93, 94, 95, 96, 97, 98, 99, 100, 101, 102, 103, 104, 105, 106, 107, 108, 109, 110, 111, 112, 113] (by decide +kernel) (by decide +kernel)
set_option maxRecDepth 20000 in
theorem gX11_mix_X8_mixFor : GoodIn wsX11_mix (wsV RX11 342 RX8 yX8_mixFor wsX8_mixFor) := goodIn_app (goodIn_of _ (by decide +kernel)) ggX11_mix_X8_mixFor
theorem dX11_mix_0 : decode cX11_mix 0 = .ok (.iload_n 1, 1) := by decide +kernel
theorem dX11_mix_1 : decode cX11_mix 1 = .ok (.iconst 1, 1) := by decide +kernel
theorem dX11_mix_2 : decode cX11_mix 2 = .ok (.if_icmp .ge 7, 3) := by decide +kernel
theorem dX11_mix_5 : decode cX11_mix 5 = .ok (.iconst (-1), 1) := by decide +kernel
theorem dX11_mix_6 : decode cX11_mix 6 = .ok (.goto 15, 3) := by decide +kernel
theorem dX11_mix_9 : decode cX11_mix 9 = .ok (.aload_n 0, 1) := by decide +kernel
theorem dX11_mix_10 : decode cX11_mix 10 = .ok (.getfield 42, 3) := by decide +kernel
theorem dX11_mix_13 : decode cX11_mix 13 = .ok (.iload_n 1, 1) := by decide +kernel
theorem dX11_mix_14 : decode cX11_mix 14 = .ok (.iload_n 2, 1) := by decide +kernel
theorem dX11_mix_15 : decode cX11_mix 15 = .ok (.iload_n 3, 1) := by decide +kernel
theorem dX11_mix_16 : decode cX11_mix 16 = .ok (.iload 4, 2) := by decide +kernel
theorem dX11_mix_18 : decode cX11_mix 18 = .ok (.invokevirtual 342, 3) := by decide +kernel
theorem dX11_mix_21 : decode cX11_mix 21 = .ok (.ireturn, 1) := by decide +kernel
set_option maxRecDepth 20000 in
theorem ggX11_count_X11_silkThatGrows : GoodIn wsX11_count wsX11_silkThatGrows := goodIn_r _ [18, 2, 19, 20, 21, 22, 23, 17, 24, 25, 26, 27, 28, 29, 30, 31, 32, 33, 34, 35, 36, 37, 58, 59, 60, 61, 62, 63, 64, 65, 66, 67, 68, 69, 70, 71, 72, 73, 74, 75, 76, 77, 78] (by decide +kernel) (by decide +kernel)
set_option maxRecDepth 20000 in
theorem gX11_count_X11_silkThatGrows : GoodIn wsX11_count (wsV RX11 371 RX11 yX11_silkThatGrows wsX11_silkThatGrows) := goodIn_app (goodIn_of _ (by decide +kernel)) ggX11_count_X11_silkThatGrows
theorem dX11_count_0 : decode cX11_count 0 = .ok (.iload_n 1, 1) := by decide +kernel
theorem dX11_count_1 : decode cX11_count 1 = .ok (.tableswitch 147 0 11 #[63, 68, 73, 81, 89, 97, 105, 113, 121, 126, 134, 142], 63) := by decide +kernel
theorem dX11_count_64 : decode cX11_count 64 = .ok (.aload_n 0, 1) := by decide +kernel
theorem dX11_count_65 : decode cX11_count 65 = .ok (.getfield 63, 3) := by decide +kernel
theorem dX11_count_68 : decode cX11_count 68 = .ok (.ireturn, 1) := by decide +kernel
theorem dX11_count_69 : decode cX11_count 69 = .ok (.aload_n 0, 1) := by decide +kernel
theorem dX11_count_70 : decode cX11_count 70 = .ok (.getfield 124, 3) := by decide +kernel
theorem dX11_count_73 : decode cX11_count 73 = .ok (.ireturn, 1) := by decide +kernel
theorem dX11_count_74 : decode cX11_count 74 = .ok (.aload_n 0, 1) := by decide +kernel
theorem dX11_count_75 : decode cX11_count 75 = .ok (.getfield 42, 3) := by decide +kernel
theorem dX11_count_78 : decode cX11_count 78 = .ok (.getfield 359, 3) := by decide +kernel
theorem dX11_count_81 : decode cX11_count 81 = .ok (.ireturn, 1) := by decide +kernel
theorem dX11_count_82 : decode cX11_count 82 = .ok (.aload_n 0, 1) := by decide +kernel
theorem dX11_count_83 : decode cX11_count 83 = .ok (.getfield 42, 3) := by decide +kernel
theorem dX11_count_86 : decode cX11_count 86 = .ok (.getfield 349, 3) := by decide +kernel
theorem dX11_count_89 : decode cX11_count 89 = .ok (.ireturn, 1) := by decide +kernel
theorem dX11_count_90 : decode cX11_count 90 = .ok (.aload_n 0, 1) := by decide +kernel
theorem dX11_count_91 : decode cX11_count 91 = .ok (.getfield 28, 3) := by decide +kernel
theorem dX11_count_94 : decode cX11_count 94 = .ok (.getfield 145, 3) := by decide +kernel
theorem dX11_count_97 : decode cX11_count 97 = .ok (.ireturn, 1) := by decide +kernel
theorem dX11_count_98 : decode cX11_count 98 = .ok (.aload_n 0, 1) := by decide +kernel
theorem dX11_count_99 : decode cX11_count 99 = .ok (.getfield 42, 3) := by decide +kernel
theorem dX11_count_102 : decode cX11_count 102 = .ok (.getfield 362, 3) := by decide +kernel
theorem dX11_count_105 : decode cX11_count 105 = .ok (.ireturn, 1) := by decide +kernel
theorem dX11_count_106 : decode cX11_count 106 = .ok (.aload_n 0, 1) := by decide +kernel
theorem dX11_count_107 : decode cX11_count 107 = .ok (.getfield 42, 3) := by decide +kernel
theorem dX11_count_110 : decode cX11_count 110 = .ok (.getfield 365, 3) := by decide +kernel
theorem dX11_count_113 : decode cX11_count 113 = .ok (.ireturn, 1) := by decide +kernel
theorem dX11_count_114 : decode cX11_count 114 = .ok (.aload_n 0, 1) := by decide +kernel
theorem dX11_count_115 : decode cX11_count 115 = .ok (.getfield 42, 3) := by decide +kernel
theorem dX11_count_118 : decode cX11_count 118 = .ok (.getfield 368, 3) := by decide +kernel
theorem dX11_count_121 : decode cX11_count 121 = .ok (.ireturn, 1) := by decide +kernel
theorem dX11_count_122 : decode cX11_count 122 = .ok (.aload_n 0, 1) := by decide +kernel
theorem dX11_count_123 : decode cX11_count 123 = .ok (.invokevirtual 371, 3) := by decide +kernel
theorem dX11_count_126 : decode cX11_count 126 = .ok (.ireturn, 1) := by decide +kernel
theorem dX11_count_127 : decode cX11_count 127 = .ok (.aload_n 0, 1) := by decide +kernel
theorem dX11_count_128 : decode cX11_count 128 = .ok (.getfield 42, 3) := by decide +kernel
theorem dX11_count_131 : decode cX11_count 131 = .ok (.getfield 374, 3) := by decide +kernel
theorem dX11_count_134 : decode cX11_count 134 = .ok (.ireturn, 1) := by decide +kernel
theorem dX11_count_135 : decode cX11_count 135 = .ok (.aload_n 0, 1) := by decide +kernel
theorem dX11_count_136 : decode cX11_count 136 = .ok (.getfield 42, 3) := by decide +kernel
theorem dX11_count_139 : decode cX11_count 139 = .ok (.getfield 377, 3) := by decide +kernel
theorem dX11_count_142 : decode cX11_count 142 = .ok (.ireturn, 1) := by decide +kernel
theorem dX11_count_143 : decode cX11_count 143 = .ok (.aload_n 0, 1) := by decide +kernel
theorem dX11_count_144 : decode cX11_count 144 = .ok (.getfield 321, 3) := by decide +kernel
theorem dX11_count_147 : decode cX11_count 147 = .ok (.ireturn, 1) := by decide +kernel
theorem dX11_count_148 : decode cX11_count 148 = .ok (.iconst (-1), 1) := by decide +kernel
theorem dX11_count_149 : decode cX11_count 149 = .ok (.ireturn, 1) := by decide +kernel
theorem dX11_next_0 : decode cX11_next 0 = .ok (.iload_n 0, 1) := by decide +kernel
theorem dX11_next_1 : decode cX11_next 1 = .ok (.ldc_w 380, 3) := by decide +kernel
theorem dX11_next_4 : decode cX11_next 4 = .ok (.imul, 1) := by decide +kernel
theorem dX11_next_5 : decode cX11_next 5 = .ok (.sipush 12345, 3) := by decide +kernel
theorem dX11_next_8 : decode cX11_next 8 = .ok (.iadd, 1) := by decide +kernel
theorem dX11_next_9 : decode cX11_next 9 = .ok (.ireturn, 1) := by decide +kernel
theorem dX11_shelfAt_0 : decode cX11_shelfAt 0 = .ok (.iload_n 1, 1) := by decide +kernel
theorem dX11_shelfAt_1 : decode cX11_shelfAt 1 = .ok (.ifCond .lt 9, 3) := by decide +kernel
theorem dX11_shelfAt_4 : decode cX11_shelfAt 4 = .ok (.iload_n 1, 1) := by decide +kernel
theorem dX11_shelfAt_5 : decode cX11_shelfAt 5 = .ok (.bipush 16, 2) := by decide +kernel
theorem dX11_shelfAt_7 : decode cX11_shelfAt 7 = .ok (.if_icmp .lt 7, 3) := by decide +kernel
theorem dX11_shelfAt_10 : decode cX11_shelfAt 10 = .ok (.aconst_null, 1) := by decide +kernel
theorem dX11_shelfAt_11 : decode cX11_shelfAt 11 = .ok (.goto 9, 3) := by decide +kernel
theorem dX11_shelfAt_14 : decode cX11_shelfAt 14 = .ok (.aload_n 0, 1) := by decide +kernel
theorem dX11_shelfAt_15 : decode cX11_shelfAt 15 = .ok (.getfield 55, 3) := by decide +kernel
theorem dX11_shelfAt_18 : decode cX11_shelfAt 18 = .ok (.iload_n 1, 1) := by decide +kernel
theorem dX11_shelfAt_19 : decode cX11_shelfAt 19 = .ok (.aaload, 1) := by decide +kernel
theorem dX11_shelfAt_20 : decode cX11_shelfAt 20 = .ok (.areturn, 1) := by decide +kernel
theorem dX11_silkThatGrows_0 : decode cX11_silkThatGrows 0 = .ok (.iconst 0, 1) := by decide +kernel
theorem dX11_silkThatGrows_1 : decode cX11_silkThatGrows 1 = .ok (.istore_n 1, 1) := by decide +kernel
theorem dX11_silkThatGrows_2 : decode cX11_silkThatGrows 2 = .ok (.iconst 0, 1) := by decide +kernel
theorem dX11_silkThatGrows_3 : decode cX11_silkThatGrows 3 = .ok (.istore_n 2, 1) := by decide +kernel
theorem dX11_silkThatGrows_4 : decode cX11_silkThatGrows 4 = .ok (.iload_n 2, 1) := by decide +kernel
theorem dX11_silkThatGrows_5 : decode cX11_silkThatGrows 5 = .ok (.aload_n 0, 1) := by decide +kernel
theorem dX11_silkThatGrows_6 : decode cX11_silkThatGrows 6 = .ok (.getfield 124, 3) := by decide +kernel
theorem dX11_silkThatGrows_9 : decode cX11_silkThatGrows 9 = .ok (.if_icmp .ge 33, 3) := by decide +kernel
theorem dX11_silkThatGrows_42 : decode cX11_silkThatGrows 42 = .ok (.iload_n 1, 1) := by decide +kernel
theorem dX11_silkThatGrows_43 : decode cX11_silkThatGrows 43 = .ok (.ireturn, 1) := by decide +kernel
set_option maxRecDepth 20000 in
theorem ggX12_shelve_X12_within : GoodIn wsX12_shelve wsX12_within := goodIn_r _ [11] (by decide +kernel) (by decide +kernel)
set_option maxRecDepth 20000 in
theorem gX12_shelve_X12_within : GoodIn wsX12_shelve (va_wsS RX12 168 yX12_within wsX12_within) := goodIn_app (goodIn_of _ (by decide +kernel)) ggX12_shelve_X12_within
set_option maxRecDepth 20000 in
theorem ggX12_shelve_X12_isCocoon : GoodIn wsX12_shelve wsX12_isCocoon := goodIn_r _ [15, 16, 17, 8, 9, 10, 11, 18, 19, 20, 21, 22, 23, 24, 25, 26, 27, 28, 29, 30, 31, 32, 33, 34, 35, 36, 37, 38, 39, 40, 41, 42, 43, 44, 45, 46, 47, 48, 49, 50, 51, 52, 53, 54, 55, 56, 57, 58, 59, 60, 61, 62, 63, 64, 65, 66, 67, 68, 69, 70, 71, 72, 73, 74, 75, 76, 77, 78, 79, 80, 81, 82, 83] (by decide +kernel) (by decide +kernel)
set_option maxRecDepth 20000 in
theorem gX12_shelve_X12_isCocoon : GoodIn wsX12_shelve (wsV RX12 186 RX12 yX12_isCocoon wsX12_isCocoon) := goodIn_app (goodIn_of _ (by decide +kernel)) ggX12_shelve_X12_isCocoon
theorem dX12_shelve_0 : decode cX12_shelve 0 = .ok (.aload_n 0, 1) := by decide +kernel
theorem dX12_shelve_1 : decode cX12_shelve 1 = .ok (.iconst 0, 1) := by decide +kernel
theorem dX12_shelve_2 : decode cX12_shelve 2 = .ok (.putfield 161, 3) := by decide +kernel
theorem dX12_shelve_5 : decode cX12_shelve 5 = .ok (.iload_n 1, 1) := by decide +kernel
theorem dX12_shelve_6 : decode cX12_shelve 6 = .ok (.iconst 0, 1) := by decide +kernel
theorem dX12_shelve_7 : decode cX12_shelve 7 = .ok (.bipush 15, 2) := by decide +kernel
theorem dX12_shelve_9 : decode cX12_shelve 9 = .ok (.invokestatic 168, 3) := by decide +kernel
theorem dX12_shelve_12 : decode cX12_shelve 12 = .ok (.ifCond .eq 21, 3) := by decide +kernel
theorem dX12_shelve_15 : decode cX12_shelve 15 = .ok (.aload_n 0, 1) := by decide +kernel
theorem dX12_shelve_16 : decode cX12_shelve 16 = .ok (.getfield 125, 3) := by decide +kernel
theorem dX12_shelve_19 : decode cX12_shelve 19 = .ok (.iload_n 1, 1) := by decide +kernel
theorem dX12_shelve_20 : decode cX12_shelve 20 = .ok (.baload, 1) := by decide +kernel
theorem dX12_shelve_21 : decode cX12_shelve 21 = .ok (.ifCond .ne 12, 3) := by decide +kernel
theorem dX12_shelve_24 : decode cX12_shelve 24 = .ok (.iload_n 2, 1) := by decide +kernel
theorem dX12_shelve_25 : decode cX12_shelve 25 = .ok (.iconst 0, 1) := by decide +kernel
theorem dX12_shelve_26 : decode cX12_shelve 26 = .ok (.iconst 2, 1) := by decide +kernel
theorem dX12_shelve_27 : decode cX12_shelve 27 = .ok (.invokestatic 168, 3) := by decide +kernel
theorem dX12_shelve_30 : decode cX12_shelve 30 = .ok (.ifCond .ne 5, 3) := by decide +kernel
theorem dX12_shelve_33 : decode cX12_shelve 33 = .ok (.iconst 0, 1) := by decide +kernel
theorem dX12_shelve_34 : decode cX12_shelve 34 = .ok (.ireturn, 1) := by decide +kernel
theorem dX12_shelve_35 : decode cX12_shelve 35 = .ok (.iload_n 2, 1) := by decide +kernel
theorem dX12_shelve_36 : decode cX12_shelve 36 = .ok (.ifCond .ne 28, 3) := by decide +kernel
theorem dX12_shelve_39 : decode cX12_shelve 39 = .ok (.aload_n 0, 1) := by decide +kernel
theorem dX12_shelve_40 : decode cX12_shelve 40 = .ok (.iload_n 3, 1) := by decide +kernel
theorem dX12_shelve_41 : decode cX12_shelve 41 = .ok (.iload 4, 2) := by decide +kernel
theorem dX12_shelve_43 : decode cX12_shelve 43 = .ok (.invokevirtual 186, 3) := by decide +kernel
theorem dX12_shelve_46 : decode cX12_shelve 46 = .ok (.ifCond .eq 33, 3) := by decide +kernel
theorem dX12_shelve_64 : decode cX12_shelve 64 = .ok (.iload_n 2, 1) := by decide +kernel
theorem dX12_shelve_65 : decode cX12_shelve 65 = .ok (.iconst 2, 1) := by decide +kernel
theorem dX12_shelve_66 : decode cX12_shelve 66 = .ok (.if_icmp .ne 15, 3) := by decide +kernel
theorem dX12_shelve_69 : decode cX12_shelve 69 = .ok (.iload_n 3, 1) := by decide +kernel
theorem dX12_shelve_70 : decode cX12_shelve 70 = .ok (.iconst 0, 1) := by decide +kernel
theorem dX12_shelve_71 : decode cX12_shelve 71 = .ok (.bipush 8, 2) := by decide +kernel
theorem dX12_shelve_73 : decode cX12_shelve 73 = .ok (.invokestatic 168, 3) := by decide +kernel
theorem dX12_shelve_76 : decode cX12_shelve 76 = .ok (.ifCond .ne 5, 3) := by decide +kernel
theorem dX12_shelve_79 : decode cX12_shelve 79 = .ok (.iconst 0, 1) := by decide +kernel
theorem dX12_shelve_80 : decode cX12_shelve 80 = .ok (.ireturn, 1) := by decide +kernel
theorem dX12_shelve_81 : decode cX12_shelve 81 = .ok (.aload_n 0, 1) := by decide +kernel
theorem dX12_shelve_82 : decode cX12_shelve 82 = .ok (.getfield 125, 3) := by decide +kernel
theorem dX12_shelve_85 : decode cX12_shelve 85 = .ok (.iload_n 1, 1) := by decide +kernel
theorem dX12_shelve_86 : decode cX12_shelve 86 = .ok (.iconst 1, 1) := by decide +kernel
theorem dX12_shelve_87 : decode cX12_shelve 87 = .ok (.bastore, 1) := by decide +kernel
theorem dX12_shelve_88 : decode cX12_shelve 88 = .ok (.aload_n 0, 1) := by decide +kernel
theorem dX12_shelve_89 : decode cX12_shelve 89 = .ok (.getfield 128, 3) := by decide +kernel
theorem dX12_shelve_92 : decode cX12_shelve 92 = .ok (.iload_n 1, 1) := by decide +kernel
theorem dX12_shelve_93 : decode cX12_shelve 93 = .ok (.iload_n 2, 1) := by decide +kernel
theorem dX12_shelve_94 : decode cX12_shelve 94 = .ok (.iastore, 1) := by decide +kernel
theorem dX12_shelve_95 : decode cX12_shelve 95 = .ok (.aload_n 0, 1) := by decide +kernel
theorem dX12_shelve_96 : decode cX12_shelve 96 = .ok (.getfield 131, 3) := by decide +kernel
theorem dX12_shelve_99 : decode cX12_shelve 99 = .ok (.iload_n 1, 1) := by decide +kernel
theorem dX12_shelve_100 : decode cX12_shelve 100 = .ok (.iload_n 2, 1) := by decide +kernel
theorem dX12_shelve_101 : decode cX12_shelve 101 = .ok (.ifCond .ne 13, 3) := by decide +kernel
theorem dX12_shelve_114 : decode cX12_shelve 114 = .ok (.iload_n 3, 1) := by decide +kernel
theorem dX12_shelve_115 : decode cX12_shelve 115 = .ok (.iastore, 1) := by decide +kernel
theorem dX12_shelve_116 : decode cX12_shelve 116 = .ok (.iload_n 2, 1) := by decide +kernel
theorem dX12_shelve_117 : decode cX12_shelve 117 = .ok (.ifCond .ne 16, 3) := by decide +kernel
theorem dX12_shelve_133 : decode cX12_shelve 133 = .ok (.iload_n 2, 1) := by decide +kernel
theorem dX12_shelve_134 : decode cX12_shelve 134 = .ok (.iconst 2, 1) := by decide +kernel
theorem dX12_shelve_135 : decode cX12_shelve 135 = .ok (.if_icmp .ne 39, 3) := by decide +kernel
theorem dX12_shelve_138 : decode cX12_shelve 138 = .ok (.aload_n 0, 1) := by decide +kernel
theorem dX12_shelve_139 : decode cX12_shelve 139 = .ok (.getfield 134, 3) := by decide +kernel
theorem dX12_shelve_142 : decode cX12_shelve 142 = .ok (.iload_n 1, 1) := by decide +kernel
theorem dX12_shelve_143 : decode cX12_shelve 143 = .ok (.iload_n 3, 1) := by decide +kernel
theorem dX12_shelve_144 : decode cX12_shelve 144 = .ok (.iastore, 1) := by decide +kernel
theorem dX12_shelve_145 : decode cX12_shelve 145 = .ok (.iconst 0, 1) := by decide +kernel
theorem dX12_shelve_146 : decode cX12_shelve 146 = .ok (.istore 5, 2) := by decide +kernel
theorem dX12_shelve_148 : decode cX12_shelve 148 = .ok (.iload 5, 2) := by decide +kernel
theorem dX12_shelve_150 : decode cX12_shelve 150 = .ok (.iload_n 3, 1) := by decide +kernel
theorem dX12_shelve_151 : decode cX12_shelve 151 = .ok (.if_icmp .ge 23, 3) := by decide +kernel
theorem dX12_shelve_154 : decode cX12_shelve 154 = .ok (.aload_n 0, 1) := by decide +kernel
theorem dX12_shelve_155 : decode cX12_shelve 155 = .ok (.getfield 137, 3) := by decide +kernel
theorem dX12_shelve_158 : decode cX12_shelve 158 = .ok (.bipush 8, 2) := by decide +kernel
theorem dX12_shelve_160 : decode cX12_shelve 160 = .ok (.iload_n 1, 1) := by decide +kernel
theorem dX12_shelve_161 : decode cX12_shelve 161 = .ok (.imul, 1) := by decide +kernel
theorem dX12_shelve_162 : decode cX12_shelve 162 = .ok (.iload 5, 2) := by decide +kernel
theorem dX12_shelve_164 : decode cX12_shelve 164 = .ok (.iadd, 1) := by decide +kernel
theorem dX12_shelve_165 : decode cX12_shelve 165 = .ok (.iload 4, 2) := by decide +kernel
theorem dX12_shelve_167 : decode cX12_shelve 167 = .ok (.iastore, 1) := by decide +kernel
theorem dX12_shelve_168 : decode cX12_shelve 168 = .ok (.iinc 5 1, 3) := by decide +kernel
theorem dX12_shelve_171 : decode cX12_shelve 171 = .ok (.goto (-23), 3) := by decide +kernel
theorem dX12_shelve_174 : decode cX12_shelve 174 = .ok (.iconst 1, 1) := by decide +kernel
theorem dX12_shelve_175 : decode cX12_shelve 175 = .ok (.ireturn, 1) := by decide +kernel
theorem dJ7_fill_53178_0 : decode cJ7_fill_53178 0 = .ok (.iconst 0, 1) := by decide +kernel
theorem dJ7_fill_53178_1 : decode cJ7_fill_53178 1 = .ok (.istore_n 2, 1) := by decide +kernel
theorem dJ7_fill_53178_2 : decode cJ7_fill_53178 2 = .ok (.aload_n 0, 1) := by decide +kernel
theorem dJ7_fill_53178_3 : decode cJ7_fill_53178 3 = .ok (.arraylength, 1) := by decide +kernel
theorem dJ7_fill_53178_4 : decode cJ7_fill_53178 4 = .ok (.istore_n 3, 1) := by decide +kernel
theorem dJ7_fill_53178_5 : decode cJ7_fill_53178 5 = .ok (.iload_n 2, 1) := by decide +kernel
theorem dJ7_fill_53178_6 : decode cJ7_fill_53178 6 = .ok (.iload_n 3, 1) := by decide +kernel
theorem dJ7_fill_53178_7 : decode cJ7_fill_53178 7 = .ok (.if_icmp .ge 13, 3) := by decide +kernel
theorem dJ7_fill_53178_10 : decode cJ7_fill_53178 10 = .ok (.aload_n 0, 1) := by decide +kernel
theorem dJ7_fill_53178_11 : decode cJ7_fill_53178 11 = .ok (.iload_n 2, 1) := by decide +kernel
theorem dJ7_fill_53178_12 : decode cJ7_fill_53178 12 = .ok (.iload_n 1, 1) := by decide +kernel
theorem dJ7_fill_53178_13 : decode cJ7_fill_53178 13 = .ok (.iastore, 1) := by decide +kernel
theorem dJ7_fill_53178_14 : decode cJ7_fill_53178 14 = .ok (.iinc 2 1, 3) := by decide +kernel
theorem dJ7_fill_53178_17 : decode cJ7_fill_53178 17 = .ok (.goto (-12), 3) := by decide +kernel
theorem dJ7_fill_53178_20 : decode cJ7_fill_53178 20 = .ok (.return_, 1) := by decide +kernel
theorem inn_X0_init_0 : ∀ w ∈ u_ws RX0 TX0 10, w ∈ wsX0_init := fun w h => List.mem_cons_of_mem _ (List.mem_append_right _ h)
theorem inn_X10_append_10 : ∀ w ∈ u_ws RX10 TX10 7, w ∈ wsX10_append := fun w h => List.mem_cons_of_mem _ (List.mem_append_right _ h)
theorem inn_X10_forgetFault_10 : ∀ w ∈ u_ws RX10 TX10 7, w ∈ wsX10_forgetFault := fun w h => List.mem_cons_of_mem _ (List.mem_append_right _ h)
theorem inn_X11_count_10 : ∀ w ∈ u_ws RX10 TX10 7, w ∈ wsX11_count := fun w h => List.mem_cons_of_mem _ (List.mem_append_left _ (List.mem_append_left _ (List.mem_append_right _ h)))
theorem inn_X11_count_11 : ∀ w ∈ u_ws RX11 TX11 12, w ∈ wsX11_count := fun w h => List.mem_cons_of_mem _ (List.mem_append_left _ (List.mem_append_left _ (List.mem_append_left _ (List.mem_append_left _ (List.mem_append_right _ h)))))
theorem inn_X11_count_8 : ∀ w ∈ u_ws RX8 TX8 13, w ∈ wsX11_count := fun w h => List.mem_cons_of_mem _ (List.mem_append_left _ (List.mem_append_left _ (List.mem_append_left _ (List.mem_append_right _ h))))
theorem inn_X11_end_10 : ∀ w ∈ u_ws RX10 TX10 7, w ∈ wsX11_end := fun w h => List.mem_cons_of_mem _ (List.mem_append_right _ h)
theorem inn_X11_end_11 : ∀ w ∈ u_ws RX11 TX11 12, w ∈ wsX11_end := fun w h => List.mem_cons_of_mem _ (List.mem_append_left _ (List.mem_append_right _ h))
theorem inn_X11_feed_10 : ∀ w ∈ u_ws RX10 TX10 7, w ∈ wsX11_feed := fun w h => List.mem_cons_of_mem _ (List.mem_append_right _ h)
theorem inn_X11_feed_11 : ∀ w ∈ u_ws RX11 TX11 12, w ∈ wsX11_feed := fun w h => List.mem_cons_of_mem _ (List.mem_append_left _ (List.mem_append_right _ h))
theorem inn_X11_lot_0 : ∀ w ∈ u_ws RX0 TX0 10, w ∈ wsX11_lot := fun w h => List.mem_cons_of_mem _ (List.mem_append_right _ h)
theorem inn_X11_lot_11 : ∀ w ∈ u_ws RX11 TX11 12, w ∈ wsX11_lot := fun w h => List.mem_cons_of_mem _ (List.mem_append_left _ (List.mem_append_right _ h))
theorem inn_X11_mix_11 : ∀ w ∈ u_ws RX11 TX11 12, w ∈ wsX11_mix := fun w h => List.mem_cons_of_mem _ (List.mem_append_left _ (List.mem_append_left _ (List.mem_append_left _ (List.mem_append_left _ (List.mem_append_right _ h)))))
theorem inn_X11_pot_11 : ∀ w ∈ u_ws RX11 TX11 12, w ∈ wsX11_pot := fun w h => List.mem_cons_of_mem _ (List.mem_append_left _ (List.mem_append_left _ (List.mem_append_left _ (List.mem_append_left _ (List.mem_append_right _ h)))))
theorem inn_X11_pot_4 : ∀ w ∈ u_ws RX4 TX4 12, w ∈ wsX11_pot := fun w h => List.mem_cons_of_mem _ (List.mem_append_left _ (List.mem_append_left _ (List.mem_append_left _ (List.mem_append_right _ h))))
theorem inn_X11_price_11 : ∀ w ∈ u_ws RX11 TX11 12, w ∈ wsX11_price := fun w h => List.mem_cons_of_mem _ (List.mem_append_left _ (List.mem_append_right _ h))
theorem inn_X11_price_8 : ∀ w ∈ u_ws RX8 TX8 13, w ∈ wsX11_price := fun w h => List.mem_cons_of_mem _ (List.mem_append_right _ h)
theorem inn_X11_program_11 : ∀ w ∈ u_ws RX11 TX11 12, w ∈ wsX11_program := fun w h => List.mem_cons_of_mem _ (List.mem_append_left _ (List.mem_append_left _ (List.mem_append_left _ (List.mem_append_right _ h))))
theorem inn_X11_shelfAt_11 : ∀ w ∈ u_ws RX11 TX11 12, w ∈ wsX11_shelfAt := fun w h => List.mem_cons_of_mem _ (List.mem_append_right _ h)
theorem inn_X11_shelve_11 : ∀ w ∈ u_ws RX11 TX11 12, w ∈ wsX11_shelve := fun w h => List.mem_cons_of_mem _ (List.mem_append_left _ (List.mem_append_right _ h))
theorem inn_X11_shelve_3 : ∀ w ∈ u_ws RX3 TX3 5, w ∈ wsX11_shelve := fun w h => List.mem_cons_of_mem _ (List.mem_append_left _ (List.mem_append_left _ (List.mem_append_right _ h)))
theorem inn_X11_silkThatGrows_11 : ∀ w ∈ u_ws RX11 TX11 12, w ∈ wsX11_silkThatGrows := fun w h => List.mem_cons_of_mem _ (List.mem_append_left _ (List.mem_append_left _ (List.mem_append_right _ h)))
theorem inn_X11_take_3 : ∀ w ∈ u_ws RX3 TX3 5, w ∈ wsX11_take := fun w h => List.mem_cons_of_mem _ (List.mem_append_left _ (List.mem_append_left _ (List.mem_append_right _ h)))
theorem inn_X12_shelve_12 : ∀ w ∈ u_ws RX12 TX12 66, w ∈ wsX12_shelve := fun w h => List.mem_cons_of_mem _ (List.mem_append_right _ h)
theorem inn_X2_beginFor_2 : ∀ w ∈ u_ws RX2 TX2 8, w ∈ wsX2_beginFor := fun w h => List.mem_cons_of_mem _ (List.mem_append_right _ h)
theorem inn_X2_leastPrice_2 : ∀ w ∈ u_ws RX2 TX2 8, w ∈ wsX2_leastPrice := fun w h => List.mem_cons_of_mem _ (List.mem_append_right _ h)
theorem inn_X2_seek_2 : ∀ w ∈ u_ws RX2 TX2 8, w ∈ wsX2_seek := fun w h => List.mem_cons_of_mem _ (List.mem_append_right _ h)
theorem inn_X3_hasRow_3 : ∀ w ∈ u_ws RX3 TX3 5, w ∈ wsX3_hasRow := fun w h => List.mem_cons_of_mem _ (List.mem_append_right _ h)
theorem inn_X3_putNumber_3 : ∀ w ∈ u_ws RX3 TX3 5, w ∈ wsX3_putNumber := fun w h => List.mem_cons_of_mem _ (List.mem_append_right _ h)
theorem inn_X3_putWord_3 : ∀ w ∈ u_ws RX3 TX3 5, w ∈ wsX3_putWord := fun w h => List.mem_cons_of_mem _ (List.mem_append_right _ h)
theorem inn_X8_mixFor_8 : ∀ w ∈ u_ws RX8 TX8 13, w ∈ wsX8_mixFor := fun w h => List.mem_cons_of_mem _ (List.mem_append_left _ (List.mem_append_left _ (List.mem_append_left _ (List.mem_append_right _ h))))
