theorem dX2_beginFor_0 : decode cX2_beginFor 0 = .ok (.aload_n 0, 1) := by decide +kernel
theorem dX2_beginFor_1 : decode cX2_beginFor 1 = .ok (.iconst 0, 1) := by decide +kernel
theorem dX2_beginFor_2 : decode cX2_beginFor 2 = .ok (.putfield 21, 3) := by decide +kernel
theorem dX2_beginFor_5 : decode cX2_beginFor 5 = .ok (.aload_n 0, 1) := by decide +kernel
theorem dX2_beginFor_6 : decode cX2_beginFor 6 = .ok (.iconst 0, 1) := by decide +kernel
theorem dX2_beginFor_7 : decode cX2_beginFor 7 = .ok (.putfield 25, 3) := by decide +kernel
theorem dX2_beginFor_10 : decode cX2_beginFor 10 = .ok (.aload_n 0, 1) := by decide +kernel
theorem dX2_beginFor_11 : decode cX2_beginFor 11 = .ok (.iload_n 1, 1) := by decide +kernel
theorem dX2_beginFor_12 : decode cX2_beginFor 12 = .ok (.putfield 28, 3) := by decide +kernel
theorem dX2_beginFor_15 : decode cX2_beginFor 15 = .ok (.aload_n 0, 1) := by decide +kernel
theorem dX2_beginFor_16 : decode cX2_beginFor 16 = .ok (.ldc 33, 2) := by decide +kernel
theorem dX2_beginFor_18 : decode cX2_beginFor 18 = .ok (.putfield 34, 3) := by decide +kernel
theorem dX2_beginFor_21 : decode cX2_beginFor 21 = .ok (.aload_n 0, 1) := by decide +kernel
theorem dX2_beginFor_22 : decode cX2_beginFor 22 = .ok (.iconst 0, 1) := by decide +kernel
theorem dX2_beginFor_23 : decode cX2_beginFor 23 = .ok (.putfield 37, 3) := by decide +kernel
theorem dX2_beginFor_26 : decode cX2_beginFor 26 = .ok (.return_, 1) := by decide +kernel
theorem dX2_offer_0 : decode cX2_offer 0 = .ok (.aload_n 0, 1) := by decide +kernel
theorem dX2_offer_1 : decode cX2_offer 1 = .ok (.getfield 21, 3) := by decide +kernel
theorem dX2_offer_4 : decode cX2_offer 4 = .ok (.bipush 14, 2) := by decide +kernel
theorem dX2_offer_6 : decode cX2_offer 6 = .ok (.if_icmp .ge 53, 3) := by decide +kernel
theorem dX2_offer_9 : decode cX2_offer 9 = .ok (.aload_n 0, 1) := by decide +kernel
theorem dX2_offer_10 : decode cX2_offer 10 = .ok (.getfield 9, 3) := by decide +kernel
theorem dX2_offer_13 : decode cX2_offer 13 = .ok (.aload_n 0, 1) := by decide +kernel
theorem dX2_offer_14 : decode cX2_offer 14 = .ok (.getfield 21, 3) := by decide +kernel
theorem dX2_offer_17 : decode cX2_offer 17 = .ok (.iload_n 1, 1) := by decide +kernel
theorem dX2_offer_18 : decode cX2_offer 18 = .ok (.iastore, 1) := by decide +kernel
theorem dX2_offer_19 : decode cX2_offer 19 = .ok (.aload_n 0, 1) := by decide +kernel
theorem dX2_offer_20 : decode cX2_offer 20 = .ok (.getfield 15, 3) := by decide +kernel
theorem dX2_offer_23 : decode cX2_offer 23 = .ok (.aload_n 0, 1) := by decide +kernel
theorem dX2_offer_24 : decode cX2_offer 24 = .ok (.getfield 21, 3) := by decide +kernel
theorem dX2_offer_27 : decode cX2_offer 27 = .ok (.iload_n 2, 1) := by decide +kernel
theorem dX2_offer_28 : decode cX2_offer 28 = .ok (.iastore, 1) := by decide +kernel
theorem dX2_offer_29 : decode cX2_offer 29 = .ok (.aload_n 0, 1) := by decide +kernel
theorem dX2_offer_30 : decode cX2_offer 30 = .ok (.getfield 18, 3) := by decide +kernel
theorem dX2_offer_33 : decode cX2_offer 33 = .ok (.aload_n 0, 1) := by decide +kernel
theorem dX2_offer_34 : decode cX2_offer 34 = .ok (.getfield 21, 3) := by decide +kernel
theorem dX2_offer_37 : decode cX2_offer 37 = .ok (.iload_n 3, 1) := by decide +kernel
theorem dX2_offer_38 : decode cX2_offer 38 = .ok (.iastore, 1) := by decide +kernel
theorem dX2_offer_39 : decode cX2_offer 39 = .ok (.aload_n 0, 1) := by decide +kernel
theorem dX2_offer_40 : decode cX2_offer 40 = .ok (.dup, 1) := by decide +kernel
theorem dX2_offer_41 : decode cX2_offer 41 = .ok (.getfield 21, 3) := by decide +kernel
theorem dX2_offer_44 : decode cX2_offer 44 = .ok (.iconst 1, 1) := by decide +kernel
theorem dX2_offer_45 : decode cX2_offer 45 = .ok (.iadd, 1) := by decide +kernel
theorem dX2_offer_46 : decode cX2_offer 46 = .ok (.putfield 21, 3) := by decide +kernel
theorem dX2_offer_49 : decode cX2_offer 49 = .ok (.aload_n 0, 1) := by decide +kernel
theorem dX2_offer_50 : decode cX2_offer 50 = .ok (.dup, 1) := by decide +kernel
theorem dX2_offer_51 : decode cX2_offer 51 = .ok (.getfield 25, 3) := by decide +kernel
theorem dX2_offer_54 : decode cX2_offer 54 = .ok (.iload_n 2, 1) := by decide +kernel
theorem dX2_offer_55 : decode cX2_offer 55 = .ok (.iadd, 1) := by decide +kernel
theorem dX2_offer_56 : decode cX2_offer 56 = .ok (.putfield 25, 3) := by decide +kernel
theorem dX2_offer_59 : decode cX2_offer 59 = .ok (.return_, 1) := by decide +kernel
set_option maxRecDepth 20000 in
theorem ggX2_leastPrice_X2_seek : GoodIn wsX2_leastPrice wsX2_seek := goodIn_h _ [2, 0, 0, 0, 0, 0, 0, 0, 0, 0, 0, 0, 0, 0, 0, 0, 0, 0] [5, 6, 1, 7, 0, 8, 9, 2, 3, 4, 10, 11, 12, 13, 14, 15, 16, 17] (by decide +kernel) (by decide +kernel)
set_option maxRecDepth 20000 in
theorem gX2_leastPrice_X2_seek : GoodIn wsX2_leastPrice (va_wsS RX2 40 yX2_seek wsX2_seek) := goodIn_app (goodIn_of _ (by decide +kernel)) ggX2_leastPrice_X2_seek
theorem dX2_leastPrice_0 : decode cX2_leastPrice 0 = .ok (.aload_n 0, 1) := by decide +kernel
theorem dX2_leastPrice_1 : decode cX2_leastPrice 1 = .ok (.iconst 0, 1) := by decide +kernel
theorem dX2_leastPrice_2 : decode cX2_leastPrice 2 = .ok (.iconst 0, 1) := by decide +kernel
theorem dX2_leastPrice_3 : decode cX2_leastPrice 3 = .ok (.aload_n 0, 1) := by decide +kernel
theorem dX2_leastPrice_4 : decode cX2_leastPrice 4 = .ok (.getfield 25, 3) := by decide +kernel
theorem dX2_leastPrice_7 : decode cX2_leastPrice 7 = .ok (.iconst 0, 1) := by decide +kernel
theorem dX2_leastPrice_8 : decode cX2_leastPrice 8 = .ok (.invokestatic 40, 3) := by decide +kernel
theorem dX2_leastPrice_11 : decode cX2_leastPrice 11 = .ok (.aload_n 0, 1) := by decide +kernel
theorem dX2_leastPrice_12 : decode cX2_leastPrice 12 = .ok (.getfield 37, 3) := by decide +kernel
theorem dX2_leastPrice_15 : decode cX2_leastPrice 15 = .ok (.ifCond .ne 7, 3) := by decide +kernel
theorem dX2_leastPrice_18 : decode cX2_leastPrice 18 = .ok (.iconst (-1), 1) := by decide +kernel
theorem dX2_leastPrice_19 : decode cX2_leastPrice 19 = .ok (.goto 7, 3) := by decide +kernel
theorem dX2_leastPrice_22 : decode cX2_leastPrice 22 = .ok (.aload_n 0, 1) := by decide +kernel
theorem dX2_leastPrice_23 : decode cX2_leastPrice 23 = .ok (.getfield 34, 3) := by decide +kernel
theorem dX2_leastPrice_26 : decode cX2_leastPrice 26 = .ok (.ireturn, 1) := by decide +kernel
theorem dX2_isChosen_0 : decode cX2_isChosen 0 = .ok (.iconst 0, 1) := by decide +kernel
theorem dX2_isChosen_1 : decode cX2_isChosen 1 = .ok (.istore_n 2, 1) := by decide +kernel
theorem dX2_isChosen_2 : decode cX2_isChosen 2 = .ok (.iload_n 2, 1) := by decide +kernel
theorem dX2_isChosen_3 : decode cX2_isChosen 3 = .ok (.aload_n 0, 1) := by decide +kernel
theorem dX2_isChosen_4 : decode cX2_isChosen 4 = .ok (.getfield 21, 3) := by decide +kernel
theorem dX2_isChosen_7 : decode cX2_isChosen 7 = .ok (.if_icmp .ge 37, 3) := by decide +kernel
theorem dX2_isChosen_10 : decode cX2_isChosen 10 = .ok (.aload_n 0, 1) := by decide +kernel
theorem dX2_isChosen_11 : decode cX2_isChosen 11 = .ok (.getfield 9, 3) := by decide +kernel
theorem dX2_isChosen_14 : decode cX2_isChosen 14 = .ok (.iload_n 2, 1) := by decide +kernel
theorem dX2_isChosen_15 : decode cX2_isChosen 15 = .ok (.iaload, 1) := by decide +kernel
theorem dX2_isChosen_16 : decode cX2_isChosen 16 = .ok (.iload_n 1, 1) := by decide +kernel
theorem dX2_isChosen_17 : decode cX2_isChosen 17 = .ok (.if_icmp .ne 21, 3) := by decide +kernel
theorem dX2_isChosen_20 : decode cX2_isChosen 20 = .ok (.aload_n 0, 1) := by decide +kernel
theorem dX2_isChosen_21 : decode cX2_isChosen 21 = .ok (.getfield 37, 3) := by decide +kernel
theorem dX2_isChosen_24 : decode cX2_isChosen 24 = .ok (.iload_n 2, 1) := by decide +kernel
theorem dX2_isChosen_25 : decode cX2_isChosen 25 = .ok (.ishr, 1) := by decide +kernel
theorem dX2_isChosen_26 : decode cX2_isChosen 26 = .ok (.iconst 1, 1) := by decide +kernel
theorem dX2_isChosen_27 : decode cX2_isChosen 27 = .ok (.iand, 1) := by decide +kernel
theorem dX2_isChosen_28 : decode cX2_isChosen 28 = .ok (.iconst 1, 1) := by decide +kernel
theorem dX2_isChosen_29 : decode cX2_isChosen 29 = .ok (.if_icmp .ne 7, 3) := by decide +kernel
theorem dX2_isChosen_32 : decode cX2_isChosen 32 = .ok (.iconst 1, 1) := by decide +kernel
theorem dX2_isChosen_33 : decode cX2_isChosen 33 = .ok (.goto 4, 3) := by decide +kernel
theorem dX2_isChosen_36 : decode cX2_isChosen 36 = .ok (.iconst 0, 1) := by decide +kernel
theorem dX2_isChosen_37 : decode cX2_isChosen 37 = .ok (.ireturn, 1) := by decide +kernel
theorem dX2_isChosen_38 : decode cX2_isChosen 38 = .ok (.iinc 2 1, 3) := by decide +kernel
theorem dX2_isChosen_41 : decode cX2_isChosen 41 = .ok (.goto (-39), 3) := by decide +kernel
theorem dX2_isChosen_44 : decode cX2_isChosen 44 = .ok (.iconst 0, 1) := by decide +kernel
theorem dX2_isChosen_45 : decode cX2_isChosen 45 = .ok (.ireturn, 1) := by decide +kernel
set_option maxRecDepth 20000 in
theorem ggX2_seek_X2_seek : GoodIn wsX2_seek wsX2_seek := goodIn_h _ [0, 0, 0, 0, 0, 0, 0, 0, 0, 0, 0, 0, 0, 0, 0, 0, 0, 0] [0, 1, 2, 3, 4, 5, 6, 7, 8, 9, 10, 11, 12, 13, 14, 15, 16, 17] (by decide +kernel) (by decide +kernel)
set_option maxRecDepth 20000 in
theorem gX2_seek_X2_seek : GoodIn wsX2_seek (va_wsS RX2 40 yX2_seek wsX2_seek) := goodIn_app (goodIn_of _ (by decide +kernel)) ggX2_seek_X2_seek
theorem dX2_seek_0 : decode cX2_seek 0 = .ok (.iload_n 3, 1) := by decide +kernel
theorem dX2_seek_1 : decode cX2_seek 1 = .ok (.aload_n 0, 1) := by decide +kernel
theorem dX2_seek_2 : decode cX2_seek 2 = .ok (.getfield 28, 3) := by decide +kernel
theorem dX2_seek_5 : decode cX2_seek 5 = .ok (.if_icmp .lt 12, 3) := by decide +kernel
theorem dX2_seek_8 : decode cX2_seek 8 = .ok (.iload 4, 2) := by decide +kernel
theorem dX2_seek_10 : decode cX2_seek 10 = .ok (.aload_n 0, 1) := by decide +kernel
theorem dX2_seek_11 : decode cX2_seek 11 = .ok (.getfield 34, 3) := by decide +kernel
theorem dX2_seek_14 : decode cX2_seek 14 = .ok (.if_icmp .lt 4, 3) := by decide +kernel
theorem dX2_seek_17 : decode cX2_seek 17 = .ok (.return_, 1) := by decide +kernel
theorem dX2_seek_18 : decode cX2_seek 18 = .ok (.iload_n 1, 1) := by decide +kernel
theorem dX2_seek_19 : decode cX2_seek 19 = .ok (.aload_n 0, 1) := by decide +kernel
theorem dX2_seek_20 : decode cX2_seek 20 = .ok (.getfield 21, 3) := by decide +kernel
theorem dX2_seek_23 : decode cX2_seek 23 = .ok (.if_icmp .ge 9, 3) := by decide +kernel
theorem dX2_seek_26 : decode cX2_seek 26 = .ok (.iload_n 1, 1) := by decide +kernel
theorem dX2_seek_27 : decode cX2_seek 27 = .ok (.bipush 14, 2) := by decide +kernel
theorem dX2_seek_29 : decode cX2_seek 29 = .ok (.if_icmp .lt 15, 3) := by decide +kernel
theorem dX2_seek_32 : decode cX2_seek 32 = .ok (.aload_n 0, 1) := by decide +kernel
theorem dX2_seek_33 : decode cX2_seek 33 = .ok (.iload 4, 2) := by decide +kernel
theorem dX2_seek_35 : decode cX2_seek 35 = .ok (.putfield 34, 3) := by decide +kernel
theorem dX2_seek_38 : decode cX2_seek 38 = .ok (.aload_n 0, 1) := by decide +kernel
theorem dX2_seek_39 : decode cX2_seek 39 = .ok (.iload_n 2, 1) := by decide +kernel
theorem dX2_seek_40 : decode cX2_seek 40 = .ok (.putfield 37, 3) := by decide +kernel
theorem dX2_seek_43 : decode cX2_seek 43 = .ok (.return_, 1) := by decide +kernel
theorem dX2_seek_44 : decode cX2_seek 44 = .ok (.aload_n 0, 1) := by decide +kernel
theorem dX2_seek_45 : decode cX2_seek 45 = .ok (.iload_n 1, 1) := by decide +kernel
theorem dX2_seek_46 : decode cX2_seek 46 = .ok (.iconst 1, 1) := by decide +kernel
theorem dX2_seek_47 : decode cX2_seek 47 = .ok (.iadd, 1) := by decide +kernel
theorem dX2_seek_48 : decode cX2_seek 48 = .ok (.iload_n 2, 1) := by decide +kernel
theorem dX2_seek_49 : decode cX2_seek 49 = .ok (.iconst 1, 1) := by decide +kernel
theorem dX2_seek_50 : decode cX2_seek 50 = .ok (.iload_n 1, 1) := by decide +kernel
theorem dX2_seek_51 : decode cX2_seek 51 = .ok (.ishl, 1) := by decide +kernel
theorem dX2_seek_52 : decode cX2_seek 52 = .ok (.ior, 1) := by decide +kernel
theorem dX2_seek_53 : decode cX2_seek 53 = .ok (.iload_n 3, 1) := by decide +kernel
theorem dX2_seek_54 : decode cX2_seek 54 = .ok (.iload 4, 2) := by decide +kernel
theorem dX2_seek_56 : decode cX2_seek 56 = .ok (.aload_n 0, 1) := by decide +kernel
theorem dX2_seek_57 : decode cX2_seek 57 = .ok (.getfield 18, 3) := by decide +kernel
theorem dX2_seek_60 : decode cX2_seek 60 = .ok (.iload_n 1, 1) := by decide +kernel
theorem dX2_seek_61 : decode cX2_seek 61 = .ok (.iaload, 1) := by decide +kernel
theorem dX2_seek_62 : decode cX2_seek 62 = .ok (.iadd, 1) := by decide +kernel
theorem dX2_seek_63 : decode cX2_seek 63 = .ok (.invokestatic 40, 3) := by decide +kernel
theorem dX2_seek_66 : decode cX2_seek 66 = .ok (.aload_n 0, 1) := by decide +kernel
theorem dX2_seek_67 : decode cX2_seek 67 = .ok (.iload_n 1, 1) := by decide +kernel
theorem dX2_seek_68 : decode cX2_seek 68 = .ok (.iconst 1, 1) := by decide +kernel
theorem dX2_seek_69 : decode cX2_seek 69 = .ok (.iadd, 1) := by decide +kernel
theorem dX2_seek_70 : decode cX2_seek 70 = .ok (.iload_n 2, 1) := by decide +kernel
theorem dX2_seek_71 : decode cX2_seek 71 = .ok (.iload_n 3, 1) := by decide +kernel
theorem dX2_seek_72 : decode cX2_seek 72 = .ok (.aload_n 0, 1) := by decide +kernel
theorem dX2_seek_73 : decode cX2_seek 73 = .ok (.getfield 15, 3) := by decide +kernel
theorem dX2_seek_76 : decode cX2_seek 76 = .ok (.iload_n 1, 1) := by decide +kernel
theorem dX2_seek_77 : decode cX2_seek 77 = .ok (.iaload, 1) := by decide +kernel
theorem dX2_seek_78 : decode cX2_seek 78 = .ok (.isub, 1) := by decide +kernel
theorem dX2_seek_79 : decode cX2_seek 79 = .ok (.iload 4, 2) := by decide +kernel
theorem dX2_seek_81 : decode cX2_seek 81 = .ok (.invokestatic 40, 3) := by decide +kernel
theorem dX2_seek_84 : decode cX2_seek 84 = .ok (.return_, 1) := by decide +kernel
theorem dX3_hasRow_0 : decode cX3_hasRow 0 = .ok (.aload_n 0, 1) := by decide +kernel
theorem dX3_hasRow_1 : decode cX3_hasRow 1 = .ok (.getfield 9, 3) := by decide +kernel
theorem dX3_hasRow_4 : decode cX3_hasRow 4 = .ok (.iconst 2, 1) := by decide +kernel
theorem dX3_hasRow_5 : decode cX3_hasRow 5 = .ok (.if_icmp .ne 14, 3) := by decide +kernel
theorem dX3_hasRow_8 : decode cX3_hasRow 8 = .ok (.aload_n 0, 1) := by decide +kernel
theorem dX3_hasRow_9 : decode cX3_hasRow 9 = .ok (.getfield 19, 3) := by decide +kernel
theorem dX3_hasRow_12 : decode cX3_hasRow 12 = .ok (.ifCond .le 7, 3) := by decide +kernel
theorem dX3_hasRow_15 : decode cX3_hasRow 15 = .ok (.iconst 1, 1) := by decide +kernel
theorem dX3_hasRow_16 : decode cX3_hasRow 16 = .ok (.goto 4, 3) := by decide +kernel
theorem dX3_hasRow_19 : decode cX3_hasRow 19 = .ok (.iconst 0, 1) := by decide +kernel
theorem dX3_hasRow_20 : decode cX3_hasRow 20 = .ok (.ireturn, 1) := by decide +kernel
theorem dX3_putCocoon_0 : decode cX3_putCocoon 0 = .ok (.aload_n 1, 1) := by decide +kernel
theorem dX3_putCocoon_1 : decode cX3_putCocoon 1 = .ok (.ifnull 10, 3) := by decide +kernel
theorem dX3_putCocoon_4 : decode cX3_putCocoon 4 = .ok (.aload_n 1, 1) := by decide +kernel
theorem dX3_putCocoon_5 : decode cX3_putCocoon 5 = .ok (.getfield 22, 3) := by decide +kernel
theorem dX3_putCocoon_8 : decode cX3_putCocoon 8 = .ok (.ifCond .eq 5, 3) := by decide +kernel
theorem dX3_putCocoon_11 : decode cX3_putCocoon 11 = .ok (.iconst 0, 1) := by decide +kernel
theorem dX3_putCocoon_12 : decode cX3_putCocoon 12 = .ok (.ireturn, 1) := by decide +kernel
theorem dX3_putCocoon_13 : decode cX3_putCocoon 13 = .ok (.aload_n 1, 1) := by decide +kernel
theorem dX3_putCocoon_14 : decode cX3_putCocoon 14 = .ok (.iconst 5, 1) := by decide +kernel
theorem dX3_putCocoon_15 : decode cX3_putCocoon 15 = .ok (.putfield 22, 3) := by decide +kernel
theorem dX3_putCocoon_18 : decode cX3_putCocoon 18 = .ok (.aload_n 0, 1) := by decide +kernel
theorem dX3_putCocoon_19 : decode cX3_putCocoon 19 = .ok (.aload_n 1, 1) := by decide +kernel
theorem dX3_putCocoon_20 : decode cX3_putCocoon 20 = .ok (.putfield 27, 3) := by decide +kernel
theorem dX3_putCocoon_23 : decode cX3_putCocoon 23 = .ok (.aload_n 0, 1) := by decide +kernel
theorem dX3_putCocoon_24 : decode cX3_putCocoon 24 = .ok (.iconst 0, 1) := by decide +kernel
theorem dX3_putCocoon_25 : decode cX3_putCocoon 25 = .ok (.putfield 9, 3) := by decide +kernel
theorem dX3_putCocoon_28 : decode cX3_putCocoon 28 = .ok (.iconst 1, 1) := by decide +kernel
theorem dX3_putCocoon_29 : decode cX3_putCocoon 29 = .ok (.ireturn, 1) := by decide +kernel
theorem dX3_putNumber_0 : decode cX3_putNumber 0 = .ok (.aload_n 0, 1) := by decide +kernel
theorem dX3_putNumber_1 : decode cX3_putNumber 1 = .ok (.iload_n 1, 1) := by decide +kernel
theorem dX3_putNumber_2 : decode cX3_putNumber 2 = .ok (.putfield 31, 3) := by decide +kernel
theorem dX3_putNumber_5 : decode cX3_putNumber 5 = .ok (.aload_n 0, 1) := by decide +kernel
theorem dX3_putNumber_6 : decode cX3_putNumber 6 = .ok (.iconst 1, 1) := by decide +kernel
theorem dX3_putNumber_7 : decode cX3_putNumber 7 = .ok (.putfield 9, 3) := by decide +kernel
theorem dX3_putNumber_10 : decode cX3_putNumber 10 = .ok (.iconst 1, 1) := by decide +kernel
theorem dX3_putNumber_11 : decode cX3_putNumber 11 = .ok (.ireturn, 1) := by decide +kernel
set_option maxRecDepth 20000 in
theorem ggX3_putWord_X11_isWithin : GoodIn wsX3_putWord wsX11_isWithin := goodIn_h _ [6] [0] (by decide +kernel) (by decide +kernel)
set_option maxRecDepth 20000 in
theorem gX3_putWord_X11_isWithin_n34 : GoodIn wsX3_putWord (wsX11_isWithin) := ggX3_putWord_X11_isWithin
set_option maxRecDepth 20000 in
theorem ggX3_putWord_J7_fill_53178 : GoodIn wsX3_putWord wsJ7_fill_53178 := goodIn_h _ [10] [0] (by decide +kernel) (by decide +kernel)
set_option maxRecDepth 20000 in
theorem gX3_putWord_J7_fill_53178 : GoodIn wsX3_putWord (va_wsS RX3 38 yJ7_fill_53178 wsJ7_fill_53178) := goodIn_app (goodIn_of _ (by decide +kernel)) ggX3_putWord_J7_fill_53178
theorem dX3_putWord_0 : decode cX3_putWord 0 = .ok (.iload_n 1, 1) := by decide +kernel
theorem dX3_putWord_1 : decode cX3_putWord 1 = .ok (.iconst 0, 1) := by decide +kernel
theorem dX3_putWord_2 : decode cX3_putWord 2 = .ok (.bipush 8, 2) := by decide +kernel
theorem dX3_putWord_4 : decode cX3_putWord 4 = .ok (.invokestatic 34, 3) := by decide +kernel
theorem dX3_putWord_7 : decode cX3_putWord 7 = .ok (.ifCond .ne 5, 3) := by decide +kernel
theorem dX3_putWord_10 : decode cX3_putWord 10 = .ok (.iconst 0, 1) := by decide +kernel
theorem dX3_putWord_11 : decode cX3_putWord 11 = .ok (.ireturn, 1) := by decide +kernel
theorem dX3_putWord_12 : decode cX3_putWord 12 = .ok (.aload_n 0, 1) := by decide +kernel
theorem dX3_putWord_13 : decode cX3_putWord 13 = .ok (.getfield 15, 3) := by decide +kernel
theorem dX3_putWord_16 : decode cX3_putWord 16 = .ok (.iload_n 2, 1) := by decide +kernel
theorem dX3_putWord_17 : decode cX3_putWord 17 = .ok (.invokestatic 38, 3) := by decide +kernel
theorem dX3_putWord_20 : decode cX3_putWord 20 = .ok (.aload_n 0, 1) := by decide +kernel
theorem dX3_putWord_21 : decode cX3_putWord 21 = .ok (.iload_n 1, 1) := by decide +kernel
theorem dX3_putWord_22 : decode cX3_putWord 22 = .ok (.putfield 19, 3) := by decide +kernel
theorem dX3_putWord_25 : decode cX3_putWord 25 = .ok (.aload_n 0, 1) := by decide +kernel
theorem dX3_putWord_26 : decode cX3_putWord 26 = .ok (.iconst 2, 1) := by decide +kernel
theorem dX3_putWord_27 : decode cX3_putWord 27 = .ok (.putfield 9, 3) := by decide +kernel
theorem dX3_putWord_30 : decode cX3_putWord 30 = .ok (.iconst 1, 1) := by decide +kernel
theorem dX3_putWord_31 : decode cX3_putWord 31 = .ok (.ireturn, 1) := by decide +kernel
set_option maxRecDepth 20000 in
theorem ggX3_giveUp_X3_sumOfWord : GoodIn wsX3_giveUp wsX3_sumOfWord := goodIn_h _ [7, 0, 0, 13, 0, 0, 0, 0] [0, 1, 2, 3, 4, 5, 6, 7] (by decide +kernel) (by decide +kernel)
set_option maxRecDepth 20000 in
theorem gX3_giveUp_X3_sumOfWord : GoodIn wsX3_giveUp (wsV RX3 44 RX3 yX3_sumOfWord wsX3_sumOfWord) := goodIn_app (goodIn_of _ (by decide +kernel)) ggX3_giveUp_X3_sumOfWord
set_option maxRecDepth 20000 in
theorem ggX3_giveUp_X3_returnCocoon : GoodIn wsX3_giveUp wsX3_returnCocoon := goodIn_h _ [13, 0, 0, 0, 0, 0, 0, 0, 0, 0, 0, 0, 0, 0, 0, 0, 0, 0, 0, 0, 0, 0, 0, 0, 0] [0, 1, 2, 3, 4, 5, 6, 7, 8, 9, 10, 11, 12, 13, 14, 15, 16, 17, 18, 19, 20, 21, 22, 23, 24] (by decide +kernel) (by decide +kernel)
set_option maxRecDepth 20000 in
theorem gX3_giveUp_X3_returnCocoon : GoodIn wsX3_giveUp (wsV RX3 48 RX3 yX3_returnCocoon wsX3_returnCocoon) := goodIn_app (goodIn_of _ (by decide +kernel)) ggX3_giveUp_X3_returnCocoon
theorem dX3_giveUp_0 : decode cX3_giveUp 0 = .ok (.aload_n 0, 1) := by decide +kernel
theorem dX3_giveUp_1 : decode cX3_giveUp 1 = .ok (.getfield 9, 3) := by decide +kernel
theorem dX3_giveUp_4 : decode cX3_giveUp 4 = .ok (.istore_n 1, 1) := by decide +kernel
theorem dX3_giveUp_5 : decode cX3_giveUp 5 = .ok (.aload_n 0, 1) := by decide +kernel
theorem dX3_giveUp_6 : decode cX3_giveUp 6 = .ok (.iconst (-1), 1) := by decide +kernel
theorem dX3_giveUp_7 : decode cX3_giveUp 7 = .ok (.putfield 9, 3) := by decide +kernel
theorem dX3_giveUp_10 : decode cX3_giveUp 10 = .ok (.iload_n 1, 1) := by decide +kernel
theorem dX3_giveUp_11 : decode cX3_giveUp 11 = .ok (.iconst 1, 1) := by decide +kernel
theorem dX3_giveUp_12 : decode cX3_giveUp 12 = .ok (.if_icmp .ne 8, 3) := by decide +kernel
theorem dX3_giveUp_15 : decode cX3_giveUp 15 = .ok (.aload_n 0, 1) := by decide +kernel
theorem dX3_giveUp_16 : decode cX3_giveUp 16 = .ok (.getfield 31, 3) := by decide +kernel
theorem dX3_giveUp_19 : decode cX3_giveUp 19 = .ok (.ireturn, 1) := by decide +kernel
theorem dX3_giveUp_20 : decode cX3_giveUp 20 = .ok (.iload_n 1, 1) := by decide +kernel
theorem dX3_giveUp_21 : decode cX3_giveUp 21 = .ok (.iconst 2, 1) := by decide +kernel
theorem dX3_giveUp_22 : decode cX3_giveUp 22 = .ok (.if_icmp .ne 10, 3) := by decide +kernel
theorem dX3_giveUp_25 : decode cX3_giveUp 25 = .ok (.aload_n 0, 1) := by decide +kernel
theorem dX3_giveUp_26 : decode cX3_giveUp 26 = .ok (.invokevirtual 44, 3) := by decide +kernel
theorem dX3_giveUp_29 : decode cX3_giveUp 29 = .ok (.goto 7, 3) := by decide +kernel
theorem dX3_giveUp_32 : decode cX3_giveUp 32 = .ok (.aload_n 0, 1) := by decide +kernel
theorem dX3_giveUp_33 : decode cX3_giveUp 33 = .ok (.invokevirtual 48, 3) := by decide +kernel
theorem dX3_giveUp_36 : decode cX3_giveUp 36 = .ok (.ireturn, 1) := by decide +kernel
theorem dX3_sumOfWord_0 : decode cX3_sumOfWord 0 = .ok (.iconst 0, 1) := by decide +kernel
theorem dX3_sumOfWord_1 : decode cX3_sumOfWord 1 = .ok (.istore_n 1, 1) := by decide +kernel
theorem dX3_sumOfWord_2 : decode cX3_sumOfWord 2 = .ok (.iconst 0, 1) := by decide +kernel
theorem dX3_sumOfWord_3 : decode cX3_sumOfWord 3 = .ok (.istore_n 2, 1) := by decide +kernel
theorem dX3_sumOfWord_4 : decode cX3_sumOfWord 4 = .ok (.iload_n 2, 1) := by decide +kernel
theorem dX3_sumOfWord_5 : decode cX3_sumOfWord 5 = .ok (.aload_n 0, 1) := by decide +kernel
theorem dX3_sumOfWord_6 : decode cX3_sumOfWord 6 = .ok (.getfield 19, 3) := by decide +kernel
theorem dX3_sumOfWord_9 : decode cX3_sumOfWord 9 = .ok (.if_icmp .ge 24, 3) := by decide +kernel
theorem dX3_sumOfWord_12 : decode cX3_sumOfWord 12 = .ok (.iload_n 2, 1) := by decide +kernel
theorem dX3_sumOfWord_13 : decode cX3_sumOfWord 13 = .ok (.bipush 8, 2) := by decide +kernel
theorem dX3_sumOfWord_15 : decode cX3_sumOfWord 15 = .ok (.if_icmp .ge 18, 3) := by decide +kernel
theorem dX3_sumOfWord_18 : decode cX3_sumOfWord 18 = .ok (.iload_n 1, 1) := by decide +kernel
theorem dX3_sumOfWord_19 : decode cX3_sumOfWord 19 = .ok (.aload_n 0, 1) := by decide +kernel
theorem dX3_sumOfWord_20 : decode cX3_sumOfWord 20 = .ok (.getfield 15, 3) := by decide +kernel
theorem dX3_sumOfWord_23 : decode cX3_sumOfWord 23 = .ok (.iload_n 2, 1) := by decide +kernel
theorem dX3_sumOfWord_24 : decode cX3_sumOfWord 24 = .ok (.iaload, 1) := by decide +kernel
theorem dX3_sumOfWord_25 : decode cX3_sumOfWord 25 = .ok (.iadd, 1) := by decide +kernel
theorem dX3_sumOfWord_26 : decode cX3_sumOfWord 26 = .ok (.istore_n 1, 1) := by decide +kernel
theorem dX3_sumOfWord_27 : decode cX3_sumOfWord 27 = .ok (.iinc 2 1, 3) := by decide +kernel
theorem dX3_sumOfWord_30 : decode cX3_sumOfWord 30 = .ok (.goto (-26), 3) := by decide +kernel
theorem dX3_sumOfWord_33 : decode cX3_sumOfWord 33 = .ok (.iload_n 1, 1) := by decide +kernel
theorem dX3_sumOfWord_34 : decode cX3_sumOfWord 34 = .ok (.ireturn, 1) := by decide +kernel
set_option maxRecDepth 20000 in
theorem ggX3_returnCocoon_X0_code : GoodIn wsX3_returnCocoon wsX0_code := goodIn_h _ [7, 0, 0, 5, 0, 0, 0, 0, 0, 0, 0, 0, 0] [0, 1, 2, 3, 4, 5, 6, 7, 8, 9, 10, 11, 12] (by decide +kernel) (by decide +kernel)
set_option maxRecDepth 20000 in
theorem gX3_returnCocoon_X0_code : GoodIn wsX3_returnCocoon (wsV RX3 51 RX0 yX0_code wsX0_code) := goodIn_app (goodIn_of _ (by decide +kernel)) ggX3_returnCocoon_X0_code
theorem dX3_returnCocoon_0 : decode cX3_returnCocoon 0 = .ok (.aload_n 0, 1) := by decide +kernel
theorem dX3_returnCocoon_1 : decode cX3_returnCocoon 1 = .ok (.getfield 27, 3) := by decide +kernel
theorem dX3_returnCocoon_4 : decode cX3_returnCocoon 4 = .ok (.ifnonnull 5, 3) := by decide +kernel
theorem dX3_returnCocoon_7 : decode cX3_returnCocoon 7 = .ok (.iconst (-1), 1) := by decide +kernel
theorem dX3_returnCocoon_8 : decode cX3_returnCocoon 8 = .ok (.ireturn, 1) := by decide +kernel
theorem dX3_returnCocoon_9 : decode cX3_returnCocoon 9 = .ok (.aload_n 0, 1) := by decide +kernel
theorem dX3_returnCocoon_10 : decode cX3_returnCocoon 10 = .ok (.getfield 27, 3) := by decide +kernel
theorem dX3_returnCocoon_13 : decode cX3_returnCocoon 13 = .ok (.iconst 0, 1) := by decide +kernel
theorem dX3_returnCocoon_14 : decode cX3_returnCocoon 14 = .ok (.putfield 22, 3) := by decide +kernel
theorem dX3_returnCocoon_17 : decode cX3_returnCocoon 17 = .ok (.aload_n 0, 1) := by decide +kernel
theorem dX3_returnCocoon_18 : decode cX3_returnCocoon 18 = .ok (.getfield 27, 3) := by decide +kernel
theorem dX3_returnCocoon_21 : decode cX3_returnCocoon 21 = .ok (.invokevirtual 51, 3) := by decide +kernel
theorem dX3_returnCocoon_24 : decode cX3_returnCocoon 24 = .ok (.ireturn, 1) := by decide +kernel
theorem dX8_skeinAt_0 : decode cX8_skeinAt 0 = .ok (.iload_n 1, 1) := by decide +kernel
theorem dX8_skeinAt_1 : decode cX8_skeinAt 1 = .ok (.ifCond .lt 11, 3) := by decide +kernel
theorem dX8_skeinAt_4 : decode cX8_skeinAt 4 = .ok (.iload_n 1, 1) := by decide +kernel
theorem dX8_skeinAt_5 : decode cX8_skeinAt 5 = .ok (.aload_n 0, 1) := by decide +kernel
theorem dX8_skeinAt_6 : decode cX8_skeinAt 6 = .ok (.getfield 37, 3) := by decide +kernel
theorem dX8_skeinAt_9 : decode cX8_skeinAt 9 = .ok (.if_icmp .lt 7, 3) := by decide +kernel
theorem dX8_skeinAt_12 : decode cX8_skeinAt 12 = .ok (.aconst_null, 1) := by decide +kernel
theorem dX8_skeinAt_13 : decode cX8_skeinAt 13 = .ok (.goto 9, 3) := by decide +kernel
theorem dX8_skeinAt_16 : decode cX8_skeinAt 16 = .ok (.aload_n 0, 1) := by decide +kernel
theorem dX8_skeinAt_17 : decode cX8_skeinAt 17 = .ok (.getfield 17, 3) := by decide +kernel
theorem dX8_skeinAt_20 : decode cX8_skeinAt 20 = .ok (.iload_n 1, 1) := by decide +kernel
theorem dX8_skeinAt_21 : decode cX8_skeinAt 21 = .ok (.aaload, 1) := by decide +kernel
theorem dX8_skeinAt_22 : decode cX8_skeinAt 22 = .ok (.areturn, 1) := by decide +kernel
set_option maxRecDepth 20000 in
theorem ggX8_priceOf_X11_isWithin : GoodIn wsX8_priceOf wsX11_isWithin := goodIn_h _ [7] [0] (by decide +kernel) (by decide +kernel)
set_option maxRecDepth 20000 in
theorem gX8_priceOf_X11_isWithin_n64 : GoodIn wsX8_priceOf (wsX11_isWithin) := ggX8_priceOf_X11_isWithin
theorem dX8_priceOf_0 : decode cX8_priceOf 0 = .ok (.aload_n 1, 1) := by decide +kernel
theorem dX8_priceOf_1 : decode cX8_priceOf 1 = .ok (.getfield 61, 3) := by decide +kernel
theorem dX8_priceOf_4 : decode cX8_priceOf 4 = .ok (.iconst 0, 1) := by decide +kernel
theorem dX8_priceOf_5 : decode cX8_priceOf 5 = .ok (.iconst 3, 1) := by decide +kernel
theorem dX8_priceOf_6 : decode cX8_priceOf 6 = .ok (.invokestatic 64, 3) := by decide +kernel
theorem dX8_priceOf_9 : decode cX8_priceOf 9 = .ok (.ifCond .eq 10, 3) := by decide +kernel
theorem dX8_priceOf_12 : decode cX8_priceOf 12 = .ok (.aload_n 1, 1) := by decide +kernel
theorem dX8_priceOf_13 : decode cX8_priceOf 13 = .ok (.getfield 61, 3) := by decide +kernel
theorem dX8_priceOf_16 : decode cX8_priceOf 16 = .ok (.goto 4, 3) := by decide +kernel
theorem dX8_priceOf_19 : decode cX8_priceOf 19 = .ok (.iconst 3, 1) := by decide +kernel
theorem dX8_priceOf_20 : decode cX8_priceOf 20 = .ok (.istore_n 2, 1) := by decide +kernel
theorem dX8_priceOf_21 : decode cX8_priceOf 21 = .ok (.aload_n 1, 1) := by decide +kernel
theorem dX8_priceOf_22 : decode cX8_priceOf 22 = .ok (.getfield 68, 3) := by decide +kernel
theorem dX8_priceOf_25 : decode cX8_priceOf 25 = .ok (.getfield 44, 3) := by decide +kernel
theorem dX8_priceOf_28 : decode cX8_priceOf 28 = .ok (.aload_n 0, 1) := by decide +kernel
theorem dX8_priceOf_29 : decode cX8_priceOf 29 = .ok (.getfield 9, 3) := by decide +kernel
theorem dX8_priceOf_32 : decode cX8_priceOf 32 = .ok (.iload_n 2, 1) := by decide +kernel
theorem dX8_priceOf_33 : decode cX8_priceOf 33 = .ok (.iaload, 1) := by decide +kernel
theorem dX8_priceOf_34 : decode cX8_priceOf 34 = .ok (.imul, 1) := by decide +kernel
theorem dX8_priceOf_35 : decode cX8_priceOf 35 = .ok (.bipush 100, 2) := by decide +kernel
theorem dX8_priceOf_37 : decode cX8_priceOf 37 = .ok (.idiv, 1) := by decide +kernel
theorem dX8_priceOf_38 : decode cX8_priceOf 38 = .ok (.ireturn, 1) := by decide +kernel
set_option maxRecDepth 20000 in
theorem ggX8_mixFor_X2_beginFor : GoodIn wsX8_mixFor wsX2_beginFor := goodIn_h _ [12, 0, 0, 0, 0, 0, 0, 70, 0, 0, 0, 0, 0, 0, 0] [0, 1, 2, 3, 4, 5, 6, 7, 8, 9, 10, 11, 12, 13, 14] (by decide +kernel) (by decide +kernel)
set_option maxRecDepth 20000 in
theorem gX8_mixFor_X2_beginFor : GoodIn wsX8_mixFor (wsV RX8 72 RX2 yX2_beginFor wsX2_beginFor) := goodIn_app (goodIn_of _ (by decide +kernel)) ggX8_mixFor_X2_beginFor
set_option maxRecDepth 20000 in
theorem ggX8_mixFor_X8_skeinAt : GoodIn wsX8_mixFor wsX8_skeinAt := goodIn_h _ [2, 20, 0, 32, 0, 0, 0, 0, 0, 0, 0, 0, 0, 0, 0, 0] [1, 0, 2, 3, 4, 5, 6, 7, 8, 9, 10, 11, 12, 13, 14, 15] (by decide +kernel) (by decide +kernel)
set_option maxRecDepth 20000 in
theorem gX8_mixFor_X8_skeinAt : GoodIn wsX8_mixFor (wsV RX8 76 RX8 yX8_skeinAt wsX8_skeinAt) := goodIn_app (goodIn_of _ (by decide +kernel)) ggX8_mixFor_X8_skeinAt
set_option maxRecDepth 20000 in
theorem ggX8_mixFor_X8_priceOf : GoodIn wsX8_mixFor wsX8_priceOf := goodIn_h _ [6, 0, 20, 0, 0, 0, 0, 0, 23, 0, 0, 0, 0, 0, 0, 0, 0, 0, 0, 0, 0, 0, 0, 0, 0, 0, 0, 0, 0, 0, 0, 0, 0, 0, 0, 0, 0, 0, 0, 0] [2, 3, 0, 1, 4, 5, 6, 7, 21, 22, 23, 24, 25, 26, 27, 28, 29, 30, 31, 32, 33, 34, 35, 36, 37, 38, 39, 8, 9, 10, 11, 12, 13, 14, 15, 16, 17, 18, 19, 20] (by decide +kernel) (by decide +kernel)
set_option maxRecDepth 20000 in
theorem gX8_mixFor_X8_priceOf : GoodIn wsX8_mixFor (wsV RX8 90 RX8 yX8_priceOf wsX8_priceOf) := goodIn_app (goodIn_of _ (by decide +kernel)) ggX8_mixFor_X8_priceOf
set_option maxRecDepth 20000 in
theorem ggX8_mixFor_X2_offer : GoodIn wsX8_mixFor wsX2_offer := goodIn_h _ [13, 0, 22, 0, 0, 0, 48, 0, 0, 0, 0, 0, 0, 0] [2, 0, 3, 4, 5, 1, 6, 7, 8, 9, 10, 11, 12, 13] (by decide +kernel) (by decide +kernel)
set_option maxRecDepth 20000 in
theorem gX8_mixFor_X2_offer : GoodIn wsX8_mixFor (wsV RX8 94 RX2 yX2_offer wsX2_offer) := goodIn_app (goodIn_of _ (by decide +kernel)) ggX8_mixFor_X2_offer
set_option maxRecDepth 20000 in
theorem ggX8_mixFor_X2_leastPrice : GoodIn wsX8_mixFor wsX2_leastPrice := goodIn_h _ [11, 1, 0, 0, 1, 0, 20, 0, 3, 0, 0, 0, 41, 0, 0, 0, 0, 0, 0, 0] [8, 2, 5, 4, 9, 10, 0, 11, 3, 1, 7, 6, 12, 13, 14, 15, 16, 17, 18, 19] (by decide +kernel) (by decide +kernel)
set_option maxRecDepth 20000 in
theorem gX8_mixFor_X2_leastPrice : GoodIn wsX8_mixFor (wsV RX8 98 RX2 yX2_leastPrice wsX2_leastPrice) := goodIn_app (goodIn_of _ (by decide +kernel)) ggX8_mixFor_X2_leastPrice
set_option maxRecDepth 20000 in
theorem ggX8_mixFor_X8_markMix : GoodIn wsX8_mixFor wsX8_markMix := goodIn_h _ [1, 0, 0, 7, 1, 4, 0, 0, 0, 0, 0, 0, 13, 12, 0, 0, 0, 0, 0, 0, 0, 0, 0, 0, 0, 0, 0, 0, 0, 0, 0, 0, 0, 0, 0, 0, 0, 0, 0, 0, 0, 0, 9, 0, 0, 0, 0, 0, 0, 0] [13, 1, 0, 14, 2, 6, 7, 8, 9, 10, 11, 15, 16, 17, 3, 18, 4, 12, 5, 19, 20, 21, 22, 23, 24, 25, 26, 27, 28, 29, 30, 31, 32, 33, 34, 35, 36, 37, 38, 39, 40, 41, 42, 43, 44, 45, 46, 47, 48, 49] (by decide +kernel) (by decide +kernel)
set_option maxRecDepth 20000 in
theorem gX8_mixFor_X8_markMix : GoodIn wsX8_mixFor (wsV RX8 102 RX8 yX8_markMix wsX8_markMix) := goodIn_app (goodIn_of _ (by decide +kernel)) ggX8_mixFor_X8_markMix
theorem dX8_mixFor_0 : decode cX8_mixFor 0 = .ok (.aload_n 0, 1) := by decide +kernel
theorem dX8_mixFor_1 : decode cX8_mixFor 1 = .ok (.getfield 33, 3) := by decide +kernel
theorem dX8_mixFor_4 : decode cX8_mixFor 4 = .ok (.iload_n 1, 1) := by decide +kernel
theorem dX8_mixFor_5 : decode cX8_mixFor 5 = .ok (.invokevirtual 72, 3) := by decide +kernel
theorem dX8_mixFor_8 : decode cX8_mixFor 8 = .ok (.iconst 0, 1) := by decide +kernel
theorem dX8_mixFor_9 : decode cX8_mixFor 9 = .ok (.istore 5, 2) := by decide +kernel
theorem dX8_mixFor_11 : decode cX8_mixFor 11 = .ok (.iload 5, 2) := by decide +kernel
theorem dX8_mixFor_13 : decode cX8_mixFor 13 = .ok (.aload_n 0, 1) := by decide +kernel
theorem dX8_mixFor_14 : decode cX8_mixFor 14 = .ok (.getfield 37, 3) := by decide +kernel
theorem dX8_mixFor_17 : decode cX8_mixFor 17 = .ok (.if_icmp .ge 71, 3) := by decide +kernel
theorem dX8_mixFor_20 : decode cX8_mixFor 20 = .ok (.aload_n 0, 1) := by decide +kernel
theorem dX8_mixFor_21 : decode cX8_mixFor 21 = .ok (.iload 5, 2) := by decide +kernel
theorem dX8_mixFor_23 : decode cX8_mixFor 23 = .ok (.invokevirtual 76, 3) := by decide +kernel
theorem dX8_mixFor_26 : decode cX8_mixFor 26 = .ok (.astore 6, 2) := by decide +kernel
theorem dX8_mixFor_28 : decode cX8_mixFor 28 = .ok (.aload 6, 2) := by decide +kernel
theorem dX8_mixFor_30 : decode cX8_mixFor 30 = .ok (.ifnull 52, 3) := by decide +kernel
theorem dX8_mixFor_33 : decode cX8_mixFor 33 = .ok (.aload 6, 2) := by decide +kernel
theorem dX8_mixFor_35 : decode cX8_mixFor 35 = .ok (.getfield 80, 3) := by decide +kernel
theorem dX8_mixFor_38 : decode cX8_mixFor 38 = .ok (.ifCond .ne 44, 3) := by decide +kernel
theorem dX8_mixFor_41 : decode cX8_mixFor 41 = .ok (.aload 6, 2) := by decide +kernel
theorem dX8_mixFor_43 : decode cX8_mixFor 43 = .ok (.getfield 84, 3) := by decide +kernel
theorem dX8_mixFor_46 : decode cX8_mixFor 46 = .ok (.iload_n 2, 1) := by decide +kernel
theorem dX8_mixFor_47 : decode cX8_mixFor 47 = .ok (.if_icmp .lt 35, 3) := by decide +kernel
theorem dX8_mixFor_50 : decode cX8_mixFor 50 = .ok (.aload 6, 2) := by decide +kernel
theorem dX8_mixFor_52 : decode cX8_mixFor 52 = .ok (.getfield 87, 3) := by decide +kernel
theorem dX8_mixFor_55 : decode cX8_mixFor 55 = .ok (.iload_n 3, 1) := by decide +kernel
theorem dX8_mixFor_56 : decode cX8_mixFor 56 = .ok (.if_icmp .gt 26, 3) := by decide +kernel
theorem dX8_mixFor_59 : decode cX8_mixFor 59 = .ok (.aload_n 0, 1) := by decide +kernel
theorem dX8_mixFor_60 : decode cX8_mixFor 60 = .ok (.getfield 33, 3) := by decide +kernel
theorem dX8_mixFor_63 : decode cX8_mixFor 63 = .ok (.iload 5, 2) := by decide +kernel
theorem dX8_mixFor_65 : decode cX8_mixFor 65 = .ok (.aload 6, 2) := by decide +kernel
theorem dX8_mixFor_67 : decode cX8_mixFor 67 = .ok (.getfield 68, 3) := by decide +kernel
theorem dX8_mixFor_70 : decode cX8_mixFor 70 = .ok (.getfield 44, 3) := by decide +kernel
theorem dX8_mixFor_73 : decode cX8_mixFor 73 = .ok (.aload_n 0, 1) := by decide +kernel
theorem dX8_mixFor_74 : decode cX8_mixFor 74 = .ok (.aload 6, 2) := by decide +kernel
theorem dX8_mixFor_76 : decode cX8_mixFor 76 = .ok (.invokevirtual 90, 3) := by decide +kernel
theorem dX8_mixFor_79 : decode cX8_mixFor 79 = .ok (.invokevirtual 94, 3) := by decide +kernel
theorem dX8_mixFor_82 : decode cX8_mixFor 82 = .ok (.iinc 5 1, 3) := by decide +kernel
theorem dX8_mixFor_85 : decode cX8_mixFor 85 = .ok (.goto (-74), 3) := by decide +kernel
theorem dX8_mixFor_88 : decode cX8_mixFor 88 = .ok (.aload_n 0, 1) := by decide +kernel
theorem dX8_mixFor_89 : decode cX8_mixFor 89 = .ok (.getfield 33, 3) := by decide +kernel
theorem dX8_mixFor_92 : decode cX8_mixFor 92 = .ok (.invokevirtual 98, 3) := by decide +kernel
theorem dX8_mixFor_95 : decode cX8_mixFor 95 = .ok (.istore 5, 2) := by decide +kernel
theorem dX8_mixFor_97 : decode cX8_mixFor 97 = .ok (.iload 5, 2) := by decide +kernel
theorem dX8_mixFor_99 : decode cX8_mixFor 99 = .ok (.iconst (-1), 1) := by decide +kernel
theorem dX8_mixFor_100 : decode cX8_mixFor 100 = .ok (.if_icmp .eq 9, 3) := by decide +kernel
theorem dX8_mixFor_103 : decode cX8_mixFor 103 = .ok (.aload_n 0, 1) := by decide +kernel
theorem dX8_mixFor_104 : decode cX8_mixFor 104 = .ok (.iload 4, 2) := by decide +kernel
theorem dX8_mixFor_106 : decode cX8_mixFor 106 = .ok (.invokevirtual 102, 3) := by decide +kernel
theorem dX8_mixFor_109 : decode cX8_mixFor 109 = .ok (.iload 5, 2) := by decide +kernel
theorem dX8_mixFor_111 : decode cX8_mixFor 111 = .ok (.ireturn, 1) := by decide +kernel
set_option maxRecDepth 20000 in
theorem ggX8_markMix_X8_skeinAt : GoodIn wsX8_markMix wsX8_skeinAt := goodIn_h _ [1, 7, 0, 8, 0, 0, 0, 0, 0, 0, 0, 0, 0, 0, 0, 0] [1, 0, 2, 3, 4, 5, 6, 7, 8, 9, 10, 11, 12, 13, 14, 15] (by decide +kernel) (by decide +kernel)
set_option maxRecDepth 20000 in
theorem gX8_markMix_X8_skeinAt : GoodIn wsX8_markMix (wsV RX8 76 RX8 yX8_skeinAt wsX8_skeinAt) := goodIn_app (goodIn_of _ (by decide +kernel)) ggX8_markMix_X8_skeinAt
set_option maxRecDepth 20000 in
theorem ggX8_markMix_X2_isChosen : GoodIn wsX8_markMix wsX2_isChosen := goodIn_h _ [15, 0, 0, 0, 23, 0, 0, 0, 0, 0, 0, 0] [0, 1, 2, 3, 4, 5, 6, 7, 8, 9, 10, 11] (by decide +kernel) (by decide +kernel)
set_option maxRecDepth 20000 in
theorem gX8_markMix_X2_isChosen : GoodIn wsX8_markMix (wsV RX8 106 RX2 yX2_isChosen wsX2_isChosen) := goodIn_app (goodIn_of _ (by decide +kernel)) ggX8_markMix_X2_isChosen
theorem dX8_markMix_0 : decode cX8_markMix 0 = .ok (.iconst 0, 1) := by decide +kernel
theorem dX8_markMix_1 : decode cX8_markMix 1 = .ok (.istore_n 2, 1) := by decide +kernel
theorem dX8_markMix_2 : decode cX8_markMix 2 = .ok (.iload_n 2, 1) := by decide +kernel
theorem dX8_markMix_3 : decode cX8_markMix 3 = .ok (.aload_n 0, 1) := by decide +kernel
theorem dX8_markMix_4 : decode cX8_markMix 4 = .ok (.getfield 37, 3) := by decide +kernel
theorem dX8_markMix_7 : decode cX8_markMix 7 = .ok (.if_icmp .ge 58, 3) := by decide +kernel
theorem dX8_markMix_10 : decode cX8_markMix 10 = .ok (.aload_n 0, 1) := by decide +kernel
theorem dX8_markMix_11 : decode cX8_markMix 11 = .ok (.iload_n 2, 1) := by decide +kernel
theorem dX8_markMix_12 : decode cX8_markMix 12 = .ok (.invokevirtual 76, 3) := by decide +kernel
theorem dX8_markMix_15 : decode cX8_markMix 15 = .ok (.astore_n 3, 1) := by decide +kernel
theorem dX8_markMix_16 : decode cX8_markMix 16 = .ok (.aload_n 3, 1) := by decide +kernel
theorem dX8_markMix_17 : decode cX8_markMix 17 = .ok (.ifnull 42, 3) := by decide +kernel
theorem dX8_markMix_20 : decode cX8_markMix 20 = .ok (.aload_n 3, 1) := by decide +kernel
theorem dX8_markMix_21 : decode cX8_markMix 21 = .ok (.aload_n 0, 1) := by decide +kernel
theorem dX8_markMix_22 : decode cX8_markMix 22 = .ok (.getfield 33, 3) := by decide +kernel
theorem dX8_markMix_25 : decode cX8_markMix 25 = .ok (.iload_n 2, 1) := by decide +kernel
theorem dX8_markMix_26 : decode cX8_markMix 26 = .ok (.invokevirtual 106, 3) := by decide +kernel
theorem dX8_markMix_29 : decode cX8_markMix 29 = .ok (.putfield 110, 3) := by decide +kernel
theorem dX8_markMix_32 : decode cX8_markMix 32 = .ok (.aload_n 3, 1) := by decide +kernel
theorem dX8_markMix_33 : decode cX8_markMix 33 = .ok (.aload_n 3, 1) := by decide +kernel
theorem dX8_markMix_34 : decode cX8_markMix 34 = .ok (.getfield 80, 3) := by decide +kernel
theorem dX8_markMix_37 : decode cX8_markMix 37 = .ok (.ifCond .ne 14, 3) := by decide +kernel
theorem dX8_markMix_40 : decode cX8_markMix 40 = .ok (.aload_n 3, 1) := by decide +kernel
theorem dX8_markMix_41 : decode cX8_markMix 41 = .ok (.getfield 110, 3) := by decide +kernel
theorem dX8_markMix_44 : decode cX8_markMix 44 = .ok (.ifCond .eq 11, 3) := by decide +kernel
theorem dX8_markMix_47 : decode cX8_markMix 47 = .ok (.iload_n 1, 1) := by decide +kernel
theorem dX8_markMix_48 : decode cX8_markMix 48 = .ok (.ifCond .eq 7, 3) := by decide +kernel
theorem dX8_markMix_51 : decode cX8_markMix 51 = .ok (.iconst 1, 1) := by decide +kernel
theorem dX8_markMix_52 : decode cX8_markMix 52 = .ok (.goto 4, 3) := by decide +kernel
theorem dX8_markMix_55 : decode cX8_markMix 55 = .ok (.iconst 0, 1) := by decide +kernel
theorem dX8_markMix_56 : decode cX8_markMix 56 = .ok (.putfield 80, 3) := by decide +kernel
theorem dX8_markMix_59 : decode cX8_markMix 59 = .ok (.iinc 2 1, 3) := by decide +kernel
theorem dX8_markMix_62 : decode cX8_markMix 62 = .ok (.goto (-60), 3) := by decide +kernel
theorem dX8_markMix_65 : decode cX8_markMix 65 = .ok (.return_, 1) := by decide +kernel
theorem dX8_tellFault_0 : decode cX8_tellFault 0 = .ok (.aload_n 0, 1) := by decide +kernel
theorem dX8_tellFault_1 : decode cX8_tellFault 1 = .ok (.getfield 113, 3) := by decide +kernel
theorem dX8_tellFault_4 : decode cX8_tellFault 4 = .ok (.bipush 40, 2) := by decide +kernel
theorem dX8_tellFault_6 : decode cX8_tellFault 6 = .ok (.if_icmp .lt 5, 3) := by decide +kernel
theorem dX8_tellFault_9 : decode cX8_tellFault 9 = .ok (.iconst 0, 1) := by decide +kernel
theorem dX8_tellFault_10 : decode cX8_tellFault 10 = .ok (.ireturn, 1) := by decide +kernel
theorem dX8_tellFault_11 : decode cX8_tellFault 11 = .ok (.aload_n 0, 1) := by decide +kernel
theorem dX8_tellFault_12 : decode cX8_tellFault 12 = .ok (.getfield 21, 3) := by decide +kernel
theorem dX8_tellFault_15 : decode cX8_tellFault 15 = .ok (.aload_n 0, 1) := by decide +kernel
theorem dX8_tellFault_16 : decode cX8_tellFault 16 = .ok (.getfield 113, 3) := by decide +kernel
theorem dX8_tellFault_19 : decode cX8_tellFault 19 = .ok (.iload_n 1, 1) := by decide +kernel
theorem dX8_tellFault_20 : decode cX8_tellFault 20 = .ok (.iastore, 1) := by decide +kernel
theorem dX8_tellFault_21 : decode cX8_tellFault 21 = .ok (.aload_n 0, 1) := by decide +kernel
theorem dX8_tellFault_22 : decode cX8_tellFault 22 = .ok (.getfield 24, 3) := by decide +kernel
theorem dX8_tellFault_25 : decode cX8_tellFault 25 = .ok (.aload_n 0, 1) := by decide +kernel
theorem dX8_tellFault_26 : decode cX8_tellFault 26 = .ok (.getfield 113, 3) := by decide +kernel
theorem dX8_tellFault_29 : decode cX8_tellFault 29 = .ok (.aload_n 0, 1) := by decide +kernel
theorem dX8_tellFault_30 : decode cX8_tellFault 30 = .ok (.getfield 52, 3) := by decide +kernel
theorem dX8_tellFault_33 : decode cX8_tellFault 33 = .ok (.iastore, 1) := by decide +kernel
theorem dX8_tellFault_34 : decode cX8_tellFault 34 = .ok (.aload_n 0, 1) := by decide +kernel
theorem dX8_tellFault_35 : decode cX8_tellFault 35 = .ok (.getfield 27, 3) := by decide +kernel
theorem dX8_tellFault_38 : decode cX8_tellFault 38 = .ok (.aload_n 0, 1) := by decide +kernel
theorem dX8_tellFault_39 : decode cX8_tellFault 39 = .ok (.getfield 113, 3) := by decide +kernel
theorem dX8_tellFault_42 : decode cX8_tellFault 42 = .ok (.iload_n 2, 1) := by decide +kernel
theorem dX8_tellFault_43 : decode cX8_tellFault 43 = .ok (.iastore, 1) := by decide +kernel
theorem dX8_tellFault_44 : decode cX8_tellFault 44 = .ok (.aload_n 0, 1) := by decide +kernel
theorem dX8_tellFault_45 : decode cX8_tellFault 45 = .ok (.dup, 1) := by decide +kernel
theorem dX8_tellFault_46 : decode cX8_tellFault 46 = .ok (.getfield 113, 3) := by decide +kernel
theorem dX8_tellFault_49 : decode cX8_tellFault 49 = .ok (.iconst 1, 1) := by decide +kernel
theorem dX8_tellFault_50 : decode cX8_tellFault 50 = .ok (.iadd, 1) := by decide +kernel
theorem dX8_tellFault_51 : decode cX8_tellFault 51 = .ok (.putfield 113, 3) := by decide +kernel
theorem dX8_tellFault_54 : decode cX8_tellFault 54 = .ok (.iconst 1, 1) := by decide +kernel
theorem dX8_tellFault_55 : decode cX8_tellFault 55 = .ok (.ireturn, 1) := by decide +kernel
set_option maxRecDepth 20000 in
theorem ggX8_payFor_X8_skeinAt : GoodIn wsX8_payFor wsX8_skeinAt := goodIn_h _ [1, 8, 0, 18, 0, 0, 0, 0, 0, 0, 0, 0, 0, 0, 0, 0] [1, 0, 2, 3, 4, 5, 6, 7, 8, 9, 10, 11, 12, 13, 14, 15] (by decide +kernel) (by decide +kernel)
set_option maxRecDepth 20000 in
theorem gX8_payFor_X8_skeinAt : GoodIn wsX8_payFor (wsV RX8 76 RX8 yX8_skeinAt wsX8_skeinAt) := goodIn_app (goodIn_of _ (by decide +kernel)) ggX8_payFor_X8_skeinAt
set_option maxRecDepth 20000 in
theorem ggX8_payFor_X7_isOf : GoodIn wsX8_payFor wsX7_isOf := goodIn_h _ [16, 0, 0, 24, 0, 0, 0, 0, 0, 0, 0, 0, 0] [0, 1, 2, 3, 4, 5, 6, 7, 8, 9, 10, 11, 12] (by decide +kernel) (by decide +kernel)
set_option maxRecDepth 20000 in
theorem gX8_payFor_X7_isOf : GoodIn wsX8_payFor (wsV RX8 116 RX7 yX7_isOf wsX7_isOf) := goodIn_app (goodIn_of _ (by decide +kernel)) ggX8_payFor_X7_isOf
set_option maxRecDepth 20000 in
theorem ggX8_payFor_X8_priceOf : GoodIn wsX8_payFor wsX8_priceOf := goodIn_h _ [22, 0, 0, 0, 0, 0, 0, 0, 0, 0, 0, 0, 0, 0, 0, 0, 0, 0, 0, 0, 0, 0, 0, 0, 0, 0, 0, 0, 0, 0, 0, 0, 0, 0, 0, 0, 0, 0, 0, 0] [0, 1, 2, 3, 4, 5, 6, 7, 21, 22, 23, 24, 25, 26, 27, 28, 29, 30, 31, 32, 33, 34, 35, 36, 37, 38, 39, 8, 9, 10, 11, 12, 13, 14, 15, 16, 17, 18, 19, 20] (by decide +kernel) (by decide +kernel)
set_option maxRecDepth 20000 in
theorem gX8_payFor_X8_priceOf : GoodIn wsX8_payFor (wsV RX8 90 RX8 yX8_priceOf wsX8_priceOf) := goodIn_app (goodIn_of _ (by decide +kernel)) ggX8_payFor_X8_priceOf
theorem dX8_payFor_0 : decode cX8_payFor 0 = .ok (.iconst 0, 1) := by decide +kernel
theorem dX8_payFor_1 : decode cX8_payFor 1 = .ok (.istore 4, 2) := by decide +kernel
theorem dX8_payFor_3 : decode cX8_payFor 3 = .ok (.iconst 0, 1) := by decide +kernel
theorem dX8_payFor_4 : decode cX8_payFor 4 = .ok (.istore 5, 2) := by decide +kernel
theorem dX8_payFor_6 : decode cX8_payFor 6 = .ok (.iload 5, 2) := by decide +kernel
theorem dX8_payFor_8 : decode cX8_payFor 8 = .ok (.aload_n 0, 1) := by decide +kernel
theorem dX8_payFor_9 : decode cX8_payFor 9 = .ok (.getfield 37, 3) := by decide +kernel
theorem dX8_payFor_12 : decode cX8_payFor 12 = .ok (.if_icmp .ge 43, 3) := by decide +kernel
theorem dX8_payFor_15 : decode cX8_payFor 15 = .ok (.aload_n 0, 1) := by decide +kernel
theorem dX8_payFor_16 : decode cX8_payFor 16 = .ok (.iload 5, 2) := by decide +kernel
theorem dX8_payFor_18 : decode cX8_payFor 18 = .ok (.invokevirtual 76, 3) := by decide +kernel
theorem dX8_payFor_21 : decode cX8_payFor 21 = .ok (.astore 6, 2) := by decide +kernel
theorem dX8_payFor_23 : decode cX8_payFor 23 = .ok (.aload 6, 2) := by decide +kernel
theorem dX8_payFor_25 : decode cX8_payFor 25 = .ok (.ifnull 24, 3) := by decide +kernel
theorem dX8_payFor_28 : decode cX8_payFor 28 = .ok (.aload 6, 2) := by decide +kernel
theorem dX8_payFor_30 : decode cX8_payFor 30 = .ok (.iload_n 1, 1) := by decide +kernel
theorem dX8_payFor_31 : decode cX8_payFor 31 = .ok (.iload_n 2, 1) := by decide +kernel
theorem dX8_payFor_32 : decode cX8_payFor 32 = .ok (.invokevirtual 116, 3) := by decide +kernel
theorem dX8_payFor_35 : decode cX8_payFor 35 = .ok (.ifCond .eq 14, 3) := by decide +kernel
theorem dX8_payFor_38 : decode cX8_payFor 38 = .ok (.iload 4, 2) := by decide +kernel
theorem dX8_payFor_40 : decode cX8_payFor 40 = .ok (.aload_n 0, 1) := by decide +kernel
theorem dX8_payFor_41 : decode cX8_payFor 41 = .ok (.aload 6, 2) := by decide +kernel
theorem dX8_payFor_43 : decode cX8_payFor 43 = .ok (.invokevirtual 90, 3) := by decide +kernel
theorem dX8_payFor_46 : decode cX8_payFor 46 = .ok (.iadd, 1) := by decide +kernel
theorem dX8_payFor_47 : decode cX8_payFor 47 = .ok (.istore 4, 2) := by decide +kernel
theorem dX8_payFor_49 : decode cX8_payFor 49 = .ok (.iinc 5 1, 3) := by decide +kernel
theorem dX8_payFor_52 : decode cX8_payFor 52 = .ok (.goto (-46), 3) := by decide +kernel
theorem dX8_payFor_55 : decode cX8_payFor 55 = .ok (.iconst 0, 1) := by decide +kernel
theorem dX8_payFor_56 : decode cX8_payFor 56 = .ok (.istore 5, 2) := by decide +kernel
theorem dX8_payFor_58 : decode cX8_payFor 58 = .ok (.iload 5, 2) := by decide +kernel
theorem dX8_payFor_60 : decode cX8_payFor 60 = .ok (.aload_n 0, 1) := by decide +kernel
theorem dX8_payFor_61 : decode cX8_payFor 61 = .ok (.getfield 113, 3) := by decide +kernel
theorem dX8_payFor_64 : decode cX8_payFor 64 = .ok (.if_icmp .ge 60, 3) := by decide +kernel
theorem dX8_payFor_67 : decode cX8_payFor 67 = .ok (.aload_n 0, 1) := by decide +kernel
theorem dX8_payFor_68 : decode cX8_payFor 68 = .ok (.aload_n 0, 1) := by decide +kernel
theorem dX8_payFor_69 : decode cX8_payFor 69 = .ok (.getfield 21, 3) := by decide +kernel
theorem dX8_payFor_72 : decode cX8_payFor 72 = .ok (.iload 5, 2) := by decide +kernel
theorem dX8_payFor_74 : decode cX8_payFor 74 = .ok (.iaload, 1) := by decide +kernel
theorem dX8_payFor_75 : decode cX8_payFor 75 = .ok (.invokevirtual 76, 3) := by decide +kernel
theorem dX8_payFor_78 : decode cX8_payFor 78 = .ok (.astore 6, 2) := by decide +kernel
theorem dX8_payFor_80 : decode cX8_payFor 80 = .ok (.aload 6, 2) := by decide +kernel
theorem dX8_payFor_82 : decode cX8_payFor 82 = .ok (.ifnull 36, 3) := by decide +kernel
theorem dX8_payFor_85 : decode cX8_payFor 85 = .ok (.aload 6, 2) := by decide +kernel
theorem dX8_payFor_87 : decode cX8_payFor 87 = .ok (.iload_n 1, 1) := by decide +kernel
theorem dX8_payFor_88 : decode cX8_payFor 88 = .ok (.iload_n 2, 1) := by decide +kernel
theorem dX8_payFor_89 : decode cX8_payFor 89 = .ok (.invokevirtual 116, 3) := by decide +kernel
theorem dX8_payFor_92 : decode cX8_payFor 92 = .ok (.ifCond .eq 26, 3) := by decide +kernel
theorem dX8_payFor_95 : decode cX8_payFor 95 = .ok (.aload_n 0, 1) := by decide +kernel
theorem dX8_payFor_96 : decode cX8_payFor 96 = .ok (.getfield 24, 3) := by decide +kernel
theorem dX8_payFor_99 : decode cX8_payFor 99 = .ok (.iload 5, 2) := by decide +kernel
theorem dX8_payFor_101 : decode cX8_payFor 101 = .ok (.iaload, 1) := by decide +kernel
theorem dX8_payFor_102 : decode cX8_payFor 102 = .ok (.iload_n 3, 1) := by decide +kernel
theorem dX8_payFor_103 : decode cX8_payFor 103 = .ok (.if_icmp .gt 15, 3) := by decide +kernel
theorem dX8_payFor_106 : decode cX8_payFor 106 = .ok (.iload 4, 2) := by decide +kernel
theorem dX8_payFor_108 : decode cX8_payFor 108 = .ok (.aload_n 0, 1) := by decide +kernel
theorem dX8_payFor_109 : decode cX8_payFor 109 = .ok (.getfield 27, 3) := by decide +kernel
theorem dX8_payFor_112 : decode cX8_payFor 112 = .ok (.iload 5, 2) := by decide +kernel
theorem dX8_payFor_114 : decode cX8_payFor 114 = .ok (.iaload, 1) := by decide +kernel
theorem dX8_payFor_115 : decode cX8_payFor 115 = .ok (.isub, 1) := by decide +kernel
theorem dX8_payFor_116 : decode cX8_payFor 116 = .ok (.istore 4, 2) := by decide +kernel
theorem dX8_payFor_118 : decode cX8_payFor 118 = .ok (.iinc 5 1, 3) := by decide +kernel
theorem dX8_payFor_121 : decode cX8_payFor 121 = .ok (.goto (-63), 3) := by decide +kernel
theorem dX8_payFor_124 : decode cX8_payFor 124 = .ok (.iload 4, 2) := by decide +kernel
theorem dX8_payFor_126 : decode cX8_payFor 126 = .ok (.ireturn, 1) := by decide +kernel
theorem dJ7_fill_53178_0 : decode cJ7_fill_53178 0 = .ok (.iconst 0, 1) := by decide +kernel
theorem dJ7_fill_53178_1 : decode cJ7_fill_53178 1 = .ok (.istore_n 2, 1) := by decide +kernel
theorem dJ7_fill_53178_2 : decode cJ7_fill_53178 2 = .ok (.aload_n 0, 1) := by decide +kernel
theorem dJ7_fill_53178_3 : decode cJ7_fill_53178 3 = .ok (.arraylength, 1) := by decide +kernel
theorem dJ7_fill_53178_4 : decode cJ7_fill_53178 4 = .ok (.istore_n 3, 1) := by decide +kernel
theorem dJ7_fill_53178_5 : decode cJ7_fill_53178 5 = .ok (.iload_n 2, 1) := by decide +kernel
theorem dJ7_fill_53178_6 : decode cJ7_fill_53178 6 = .ok (.iload_n 3, 1) := by decide +kernel
theorem dJ7_fill_53178_7 : decode cJ7_fill_53178 7 = .ok (.if_icmp .ge 13, 3) := by decide +kernel
theorem dJ7_fill_53178_10 : decode cJ7_fill_53178 10 = .ok (.aload_n 0, 1) := by decide +kernel
theorem dJ7_fill_53178_11 : decode cJ7_fill_53178 11 = .ok (.iload_n 2, 1) := by decide +kernel
theorem dJ7_fill_53178_12 : decode cJ7_fill_53178 12 = .ok (.iload_n 1, 1) := by decide +kernel
theorem dJ7_fill_53178_13 : decode cJ7_fill_53178 13 = .ok (.iastore, 1) := by decide +kernel
theorem dJ7_fill_53178_14 : decode cJ7_fill_53178 14 = .ok (.iinc 2 1, 3) := by decide +kernel
theorem dJ7_fill_53178_17 : decode cJ7_fill_53178 17 = .ok (.goto (-12), 3) := by decide +kernel
theorem dJ7_fill_53178_20 : decode cJ7_fill_53178 20 = .ok (.return_, 1) := by decide +kernel
theorem inn_X2_beginFor_2 : ∀ w ∈ u_ws RX2 TX2 8, w ∈ wsX2_beginFor := fun w h => List.mem_cons_of_mem _ (List.mem_append_right _ h)
theorem inn_X2_isChosen_2 : ∀ w ∈ u_ws RX2 TX2 8, w ∈ wsX2_isChosen := fun w h => List.mem_cons_of_mem _ (List.mem_append_right _ h)
theorem inn_X2_leastPrice_2 : ∀ w ∈ u_ws RX2 TX2 8, w ∈ wsX2_leastPrice := fun w h => List.mem_cons_of_mem _ (List.mem_append_right _ h)
theorem inn_X2_offer_2 : ∀ w ∈ u_ws RX2 TX2 8, w ∈ wsX2_offer := fun w h => List.mem_cons_of_mem _ (List.mem_append_right _ h)
theorem inn_X2_seek_2 : ∀ w ∈ u_ws RX2 TX2 8, w ∈ wsX2_seek := fun w h => List.mem_cons_of_mem _ (List.mem_append_right _ h)
theorem inn_X3_giveUp_3 : ∀ w ∈ u_ws RX3 TX3 5, w ∈ wsX3_giveUp := fun w h => List.mem_cons_of_mem _ (List.mem_append_left _ (List.mem_append_right _ h))
theorem inn_X3_hasRow_3 : ∀ w ∈ u_ws RX3 TX3 5, w ∈ wsX3_hasRow := fun w h => List.mem_cons_of_mem _ (List.mem_append_right _ h)
theorem inn_X3_putCocoon_0 : ∀ w ∈ u_ws RX0 TX0 10, w ∈ wsX3_putCocoon := fun w h => List.mem_cons_of_mem _ (List.mem_append_left _ (List.mem_append_right _ h))
theorem inn_X3_putCocoon_3 : ∀ w ∈ u_ws RX3 TX3 5, w ∈ wsX3_putCocoon := fun w h => List.mem_cons_of_mem _ (List.mem_append_right _ h)
theorem inn_X3_putNumber_3 : ∀ w ∈ u_ws RX3 TX3 5, w ∈ wsX3_putNumber := fun w h => List.mem_cons_of_mem _ (List.mem_append_right _ h)
theorem inn_X3_putWord_3 : ∀ w ∈ u_ws RX3 TX3 5, w ∈ wsX3_putWord := fun w h => List.mem_cons_of_mem _ (List.mem_append_right _ h)
theorem inn_X3_returnCocoon_0 : ∀ w ∈ u_ws RX0 TX0 10, w ∈ wsX3_returnCocoon := fun w h => List.mem_cons_of_mem _ (List.mem_append_right _ h)
theorem inn_X3_returnCocoon_3 : ∀ w ∈ u_ws RX3 TX3 5, w ∈ wsX3_returnCocoon := fun w h => List.mem_cons_of_mem _ (List.mem_append_left _ (List.mem_append_right _ h))
theorem inn_X3_sumOfWord_3 : ∀ w ∈ u_ws RX3 TX3 5, w ∈ wsX3_sumOfWord := fun w h => List.mem_cons_of_mem _ (List.mem_append_right _ h)
theorem inn_X8_markMix_7 : ∀ w ∈ u_ws RX7 TX7 10, w ∈ wsX8_markMix := fun w h => List.mem_cons_of_mem _ (List.mem_append_left _ (List.mem_append_right _ h))
theorem inn_X8_markMix_8 : ∀ w ∈ u_ws RX8 TX8 13, w ∈ wsX8_markMix := fun w h => List.mem_cons_of_mem _ (List.mem_append_left _ (List.mem_append_left _ (List.mem_append_right _ h)))
theorem inn_X8_mixFor_7 : ∀ w ∈ u_ws RX7 TX7 10, w ∈ wsX8_mixFor := fun w h => List.mem_cons_of_mem _ (List.mem_append_left _ (List.mem_append_left _ (List.mem_append_right _ h)))
theorem inn_X8_mixFor_8 : ∀ w ∈ u_ws RX8 TX8 13, w ∈ wsX8_mixFor := fun w h => List.mem_cons_of_mem _ (List.mem_append_left _ (List.mem_append_left _ (List.mem_append_left _ (List.mem_append_right _ h))))
theorem inn_X8_mixFor_9 : ∀ w ∈ u_ws RX9 TX9 9, w ∈ wsX8_mixFor := fun w h => List.mem_cons_of_mem _ (List.mem_append_left _ (List.mem_append_right _ h))
theorem inn_X8_payFor_8 : ∀ w ∈ u_ws RX8 TX8 13, w ∈ wsX8_payFor := fun w h => List.mem_cons_of_mem _ (List.mem_append_left _ (List.mem_append_left _ (List.mem_append_right _ h)))
theorem inn_X8_priceOf_7 : ∀ w ∈ u_ws RX7 TX7 10, w ∈ wsX8_priceOf := fun w h => List.mem_cons_of_mem _ (List.mem_append_left _ (List.mem_append_left _ (List.mem_append_right _ h)))
theorem inn_X8_priceOf_8 : ∀ w ∈ u_ws RX8 TX8 13, w ∈ wsX8_priceOf := fun w h => List.mem_cons_of_mem _ (List.mem_append_right _ h)
theorem inn_X8_priceOf_9 : ∀ w ∈ u_ws RX9 TX9 9, w ∈ wsX8_priceOf := fun w h => List.mem_cons_of_mem _ (List.mem_append_left _ (List.mem_append_right _ h))
theorem inn_X8_skeinAt_8 : ∀ w ∈ u_ws RX8 TX8 13, w ∈ wsX8_skeinAt := fun w h => List.mem_cons_of_mem _ (List.mem_append_right _ h)
theorem inn_X8_tellFault_8 : ∀ w ∈ u_ws RX8 TX8 13, w ∈ wsX8_tellFault := fun w h => List.mem_cons_of_mem _ (List.mem_append_right _ h)
set_option maxHeartbeats 4000000 in
set_option maxRecDepth 100000 in
theorem k_X3_hasRow (l : Launch) (G : va_G) (cy : Nat → ClassId) (κ : Nat → Nat) (S : PS) (sz : Nat) (x : Nat) (hG : GX S) (ha_x : At S x 3) : Ci l yX3_hasRow wsX3_hasRow ({ frames := 1, cells := 0, slots := 0, locals := 48 }) G cy κ S sz [.ref x] (fun (r : Int32) (S9 : PS) => S = S9 ∧ (((True) ∧ r = 1) ∨ ((True) ∧ r = 0))) := by
  refine ent_m (cc := cX3_hasRow) (maxL := 1) (ret := (some .boolean)) (by decide) rfl (Nat.le_of_ble_eq_true rfl) ?_
  intro p e s m below meth c ls X hr hlocks hin hw hl hsz
  subst hsz
  have X : Cx p c cX3_hasRow 1 s [.ref x].toArray wsX3_hasRow RX3 m G cy κ (AS S s.heap.size) := X
  have hl : lv_has ls 1 [(0, .ref x)] := hl
  refine lv_aload_n X.1 X.2.1 dX3_hasRow_0 rfl (lv_at hl 0 rfl) ?_
  obtain ⟨v_1, ev_1⟩ : ∃ v, pI S 300 x = v := ⟨_, rfl⟩
  have rg_3 := And.intro (z_lo v_1) (z_hi v_1)
  refine r_getI (g := 300) (x := v_1) X hw ha_x rfl 0 ev_1 (by decide) rfl inn_X3_hasRow_3 (by decide) (X.2.2.2.1 (.fieldLink RX3 9 "SilkMill$Place" "kind" "I") (by decide +kernel)) rfl (gv_300 _ _) dX3_hasRow_1 ?_
  refine lv_iconst (v := 2) X.1 X.2.1 dX3_hasRow_4 (by decide) ?_
  refine lv_icmp_ne (tgt := 19) X.1 X.2.1 dX3_hasRow_5 (by decide) (fun c_4 => ?_) (fun c_4 => ?_)
  · have z_b_5 := trivial
    have k_6 : v_1.toInt ≠ 2 := z_ne rfl ti_2 c_4
    refine lv_iconst (v := 0) X.1 X.2.1 dX3_hasRow_19 (by decide) ?_
    exact ret_z X hw hr hlocks (Nat.le_of_ble_eq_true rfl) (Nat.le_of_ble_eq_true rfl) (by decide) ⟨rfl, Or.inr ⟨trivial, rfl⟩⟩ dX3_hasRow_20
  · have z_b_7 := trivial
    have k_8 : v_1.toInt = 2 := z_eq rfl ti_2 c_4
    refine lv_aload_n X.1 X.2.1 dX3_hasRow_8 rfl (lv_at hl 0 rfl) ?_
    obtain ⟨v_9, ev_9⟩ : ∃ v, pI S 301 x = v := ⟨_, rfl⟩
    have rg_10 := gI_3_301 hG ha_x; rw [ev_9] at rg_10
    refine r_getI (g := 301) (x := v_9) X hw ha_x rfl 1 ev_9 (by decide) rfl inn_X3_hasRow_3 (by decide) (X.2.2.2.1 (.fieldLink RX3 19 "SilkMill$Place" "wordSize" "I") (by decide +kernel)) rfl (gv_301 _ _) dX3_hasRow_9 ?_
    refine lv_if_le (tgt := 19) X.1 X.2.1 dX3_hasRow_12 (by decide) (fun c_11 => ?_) (fun c_11 => ?_)
    · have z_b_12 := trivial
      have k_13 : v_9.toInt ≤ 0 := z_le rfl ti_0 c_11
      refine lv_iconst (v := 0) X.1 X.2.1 dX3_hasRow_19 (by decide) ?_
      exact ret_z X hw hr hlocks (Nat.le_of_ble_eq_true rfl) (Nat.le_of_ble_eq_true rfl) (by decide) ⟨rfl, Or.inr ⟨trivial, rfl⟩⟩ dX3_hasRow_20
    · have z_b_14 := trivial
      have k_15 : v_9.toInt > 0 := z_nle rfl ti_0 c_11
      refine lv_iconst (v := 1) X.1 X.2.1 dX3_hasRow_15 (by decide) ?_
      refine lv_goto (tgt := 20) X.1 X.2.1 dX3_hasRow_16 (by decide) ?_
      exact ret_z X hw hr hlocks (Nat.le_of_ble_eq_true rfl) (Nat.le_of_ble_eq_true rfl) (by decide) ⟨rfl, Or.inl ⟨trivial, rfl⟩⟩ dX3_hasRow_20
set_option maxHeartbeats 4000000 in
set_option maxRecDepth 100000 in
theorem k_X3_sumOfWord (l : Launch) (G : va_G) (cy : Nat → ClassId) (κ : Nat → Nat) (S : PS) (sz : Nat) (x : Nat) (hG : GX S) (ha_x : At S x 3) : Ci l yX3_sumOfWord wsX3_sumOfWord ({ frames := 1, cells := 0, slots := 0, locals := 48 }) G cy κ S sz [.ref x] (fun (r : Int32) (S9 : PS) => S = S9 ∧ (True)) := by
  refine ent_m (cc := cX3_sumOfWord) (maxL := 3) (ret := (some .int)) (by decide) rfl (Nat.le_of_ble_eq_true rfl) ?_
  intro p e s m below meth c ls X hr hlocks hin hw hl hsz
  subst hsz
  have X : Cx p c cX3_sumOfWord 3 s [.ref x].toArray wsX3_sumOfWord RX3 m G cy κ (AS S s.heap.size) := X
  have hl : lv_has ls 3 [(0, .ref x)] := hl
  generalize hQQ : MQ below _ _ _ _ _ _ = QQ
  replace hQQ := hQQ.symm
  refine lv_iconst (v := 0) X.1 X.2.1 dX3_sumOfWord_0 (by decide) ?_
  refine lv_istore_n (lv' := [(1, .int 0), (0, .ref x)]) X.1 X.2.1 dX3_sumOfWord_1 rfl hl (by decide) rfl (fun ls hl => ?_)
  refine lv_iconst (v := 0) X.1 X.2.1 dX3_sumOfWord_2 (by decide) ?_
  refine lv_istore_n (lv' := [(2, .int 0), (1, .int 0), (0, .ref x)]) X.1 X.2.1 dX3_sumOfWord_3 rfl hl (by decide) rfl (fun ls hl => ?_)
  have L_1 : ∀ (n : Nat) (H : Heap) (locs : List Loc) (ls : Array Slot) (i1_2 : Int32) (i1_2_z : Int) (i2_3 : Int32) (i2_3_z : Int), ((8 - i2_3_z).toNat = n) → (Wd G cy (AS S s.heap.size) s.heap S H locs) → (i1_2.toInt = i1_2_z) → (i2_3.toInt = i2_3_z) → (0 ≤ i2_3_z ∧ i2_3_z ≤ 8) → (lv_has ls 3 [(1, .int (i1_2)), (2, .int (i2_3)), (0, .ref x)]) → W p l e ({ frames := 1, cells := 0, slots := 0, locals := 48 }) s m [.ref x].toArray below meth c H locs 0 0 QQ (F0 m 4 ls []) := by
    intro n
    induction n using Nat.strongRecOn with
    | ind n ih =>
    intro H locs ls i1_2 i1_2_z i2_3 i2_3_z hn hw hz_i1_2 hz_i2_3 hr_i2_3 hl
    have rg_4 : (-2147483648) ≤ i1_2_z ∧ i1_2_z ≤ 2147483647 := by rw [← hz_i1_2]; exact ⟨z_lo _, z_hi _⟩
    have rg_5 : (-2147483648) ≤ i2_3_z ∧ i2_3_z ≤ 2147483647 := by rw [← hz_i2_3]; exact ⟨z_lo _, z_hi _⟩
    refine lv_iload_n X.1 X.2.1 dX3_sumOfWord_4 rfl (lv_at hl 1 rfl) ?_
    refine lv_aload_n X.1 X.2.1 dX3_sumOfWord_5 rfl (lv_at hl 2 rfl) ?_
    obtain ⟨v_6, ev_6⟩ : ∃ v, pI S 301 x = v := ⟨_, rfl⟩
    have rg_7 := gI_3_301 hG ha_x; rw [ev_6] at rg_7
    refine r_getI (g := 301) (x := v_6) X hw ha_x rfl 1 ev_6 (by decide) rfl inn_X3_sumOfWord_3 (by decide) (X.2.2.2.1 (.fieldLink RX3 19 "SilkMill$Place" "wordSize" "I") (by decide +kernel)) rfl (gv_301 _ _) dX3_sumOfWord_6 ?_
    refine lv_icmp_ge (tgt := 33) X.1 X.2.1 dX3_sumOfWord_9 (by decide) (fun c_8 => ?_) (fun c_8 => ?_)
    · have z_b_9 := trivial
      have k_10 : i2_3_z ≥ v_6.toInt := z_le rfl hz_i2_3 c_8
      refine lv_iload_n X.1 X.2.1 dX3_sumOfWord_33 rfl (lv_at hl 0 rfl) ?_
      rw [hQQ]
      exact ret_i X hw hr hlocks (Nat.le_of_ble_eq_true rfl) (Nat.le_of_ble_eq_true rfl) ⟨rfl, trivial⟩ dX3_sumOfWord_34
    · have z_b_11 := trivial
      have k_12 : i2_3_z < v_6.toInt := z_nle rfl hz_i2_3 c_8
      refine lv_iload_n X.1 X.2.1 dX3_sumOfWord_12 rfl (lv_at hl 1 rfl) ?_
      refine lv_bipush (v := 8) X.1 X.2.1 dX3_sumOfWord_13 (by decide) ?_
      refine lv_icmp_ge (tgt := 33) X.1 X.2.1 dX3_sumOfWord_15 (by decide) (fun c_13 => ?_) (fun c_13 => ?_)
      · have z_b_14 := trivial
        have k_15 : i2_3_z ≥ 8 := z_le ti_8 hz_i2_3 c_13
        refine lv_iload_n X.1 X.2.1 dX3_sumOfWord_33 rfl (lv_at hl 0 rfl) ?_
        rw [hQQ]
        exact ret_i X hw hr hlocks (Nat.le_of_ble_eq_true rfl) (Nat.le_of_ble_eq_true rfl) ⟨rfl, trivial⟩ dX3_sumOfWord_34
      · have z_b_16 := trivial
        have k_17 : i2_3_z < 8 := z_nle ti_8 hz_i2_3 c_13
        refine lv_iload_n X.1 X.2.1 dX3_sumOfWord_18 rfl (lv_at hl 0 rfl) ?_
        refine lv_aload_n X.1 X.2.1 dX3_sumOfWord_19 rfl (lv_at hl 2 rfl) ?_
        obtain ⟨q_18, h_19, h_20, h_21⟩ := gQ_3_302 hG ha_x
        refine r_getR (g := 302) X hw ha_x rfl 2 h_19 (by decide) rfl inn_X3_sumOfWord_3 (by decide) (X.2.2.2.1 (.fieldLink RX3 15 "SilkMill$Place" "word" "[I") (by decide +kernel)) rfl (gv_302 _ _) dX3_sumOfWord_20 ?_
        refine lv_iload_n X.1 X.2.1 dX3_sumOfWord_23 rfl (lv_at hl 1 rfl) ?_
        refine r_iald X hw h_20 rfl (by rw [h_21]; exact z_ix hz_i2_3 (by omega) (by omega)) dX3_sumOfWord_24 ?_
        refine lv_topi (fun v_22 ev_22 => ?_)
        have rg_23 := And.intro (z_lo v_22) (z_hi v_22)
        have ev_22 := ev_22.symm
        refine lv_iadd X.1 X.2.1 dX3_sumOfWord_25 ?_
        refine lv_topi (fun v_24 ev_24 => ?_)
        have rg_25 := And.intro (z_lo v_24) (z_hi v_24)
        refine lv_istore_n (lv' := [(1, .int (v_24)), (2, .int (i2_3)), (0, .ref x)]) X.1 X.2.1 dX3_sumOfWord_26 rfl hl (by decide) rfl (fun ls hl => ?_)
        obtain ⟨x_26, ex_26⟩ : ∃ y : Int32, y = i2_3 + 1 := ⟨_, rfl⟩
        have z_27 : x_26.toInt = i2_3_z + 1 := z_add ex_26 hz_i2_3 ti_1 (by omega) (by omega)
        refine lv_iinc (v := x_26) (lv' := [(2, .int (x_26)), (1, .int (v_24)), (0, .ref x)]) X.1 X.2.1 dX3_sumOfWord_27 hl (k := 1) rfl (by rw [ex_26]; rfl) (by decide) rfl (fun ls hl => ?_)
        refine lv_goto (tgt := 4) X.1 X.2.1 dX3_sumOfWord_30 (by decide) ?_
        exact ih _ (by omega) _ _ _ (v_24) (v_24.toInt) (x_26) (x_26.toInt) rfl hw rfl rfl (by omega) (lv_sub hl [1, 0, 2] rfl)
  exact L_1 _ _ _ _ (0) (0) (0) (0) rfl hw ti_0 ti_0 (by omega) (lv_sub hl [1, 0, 2] rfl)
set_option maxHeartbeats 4000000 in
set_option maxRecDepth 100000 in
theorem k_X2_beginFor (l : Launch) (G : va_G) (cy : Nat → ClassId) (κ : Nat → Nat) (S : PS) (sz : Nat) (x : Nat) (a1 : Int32) (a1_z : Int) (hG : GX S) (ha_x : At S x 2) (hz_a1 : a1.toInt = a1_z) : Cv l yX2_beginFor wsX2_beginFor ({ frames := 1, cells := 0, slots := 0, locals := 48 }) G cy κ S sz [.ref x, .int (a1)] (fun (S9 : PS) => Ok eMX S S9 ∧ (True)) := by
  refine ent_m (cc := cX2_beginFor) (maxL := 2) (ret := none) (by decide) rfl (Nat.le_of_ble_eq_true rfl) ?_
  intro p e s m below meth c ls X hr hlocks hin hw hl hsz
  subst hsz
  have X : Cx p c cX2_beginFor 2 s [.ref x, .int (a1)].toArray wsX2_beginFor RX2 m G cy κ (AS S s.heap.size) := X
  have hl : lv_has ls 2 [(0, .ref x), (1, .int (a1))] := hl
  have rg_a1 : (-2147483648) ≤ a1_z ∧ a1_z ≤ 2147483647 := by rw [← hz_a1]; exact ⟨z_lo _, z_hi _⟩
  have hO : Ok eMX S S := Ok.rf hG
  refine lv_aload_n X.1 X.2.1 dX2_beginFor_0 rfl (lv_at hl 0 rfl) ?_
  refine lv_iconst (v := 0) X.1 X.2.1 dX2_beginFor_1 (by decide) ?_
  refine r_putI (v := 0) X hw ha_x rfl 3 203 tyX2 (by decide) rfl inn_X2_beginFor_2 tyX2_ok nmX2 (by decide) (X.2.2.2.1 (.fieldLink RX2 21 "SilkMill$Mixer" "size" "I") (by decide +kernel)) rfl (Or.inl rfl) rfl rfl (Nat.le_of_ble_eq_true rfl) (st_203 _ _) dX2_beginFor_2 (fun H locs hw => ?_)
  obtain ⟨S_1, eS_1⟩ : ∃ T, T = sI S 203 x (0) := ⟨_, rfl⟩
  rw [← eS_1] at hw
  have hO_2 : Ok eMX S S_1 := hO.sI eS_1 (by decide +kernel) (uI_2_203 hO.1 ha_x (by rw [ti_0]; omega) (by rw [ti_0]; omega))
  have h_3 : pI S_1 203 x = 0 := tI_sIs eS_1
  refine lv_aload_n X.1 X.2.1 dX2_beginFor_5 rfl (lv_at hl 0 rfl) ?_
  refine lv_iconst (v := 0) X.1 X.2.1 dX2_beginFor_6 (by decide) ?_
  have t_4 : At S_1 x 2 := tAt_sI eS_1 ha_x
  refine r_putI (v := 0) X hw t_4 rfl 4 204 tyX2 (by decide) rfl inn_X2_beginFor_2 tyX2_ok nmX2 (by decide) (X.2.2.2.1 (.fieldLink RX2 25 "SilkMill$Mixer" "offered" "I") (by decide +kernel)) rfl (Or.inl rfl) rfl rfl (Nat.le_of_ble_eq_true rfl) (st_204 _ _) dX2_beginFor_7 (fun H locs hw => ?_)
  obtain ⟨S_5, eS_5⟩ : ∃ T, T = sI S_1 204 x (0) := ⟨_, rfl⟩
  rw [← eS_5] at hw
  have hO_6 : Ok eMX S S_5 := hO_2.sI eS_5 (by decide +kernel) (uI_2_204 hO_2.1 t_4)
  have h_7 : pI S_5 204 x = 0 := tI_sIs eS_5
  refine lv_aload_n X.1 X.2.1 dX2_beginFor_10 rfl (lv_at hl 0 rfl) ?_
  refine lv_iload_n X.1 X.2.1 dX2_beginFor_11 rfl (lv_at hl 1 rfl) ?_
  have t_8 : At S_5 x 2 := tAt_sI eS_5 t_4
  refine r_putI (v := a1) X hw t_8 rfl 5 205 tyX2 (by decide) rfl inn_X2_beginFor_2 tyX2_ok nmX2 (by decide) (X.2.2.2.1 (.fieldLink RX2 28 "SilkMill$Mixer" "wanted" "I") (by decide +kernel)) rfl (Or.inl rfl) rfl rfl (Nat.le_of_ble_eq_true rfl) (st_205 _ _) dX2_beginFor_12 (fun H locs hw => ?_)
  obtain ⟨S_9, eS_9⟩ : ∃ T, T = sI S_5 205 x (a1) := ⟨_, rfl⟩
  rw [← eS_9] at hw
  have hO_10 : Ok eMX S S_9 := hO_6.sI eS_9 (by decide +kernel) (uI_2_205 hO_6.1 t_8)
  have h_11 : pI S_9 205 x = a1 := tI_sIs eS_9
  refine lv_aload_n X.1 X.2.1 dX2_beginFor_15 rfl (lv_at hl 0 rfl) ?_
  refine lv_ldc (v := 2147483647) X.1 X.2.1 X.2.2.2.2.1 (X.2.2.2.1 (.constant RX2 33 2147483647) (by decide +kernel)) dX2_beginFor_16 ?_
  have t_12 : At S_9 x 2 := tAt_sI eS_9 t_8
  refine r_putI (v := 2147483647) X hw t_12 rfl 6 206 tyX2 (by decide) rfl inn_X2_beginFor_2 tyX2_ok nmX2 (by decide) (X.2.2.2.1 (.fieldLink RX2 34 "SilkMill$Mixer" "bestPrice" "I") (by decide +kernel)) rfl (Or.inl rfl) rfl rfl (Nat.le_of_ble_eq_true rfl) (st_206 _ _) dX2_beginFor_18 (fun H locs hw => ?_)
  obtain ⟨S_13, eS_13⟩ : ∃ T, T = sI S_9 206 x (2147483647) := ⟨_, rfl⟩
  rw [← eS_13] at hw
  have hO_14 : Ok eMX S S_13 := hO_10.sI eS_13 (by decide +kernel) (uI_2_206 hO_10.1 t_12)
  have h_15 : pI S_13 206 x = 2147483647 := tI_sIs eS_13
  refine lv_aload_n X.1 X.2.1 dX2_beginFor_21 rfl (lv_at hl 0 rfl) ?_
  refine lv_iconst (v := 0) X.1 X.2.1 dX2_beginFor_22 (by decide) ?_
  have t_16 : At S_13 x 2 := tAt_sI eS_13 t_12
  refine r_putI (v := 0) X hw t_16 rfl 7 207 tyX2 (by decide) rfl inn_X2_beginFor_2 tyX2_ok nmX2 (by decide) (X.2.2.2.1 (.fieldLink RX2 37 "SilkMill$Mixer" "bestSet" "I") (by decide +kernel)) rfl (Or.inl rfl) rfl rfl (Nat.le_of_ble_eq_true rfl) (st_207 _ _) dX2_beginFor_23 (fun H locs hw => ?_)
  obtain ⟨S_17, eS_17⟩ : ∃ T, T = sI S_13 207 x (0) := ⟨_, rfl⟩
  rw [← eS_17] at hw
  have hO_18 : Ok eMX S S_17 := hO_14.sI eS_17 (by decide +kernel) (uI_2_207 hO_14.1 t_16)
  have h_19 : pI S_17 207 x = 0 := tI_sIs eS_17
  exact ret_v X hw hr hlocks (Nat.le_of_ble_eq_true rfl) (Nat.le_of_ble_eq_true rfl) ⟨hO_18, trivial⟩ dX2_beginFor_26
set_option maxHeartbeats 4000000 in
set_option maxRecDepth 100000 in
theorem k_X2_offer (l : Launch) (G : va_G) (cy : Nat → ClassId) (κ : Nat → Nat) (S : PS) (sz : Nat) (x : Nat) (a1 : Int32) (a1_z : Int) (a2 : Int32) (a2_z : Int) (a3 : Int32) (a3_z : Int) (hG : GX S) (ha_x : At S x 2) (hz_a1 : a1.toInt = a1_z) (hz_a2 : a2.toInt = a2_z) (hz_a3 : a3.toInt = a3_z) : Cv l yX2_offer wsX2_offer ({ frames := 1, cells := 0, slots := 0, locals := 48 }) G cy κ S sz [.ref x, .int (a1), .int (a2), .int (a3)] (fun (S9 : PS) => Ok eMX S S9 ∧ (True)) := by
  refine ent_m (cc := cX2_offer) (maxL := 4) (ret := none) (by decide) rfl (Nat.le_of_ble_eq_true rfl) ?_
  intro p e s m below meth c ls X hr hlocks hin hw hl hsz
  subst hsz
  have X : Cx p c cX2_offer 4 s [.ref x, .int (a1), .int (a2), .int (a3)].toArray wsX2_offer RX2 m G cy κ (AS S s.heap.size) := X
  have hl : lv_has ls 4 [(0, .ref x), (1, .int (a1)), (2, .int (a2)), (3, .int (a3))] := hl
  have rg_a1 : (-2147483648) ≤ a1_z ∧ a1_z ≤ 2147483647 := by rw [← hz_a1]; exact ⟨z_lo _, z_hi _⟩
  have rg_a2 : (-2147483648) ≤ a2_z ∧ a2_z ≤ 2147483647 := by rw [← hz_a2]; exact ⟨z_lo _, z_hi _⟩
  have rg_a3 : (-2147483648) ≤ a3_z ∧ a3_z ≤ 2147483647 := by rw [← hz_a3]; exact ⟨z_lo _, z_hi _⟩
  have hO : Ok eMX S S := Ok.rf hG
  refine lv_aload_n X.1 X.2.1 dX2_offer_0 rfl (lv_at hl 0 rfl) ?_
  obtain ⟨v_1, ev_1⟩ : ∃ v, pI S 203 x = v := ⟨_, rfl⟩
  have rg_2 := gI_2_203 hO.1 ha_x; rw [ev_1] at rg_2
  refine r_getI (g := 203) (x := v_1) X hw ha_x rfl 3 ev_1 (by decide) rfl inn_X2_offer_2 (by decide) (X.2.2.2.1 (.fieldLink RX2 21 "SilkMill$Mixer" "size" "I") (by decide +kernel)) rfl (gv_203 _ _) dX2_offer_1 ?_
  refine lv_bipush (v := 14) X.1 X.2.1 dX2_offer_4 (by decide) ?_
  refine lv_icmp_ge (tgt := 59) X.1 X.2.1 dX2_offer_6 (by decide) (fun c_3 => ?_) (fun c_3 => ?_)
  · have z_b_4 := trivial
    have k_5 : v_1.toInt ≥ 14 := z_le ti_14 rfl c_3
    exact ret_v X hw hr hlocks (Nat.le_of_ble_eq_true rfl) (Nat.le_of_ble_eq_true rfl) ⟨hO, trivial⟩ dX2_offer_59
  · have z_b_6 := trivial
    have k_7 : v_1.toInt < 14 := z_nle ti_14 rfl c_3
    refine lv_aload_n X.1 X.2.1 dX2_offer_9 rfl (lv_at hl 0 rfl) ?_
    obtain ⟨q_8, h_9, h_10, h_11⟩ := gQ_2_200 hO.1 ha_x
    refine r_getR (g := 200) X hw ha_x rfl 0 h_9 (by decide) rfl inn_X2_offer_2 (by decide) (X.2.2.2.1 (.fieldLink RX2 9 "SilkMill$Mixer" "numbers" "[I") (by decide +kernel)) rfl (gv_200 _ _) dX2_offer_10 ?_
    refine lv_aload_n X.1 X.2.1 dX2_offer_13 rfl (lv_at hl 0 rfl) ?_
    refine r_getI (g := 203) (x := v_1) X hw ha_x rfl 3 ev_1 (by decide) rfl inn_X2_offer_2 (by decide) (X.2.2.2.1 (.fieldLink RX2 21 "SilkMill$Mixer" "size" "I") (by decide +kernel)) rfl (gv_203 _ _) dX2_offer_14 ?_
    refine lv_iload_n X.1 X.2.1 dX2_offer_17 rfl (lv_at hl 1 rfl) ?_
    refine r_iast X hw h_10 rfl (by rw [h_11]; exact z_ix rfl (by omega) (by omega)) dX2_offer_18 (fun H locs hw => ?_)
    obtain ⟨S_12, eS_12⟩ : ∃ T, T = sA S q_8 (upd (pA S q_8) (Int32.toNatClampNeg (v_1)) (a1)) := ⟨_, rfl⟩
    rw [← eS_12] at hw
    have hO_13 : Ok eMX S S_12 := hO.sA eS_12 h_10 (by decide +kernel) (uA_1734 hO.1 h_10)
    have h_14 : pA S_12 q_8 (Int32.toNatClampNeg (v_1)) = a1 := tA_sAs eS_12
    refine lv_aload_n X.1 X.2.1 dX2_offer_19 rfl (lv_at hl 0 rfl) ?_
    have t_15 : At S_12 x 2 := tAt_sA eS_12 ha_x
    obtain ⟨q_16, h_17, h_18, h_19⟩ := gQ_2_201 hO_13.1 t_15
    refine r_getR (g := 201) X hw t_15 rfl 1 h_17 (by decide) rfl inn_X2_offer_2 (by decide) (X.2.2.2.1 (.fieldLink RX2 15 "SilkMill$Mixer" "weights" "[I") (by decide +kernel)) rfl (gv_201 _ _) dX2_offer_20 ?_
    refine lv_aload_n X.1 X.2.1 dX2_offer_23 rfl (lv_at hl 0 rfl) ?_
    have t_20 : pI S_12 203 x = v_1 := tI_sA eS_12 ev_1
    refine r_getI (g := 203) (x := v_1) X hw t_15 rfl 3 t_20 (by decide) rfl inn_X2_offer_2 (by decide) (X.2.2.2.1 (.fieldLink RX2 21 "SilkMill$Mixer" "size" "I") (by decide +kernel)) rfl (gv_203 _ _) dX2_offer_24 ?_
    refine lv_iload_n X.1 X.2.1 dX2_offer_27 rfl (lv_at hl 2 rfl) ?_
    refine r_iast X hw h_18 rfl (by rw [h_19]; exact z_ix rfl (by omega) (by omega)) dX2_offer_28 (fun H locs hw => ?_)
    obtain ⟨S_21, eS_21⟩ : ∃ T, T = sA S_12 q_16 (upd (pA S_12 q_16) (Int32.toNatClampNeg (v_1)) (a2)) := ⟨_, rfl⟩
    rw [← eS_21] at hw
    have hO_22 : Ok eMX S S_21 := hO_13.sA eS_21 h_18 (by decide +kernel) (uA_1754 hO_13.1 h_18)
    have h_23 : pA S_21 q_16 (Int32.toNatClampNeg (v_1)) = a2 := tA_sAs eS_21
    refine lv_aload_n X.1 X.2.1 dX2_offer_29 rfl (lv_at hl 0 rfl) ?_
    have t_24 : At S_21 x 2 := tAt_sA eS_21 t_15
    obtain ⟨q_25, h_26, h_27, h_28⟩ := gQ_2_202 hO_22.1 t_24
    refine r_getR (g := 202) X hw t_24 rfl 2 h_26 (by decide) rfl inn_X2_offer_2 (by decide) (X.2.2.2.1 (.fieldLink RX2 18 "SilkMill$Mixer" "prices" "[I") (by decide +kernel)) rfl (gv_202 _ _) dX2_offer_30 ?_
    refine lv_aload_n X.1 X.2.1 dX2_offer_33 rfl (lv_at hl 0 rfl) ?_
    have t_29 : pI S_21 203 x = v_1 := tI_sA eS_21 t_20
    refine r_getI (g := 203) (x := v_1) X hw t_24 rfl 3 t_29 (by decide) rfl inn_X2_offer_2 (by decide) (X.2.2.2.1 (.fieldLink RX2 21 "SilkMill$Mixer" "size" "I") (by decide +kernel)) rfl (gv_203 _ _) dX2_offer_34 ?_
    refine lv_iload_n X.1 X.2.1 dX2_offer_37 rfl (lv_at hl 3 rfl) ?_
    refine r_iast X hw h_27 rfl (by rw [h_28]; exact z_ix rfl (by omega) (by omega)) dX2_offer_38 (fun H locs hw => ?_)
    obtain ⟨S_30, eS_30⟩ : ∃ T, T = sA S_21 q_25 (upd (pA S_21 q_25) (Int32.toNatClampNeg (v_1)) (a3)) := ⟨_, rfl⟩
    rw [← eS_30] at hw
    have hO_31 : Ok eMX S S_30 := hO_22.sA eS_30 h_27 (by decide +kernel) (uA_1774 hO_22.1 h_27)
    have h_32 : pA S_30 q_25 (Int32.toNatClampNeg (v_1)) = a3 := tA_sAs eS_30
    refine lv_aload_n X.1 X.2.1 dX2_offer_39 rfl (lv_at hl 0 rfl) ?_
    refine lv_dup X.1 X.2.1 dX2_offer_40 rfl ?_
    have t_33 : At S_30 x 2 := tAt_sA eS_30 t_24
    have t_34 : pI S_30 203 x = v_1 := tI_sA eS_30 t_29
    refine r_getI (g := 203) (x := v_1) X hw t_33 rfl 3 t_34 (by decide) rfl inn_X2_offer_2 (by decide) (X.2.2.2.1 (.fieldLink RX2 21 "SilkMill$Mixer" "size" "I") (by decide +kernel)) rfl (gv_203 _ _) dX2_offer_41 ?_
    refine lv_iconst (v := 1) X.1 X.2.1 dX2_offer_44 (by decide) ?_
    refine lv_iadd X.1 X.2.1 dX2_offer_45 ?_
    refine lv_topi (fun v_35 ev_35 => ?_)
    have z_36 : v_35.toInt = v_1.toInt + 1 := z_add ev_35 rfl ti_1 (by omega) (by omega)
    refine r_putI (v := v_35) X hw t_33 rfl 3 203 tyX2 (by decide) rfl inn_X2_offer_2 tyX2_ok nmX2 (by decide) (X.2.2.2.1 (.fieldLink RX2 21 "SilkMill$Mixer" "size" "I") (by decide +kernel)) rfl (Or.inl rfl) rfl rfl (Nat.le_of_ble_eq_true rfl) (st_203 _ _) dX2_offer_46 (fun H locs hw => ?_)
    obtain ⟨S_37, eS_37⟩ : ∃ T, T = sI S_30 203 x (v_35) := ⟨_, rfl⟩
    rw [← eS_37] at hw
    have hO_38 : Ok eMX S S_37 := hO_31.sI eS_37 (by decide +kernel) (uI_2_203 hO_31.1 t_33 (by omega) (by omega))
    have h_39 : pI S_37 203 x = v_35 := tI_sIs eS_37
    refine lv_aload_n X.1 X.2.1 dX2_offer_49 rfl (lv_at hl 0 rfl) ?_
    refine lv_dup X.1 X.2.1 dX2_offer_50 rfl ?_
    have t_40 : At S_37 x 2 := tAt_sI eS_37 t_33
    obtain ⟨v_41, ev_41⟩ : ∃ v, pI S_37 204 x = v := ⟨_, rfl⟩
    have rg_43 := And.intro (z_lo v_41) (z_hi v_41)
    refine r_getI (g := 204) (x := v_41) X hw t_40 rfl 4 ev_41 (by decide) rfl inn_X2_offer_2 (by decide) (X.2.2.2.1 (.fieldLink RX2 25 "SilkMill$Mixer" "offered" "I") (by decide +kernel)) rfl (gv_204 _ _) dX2_offer_51 ?_
    refine lv_iload_n X.1 X.2.1 dX2_offer_54 rfl (lv_at hl 2 rfl) ?_
    refine lv_iadd X.1 X.2.1 dX2_offer_55 ?_
    refine lv_topi (fun v_44 ev_44 => ?_)
    have rg_45 := And.intro (z_lo v_44) (z_hi v_44)
    refine r_putI (v := v_44) X hw t_40 rfl 4 204 tyX2 (by decide) rfl inn_X2_offer_2 tyX2_ok nmX2 (by decide) (X.2.2.2.1 (.fieldLink RX2 25 "SilkMill$Mixer" "offered" "I") (by decide +kernel)) rfl (Or.inl rfl) rfl rfl (Nat.le_of_ble_eq_true rfl) (st_204 _ _) dX2_offer_56 (fun H locs hw => ?_)
    obtain ⟨S_46, eS_46⟩ : ∃ T, T = sI S_37 204 x (v_44) := ⟨_, rfl⟩
    rw [← eS_46] at hw
    have hO_47 : Ok eMX S S_46 := hO_38.sI eS_46 (by decide +kernel) (uI_2_204 hO_38.1 t_40)
    have h_48 : pI S_46 204 x = v_44 := tI_sIs eS_46
    exact ret_v X hw hr hlocks (Nat.le_of_ble_eq_true rfl) (Nat.le_of_ble_eq_true rfl) ⟨hO_47, trivial⟩ dX2_offer_59
set_option maxHeartbeats 4000000 in
set_option maxRecDepth 100000 in
theorem k_X2_isChosen (l : Launch) (G : va_G) (cy : Nat → ClassId) (κ : Nat → Nat) (S : PS) (sz : Nat) (x : Nat) (a1 : Int32) (a1_z : Int) (hG : GX S) (ha_x : At S x 2) (hz_a1 : a1.toInt = a1_z) : Ci l yX2_isChosen wsX2_isChosen ({ frames := 1, cells := 0, slots := 0, locals := 48 }) G cy κ S sz [.ref x, .int (a1)] (fun (r : Int32) (S9 : PS) => S = S9 ∧ (((True) ∧ r = 1) ∨ ((True) ∧ r = 0))) := by
  refine ent_m (cc := cX2_isChosen) (maxL := 3) (ret := (some .boolean)) (by decide) rfl (Nat.le_of_ble_eq_true rfl) ?_
  intro p e s m below meth c ls X hr hlocks hin hw hl hsz
  subst hsz
  have X : Cx p c cX2_isChosen 3 s [.ref x, .int (a1)].toArray wsX2_isChosen RX2 m G cy κ (AS S s.heap.size) := X
  have hl : lv_has ls 3 [(0, .ref x), (1, .int (a1))] := hl
  have rg_a1 : (-2147483648) ≤ a1_z ∧ a1_z ≤ 2147483647 := by rw [← hz_a1]; exact ⟨z_lo _, z_hi _⟩
  generalize hQQ : MQ below _ _ _ _ _ _ = QQ
  replace hQQ := hQQ.symm
  refine lv_iconst (v := 0) X.1 X.2.1 dX2_isChosen_0 (by decide) ?_
  refine lv_istore_n (lv' := [(2, .int 0), (0, .ref x), (1, .int (a1))]) X.1 X.2.1 dX2_isChosen_1 rfl hl (by decide) rfl (fun ls hl => ?_)
  have L_1 : ∀ (n : Nat) (H : Heap) (locs : List Loc) (ls : Array Slot) (i2_2 : Int32) (i2_2_z : Int), ((14 - i2_2_z).toNat = n) → (Wd G cy (AS S s.heap.size) s.heap S H locs) → (i2_2.toInt = i2_2_z) → (0 ≤ i2_2_z ∧ i2_2_z ≤ 14) → (lv_has ls 3 [(2, .int (i2_2)), (0, .ref x), (1, .int (a1))]) → W p l e ({ frames := 1, cells := 0, slots := 0, locals := 48 }) s m [.ref x, .int (a1)].toArray below meth c H locs 0 0 QQ (F0 m 2 ls []) := by
    intro n
    induction n using Nat.strongRecOn with
    | ind n ih =>
    intro H locs ls i2_2 i2_2_z hn hw hz_i2_2 hr_i2_2 hl
    have rg_3 : (-2147483648) ≤ i2_2_z ∧ i2_2_z ≤ 2147483647 := by rw [← hz_i2_2]; exact ⟨z_lo _, z_hi _⟩
    refine lv_iload_n X.1 X.2.1 dX2_isChosen_2 rfl (lv_at hl 0 rfl) ?_
    refine lv_aload_n X.1 X.2.1 dX2_isChosen_3 rfl (lv_at hl 1 rfl) ?_
    obtain ⟨v_4, ev_4⟩ : ∃ v, pI S 203 x = v := ⟨_, rfl⟩
    have rg_5 := gI_2_203 hG ha_x; rw [ev_4] at rg_5
    refine r_getI (g := 203) (x := v_4) X hw ha_x rfl 3 ev_4 (by decide) rfl inn_X2_isChosen_2 (by decide) (X.2.2.2.1 (.fieldLink RX2 21 "SilkMill$Mixer" "size" "I") (by decide +kernel)) rfl (gv_203 _ _) dX2_isChosen_4 ?_
    refine lv_icmp_ge (tgt := 44) X.1 X.2.1 dX2_isChosen_7 (by decide) (fun c_6 => ?_) (fun c_6 => ?_)
    · have z_b_7 := trivial
      have k_8 : i2_2_z ≥ v_4.toInt := z_le rfl hz_i2_2 c_6
      refine lv_iconst (v := 0) X.1 X.2.1 dX2_isChosen_44 (by decide) ?_
      rw [hQQ]
      exact ret_z X hw hr hlocks (Nat.le_of_ble_eq_true rfl) (Nat.le_of_ble_eq_true rfl) (by decide) ⟨rfl, Or.inr ⟨trivial, rfl⟩⟩ dX2_isChosen_45
    · have z_b_9 := trivial
      have k_10 : i2_2_z < v_4.toInt := z_nle rfl hz_i2_2 c_6
      refine lv_aload_n X.1 X.2.1 dX2_isChosen_10 rfl (lv_at hl 1 rfl) ?_
      obtain ⟨q_11, h_12, h_13, h_14⟩ := gQ_2_200 hG ha_x
      refine r_getR (g := 200) X hw ha_x rfl 0 h_12 (by decide) rfl inn_X2_isChosen_2 (by decide) (X.2.2.2.1 (.fieldLink RX2 9 "SilkMill$Mixer" "numbers" "[I") (by decide +kernel)) rfl (gv_200 _ _) dX2_isChosen_11 ?_
      refine lv_iload_n X.1 X.2.1 dX2_isChosen_14 rfl (lv_at hl 0 rfl) ?_
      refine r_iald X hw h_13 rfl (by rw [h_14]; exact z_ix hz_i2_2 (by omega) (by omega)) dX2_isChosen_15 ?_
      refine lv_topi (fun v_15 ev_15 => ?_)
      have rg_16 := And.intro (z_lo v_15) (z_hi v_15)
      have ev_15 := ev_15.symm
      refine lv_iload_n X.1 X.2.1 dX2_isChosen_16 rfl (lv_at hl 2 rfl) ?_
      refine lv_icmp_ne (tgt := 38) X.1 X.2.1 dX2_isChosen_17 (by decide) (fun c_17 => ?_) (fun c_17 => ?_)
      · have z_b_18 := trivial
        have k_19 : v_15.toInt ≠ a1_z := z_ne rfl hz_a1 c_17
        obtain ⟨x_20, ex_20⟩ : ∃ y : Int32, y = i2_2 + 1 := ⟨_, rfl⟩
        have z_21 : x_20.toInt = i2_2_z + 1 := z_add ex_20 hz_i2_2 ti_1 (by omega) (by omega)
        refine lv_iinc (v := x_20) (lv' := [(2, .int (x_20)), (0, .ref x), (1, .int (a1))]) X.1 X.2.1 dX2_isChosen_38 hl (k := 0) rfl (by rw [ex_20]; rfl) (by decide) rfl (fun ls hl => ?_)
        refine lv_goto (tgt := 2) X.1 X.2.1 dX2_isChosen_41 (by decide) ?_
        exact ih _ (by omega) _ _ _ (x_20) (x_20.toInt) rfl hw rfl (by omega) (lv_sub hl [0, 1, 2] rfl)
      · have z_b_22 := trivial
        have k_23 : v_15.toInt = a1_z := z_eq rfl hz_a1 c_17
        refine lv_aload_n X.1 X.2.1 dX2_isChosen_20 rfl (lv_at hl 1 rfl) ?_
        obtain ⟨v_24, ev_24⟩ : ∃ v, pI S 207 x = v := ⟨_, rfl⟩
        have rg_26 := And.intro (z_lo v_24) (z_hi v_24)
        refine r_getI (g := 207) (x := v_24) X hw ha_x rfl 7 ev_24 (by decide) rfl inn_X2_isChosen_2 (by decide) (X.2.2.2.1 (.fieldLink RX2 37 "SilkMill$Mixer" "bestSet" "I") (by decide +kernel)) rfl (gv_207 _ _) dX2_isChosen_21 ?_
        refine lv_iload_n X.1 X.2.1 dX2_isChosen_24 rfl (lv_at hl 0 rfl) ?_
        refine lv_ishr X.1 X.2.1 dX2_isChosen_25 ?_
        refine lv_topi (fun v_27 ev_27 => ?_)
        have rg_28 := And.intro (z_lo v_27) (z_hi v_27)
        refine lv_iconst (v := 1) X.1 X.2.1 dX2_isChosen_26 (by decide) ?_
        refine lv_iand X.1 X.2.1 dX2_isChosen_27 ?_
        refine lv_topi (fun v_29 ev_29 => ?_)
        have rg_30 := And.intro (z_lo v_29) (z_hi v_29)
        refine lv_iconst (v := 1) X.1 X.2.1 dX2_isChosen_28 (by decide) ?_
        refine lv_icmp_ne (tgt := 36) X.1 X.2.1 dX2_isChosen_29 (by decide) (fun c_31 => ?_) (fun c_31 => ?_)
        · have z_b_32 := trivial
          have k_33 : v_29.toInt ≠ 1 := z_ne rfl ti_1 c_31
          refine lv_iconst (v := 0) X.1 X.2.1 dX2_isChosen_36 (by decide) ?_
          rw [hQQ]
          exact ret_z X hw hr hlocks (Nat.le_of_ble_eq_true rfl) (Nat.le_of_ble_eq_true rfl) (by decide) ⟨rfl, Or.inr ⟨trivial, rfl⟩⟩ dX2_isChosen_37
        · have z_b_34 := trivial
          have k_35 : v_29.toInt = 1 := z_eq rfl ti_1 c_31
          refine lv_iconst (v := 1) X.1 X.2.1 dX2_isChosen_32 (by decide) ?_
          refine lv_goto (tgt := 37) X.1 X.2.1 dX2_isChosen_33 (by decide) ?_
          rw [hQQ]
          exact ret_z X hw hr hlocks (Nat.le_of_ble_eq_true rfl) (Nat.le_of_ble_eq_true rfl) (by decide) ⟨rfl, Or.inl ⟨trivial, rfl⟩⟩ dX2_isChosen_37
  exact L_1 _ _ _ _ (0) (0) rfl hw ti_0 (by omega) (lv_sub hl [0, 1, 2] rfl)
set_option maxHeartbeats 4000000 in
set_option maxRecDepth 100000 in
theorem k_X2_seek_0 (l : Launch) (G : va_G) (cy : Nat → ClassId) (κ : Nat → Nat) (S : PS) (sz : Nat) (x : Nat) (a1 : Int32) (a1_z : Int) (a2 : Int32) (a2_z : Int) (a3 : Int32) (a3_z : Int) (a4 : Int32) (a4_z : Int) (hG : GX S) (ha_x : At S x 2) (hz_a1 : a1.toInt = a1_z) (hz_a2 : a2.toInt = a2_z) (hz_a3 : a3.toInt = a3_z) (hz_a4 : a4.toInt = a4_z) (hp_0 : 0 ≤ a1_z) (hp_1 : a1_z ≤ 14) (hp_2 : 14 ≤ a1_z + 0) : Cv l yX2_seek wsX2_seek ({ frames := 1, cells := 0, slots := 0, locals := 48 }) G cy κ S sz [.ref x, .int (a1), .int (a2), .int (a3), .int (a4)] (fun (S9 : PS) => Ok eMX S S9 ∧ (True)) := by
  refine ent_m (cc := cX2_seek) (maxL := 5) (ret := none) (by decide) rfl (Nat.le_of_ble_eq_true rfl) ?_
  intro p e s m below meth c ls X hr hlocks hin hw hl hsz
  subst hsz
  have X : Cx p c cX2_seek 5 s [.ref x, .int (a1), .int (a2), .int (a3), .int (a4)].toArray wsX2_seek RX2 m G cy κ (AS S s.heap.size) := X
  have hl : lv_has ls 5 [(0, .ref x), (1, .int (a1)), (2, .int (a2)), (3, .int (a3)), (4, .int (a4))] := hl
  have rg_a1 : (-2147483648) ≤ a1_z ∧ a1_z ≤ 2147483647 := by rw [← hz_a1]; exact ⟨z_lo _, z_hi _⟩
  have rg_a2 : (-2147483648) ≤ a2_z ∧ a2_z ≤ 2147483647 := by rw [← hz_a2]; exact ⟨z_lo _, z_hi _⟩
  have rg_a3 : (-2147483648) ≤ a3_z ∧ a3_z ≤ 2147483647 := by rw [← hz_a3]; exact ⟨z_lo _, z_hi _⟩
  have rg_a4 : (-2147483648) ≤ a4_z ∧ a4_z ≤ 2147483647 := by rw [← hz_a4]; exact ⟨z_lo _, z_hi _⟩
  have hO : Ok eMX S S := Ok.rf hG
  refine lv_iload_n X.1 X.2.1 dX2_seek_0 rfl (lv_at hl 3 rfl) ?_
  refine lv_aload_n X.1 X.2.1 dX2_seek_1 rfl (lv_at hl 0 rfl) ?_
  obtain ⟨v_1, ev_1⟩ : ∃ v, pI S 205 x = v := ⟨_, rfl⟩
  have rg_3 := And.intro (z_lo v_1) (z_hi v_1)
  refine r_getI (g := 205) (x := v_1) X hw ha_x rfl 5 ev_1 (by decide) rfl inn_X2_seek_2 (by decide) (X.2.2.2.1 (.fieldLink RX2 28 "SilkMill$Mixer" "wanted" "I") (by decide +kernel)) rfl (gv_205 _ _) dX2_seek_2 ?_
  refine lv_icmp_lt (tgt := 17) X.1 X.2.1 dX2_seek_5 (by decide) (fun c_4 => ?_) (fun c_4 => ?_)
  · have z_b_5 := trivial
    have k_6 : a3_z < v_1.toInt := z_lt hz_a3 rfl c_4
    exact ret_v X hw hr hlocks (Nat.le_of_ble_eq_true rfl) (Nat.le_of_ble_eq_true rfl) ⟨hO, trivial⟩ dX2_seek_17
  · have z_b_7 := trivial
    have k_8 : a3_z ≥ v_1.toInt := z_nlt hz_a3 rfl c_4
    refine lv_iload X.1 X.2.1 dX2_seek_8 (lv_at hl 4 rfl) ?_
    refine lv_aload_n X.1 X.2.1 dX2_seek_10 rfl (lv_at hl 0 rfl) ?_
    obtain ⟨v_9, ev_9⟩ : ∃ v, pI S 206 x = v := ⟨_, rfl⟩
    have rg_11 := And.intro (z_lo v_9) (z_hi v_9)
    refine r_getI (g := 206) (x := v_9) X hw ha_x rfl 6 ev_9 (by decide) rfl inn_X2_seek_2 (by decide) (X.2.2.2.1 (.fieldLink RX2 34 "SilkMill$Mixer" "bestPrice" "I") (by decide +kernel)) rfl (gv_206 _ _) dX2_seek_11 ?_
    refine lv_icmp_lt (tgt := 18) X.1 X.2.1 dX2_seek_14 (by decide) (fun c_12 => ?_) (fun c_12 => ?_)
    · have z_b_13 := trivial
      have k_14 : a4_z < v_9.toInt := z_lt hz_a4 rfl c_12
      refine lv_iload_n X.1 X.2.1 dX2_seek_18 rfl (lv_at hl 1 rfl) ?_
      refine lv_aload_n X.1 X.2.1 dX2_seek_19 rfl (lv_at hl 0 rfl) ?_
      obtain ⟨v_15, ev_15⟩ : ∃ v, pI S 203 x = v := ⟨_, rfl⟩
      have rg_16 := gI_2_203 hO.1 ha_x; rw [ev_15] at rg_16
      refine r_getI (g := 203) (x := v_15) X hw ha_x rfl 3 ev_15 (by decide) rfl inn_X2_seek_2 (by decide) (X.2.2.2.1 (.fieldLink RX2 21 "SilkMill$Mixer" "size" "I") (by decide +kernel)) rfl (gv_203 _ _) dX2_seek_20 ?_
      refine lv_icmp_ge (tgt := 32) X.1 X.2.1 dX2_seek_23 (by decide) (fun c_17 => ?_) (fun c_17 => ?_)
      · have z_b_18 := trivial
        have k_19 : a1_z ≥ v_15.toInt := z_le rfl hz_a1 c_17
        refine lv_aload_n X.1 X.2.1 dX2_seek_32 rfl (lv_at hl 0 rfl) ?_
        refine lv_iload X.1 X.2.1 dX2_seek_33 (lv_at hl 4 rfl) ?_
        refine r_putI (v := a4) X hw ha_x rfl 6 206 tyX2 (by decide) rfl inn_X2_seek_2 tyX2_ok nmX2 (by decide) (X.2.2.2.1 (.fieldLink RX2 34 "SilkMill$Mixer" "bestPrice" "I") (by decide +kernel)) rfl (Or.inl rfl) rfl rfl (Nat.le_of_ble_eq_true rfl) (st_206 _ _) dX2_seek_35 (fun H locs hw => ?_)
        obtain ⟨S_20, eS_20⟩ : ∃ T, T = sI S 206 x (a4) := ⟨_, rfl⟩
        rw [← eS_20] at hw
        have hO_21 : Ok eMX S S_20 := hO.sI eS_20 (by decide +kernel) (uI_2_206 hO.1 ha_x)
        have h_22 : pI S_20 206 x = a4 := tI_sIs eS_20
        refine lv_aload_n X.1 X.2.1 dX2_seek_38 rfl (lv_at hl 0 rfl) ?_
        refine lv_iload_n X.1 X.2.1 dX2_seek_39 rfl (lv_at hl 2 rfl) ?_
        have t_23 : At S_20 x 2 := tAt_sI eS_20 ha_x
        refine r_putI (v := a2) X hw t_23 rfl 7 207 tyX2 (by decide) rfl inn_X2_seek_2 tyX2_ok nmX2 (by decide) (X.2.2.2.1 (.fieldLink RX2 37 "SilkMill$Mixer" "bestSet" "I") (by decide +kernel)) rfl (Or.inl rfl) rfl rfl (Nat.le_of_ble_eq_true rfl) (st_207 _ _) dX2_seek_40 (fun H locs hw => ?_)
        obtain ⟨S_24, eS_24⟩ : ∃ T, T = sI S_20 207 x (a2) := ⟨_, rfl⟩
        rw [← eS_24] at hw
        have hO_25 : Ok eMX S S_24 := hO_21.sI eS_24 (by decide +kernel) (uI_2_207 hO_21.1 t_23)
        have h_26 : pI S_24 207 x = a2 := tI_sIs eS_24
        exact ret_v X hw hr hlocks (Nat.le_of_ble_eq_true rfl) (Nat.le_of_ble_eq_true rfl) ⟨hO_25, trivial⟩ dX2_seek_43
      · have z_b_27 := trivial
        have k_28 : a1_z < v_15.toInt := z_nle rfl hz_a1 c_17
        refine lv_iload_n X.1 X.2.1 dX2_seek_26 rfl (lv_at hl 1 rfl) ?_
        refine lv_bipush (v := 14) X.1 X.2.1 dX2_seek_27 (by decide) ?_
        refine lv_icmp_lt (tgt := 44) X.1 X.2.1 dX2_seek_29 (by decide) (fun c_29 => ?_) (fun c_29 => ?_)
        · exfalso
          have k_30 : a1_z < 14 := z_lt hz_a1 ti_14 c_29
          omega
        have k_31 : a1_z ≥ 14 := z_nlt hz_a1 ti_14 c_29
        refine lv_aload_n X.1 X.2.1 dX2_seek_32 rfl (lv_at hl 0 rfl) ?_
        refine lv_iload X.1 X.2.1 dX2_seek_33 (lv_at hl 4 rfl) ?_
        refine r_putI (v := a4) X hw ha_x rfl 6 206 tyX2 (by decide) rfl inn_X2_seek_2 tyX2_ok nmX2 (by decide) (X.2.2.2.1 (.fieldLink RX2 34 "SilkMill$Mixer" "bestPrice" "I") (by decide +kernel)) rfl (Or.inl rfl) rfl rfl (Nat.le_of_ble_eq_true rfl) (st_206 _ _) dX2_seek_35 (fun H locs hw => ?_)
        obtain ⟨S_32, eS_32⟩ : ∃ T, T = sI S 206 x (a4) := ⟨_, rfl⟩
        rw [← eS_32] at hw
        have hO_33 : Ok eMX S S_32 := hO.sI eS_32 (by decide +kernel) (uI_2_206 hO.1 ha_x)
        have h_34 : pI S_32 206 x = a4 := tI_sIs eS_32
        refine lv_aload_n X.1 X.2.1 dX2_seek_38 rfl (lv_at hl 0 rfl) ?_
        refine lv_iload_n X.1 X.2.1 dX2_seek_39 rfl (lv_at hl 2 rfl) ?_
        have t_35 : At S_32 x 2 := tAt_sI eS_32 ha_x
        refine r_putI (v := a2) X hw t_35 rfl 7 207 tyX2 (by decide) rfl inn_X2_seek_2 tyX2_ok nmX2 (by decide) (X.2.2.2.1 (.fieldLink RX2 37 "SilkMill$Mixer" "bestSet" "I") (by decide +kernel)) rfl (Or.inl rfl) rfl rfl (Nat.le_of_ble_eq_true rfl) (st_207 _ _) dX2_seek_40 (fun H locs hw => ?_)
        obtain ⟨S_36, eS_36⟩ : ∃ T, T = sI S_32 207 x (a2) := ⟨_, rfl⟩
        rw [← eS_36] at hw
        have hO_37 : Ok eMX S S_36 := hO_33.sI eS_36 (by decide +kernel) (uI_2_207 hO_33.1 t_35)
        have h_38 : pI S_36 207 x = a2 := tI_sIs eS_36
        exact ret_v X hw hr hlocks (Nat.le_of_ble_eq_true rfl) (Nat.le_of_ble_eq_true rfl) ⟨hO_37, trivial⟩ dX2_seek_43
    · have z_b_39 := trivial
      have k_40 : a4_z ≥ v_9.toInt := z_nlt hz_a4 rfl c_12
      exact ret_v X hw hr hlocks (Nat.le_of_ble_eq_true rfl) (Nat.le_of_ble_eq_true rfl) ⟨hO, trivial⟩ dX2_seek_17
set_option maxHeartbeats 4000000 in
set_option maxRecDepth 100000 in
theorem k_X2_seek_1 (l : Launch) (G : va_G) (cy : Nat → ClassId) (κ : Nat → Nat) (S : PS) (sz : Nat) (x : Nat) (a1 : Int32) (a1_z : Int) (a2 : Int32) (a2_z : Int) (a3 : Int32) (a3_z : Int) (a4 : Int32) (a4_z : Int) (hG : GX S) (ha_x : At S x 2) (hz_a1 : a1.toInt = a1_z) (hz_a2 : a2.toInt = a2_z) (hz_a3 : a3.toInt = a3_z) (hz_a4 : a4.toInt = a4_z) (hp_0 : 0 ≤ a1_z) (hp_1 : a1_z ≤ 14) (hp_2 : 14 ≤ a1_z + 1) : Cv l yX2_seek wsX2_seek ({ frames := 2, cells := 0, slots := 0, locals := 96 }) G cy κ S sz [.ref x, .int (a1), .int (a2), .int (a3), .int (a4)] (fun (S9 : PS) => Ok eMX S S9 ∧ (True)) := by
  refine ent_m (cc := cX2_seek) (maxL := 5) (ret := none) (by decide) rfl (Nat.le_of_ble_eq_true rfl) ?_
  intro p e s m below meth c ls X hr hlocks hin hw hl hsz
  subst hsz
  have X : Cx p c cX2_seek 5 s [.ref x, .int (a1), .int (a2), .int (a3), .int (a4)].toArray wsX2_seek RX2 m G cy κ (AS S s.heap.size) := X
  have hl : lv_has ls 5 [(0, .ref x), (1, .int (a1)), (2, .int (a2)), (3, .int (a3)), (4, .int (a4))] := hl
  have rg_a1 : (-2147483648) ≤ a1_z ∧ a1_z ≤ 2147483647 := by rw [← hz_a1]; exact ⟨z_lo _, z_hi _⟩
  have rg_a2 : (-2147483648) ≤ a2_z ∧ a2_z ≤ 2147483647 := by rw [← hz_a2]; exact ⟨z_lo _, z_hi _⟩
  have rg_a3 : (-2147483648) ≤ a3_z ∧ a3_z ≤ 2147483647 := by rw [← hz_a3]; exact ⟨z_lo _, z_hi _⟩
  have rg_a4 : (-2147483648) ≤ a4_z ∧ a4_z ≤ 2147483647 := by rw [← hz_a4]; exact ⟨z_lo _, z_hi _⟩
  have hO : Ok eMX S S := Ok.rf hG
  refine lv_iload_n X.1 X.2.1 dX2_seek_0 rfl (lv_at hl 3 rfl) ?_
  refine lv_aload_n X.1 X.2.1 dX2_seek_1 rfl (lv_at hl 0 rfl) ?_
  obtain ⟨v_1, ev_1⟩ : ∃ v, pI S 205 x = v := ⟨_, rfl⟩
  have rg_3 := And.intro (z_lo v_1) (z_hi v_1)
  refine r_getI (g := 205) (x := v_1) X hw ha_x rfl 5 ev_1 (by decide) rfl inn_X2_seek_2 (by decide) (X.2.2.2.1 (.fieldLink RX2 28 "SilkMill$Mixer" "wanted" "I") (by decide +kernel)) rfl (gv_205 _ _) dX2_seek_2 ?_
  refine lv_icmp_lt (tgt := 17) X.1 X.2.1 dX2_seek_5 (by decide) (fun c_4 => ?_) (fun c_4 => ?_)
  · have z_b_5 := trivial
    have k_6 : a3_z < v_1.toInt := z_lt hz_a3 rfl c_4
    exact ret_v X hw hr hlocks (Nat.le_of_ble_eq_true rfl) (Nat.le_of_ble_eq_true rfl) ⟨hO, trivial⟩ dX2_seek_17
  · have z_b_7 := trivial
    have k_8 : a3_z ≥ v_1.toInt := z_nlt hz_a3 rfl c_4
    refine lv_iload X.1 X.2.1 dX2_seek_8 (lv_at hl 4 rfl) ?_
    refine lv_aload_n X.1 X.2.1 dX2_seek_10 rfl (lv_at hl 0 rfl) ?_
    obtain ⟨v_9, ev_9⟩ : ∃ v, pI S 206 x = v := ⟨_, rfl⟩
    have rg_11 := And.intro (z_lo v_9) (z_hi v_9)
    refine r_getI (g := 206) (x := v_9) X hw ha_x rfl 6 ev_9 (by decide) rfl inn_X2_seek_2 (by decide) (X.2.2.2.1 (.fieldLink RX2 34 "SilkMill$Mixer" "bestPrice" "I") (by decide +kernel)) rfl (gv_206 _ _) dX2_seek_11 ?_
    refine lv_icmp_lt (tgt := 18) X.1 X.2.1 dX2_seek_14 (by decide) (fun c_12 => ?_) (fun c_12 => ?_)
    · have z_b_13 := trivial
      have k_14 : a4_z < v_9.toInt := z_lt hz_a4 rfl c_12
      refine lv_iload_n X.1 X.2.1 dX2_seek_18 rfl (lv_at hl 1 rfl) ?_
      refine lv_aload_n X.1 X.2.1 dX2_seek_19 rfl (lv_at hl 0 rfl) ?_
      obtain ⟨v_15, ev_15⟩ : ∃ v, pI S 203 x = v := ⟨_, rfl⟩
      have rg_16 := gI_2_203 hO.1 ha_x; rw [ev_15] at rg_16
      refine r_getI (g := 203) (x := v_15) X hw ha_x rfl 3 ev_15 (by decide) rfl inn_X2_seek_2 (by decide) (X.2.2.2.1 (.fieldLink RX2 21 "SilkMill$Mixer" "size" "I") (by decide +kernel)) rfl (gv_203 _ _) dX2_seek_20 ?_
      refine lv_icmp_ge (tgt := 32) X.1 X.2.1 dX2_seek_23 (by decide) (fun c_17 => ?_) (fun c_17 => ?_)
      · have z_b_18 := trivial
        have k_19 : a1_z ≥ v_15.toInt := z_le rfl hz_a1 c_17
        refine lv_aload_n X.1 X.2.1 dX2_seek_32 rfl (lv_at hl 0 rfl) ?_
        refine lv_iload X.1 X.2.1 dX2_seek_33 (lv_at hl 4 rfl) ?_
        refine r_putI (v := a4) X hw ha_x rfl 6 206 tyX2 (by decide) rfl inn_X2_seek_2 tyX2_ok nmX2 (by decide) (X.2.2.2.1 (.fieldLink RX2 34 "SilkMill$Mixer" "bestPrice" "I") (by decide +kernel)) rfl (Or.inl rfl) rfl rfl (Nat.le_of_ble_eq_true rfl) (st_206 _ _) dX2_seek_35 (fun H locs hw => ?_)
        obtain ⟨S_20, eS_20⟩ : ∃ T, T = sI S 206 x (a4) := ⟨_, rfl⟩
        rw [← eS_20] at hw
        have hO_21 : Ok eMX S S_20 := hO.sI eS_20 (by decide +kernel) (uI_2_206 hO.1 ha_x)
        have h_22 : pI S_20 206 x = a4 := tI_sIs eS_20
        refine lv_aload_n X.1 X.2.1 dX2_seek_38 rfl (lv_at hl 0 rfl) ?_
        refine lv_iload_n X.1 X.2.1 dX2_seek_39 rfl (lv_at hl 2 rfl) ?_
        have t_23 : At S_20 x 2 := tAt_sI eS_20 ha_x
        refine r_putI (v := a2) X hw t_23 rfl 7 207 tyX2 (by decide) rfl inn_X2_seek_2 tyX2_ok nmX2 (by decide) (X.2.2.2.1 (.fieldLink RX2 37 "SilkMill$Mixer" "bestSet" "I") (by decide +kernel)) rfl (Or.inl rfl) rfl rfl (Nat.le_of_ble_eq_true rfl) (st_207 _ _) dX2_seek_40 (fun H locs hw => ?_)
        obtain ⟨S_24, eS_24⟩ : ∃ T, T = sI S_20 207 x (a2) := ⟨_, rfl⟩
        rw [← eS_24] at hw
        have hO_25 : Ok eMX S S_24 := hO_21.sI eS_24 (by decide +kernel) (uI_2_207 hO_21.1 t_23)
        have h_26 : pI S_24 207 x = a2 := tI_sIs eS_24
        exact ret_v X hw hr hlocks (Nat.le_of_ble_eq_true rfl) (Nat.le_of_ble_eq_true rfl) ⟨hO_25, trivial⟩ dX2_seek_43
      · have z_b_27 := trivial
        have k_28 : a1_z < v_15.toInt := z_nle rfl hz_a1 c_17
        refine lv_iload_n X.1 X.2.1 dX2_seek_26 rfl (lv_at hl 1 rfl) ?_
        refine lv_bipush (v := 14) X.1 X.2.1 dX2_seek_27 (by decide) ?_
        refine lv_icmp_lt (tgt := 44) X.1 X.2.1 dX2_seek_29 (by decide) (fun c_29 => ?_) (fun c_29 => ?_)
        · have z_b_30 := trivial
          have k_31 : a1_z < 14 := z_lt hz_a1 ti_14 c_29
          refine lv_aload_n X.1 X.2.1 dX2_seek_44 rfl (lv_at hl 0 rfl) ?_
          refine lv_iload_n X.1 X.2.1 dX2_seek_45 rfl (lv_at hl 1 rfl) ?_
          refine lv_iconst (v := 1) X.1 X.2.1 dX2_seek_46 (by decide) ?_
          refine lv_iadd X.1 X.2.1 dX2_seek_47 ?_
          refine lv_topi (fun v_32 ev_32 => ?_)
          have z_33 : v_32.toInt = a1_z + 1 := z_add ev_32 hz_a1 ti_1 (by omega) (by omega)
          refine lv_iload_n X.1 X.2.1 dX2_seek_48 rfl (lv_at hl 2 rfl) ?_
          refine lv_iconst (v := 1) X.1 X.2.1 dX2_seek_49 (by decide) ?_
          refine lv_iload_n X.1 X.2.1 dX2_seek_50 rfl (lv_at hl 1 rfl) ?_
          refine lv_ishl X.1 X.2.1 dX2_seek_51 ?_
          refine lv_topi (fun v_34 ev_34 => ?_)
          have rg_35 := And.intro (z_lo v_34) (z_hi v_34)
          refine lv_ior X.1 X.2.1 dX2_seek_52 ?_
          refine lv_topi (fun v_36 ev_36 => ?_)
          have rg_37 := And.intro (z_lo v_36) (z_hi v_36)
          refine lv_iload_n X.1 X.2.1 dX2_seek_53 rfl (lv_at hl 3 rfl) ?_
          refine lv_iload X.1 X.2.1 dX2_seek_54 (lv_at hl 4 rfl) ?_
          refine lv_aload_n X.1 X.2.1 dX2_seek_56 rfl (lv_at hl 0 rfl) ?_
          obtain ⟨q_38, h_39, h_40, h_41⟩ := gQ_2_202 hO.1 ha_x
          refine r_getR (g := 202) X hw ha_x rfl 2 h_39 (by decide) rfl inn_X2_seek_2 (by decide) (X.2.2.2.1 (.fieldLink RX2 18 "SilkMill$Mixer" "prices" "[I") (by decide +kernel)) rfl (gv_202 _ _) dX2_seek_57 ?_
          refine lv_iload_n X.1 X.2.1 dX2_seek_60 rfl (lv_at hl 1 rfl) ?_
          refine r_iald X hw h_40 rfl (by rw [h_41]; exact z_ix hz_a1 (by omega) (by omega)) dX2_seek_61 ?_
          refine lv_topi (fun v_42 ev_42 => ?_)
          have rg_43 := And.intro (z_lo v_42) (z_hi v_42)
          have ev_42 := ev_42.symm
          refine lv_iadd X.1 X.2.1 dX2_seek_62 ?_
          refine lv_topi (fun v_44 ev_44 => ?_)
          have rg_45 := And.intro (z_lo v_44) (z_hi v_44)
          refine k_v (rm := { frames := 1, cells := 0, slots := 0, locals := 48 }) (av := [.ref x, .int (v_32), .int (v_36), .int (a3), .int (v_44)]) X hw (va_runS (As := [.ref x, .int (v_32), .int (v_36), .int (a3), .int (v_44)]) (rest := []) (cfix X) (k_X2_seek_0 l G cy κ S _ x (v_32) (v_32.toInt) (v_36) (v_36.toInt) (a3) (a3_z) (v_44) (v_44.toInt) hO.1 ha_x rfl rfl hz_a3 rfl (by omega) (by omega) (by omega)) (cwS 5 X.2.2.2.1 gX2_seek_X2_seek rfl rfl rfl (by decide +kernel) ⟨Nat.le_of_ble_eq_true rfl, Nat.le_of_ble_eq_true rfl⟩) (pre_S X hw _) rfl rfl hl.1 rfl (lv_room (Nat.le_of_ble_eq_true rfl)) dX2_seek_63 ⟨Nat.le_of_ble_eq_true rfl, Nat.le_of_ble_eq_true rfl⟩) 0 0 (Nat.le_of_ble_eq_true rfl) (Nat.le_of_ble_eq_true rfl) (fun S_47 H locs hp hw hfr hnw => ?_)
          obtain ⟨hk_48, hp⟩ := hp
          have hO_49 : Ok eMX S S_47 := hO.call hk_48 (by decide +kernel)
          refine lv_aload_n X.1 X.2.1 dX2_seek_66 rfl (lv_at hl 0 rfl) ?_
          refine lv_iload_n X.1 X.2.1 dX2_seek_67 rfl (lv_at hl 1 rfl) ?_
          refine lv_iconst (v := 1) X.1 X.2.1 dX2_seek_68 (by decide) ?_
          refine lv_iadd X.1 X.2.1 dX2_seek_69 ?_
          refine lv_topi (fun v_50 ev_50 => ?_)
          have z_51 : v_50.toInt = a1_z + 1 := z_add ev_50 hz_a1 ti_1 (by omega) (by omega)
          refine lv_iload_n X.1 X.2.1 dX2_seek_70 rfl (lv_at hl 2 rfl) ?_
          refine lv_iload_n X.1 X.2.1 dX2_seek_71 rfl (lv_at hl 3 rfl) ?_
          refine lv_aload_n X.1 X.2.1 dX2_seek_72 rfl (lv_at hl 0 rfl) ?_
          have t_52 : At S_47 x 2 := hk_48.fr.at ha_x
          obtain ⟨q_53, h_54, h_55, h_56⟩ := gQ_2_201 hO_49.1 t_52
          refine r_getR (g := 201) X hw t_52 rfl 1 h_54 (by decide) rfl inn_X2_seek_2 (by decide) (X.2.2.2.1 (.fieldLink RX2 15 "SilkMill$Mixer" "weights" "[I") (by decide +kernel)) rfl (gv_201 _ _) dX2_seek_73 ?_
          refine lv_iload_n X.1 X.2.1 dX2_seek_76 rfl (lv_at hl 1 rfl) ?_
          refine r_iald X hw h_55 rfl (by rw [h_56]; exact z_ix hz_a1 (by omega) (by omega)) dX2_seek_77 ?_
          refine lv_topi (fun v_57 ev_57 => ?_)
          have rg_58 := And.intro (z_lo v_57) (z_hi v_57)
          have ev_57 := ev_57.symm
          refine lv_isub X.1 X.2.1 dX2_seek_78 ?_
          refine lv_topi (fun v_59 ev_59 => ?_)
          have rg_60 := And.intro (z_lo v_59) (z_hi v_59)
          refine lv_iload X.1 X.2.1 dX2_seek_79 (lv_at hl 4 rfl) ?_
          refine k_v (rm := { frames := 1, cells := 0, slots := 0, locals := 48 }) (av := [.ref x, .int (v_50), .int (a2), .int (v_59), .int (a4)]) X hw (va_runS (As := [.ref x, .int (v_50), .int (a2), .int (v_59), .int (a4)]) (rest := []) (cfix X) (k_X2_seek_0 l G cy κ S_47 _ x (v_50) (v_50.toInt) (a2) (a2_z) (v_59) (v_59.toInt) (a4) (a4_z) hO_49.1 t_52 rfl hz_a2 rfl hz_a4 (by omega) (by omega) (by omega)) (cwS 5 X.2.2.2.1 gX2_seek_X2_seek rfl rfl rfl (by decide +kernel) ⟨Nat.le_of_ble_eq_true rfl, Nat.le_of_ble_eq_true rfl⟩) (pre_S X hw _) rfl rfl hl.1 rfl (lv_room (Nat.le_of_ble_eq_true rfl)) dX2_seek_81 ⟨Nat.le_of_ble_eq_true rfl, Nat.le_of_ble_eq_true rfl⟩) 0 0 (Nat.le_of_ble_eq_true rfl) (Nat.le_of_ble_eq_true rfl) (fun S_62 H locs hp hw hfr hnw => ?_)
          obtain ⟨hk_63, hp⟩ := hp
          have hO_64 : Ok eMX S S_62 := hO_49.call hk_63 (by decide +kernel)
          exact ret_v X hw hr hlocks (Nat.le_of_ble_eq_true rfl) (Nat.le_of_ble_eq_true rfl) ⟨hO_64, trivial⟩ dX2_seek_84
        · have z_b_65 := trivial
          have k_66 : a1_z ≥ 14 := z_nlt hz_a1 ti_14 c_29
          refine lv_aload_n X.1 X.2.1 dX2_seek_32 rfl (lv_at hl 0 rfl) ?_
          refine lv_iload X.1 X.2.1 dX2_seek_33 (lv_at hl 4 rfl) ?_
          refine r_putI (v := a4) X hw ha_x rfl 6 206 tyX2 (by decide) rfl inn_X2_seek_2 tyX2_ok nmX2 (by decide) (X.2.2.2.1 (.fieldLink RX2 34 "SilkMill$Mixer" "bestPrice" "I") (by decide +kernel)) rfl (Or.inl rfl) rfl rfl (Nat.le_of_ble_eq_true rfl) (st_206 _ _) dX2_seek_35 (fun H locs hw => ?_)
          obtain ⟨S_67, eS_67⟩ : ∃ T, T = sI S 206 x (a4) := ⟨_, rfl⟩
          rw [← eS_67] at hw
          have hO_68 : Ok eMX S S_67 := hO.sI eS_67 (by decide +kernel) (uI_2_206 hO.1 ha_x)
          have h_69 : pI S_67 206 x = a4 := tI_sIs eS_67
          refine lv_aload_n X.1 X.2.1 dX2_seek_38 rfl (lv_at hl 0 rfl) ?_
          refine lv_iload_n X.1 X.2.1 dX2_seek_39 rfl (lv_at hl 2 rfl) ?_
          have t_70 : At S_67 x 2 := tAt_sI eS_67 ha_x
          refine r_putI (v := a2) X hw t_70 rfl 7 207 tyX2 (by decide) rfl inn_X2_seek_2 tyX2_ok nmX2 (by decide) (X.2.2.2.1 (.fieldLink RX2 37 "SilkMill$Mixer" "bestSet" "I") (by decide +kernel)) rfl (Or.inl rfl) rfl rfl (Nat.le_of_ble_eq_true rfl) (st_207 _ _) dX2_seek_40 (fun H locs hw => ?_)
          obtain ⟨S_71, eS_71⟩ : ∃ T, T = sI S_67 207 x (a2) := ⟨_, rfl⟩
          rw [← eS_71] at hw
          have hO_72 : Ok eMX S S_71 := hO_68.sI eS_71 (by decide +kernel) (uI_2_207 hO_68.1 t_70)
          have h_73 : pI S_71 207 x = a2 := tI_sIs eS_71
          exact ret_v X hw hr hlocks (Nat.le_of_ble_eq_true rfl) (Nat.le_of_ble_eq_true rfl) ⟨hO_72, trivial⟩ dX2_seek_43
    · have z_b_74 := trivial
      have k_75 : a4_z ≥ v_9.toInt := z_nlt hz_a4 rfl c_12
      exact ret_v X hw hr hlocks (Nat.le_of_ble_eq_true rfl) (Nat.le_of_ble_eq_true rfl) ⟨hO, trivial⟩ dX2_seek_17
set_option maxHeartbeats 4000000 in
set_option maxRecDepth 100000 in
theorem k_X2_seek_2 (l : Launch) (G : va_G) (cy : Nat → ClassId) (κ : Nat → Nat) (S : PS) (sz : Nat) (x : Nat) (a1 : Int32) (a1_z : Int) (a2 : Int32) (a2_z : Int) (a3 : Int32) (a3_z : Int) (a4 : Int32) (a4_z : Int) (hG : GX S) (ha_x : At S x 2) (hz_a1 : a1.toInt = a1_z) (hz_a2 : a2.toInt = a2_z) (hz_a3 : a3.toInt = a3_z) (hz_a4 : a4.toInt = a4_z) (hp_0 : 0 ≤ a1_z) (hp_1 : a1_z ≤ 14) (hp_2 : 14 ≤ a1_z + 2) : Cv l yX2_seek wsX2_seek ({ frames := 3, cells := 0, slots := 0, locals := 144 }) G cy κ S sz [.ref x, .int (a1), .int (a2), .int (a3), .int (a4)] (fun (S9 : PS) => Ok eMX S S9 ∧ (True)) := by
  refine ent_m (cc := cX2_seek) (maxL := 5) (ret := none) (by decide) rfl (Nat.le_of_ble_eq_true rfl) ?_
  intro p e s m below meth c ls X hr hlocks hin hw hl hsz
  subst hsz
  have X : Cx p c cX2_seek 5 s [.ref x, .int (a1), .int (a2), .int (a3), .int (a4)].toArray wsX2_seek RX2 m G cy κ (AS S s.heap.size) := X
  have hl : lv_has ls 5 [(0, .ref x), (1, .int (a1)), (2, .int (a2)), (3, .int (a3)), (4, .int (a4))] := hl
  have rg_a1 : (-2147483648) ≤ a1_z ∧ a1_z ≤ 2147483647 := by rw [← hz_a1]; exact ⟨z_lo _, z_hi _⟩
  have rg_a2 : (-2147483648) ≤ a2_z ∧ a2_z ≤ 2147483647 := by rw [← hz_a2]; exact ⟨z_lo _, z_hi _⟩
  have rg_a3 : (-2147483648) ≤ a3_z ∧ a3_z ≤ 2147483647 := by rw [← hz_a3]; exact ⟨z_lo _, z_hi _⟩
  have rg_a4 : (-2147483648) ≤ a4_z ∧ a4_z ≤ 2147483647 := by rw [← hz_a4]; exact ⟨z_lo _, z_hi _⟩
  have hO : Ok eMX S S := Ok.rf hG
  refine lv_iload_n X.1 X.2.1 dX2_seek_0 rfl (lv_at hl 3 rfl) ?_
  refine lv_aload_n X.1 X.2.1 dX2_seek_1 rfl (lv_at hl 0 rfl) ?_
  obtain ⟨v_1, ev_1⟩ : ∃ v, pI S 205 x = v := ⟨_, rfl⟩
  have rg_3 := And.intro (z_lo v_1) (z_hi v_1)
  refine r_getI (g := 205) (x := v_1) X hw ha_x rfl 5 ev_1 (by decide) rfl inn_X2_seek_2 (by decide) (X.2.2.2.1 (.fieldLink RX2 28 "SilkMill$Mixer" "wanted" "I") (by decide +kernel)) rfl (gv_205 _ _) dX2_seek_2 ?_
  refine lv_icmp_lt (tgt := 17) X.1 X.2.1 dX2_seek_5 (by decide) (fun c_4 => ?_) (fun c_4 => ?_)
  · have z_b_5 := trivial
    have k_6 : a3_z < v_1.toInt := z_lt hz_a3 rfl c_4
    exact ret_v X hw hr hlocks (Nat.le_of_ble_eq_true rfl) (Nat.le_of_ble_eq_true rfl) ⟨hO, trivial⟩ dX2_seek_17
  · have z_b_7 := trivial
    have k_8 : a3_z ≥ v_1.toInt := z_nlt hz_a3 rfl c_4
    refine lv_iload X.1 X.2.1 dX2_seek_8 (lv_at hl 4 rfl) ?_
    refine lv_aload_n X.1 X.2.1 dX2_seek_10 rfl (lv_at hl 0 rfl) ?_
    obtain ⟨v_9, ev_9⟩ : ∃ v, pI S 206 x = v := ⟨_, rfl⟩
    have rg_11 := And.intro (z_lo v_9) (z_hi v_9)
    refine r_getI (g := 206) (x := v_9) X hw ha_x rfl 6 ev_9 (by decide) rfl inn_X2_seek_2 (by decide) (X.2.2.2.1 (.fieldLink RX2 34 "SilkMill$Mixer" "bestPrice" "I") (by decide +kernel)) rfl (gv_206 _ _) dX2_seek_11 ?_
    refine lv_icmp_lt (tgt := 18) X.1 X.2.1 dX2_seek_14 (by decide) (fun c_12 => ?_) (fun c_12 => ?_)
    · have z_b_13 := trivial
      have k_14 : a4_z < v_9.toInt := z_lt hz_a4 rfl c_12
      refine lv_iload_n X.1 X.2.1 dX2_seek_18 rfl (lv_at hl 1 rfl) ?_
      refine lv_aload_n X.1 X.2.1 dX2_seek_19 rfl (lv_at hl 0 rfl) ?_
      obtain ⟨v_15, ev_15⟩ : ∃ v, pI S 203 x = v := ⟨_, rfl⟩
      have rg_16 := gI_2_203 hO.1 ha_x; rw [ev_15] at rg_16
      refine r_getI (g := 203) (x := v_15) X hw ha_x rfl 3 ev_15 (by decide) rfl inn_X2_seek_2 (by decide) (X.2.2.2.1 (.fieldLink RX2 21 "SilkMill$Mixer" "size" "I") (by decide +kernel)) rfl (gv_203 _ _) dX2_seek_20 ?_
      refine lv_icmp_ge (tgt := 32) X.1 X.2.1 dX2_seek_23 (by decide) (fun c_17 => ?_) (fun c_17 => ?_)
      · have z_b_18 := trivial
        have k_19 : a1_z ≥ v_15.toInt := z_le rfl hz_a1 c_17
        refine lv_aload_n X.1 X.2.1 dX2_seek_32 rfl (lv_at hl 0 rfl) ?_
        refine lv_iload X.1 X.2.1 dX2_seek_33 (lv_at hl 4 rfl) ?_
        refine r_putI (v := a4) X hw ha_x rfl 6 206 tyX2 (by decide) rfl inn_X2_seek_2 tyX2_ok nmX2 (by decide) (X.2.2.2.1 (.fieldLink RX2 34 "SilkMill$Mixer" "bestPrice" "I") (by decide +kernel)) rfl (Or.inl rfl) rfl rfl (Nat.le_of_ble_eq_true rfl) (st_206 _ _) dX2_seek_35 (fun H locs hw => ?_)
        obtain ⟨S_20, eS_20⟩ : ∃ T, T = sI S 206 x (a4) := ⟨_, rfl⟩
        rw [← eS_20] at hw
        have hO_21 : Ok eMX S S_20 := hO.sI eS_20 (by decide +kernel) (uI_2_206 hO.1 ha_x)
        have h_22 : pI S_20 206 x = a4 := tI_sIs eS_20
        refine lv_aload_n X.1 X.2.1 dX2_seek_38 rfl (lv_at hl 0 rfl) ?_
        refine lv_iload_n X.1 X.2.1 dX2_seek_39 rfl (lv_at hl 2 rfl) ?_
        have t_23 : At S_20 x 2 := tAt_sI eS_20 ha_x
        refine r_putI (v := a2) X hw t_23 rfl 7 207 tyX2 (by decide) rfl inn_X2_seek_2 tyX2_ok nmX2 (by decide) (X.2.2.2.1 (.fieldLink RX2 37 "SilkMill$Mixer" "bestSet" "I") (by decide +kernel)) rfl (Or.inl rfl) rfl rfl (Nat.le_of_ble_eq_true rfl) (st_207 _ _) dX2_seek_40 (fun H locs hw => ?_)
        obtain ⟨S_24, eS_24⟩ : ∃ T, T = sI S_20 207 x (a2) := ⟨_, rfl⟩
        rw [← eS_24] at hw
        have hO_25 : Ok eMX S S_24 := hO_21.sI eS_24 (by decide +kernel) (uI_2_207 hO_21.1 t_23)
        have h_26 : pI S_24 207 x = a2 := tI_sIs eS_24
        exact ret_v X hw hr hlocks (Nat.le_of_ble_eq_true rfl) (Nat.le_of_ble_eq_true rfl) ⟨hO_25, trivial⟩ dX2_seek_43
      · have z_b_27 := trivial
        have k_28 : a1_z < v_15.toInt := z_nle rfl hz_a1 c_17
        refine lv_iload_n X.1 X.2.1 dX2_seek_26 rfl (lv_at hl 1 rfl) ?_
        refine lv_bipush (v := 14) X.1 X.2.1 dX2_seek_27 (by decide) ?_
        refine lv_icmp_lt (tgt := 44) X.1 X.2.1 dX2_seek_29 (by decide) (fun c_29 => ?_) (fun c_29 => ?_)
        · have z_b_30 := trivial
          have k_31 : a1_z < 14 := z_lt hz_a1 ti_14 c_29
          refine lv_aload_n X.1 X.2.1 dX2_seek_44 rfl (lv_at hl 0 rfl) ?_
          refine lv_iload_n X.1 X.2.1 dX2_seek_45 rfl (lv_at hl 1 rfl) ?_
          refine lv_iconst (v := 1) X.1 X.2.1 dX2_seek_46 (by decide) ?_
          refine lv_iadd X.1 X.2.1 dX2_seek_47 ?_
          refine lv_topi (fun v_32 ev_32 => ?_)
          have z_33 : v_32.toInt = a1_z + 1 := z_add ev_32 hz_a1 ti_1 (by omega) (by omega)
          refine lv_iload_n X.1 X.2.1 dX2_seek_48 rfl (lv_at hl 2 rfl) ?_
          refine lv_iconst (v := 1) X.1 X.2.1 dX2_seek_49 (by decide) ?_
          refine lv_iload_n X.1 X.2.1 dX2_seek_50 rfl (lv_at hl 1 rfl) ?_
          refine lv_ishl X.1 X.2.1 dX2_seek_51 ?_
          refine lv_topi (fun v_34 ev_34 => ?_)
          have rg_35 := And.intro (z_lo v_34) (z_hi v_34)
          refine lv_ior X.1 X.2.1 dX2_seek_52 ?_
          refine lv_topi (fun v_36 ev_36 => ?_)
          have rg_37 := And.intro (z_lo v_36) (z_hi v_36)
          refine lv_iload_n X.1 X.2.1 dX2_seek_53 rfl (lv_at hl 3 rfl) ?_
          refine lv_iload X.1 X.2.1 dX2_seek_54 (lv_at hl 4 rfl) ?_
          refine lv_aload_n X.1 X.2.1 dX2_seek_56 rfl (lv_at hl 0 rfl) ?_
          obtain ⟨q_38, h_39, h_40, h_41⟩ := gQ_2_202 hO.1 ha_x
          refine r_getR (g := 202) X hw ha_x rfl 2 h_39 (by decide) rfl inn_X2_seek_2 (by decide) (X.2.2.2.1 (.fieldLink RX2 18 "SilkMill$Mixer" "prices" "[I") (by decide +kernel)) rfl (gv_202 _ _) dX2_seek_57 ?_
          refine lv_iload_n X.1 X.2.1 dX2_seek_60 rfl (lv_at hl 1 rfl) ?_
          refine r_iald X hw h_40 rfl (by rw [h_41]; exact z_ix hz_a1 (by omega) (by omega)) dX2_seek_61 ?_
          refine lv_topi (fun v_42 ev_42 => ?_)
          have rg_43 := And.intro (z_lo v_42) (z_hi v_42)
          have ev_42 := ev_42.symm
          refine lv_iadd X.1 X.2.1 dX2_seek_62 ?_
          refine lv_topi (fun v_44 ev_44 => ?_)
          have rg_45 := And.intro (z_lo v_44) (z_hi v_44)
          refine k_v (rm := { frames := 2, cells := 0, slots := 0, locals := 96 }) (av := [.ref x, .int (v_32), .int (v_36), .int (a3), .int (v_44)]) X hw (va_runS (As := [.ref x, .int (v_32), .int (v_36), .int (a3), .int (v_44)]) (rest := []) (cfix X) (k_X2_seek_1 l G cy κ S _ x (v_32) (v_32.toInt) (v_36) (v_36.toInt) (a3) (a3_z) (v_44) (v_44.toInt) hO.1 ha_x rfl rfl hz_a3 rfl (by omega) (by omega) (by omega)) (cwS 5 X.2.2.2.1 gX2_seek_X2_seek rfl rfl rfl (by decide +kernel) ⟨Nat.le_of_ble_eq_true rfl, Nat.le_of_ble_eq_true rfl⟩) (pre_S X hw _) rfl rfl hl.1 rfl (lv_room (Nat.le_of_ble_eq_true rfl)) dX2_seek_63 ⟨Nat.le_of_ble_eq_true rfl, Nat.le_of_ble_eq_true rfl⟩) 0 0 (Nat.le_of_ble_eq_true rfl) (Nat.le_of_ble_eq_true rfl) (fun S_47 H locs hp hw hfr hnw => ?_)
          obtain ⟨hk_48, hp⟩ := hp
          have hO_49 : Ok eMX S S_47 := hO.call hk_48 (by decide +kernel)
          refine lv_aload_n X.1 X.2.1 dX2_seek_66 rfl (lv_at hl 0 rfl) ?_
          refine lv_iload_n X.1 X.2.1 dX2_seek_67 rfl (lv_at hl 1 rfl) ?_
          refine lv_iconst (v := 1) X.1 X.2.1 dX2_seek_68 (by decide) ?_
          refine lv_iadd X.1 X.2.1 dX2_seek_69 ?_
          refine lv_topi (fun v_50 ev_50 => ?_)
          have z_51 : v_50.toInt = a1_z + 1 := z_add ev_50 hz_a1 ti_1 (by omega) (by omega)
          refine lv_iload_n X.1 X.2.1 dX2_seek_70 rfl (lv_at hl 2 rfl) ?_
          refine lv_iload_n X.1 X.2.1 dX2_seek_71 rfl (lv_at hl 3 rfl) ?_
          refine lv_aload_n X.1 X.2.1 dX2_seek_72 rfl (lv_at hl 0 rfl) ?_
          have t_52 : At S_47 x 2 := hk_48.fr.at ha_x
          obtain ⟨q_53, h_54, h_55, h_56⟩ := gQ_2_201 hO_49.1 t_52
          refine r_getR (g := 201) X hw t_52 rfl 1 h_54 (by decide) rfl inn_X2_seek_2 (by decide) (X.2.2.2.1 (.fieldLink RX2 15 "SilkMill$Mixer" "weights" "[I") (by decide +kernel)) rfl (gv_201 _ _) dX2_seek_73 ?_
          refine lv_iload_n X.1 X.2.1 dX2_seek_76 rfl (lv_at hl 1 rfl) ?_
          refine r_iald X hw h_55 rfl (by rw [h_56]; exact z_ix hz_a1 (by omega) (by omega)) dX2_seek_77 ?_
          refine lv_topi (fun v_57 ev_57 => ?_)
          have rg_58 := And.intro (z_lo v_57) (z_hi v_57)
          have ev_57 := ev_57.symm
          refine lv_isub X.1 X.2.1 dX2_seek_78 ?_
          refine lv_topi (fun v_59 ev_59 => ?_)
          have rg_60 := And.intro (z_lo v_59) (z_hi v_59)
          refine lv_iload X.1 X.2.1 dX2_seek_79 (lv_at hl 4 rfl) ?_
          refine k_v (rm := { frames := 2, cells := 0, slots := 0, locals := 96 }) (av := [.ref x, .int (v_50), .int (a2), .int (v_59), .int (a4)]) X hw (va_runS (As := [.ref x, .int (v_50), .int (a2), .int (v_59), .int (a4)]) (rest := []) (cfix X) (k_X2_seek_1 l G cy κ S_47 _ x (v_50) (v_50.toInt) (a2) (a2_z) (v_59) (v_59.toInt) (a4) (a4_z) hO_49.1 t_52 rfl hz_a2 rfl hz_a4 (by omega) (by omega) (by omega)) (cwS 5 X.2.2.2.1 gX2_seek_X2_seek rfl rfl rfl (by decide +kernel) ⟨Nat.le_of_ble_eq_true rfl, Nat.le_of_ble_eq_true rfl⟩) (pre_S X hw _) rfl rfl hl.1 rfl (lv_room (Nat.le_of_ble_eq_true rfl)) dX2_seek_81 ⟨Nat.le_of_ble_eq_true rfl, Nat.le_of_ble_eq_true rfl⟩) 0 0 (Nat.le_of_ble_eq_true rfl) (Nat.le_of_ble_eq_true rfl) (fun S_62 H locs hp hw hfr hnw => ?_)
          obtain ⟨hk_63, hp⟩ := hp
          have hO_64 : Ok eMX S S_62 := hO_49.call hk_63 (by decide +kernel)
          exact ret_v X hw hr hlocks (Nat.le_of_ble_eq_true rfl) (Nat.le_of_ble_eq_true rfl) ⟨hO_64, trivial⟩ dX2_seek_84
        · have z_b_65 := trivial
          have k_66 : a1_z ≥ 14 := z_nlt hz_a1 ti_14 c_29
          refine lv_aload_n X.1 X.2.1 dX2_seek_32 rfl (lv_at hl 0 rfl) ?_
          refine lv_iload X.1 X.2.1 dX2_seek_33 (lv_at hl 4 rfl) ?_
          refine r_putI (v := a4) X hw ha_x rfl 6 206 tyX2 (by decide) rfl inn_X2_seek_2 tyX2_ok nmX2 (by decide) (X.2.2.2.1 (.fieldLink RX2 34 "SilkMill$Mixer" "bestPrice" "I") (by decide +kernel)) rfl (Or.inl rfl) rfl rfl (Nat.le_of_ble_eq_true rfl) (st_206 _ _) dX2_seek_35 (fun H locs hw => ?_)
          obtain ⟨S_67, eS_67⟩ : ∃ T, T = sI S 206 x (a4) := ⟨_, rfl⟩
          rw [← eS_67] at hw
          have hO_68 : Ok eMX S S_67 := hO.sI eS_67 (by decide +kernel) (uI_2_206 hO.1 ha_x)
          have h_69 : pI S_67 206 x = a4 := tI_sIs eS_67
          refine lv_aload_n X.1 X.2.1 dX2_seek_38 rfl (lv_at hl 0 rfl) ?_
          refine lv_iload_n X.1 X.2.1 dX2_seek_39 rfl (lv_at hl 2 rfl) ?_
          have t_70 : At S_67 x 2 := tAt_sI eS_67 ha_x
          refine r_putI (v := a2) X hw t_70 rfl 7 207 tyX2 (by decide) rfl inn_X2_seek_2 tyX2_ok nmX2 (by decide) (X.2.2.2.1 (.fieldLink RX2 37 "SilkMill$Mixer" "bestSet" "I") (by decide +kernel)) rfl (Or.inl rfl) rfl rfl (Nat.le_of_ble_eq_true rfl) (st_207 _ _) dX2_seek_40 (fun H locs hw => ?_)
          obtain ⟨S_71, eS_71⟩ : ∃ T, T = sI S_67 207 x (a2) := ⟨_, rfl⟩
          rw [← eS_71] at hw
          have hO_72 : Ok eMX S S_71 := hO_68.sI eS_71 (by decide +kernel) (uI_2_207 hO_68.1 t_70)
          have h_73 : pI S_71 207 x = a2 := tI_sIs eS_71
          exact ret_v X hw hr hlocks (Nat.le_of_ble_eq_true rfl) (Nat.le_of_ble_eq_true rfl) ⟨hO_72, trivial⟩ dX2_seek_43
    · have z_b_74 := trivial
      have k_75 : a4_z ≥ v_9.toInt := z_nlt hz_a4 rfl c_12
      exact ret_v X hw hr hlocks (Nat.le_of_ble_eq_true rfl) (Nat.le_of_ble_eq_true rfl) ⟨hO, trivial⟩ dX2_seek_17
set_option maxHeartbeats 4000000 in
set_option maxRecDepth 100000 in
theorem k_X2_seek_3 (l : Launch) (G : va_G) (cy : Nat → ClassId) (κ : Nat → Nat) (S : PS) (sz : Nat) (x : Nat) (a1 : Int32) (a1_z : Int) (a2 : Int32) (a2_z : Int) (a3 : Int32) (a3_z : Int) (a4 : Int32) (a4_z : Int) (hG : GX S) (ha_x : At S x 2) (hz_a1 : a1.toInt = a1_z) (hz_a2 : a2.toInt = a2_z) (hz_a3 : a3.toInt = a3_z) (hz_a4 : a4.toInt = a4_z) (hp_0 : 0 ≤ a1_z) (hp_1 : a1_z ≤ 14) (hp_2 : 14 ≤ a1_z + 3) : Cv l yX2_seek wsX2_seek ({ frames := 4, cells := 0, slots := 0, locals := 192 }) G cy κ S sz [.ref x, .int (a1), .int (a2), .int (a3), .int (a4)] (fun (S9 : PS) => Ok eMX S S9 ∧ (True)) := by
  refine ent_m (cc := cX2_seek) (maxL := 5) (ret := none) (by decide) rfl (Nat.le_of_ble_eq_true rfl) ?_
  intro p e s m below meth c ls X hr hlocks hin hw hl hsz
  subst hsz
  have X : Cx p c cX2_seek 5 s [.ref x, .int (a1), .int (a2), .int (a3), .int (a4)].toArray wsX2_seek RX2 m G cy κ (AS S s.heap.size) := X
  have hl : lv_has ls 5 [(0, .ref x), (1, .int (a1)), (2, .int (a2)), (3, .int (a3)), (4, .int (a4))] := hl
  have rg_a1 : (-2147483648) ≤ a1_z ∧ a1_z ≤ 2147483647 := by rw [← hz_a1]; exact ⟨z_lo _, z_hi _⟩
  have rg_a2 : (-2147483648) ≤ a2_z ∧ a2_z ≤ 2147483647 := by rw [← hz_a2]; exact ⟨z_lo _, z_hi _⟩
  have rg_a3 : (-2147483648) ≤ a3_z ∧ a3_z ≤ 2147483647 := by rw [← hz_a3]; exact ⟨z_lo _, z_hi _⟩
  have rg_a4 : (-2147483648) ≤ a4_z ∧ a4_z ≤ 2147483647 := by rw [← hz_a4]; exact ⟨z_lo _, z_hi _⟩
  have hO : Ok eMX S S := Ok.rf hG
  refine lv_iload_n X.1 X.2.1 dX2_seek_0 rfl (lv_at hl 3 rfl) ?_
  refine lv_aload_n X.1 X.2.1 dX2_seek_1 rfl (lv_at hl 0 rfl) ?_
  obtain ⟨v_1, ev_1⟩ : ∃ v, pI S 205 x = v := ⟨_, rfl⟩
  have rg_3 := And.intro (z_lo v_1) (z_hi v_1)
  refine r_getI (g := 205) (x := v_1) X hw ha_x rfl 5 ev_1 (by decide) rfl inn_X2_seek_2 (by decide) (X.2.2.2.1 (.fieldLink RX2 28 "SilkMill$Mixer" "wanted" "I") (by decide +kernel)) rfl (gv_205 _ _) dX2_seek_2 ?_
  refine lv_icmp_lt (tgt := 17) X.1 X.2.1 dX2_seek_5 (by decide) (fun c_4 => ?_) (fun c_4 => ?_)
  · have z_b_5 := trivial
    have k_6 : a3_z < v_1.toInt := z_lt hz_a3 rfl c_4
    exact ret_v X hw hr hlocks (Nat.le_of_ble_eq_true rfl) (Nat.le_of_ble_eq_true rfl) ⟨hO, trivial⟩ dX2_seek_17
  · have z_b_7 := trivial
    have k_8 : a3_z ≥ v_1.toInt := z_nlt hz_a3 rfl c_4
    refine lv_iload X.1 X.2.1 dX2_seek_8 (lv_at hl 4 rfl) ?_
    refine lv_aload_n X.1 X.2.1 dX2_seek_10 rfl (lv_at hl 0 rfl) ?_
    obtain ⟨v_9, ev_9⟩ : ∃ v, pI S 206 x = v := ⟨_, rfl⟩
    have rg_11 := And.intro (z_lo v_9) (z_hi v_9)
    refine r_getI (g := 206) (x := v_9) X hw ha_x rfl 6 ev_9 (by decide) rfl inn_X2_seek_2 (by decide) (X.2.2.2.1 (.fieldLink RX2 34 "SilkMill$Mixer" "bestPrice" "I") (by decide +kernel)) rfl (gv_206 _ _) dX2_seek_11 ?_
    refine lv_icmp_lt (tgt := 18) X.1 X.2.1 dX2_seek_14 (by decide) (fun c_12 => ?_) (fun c_12 => ?_)
    · have z_b_13 := trivial
      have k_14 : a4_z < v_9.toInt := z_lt hz_a4 rfl c_12
      refine lv_iload_n X.1 X.2.1 dX2_seek_18 rfl (lv_at hl 1 rfl) ?_
      refine lv_aload_n X.1 X.2.1 dX2_seek_19 rfl (lv_at hl 0 rfl) ?_
      obtain ⟨v_15, ev_15⟩ : ∃ v, pI S 203 x = v := ⟨_, rfl⟩
      have rg_16 := gI_2_203 hO.1 ha_x; rw [ev_15] at rg_16
      refine r_getI (g := 203) (x := v_15) X hw ha_x rfl 3 ev_15 (by decide) rfl inn_X2_seek_2 (by decide) (X.2.2.2.1 (.fieldLink RX2 21 "SilkMill$Mixer" "size" "I") (by decide +kernel)) rfl (gv_203 _ _) dX2_seek_20 ?_
      refine lv_icmp_ge (tgt := 32) X.1 X.2.1 dX2_seek_23 (by decide) (fun c_17 => ?_) (fun c_17 => ?_)
      · have z_b_18 := trivial
        have k_19 : a1_z ≥ v_15.toInt := z_le rfl hz_a1 c_17
        refine lv_aload_n X.1 X.2.1 dX2_seek_32 rfl (lv_at hl 0 rfl) ?_
        refine lv_iload X.1 X.2.1 dX2_seek_33 (lv_at hl 4 rfl) ?_
        refine r_putI (v := a4) X hw ha_x rfl 6 206 tyX2 (by decide) rfl inn_X2_seek_2 tyX2_ok nmX2 (by decide) (X.2.2.2.1 (.fieldLink RX2 34 "SilkMill$Mixer" "bestPrice" "I") (by decide +kernel)) rfl (Or.inl rfl) rfl rfl (Nat.le_of_ble_eq_true rfl) (st_206 _ _) dX2_seek_35 (fun H locs hw => ?_)
        obtain ⟨S_20, eS_20⟩ : ∃ T, T = sI S 206 x (a4) := ⟨_, rfl⟩
        rw [← eS_20] at hw
        have hO_21 : Ok eMX S S_20 := hO.sI eS_20 (by decide +kernel) (uI_2_206 hO.1 ha_x)
        have h_22 : pI S_20 206 x = a4 := tI_sIs eS_20
        refine lv_aload_n X.1 X.2.1 dX2_seek_38 rfl (lv_at hl 0 rfl) ?_
        refine lv_iload_n X.1 X.2.1 dX2_seek_39 rfl (lv_at hl 2 rfl) ?_
        have t_23 : At S_20 x 2 := tAt_sI eS_20 ha_x
        refine r_putI (v := a2) X hw t_23 rfl 7 207 tyX2 (by decide) rfl inn_X2_seek_2 tyX2_ok nmX2 (by decide) (X.2.2.2.1 (.fieldLink RX2 37 "SilkMill$Mixer" "bestSet" "I") (by decide +kernel)) rfl (Or.inl rfl) rfl rfl (Nat.le_of_ble_eq_true rfl) (st_207 _ _) dX2_seek_40 (fun H locs hw => ?_)
        obtain ⟨S_24, eS_24⟩ : ∃ T, T = sI S_20 207 x (a2) := ⟨_, rfl⟩
        rw [← eS_24] at hw
        have hO_25 : Ok eMX S S_24 := hO_21.sI eS_24 (by decide +kernel) (uI_2_207 hO_21.1 t_23)
        have h_26 : pI S_24 207 x = a2 := tI_sIs eS_24
        exact ret_v X hw hr hlocks (Nat.le_of_ble_eq_true rfl) (Nat.le_of_ble_eq_true rfl) ⟨hO_25, trivial⟩ dX2_seek_43
      · have z_b_27 := trivial
        have k_28 : a1_z < v_15.toInt := z_nle rfl hz_a1 c_17
        refine lv_iload_n X.1 X.2.1 dX2_seek_26 rfl (lv_at hl 1 rfl) ?_
        refine lv_bipush (v := 14) X.1 X.2.1 dX2_seek_27 (by decide) ?_
        refine lv_icmp_lt (tgt := 44) X.1 X.2.1 dX2_seek_29 (by decide) (fun c_29 => ?_) (fun c_29 => ?_)
        · have z_b_30 := trivial
          have k_31 : a1_z < 14 := z_lt hz_a1 ti_14 c_29
          refine lv_aload_n X.1 X.2.1 dX2_seek_44 rfl (lv_at hl 0 rfl) ?_
          refine lv_iload_n X.1 X.2.1 dX2_seek_45 rfl (lv_at hl 1 rfl) ?_
          refine lv_iconst (v := 1) X.1 X.2.1 dX2_seek_46 (by decide) ?_
          refine lv_iadd X.1 X.2.1 dX2_seek_47 ?_
          refine lv_topi (fun v_32 ev_32 => ?_)
          have z_33 : v_32.toInt = a1_z + 1 := z_add ev_32 hz_a1 ti_1 (by omega) (by omega)
          refine lv_iload_n X.1 X.2.1 dX2_seek_48 rfl (lv_at hl 2 rfl) ?_
          refine lv_iconst (v := 1) X.1 X.2.1 dX2_seek_49 (by decide) ?_
          refine lv_iload_n X.1 X.2.1 dX2_seek_50 rfl (lv_at hl 1 rfl) ?_
          refine lv_ishl X.1 X.2.1 dX2_seek_51 ?_
          refine lv_topi (fun v_34 ev_34 => ?_)
          have rg_35 := And.intro (z_lo v_34) (z_hi v_34)
          refine lv_ior X.1 X.2.1 dX2_seek_52 ?_
          refine lv_topi (fun v_36 ev_36 => ?_)
          have rg_37 := And.intro (z_lo v_36) (z_hi v_36)
          refine lv_iload_n X.1 X.2.1 dX2_seek_53 rfl (lv_at hl 3 rfl) ?_
          refine lv_iload X.1 X.2.1 dX2_seek_54 (lv_at hl 4 rfl) ?_
          refine lv_aload_n X.1 X.2.1 dX2_seek_56 rfl (lv_at hl 0 rfl) ?_
          obtain ⟨q_38, h_39, h_40, h_41⟩ := gQ_2_202 hO.1 ha_x
          refine r_getR (g := 202) X hw ha_x rfl 2 h_39 (by decide) rfl inn_X2_seek_2 (by decide) (X.2.2.2.1 (.fieldLink RX2 18 "SilkMill$Mixer" "prices" "[I") (by decide +kernel)) rfl (gv_202 _ _) dX2_seek_57 ?_
          refine lv_iload_n X.1 X.2.1 dX2_seek_60 rfl (lv_at hl 1 rfl) ?_
          refine r_iald X hw h_40 rfl (by rw [h_41]; exact z_ix hz_a1 (by omega) (by omega)) dX2_seek_61 ?_
          refine lv_topi (fun v_42 ev_42 => ?_)
          have rg_43 := And.intro (z_lo v_42) (z_hi v_42)
          have ev_42 := ev_42.symm
          refine lv_iadd X.1 X.2.1 dX2_seek_62 ?_
          refine lv_topi (fun v_44 ev_44 => ?_)
          have rg_45 := And.intro (z_lo v_44) (z_hi v_44)
          refine k_v (rm := { frames := 3, cells := 0, slots := 0, locals := 144 }) (av := [.ref x, .int (v_32), .int (v_36), .int (a3), .int (v_44)]) X hw (va_runS (As := [.ref x, .int (v_32), .int (v_36), .int (a3), .int (v_44)]) (rest := []) (cfix X) (k_X2_seek_2 l G cy κ S _ x (v_32) (v_32.toInt) (v_36) (v_36.toInt) (a3) (a3_z) (v_44) (v_44.toInt) hO.1 ha_x rfl rfl hz_a3 rfl (by omega) (by omega) (by omega)) (cwS 5 X.2.2.2.1 gX2_seek_X2_seek rfl rfl rfl (by decide +kernel) ⟨Nat.le_of_ble_eq_true rfl, Nat.le_of_ble_eq_true rfl⟩) (pre_S X hw _) rfl rfl hl.1 rfl (lv_room (Nat.le_of_ble_eq_true rfl)) dX2_seek_63 ⟨Nat.le_of_ble_eq_true rfl, Nat.le_of_ble_eq_true rfl⟩) 0 0 (Nat.le_of_ble_eq_true rfl) (Nat.le_of_ble_eq_true rfl) (fun S_47 H locs hp hw hfr hnw => ?_)
          obtain ⟨hk_48, hp⟩ := hp
          have hO_49 : Ok eMX S S_47 := hO.call hk_48 (by decide +kernel)
          refine lv_aload_n X.1 X.2.1 dX2_seek_66 rfl (lv_at hl 0 rfl) ?_
          refine lv_iload_n X.1 X.2.1 dX2_seek_67 rfl (lv_at hl 1 rfl) ?_
          refine lv_iconst (v := 1) X.1 X.2.1 dX2_seek_68 (by decide) ?_
          refine lv_iadd X.1 X.2.1 dX2_seek_69 ?_
          refine lv_topi (fun v_50 ev_50 => ?_)
          have z_51 : v_50.toInt = a1_z + 1 := z_add ev_50 hz_a1 ti_1 (by omega) (by omega)
          refine lv_iload_n X.1 X.2.1 dX2_seek_70 rfl (lv_at hl 2 rfl) ?_
          refine lv_iload_n X.1 X.2.1 dX2_seek_71 rfl (lv_at hl 3 rfl) ?_
          refine lv_aload_n X.1 X.2.1 dX2_seek_72 rfl (lv_at hl 0 rfl) ?_
          have t_52 : At S_47 x 2 := hk_48.fr.at ha_x
          obtain ⟨q_53, h_54, h_55, h_56⟩ := gQ_2_201 hO_49.1 t_52
          refine r_getR (g := 201) X hw t_52 rfl 1 h_54 (by decide) rfl inn_X2_seek_2 (by decide) (X.2.2.2.1 (.fieldLink RX2 15 "SilkMill$Mixer" "weights" "[I") (by decide +kernel)) rfl (gv_201 _ _) dX2_seek_73 ?_
          refine lv_iload_n X.1 X.2.1 dX2_seek_76 rfl (lv_at hl 1 rfl) ?_
          refine r_iald X hw h_55 rfl (by rw [h_56]; exact z_ix hz_a1 (by omega) (by omega)) dX2_seek_77 ?_
          refine lv_topi (fun v_57 ev_57 => ?_)
          have rg_58 := And.intro (z_lo v_57) (z_hi v_57)
          have ev_57 := ev_57.symm
          refine lv_isub X.1 X.2.1 dX2_seek_78 ?_
          refine lv_topi (fun v_59 ev_59 => ?_)
          have rg_60 := And.intro (z_lo v_59) (z_hi v_59)
          refine lv_iload X.1 X.2.1 dX2_seek_79 (lv_at hl 4 rfl) ?_
          refine k_v (rm := { frames := 3, cells := 0, slots := 0, locals := 144 }) (av := [.ref x, .int (v_50), .int (a2), .int (v_59), .int (a4)]) X hw (va_runS (As := [.ref x, .int (v_50), .int (a2), .int (v_59), .int (a4)]) (rest := []) (cfix X) (k_X2_seek_2 l G cy κ S_47 _ x (v_50) (v_50.toInt) (a2) (a2_z) (v_59) (v_59.toInt) (a4) (a4_z) hO_49.1 t_52 rfl hz_a2 rfl hz_a4 (by omega) (by omega) (by omega)) (cwS 5 X.2.2.2.1 gX2_seek_X2_seek rfl rfl rfl (by decide +kernel) ⟨Nat.le_of_ble_eq_true rfl, Nat.le_of_ble_eq_true rfl⟩) (pre_S X hw _) rfl rfl hl.1 rfl (lv_room (Nat.le_of_ble_eq_true rfl)) dX2_seek_81 ⟨Nat.le_of_ble_eq_true rfl, Nat.le_of_ble_eq_true rfl⟩) 0 0 (Nat.le_of_ble_eq_true rfl) (Nat.le_of_ble_eq_true rfl) (fun S_62 H locs hp hw hfr hnw => ?_)
          obtain ⟨hk_63, hp⟩ := hp
          have hO_64 : Ok eMX S S_62 := hO_49.call hk_63 (by decide +kernel)
          exact ret_v X hw hr hlocks (Nat.le_of_ble_eq_true rfl) (Nat.le_of_ble_eq_true rfl) ⟨hO_64, trivial⟩ dX2_seek_84
        · have z_b_65 := trivial
          have k_66 : a1_z ≥ 14 := z_nlt hz_a1 ti_14 c_29
          refine lv_aload_n X.1 X.2.1 dX2_seek_32 rfl (lv_at hl 0 rfl) ?_
          refine lv_iload X.1 X.2.1 dX2_seek_33 (lv_at hl 4 rfl) ?_
          refine r_putI (v := a4) X hw ha_x rfl 6 206 tyX2 (by decide) rfl inn_X2_seek_2 tyX2_ok nmX2 (by decide) (X.2.2.2.1 (.fieldLink RX2 34 "SilkMill$Mixer" "bestPrice" "I") (by decide +kernel)) rfl (Or.inl rfl) rfl rfl (Nat.le_of_ble_eq_true rfl) (st_206 _ _) dX2_seek_35 (fun H locs hw => ?_)
          obtain ⟨S_67, eS_67⟩ : ∃ T, T = sI S 206 x (a4) := ⟨_, rfl⟩
          rw [← eS_67] at hw
          have hO_68 : Ok eMX S S_67 := hO.sI eS_67 (by decide +kernel) (uI_2_206 hO.1 ha_x)
          have h_69 : pI S_67 206 x = a4 := tI_sIs eS_67
          refine lv_aload_n X.1 X.2.1 dX2_seek_38 rfl (lv_at hl 0 rfl) ?_
          refine lv_iload_n X.1 X.2.1 dX2_seek_39 rfl (lv_at hl 2 rfl) ?_
          have t_70 : At S_67 x 2 := tAt_sI eS_67 ha_x
          refine r_putI (v := a2) X hw t_70 rfl 7 207 tyX2 (by decide) rfl inn_X2_seek_2 tyX2_ok nmX2 (by decide) (X.2.2.2.1 (.fieldLink RX2 37 "SilkMill$Mixer" "bestSet" "I") (by decide +kernel)) rfl (Or.inl rfl) rfl rfl (Nat.le_of_ble_eq_true rfl) (st_207 _ _) dX2_seek_40 (fun H locs hw => ?_)
          obtain ⟨S_71, eS_71⟩ : ∃ T, T = sI S_67 207 x (a2) := ⟨_, rfl⟩
          rw [← eS_71] at hw
          have hO_72 : Ok eMX S S_71 := hO_68.sI eS_71 (by decide +kernel) (uI_2_207 hO_68.1 t_70)
          have h_73 : pI S_71 207 x = a2 := tI_sIs eS_71
          exact ret_v X hw hr hlocks (Nat.le_of_ble_eq_true rfl) (Nat.le_of_ble_eq_true rfl) ⟨hO_72, trivial⟩ dX2_seek_43
    · have z_b_74 := trivial
      have k_75 : a4_z ≥ v_9.toInt := z_nlt hz_a4 rfl c_12
      exact ret_v X hw hr hlocks (Nat.le_of_ble_eq_true rfl) (Nat.le_of_ble_eq_true rfl) ⟨hO, trivial⟩ dX2_seek_17
set_option maxHeartbeats 4000000 in
set_option maxRecDepth 100000 in
theorem k_X2_seek_4 (l : Launch) (G : va_G) (cy : Nat → ClassId) (κ : Nat → Nat) (S : PS) (sz : Nat) (x : Nat) (a1 : Int32) (a1_z : Int) (a2 : Int32) (a2_z : Int) (a3 : Int32) (a3_z : Int) (a4 : Int32) (a4_z : Int) (hG : GX S) (ha_x : At S x 2) (hz_a1 : a1.toInt = a1_z) (hz_a2 : a2.toInt = a2_z) (hz_a3 : a3.toInt = a3_z) (hz_a4 : a4.toInt = a4_z) (hp_0 : 0 ≤ a1_z) (hp_1 : a1_z ≤ 14) (hp_2 : 14 ≤ a1_z + 4) : Cv l yX2_seek wsX2_seek ({ frames := 5, cells := 0, slots := 0, locals := 240 }) G cy κ S sz [.ref x, .int (a1), .int (a2), .int (a3), .int (a4)] (fun (S9 : PS) => Ok eMX S S9 ∧ (True)) := by
  refine ent_m (cc := cX2_seek) (maxL := 5) (ret := none) (by decide) rfl (Nat.le_of_ble_eq_true rfl) ?_
  intro p e s m below meth c ls X hr hlocks hin hw hl hsz
  subst hsz
  have X : Cx p c cX2_seek 5 s [.ref x, .int (a1), .int (a2), .int (a3), .int (a4)].toArray wsX2_seek RX2 m G cy κ (AS S s.heap.size) := X
  have hl : lv_has ls 5 [(0, .ref x), (1, .int (a1)), (2, .int (a2)), (3, .int (a3)), (4, .int (a4))] := hl
  have rg_a1 : (-2147483648) ≤ a1_z ∧ a1_z ≤ 2147483647 := by rw [← hz_a1]; exact ⟨z_lo _, z_hi _⟩
  have rg_a2 : (-2147483648) ≤ a2_z ∧ a2_z ≤ 2147483647 := by rw [← hz_a2]; exact ⟨z_lo _, z_hi _⟩
  have rg_a3 : (-2147483648) ≤ a3_z ∧ a3_z ≤ 2147483647 := by rw [← hz_a3]; exact ⟨z_lo _, z_hi _⟩
  have rg_a4 : (-2147483648) ≤ a4_z ∧ a4_z ≤ 2147483647 := by rw [← hz_a4]; exact ⟨z_lo _, z_hi _⟩
  have hO : Ok eMX S S := Ok.rf hG
  refine lv_iload_n X.1 X.2.1 dX2_seek_0 rfl (lv_at hl 3 rfl) ?_
  refine lv_aload_n X.1 X.2.1 dX2_seek_1 rfl (lv_at hl 0 rfl) ?_
  obtain ⟨v_1, ev_1⟩ : ∃ v, pI S 205 x = v := ⟨_, rfl⟩
  have rg_3 := And.intro (z_lo v_1) (z_hi v_1)
  refine r_getI (g := 205) (x := v_1) X hw ha_x rfl 5 ev_1 (by decide) rfl inn_X2_seek_2 (by decide) (X.2.2.2.1 (.fieldLink RX2 28 "SilkMill$Mixer" "wanted" "I") (by decide +kernel)) rfl (gv_205 _ _) dX2_seek_2 ?_
  refine lv_icmp_lt (tgt := 17) X.1 X.2.1 dX2_seek_5 (by decide) (fun c_4 => ?_) (fun c_4 => ?_)
  · have z_b_5 := trivial
    have k_6 : a3_z < v_1.toInt := z_lt hz_a3 rfl c_4
    exact ret_v X hw hr hlocks (Nat.le_of_ble_eq_true rfl) (Nat.le_of_ble_eq_true rfl) ⟨hO, trivial⟩ dX2_seek_17
  · have z_b_7 := trivial
    have k_8 : a3_z ≥ v_1.toInt := z_nlt hz_a3 rfl c_4
    refine lv_iload X.1 X.2.1 dX2_seek_8 (lv_at hl 4 rfl) ?_
    refine lv_aload_n X.1 X.2.1 dX2_seek_10 rfl (lv_at hl 0 rfl) ?_
    obtain ⟨v_9, ev_9⟩ : ∃ v, pI S 206 x = v := ⟨_, rfl⟩
    have rg_11 := And.intro (z_lo v_9) (z_hi v_9)
    refine r_getI (g := 206) (x := v_9) X hw ha_x rfl 6 ev_9 (by decide) rfl inn_X2_seek_2 (by decide) (X.2.2.2.1 (.fieldLink RX2 34 "SilkMill$Mixer" "bestPrice" "I") (by decide +kernel)) rfl (gv_206 _ _) dX2_seek_11 ?_
    refine lv_icmp_lt (tgt := 18) X.1 X.2.1 dX2_seek_14 (by decide) (fun c_12 => ?_) (fun c_12 => ?_)
    · have z_b_13 := trivial
      have k_14 : a4_z < v_9.toInt := z_lt hz_a4 rfl c_12
      refine lv_iload_n X.1 X.2.1 dX2_seek_18 rfl (lv_at hl 1 rfl) ?_
      refine lv_aload_n X.1 X.2.1 dX2_seek_19 rfl (lv_at hl 0 rfl) ?_
      obtain ⟨v_15, ev_15⟩ : ∃ v, pI S 203 x = v := ⟨_, rfl⟩
      have rg_16 := gI_2_203 hO.1 ha_x; rw [ev_15] at rg_16
      refine r_getI (g := 203) (x := v_15) X hw ha_x rfl 3 ev_15 (by decide) rfl inn_X2_seek_2 (by decide) (X.2.2.2.1 (.fieldLink RX2 21 "SilkMill$Mixer" "size" "I") (by decide +kernel)) rfl (gv_203 _ _) dX2_seek_20 ?_
      refine lv_icmp_ge (tgt := 32) X.1 X.2.1 dX2_seek_23 (by decide) (fun c_17 => ?_) (fun c_17 => ?_)
      · have z_b_18 := trivial
        have k_19 : a1_z ≥ v_15.toInt := z_le rfl hz_a1 c_17
        refine lv_aload_n X.1 X.2.1 dX2_seek_32 rfl (lv_at hl 0 rfl) ?_
        refine lv_iload X.1 X.2.1 dX2_seek_33 (lv_at hl 4 rfl) ?_
        refine r_putI (v := a4) X hw ha_x rfl 6 206 tyX2 (by decide) rfl inn_X2_seek_2 tyX2_ok nmX2 (by decide) (X.2.2.2.1 (.fieldLink RX2 34 "SilkMill$Mixer" "bestPrice" "I") (by decide +kernel)) rfl (Or.inl rfl) rfl rfl (Nat.le_of_ble_eq_true rfl) (st_206 _ _) dX2_seek_35 (fun H locs hw => ?_)
        obtain ⟨S_20, eS_20⟩ : ∃ T, T = sI S 206 x (a4) := ⟨_, rfl⟩
        rw [← eS_20] at hw
        have hO_21 : Ok eMX S S_20 := hO.sI eS_20 (by decide +kernel) (uI_2_206 hO.1 ha_x)
        have h_22 : pI S_20 206 x = a4 := tI_sIs eS_20
        refine lv_aload_n X.1 X.2.1 dX2_seek_38 rfl (lv_at hl 0 rfl) ?_
        refine lv_iload_n X.1 X.2.1 dX2_seek_39 rfl (lv_at hl 2 rfl) ?_
        have t_23 : At S_20 x 2 := tAt_sI eS_20 ha_x
        refine r_putI (v := a2) X hw t_23 rfl 7 207 tyX2 (by decide) rfl inn_X2_seek_2 tyX2_ok nmX2 (by decide) (X.2.2.2.1 (.fieldLink RX2 37 "SilkMill$Mixer" "bestSet" "I") (by decide +kernel)) rfl (Or.inl rfl) rfl rfl (Nat.le_of_ble_eq_true rfl) (st_207 _ _) dX2_seek_40 (fun H locs hw => ?_)
        obtain ⟨S_24, eS_24⟩ : ∃ T, T = sI S_20 207 x (a2) := ⟨_, rfl⟩
        rw [← eS_24] at hw
        have hO_25 : Ok eMX S S_24 := hO_21.sI eS_24 (by decide +kernel) (uI_2_207 hO_21.1 t_23)
        have h_26 : pI S_24 207 x = a2 := tI_sIs eS_24
        exact ret_v X hw hr hlocks (Nat.le_of_ble_eq_true rfl) (Nat.le_of_ble_eq_true rfl) ⟨hO_25, trivial⟩ dX2_seek_43
      · have z_b_27 := trivial
        have k_28 : a1_z < v_15.toInt := z_nle rfl hz_a1 c_17
        refine lv_iload_n X.1 X.2.1 dX2_seek_26 rfl (lv_at hl 1 rfl) ?_
        refine lv_bipush (v := 14) X.1 X.2.1 dX2_seek_27 (by decide) ?_
        refine lv_icmp_lt (tgt := 44) X.1 X.2.1 dX2_seek_29 (by decide) (fun c_29 => ?_) (fun c_29 => ?_)
        · have z_b_30 := trivial
          have k_31 : a1_z < 14 := z_lt hz_a1 ti_14 c_29
          refine lv_aload_n X.1 X.2.1 dX2_seek_44 rfl (lv_at hl 0 rfl) ?_
          refine lv_iload_n X.1 X.2.1 dX2_seek_45 rfl (lv_at hl 1 rfl) ?_
          refine lv_iconst (v := 1) X.1 X.2.1 dX2_seek_46 (by decide) ?_
          refine lv_iadd X.1 X.2.1 dX2_seek_47 ?_
          refine lv_topi (fun v_32 ev_32 => ?_)
          have z_33 : v_32.toInt = a1_z + 1 := z_add ev_32 hz_a1 ti_1 (by omega) (by omega)
          refine lv_iload_n X.1 X.2.1 dX2_seek_48 rfl (lv_at hl 2 rfl) ?_
          refine lv_iconst (v := 1) X.1 X.2.1 dX2_seek_49 (by decide) ?_
          refine lv_iload_n X.1 X.2.1 dX2_seek_50 rfl (lv_at hl 1 rfl) ?_
          refine lv_ishl X.1 X.2.1 dX2_seek_51 ?_
          refine lv_topi (fun v_34 ev_34 => ?_)
          have rg_35 := And.intro (z_lo v_34) (z_hi v_34)
          refine lv_ior X.1 X.2.1 dX2_seek_52 ?_
          refine lv_topi (fun v_36 ev_36 => ?_)
          have rg_37 := And.intro (z_lo v_36) (z_hi v_36)
          refine lv_iload_n X.1 X.2.1 dX2_seek_53 rfl (lv_at hl 3 rfl) ?_
          refine lv_iload X.1 X.2.1 dX2_seek_54 (lv_at hl 4 rfl) ?_
          refine lv_aload_n X.1 X.2.1 dX2_seek_56 rfl (lv_at hl 0 rfl) ?_
          obtain ⟨q_38, h_39, h_40, h_41⟩ := gQ_2_202 hO.1 ha_x
          refine r_getR (g := 202) X hw ha_x rfl 2 h_39 (by decide) rfl inn_X2_seek_2 (by decide) (X.2.2.2.1 (.fieldLink RX2 18 "SilkMill$Mixer" "prices" "[I") (by decide +kernel)) rfl (gv_202 _ _) dX2_seek_57 ?_
          refine lv_iload_n X.1 X.2.1 dX2_seek_60 rfl (lv_at hl 1 rfl) ?_
          refine r_iald X hw h_40 rfl (by rw [h_41]; exact z_ix hz_a1 (by omega) (by omega)) dX2_seek_61 ?_
          refine lv_topi (fun v_42 ev_42 => ?_)
          have rg_43 := And.intro (z_lo v_42) (z_hi v_42)
          have ev_42 := ev_42.symm
          refine lv_iadd X.1 X.2.1 dX2_seek_62 ?_
          refine lv_topi (fun v_44 ev_44 => ?_)
          have rg_45 := And.intro (z_lo v_44) (z_hi v_44)
          refine k_v (rm := { frames := 4, cells := 0, slots := 0, locals := 192 }) (av := [.ref x, .int (v_32), .int (v_36), .int (a3), .int (v_44)]) X hw (va_runS (As := [.ref x, .int (v_32), .int (v_36), .int (a3), .int (v_44)]) (rest := []) (cfix X) (k_X2_seek_3 l G cy κ S _ x (v_32) (v_32.toInt) (v_36) (v_36.toInt) (a3) (a3_z) (v_44) (v_44.toInt) hO.1 ha_x rfl rfl hz_a3 rfl (by omega) (by omega) (by omega)) (cwS 5 X.2.2.2.1 gX2_seek_X2_seek rfl rfl rfl (by decide +kernel) ⟨Nat.le_of_ble_eq_true rfl, Nat.le_of_ble_eq_true rfl⟩) (pre_S X hw _) rfl rfl hl.1 rfl (lv_room (Nat.le_of_ble_eq_true rfl)) dX2_seek_63 ⟨Nat.le_of_ble_eq_true rfl, Nat.le_of_ble_eq_true rfl⟩) 0 0 (Nat.le_of_ble_eq_true rfl) (Nat.le_of_ble_eq_true rfl) (fun S_47 H locs hp hw hfr hnw => ?_)
          obtain ⟨hk_48, hp⟩ := hp
          have hO_49 : Ok eMX S S_47 := hO.call hk_48 (by decide +kernel)
          refine lv_aload_n X.1 X.2.1 dX2_seek_66 rfl (lv_at hl 0 rfl) ?_
          refine lv_iload_n X.1 X.2.1 dX2_seek_67 rfl (lv_at hl 1 rfl) ?_
          refine lv_iconst (v := 1) X.1 X.2.1 dX2_seek_68 (by decide) ?_
          refine lv_iadd X.1 X.2.1 dX2_seek_69 ?_
          refine lv_topi (fun v_50 ev_50 => ?_)
          have z_51 : v_50.toInt = a1_z + 1 := z_add ev_50 hz_a1 ti_1 (by omega) (by omega)
          refine lv_iload_n X.1 X.2.1 dX2_seek_70 rfl (lv_at hl 2 rfl) ?_
          refine lv_iload_n X.1 X.2.1 dX2_seek_71 rfl (lv_at hl 3 rfl) ?_
          refine lv_aload_n X.1 X.2.1 dX2_seek_72 rfl (lv_at hl 0 rfl) ?_
          have t_52 : At S_47 x 2 := hk_48.fr.at ha_x
          obtain ⟨q_53, h_54, h_55, h_56⟩ := gQ_2_201 hO_49.1 t_52
          refine r_getR (g := 201) X hw t_52 rfl 1 h_54 (by decide) rfl inn_X2_seek_2 (by decide) (X.2.2.2.1 (.fieldLink RX2 15 "SilkMill$Mixer" "weights" "[I") (by decide +kernel)) rfl (gv_201 _ _) dX2_seek_73 ?_
          refine lv_iload_n X.1 X.2.1 dX2_seek_76 rfl (lv_at hl 1 rfl) ?_
          refine r_iald X hw h_55 rfl (by rw [h_56]; exact z_ix hz_a1 (by omega) (by omega)) dX2_seek_77 ?_
          refine lv_topi (fun v_57 ev_57 => ?_)
          have rg_58 := And.intro (z_lo v_57) (z_hi v_57)
          have ev_57 := ev_57.symm
          refine lv_isub X.1 X.2.1 dX2_seek_78 ?_
          refine lv_topi (fun v_59 ev_59 => ?_)
          have rg_60 := And.intro (z_lo v_59) (z_hi v_59)
          refine lv_iload X.1 X.2.1 dX2_seek_79 (lv_at hl 4 rfl) ?_
          refine k_v (rm := { frames := 4, cells := 0, slots := 0, locals := 192 }) (av := [.ref x, .int (v_50), .int (a2), .int (v_59), .int (a4)]) X hw (va_runS (As := [.ref x, .int (v_50), .int (a2), .int (v_59), .int (a4)]) (rest := []) (cfix X) (k_X2_seek_3 l G cy κ S_47 _ x (v_50) (v_50.toInt) (a2) (a2_z) (v_59) (v_59.toInt) (a4) (a4_z) hO_49.1 t_52 rfl hz_a2 rfl hz_a4 (by omega) (by omega) (by omega)) (cwS 5 X.2.2.2.1 gX2_seek_X2_seek rfl rfl rfl (by decide +kernel) ⟨Nat.le_of_ble_eq_true rfl, Nat.le_of_ble_eq_true rfl⟩) (pre_S X hw _) rfl rfl hl.1 rfl (lv_room (Nat.le_of_ble_eq_true rfl)) dX2_seek_81 ⟨Nat.le_of_ble_eq_true rfl, Nat.le_of_ble_eq_true rfl⟩) 0 0 (Nat.le_of_ble_eq_true rfl) (Nat.le_of_ble_eq_true rfl) (fun S_62 H locs hp hw hfr hnw => ?_)
          obtain ⟨hk_63, hp⟩ := hp
          have hO_64 : Ok eMX S S_62 := hO_49.call hk_63 (by decide +kernel)
          exact ret_v X hw hr hlocks (Nat.le_of_ble_eq_true rfl) (Nat.le_of_ble_eq_true rfl) ⟨hO_64, trivial⟩ dX2_seek_84
        · have z_b_65 := trivial
          have k_66 : a1_z ≥ 14 := z_nlt hz_a1 ti_14 c_29
          refine lv_aload_n X.1 X.2.1 dX2_seek_32 rfl (lv_at hl 0 rfl) ?_
          refine lv_iload X.1 X.2.1 dX2_seek_33 (lv_at hl 4 rfl) ?_
          refine r_putI (v := a4) X hw ha_x rfl 6 206 tyX2 (by decide) rfl inn_X2_seek_2 tyX2_ok nmX2 (by decide) (X.2.2.2.1 (.fieldLink RX2 34 "SilkMill$Mixer" "bestPrice" "I") (by decide +kernel)) rfl (Or.inl rfl) rfl rfl (Nat.le_of_ble_eq_true rfl) (st_206 _ _) dX2_seek_35 (fun H locs hw => ?_)
          obtain ⟨S_67, eS_67⟩ : ∃ T, T = sI S 206 x (a4) := ⟨_, rfl⟩
          rw [← eS_67] at hw
          have hO_68 : Ok eMX S S_67 := hO.sI eS_67 (by decide +kernel) (uI_2_206 hO.1 ha_x)
          have h_69 : pI S_67 206 x = a4 := tI_sIs eS_67
          refine lv_aload_n X.1 X.2.1 dX2_seek_38 rfl (lv_at hl 0 rfl) ?_
          refine lv_iload_n X.1 X.2.1 dX2_seek_39 rfl (lv_at hl 2 rfl) ?_
          have t_70 : At S_67 x 2 := tAt_sI eS_67 ha_x
          refine r_putI (v := a2) X hw t_70 rfl 7 207 tyX2 (by decide) rfl inn_X2_seek_2 tyX2_ok nmX2 (by decide) (X.2.2.2.1 (.fieldLink RX2 37 "SilkMill$Mixer" "bestSet" "I") (by decide +kernel)) rfl (Or.inl rfl) rfl rfl (Nat.le_of_ble_eq_true rfl) (st_207 _ _) dX2_seek_40 (fun H locs hw => ?_)
          obtain ⟨S_71, eS_71⟩ : ∃ T, T = sI S_67 207 x (a2) := ⟨_, rfl⟩
          rw [← eS_71] at hw
          have hO_72 : Ok eMX S S_71 := hO_68.sI eS_71 (by decide +kernel) (uI_2_207 hO_68.1 t_70)
          have h_73 : pI S_71 207 x = a2 := tI_sIs eS_71
          exact ret_v X hw hr hlocks (Nat.le_of_ble_eq_true rfl) (Nat.le_of_ble_eq_true rfl) ⟨hO_72, trivial⟩ dX2_seek_43
    · have z_b_74 := trivial
      have k_75 : a4_z ≥ v_9.toInt := z_nlt hz_a4 rfl c_12
      exact ret_v X hw hr hlocks (Nat.le_of_ble_eq_true rfl) (Nat.le_of_ble_eq_true rfl) ⟨hO, trivial⟩ dX2_seek_17
set_option maxHeartbeats 4000000 in
set_option maxRecDepth 100000 in
theorem k_X2_seek_5 (l : Launch) (G : va_G) (cy : Nat → ClassId) (κ : Nat → Nat) (S : PS) (sz : Nat) (x : Nat) (a1 : Int32) (a1_z : Int) (a2 : Int32) (a2_z : Int) (a3 : Int32) (a3_z : Int) (a4 : Int32) (a4_z : Int) (hG : GX S) (ha_x : At S x 2) (hz_a1 : a1.toInt = a1_z) (hz_a2 : a2.toInt = a2_z) (hz_a3 : a3.toInt = a3_z) (hz_a4 : a4.toInt = a4_z) (hp_0 : 0 ≤ a1_z) (hp_1 : a1_z ≤ 14) (hp_2 : 14 ≤ a1_z + 5) : Cv l yX2_seek wsX2_seek ({ frames := 6, cells := 0, slots := 0, locals := 288 }) G cy κ S sz [.ref x, .int (a1), .int (a2), .int (a3), .int (a4)] (fun (S9 : PS) => Ok eMX S S9 ∧ (True)) := by
  refine ent_m (cc := cX2_seek) (maxL := 5) (ret := none) (by decide) rfl (Nat.le_of_ble_eq_true rfl) ?_
  intro p e s m below meth c ls X hr hlocks hin hw hl hsz
  subst hsz
  have X : Cx p c cX2_seek 5 s [.ref x, .int (a1), .int (a2), .int (a3), .int (a4)].toArray wsX2_seek RX2 m G cy κ (AS S s.heap.size) := X
  have hl : lv_has ls 5 [(0, .ref x), (1, .int (a1)), (2, .int (a2)), (3, .int (a3)), (4, .int (a4))] := hl
  have rg_a1 : (-2147483648) ≤ a1_z ∧ a1_z ≤ 2147483647 := by rw [← hz_a1]; exact ⟨z_lo _, z_hi _⟩
  have rg_a2 : (-2147483648) ≤ a2_z ∧ a2_z ≤ 2147483647 := by rw [← hz_a2]; exact ⟨z_lo _, z_hi _⟩
  have rg_a3 : (-2147483648) ≤ a3_z ∧ a3_z ≤ 2147483647 := by rw [← hz_a3]; exact ⟨z_lo _, z_hi _⟩
  have rg_a4 : (-2147483648) ≤ a4_z ∧ a4_z ≤ 2147483647 := by rw [← hz_a4]; exact ⟨z_lo _, z_hi _⟩
  have hO : Ok eMX S S := Ok.rf hG
  refine lv_iload_n X.1 X.2.1 dX2_seek_0 rfl (lv_at hl 3 rfl) ?_
  refine lv_aload_n X.1 X.2.1 dX2_seek_1 rfl (lv_at hl 0 rfl) ?_
  obtain ⟨v_1, ev_1⟩ : ∃ v, pI S 205 x = v := ⟨_, rfl⟩
  have rg_3 := And.intro (z_lo v_1) (z_hi v_1)
  refine r_getI (g := 205) (x := v_1) X hw ha_x rfl 5 ev_1 (by decide) rfl inn_X2_seek_2 (by decide) (X.2.2.2.1 (.fieldLink RX2 28 "SilkMill$Mixer" "wanted" "I") (by decide +kernel)) rfl (gv_205 _ _) dX2_seek_2 ?_
  refine lv_icmp_lt (tgt := 17) X.1 X.2.1 dX2_seek_5 (by decide) (fun c_4 => ?_) (fun c_4 => ?_)
  · have z_b_5 := trivial
    have k_6 : a3_z < v_1.toInt := z_lt hz_a3 rfl c_4
    exact ret_v X hw hr hlocks (Nat.le_of_ble_eq_true rfl) (Nat.le_of_ble_eq_true rfl) ⟨hO, trivial⟩ dX2_seek_17
  · have z_b_7 := trivial
    have k_8 : a3_z ≥ v_1.toInt := z_nlt hz_a3 rfl c_4
    refine lv_iload X.1 X.2.1 dX2_seek_8 (lv_at hl 4 rfl) ?_
    refine lv_aload_n X.1 X.2.1 dX2_seek_10 rfl (lv_at hl 0 rfl) ?_
    obtain ⟨v_9, ev_9⟩ : ∃ v, pI S 206 x = v := ⟨_, rfl⟩
    have rg_11 := And.intro (z_lo v_9) (z_hi v_9)
    refine r_getI (g := 206) (x := v_9) X hw ha_x rfl 6 ev_9 (by decide) rfl inn_X2_seek_2 (by decide) (X.2.2.2.1 (.fieldLink RX2 34 "SilkMill$Mixer" "bestPrice" "I") (by decide +kernel)) rfl (gv_206 _ _) dX2_seek_11 ?_
    refine lv_icmp_lt (tgt := 18) X.1 X.2.1 dX2_seek_14 (by decide) (fun c_12 => ?_) (fun c_12 => ?_)
    · have z_b_13 := trivial
      have k_14 : a4_z < v_9.toInt := z_lt hz_a4 rfl c_12
      refine lv_iload_n X.1 X.2.1 dX2_seek_18 rfl (lv_at hl 1 rfl) ?_
      refine lv_aload_n X.1 X.2.1 dX2_seek_19 rfl (lv_at hl 0 rfl) ?_
      obtain ⟨v_15, ev_15⟩ : ∃ v, pI S 203 x = v := ⟨_, rfl⟩
      have rg_16 := gI_2_203 hO.1 ha_x; rw [ev_15] at rg_16
      refine r_getI (g := 203) (x := v_15) X hw ha_x rfl 3 ev_15 (by decide) rfl inn_X2_seek_2 (by decide) (X.2.2.2.1 (.fieldLink RX2 21 "SilkMill$Mixer" "size" "I") (by decide +kernel)) rfl (gv_203 _ _) dX2_seek_20 ?_
      refine lv_icmp_ge (tgt := 32) X.1 X.2.1 dX2_seek_23 (by decide) (fun c_17 => ?_) (fun c_17 => ?_)
      · have z_b_18 := trivial
        have k_19 : a1_z ≥ v_15.toInt := z_le rfl hz_a1 c_17
        refine lv_aload_n X.1 X.2.1 dX2_seek_32 rfl (lv_at hl 0 rfl) ?_
        refine lv_iload X.1 X.2.1 dX2_seek_33 (lv_at hl 4 rfl) ?_
        refine r_putI (v := a4) X hw ha_x rfl 6 206 tyX2 (by decide) rfl inn_X2_seek_2 tyX2_ok nmX2 (by decide) (X.2.2.2.1 (.fieldLink RX2 34 "SilkMill$Mixer" "bestPrice" "I") (by decide +kernel)) rfl (Or.inl rfl) rfl rfl (Nat.le_of_ble_eq_true rfl) (st_206 _ _) dX2_seek_35 (fun H locs hw => ?_)
        obtain ⟨S_20, eS_20⟩ : ∃ T, T = sI S 206 x (a4) := ⟨_, rfl⟩
        rw [← eS_20] at hw
        have hO_21 : Ok eMX S S_20 := hO.sI eS_20 (by decide +kernel) (uI_2_206 hO.1 ha_x)
        have h_22 : pI S_20 206 x = a4 := tI_sIs eS_20
        refine lv_aload_n X.1 X.2.1 dX2_seek_38 rfl (lv_at hl 0 rfl) ?_
        refine lv_iload_n X.1 X.2.1 dX2_seek_39 rfl (lv_at hl 2 rfl) ?_
        have t_23 : At S_20 x 2 := tAt_sI eS_20 ha_x
        refine r_putI (v := a2) X hw t_23 rfl 7 207 tyX2 (by decide) rfl inn_X2_seek_2 tyX2_ok nmX2 (by decide) (X.2.2.2.1 (.fieldLink RX2 37 "SilkMill$Mixer" "bestSet" "I") (by decide +kernel)) rfl (Or.inl rfl) rfl rfl (Nat.le_of_ble_eq_true rfl) (st_207 _ _) dX2_seek_40 (fun H locs hw => ?_)
        obtain ⟨S_24, eS_24⟩ : ∃ T, T = sI S_20 207 x (a2) := ⟨_, rfl⟩
        rw [← eS_24] at hw
        have hO_25 : Ok eMX S S_24 := hO_21.sI eS_24 (by decide +kernel) (uI_2_207 hO_21.1 t_23)
        have h_26 : pI S_24 207 x = a2 := tI_sIs eS_24
        exact ret_v X hw hr hlocks (Nat.le_of_ble_eq_true rfl) (Nat.le_of_ble_eq_true rfl) ⟨hO_25, trivial⟩ dX2_seek_43
      · have z_b_27 := trivial
        have k_28 : a1_z < v_15.toInt := z_nle rfl hz_a1 c_17
        refine lv_iload_n X.1 X.2.1 dX2_seek_26 rfl (lv_at hl 1 rfl) ?_
        refine lv_bipush (v := 14) X.1 X.2.1 dX2_seek_27 (by decide) ?_
        refine lv_icmp_lt (tgt := 44) X.1 X.2.1 dX2_seek_29 (by decide) (fun c_29 => ?_) (fun c_29 => ?_)
        · have z_b_30 := trivial
          have k_31 : a1_z < 14 := z_lt hz_a1 ti_14 c_29
          refine lv_aload_n X.1 X.2.1 dX2_seek_44 rfl (lv_at hl 0 rfl) ?_
          refine lv_iload_n X.1 X.2.1 dX2_seek_45 rfl (lv_at hl 1 rfl) ?_
          refine lv_iconst (v := 1) X.1 X.2.1 dX2_seek_46 (by decide) ?_
          refine lv_iadd X.1 X.2.1 dX2_seek_47 ?_
          refine lv_topi (fun v_32 ev_32 => ?_)
          have z_33 : v_32.toInt = a1_z + 1 := z_add ev_32 hz_a1 ti_1 (by omega) (by omega)
          refine lv_iload_n X.1 X.2.1 dX2_seek_48 rfl (lv_at hl 2 rfl) ?_
          refine lv_iconst (v := 1) X.1 X.2.1 dX2_seek_49 (by decide) ?_
          refine lv_iload_n X.1 X.2.1 dX2_seek_50 rfl (lv_at hl 1 rfl) ?_
          refine lv_ishl X.1 X.2.1 dX2_seek_51 ?_
          refine lv_topi (fun v_34 ev_34 => ?_)
          have rg_35 := And.intro (z_lo v_34) (z_hi v_34)
          refine lv_ior X.1 X.2.1 dX2_seek_52 ?_
          refine lv_topi (fun v_36 ev_36 => ?_)
          have rg_37 := And.intro (z_lo v_36) (z_hi v_36)
          refine lv_iload_n X.1 X.2.1 dX2_seek_53 rfl (lv_at hl 3 rfl) ?_
          refine lv_iload X.1 X.2.1 dX2_seek_54 (lv_at hl 4 rfl) ?_
          refine lv_aload_n X.1 X.2.1 dX2_seek_56 rfl (lv_at hl 0 rfl) ?_
          obtain ⟨q_38, h_39, h_40, h_41⟩ := gQ_2_202 hO.1 ha_x
          refine r_getR (g := 202) X hw ha_x rfl 2 h_39 (by decide) rfl inn_X2_seek_2 (by decide) (X.2.2.2.1 (.fieldLink RX2 18 "SilkMill$Mixer" "prices" "[I") (by decide +kernel)) rfl (gv_202 _ _) dX2_seek_57 ?_
          refine lv_iload_n X.1 X.2.1 dX2_seek_60 rfl (lv_at hl 1 rfl) ?_
          refine r_iald X hw h_40 rfl (by rw [h_41]; exact z_ix hz_a1 (by omega) (by omega)) dX2_seek_61 ?_
          refine lv_topi (fun v_42 ev_42 => ?_)
          have rg_43 := And.intro (z_lo v_42) (z_hi v_42)
          have ev_42 := ev_42.symm
          refine lv_iadd X.1 X.2.1 dX2_seek_62 ?_
          refine lv_topi (fun v_44 ev_44 => ?_)
          have rg_45 := And.intro (z_lo v_44) (z_hi v_44)
          refine k_v (rm := { frames := 5, cells := 0, slots := 0, locals := 240 }) (av := [.ref x, .int (v_32), .int (v_36), .int (a3), .int (v_44)]) X hw (va_runS (As := [.ref x, .int (v_32), .int (v_36), .int (a3), .int (v_44)]) (rest := []) (cfix X) (k_X2_seek_4 l G cy κ S _ x (v_32) (v_32.toInt) (v_36) (v_36.toInt) (a3) (a3_z) (v_44) (v_44.toInt) hO.1 ha_x rfl rfl hz_a3 rfl (by omega) (by omega) (by omega)) (cwS 5 X.2.2.2.1 gX2_seek_X2_seek rfl rfl rfl (by decide +kernel) ⟨Nat.le_of_ble_eq_true rfl, Nat.le_of_ble_eq_true rfl⟩) (pre_S X hw _) rfl rfl hl.1 rfl (lv_room (Nat.le_of_ble_eq_true rfl)) dX2_seek_63 ⟨Nat.le_of_ble_eq_true rfl, Nat.le_of_ble_eq_true rfl⟩) 0 0 (Nat.le_of_ble_eq_true rfl) (Nat.le_of_ble_eq_true rfl) (fun S_47 H locs hp hw hfr hnw => ?_)
          obtain ⟨hk_48, hp⟩ := hp
          have hO_49 : Ok eMX S S_47 := hO.call hk_48 (by decide +kernel)
          refine lv_aload_n X.1 X.2.1 dX2_seek_66 rfl (lv_at hl 0 rfl) ?_
          refine lv_iload_n X.1 X.2.1 dX2_seek_67 rfl (lv_at hl 1 rfl) ?_
          refine lv_iconst (v := 1) X.1 X.2.1 dX2_seek_68 (by decide) ?_
          refine lv_iadd X.1 X.2.1 dX2_seek_69 ?_
          refine lv_topi (fun v_50 ev_50 => ?_)
          have z_51 : v_50.toInt = a1_z + 1 := z_add ev_50 hz_a1 ti_1 (by omega) (by omega)
          refine lv_iload_n X.1 X.2.1 dX2_seek_70 rfl (lv_at hl 2 rfl) ?_
          refine lv_iload_n X.1 X.2.1 dX2_seek_71 rfl (lv_at hl 3 rfl) ?_
          refine lv_aload_n X.1 X.2.1 dX2_seek_72 rfl (lv_at hl 0 rfl) ?_
          have t_52 : At S_47 x 2 := hk_48.fr.at ha_x
          obtain ⟨q_53, h_54, h_55, h_56⟩ := gQ_2_201 hO_49.1 t_52
          refine r_getR (g := 201) X hw t_52 rfl 1 h_54 (by decide) rfl inn_X2_seek_2 (by decide) (X.2.2.2.1 (.fieldLink RX2 15 "SilkMill$Mixer" "weights" "[I") (by decide +kernel)) rfl (gv_201 _ _) dX2_seek_73 ?_
          refine lv_iload_n X.1 X.2.1 dX2_seek_76 rfl (lv_at hl 1 rfl) ?_
          refine r_iald X hw h_55 rfl (by rw [h_56]; exact z_ix hz_a1 (by omega) (by omega)) dX2_seek_77 ?_
          refine lv_topi (fun v_57 ev_57 => ?_)
          have rg_58 := And.intro (z_lo v_57) (z_hi v_57)
          have ev_57 := ev_57.symm
          refine lv_isub X.1 X.2.1 dX2_seek_78 ?_
          refine lv_topi (fun v_59 ev_59 => ?_)
          have rg_60 := And.intro (z_lo v_59) (z_hi v_59)
          refine lv_iload X.1 X.2.1 dX2_seek_79 (lv_at hl 4 rfl) ?_
          refine k_v (rm := { frames := 5, cells := 0, slots := 0, locals := 240 }) (av := [.ref x, .int (v_50), .int (a2), .int (v_59), .int (a4)]) X hw (va_runS (As := [.ref x, .int (v_50), .int (a2), .int (v_59), .int (a4)]) (rest := []) (cfix X) (k_X2_seek_4 l G cy κ S_47 _ x (v_50) (v_50.toInt) (a2) (a2_z) (v_59) (v_59.toInt) (a4) (a4_z) hO_49.1 t_52 rfl hz_a2 rfl hz_a4 (by omega) (by omega) (by omega)) (cwS 5 X.2.2.2.1 gX2_seek_X2_seek rfl rfl rfl (by decide +kernel) ⟨Nat.le_of_ble_eq_true rfl, Nat.le_of_ble_eq_true rfl⟩) (pre_S X hw _) rfl rfl hl.1 rfl (lv_room (Nat.le_of_ble_eq_true rfl)) dX2_seek_81 ⟨Nat.le_of_ble_eq_true rfl, Nat.le_of_ble_eq_true rfl⟩) 0 0 (Nat.le_of_ble_eq_true rfl) (Nat.le_of_ble_eq_true rfl) (fun S_62 H locs hp hw hfr hnw => ?_)
          obtain ⟨hk_63, hp⟩ := hp
          have hO_64 : Ok eMX S S_62 := hO_49.call hk_63 (by decide +kernel)
          exact ret_v X hw hr hlocks (Nat.le_of_ble_eq_true rfl) (Nat.le_of_ble_eq_true rfl) ⟨hO_64, trivial⟩ dX2_seek_84
        · have z_b_65 := trivial
          have k_66 : a1_z ≥ 14 := z_nlt hz_a1 ti_14 c_29
          refine lv_aload_n X.1 X.2.1 dX2_seek_32 rfl (lv_at hl 0 rfl) ?_
          refine lv_iload X.1 X.2.1 dX2_seek_33 (lv_at hl 4 rfl) ?_
          refine r_putI (v := a4) X hw ha_x rfl 6 206 tyX2 (by decide) rfl inn_X2_seek_2 tyX2_ok nmX2 (by decide) (X.2.2.2.1 (.fieldLink RX2 34 "SilkMill$Mixer" "bestPrice" "I") (by decide +kernel)) rfl (Or.inl rfl) rfl rfl (Nat.le_of_ble_eq_true rfl) (st_206 _ _) dX2_seek_35 (fun H locs hw => ?_)
          obtain ⟨S_67, eS_67⟩ : ∃ T, T = sI S 206 x (a4) := ⟨_, rfl⟩
          rw [← eS_67] at hw
          have hO_68 : Ok eMX S S_67 := hO.sI eS_67 (by decide +kernel) (uI_2_206 hO.1 ha_x)
          have h_69 : pI S_67 206 x = a4 := tI_sIs eS_67
          refine lv_aload_n X.1 X.2.1 dX2_seek_38 rfl (lv_at hl 0 rfl) ?_
          refine lv_iload_n X.1 X.2.1 dX2_seek_39 rfl (lv_at hl 2 rfl) ?_
          have t_70 : At S_67 x 2 := tAt_sI eS_67 ha_x
          refine r_putI (v := a2) X hw t_70 rfl 7 207 tyX2 (by decide) rfl inn_X2_seek_2 tyX2_ok nmX2 (by decide) (X.2.2.2.1 (.fieldLink RX2 37 "SilkMill$Mixer" "bestSet" "I") (by decide +kernel)) rfl (Or.inl rfl) rfl rfl (Nat.le_of_ble_eq_true rfl) (st_207 _ _) dX2_seek_40 (fun H locs hw => ?_)
          obtain ⟨S_71, eS_71⟩ : ∃ T, T = sI S_67 207 x (a2) := ⟨_, rfl⟩
          rw [← eS_71] at hw
          have hO_72 : Ok eMX S S_71 := hO_68.sI eS_71 (by decide +kernel) (uI_2_207 hO_68.1 t_70)
          have h_73 : pI S_71 207 x = a2 := tI_sIs eS_71
          exact ret_v X hw hr hlocks (Nat.le_of_ble_eq_true rfl) (Nat.le_of_ble_eq_true rfl) ⟨hO_72, trivial⟩ dX2_seek_43
    · have z_b_74 := trivial
      have k_75 : a4_z ≥ v_9.toInt := z_nlt hz_a4 rfl c_12
      exact ret_v X hw hr hlocks (Nat.le_of_ble_eq_true rfl) (Nat.le_of_ble_eq_true rfl) ⟨hO, trivial⟩ dX2_seek_17
set_option maxHeartbeats 4000000 in
set_option maxRecDepth 100000 in
theorem k_X2_seek_6 (l : Launch) (G : va_G) (cy : Nat → ClassId) (κ : Nat → Nat) (S : PS) (sz : Nat) (x : Nat) (a1 : Int32) (a1_z : Int) (a2 : Int32) (a2_z : Int) (a3 : Int32) (a3_z : Int) (a4 : Int32) (a4_z : Int) (hG : GX S) (ha_x : At S x 2) (hz_a1 : a1.toInt = a1_z) (hz_a2 : a2.toInt = a2_z) (hz_a3 : a3.toInt = a3_z) (hz_a4 : a4.toInt = a4_z) (hp_0 : 0 ≤ a1_z) (hp_1 : a1_z ≤ 14) (hp_2 : 14 ≤ a1_z + 6) : Cv l yX2_seek wsX2_seek ({ frames := 7, cells := 0, slots := 0, locals := 336 }) G cy κ S sz [.ref x, .int (a1), .int (a2), .int (a3), .int (a4)] (fun (S9 : PS) => Ok eMX S S9 ∧ (True)) := by
  refine ent_m (cc := cX2_seek) (maxL := 5) (ret := none) (by decide) rfl (Nat.le_of_ble_eq_true rfl) ?_
  intro p e s m below meth c ls X hr hlocks hin hw hl hsz
  subst hsz
  have X : Cx p c cX2_seek 5 s [.ref x, .int (a1), .int (a2), .int (a3), .int (a4)].toArray wsX2_seek RX2 m G cy κ (AS S s.heap.size) := X
  have hl : lv_has ls 5 [(0, .ref x), (1, .int (a1)), (2, .int (a2)), (3, .int (a3)), (4, .int (a4))] := hl
  have rg_a1 : (-2147483648) ≤ a1_z ∧ a1_z ≤ 2147483647 := by rw [← hz_a1]; exact ⟨z_lo _, z_hi _⟩
  have rg_a2 : (-2147483648) ≤ a2_z ∧ a2_z ≤ 2147483647 := by rw [← hz_a2]; exact ⟨z_lo _, z_hi _⟩
  have rg_a3 : (-2147483648) ≤ a3_z ∧ a3_z ≤ 2147483647 := by rw [← hz_a3]; exact ⟨z_lo _, z_hi _⟩
  have rg_a4 : (-2147483648) ≤ a4_z ∧ a4_z ≤ 2147483647 := by rw [← hz_a4]; exact ⟨z_lo _, z_hi _⟩
  have hO : Ok eMX S S := Ok.rf hG
  refine lv_iload_n X.1 X.2.1 dX2_seek_0 rfl (lv_at hl 3 rfl) ?_
  refine lv_aload_n X.1 X.2.1 dX2_seek_1 rfl (lv_at hl 0 rfl) ?_
  obtain ⟨v_1, ev_1⟩ : ∃ v, pI S 205 x = v := ⟨_, rfl⟩
  have rg_3 := And.intro (z_lo v_1) (z_hi v_1)
  refine r_getI (g := 205) (x := v_1) X hw ha_x rfl 5 ev_1 (by decide) rfl inn_X2_seek_2 (by decide) (X.2.2.2.1 (.fieldLink RX2 28 "SilkMill$Mixer" "wanted" "I") (by decide +kernel)) rfl (gv_205 _ _) dX2_seek_2 ?_
  refine lv_icmp_lt (tgt := 17) X.1 X.2.1 dX2_seek_5 (by decide) (fun c_4 => ?_) (fun c_4 => ?_)
  · have z_b_5 := trivial
    have k_6 : a3_z < v_1.toInt := z_lt hz_a3 rfl c_4
    exact ret_v X hw hr hlocks (Nat.le_of_ble_eq_true rfl) (Nat.le_of_ble_eq_true rfl) ⟨hO, trivial⟩ dX2_seek_17
  · have z_b_7 := trivial
    have k_8 : a3_z ≥ v_1.toInt := z_nlt hz_a3 rfl c_4
    refine lv_iload X.1 X.2.1 dX2_seek_8 (lv_at hl 4 rfl) ?_
    refine lv_aload_n X.1 X.2.1 dX2_seek_10 rfl (lv_at hl 0 rfl) ?_
    obtain ⟨v_9, ev_9⟩ : ∃ v, pI S 206 x = v := ⟨_, rfl⟩
    have rg_11 := And.intro (z_lo v_9) (z_hi v_9)
    refine r_getI (g := 206) (x := v_9) X hw ha_x rfl 6 ev_9 (by decide) rfl inn_X2_seek_2 (by decide) (X.2.2.2.1 (.fieldLink RX2 34 "SilkMill$Mixer" "bestPrice" "I") (by decide +kernel)) rfl (gv_206 _ _) dX2_seek_11 ?_
    refine lv_icmp_lt (tgt := 18) X.1 X.2.1 dX2_seek_14 (by decide) (fun c_12 => ?_) (fun c_12 => ?_)
    · have z_b_13 := trivial
      have k_14 : a4_z < v_9.toInt := z_lt hz_a4 rfl c_12
      refine lv_iload_n X.1 X.2.1 dX2_seek_18 rfl (lv_at hl 1 rfl) ?_
      refine lv_aload_n X.1 X.2.1 dX2_seek_19 rfl (lv_at hl 0 rfl) ?_
      obtain ⟨v_15, ev_15⟩ : ∃ v, pI S 203 x = v := ⟨_, rfl⟩
      have rg_16 := gI_2_203 hO.1 ha_x; rw [ev_15] at rg_16
      refine r_getI (g := 203) (x := v_15) X hw ha_x rfl 3 ev_15 (by decide) rfl inn_X2_seek_2 (by decide) (X.2.2.2.1 (.fieldLink RX2 21 "SilkMill$Mixer" "size" "I") (by decide +kernel)) rfl (gv_203 _ _) dX2_seek_20 ?_
      refine lv_icmp_ge (tgt := 32) X.1 X.2.1 dX2_seek_23 (by decide) (fun c_17 => ?_) (fun c_17 => ?_)
      · have z_b_18 := trivial
        have k_19 : a1_z ≥ v_15.toInt := z_le rfl hz_a1 c_17
        refine lv_aload_n X.1 X.2.1 dX2_seek_32 rfl (lv_at hl 0 rfl) ?_
        refine lv_iload X.1 X.2.1 dX2_seek_33 (lv_at hl 4 rfl) ?_
        refine r_putI (v := a4) X hw ha_x rfl 6 206 tyX2 (by decide) rfl inn_X2_seek_2 tyX2_ok nmX2 (by decide) (X.2.2.2.1 (.fieldLink RX2 34 "SilkMill$Mixer" "bestPrice" "I") (by decide +kernel)) rfl (Or.inl rfl) rfl rfl (Nat.le_of_ble_eq_true rfl) (st_206 _ _) dX2_seek_35 (fun H locs hw => ?_)
        obtain ⟨S_20, eS_20⟩ : ∃ T, T = sI S 206 x (a4) := ⟨_, rfl⟩
        rw [← eS_20] at hw
        have hO_21 : Ok eMX S S_20 := hO.sI eS_20 (by decide +kernel) (uI_2_206 hO.1 ha_x)
        have h_22 : pI S_20 206 x = a4 := tI_sIs eS_20
        refine lv_aload_n X.1 X.2.1 dX2_seek_38 rfl (lv_at hl 0 rfl) ?_
        refine lv_iload_n X.1 X.2.1 dX2_seek_39 rfl (lv_at hl 2 rfl) ?_
        have t_23 : At S_20 x 2 := tAt_sI eS_20 ha_x
        refine r_putI (v := a2) X hw t_23 rfl 7 207 tyX2 (by decide) rfl inn_X2_seek_2 tyX2_ok nmX2 (by decide) (X.2.2.2.1 (.fieldLink RX2 37 "SilkMill$Mixer" "bestSet" "I") (by decide +kernel)) rfl (Or.inl rfl) rfl rfl (Nat.le_of_ble_eq_true rfl) (st_207 _ _) dX2_seek_40 (fun H locs hw => ?_)
        obtain ⟨S_24, eS_24⟩ : ∃ T, T = sI S_20 207 x (a2) := ⟨_, rfl⟩
        rw [← eS_24] at hw
        have hO_25 : Ok eMX S S_24 := hO_21.sI eS_24 (by decide +kernel) (uI_2_207 hO_21.1 t_23)
        have h_26 : pI S_24 207 x = a2 := tI_sIs eS_24
        exact ret_v X hw hr hlocks (Nat.le_of_ble_eq_true rfl) (Nat.le_of_ble_eq_true rfl) ⟨hO_25, trivial⟩ dX2_seek_43
      · have z_b_27 := trivial
        have k_28 : a1_z < v_15.toInt := z_nle rfl hz_a1 c_17
        refine lv_iload_n X.1 X.2.1 dX2_seek_26 rfl (lv_at hl 1 rfl) ?_
        refine lv_bipush (v := 14) X.1 X.2.1 dX2_seek_27 (by decide) ?_
        refine lv_icmp_lt (tgt := 44) X.1 X.2.1 dX2_seek_29 (by decide) (fun c_29 => ?_) (fun c_29 => ?_)
        · have z_b_30 := trivial
          have k_31 : a1_z < 14 := z_lt hz_a1 ti_14 c_29
          refine lv_aload_n X.1 X.2.1 dX2_seek_44 rfl (lv_at hl 0 rfl) ?_
          refine lv_iload_n X.1 X.2.1 dX2_seek_45 rfl (lv_at hl 1 rfl) ?_
          refine lv_iconst (v := 1) X.1 X.2.1 dX2_seek_46 (by decide) ?_
          refine lv_iadd X.1 X.2.1 dX2_seek_47 ?_
          refine lv_topi (fun v_32 ev_32 => ?_)
          have z_33 : v_32.toInt = a1_z + 1 := z_add ev_32 hz_a1 ti_1 (by omega) (by omega)
          refine lv_iload_n X.1 X.2.1 dX2_seek_48 rfl (lv_at hl 2 rfl) ?_
          refine lv_iconst (v := 1) X.1 X.2.1 dX2_seek_49 (by decide) ?_
          refine lv_iload_n X.1 X.2.1 dX2_seek_50 rfl (lv_at hl 1 rfl) ?_
          refine lv_ishl X.1 X.2.1 dX2_seek_51 ?_
          refine lv_topi (fun v_34 ev_34 => ?_)
          have rg_35 := And.intro (z_lo v_34) (z_hi v_34)
          refine lv_ior X.1 X.2.1 dX2_seek_52 ?_
          refine lv_topi (fun v_36 ev_36 => ?_)
          have rg_37 := And.intro (z_lo v_36) (z_hi v_36)
          refine lv_iload_n X.1 X.2.1 dX2_seek_53 rfl (lv_at hl 3 rfl) ?_
          refine lv_iload X.1 X.2.1 dX2_seek_54 (lv_at hl 4 rfl) ?_
          refine lv_aload_n X.1 X.2.1 dX2_seek_56 rfl (lv_at hl 0 rfl) ?_
          obtain ⟨q_38, h_39, h_40, h_41⟩ := gQ_2_202 hO.1 ha_x
          refine r_getR (g := 202) X hw ha_x rfl 2 h_39 (by decide) rfl inn_X2_seek_2 (by decide) (X.2.2.2.1 (.fieldLink RX2 18 "SilkMill$Mixer" "prices" "[I") (by decide +kernel)) rfl (gv_202 _ _) dX2_seek_57 ?_
          refine lv_iload_n X.1 X.2.1 dX2_seek_60 rfl (lv_at hl 1 rfl) ?_
          refine r_iald X hw h_40 rfl (by rw [h_41]; exact z_ix hz_a1 (by omega) (by omega)) dX2_seek_61 ?_
          refine lv_topi (fun v_42 ev_42 => ?_)
          have rg_43 := And.intro (z_lo v_42) (z_hi v_42)
          have ev_42 := ev_42.symm
          refine lv_iadd X.1 X.2.1 dX2_seek_62 ?_
          refine lv_topi (fun v_44 ev_44 => ?_)
          have rg_45 := And.intro (z_lo v_44) (z_hi v_44)
          refine k_v (rm := { frames := 6, cells := 0, slots := 0, locals := 288 }) (av := [.ref x, .int (v_32), .int (v_36), .int (a3), .int (v_44)]) X hw (va_runS (As := [.ref x, .int (v_32), .int (v_36), .int (a3), .int (v_44)]) (rest := []) (cfix X) (k_X2_seek_5 l G cy κ S _ x (v_32) (v_32.toInt) (v_36) (v_36.toInt) (a3) (a3_z) (v_44) (v_44.toInt) hO.1 ha_x rfl rfl hz_a3 rfl (by omega) (by omega) (by omega)) (cwS 5 X.2.2.2.1 gX2_seek_X2_seek rfl rfl rfl (by decide +kernel) ⟨Nat.le_of_ble_eq_true rfl, Nat.le_of_ble_eq_true rfl⟩) (pre_S X hw _) rfl rfl hl.1 rfl (lv_room (Nat.le_of_ble_eq_true rfl)) dX2_seek_63 ⟨Nat.le_of_ble_eq_true rfl, Nat.le_of_ble_eq_true rfl⟩) 0 0 (Nat.le_of_ble_eq_true rfl) (Nat.le_of_ble_eq_true rfl) (fun S_47 H locs hp hw hfr hnw => ?_)
          obtain ⟨hk_48, hp⟩ := hp
          have hO_49 : Ok eMX S S_47 := hO.call hk_48 (by decide +kernel)
          refine lv_aload_n X.1 X.2.1 dX2_seek_66 rfl (lv_at hl 0 rfl) ?_
          refine lv_iload_n X.1 X.2.1 dX2_seek_67 rfl (lv_at hl 1 rfl) ?_
          refine lv_iconst (v := 1) X.1 X.2.1 dX2_seek_68 (by decide) ?_
          refine lv_iadd X.1 X.2.1 dX2_seek_69 ?_
          refine lv_topi (fun v_50 ev_50 => ?_)
          have z_51 : v_50.toInt = a1_z + 1 := z_add ev_50 hz_a1 ti_1 (by omega) (by omega)
          refine lv_iload_n X.1 X.2.1 dX2_seek_70 rfl (lv_at hl 2 rfl) ?_
          refine lv_iload_n X.1 X.2.1 dX2_seek_71 rfl (lv_at hl 3 rfl) ?_
          refine lv_aload_n X.1 X.2.1 dX2_seek_72 rfl (lv_at hl 0 rfl) ?_
          have t_52 : At S_47 x 2 := hk_48.fr.at ha_x
          obtain ⟨q_53, h_54, h_55, h_56⟩ := gQ_2_201 hO_49.1 t_52
          refine r_getR (g := 201) X hw t_52 rfl 1 h_54 (by decide) rfl inn_X2_seek_2 (by decide) (X.2.2.2.1 (.fieldLink RX2 15 "SilkMill$Mixer" "weights" "[I") (by decide +kernel)) rfl (gv_201 _ _) dX2_seek_73 ?_
          refine lv_iload_n X.1 X.2.1 dX2_seek_76 rfl (lv_at hl 1 rfl) ?_
          refine r_iald X hw h_55 rfl (by rw [h_56]; exact z_ix hz_a1 (by omega) (by omega)) dX2_seek_77 ?_
          refine lv_topi (fun v_57 ev_57 => ?_)
          have rg_58 := And.intro (z_lo v_57) (z_hi v_57)
          have ev_57 := ev_57.symm
          refine lv_isub X.1 X.2.1 dX2_seek_78 ?_
          refine lv_topi (fun v_59 ev_59 => ?_)
          have rg_60 := And.intro (z_lo v_59) (z_hi v_59)
          refine lv_iload X.1 X.2.1 dX2_seek_79 (lv_at hl 4 rfl) ?_
          refine k_v (rm := { frames := 6, cells := 0, slots := 0, locals := 288 }) (av := [.ref x, .int (v_50), .int (a2), .int (v_59), .int (a4)]) X hw (va_runS (As := [.ref x, .int (v_50), .int (a2), .int (v_59), .int (a4)]) (rest := []) (cfix X) (k_X2_seek_5 l G cy κ S_47 _ x (v_50) (v_50.toInt) (a2) (a2_z) (v_59) (v_59.toInt) (a4) (a4_z) hO_49.1 t_52 rfl hz_a2 rfl hz_a4 (by omega) (by omega) (by omega)) (cwS 5 X.2.2.2.1 gX2_seek_X2_seek rfl rfl rfl (by decide +kernel) ⟨Nat.le_of_ble_eq_true rfl, Nat.le_of_ble_eq_true rfl⟩) (pre_S X hw _) rfl rfl hl.1 rfl (lv_room (Nat.le_of_ble_eq_true rfl)) dX2_seek_81 ⟨Nat.le_of_ble_eq_true rfl, Nat.le_of_ble_eq_true rfl⟩) 0 0 (Nat.le_of_ble_eq_true rfl) (Nat.le_of_ble_eq_true rfl) (fun S_62 H locs hp hw hfr hnw => ?_)
          obtain ⟨hk_63, hp⟩ := hp
          have hO_64 : Ok eMX S S_62 := hO_49.call hk_63 (by decide +kernel)
          exact ret_v X hw hr hlocks (Nat.le_of_ble_eq_true rfl) (Nat.le_of_ble_eq_true rfl) ⟨hO_64, trivial⟩ dX2_seek_84
        · have z_b_65 := trivial
          have k_66 : a1_z ≥ 14 := z_nlt hz_a1 ti_14 c_29
          refine lv_aload_n X.1 X.2.1 dX2_seek_32 rfl (lv_at hl 0 rfl) ?_
          refine lv_iload X.1 X.2.1 dX2_seek_33 (lv_at hl 4 rfl) ?_
          refine r_putI (v := a4) X hw ha_x rfl 6 206 tyX2 (by decide) rfl inn_X2_seek_2 tyX2_ok nmX2 (by decide) (X.2.2.2.1 (.fieldLink RX2 34 "SilkMill$Mixer" "bestPrice" "I") (by decide +kernel)) rfl (Or.inl rfl) rfl rfl (Nat.le_of_ble_eq_true rfl) (st_206 _ _) dX2_seek_35 (fun H locs hw => ?_)
          obtain ⟨S_67, eS_67⟩ : ∃ T, T = sI S 206 x (a4) := ⟨_, rfl⟩
          rw [← eS_67] at hw
          have hO_68 : Ok eMX S S_67 := hO.sI eS_67 (by decide +kernel) (uI_2_206 hO.1 ha_x)
          have h_69 : pI S_67 206 x = a4 := tI_sIs eS_67
          refine lv_aload_n X.1 X.2.1 dX2_seek_38 rfl (lv_at hl 0 rfl) ?_
          refine lv_iload_n X.1 X.2.1 dX2_seek_39 rfl (lv_at hl 2 rfl) ?_
          have t_70 : At S_67 x 2 := tAt_sI eS_67 ha_x
          refine r_putI (v := a2) X hw t_70 rfl 7 207 tyX2 (by decide) rfl inn_X2_seek_2 tyX2_ok nmX2 (by decide) (X.2.2.2.1 (.fieldLink RX2 37 "SilkMill$Mixer" "bestSet" "I") (by decide +kernel)) rfl (Or.inl rfl) rfl rfl (Nat.le_of_ble_eq_true rfl) (st_207 _ _) dX2_seek_40 (fun H locs hw => ?_)
          obtain ⟨S_71, eS_71⟩ : ∃ T, T = sI S_67 207 x (a2) := ⟨_, rfl⟩
          rw [← eS_71] at hw
          have hO_72 : Ok eMX S S_71 := hO_68.sI eS_71 (by decide +kernel) (uI_2_207 hO_68.1 t_70)
          have h_73 : pI S_71 207 x = a2 := tI_sIs eS_71
          exact ret_v X hw hr hlocks (Nat.le_of_ble_eq_true rfl) (Nat.le_of_ble_eq_true rfl) ⟨hO_72, trivial⟩ dX2_seek_43
    · have z_b_74 := trivial
      have k_75 : a4_z ≥ v_9.toInt := z_nlt hz_a4 rfl c_12
      exact ret_v X hw hr hlocks (Nat.le_of_ble_eq_true rfl) (Nat.le_of_ble_eq_true rfl) ⟨hO, trivial⟩ dX2_seek_17
set_option maxHeartbeats 4000000 in
set_option maxRecDepth 100000 in
theorem k_X2_seek_7 (l : Launch) (G : va_G) (cy : Nat → ClassId) (κ : Nat → Nat) (S : PS) (sz : Nat) (x : Nat) (a1 : Int32) (a1_z : Int) (a2 : Int32) (a2_z : Int) (a3 : Int32) (a3_z : Int) (a4 : Int32) (a4_z : Int) (hG : GX S) (ha_x : At S x 2) (hz_a1 : a1.toInt = a1_z) (hz_a2 : a2.toInt = a2_z) (hz_a3 : a3.toInt = a3_z) (hz_a4 : a4.toInt = a4_z) (hp_0 : 0 ≤ a1_z) (hp_1 : a1_z ≤ 14) (hp_2 : 14 ≤ a1_z + 7) : Cv l yX2_seek wsX2_seek ({ frames := 8, cells := 0, slots := 0, locals := 384 }) G cy κ S sz [.ref x, .int (a1), .int (a2), .int (a3), .int (a4)] (fun (S9 : PS) => Ok eMX S S9 ∧ (True)) := by
  refine ent_m (cc := cX2_seek) (maxL := 5) (ret := none) (by decide) rfl (Nat.le_of_ble_eq_true rfl) ?_
  intro p e s m below meth c ls X hr hlocks hin hw hl hsz
  subst hsz
  have X : Cx p c cX2_seek 5 s [.ref x, .int (a1), .int (a2), .int (a3), .int (a4)].toArray wsX2_seek RX2 m G cy κ (AS S s.heap.size) := X
  have hl : lv_has ls 5 [(0, .ref x), (1, .int (a1)), (2, .int (a2)), (3, .int (a3)), (4, .int (a4))] := hl
  have rg_a1 : (-2147483648) ≤ a1_z ∧ a1_z ≤ 2147483647 := by rw [← hz_a1]; exact ⟨z_lo _, z_hi _⟩
  have rg_a2 : (-2147483648) ≤ a2_z ∧ a2_z ≤ 2147483647 := by rw [← hz_a2]; exact ⟨z_lo _, z_hi _⟩
  have rg_a3 : (-2147483648) ≤ a3_z ∧ a3_z ≤ 2147483647 := by rw [← hz_a3]; exact ⟨z_lo _, z_hi _⟩
  have rg_a4 : (-2147483648) ≤ a4_z ∧ a4_z ≤ 2147483647 := by rw [← hz_a4]; exact ⟨z_lo _, z_hi _⟩
  have hO : Ok eMX S S := Ok.rf hG
  refine lv_iload_n X.1 X.2.1 dX2_seek_0 rfl (lv_at hl 3 rfl) ?_
  refine lv_aload_n X.1 X.2.1 dX2_seek_1 rfl (lv_at hl 0 rfl) ?_
  obtain ⟨v_1, ev_1⟩ : ∃ v, pI S 205 x = v := ⟨_, rfl⟩
  have rg_3 := And.intro (z_lo v_1) (z_hi v_1)
  refine r_getI (g := 205) (x := v_1) X hw ha_x rfl 5 ev_1 (by decide) rfl inn_X2_seek_2 (by decide) (X.2.2.2.1 (.fieldLink RX2 28 "SilkMill$Mixer" "wanted" "I") (by decide +kernel)) rfl (gv_205 _ _) dX2_seek_2 ?_
  refine lv_icmp_lt (tgt := 17) X.1 X.2.1 dX2_seek_5 (by decide) (fun c_4 => ?_) (fun c_4 => ?_)
  · have z_b_5 := trivial
    have k_6 : a3_z < v_1.toInt := z_lt hz_a3 rfl c_4
    exact ret_v X hw hr hlocks (Nat.le_of_ble_eq_true rfl) (Nat.le_of_ble_eq_true rfl) ⟨hO, trivial⟩ dX2_seek_17
  · have z_b_7 := trivial
    have k_8 : a3_z ≥ v_1.toInt := z_nlt hz_a3 rfl c_4
    refine lv_iload X.1 X.2.1 dX2_seek_8 (lv_at hl 4 rfl) ?_
    refine lv_aload_n X.1 X.2.1 dX2_seek_10 rfl (lv_at hl 0 rfl) ?_
    obtain ⟨v_9, ev_9⟩ : ∃ v, pI S 206 x = v := ⟨_, rfl⟩
    have rg_11 := And.intro (z_lo v_9) (z_hi v_9)
    refine r_getI (g := 206) (x := v_9) X hw ha_x rfl 6 ev_9 (by decide) rfl inn_X2_seek_2 (by decide) (X.2.2.2.1 (.fieldLink RX2 34 "SilkMill$Mixer" "bestPrice" "I") (by decide +kernel)) rfl (gv_206 _ _) dX2_seek_11 ?_
    refine lv_icmp_lt (tgt := 18) X.1 X.2.1 dX2_seek_14 (by decide) (fun c_12 => ?_) (fun c_12 => ?_)
    · have z_b_13 := trivial
      have k_14 : a4_z < v_9.toInt := z_lt hz_a4 rfl c_12
      refine lv_iload_n X.1 X.2.1 dX2_seek_18 rfl (lv_at hl 1 rfl) ?_
      refine lv_aload_n X.1 X.2.1 dX2_seek_19 rfl (lv_at hl 0 rfl) ?_
      obtain ⟨v_15, ev_15⟩ : ∃ v, pI S 203 x = v := ⟨_, rfl⟩
      have rg_16 := gI_2_203 hO.1 ha_x; rw [ev_15] at rg_16
      refine r_getI (g := 203) (x := v_15) X hw ha_x rfl 3 ev_15 (by decide) rfl inn_X2_seek_2 (by decide) (X.2.2.2.1 (.fieldLink RX2 21 "SilkMill$Mixer" "size" "I") (by decide +kernel)) rfl (gv_203 _ _) dX2_seek_20 ?_
      refine lv_icmp_ge (tgt := 32) X.1 X.2.1 dX2_seek_23 (by decide) (fun c_17 => ?_) (fun c_17 => ?_)
      · have z_b_18 := trivial
        have k_19 : a1_z ≥ v_15.toInt := z_le rfl hz_a1 c_17
        refine lv_aload_n X.1 X.2.1 dX2_seek_32 rfl (lv_at hl 0 rfl) ?_
        refine lv_iload X.1 X.2.1 dX2_seek_33 (lv_at hl 4 rfl) ?_
        refine r_putI (v := a4) X hw ha_x rfl 6 206 tyX2 (by decide) rfl inn_X2_seek_2 tyX2_ok nmX2 (by decide) (X.2.2.2.1 (.fieldLink RX2 34 "SilkMill$Mixer" "bestPrice" "I") (by decide +kernel)) rfl (Or.inl rfl) rfl rfl (Nat.le_of_ble_eq_true rfl) (st_206 _ _) dX2_seek_35 (fun H locs hw => ?_)
        obtain ⟨S_20, eS_20⟩ : ∃ T, T = sI S 206 x (a4) := ⟨_, rfl⟩
        rw [← eS_20] at hw
        have hO_21 : Ok eMX S S_20 := hO.sI eS_20 (by decide +kernel) (uI_2_206 hO.1 ha_x)
        have h_22 : pI S_20 206 x = a4 := tI_sIs eS_20
        refine lv_aload_n X.1 X.2.1 dX2_seek_38 rfl (lv_at hl 0 rfl) ?_
        refine lv_iload_n X.1 X.2.1 dX2_seek_39 rfl (lv_at hl 2 rfl) ?_
        have t_23 : At S_20 x 2 := tAt_sI eS_20 ha_x
        refine r_putI (v := a2) X hw t_23 rfl 7 207 tyX2 (by decide) rfl inn_X2_seek_2 tyX2_ok nmX2 (by decide) (X.2.2.2.1 (.fieldLink RX2 37 "SilkMill$Mixer" "bestSet" "I") (by decide +kernel)) rfl (Or.inl rfl) rfl rfl (Nat.le_of_ble_eq_true rfl) (st_207 _ _) dX2_seek_40 (fun H locs hw => ?_)
        obtain ⟨S_24, eS_24⟩ : ∃ T, T = sI S_20 207 x (a2) := ⟨_, rfl⟩
        rw [← eS_24] at hw
        have hO_25 : Ok eMX S S_24 := hO_21.sI eS_24 (by decide +kernel) (uI_2_207 hO_21.1 t_23)
        have h_26 : pI S_24 207 x = a2 := tI_sIs eS_24
        exact ret_v X hw hr hlocks (Nat.le_of_ble_eq_true rfl) (Nat.le_of_ble_eq_true rfl) ⟨hO_25, trivial⟩ dX2_seek_43
      · have z_b_27 := trivial
        have k_28 : a1_z < v_15.toInt := z_nle rfl hz_a1 c_17
        refine lv_iload_n X.1 X.2.1 dX2_seek_26 rfl (lv_at hl 1 rfl) ?_
        refine lv_bipush (v := 14) X.1 X.2.1 dX2_seek_27 (by decide) ?_
        refine lv_icmp_lt (tgt := 44) X.1 X.2.1 dX2_seek_29 (by decide) (fun c_29 => ?_) (fun c_29 => ?_)
        · have z_b_30 := trivial
          have k_31 : a1_z < 14 := z_lt hz_a1 ti_14 c_29
          refine lv_aload_n X.1 X.2.1 dX2_seek_44 rfl (lv_at hl 0 rfl) ?_
          refine lv_iload_n X.1 X.2.1 dX2_seek_45 rfl (lv_at hl 1 rfl) ?_
          refine lv_iconst (v := 1) X.1 X.2.1 dX2_seek_46 (by decide) ?_
          refine lv_iadd X.1 X.2.1 dX2_seek_47 ?_
          refine lv_topi (fun v_32 ev_32 => ?_)
          have z_33 : v_32.toInt = a1_z + 1 := z_add ev_32 hz_a1 ti_1 (by omega) (by omega)
          refine lv_iload_n X.1 X.2.1 dX2_seek_48 rfl (lv_at hl 2 rfl) ?_
          refine lv_iconst (v := 1) X.1 X.2.1 dX2_seek_49 (by decide) ?_
          refine lv_iload_n X.1 X.2.1 dX2_seek_50 rfl (lv_at hl 1 rfl) ?_
          refine lv_ishl X.1 X.2.1 dX2_seek_51 ?_
          refine lv_topi (fun v_34 ev_34 => ?_)
          have rg_35 := And.intro (z_lo v_34) (z_hi v_34)
          refine lv_ior X.1 X.2.1 dX2_seek_52 ?_
          refine lv_topi (fun v_36 ev_36 => ?_)
          have rg_37 := And.intro (z_lo v_36) (z_hi v_36)
          refine lv_iload_n X.1 X.2.1 dX2_seek_53 rfl (lv_at hl 3 rfl) ?_
          refine lv_iload X.1 X.2.1 dX2_seek_54 (lv_at hl 4 rfl) ?_
          refine lv_aload_n X.1 X.2.1 dX2_seek_56 rfl (lv_at hl 0 rfl) ?_
          obtain ⟨q_38, h_39, h_40, h_41⟩ := gQ_2_202 hO.1 ha_x
          refine r_getR (g := 202) X hw ha_x rfl 2 h_39 (by decide) rfl inn_X2_seek_2 (by decide) (X.2.2.2.1 (.fieldLink RX2 18 "SilkMill$Mixer" "prices" "[I") (by decide +kernel)) rfl (gv_202 _ _) dX2_seek_57 ?_
          refine lv_iload_n X.1 X.2.1 dX2_seek_60 rfl (lv_at hl 1 rfl) ?_
          refine r_iald X hw h_40 rfl (by rw [h_41]; exact z_ix hz_a1 (by omega) (by omega)) dX2_seek_61 ?_
          refine lv_topi (fun v_42 ev_42 => ?_)
          have rg_43 := And.intro (z_lo v_42) (z_hi v_42)
          have ev_42 := ev_42.symm
          refine lv_iadd X.1 X.2.1 dX2_seek_62 ?_
          refine lv_topi (fun v_44 ev_44 => ?_)
          have rg_45 := And.intro (z_lo v_44) (z_hi v_44)
          refine k_v (rm := { frames := 7, cells := 0, slots := 0, locals := 336 }) (av := [.ref x, .int (v_32), .int (v_36), .int (a3), .int (v_44)]) X hw (va_runS (As := [.ref x, .int (v_32), .int (v_36), .int (a3), .int (v_44)]) (rest := []) (cfix X) (k_X2_seek_6 l G cy κ S _ x (v_32) (v_32.toInt) (v_36) (v_36.toInt) (a3) (a3_z) (v_44) (v_44.toInt) hO.1 ha_x rfl rfl hz_a3 rfl (by omega) (by omega) (by omega)) (cwS 5 X.2.2.2.1 gX2_seek_X2_seek rfl rfl rfl (by decide +kernel) ⟨Nat.le_of_ble_eq_true rfl, Nat.le_of_ble_eq_true rfl⟩) (pre_S X hw _) rfl rfl hl.1 rfl (lv_room (Nat.le_of_ble_eq_true rfl)) dX2_seek_63 ⟨Nat.le_of_ble_eq_true rfl, Nat.le_of_ble_eq_true rfl⟩) 0 0 (Nat.le_of_ble_eq_true rfl) (Nat.le_of_ble_eq_true rfl) (fun S_47 H locs hp hw hfr hnw => ?_)
          obtain ⟨hk_48, hp⟩ := hp
          have hO_49 : Ok eMX S S_47 := hO.call hk_48 (by decide +kernel)
          refine lv_aload_n X.1 X.2.1 dX2_seek_66 rfl (lv_at hl 0 rfl) ?_
          refine lv_iload_n X.1 X.2.1 dX2_seek_67 rfl (lv_at hl 1 rfl) ?_
          refine lv_iconst (v := 1) X.1 X.2.1 dX2_seek_68 (by decide) ?_
          refine lv_iadd X.1 X.2.1 dX2_seek_69 ?_
          refine lv_topi (fun v_50 ev_50 => ?_)
          have z_51 : v_50.toInt = a1_z + 1 := z_add ev_50 hz_a1 ti_1 (by omega) (by omega)
          refine lv_iload_n X.1 X.2.1 dX2_seek_70 rfl (lv_at hl 2 rfl) ?_
          refine lv_iload_n X.1 X.2.1 dX2_seek_71 rfl (lv_at hl 3 rfl) ?_
          refine lv_aload_n X.1 X.2.1 dX2_seek_72 rfl (lv_at hl 0 rfl) ?_
          have t_52 : At S_47 x 2 := hk_48.fr.at ha_x
          obtain ⟨q_53, h_54, h_55, h_56⟩ := gQ_2_201 hO_49.1 t_52
          refine r_getR (g := 201) X hw t_52 rfl 1 h_54 (by decide) rfl inn_X2_seek_2 (by decide) (X.2.2.2.1 (.fieldLink RX2 15 "SilkMill$Mixer" "weights" "[I") (by decide +kernel)) rfl (gv_201 _ _) dX2_seek_73 ?_
          refine lv_iload_n X.1 X.2.1 dX2_seek_76 rfl (lv_at hl 1 rfl) ?_
          refine r_iald X hw h_55 rfl (by rw [h_56]; exact z_ix hz_a1 (by omega) (by omega)) dX2_seek_77 ?_
          refine lv_topi (fun v_57 ev_57 => ?_)
          have rg_58 := And.intro (z_lo v_57) (z_hi v_57)
          have ev_57 := ev_57.symm
          refine lv_isub X.1 X.2.1 dX2_seek_78 ?_
          refine lv_topi (fun v_59 ev_59 => ?_)
          have rg_60 := And.intro (z_lo v_59) (z_hi v_59)
          refine lv_iload X.1 X.2.1 dX2_seek_79 (lv_at hl 4 rfl) ?_
          refine k_v (rm := { frames := 7, cells := 0, slots := 0, locals := 336 }) (av := [.ref x, .int (v_50), .int (a2), .int (v_59), .int (a4)]) X hw (va_runS (As := [.ref x, .int (v_50), .int (a2), .int (v_59), .int (a4)]) (rest := []) (cfix X) (k_X2_seek_6 l G cy κ S_47 _ x (v_50) (v_50.toInt) (a2) (a2_z) (v_59) (v_59.toInt) (a4) (a4_z) hO_49.1 t_52 rfl hz_a2 rfl hz_a4 (by omega) (by omega) (by omega)) (cwS 5 X.2.2.2.1 gX2_seek_X2_seek rfl rfl rfl (by decide +kernel) ⟨Nat.le_of_ble_eq_true rfl, Nat.le_of_ble_eq_true rfl⟩) (pre_S X hw _) rfl rfl hl.1 rfl (lv_room (Nat.le_of_ble_eq_true rfl)) dX2_seek_81 ⟨Nat.le_of_ble_eq_true rfl, Nat.le_of_ble_eq_true rfl⟩) 0 0 (Nat.le_of_ble_eq_true rfl) (Nat.le_of_ble_eq_true rfl) (fun S_62 H locs hp hw hfr hnw => ?_)
          obtain ⟨hk_63, hp⟩ := hp
          have hO_64 : Ok eMX S S_62 := hO_49.call hk_63 (by decide +kernel)
          exact ret_v X hw hr hlocks (Nat.le_of_ble_eq_true rfl) (Nat.le_of_ble_eq_true rfl) ⟨hO_64, trivial⟩ dX2_seek_84
        · have z_b_65 := trivial
          have k_66 : a1_z ≥ 14 := z_nlt hz_a1 ti_14 c_29
          refine lv_aload_n X.1 X.2.1 dX2_seek_32 rfl (lv_at hl 0 rfl) ?_
          refine lv_iload X.1 X.2.1 dX2_seek_33 (lv_at hl 4 rfl) ?_
          refine r_putI (v := a4) X hw ha_x rfl 6 206 tyX2 (by decide) rfl inn_X2_seek_2 tyX2_ok nmX2 (by decide) (X.2.2.2.1 (.fieldLink RX2 34 "SilkMill$Mixer" "bestPrice" "I") (by decide +kernel)) rfl (Or.inl rfl) rfl rfl (Nat.le_of_ble_eq_true rfl) (st_206 _ _) dX2_seek_35 (fun H locs hw => ?_)
          obtain ⟨S_67, eS_67⟩ : ∃ T, T = sI S 206 x (a4) := ⟨_, rfl⟩
          rw [← eS_67] at hw
          have hO_68 : Ok eMX S S_67 := hO.sI eS_67 (by decide +kernel) (uI_2_206 hO.1 ha_x)
          have h_69 : pI S_67 206 x = a4 := tI_sIs eS_67
          refine lv_aload_n X.1 X.2.1 dX2_seek_38 rfl (lv_at hl 0 rfl) ?_
          refine lv_iload_n X.1 X.2.1 dX2_seek_39 rfl (lv_at hl 2 rfl) ?_
          have t_70 : At S_67 x 2 := tAt_sI eS_67 ha_x
          refine r_putI (v := a2) X hw t_70 rfl 7 207 tyX2 (by decide) rfl inn_X2_seek_2 tyX2_ok nmX2 (by decide) (X.2.2.2.1 (.fieldLink RX2 37 "SilkMill$Mixer" "bestSet" "I") (by decide +kernel)) rfl (Or.inl rfl) rfl rfl (Nat.le_of_ble_eq_true rfl) (st_207 _ _) dX2_seek_40 (fun H locs hw => ?_)
          obtain ⟨S_71, eS_71⟩ : ∃ T, T = sI S_67 207 x (a2) := ⟨_, rfl⟩
          rw [← eS_71] at hw
          have hO_72 : Ok eMX S S_71 := hO_68.sI eS_71 (by decide +kernel) (uI_2_207 hO_68.1 t_70)
          have h_73 : pI S_71 207 x = a2 := tI_sIs eS_71
          exact ret_v X hw hr hlocks (Nat.le_of_ble_eq_true rfl) (Nat.le_of_ble_eq_true rfl) ⟨hO_72, trivial⟩ dX2_seek_43
    · have z_b_74 := trivial
      have k_75 : a4_z ≥ v_9.toInt := z_nlt hz_a4 rfl c_12
      exact ret_v X hw hr hlocks (Nat.le_of_ble_eq_true rfl) (Nat.le_of_ble_eq_true rfl) ⟨hO, trivial⟩ dX2_seek_17
set_option maxHeartbeats 4000000 in
set_option maxRecDepth 100000 in
theorem k_X2_seek_8 (l : Launch) (G : va_G) (cy : Nat → ClassId) (κ : Nat → Nat) (S : PS) (sz : Nat) (x : Nat) (a1 : Int32) (a1_z : Int) (a2 : Int32) (a2_z : Int) (a3 : Int32) (a3_z : Int) (a4 : Int32) (a4_z : Int) (hG : GX S) (ha_x : At S x 2) (hz_a1 : a1.toInt = a1_z) (hz_a2 : a2.toInt = a2_z) (hz_a3 : a3.toInt = a3_z) (hz_a4 : a4.toInt = a4_z) (hp_0 : 0 ≤ a1_z) (hp_1 : a1_z ≤ 14) (hp_2 : 14 ≤ a1_z + 8) : Cv l yX2_seek wsX2_seek ({ frames := 9, cells := 0, slots := 0, locals := 432 }) G cy κ S sz [.ref x, .int (a1), .int (a2), .int (a3), .int (a4)] (fun (S9 : PS) => Ok eMX S S9 ∧ (True)) := by
  refine ent_m (cc := cX2_seek) (maxL := 5) (ret := none) (by decide) rfl (Nat.le_of_ble_eq_true rfl) ?_
  intro p e s m below meth c ls X hr hlocks hin hw hl hsz
  subst hsz
  have X : Cx p c cX2_seek 5 s [.ref x, .int (a1), .int (a2), .int (a3), .int (a4)].toArray wsX2_seek RX2 m G cy κ (AS S s.heap.size) := X
  have hl : lv_has ls 5 [(0, .ref x), (1, .int (a1)), (2, .int (a2)), (3, .int (a3)), (4, .int (a4))] := hl
  have rg_a1 : (-2147483648) ≤ a1_z ∧ a1_z ≤ 2147483647 := by rw [← hz_a1]; exact ⟨z_lo _, z_hi _⟩
  have rg_a2 : (-2147483648) ≤ a2_z ∧ a2_z ≤ 2147483647 := by rw [← hz_a2]; exact ⟨z_lo _, z_hi _⟩
  have rg_a3 : (-2147483648) ≤ a3_z ∧ a3_z ≤ 2147483647 := by rw [← hz_a3]; exact ⟨z_lo _, z_hi _⟩
  have rg_a4 : (-2147483648) ≤ a4_z ∧ a4_z ≤ 2147483647 := by rw [← hz_a4]; exact ⟨z_lo _, z_hi _⟩
  have hO : Ok eMX S S := Ok.rf hG
  refine lv_iload_n X.1 X.2.1 dX2_seek_0 rfl (lv_at hl 3 rfl) ?_
  refine lv_aload_n X.1 X.2.1 dX2_seek_1 rfl (lv_at hl 0 rfl) ?_
  obtain ⟨v_1, ev_1⟩ : ∃ v, pI S 205 x = v := ⟨_, rfl⟩
  have rg_3 := And.intro (z_lo v_1) (z_hi v_1)
  refine r_getI (g := 205) (x := v_1) X hw ha_x rfl 5 ev_1 (by decide) rfl inn_X2_seek_2 (by decide) (X.2.2.2.1 (.fieldLink RX2 28 "SilkMill$Mixer" "wanted" "I") (by decide +kernel)) rfl (gv_205 _ _) dX2_seek_2 ?_
  refine lv_icmp_lt (tgt := 17) X.1 X.2.1 dX2_seek_5 (by decide) (fun c_4 => ?_) (fun c_4 => ?_)
  · have z_b_5 := trivial
    have k_6 : a3_z < v_1.toInt := z_lt hz_a3 rfl c_4
    exact ret_v X hw hr hlocks (Nat.le_of_ble_eq_true rfl) (Nat.le_of_ble_eq_true rfl) ⟨hO, trivial⟩ dX2_seek_17
  · have z_b_7 := trivial
    have k_8 : a3_z ≥ v_1.toInt := z_nlt hz_a3 rfl c_4
    refine lv_iload X.1 X.2.1 dX2_seek_8 (lv_at hl 4 rfl) ?_
    refine lv_aload_n X.1 X.2.1 dX2_seek_10 rfl (lv_at hl 0 rfl) ?_
    obtain ⟨v_9, ev_9⟩ : ∃ v, pI S 206 x = v := ⟨_, rfl⟩
    have rg_11 := And.intro (z_lo v_9) (z_hi v_9)
    refine r_getI (g := 206) (x := v_9) X hw ha_x rfl 6 ev_9 (by decide) rfl inn_X2_seek_2 (by decide) (X.2.2.2.1 (.fieldLink RX2 34 "SilkMill$Mixer" "bestPrice" "I") (by decide +kernel)) rfl (gv_206 _ _) dX2_seek_11 ?_
    refine lv_icmp_lt (tgt := 18) X.1 X.2.1 dX2_seek_14 (by decide) (fun c_12 => ?_) (fun c_12 => ?_)
    · have z_b_13 := trivial
      have k_14 : a4_z < v_9.toInt := z_lt hz_a4 rfl c_12
      refine lv_iload_n X.1 X.2.1 dX2_seek_18 rfl (lv_at hl 1 rfl) ?_
      refine lv_aload_n X.1 X.2.1 dX2_seek_19 rfl (lv_at hl 0 rfl) ?_
      obtain ⟨v_15, ev_15⟩ : ∃ v, pI S 203 x = v := ⟨_, rfl⟩
      have rg_16 := gI_2_203 hO.1 ha_x; rw [ev_15] at rg_16
      refine r_getI (g := 203) (x := v_15) X hw ha_x rfl 3 ev_15 (by decide) rfl inn_X2_seek_2 (by decide) (X.2.2.2.1 (.fieldLink RX2 21 "SilkMill$Mixer" "size" "I") (by decide +kernel)) rfl (gv_203 _ _) dX2_seek_20 ?_
      refine lv_icmp_ge (tgt := 32) X.1 X.2.1 dX2_seek_23 (by decide) (fun c_17 => ?_) (fun c_17 => ?_)
      · have z_b_18 := trivial
        have k_19 : a1_z ≥ v_15.toInt := z_le rfl hz_a1 c_17
        refine lv_aload_n X.1 X.2.1 dX2_seek_32 rfl (lv_at hl 0 rfl) ?_
        refine lv_iload X.1 X.2.1 dX2_seek_33 (lv_at hl 4 rfl) ?_
        refine r_putI (v := a4) X hw ha_x rfl 6 206 tyX2 (by decide) rfl inn_X2_seek_2 tyX2_ok nmX2 (by decide) (X.2.2.2.1 (.fieldLink RX2 34 "SilkMill$Mixer" "bestPrice" "I") (by decide +kernel)) rfl (Or.inl rfl) rfl rfl (Nat.le_of_ble_eq_true rfl) (st_206 _ _) dX2_seek_35 (fun H locs hw => ?_)
        obtain ⟨S_20, eS_20⟩ : ∃ T, T = sI S 206 x (a4) := ⟨_, rfl⟩
        rw [← eS_20] at hw
        have hO_21 : Ok eMX S S_20 := hO.sI eS_20 (by decide +kernel) (uI_2_206 hO.1 ha_x)
        have h_22 : pI S_20 206 x = a4 := tI_sIs eS_20
        refine lv_aload_n X.1 X.2.1 dX2_seek_38 rfl (lv_at hl 0 rfl) ?_
        refine lv_iload_n X.1 X.2.1 dX2_seek_39 rfl (lv_at hl 2 rfl) ?_
        have t_23 : At S_20 x 2 := tAt_sI eS_20 ha_x
        refine r_putI (v := a2) X hw t_23 rfl 7 207 tyX2 (by decide) rfl inn_X2_seek_2 tyX2_ok nmX2 (by decide) (X.2.2.2.1 (.fieldLink RX2 37 "SilkMill$Mixer" "bestSet" "I") (by decide +kernel)) rfl (Or.inl rfl) rfl rfl (Nat.le_of_ble_eq_true rfl) (st_207 _ _) dX2_seek_40 (fun H locs hw => ?_)
        obtain ⟨S_24, eS_24⟩ : ∃ T, T = sI S_20 207 x (a2) := ⟨_, rfl⟩
        rw [← eS_24] at hw
        have hO_25 : Ok eMX S S_24 := hO_21.sI eS_24 (by decide +kernel) (uI_2_207 hO_21.1 t_23)
        have h_26 : pI S_24 207 x = a2 := tI_sIs eS_24
        exact ret_v X hw hr hlocks (Nat.le_of_ble_eq_true rfl) (Nat.le_of_ble_eq_true rfl) ⟨hO_25, trivial⟩ dX2_seek_43
      · have z_b_27 := trivial
        have k_28 : a1_z < v_15.toInt := z_nle rfl hz_a1 c_17
        refine lv_iload_n X.1 X.2.1 dX2_seek_26 rfl (lv_at hl 1 rfl) ?_
        refine lv_bipush (v := 14) X.1 X.2.1 dX2_seek_27 (by decide) ?_
        refine lv_icmp_lt (tgt := 44) X.1 X.2.1 dX2_seek_29 (by decide) (fun c_29 => ?_) (fun c_29 => ?_)
        · have z_b_30 := trivial
          have k_31 : a1_z < 14 := z_lt hz_a1 ti_14 c_29
          refine lv_aload_n X.1 X.2.1 dX2_seek_44 rfl (lv_at hl 0 rfl) ?_
          refine lv_iload_n X.1 X.2.1 dX2_seek_45 rfl (lv_at hl 1 rfl) ?_
          refine lv_iconst (v := 1) X.1 X.2.1 dX2_seek_46 (by decide) ?_
          refine lv_iadd X.1 X.2.1 dX2_seek_47 ?_
          refine lv_topi (fun v_32 ev_32 => ?_)
          have z_33 : v_32.toInt = a1_z + 1 := z_add ev_32 hz_a1 ti_1 (by omega) (by omega)
          refine lv_iload_n X.1 X.2.1 dX2_seek_48 rfl (lv_at hl 2 rfl) ?_
          refine lv_iconst (v := 1) X.1 X.2.1 dX2_seek_49 (by decide) ?_
          refine lv_iload_n X.1 X.2.1 dX2_seek_50 rfl (lv_at hl 1 rfl) ?_
          refine lv_ishl X.1 X.2.1 dX2_seek_51 ?_
          refine lv_topi (fun v_34 ev_34 => ?_)
          have rg_35 := And.intro (z_lo v_34) (z_hi v_34)
          refine lv_ior X.1 X.2.1 dX2_seek_52 ?_
          refine lv_topi (fun v_36 ev_36 => ?_)
          have rg_37 := And.intro (z_lo v_36) (z_hi v_36)
          refine lv_iload_n X.1 X.2.1 dX2_seek_53 rfl (lv_at hl 3 rfl) ?_
          refine lv_iload X.1 X.2.1 dX2_seek_54 (lv_at hl 4 rfl) ?_
          refine lv_aload_n X.1 X.2.1 dX2_seek_56 rfl (lv_at hl 0 rfl) ?_
          obtain ⟨q_38, h_39, h_40, h_41⟩ := gQ_2_202 hO.1 ha_x
          refine r_getR (g := 202) X hw ha_x rfl 2 h_39 (by decide) rfl inn_X2_seek_2 (by decide) (X.2.2.2.1 (.fieldLink RX2 18 "SilkMill$Mixer" "prices" "[I") (by decide +kernel)) rfl (gv_202 _ _) dX2_seek_57 ?_
          refine lv_iload_n X.1 X.2.1 dX2_seek_60 rfl (lv_at hl 1 rfl) ?_
          refine r_iald X hw h_40 rfl (by rw [h_41]; exact z_ix hz_a1 (by omega) (by omega)) dX2_seek_61 ?_
          refine lv_topi (fun v_42 ev_42 => ?_)
          have rg_43 := And.intro (z_lo v_42) (z_hi v_42)
          have ev_42 := ev_42.symm
          refine lv_iadd X.1 X.2.1 dX2_seek_62 ?_
          refine lv_topi (fun v_44 ev_44 => ?_)
          have rg_45 := And.intro (z_lo v_44) (z_hi v_44)
          refine k_v (rm := { frames := 8, cells := 0, slots := 0, locals := 384 }) (av := [.ref x, .int (v_32), .int (v_36), .int (a3), .int (v_44)]) X hw (va_runS (As := [.ref x, .int (v_32), .int (v_36), .int (a3), .int (v_44)]) (rest := []) (cfix X) (k_X2_seek_7 l G cy κ S _ x (v_32) (v_32.toInt) (v_36) (v_36.toInt) (a3) (a3_z) (v_44) (v_44.toInt) hO.1 ha_x rfl rfl hz_a3 rfl (by omega) (by omega) (by omega)) (cwS 5 X.2.2.2.1 gX2_seek_X2_seek rfl rfl rfl (by decide +kernel) ⟨Nat.le_of_ble_eq_true rfl, Nat.le_of_ble_eq_true rfl⟩) (pre_S X hw _) rfl rfl hl.1 rfl (lv_room (Nat.le_of_ble_eq_true rfl)) dX2_seek_63 ⟨Nat.le_of_ble_eq_true rfl, Nat.le_of_ble_eq_true rfl⟩) 0 0 (Nat.le_of_ble_eq_true rfl) (Nat.le_of_ble_eq_true rfl) (fun S_47 H locs hp hw hfr hnw => ?_)
          obtain ⟨hk_48, hp⟩ := hp
          have hO_49 : Ok eMX S S_47 := hO.call hk_48 (by decide +kernel)
          refine lv_aload_n X.1 X.2.1 dX2_seek_66 rfl (lv_at hl 0 rfl) ?_
          refine lv_iload_n X.1 X.2.1 dX2_seek_67 rfl (lv_at hl 1 rfl) ?_
          refine lv_iconst (v := 1) X.1 X.2.1 dX2_seek_68 (by decide) ?_
          refine lv_iadd X.1 X.2.1 dX2_seek_69 ?_
          refine lv_topi (fun v_50 ev_50 => ?_)
          have z_51 : v_50.toInt = a1_z + 1 := z_add ev_50 hz_a1 ti_1 (by omega) (by omega)
          refine lv_iload_n X.1 X.2.1 dX2_seek_70 rfl (lv_at hl 2 rfl) ?_
          refine lv_iload_n X.1 X.2.1 dX2_seek_71 rfl (lv_at hl 3 rfl) ?_
          refine lv_aload_n X.1 X.2.1 dX2_seek_72 rfl (lv_at hl 0 rfl) ?_
          have t_52 : At S_47 x 2 := hk_48.fr.at ha_x
          obtain ⟨q_53, h_54, h_55, h_56⟩ := gQ_2_201 hO_49.1 t_52
          refine r_getR (g := 201) X hw t_52 rfl 1 h_54 (by decide) rfl inn_X2_seek_2 (by decide) (X.2.2.2.1 (.fieldLink RX2 15 "SilkMill$Mixer" "weights" "[I") (by decide +kernel)) rfl (gv_201 _ _) dX2_seek_73 ?_
          refine lv_iload_n X.1 X.2.1 dX2_seek_76 rfl (lv_at hl 1 rfl) ?_
          refine r_iald X hw h_55 rfl (by rw [h_56]; exact z_ix hz_a1 (by omega) (by omega)) dX2_seek_77 ?_
          refine lv_topi (fun v_57 ev_57 => ?_)
          have rg_58 := And.intro (z_lo v_57) (z_hi v_57)
          have ev_57 := ev_57.symm
          refine lv_isub X.1 X.2.1 dX2_seek_78 ?_
          refine lv_topi (fun v_59 ev_59 => ?_)
          have rg_60 := And.intro (z_lo v_59) (z_hi v_59)
          refine lv_iload X.1 X.2.1 dX2_seek_79 (lv_at hl 4 rfl) ?_
          refine k_v (rm := { frames := 8, cells := 0, slots := 0, locals := 384 }) (av := [.ref x, .int (v_50), .int (a2), .int (v_59), .int (a4)]) X hw (va_runS (As := [.ref x, .int (v_50), .int (a2), .int (v_59), .int (a4)]) (rest := []) (cfix X) (k_X2_seek_7 l G cy κ S_47 _ x (v_50) (v_50.toInt) (a2) (a2_z) (v_59) (v_59.toInt) (a4) (a4_z) hO_49.1 t_52 rfl hz_a2 rfl hz_a4 (by omega) (by omega) (by omega)) (cwS 5 X.2.2.2.1 gX2_seek_X2_seek rfl rfl rfl (by decide +kernel) ⟨Nat.le_of_ble_eq_true rfl, Nat.le_of_ble_eq_true rfl⟩) (pre_S X hw _) rfl rfl hl.1 rfl (lv_room (Nat.le_of_ble_eq_true rfl)) dX2_seek_81 ⟨Nat.le_of_ble_eq_true rfl, Nat.le_of_ble_eq_true rfl⟩) 0 0 (Nat.le_of_ble_eq_true rfl) (Nat.le_of_ble_eq_true rfl) (fun S_62 H locs hp hw hfr hnw => ?_)
          obtain ⟨hk_63, hp⟩ := hp
          have hO_64 : Ok eMX S S_62 := hO_49.call hk_63 (by decide +kernel)
          exact ret_v X hw hr hlocks (Nat.le_of_ble_eq_true rfl) (Nat.le_of_ble_eq_true rfl) ⟨hO_64, trivial⟩ dX2_seek_84
        · have z_b_65 := trivial
          have k_66 : a1_z ≥ 14 := z_nlt hz_a1 ti_14 c_29
          refine lv_aload_n X.1 X.2.1 dX2_seek_32 rfl (lv_at hl 0 rfl) ?_
          refine lv_iload X.1 X.2.1 dX2_seek_33 (lv_at hl 4 rfl) ?_
          refine r_putI (v := a4) X hw ha_x rfl 6 206 tyX2 (by decide) rfl inn_X2_seek_2 tyX2_ok nmX2 (by decide) (X.2.2.2.1 (.fieldLink RX2 34 "SilkMill$Mixer" "bestPrice" "I") (by decide +kernel)) rfl (Or.inl rfl) rfl rfl (Nat.le_of_ble_eq_true rfl) (st_206 _ _) dX2_seek_35 (fun H locs hw => ?_)
          obtain ⟨S_67, eS_67⟩ : ∃ T, T = sI S 206 x (a4) := ⟨_, rfl⟩
          rw [← eS_67] at hw
          have hO_68 : Ok eMX S S_67 := hO.sI eS_67 (by decide +kernel) (uI_2_206 hO.1 ha_x)
          have h_69 : pI S_67 206 x = a4 := tI_sIs eS_67
          refine lv_aload_n X.1 X.2.1 dX2_seek_38 rfl (lv_at hl 0 rfl) ?_
          refine lv_iload_n X.1 X.2.1 dX2_seek_39 rfl (lv_at hl 2 rfl) ?_
          have t_70 : At S_67 x 2 := tAt_sI eS_67 ha_x
          refine r_putI (v := a2) X hw t_70 rfl 7 207 tyX2 (by decide) rfl inn_X2_seek_2 tyX2_ok nmX2 (by decide) (X.2.2.2.1 (.fieldLink RX2 37 "SilkMill$Mixer" "bestSet" "I") (by decide +kernel)) rfl (Or.inl rfl) rfl rfl (Nat.le_of_ble_eq_true rfl) (st_207 _ _) dX2_seek_40 (fun H locs hw => ?_)
          obtain ⟨S_71, eS_71⟩ : ∃ T, T = sI S_67 207 x (a2) := ⟨_, rfl⟩
          rw [← eS_71] at hw
          have hO_72 : Ok eMX S S_71 := hO_68.sI eS_71 (by decide +kernel) (uI_2_207 hO_68.1 t_70)
          have h_73 : pI S_71 207 x = a2 := tI_sIs eS_71
          exact ret_v X hw hr hlocks (Nat.le_of_ble_eq_true rfl) (Nat.le_of_ble_eq_true rfl) ⟨hO_72, trivial⟩ dX2_seek_43
    · have z_b_74 := trivial
      have k_75 : a4_z ≥ v_9.toInt := z_nlt hz_a4 rfl c_12
      exact ret_v X hw hr hlocks (Nat.le_of_ble_eq_true rfl) (Nat.le_of_ble_eq_true rfl) ⟨hO, trivial⟩ dX2_seek_17
set_option maxHeartbeats 4000000 in
set_option maxRecDepth 100000 in
theorem k_X2_seek_9 (l : Launch) (G : va_G) (cy : Nat → ClassId) (κ : Nat → Nat) (S : PS) (sz : Nat) (x : Nat) (a1 : Int32) (a1_z : Int) (a2 : Int32) (a2_z : Int) (a3 : Int32) (a3_z : Int) (a4 : Int32) (a4_z : Int) (hG : GX S) (ha_x : At S x 2) (hz_a1 : a1.toInt = a1_z) (hz_a2 : a2.toInt = a2_z) (hz_a3 : a3.toInt = a3_z) (hz_a4 : a4.toInt = a4_z) (hp_0 : 0 ≤ a1_z) (hp_1 : a1_z ≤ 14) (hp_2 : 14 ≤ a1_z + 9) : Cv l yX2_seek wsX2_seek ({ frames := 10, cells := 0, slots := 0, locals := 480 }) G cy κ S sz [.ref x, .int (a1), .int (a2), .int (a3), .int (a4)] (fun (S9 : PS) => Ok eMX S S9 ∧ (True)) := by
  refine ent_m (cc := cX2_seek) (maxL := 5) (ret := none) (by decide) rfl (Nat.le_of_ble_eq_true rfl) ?_
  intro p e s m below meth c ls X hr hlocks hin hw hl hsz
  subst hsz
  have X : Cx p c cX2_seek 5 s [.ref x, .int (a1), .int (a2), .int (a3), .int (a4)].toArray wsX2_seek RX2 m G cy κ (AS S s.heap.size) := X
  have hl : lv_has ls 5 [(0, .ref x), (1, .int (a1)), (2, .int (a2)), (3, .int (a3)), (4, .int (a4))] := hl
  have rg_a1 : (-2147483648) ≤ a1_z ∧ a1_z ≤ 2147483647 := by rw [← hz_a1]; exact ⟨z_lo _, z_hi _⟩
  have rg_a2 : (-2147483648) ≤ a2_z ∧ a2_z ≤ 2147483647 := by rw [← hz_a2]; exact ⟨z_lo _, z_hi _⟩
  have rg_a3 : (-2147483648) ≤ a3_z ∧ a3_z ≤ 2147483647 := by rw [← hz_a3]; exact ⟨z_lo _, z_hi _⟩
  have rg_a4 : (-2147483648) ≤ a4_z ∧ a4_z ≤ 2147483647 := by rw [← hz_a4]; exact ⟨z_lo _, z_hi _⟩
  have hO : Ok eMX S S := Ok.rf hG
  refine lv_iload_n X.1 X.2.1 dX2_seek_0 rfl (lv_at hl 3 rfl) ?_
  refine lv_aload_n X.1 X.2.1 dX2_seek_1 rfl (lv_at hl 0 rfl) ?_
  obtain ⟨v_1, ev_1⟩ : ∃ v, pI S 205 x = v := ⟨_, rfl⟩
  have rg_3 := And.intro (z_lo v_1) (z_hi v_1)
  refine r_getI (g := 205) (x := v_1) X hw ha_x rfl 5 ev_1 (by decide) rfl inn_X2_seek_2 (by decide) (X.2.2.2.1 (.fieldLink RX2 28 "SilkMill$Mixer" "wanted" "I") (by decide +kernel)) rfl (gv_205 _ _) dX2_seek_2 ?_
  refine lv_icmp_lt (tgt := 17) X.1 X.2.1 dX2_seek_5 (by decide) (fun c_4 => ?_) (fun c_4 => ?_)
  · have z_b_5 := trivial
    have k_6 : a3_z < v_1.toInt := z_lt hz_a3 rfl c_4
    exact ret_v X hw hr hlocks (Nat.le_of_ble_eq_true rfl) (Nat.le_of_ble_eq_true rfl) ⟨hO, trivial⟩ dX2_seek_17
  · have z_b_7 := trivial
    have k_8 : a3_z ≥ v_1.toInt := z_nlt hz_a3 rfl c_4
    refine lv_iload X.1 X.2.1 dX2_seek_8 (lv_at hl 4 rfl) ?_
    refine lv_aload_n X.1 X.2.1 dX2_seek_10 rfl (lv_at hl 0 rfl) ?_
    obtain ⟨v_9, ev_9⟩ : ∃ v, pI S 206 x = v := ⟨_, rfl⟩
    have rg_11 := And.intro (z_lo v_9) (z_hi v_9)
    refine r_getI (g := 206) (x := v_9) X hw ha_x rfl 6 ev_9 (by decide) rfl inn_X2_seek_2 (by decide) (X.2.2.2.1 (.fieldLink RX2 34 "SilkMill$Mixer" "bestPrice" "I") (by decide +kernel)) rfl (gv_206 _ _) dX2_seek_11 ?_
    refine lv_icmp_lt (tgt := 18) X.1 X.2.1 dX2_seek_14 (by decide) (fun c_12 => ?_) (fun c_12 => ?_)
    · have z_b_13 := trivial
      have k_14 : a4_z < v_9.toInt := z_lt hz_a4 rfl c_12
      refine lv_iload_n X.1 X.2.1 dX2_seek_18 rfl (lv_at hl 1 rfl) ?_
      refine lv_aload_n X.1 X.2.1 dX2_seek_19 rfl (lv_at hl 0 rfl) ?_
      obtain ⟨v_15, ev_15⟩ : ∃ v, pI S 203 x = v := ⟨_, rfl⟩
      have rg_16 := gI_2_203 hO.1 ha_x; rw [ev_15] at rg_16
      refine r_getI (g := 203) (x := v_15) X hw ha_x rfl 3 ev_15 (by decide) rfl inn_X2_seek_2 (by decide) (X.2.2.2.1 (.fieldLink RX2 21 "SilkMill$Mixer" "size" "I") (by decide +kernel)) rfl (gv_203 _ _) dX2_seek_20 ?_
      refine lv_icmp_ge (tgt := 32) X.1 X.2.1 dX2_seek_23 (by decide) (fun c_17 => ?_) (fun c_17 => ?_)
      · have z_b_18 := trivial
        have k_19 : a1_z ≥ v_15.toInt := z_le rfl hz_a1 c_17
        refine lv_aload_n X.1 X.2.1 dX2_seek_32 rfl (lv_at hl 0 rfl) ?_
        refine lv_iload X.1 X.2.1 dX2_seek_33 (lv_at hl 4 rfl) ?_
        refine r_putI (v := a4) X hw ha_x rfl 6 206 tyX2 (by decide) rfl inn_X2_seek_2 tyX2_ok nmX2 (by decide) (X.2.2.2.1 (.fieldLink RX2 34 "SilkMill$Mixer" "bestPrice" "I") (by decide +kernel)) rfl (Or.inl rfl) rfl rfl (Nat.le_of_ble_eq_true rfl) (st_206 _ _) dX2_seek_35 (fun H locs hw => ?_)
        obtain ⟨S_20, eS_20⟩ : ∃ T, T = sI S 206 x (a4) := ⟨_, rfl⟩
        rw [← eS_20] at hw
        have hO_21 : Ok eMX S S_20 := hO.sI eS_20 (by decide +kernel) (uI_2_206 hO.1 ha_x)
        have h_22 : pI S_20 206 x = a4 := tI_sIs eS_20
        refine lv_aload_n X.1 X.2.1 dX2_seek_38 rfl (lv_at hl 0 rfl) ?_
        refine lv_iload_n X.1 X.2.1 dX2_seek_39 rfl (lv_at hl 2 rfl) ?_
        have t_23 : At S_20 x 2 := tAt_sI eS_20 ha_x
        refine r_putI (v := a2) X hw t_23 rfl 7 207 tyX2 (by decide) rfl inn_X2_seek_2 tyX2_ok nmX2 (by decide) (X.2.2.2.1 (.fieldLink RX2 37 "SilkMill$Mixer" "bestSet" "I") (by decide +kernel)) rfl (Or.inl rfl) rfl rfl (Nat.le_of_ble_eq_true rfl) (st_207 _ _) dX2_seek_40 (fun H locs hw => ?_)
        obtain ⟨S_24, eS_24⟩ : ∃ T, T = sI S_20 207 x (a2) := ⟨_, rfl⟩
        rw [← eS_24] at hw
        have hO_25 : Ok eMX S S_24 := hO_21.sI eS_24 (by decide +kernel) (uI_2_207 hO_21.1 t_23)
        have h_26 : pI S_24 207 x = a2 := tI_sIs eS_24
        exact ret_v X hw hr hlocks (Nat.le_of_ble_eq_true rfl) (Nat.le_of_ble_eq_true rfl) ⟨hO_25, trivial⟩ dX2_seek_43
      · have z_b_27 := trivial
        have k_28 : a1_z < v_15.toInt := z_nle rfl hz_a1 c_17
        refine lv_iload_n X.1 X.2.1 dX2_seek_26 rfl (lv_at hl 1 rfl) ?_
        refine lv_bipush (v := 14) X.1 X.2.1 dX2_seek_27 (by decide) ?_
        refine lv_icmp_lt (tgt := 44) X.1 X.2.1 dX2_seek_29 (by decide) (fun c_29 => ?_) (fun c_29 => ?_)
        · have z_b_30 := trivial
          have k_31 : a1_z < 14 := z_lt hz_a1 ti_14 c_29
          refine lv_aload_n X.1 X.2.1 dX2_seek_44 rfl (lv_at hl 0 rfl) ?_
          refine lv_iload_n X.1 X.2.1 dX2_seek_45 rfl (lv_at hl 1 rfl) ?_
          refine lv_iconst (v := 1) X.1 X.2.1 dX2_seek_46 (by decide) ?_
          refine lv_iadd X.1 X.2.1 dX2_seek_47 ?_
          refine lv_topi (fun v_32 ev_32 => ?_)
          have z_33 : v_32.toInt = a1_z + 1 := z_add ev_32 hz_a1 ti_1 (by omega) (by omega)
          refine lv_iload_n X.1 X.2.1 dX2_seek_48 rfl (lv_at hl 2 rfl) ?_
          refine lv_iconst (v := 1) X.1 X.2.1 dX2_seek_49 (by decide) ?_
          refine lv_iload_n X.1 X.2.1 dX2_seek_50 rfl (lv_at hl 1 rfl) ?_
          refine lv_ishl X.1 X.2.1 dX2_seek_51 ?_
          refine lv_topi (fun v_34 ev_34 => ?_)
          have rg_35 := And.intro (z_lo v_34) (z_hi v_34)
          refine lv_ior X.1 X.2.1 dX2_seek_52 ?_
          refine lv_topi (fun v_36 ev_36 => ?_)
          have rg_37 := And.intro (z_lo v_36) (z_hi v_36)
          refine lv_iload_n X.1 X.2.1 dX2_seek_53 rfl (lv_at hl 3 rfl) ?_
          refine lv_iload X.1 X.2.1 dX2_seek_54 (lv_at hl 4 rfl) ?_
          refine lv_aload_n X.1 X.2.1 dX2_seek_56 rfl (lv_at hl 0 rfl) ?_
          obtain ⟨q_38, h_39, h_40, h_41⟩ := gQ_2_202 hO.1 ha_x
          refine r_getR (g := 202) X hw ha_x rfl 2 h_39 (by decide) rfl inn_X2_seek_2 (by decide) (X.2.2.2.1 (.fieldLink RX2 18 "SilkMill$Mixer" "prices" "[I") (by decide +kernel)) rfl (gv_202 _ _) dX2_seek_57 ?_
          refine lv_iload_n X.1 X.2.1 dX2_seek_60 rfl (lv_at hl 1 rfl) ?_
          refine r_iald X hw h_40 rfl (by rw [h_41]; exact z_ix hz_a1 (by omega) (by omega)) dX2_seek_61 ?_
          refine lv_topi (fun v_42 ev_42 => ?_)
          have rg_43 := And.intro (z_lo v_42) (z_hi v_42)
          have ev_42 := ev_42.symm
          refine lv_iadd X.1 X.2.1 dX2_seek_62 ?_
          refine lv_topi (fun v_44 ev_44 => ?_)
          have rg_45 := And.intro (z_lo v_44) (z_hi v_44)
          refine k_v (rm := { frames := 9, cells := 0, slots := 0, locals := 432 }) (av := [.ref x, .int (v_32), .int (v_36), .int (a3), .int (v_44)]) X hw (va_runS (As := [.ref x, .int (v_32), .int (v_36), .int (a3), .int (v_44)]) (rest := []) (cfix X) (k_X2_seek_8 l G cy κ S _ x (v_32) (v_32.toInt) (v_36) (v_36.toInt) (a3) (a3_z) (v_44) (v_44.toInt) hO.1 ha_x rfl rfl hz_a3 rfl (by omega) (by omega) (by omega)) (cwS 5 X.2.2.2.1 gX2_seek_X2_seek rfl rfl rfl (by decide +kernel) ⟨Nat.le_of_ble_eq_true rfl, Nat.le_of_ble_eq_true rfl⟩) (pre_S X hw _) rfl rfl hl.1 rfl (lv_room (Nat.le_of_ble_eq_true rfl)) dX2_seek_63 ⟨Nat.le_of_ble_eq_true rfl, Nat.le_of_ble_eq_true rfl⟩) 0 0 (Nat.le_of_ble_eq_true rfl) (Nat.le_of_ble_eq_true rfl) (fun S_47 H locs hp hw hfr hnw => ?_)
          obtain ⟨hk_48, hp⟩ := hp
          have hO_49 : Ok eMX S S_47 := hO.call hk_48 (by decide +kernel)
          refine lv_aload_n X.1 X.2.1 dX2_seek_66 rfl (lv_at hl 0 rfl) ?_
          refine lv_iload_n X.1 X.2.1 dX2_seek_67 rfl (lv_at hl 1 rfl) ?_
          refine lv_iconst (v := 1) X.1 X.2.1 dX2_seek_68 (by decide) ?_
          refine lv_iadd X.1 X.2.1 dX2_seek_69 ?_
          refine lv_topi (fun v_50 ev_50 => ?_)
          have z_51 : v_50.toInt = a1_z + 1 := z_add ev_50 hz_a1 ti_1 (by omega) (by omega)
          refine lv_iload_n X.1 X.2.1 dX2_seek_70 rfl (lv_at hl 2 rfl) ?_
          refine lv_iload_n X.1 X.2.1 dX2_seek_71 rfl (lv_at hl 3 rfl) ?_
          refine lv_aload_n X.1 X.2.1 dX2_seek_72 rfl (lv_at hl 0 rfl) ?_
          have t_52 : At S_47 x 2 := hk_48.fr.at ha_x
          obtain ⟨q_53, h_54, h_55, h_56⟩ := gQ_2_201 hO_49.1 t_52
          refine r_getR (g := 201) X hw t_52 rfl 1 h_54 (by decide) rfl inn_X2_seek_2 (by decide) (X.2.2.2.1 (.fieldLink RX2 15 "SilkMill$Mixer" "weights" "[I") (by decide +kernel)) rfl (gv_201 _ _) dX2_seek_73 ?_
          refine lv_iload_n X.1 X.2.1 dX2_seek_76 rfl (lv_at hl 1 rfl) ?_
          refine r_iald X hw h_55 rfl (by rw [h_56]; exact z_ix hz_a1 (by omega) (by omega)) dX2_seek_77 ?_
          refine lv_topi (fun v_57 ev_57 => ?_)
          have rg_58 := And.intro (z_lo v_57) (z_hi v_57)
          have ev_57 := ev_57.symm
          refine lv_isub X.1 X.2.1 dX2_seek_78 ?_
          refine lv_topi (fun v_59 ev_59 => ?_)
          have rg_60 := And.intro (z_lo v_59) (z_hi v_59)
          refine lv_iload X.1 X.2.1 dX2_seek_79 (lv_at hl 4 rfl) ?_
          refine k_v (rm := { frames := 9, cells := 0, slots := 0, locals := 432 }) (av := [.ref x, .int (v_50), .int (a2), .int (v_59), .int (a4)]) X hw (va_runS (As := [.ref x, .int (v_50), .int (a2), .int (v_59), .int (a4)]) (rest := []) (cfix X) (k_X2_seek_8 l G cy κ S_47 _ x (v_50) (v_50.toInt) (a2) (a2_z) (v_59) (v_59.toInt) (a4) (a4_z) hO_49.1 t_52 rfl hz_a2 rfl hz_a4 (by omega) (by omega) (by omega)) (cwS 5 X.2.2.2.1 gX2_seek_X2_seek rfl rfl rfl (by decide +kernel) ⟨Nat.le_of_ble_eq_true rfl, Nat.le_of_ble_eq_true rfl⟩) (pre_S X hw _) rfl rfl hl.1 rfl (lv_room (Nat.le_of_ble_eq_true rfl)) dX2_seek_81 ⟨Nat.le_of_ble_eq_true rfl, Nat.le_of_ble_eq_true rfl⟩) 0 0 (Nat.le_of_ble_eq_true rfl) (Nat.le_of_ble_eq_true rfl) (fun S_62 H locs hp hw hfr hnw => ?_)
          obtain ⟨hk_63, hp⟩ := hp
          have hO_64 : Ok eMX S S_62 := hO_49.call hk_63 (by decide +kernel)
          exact ret_v X hw hr hlocks (Nat.le_of_ble_eq_true rfl) (Nat.le_of_ble_eq_true rfl) ⟨hO_64, trivial⟩ dX2_seek_84
        · have z_b_65 := trivial
          have k_66 : a1_z ≥ 14 := z_nlt hz_a1 ti_14 c_29
          refine lv_aload_n X.1 X.2.1 dX2_seek_32 rfl (lv_at hl 0 rfl) ?_
          refine lv_iload X.1 X.2.1 dX2_seek_33 (lv_at hl 4 rfl) ?_
          refine r_putI (v := a4) X hw ha_x rfl 6 206 tyX2 (by decide) rfl inn_X2_seek_2 tyX2_ok nmX2 (by decide) (X.2.2.2.1 (.fieldLink RX2 34 "SilkMill$Mixer" "bestPrice" "I") (by decide +kernel)) rfl (Or.inl rfl) rfl rfl (Nat.le_of_ble_eq_true rfl) (st_206 _ _) dX2_seek_35 (fun H locs hw => ?_)
          obtain ⟨S_67, eS_67⟩ : ∃ T, T = sI S 206 x (a4) := ⟨_, rfl⟩
          rw [← eS_67] at hw
          have hO_68 : Ok eMX S S_67 := hO.sI eS_67 (by decide +kernel) (uI_2_206 hO.1 ha_x)
          have h_69 : pI S_67 206 x = a4 := tI_sIs eS_67
          refine lv_aload_n X.1 X.2.1 dX2_seek_38 rfl (lv_at hl 0 rfl) ?_
          refine lv_iload_n X.1 X.2.1 dX2_seek_39 rfl (lv_at hl 2 rfl) ?_
          have t_70 : At S_67 x 2 := tAt_sI eS_67 ha_x
          refine r_putI (v := a2) X hw t_70 rfl 7 207 tyX2 (by decide) rfl inn_X2_seek_2 tyX2_ok nmX2 (by decide) (X.2.2.2.1 (.fieldLink RX2 37 "SilkMill$Mixer" "bestSet" "I") (by decide +kernel)) rfl (Or.inl rfl) rfl rfl (Nat.le_of_ble_eq_true rfl) (st_207 _ _) dX2_seek_40 (fun H locs hw => ?_)
          obtain ⟨S_71, eS_71⟩ : ∃ T, T = sI S_67 207 x (a2) := ⟨_, rfl⟩
          rw [← eS_71] at hw
          have hO_72 : Ok eMX S S_71 := hO_68.sI eS_71 (by decide +kernel) (uI_2_207 hO_68.1 t_70)
          have h_73 : pI S_71 207 x = a2 := tI_sIs eS_71
          exact ret_v X hw hr hlocks (Nat.le_of_ble_eq_true rfl) (Nat.le_of_ble_eq_true rfl) ⟨hO_72, trivial⟩ dX2_seek_43
    · have z_b_74 := trivial
      have k_75 : a4_z ≥ v_9.toInt := z_nlt hz_a4 rfl c_12
      exact ret_v X hw hr hlocks (Nat.le_of_ble_eq_true rfl) (Nat.le_of_ble_eq_true rfl) ⟨hO, trivial⟩ dX2_seek_17
set_option maxHeartbeats 4000000 in
set_option maxRecDepth 100000 in
theorem k_X2_seek_10 (l : Launch) (G : va_G) (cy : Nat → ClassId) (κ : Nat → Nat) (S : PS) (sz : Nat) (x : Nat) (a1 : Int32) (a1_z : Int) (a2 : Int32) (a2_z : Int) (a3 : Int32) (a3_z : Int) (a4 : Int32) (a4_z : Int) (hG : GX S) (ha_x : At S x 2) (hz_a1 : a1.toInt = a1_z) (hz_a2 : a2.toInt = a2_z) (hz_a3 : a3.toInt = a3_z) (hz_a4 : a4.toInt = a4_z) (hp_0 : 0 ≤ a1_z) (hp_1 : a1_z ≤ 14) (hp_2 : 14 ≤ a1_z + 10) : Cv l yX2_seek wsX2_seek ({ frames := 11, cells := 0, slots := 0, locals := 528 }) G cy κ S sz [.ref x, .int (a1), .int (a2), .int (a3), .int (a4)] (fun (S9 : PS) => Ok eMX S S9 ∧ (True)) := by
  refine ent_m (cc := cX2_seek) (maxL := 5) (ret := none) (by decide) rfl (Nat.le_of_ble_eq_true rfl) ?_
  intro p e s m below meth c ls X hr hlocks hin hw hl hsz
  subst hsz
  have X : Cx p c cX2_seek 5 s [.ref x, .int (a1), .int (a2), .int (a3), .int (a4)].toArray wsX2_seek RX2 m G cy κ (AS S s.heap.size) := X
  have hl : lv_has ls 5 [(0, .ref x), (1, .int (a1)), (2, .int (a2)), (3, .int (a3)), (4, .int (a4))] := hl
  have rg_a1 : (-2147483648) ≤ a1_z ∧ a1_z ≤ 2147483647 := by rw [← hz_a1]; exact ⟨z_lo _, z_hi _⟩
  have rg_a2 : (-2147483648) ≤ a2_z ∧ a2_z ≤ 2147483647 := by rw [← hz_a2]; exact ⟨z_lo _, z_hi _⟩
  have rg_a3 : (-2147483648) ≤ a3_z ∧ a3_z ≤ 2147483647 := by rw [← hz_a3]; exact ⟨z_lo _, z_hi _⟩
  have rg_a4 : (-2147483648) ≤ a4_z ∧ a4_z ≤ 2147483647 := by rw [← hz_a4]; exact ⟨z_lo _, z_hi _⟩
  have hO : Ok eMX S S := Ok.rf hG
  refine lv_iload_n X.1 X.2.1 dX2_seek_0 rfl (lv_at hl 3 rfl) ?_
  refine lv_aload_n X.1 X.2.1 dX2_seek_1 rfl (lv_at hl 0 rfl) ?_
  obtain ⟨v_1, ev_1⟩ : ∃ v, pI S 205 x = v := ⟨_, rfl⟩
  have rg_3 := And.intro (z_lo v_1) (z_hi v_1)
  refine r_getI (g := 205) (x := v_1) X hw ha_x rfl 5 ev_1 (by decide) rfl inn_X2_seek_2 (by decide) (X.2.2.2.1 (.fieldLink RX2 28 "SilkMill$Mixer" "wanted" "I") (by decide +kernel)) rfl (gv_205 _ _) dX2_seek_2 ?_
  refine lv_icmp_lt (tgt := 17) X.1 X.2.1 dX2_seek_5 (by decide) (fun c_4 => ?_) (fun c_4 => ?_)
  · have z_b_5 := trivial
    have k_6 : a3_z < v_1.toInt := z_lt hz_a3 rfl c_4
    exact ret_v X hw hr hlocks (Nat.le_of_ble_eq_true rfl) (Nat.le_of_ble_eq_true rfl) ⟨hO, trivial⟩ dX2_seek_17
  · have z_b_7 := trivial
    have k_8 : a3_z ≥ v_1.toInt := z_nlt hz_a3 rfl c_4
    refine lv_iload X.1 X.2.1 dX2_seek_8 (lv_at hl 4 rfl) ?_
    refine lv_aload_n X.1 X.2.1 dX2_seek_10 rfl (lv_at hl 0 rfl) ?_
    obtain ⟨v_9, ev_9⟩ : ∃ v, pI S 206 x = v := ⟨_, rfl⟩
    have rg_11 := And.intro (z_lo v_9) (z_hi v_9)
    refine r_getI (g := 206) (x := v_9) X hw ha_x rfl 6 ev_9 (by decide) rfl inn_X2_seek_2 (by decide) (X.2.2.2.1 (.fieldLink RX2 34 "SilkMill$Mixer" "bestPrice" "I") (by decide +kernel)) rfl (gv_206 _ _) dX2_seek_11 ?_
    refine lv_icmp_lt (tgt := 18) X.1 X.2.1 dX2_seek_14 (by decide) (fun c_12 => ?_) (fun c_12 => ?_)
    · have z_b_13 := trivial
      have k_14 : a4_z < v_9.toInt := z_lt hz_a4 rfl c_12
      refine lv_iload_n X.1 X.2.1 dX2_seek_18 rfl (lv_at hl 1 rfl) ?_
      refine lv_aload_n X.1 X.2.1 dX2_seek_19 rfl (lv_at hl 0 rfl) ?_
      obtain ⟨v_15, ev_15⟩ : ∃ v, pI S 203 x = v := ⟨_, rfl⟩
      have rg_16 := gI_2_203 hO.1 ha_x; rw [ev_15] at rg_16
      refine r_getI (g := 203) (x := v_15) X hw ha_x rfl 3 ev_15 (by decide) rfl inn_X2_seek_2 (by decide) (X.2.2.2.1 (.fieldLink RX2 21 "SilkMill$Mixer" "size" "I") (by decide +kernel)) rfl (gv_203 _ _) dX2_seek_20 ?_
      refine lv_icmp_ge (tgt := 32) X.1 X.2.1 dX2_seek_23 (by decide) (fun c_17 => ?_) (fun c_17 => ?_)
      · have z_b_18 := trivial
        have k_19 : a1_z ≥ v_15.toInt := z_le rfl hz_a1 c_17
        refine lv_aload_n X.1 X.2.1 dX2_seek_32 rfl (lv_at hl 0 rfl) ?_
        refine lv_iload X.1 X.2.1 dX2_seek_33 (lv_at hl 4 rfl) ?_
        refine r_putI (v := a4) X hw ha_x rfl 6 206 tyX2 (by decide) rfl inn_X2_seek_2 tyX2_ok nmX2 (by decide) (X.2.2.2.1 (.fieldLink RX2 34 "SilkMill$Mixer" "bestPrice" "I") (by decide +kernel)) rfl (Or.inl rfl) rfl rfl (Nat.le_of_ble_eq_true rfl) (st_206 _ _) dX2_seek_35 (fun H locs hw => ?_)
        obtain ⟨S_20, eS_20⟩ : ∃ T, T = sI S 206 x (a4) := ⟨_, rfl⟩
        rw [← eS_20] at hw
        have hO_21 : Ok eMX S S_20 := hO.sI eS_20 (by decide +kernel) (uI_2_206 hO.1 ha_x)
        have h_22 : pI S_20 206 x = a4 := tI_sIs eS_20
        refine lv_aload_n X.1 X.2.1 dX2_seek_38 rfl (lv_at hl 0 rfl) ?_
        refine lv_iload_n X.1 X.2.1 dX2_seek_39 rfl (lv_at hl 2 rfl) ?_
        have t_23 : At S_20 x 2 := tAt_sI eS_20 ha_x
        refine r_putI (v := a2) X hw t_23 rfl 7 207 tyX2 (by decide) rfl inn_X2_seek_2 tyX2_ok nmX2 (by decide) (X.2.2.2.1 (.fieldLink RX2 37 "SilkMill$Mixer" "bestSet" "I") (by decide +kernel)) rfl (Or.inl rfl) rfl rfl (Nat.le_of_ble_eq_true rfl) (st_207 _ _) dX2_seek_40 (fun H locs hw => ?_)
        obtain ⟨S_24, eS_24⟩ : ∃ T, T = sI S_20 207 x (a2) := ⟨_, rfl⟩
        rw [← eS_24] at hw
        have hO_25 : Ok eMX S S_24 := hO_21.sI eS_24 (by decide +kernel) (uI_2_207 hO_21.1 t_23)
        have h_26 : pI S_24 207 x = a2 := tI_sIs eS_24
        exact ret_v X hw hr hlocks (Nat.le_of_ble_eq_true rfl) (Nat.le_of_ble_eq_true rfl) ⟨hO_25, trivial⟩ dX2_seek_43
      · have z_b_27 := trivial
        have k_28 : a1_z < v_15.toInt := z_nle rfl hz_a1 c_17
        refine lv_iload_n X.1 X.2.1 dX2_seek_26 rfl (lv_at hl 1 rfl) ?_
        refine lv_bipush (v := 14) X.1 X.2.1 dX2_seek_27 (by decide) ?_
        refine lv_icmp_lt (tgt := 44) X.1 X.2.1 dX2_seek_29 (by decide) (fun c_29 => ?_) (fun c_29 => ?_)
        · have z_b_30 := trivial
          have k_31 : a1_z < 14 := z_lt hz_a1 ti_14 c_29
          refine lv_aload_n X.1 X.2.1 dX2_seek_44 rfl (lv_at hl 0 rfl) ?_
          refine lv_iload_n X.1 X.2.1 dX2_seek_45 rfl (lv_at hl 1 rfl) ?_
          refine lv_iconst (v := 1) X.1 X.2.1 dX2_seek_46 (by decide) ?_
          refine lv_iadd X.1 X.2.1 dX2_seek_47 ?_
          refine lv_topi (fun v_32 ev_32 => ?_)
          have z_33 : v_32.toInt = a1_z + 1 := z_add ev_32 hz_a1 ti_1 (by omega) (by omega)
          refine lv_iload_n X.1 X.2.1 dX2_seek_48 rfl (lv_at hl 2 rfl) ?_
          refine lv_iconst (v := 1) X.1 X.2.1 dX2_seek_49 (by decide) ?_
          refine lv_iload_n X.1 X.2.1 dX2_seek_50 rfl (lv_at hl 1 rfl) ?_
          refine lv_ishl X.1 X.2.1 dX2_seek_51 ?_
          refine lv_topi (fun v_34 ev_34 => ?_)
          have rg_35 := And.intro (z_lo v_34) (z_hi v_34)
          refine lv_ior X.1 X.2.1 dX2_seek_52 ?_
          refine lv_topi (fun v_36 ev_36 => ?_)
          have rg_37 := And.intro (z_lo v_36) (z_hi v_36)
          refine lv_iload_n X.1 X.2.1 dX2_seek_53 rfl (lv_at hl 3 rfl) ?_
          refine lv_iload X.1 X.2.1 dX2_seek_54 (lv_at hl 4 rfl) ?_
          refine lv_aload_n X.1 X.2.1 dX2_seek_56 rfl (lv_at hl 0 rfl) ?_
          obtain ⟨q_38, h_39, h_40, h_41⟩ := gQ_2_202 hO.1 ha_x
          refine r_getR (g := 202) X hw ha_x rfl 2 h_39 (by decide) rfl inn_X2_seek_2 (by decide) (X.2.2.2.1 (.fieldLink RX2 18 "SilkMill$Mixer" "prices" "[I") (by decide +kernel)) rfl (gv_202 _ _) dX2_seek_57 ?_
          refine lv_iload_n X.1 X.2.1 dX2_seek_60 rfl (lv_at hl 1 rfl) ?_
          refine r_iald X hw h_40 rfl (by rw [h_41]; exact z_ix hz_a1 (by omega) (by omega)) dX2_seek_61 ?_
          refine lv_topi (fun v_42 ev_42 => ?_)
          have rg_43 := And.intro (z_lo v_42) (z_hi v_42)
          have ev_42 := ev_42.symm
          refine lv_iadd X.1 X.2.1 dX2_seek_62 ?_
          refine lv_topi (fun v_44 ev_44 => ?_)
          have rg_45 := And.intro (z_lo v_44) (z_hi v_44)
          refine k_v (rm := { frames := 10, cells := 0, slots := 0, locals := 480 }) (av := [.ref x, .int (v_32), .int (v_36), .int (a3), .int (v_44)]) X hw (va_runS (As := [.ref x, .int (v_32), .int (v_36), .int (a3), .int (v_44)]) (rest := []) (cfix X) (k_X2_seek_9 l G cy κ S _ x (v_32) (v_32.toInt) (v_36) (v_36.toInt) (a3) (a3_z) (v_44) (v_44.toInt) hO.1 ha_x rfl rfl hz_a3 rfl (by omega) (by omega) (by omega)) (cwS 5 X.2.2.2.1 gX2_seek_X2_seek rfl rfl rfl (by decide +kernel) ⟨Nat.le_of_ble_eq_true rfl, Nat.le_of_ble_eq_true rfl⟩) (pre_S X hw _) rfl rfl hl.1 rfl (lv_room (Nat.le_of_ble_eq_true rfl)) dX2_seek_63 ⟨Nat.le_of_ble_eq_true rfl, Nat.le_of_ble_eq_true rfl⟩) 0 0 (Nat.le_of_ble_eq_true rfl) (Nat.le_of_ble_eq_true rfl) (fun S_47 H locs hp hw hfr hnw => ?_)
          obtain ⟨hk_48, hp⟩ := hp
          have hO_49 : Ok eMX S S_47 := hO.call hk_48 (by decide +kernel)
          refine lv_aload_n X.1 X.2.1 dX2_seek_66 rfl (lv_at hl 0 rfl) ?_
          refine lv_iload_n X.1 X.2.1 dX2_seek_67 rfl (lv_at hl 1 rfl) ?_
          refine lv_iconst (v := 1) X.1 X.2.1 dX2_seek_68 (by decide) ?_
          refine lv_iadd X.1 X.2.1 dX2_seek_69 ?_
          refine lv_topi (fun v_50 ev_50 => ?_)
          have z_51 : v_50.toInt = a1_z + 1 := z_add ev_50 hz_a1 ti_1 (by omega) (by omega)
          refine lv_iload_n X.1 X.2.1 dX2_seek_70 rfl (lv_at hl 2 rfl) ?_
          refine lv_iload_n X.1 X.2.1 dX2_seek_71 rfl (lv_at hl 3 rfl) ?_
          refine lv_aload_n X.1 X.2.1 dX2_seek_72 rfl (lv_at hl 0 rfl) ?_
          have t_52 : At S_47 x 2 := hk_48.fr.at ha_x
          obtain ⟨q_53, h_54, h_55, h_56⟩ := gQ_2_201 hO_49.1 t_52
          refine r_getR (g := 201) X hw t_52 rfl 1 h_54 (by decide) rfl inn_X2_seek_2 (by decide) (X.2.2.2.1 (.fieldLink RX2 15 "SilkMill$Mixer" "weights" "[I") (by decide +kernel)) rfl (gv_201 _ _) dX2_seek_73 ?_
          refine lv_iload_n X.1 X.2.1 dX2_seek_76 rfl (lv_at hl 1 rfl) ?_
          refine r_iald X hw h_55 rfl (by rw [h_56]; exact z_ix hz_a1 (by omega) (by omega)) dX2_seek_77 ?_
          refine lv_topi (fun v_57 ev_57 => ?_)
          have rg_58 := And.intro (z_lo v_57) (z_hi v_57)
          have ev_57 := ev_57.symm
          refine lv_isub X.1 X.2.1 dX2_seek_78 ?_
          refine lv_topi (fun v_59 ev_59 => ?_)
          have rg_60 := And.intro (z_lo v_59) (z_hi v_59)
          refine lv_iload X.1 X.2.1 dX2_seek_79 (lv_at hl 4 rfl) ?_
          refine k_v (rm := { frames := 10, cells := 0, slots := 0, locals := 480 }) (av := [.ref x, .int (v_50), .int (a2), .int (v_59), .int (a4)]) X hw (va_runS (As := [.ref x, .int (v_50), .int (a2), .int (v_59), .int (a4)]) (rest := []) (cfix X) (k_X2_seek_9 l G cy κ S_47 _ x (v_50) (v_50.toInt) (a2) (a2_z) (v_59) (v_59.toInt) (a4) (a4_z) hO_49.1 t_52 rfl hz_a2 rfl hz_a4 (by omega) (by omega) (by omega)) (cwS 5 X.2.2.2.1 gX2_seek_X2_seek rfl rfl rfl (by decide +kernel) ⟨Nat.le_of_ble_eq_true rfl, Nat.le_of_ble_eq_true rfl⟩) (pre_S X hw _) rfl rfl hl.1 rfl (lv_room (Nat.le_of_ble_eq_true rfl)) dX2_seek_81 ⟨Nat.le_of_ble_eq_true rfl, Nat.le_of_ble_eq_true rfl⟩) 0 0 (Nat.le_of_ble_eq_true rfl) (Nat.le_of_ble_eq_true rfl) (fun S_62 H locs hp hw hfr hnw => ?_)
          obtain ⟨hk_63, hp⟩ := hp
          have hO_64 : Ok eMX S S_62 := hO_49.call hk_63 (by decide +kernel)
          exact ret_v X hw hr hlocks (Nat.le_of_ble_eq_true rfl) (Nat.le_of_ble_eq_true rfl) ⟨hO_64, trivial⟩ dX2_seek_84
        · have z_b_65 := trivial
          have k_66 : a1_z ≥ 14 := z_nlt hz_a1 ti_14 c_29
          refine lv_aload_n X.1 X.2.1 dX2_seek_32 rfl (lv_at hl 0 rfl) ?_
          refine lv_iload X.1 X.2.1 dX2_seek_33 (lv_at hl 4 rfl) ?_
          refine r_putI (v := a4) X hw ha_x rfl 6 206 tyX2 (by decide) rfl inn_X2_seek_2 tyX2_ok nmX2 (by decide) (X.2.2.2.1 (.fieldLink RX2 34 "SilkMill$Mixer" "bestPrice" "I") (by decide +kernel)) rfl (Or.inl rfl) rfl rfl (Nat.le_of_ble_eq_true rfl) (st_206 _ _) dX2_seek_35 (fun H locs hw => ?_)
          obtain ⟨S_67, eS_67⟩ : ∃ T, T = sI S 206 x (a4) := ⟨_, rfl⟩
          rw [← eS_67] at hw
          have hO_68 : Ok eMX S S_67 := hO.sI eS_67 (by decide +kernel) (uI_2_206 hO.1 ha_x)
          have h_69 : pI S_67 206 x = a4 := tI_sIs eS_67
          refine lv_aload_n X.1 X.2.1 dX2_seek_38 rfl (lv_at hl 0 rfl) ?_
          refine lv_iload_n X.1 X.2.1 dX2_seek_39 rfl (lv_at hl 2 rfl) ?_
          have t_70 : At S_67 x 2 := tAt_sI eS_67 ha_x
          refine r_putI (v := a2) X hw t_70 rfl 7 207 tyX2 (by decide) rfl inn_X2_seek_2 tyX2_ok nmX2 (by decide) (X.2.2.2.1 (.fieldLink RX2 37 "SilkMill$Mixer" "bestSet" "I") (by decide +kernel)) rfl (Or.inl rfl) rfl rfl (Nat.le_of_ble_eq_true rfl) (st_207 _ _) dX2_seek_40 (fun H locs hw => ?_)
          obtain ⟨S_71, eS_71⟩ : ∃ T, T = sI S_67 207 x (a2) := ⟨_, rfl⟩
          rw [← eS_71] at hw
          have hO_72 : Ok eMX S S_71 := hO_68.sI eS_71 (by decide +kernel) (uI_2_207 hO_68.1 t_70)
          have h_73 : pI S_71 207 x = a2 := tI_sIs eS_71
          exact ret_v X hw hr hlocks (Nat.le_of_ble_eq_true rfl) (Nat.le_of_ble_eq_true rfl) ⟨hO_72, trivial⟩ dX2_seek_43
    · have z_b_74 := trivial
      have k_75 : a4_z ≥ v_9.toInt := z_nlt hz_a4 rfl c_12
      exact ret_v X hw hr hlocks (Nat.le_of_ble_eq_true rfl) (Nat.le_of_ble_eq_true rfl) ⟨hO, trivial⟩ dX2_seek_17
set_option maxHeartbeats 4000000 in
set_option maxRecDepth 100000 in
theorem k_X2_seek_11 (l : Launch) (G : va_G) (cy : Nat → ClassId) (κ : Nat → Nat) (S : PS) (sz : Nat) (x : Nat) (a1 : Int32) (a1_z : Int) (a2 : Int32) (a2_z : Int) (a3 : Int32) (a3_z : Int) (a4 : Int32) (a4_z : Int) (hG : GX S) (ha_x : At S x 2) (hz_a1 : a1.toInt = a1_z) (hz_a2 : a2.toInt = a2_z) (hz_a3 : a3.toInt = a3_z) (hz_a4 : a4.toInt = a4_z) (hp_0 : 0 ≤ a1_z) (hp_1 : a1_z ≤ 14) (hp_2 : 14 ≤ a1_z + 11) : Cv l yX2_seek wsX2_seek ({ frames := 12, cells := 0, slots := 0, locals := 576 }) G cy κ S sz [.ref x, .int (a1), .int (a2), .int (a3), .int (a4)] (fun (S9 : PS) => Ok eMX S S9 ∧ (True)) := by
  refine ent_m (cc := cX2_seek) (maxL := 5) (ret := none) (by decide) rfl (Nat.le_of_ble_eq_true rfl) ?_
  intro p e s m below meth c ls X hr hlocks hin hw hl hsz
  subst hsz
  have X : Cx p c cX2_seek 5 s [.ref x, .int (a1), .int (a2), .int (a3), .int (a4)].toArray wsX2_seek RX2 m G cy κ (AS S s.heap.size) := X
  have hl : lv_has ls 5 [(0, .ref x), (1, .int (a1)), (2, .int (a2)), (3, .int (a3)), (4, .int (a4))] := hl
  have rg_a1 : (-2147483648) ≤ a1_z ∧ a1_z ≤ 2147483647 := by rw [← hz_a1]; exact ⟨z_lo _, z_hi _⟩
  have rg_a2 : (-2147483648) ≤ a2_z ∧ a2_z ≤ 2147483647 := by rw [← hz_a2]; exact ⟨z_lo _, z_hi _⟩
  have rg_a3 : (-2147483648) ≤ a3_z ∧ a3_z ≤ 2147483647 := by rw [← hz_a3]; exact ⟨z_lo _, z_hi _⟩
  have rg_a4 : (-2147483648) ≤ a4_z ∧ a4_z ≤ 2147483647 := by rw [← hz_a4]; exact ⟨z_lo _, z_hi _⟩
  have hO : Ok eMX S S := Ok.rf hG
  refine lv_iload_n X.1 X.2.1 dX2_seek_0 rfl (lv_at hl 3 rfl) ?_
  refine lv_aload_n X.1 X.2.1 dX2_seek_1 rfl (lv_at hl 0 rfl) ?_
  obtain ⟨v_1, ev_1⟩ : ∃ v, pI S 205 x = v := ⟨_, rfl⟩
  have rg_3 := And.intro (z_lo v_1) (z_hi v_1)
  refine r_getI (g := 205) (x := v_1) X hw ha_x rfl 5 ev_1 (by decide) rfl inn_X2_seek_2 (by decide) (X.2.2.2.1 (.fieldLink RX2 28 "SilkMill$Mixer" "wanted" "I") (by decide +kernel)) rfl (gv_205 _ _) dX2_seek_2 ?_
  refine lv_icmp_lt (tgt := 17) X.1 X.2.1 dX2_seek_5 (by decide) (fun c_4 => ?_) (fun c_4 => ?_)
  · have z_b_5 := trivial
    have k_6 : a3_z < v_1.toInt := z_lt hz_a3 rfl c_4
    exact ret_v X hw hr hlocks (Nat.le_of_ble_eq_true rfl) (Nat.le_of_ble_eq_true rfl) ⟨hO, trivial⟩ dX2_seek_17
  · have z_b_7 := trivial
    have k_8 : a3_z ≥ v_1.toInt := z_nlt hz_a3 rfl c_4
    refine lv_iload X.1 X.2.1 dX2_seek_8 (lv_at hl 4 rfl) ?_
    refine lv_aload_n X.1 X.2.1 dX2_seek_10 rfl (lv_at hl 0 rfl) ?_
    obtain ⟨v_9, ev_9⟩ : ∃ v, pI S 206 x = v := ⟨_, rfl⟩
    have rg_11 := And.intro (z_lo v_9) (z_hi v_9)
    refine r_getI (g := 206) (x := v_9) X hw ha_x rfl 6 ev_9 (by decide) rfl inn_X2_seek_2 (by decide) (X.2.2.2.1 (.fieldLink RX2 34 "SilkMill$Mixer" "bestPrice" "I") (by decide +kernel)) rfl (gv_206 _ _) dX2_seek_11 ?_
    refine lv_icmp_lt (tgt := 18) X.1 X.2.1 dX2_seek_14 (by decide) (fun c_12 => ?_) (fun c_12 => ?_)
    · have z_b_13 := trivial
      have k_14 : a4_z < v_9.toInt := z_lt hz_a4 rfl c_12
      refine lv_iload_n X.1 X.2.1 dX2_seek_18 rfl (lv_at hl 1 rfl) ?_
      refine lv_aload_n X.1 X.2.1 dX2_seek_19 rfl (lv_at hl 0 rfl) ?_
      obtain ⟨v_15, ev_15⟩ : ∃ v, pI S 203 x = v := ⟨_, rfl⟩
      have rg_16 := gI_2_203 hO.1 ha_x; rw [ev_15] at rg_16
      refine r_getI (g := 203) (x := v_15) X hw ha_x rfl 3 ev_15 (by decide) rfl inn_X2_seek_2 (by decide) (X.2.2.2.1 (.fieldLink RX2 21 "SilkMill$Mixer" "size" "I") (by decide +kernel)) rfl (gv_203 _ _) dX2_seek_20 ?_
      refine lv_icmp_ge (tgt := 32) X.1 X.2.1 dX2_seek_23 (by decide) (fun c_17 => ?_) (fun c_17 => ?_)
      · have z_b_18 := trivial
        have k_19 : a1_z ≥ v_15.toInt := z_le rfl hz_a1 c_17
        refine lv_aload_n X.1 X.2.1 dX2_seek_32 rfl (lv_at hl 0 rfl) ?_
        refine lv_iload X.1 X.2.1 dX2_seek_33 (lv_at hl 4 rfl) ?_
        refine r_putI (v := a4) X hw ha_x rfl 6 206 tyX2 (by decide) rfl inn_X2_seek_2 tyX2_ok nmX2 (by decide) (X.2.2.2.1 (.fieldLink RX2 34 "SilkMill$Mixer" "bestPrice" "I") (by decide +kernel)) rfl (Or.inl rfl) rfl rfl (Nat.le_of_ble_eq_true rfl) (st_206 _ _) dX2_seek_35 (fun H locs hw => ?_)
        obtain ⟨S_20, eS_20⟩ : ∃ T, T = sI S 206 x (a4) := ⟨_, rfl⟩
        rw [← eS_20] at hw
        have hO_21 : Ok eMX S S_20 := hO.sI eS_20 (by decide +kernel) (uI_2_206 hO.1 ha_x)
        have h_22 : pI S_20 206 x = a4 := tI_sIs eS_20
        refine lv_aload_n X.1 X.2.1 dX2_seek_38 rfl (lv_at hl 0 rfl) ?_
        refine lv_iload_n X.1 X.2.1 dX2_seek_39 rfl (lv_at hl 2 rfl) ?_
        have t_23 : At S_20 x 2 := tAt_sI eS_20 ha_x
        refine r_putI (v := a2) X hw t_23 rfl 7 207 tyX2 (by decide) rfl inn_X2_seek_2 tyX2_ok nmX2 (by decide) (X.2.2.2.1 (.fieldLink RX2 37 "SilkMill$Mixer" "bestSet" "I") (by decide +kernel)) rfl (Or.inl rfl) rfl rfl (Nat.le_of_ble_eq_true rfl) (st_207 _ _) dX2_seek_40 (fun H locs hw => ?_)
        obtain ⟨S_24, eS_24⟩ : ∃ T, T = sI S_20 207 x (a2) := ⟨_, rfl⟩
        rw [← eS_24] at hw
        have hO_25 : Ok eMX S S_24 := hO_21.sI eS_24 (by decide +kernel) (uI_2_207 hO_21.1 t_23)
        have h_26 : pI S_24 207 x = a2 := tI_sIs eS_24
        exact ret_v X hw hr hlocks (Nat.le_of_ble_eq_true rfl) (Nat.le_of_ble_eq_true rfl) ⟨hO_25, trivial⟩ dX2_seek_43
      · have z_b_27 := trivial
        have k_28 : a1_z < v_15.toInt := z_nle rfl hz_a1 c_17
        refine lv_iload_n X.1 X.2.1 dX2_seek_26 rfl (lv_at hl 1 rfl) ?_
        refine lv_bipush (v := 14) X.1 X.2.1 dX2_seek_27 (by decide) ?_
        refine lv_icmp_lt (tgt := 44) X.1 X.2.1 dX2_seek_29 (by decide) (fun c_29 => ?_) (fun c_29 => ?_)
        · have z_b_30 := trivial
          have k_31 : a1_z < 14 := z_lt hz_a1 ti_14 c_29
          refine lv_aload_n X.1 X.2.1 dX2_seek_44 rfl (lv_at hl 0 rfl) ?_
          refine lv_iload_n X.1 X.2.1 dX2_seek_45 rfl (lv_at hl 1 rfl) ?_
          refine lv_iconst (v := 1) X.1 X.2.1 dX2_seek_46 (by decide) ?_
          refine lv_iadd X.1 X.2.1 dX2_seek_47 ?_
          refine lv_topi (fun v_32 ev_32 => ?_)
          have z_33 : v_32.toInt = a1_z + 1 := z_add ev_32 hz_a1 ti_1 (by omega) (by omega)
          refine lv_iload_n X.1 X.2.1 dX2_seek_48 rfl (lv_at hl 2 rfl) ?_
          refine lv_iconst (v := 1) X.1 X.2.1 dX2_seek_49 (by decide) ?_
          refine lv_iload_n X.1 X.2.1 dX2_seek_50 rfl (lv_at hl 1 rfl) ?_
          refine lv_ishl X.1 X.2.1 dX2_seek_51 ?_
          refine lv_topi (fun v_34 ev_34 => ?_)
          have rg_35 := And.intro (z_lo v_34) (z_hi v_34)
          refine lv_ior X.1 X.2.1 dX2_seek_52 ?_
          refine lv_topi (fun v_36 ev_36 => ?_)
          have rg_37 := And.intro (z_lo v_36) (z_hi v_36)
          refine lv_iload_n X.1 X.2.1 dX2_seek_53 rfl (lv_at hl 3 rfl) ?_
          refine lv_iload X.1 X.2.1 dX2_seek_54 (lv_at hl 4 rfl) ?_
          refine lv_aload_n X.1 X.2.1 dX2_seek_56 rfl (lv_at hl 0 rfl) ?_
          obtain ⟨q_38, h_39, h_40, h_41⟩ := gQ_2_202 hO.1 ha_x
          refine r_getR (g := 202) X hw ha_x rfl 2 h_39 (by decide) rfl inn_X2_seek_2 (by decide) (X.2.2.2.1 (.fieldLink RX2 18 "SilkMill$Mixer" "prices" "[I") (by decide +kernel)) rfl (gv_202 _ _) dX2_seek_57 ?_
          refine lv_iload_n X.1 X.2.1 dX2_seek_60 rfl (lv_at hl 1 rfl) ?_
          refine r_iald X hw h_40 rfl (by rw [h_41]; exact z_ix hz_a1 (by omega) (by omega)) dX2_seek_61 ?_
          refine lv_topi (fun v_42 ev_42 => ?_)
          have rg_43 := And.intro (z_lo v_42) (z_hi v_42)
          have ev_42 := ev_42.symm
          refine lv_iadd X.1 X.2.1 dX2_seek_62 ?_
          refine lv_topi (fun v_44 ev_44 => ?_)
          have rg_45 := And.intro (z_lo v_44) (z_hi v_44)
          refine k_v (rm := { frames := 11, cells := 0, slots := 0, locals := 528 }) (av := [.ref x, .int (v_32), .int (v_36), .int (a3), .int (v_44)]) X hw (va_runS (As := [.ref x, .int (v_32), .int (v_36), .int (a3), .int (v_44)]) (rest := []) (cfix X) (k_X2_seek_10 l G cy κ S _ x (v_32) (v_32.toInt) (v_36) (v_36.toInt) (a3) (a3_z) (v_44) (v_44.toInt) hO.1 ha_x rfl rfl hz_a3 rfl (by omega) (by omega) (by omega)) (cwS 5 X.2.2.2.1 gX2_seek_X2_seek rfl rfl rfl (by decide +kernel) ⟨Nat.le_of_ble_eq_true rfl, Nat.le_of_ble_eq_true rfl⟩) (pre_S X hw _) rfl rfl hl.1 rfl (lv_room (Nat.le_of_ble_eq_true rfl)) dX2_seek_63 ⟨Nat.le_of_ble_eq_true rfl, Nat.le_of_ble_eq_true rfl⟩) 0 0 (Nat.le_of_ble_eq_true rfl) (Nat.le_of_ble_eq_true rfl) (fun S_47 H locs hp hw hfr hnw => ?_)
          obtain ⟨hk_48, hp⟩ := hp
          have hO_49 : Ok eMX S S_47 := hO.call hk_48 (by decide +kernel)
          refine lv_aload_n X.1 X.2.1 dX2_seek_66 rfl (lv_at hl 0 rfl) ?_
          refine lv_iload_n X.1 X.2.1 dX2_seek_67 rfl (lv_at hl 1 rfl) ?_
          refine lv_iconst (v := 1) X.1 X.2.1 dX2_seek_68 (by decide) ?_
          refine lv_iadd X.1 X.2.1 dX2_seek_69 ?_
          refine lv_topi (fun v_50 ev_50 => ?_)
          have z_51 : v_50.toInt = a1_z + 1 := z_add ev_50 hz_a1 ti_1 (by omega) (by omega)
          refine lv_iload_n X.1 X.2.1 dX2_seek_70 rfl (lv_at hl 2 rfl) ?_
          refine lv_iload_n X.1 X.2.1 dX2_seek_71 rfl (lv_at hl 3 rfl) ?_
          refine lv_aload_n X.1 X.2.1 dX2_seek_72 rfl (lv_at hl 0 rfl) ?_
          have t_52 : At S_47 x 2 := hk_48.fr.at ha_x
          obtain ⟨q_53, h_54, h_55, h_56⟩ := gQ_2_201 hO_49.1 t_52
          refine r_getR (g := 201) X hw t_52 rfl 1 h_54 (by decide) rfl inn_X2_seek_2 (by decide) (X.2.2.2.1 (.fieldLink RX2 15 "SilkMill$Mixer" "weights" "[I") (by decide +kernel)) rfl (gv_201 _ _) dX2_seek_73 ?_
          refine lv_iload_n X.1 X.2.1 dX2_seek_76 rfl (lv_at hl 1 rfl) ?_
          refine r_iald X hw h_55 rfl (by rw [h_56]; exact z_ix hz_a1 (by omega) (by omega)) dX2_seek_77 ?_
          refine lv_topi (fun v_57 ev_57 => ?_)
          have rg_58 := And.intro (z_lo v_57) (z_hi v_57)
          have ev_57 := ev_57.symm
          refine lv_isub X.1 X.2.1 dX2_seek_78 ?_
          refine lv_topi (fun v_59 ev_59 => ?_)
          have rg_60 := And.intro (z_lo v_59) (z_hi v_59)
          refine lv_iload X.1 X.2.1 dX2_seek_79 (lv_at hl 4 rfl) ?_
          refine k_v (rm := { frames := 11, cells := 0, slots := 0, locals := 528 }) (av := [.ref x, .int (v_50), .int (a2), .int (v_59), .int (a4)]) X hw (va_runS (As := [.ref x, .int (v_50), .int (a2), .int (v_59), .int (a4)]) (rest := []) (cfix X) (k_X2_seek_10 l G cy κ S_47 _ x (v_50) (v_50.toInt) (a2) (a2_z) (v_59) (v_59.toInt) (a4) (a4_z) hO_49.1 t_52 rfl hz_a2 rfl hz_a4 (by omega) (by omega) (by omega)) (cwS 5 X.2.2.2.1 gX2_seek_X2_seek rfl rfl rfl (by decide +kernel) ⟨Nat.le_of_ble_eq_true rfl, Nat.le_of_ble_eq_true rfl⟩) (pre_S X hw _) rfl rfl hl.1 rfl (lv_room (Nat.le_of_ble_eq_true rfl)) dX2_seek_81 ⟨Nat.le_of_ble_eq_true rfl, Nat.le_of_ble_eq_true rfl⟩) 0 0 (Nat.le_of_ble_eq_true rfl) (Nat.le_of_ble_eq_true rfl) (fun S_62 H locs hp hw hfr hnw => ?_)
          obtain ⟨hk_63, hp⟩ := hp
          have hO_64 : Ok eMX S S_62 := hO_49.call hk_63 (by decide +kernel)
          exact ret_v X hw hr hlocks (Nat.le_of_ble_eq_true rfl) (Nat.le_of_ble_eq_true rfl) ⟨hO_64, trivial⟩ dX2_seek_84
        · have z_b_65 := trivial
          have k_66 : a1_z ≥ 14 := z_nlt hz_a1 ti_14 c_29
          refine lv_aload_n X.1 X.2.1 dX2_seek_32 rfl (lv_at hl 0 rfl) ?_
          refine lv_iload X.1 X.2.1 dX2_seek_33 (lv_at hl 4 rfl) ?_
          refine r_putI (v := a4) X hw ha_x rfl 6 206 tyX2 (by decide) rfl inn_X2_seek_2 tyX2_ok nmX2 (by decide) (X.2.2.2.1 (.fieldLink RX2 34 "SilkMill$Mixer" "bestPrice" "I") (by decide +kernel)) rfl (Or.inl rfl) rfl rfl (Nat.le_of_ble_eq_true rfl) (st_206 _ _) dX2_seek_35 (fun H locs hw => ?_)
          obtain ⟨S_67, eS_67⟩ : ∃ T, T = sI S 206 x (a4) := ⟨_, rfl⟩
          rw [← eS_67] at hw
          have hO_68 : Ok eMX S S_67 := hO.sI eS_67 (by decide +kernel) (uI_2_206 hO.1 ha_x)
          have h_69 : pI S_67 206 x = a4 := tI_sIs eS_67
          refine lv_aload_n X.1 X.2.1 dX2_seek_38 rfl (lv_at hl 0 rfl) ?_
          refine lv_iload_n X.1 X.2.1 dX2_seek_39 rfl (lv_at hl 2 rfl) ?_
          have t_70 : At S_67 x 2 := tAt_sI eS_67 ha_x
          refine r_putI (v := a2) X hw t_70 rfl 7 207 tyX2 (by decide) rfl inn_X2_seek_2 tyX2_ok nmX2 (by decide) (X.2.2.2.1 (.fieldLink RX2 37 "SilkMill$Mixer" "bestSet" "I") (by decide +kernel)) rfl (Or.inl rfl) rfl rfl (Nat.le_of_ble_eq_true rfl) (st_207 _ _) dX2_seek_40 (fun H locs hw => ?_)
          obtain ⟨S_71, eS_71⟩ : ∃ T, T = sI S_67 207 x (a2) := ⟨_, rfl⟩
          rw [← eS_71] at hw
          have hO_72 : Ok eMX S S_71 := hO_68.sI eS_71 (by decide +kernel) (uI_2_207 hO_68.1 t_70)
          have h_73 : pI S_71 207 x = a2 := tI_sIs eS_71
          exact ret_v X hw hr hlocks (Nat.le_of_ble_eq_true rfl) (Nat.le_of_ble_eq_true rfl) ⟨hO_72, trivial⟩ dX2_seek_43
    · have z_b_74 := trivial
      have k_75 : a4_z ≥ v_9.toInt := z_nlt hz_a4 rfl c_12
      exact ret_v X hw hr hlocks (Nat.le_of_ble_eq_true rfl) (Nat.le_of_ble_eq_true rfl) ⟨hO, trivial⟩ dX2_seek_17
set_option maxHeartbeats 4000000 in
set_option maxRecDepth 100000 in
theorem k_X2_seek_12 (l : Launch) (G : va_G) (cy : Nat → ClassId) (κ : Nat → Nat) (S : PS) (sz : Nat) (x : Nat) (a1 : Int32) (a1_z : Int) (a2 : Int32) (a2_z : Int) (a3 : Int32) (a3_z : Int) (a4 : Int32) (a4_z : Int) (hG : GX S) (ha_x : At S x 2) (hz_a1 : a1.toInt = a1_z) (hz_a2 : a2.toInt = a2_z) (hz_a3 : a3.toInt = a3_z) (hz_a4 : a4.toInt = a4_z) (hp_0 : 0 ≤ a1_z) (hp_1 : a1_z ≤ 14) (hp_2 : 14 ≤ a1_z + 12) : Cv l yX2_seek wsX2_seek ({ frames := 13, cells := 0, slots := 0, locals := 624 }) G cy κ S sz [.ref x, .int (a1), .int (a2), .int (a3), .int (a4)] (fun (S9 : PS) => Ok eMX S S9 ∧ (True)) := by
  refine ent_m (cc := cX2_seek) (maxL := 5) (ret := none) (by decide) rfl (Nat.le_of_ble_eq_true rfl) ?_
  intro p e s m below meth c ls X hr hlocks hin hw hl hsz
  subst hsz
  have X : Cx p c cX2_seek 5 s [.ref x, .int (a1), .int (a2), .int (a3), .int (a4)].toArray wsX2_seek RX2 m G cy κ (AS S s.heap.size) := X
  have hl : lv_has ls 5 [(0, .ref x), (1, .int (a1)), (2, .int (a2)), (3, .int (a3)), (4, .int (a4))] := hl
  have rg_a1 : (-2147483648) ≤ a1_z ∧ a1_z ≤ 2147483647 := by rw [← hz_a1]; exact ⟨z_lo _, z_hi _⟩
  have rg_a2 : (-2147483648) ≤ a2_z ∧ a2_z ≤ 2147483647 := by rw [← hz_a2]; exact ⟨z_lo _, z_hi _⟩
  have rg_a3 : (-2147483648) ≤ a3_z ∧ a3_z ≤ 2147483647 := by rw [← hz_a3]; exact ⟨z_lo _, z_hi _⟩
  have rg_a4 : (-2147483648) ≤ a4_z ∧ a4_z ≤ 2147483647 := by rw [← hz_a4]; exact ⟨z_lo _, z_hi _⟩
  have hO : Ok eMX S S := Ok.rf hG
  refine lv_iload_n X.1 X.2.1 dX2_seek_0 rfl (lv_at hl 3 rfl) ?_
  refine lv_aload_n X.1 X.2.1 dX2_seek_1 rfl (lv_at hl 0 rfl) ?_
  obtain ⟨v_1, ev_1⟩ : ∃ v, pI S 205 x = v := ⟨_, rfl⟩
  have rg_3 := And.intro (z_lo v_1) (z_hi v_1)
  refine r_getI (g := 205) (x := v_1) X hw ha_x rfl 5 ev_1 (by decide) rfl inn_X2_seek_2 (by decide) (X.2.2.2.1 (.fieldLink RX2 28 "SilkMill$Mixer" "wanted" "I") (by decide +kernel)) rfl (gv_205 _ _) dX2_seek_2 ?_
  refine lv_icmp_lt (tgt := 17) X.1 X.2.1 dX2_seek_5 (by decide) (fun c_4 => ?_) (fun c_4 => ?_)
  · have z_b_5 := trivial
    have k_6 : a3_z < v_1.toInt := z_lt hz_a3 rfl c_4
    exact ret_v X hw hr hlocks (Nat.le_of_ble_eq_true rfl) (Nat.le_of_ble_eq_true rfl) ⟨hO, trivial⟩ dX2_seek_17
  · have z_b_7 := trivial
    have k_8 : a3_z ≥ v_1.toInt := z_nlt hz_a3 rfl c_4
    refine lv_iload X.1 X.2.1 dX2_seek_8 (lv_at hl 4 rfl) ?_
    refine lv_aload_n X.1 X.2.1 dX2_seek_10 rfl (lv_at hl 0 rfl) ?_
    obtain ⟨v_9, ev_9⟩ : ∃ v, pI S 206 x = v := ⟨_, rfl⟩
    have rg_11 := And.intro (z_lo v_9) (z_hi v_9)
    refine r_getI (g := 206) (x := v_9) X hw ha_x rfl 6 ev_9 (by decide) rfl inn_X2_seek_2 (by decide) (X.2.2.2.1 (.fieldLink RX2 34 "SilkMill$Mixer" "bestPrice" "I") (by decide +kernel)) rfl (gv_206 _ _) dX2_seek_11 ?_
    refine lv_icmp_lt (tgt := 18) X.1 X.2.1 dX2_seek_14 (by decide) (fun c_12 => ?_) (fun c_12 => ?_)
    · have z_b_13 := trivial
      have k_14 : a4_z < v_9.toInt := z_lt hz_a4 rfl c_12
      refine lv_iload_n X.1 X.2.1 dX2_seek_18 rfl (lv_at hl 1 rfl) ?_
      refine lv_aload_n X.1 X.2.1 dX2_seek_19 rfl (lv_at hl 0 rfl) ?_
      obtain ⟨v_15, ev_15⟩ : ∃ v, pI S 203 x = v := ⟨_, rfl⟩
      have rg_16 := gI_2_203 hO.1 ha_x; rw [ev_15] at rg_16
      refine r_getI (g := 203) (x := v_15) X hw ha_x rfl 3 ev_15 (by decide) rfl inn_X2_seek_2 (by decide) (X.2.2.2.1 (.fieldLink RX2 21 "SilkMill$Mixer" "size" "I") (by decide +kernel)) rfl (gv_203 _ _) dX2_seek_20 ?_
      refine lv_icmp_ge (tgt := 32) X.1 X.2.1 dX2_seek_23 (by decide) (fun c_17 => ?_) (fun c_17 => ?_)
      · have z_b_18 := trivial
        have k_19 : a1_z ≥ v_15.toInt := z_le rfl hz_a1 c_17
        refine lv_aload_n X.1 X.2.1 dX2_seek_32 rfl (lv_at hl 0 rfl) ?_
        refine lv_iload X.1 X.2.1 dX2_seek_33 (lv_at hl 4 rfl) ?_
        refine r_putI (v := a4) X hw ha_x rfl 6 206 tyX2 (by decide) rfl inn_X2_seek_2 tyX2_ok nmX2 (by decide) (X.2.2.2.1 (.fieldLink RX2 34 "SilkMill$Mixer" "bestPrice" "I") (by decide +kernel)) rfl (Or.inl rfl) rfl rfl (Nat.le_of_ble_eq_true rfl) (st_206 _ _) dX2_seek_35 (fun H locs hw => ?_)
        obtain ⟨S_20, eS_20⟩ : ∃ T, T = sI S 206 x (a4) := ⟨_, rfl⟩
        rw [← eS_20] at hw
        have hO_21 : Ok eMX S S_20 := hO.sI eS_20 (by decide +kernel) (uI_2_206 hO.1 ha_x)
        have h_22 : pI S_20 206 x = a4 := tI_sIs eS_20
        refine lv_aload_n X.1 X.2.1 dX2_seek_38 rfl (lv_at hl 0 rfl) ?_
        refine lv_iload_n X.1 X.2.1 dX2_seek_39 rfl (lv_at hl 2 rfl) ?_
        have t_23 : At S_20 x 2 := tAt_sI eS_20 ha_x
        refine r_putI (v := a2) X hw t_23 rfl 7 207 tyX2 (by decide) rfl inn_X2_seek_2 tyX2_ok nmX2 (by decide) (X.2.2.2.1 (.fieldLink RX2 37 "SilkMill$Mixer" "bestSet" "I") (by decide +kernel)) rfl (Or.inl rfl) rfl rfl (Nat.le_of_ble_eq_true rfl) (st_207 _ _) dX2_seek_40 (fun H locs hw => ?_)
        obtain ⟨S_24, eS_24⟩ : ∃ T, T = sI S_20 207 x (a2) := ⟨_, rfl⟩
        rw [← eS_24] at hw
        have hO_25 : Ok eMX S S_24 := hO_21.sI eS_24 (by decide +kernel) (uI_2_207 hO_21.1 t_23)
        have h_26 : pI S_24 207 x = a2 := tI_sIs eS_24
        exact ret_v X hw hr hlocks (Nat.le_of_ble_eq_true rfl) (Nat.le_of_ble_eq_true rfl) ⟨hO_25, trivial⟩ dX2_seek_43
      · have z_b_27 := trivial
        have k_28 : a1_z < v_15.toInt := z_nle rfl hz_a1 c_17
        refine lv_iload_n X.1 X.2.1 dX2_seek_26 rfl (lv_at hl 1 rfl) ?_
        refine lv_bipush (v := 14) X.1 X.2.1 dX2_seek_27 (by decide) ?_
        refine lv_icmp_lt (tgt := 44) X.1 X.2.1 dX2_seek_29 (by decide) (fun c_29 => ?_) (fun c_29 => ?_)
        · have z_b_30 := trivial
          have k_31 : a1_z < 14 := z_lt hz_a1 ti_14 c_29
          refine lv_aload_n X.1 X.2.1 dX2_seek_44 rfl (lv_at hl 0 rfl) ?_
          refine lv_iload_n X.1 X.2.1 dX2_seek_45 rfl (lv_at hl 1 rfl) ?_
          refine lv_iconst (v := 1) X.1 X.2.1 dX2_seek_46 (by decide) ?_
          refine lv_iadd X.1 X.2.1 dX2_seek_47 ?_
          refine lv_topi (fun v_32 ev_32 => ?_)
          have z_33 : v_32.toInt = a1_z + 1 := z_add ev_32 hz_a1 ti_1 (by omega) (by omega)
          refine lv_iload_n X.1 X.2.1 dX2_seek_48 rfl (lv_at hl 2 rfl) ?_
          refine lv_iconst (v := 1) X.1 X.2.1 dX2_seek_49 (by decide) ?_
          refine lv_iload_n X.1 X.2.1 dX2_seek_50 rfl (lv_at hl 1 rfl) ?_
          refine lv_ishl X.1 X.2.1 dX2_seek_51 ?_
          refine lv_topi (fun v_34 ev_34 => ?_)
          have rg_35 := And.intro (z_lo v_34) (z_hi v_34)
          refine lv_ior X.1 X.2.1 dX2_seek_52 ?_
          refine lv_topi (fun v_36 ev_36 => ?_)
          have rg_37 := And.intro (z_lo v_36) (z_hi v_36)
          refine lv_iload_n X.1 X.2.1 dX2_seek_53 rfl (lv_at hl 3 rfl) ?_
          refine lv_iload X.1 X.2.1 dX2_seek_54 (lv_at hl 4 rfl) ?_
          refine lv_aload_n X.1 X.2.1 dX2_seek_56 rfl (lv_at hl 0 rfl) ?_
          obtain ⟨q_38, h_39, h_40, h_41⟩ := gQ_2_202 hO.1 ha_x
          refine r_getR (g := 202) X hw ha_x rfl 2 h_39 (by decide) rfl inn_X2_seek_2 (by decide) (X.2.2.2.1 (.fieldLink RX2 18 "SilkMill$Mixer" "prices" "[I") (by decide +kernel)) rfl (gv_202 _ _) dX2_seek_57 ?_
          refine lv_iload_n X.1 X.2.1 dX2_seek_60 rfl (lv_at hl 1 rfl) ?_
          refine r_iald X hw h_40 rfl (by rw [h_41]; exact z_ix hz_a1 (by omega) (by omega)) dX2_seek_61 ?_
          refine lv_topi (fun v_42 ev_42 => ?_)
          have rg_43 := And.intro (z_lo v_42) (z_hi v_42)
          have ev_42 := ev_42.symm
          refine lv_iadd X.1 X.2.1 dX2_seek_62 ?_
          refine lv_topi (fun v_44 ev_44 => ?_)
          have rg_45 := And.intro (z_lo v_44) (z_hi v_44)
          refine k_v (rm := { frames := 12, cells := 0, slots := 0, locals := 576 }) (av := [.ref x, .int (v_32), .int (v_36), .int (a3), .int (v_44)]) X hw (va_runS (As := [.ref x, .int (v_32), .int (v_36), .int (a3), .int (v_44)]) (rest := []) (cfix X) (k_X2_seek_11 l G cy κ S _ x (v_32) (v_32.toInt) (v_36) (v_36.toInt) (a3) (a3_z) (v_44) (v_44.toInt) hO.1 ha_x rfl rfl hz_a3 rfl (by omega) (by omega) (by omega)) (cwS 5 X.2.2.2.1 gX2_seek_X2_seek rfl rfl rfl (by decide +kernel) ⟨Nat.le_of_ble_eq_true rfl, Nat.le_of_ble_eq_true rfl⟩) (pre_S X hw _) rfl rfl hl.1 rfl (lv_room (Nat.le_of_ble_eq_true rfl)) dX2_seek_63 ⟨Nat.le_of_ble_eq_true rfl, Nat.le_of_ble_eq_true rfl⟩) 0 0 (Nat.le_of_ble_eq_true rfl) (Nat.le_of_ble_eq_true rfl) (fun S_47 H locs hp hw hfr hnw => ?_)
          obtain ⟨hk_48, hp⟩ := hp
          have hO_49 : Ok eMX S S_47 := hO.call hk_48 (by decide +kernel)
          refine lv_aload_n X.1 X.2.1 dX2_seek_66 rfl (lv_at hl 0 rfl) ?_
          refine lv_iload_n X.1 X.2.1 dX2_seek_67 rfl (lv_at hl 1 rfl) ?_
          refine lv_iconst (v := 1) X.1 X.2.1 dX2_seek_68 (by decide) ?_
          refine lv_iadd X.1 X.2.1 dX2_seek_69 ?_
          refine lv_topi (fun v_50 ev_50 => ?_)
          have z_51 : v_50.toInt = a1_z + 1 := z_add ev_50 hz_a1 ti_1 (by omega) (by omega)
          refine lv_iload_n X.1 X.2.1 dX2_seek_70 rfl (lv_at hl 2 rfl) ?_
          refine lv_iload_n X.1 X.2.1 dX2_seek_71 rfl (lv_at hl 3 rfl) ?_
          refine lv_aload_n X.1 X.2.1 dX2_seek_72 rfl (lv_at hl 0 rfl) ?_
          have t_52 : At S_47 x 2 := hk_48.fr.at ha_x
          obtain ⟨q_53, h_54, h_55, h_56⟩ := gQ_2_201 hO_49.1 t_52
          refine r_getR (g := 201) X hw t_52 rfl 1 h_54 (by decide) rfl inn_X2_seek_2 (by decide) (X.2.2.2.1 (.fieldLink RX2 15 "SilkMill$Mixer" "weights" "[I") (by decide +kernel)) rfl (gv_201 _ _) dX2_seek_73 ?_
          refine lv_iload_n X.1 X.2.1 dX2_seek_76 rfl (lv_at hl 1 rfl) ?_
          refine r_iald X hw h_55 rfl (by rw [h_56]; exact z_ix hz_a1 (by omega) (by omega)) dX2_seek_77 ?_
          refine lv_topi (fun v_57 ev_57 => ?_)
          have rg_58 := And.intro (z_lo v_57) (z_hi v_57)
          have ev_57 := ev_57.symm
          refine lv_isub X.1 X.2.1 dX2_seek_78 ?_
          refine lv_topi (fun v_59 ev_59 => ?_)
          have rg_60 := And.intro (z_lo v_59) (z_hi v_59)
          refine lv_iload X.1 X.2.1 dX2_seek_79 (lv_at hl 4 rfl) ?_
          refine k_v (rm := { frames := 12, cells := 0, slots := 0, locals := 576 }) (av := [.ref x, .int (v_50), .int (a2), .int (v_59), .int (a4)]) X hw (va_runS (As := [.ref x, .int (v_50), .int (a2), .int (v_59), .int (a4)]) (rest := []) (cfix X) (k_X2_seek_11 l G cy κ S_47 _ x (v_50) (v_50.toInt) (a2) (a2_z) (v_59) (v_59.toInt) (a4) (a4_z) hO_49.1 t_52 rfl hz_a2 rfl hz_a4 (by omega) (by omega) (by omega)) (cwS 5 X.2.2.2.1 gX2_seek_X2_seek rfl rfl rfl (by decide +kernel) ⟨Nat.le_of_ble_eq_true rfl, Nat.le_of_ble_eq_true rfl⟩) (pre_S X hw _) rfl rfl hl.1 rfl (lv_room (Nat.le_of_ble_eq_true rfl)) dX2_seek_81 ⟨Nat.le_of_ble_eq_true rfl, Nat.le_of_ble_eq_true rfl⟩) 0 0 (Nat.le_of_ble_eq_true rfl) (Nat.le_of_ble_eq_true rfl) (fun S_62 H locs hp hw hfr hnw => ?_)
          obtain ⟨hk_63, hp⟩ := hp
          have hO_64 : Ok eMX S S_62 := hO_49.call hk_63 (by decide +kernel)
          exact ret_v X hw hr hlocks (Nat.le_of_ble_eq_true rfl) (Nat.le_of_ble_eq_true rfl) ⟨hO_64, trivial⟩ dX2_seek_84
        · have z_b_65 := trivial
          have k_66 : a1_z ≥ 14 := z_nlt hz_a1 ti_14 c_29
          refine lv_aload_n X.1 X.2.1 dX2_seek_32 rfl (lv_at hl 0 rfl) ?_
          refine lv_iload X.1 X.2.1 dX2_seek_33 (lv_at hl 4 rfl) ?_
          refine r_putI (v := a4) X hw ha_x rfl 6 206 tyX2 (by decide) rfl inn_X2_seek_2 tyX2_ok nmX2 (by decide) (X.2.2.2.1 (.fieldLink RX2 34 "SilkMill$Mixer" "bestPrice" "I") (by decide +kernel)) rfl (Or.inl rfl) rfl rfl (Nat.le_of_ble_eq_true rfl) (st_206 _ _) dX2_seek_35 (fun H locs hw => ?_)
          obtain ⟨S_67, eS_67⟩ : ∃ T, T = sI S 206 x (a4) := ⟨_, rfl⟩
          rw [← eS_67] at hw
          have hO_68 : Ok eMX S S_67 := hO.sI eS_67 (by decide +kernel) (uI_2_206 hO.1 ha_x)
          have h_69 : pI S_67 206 x = a4 := tI_sIs eS_67
          refine lv_aload_n X.1 X.2.1 dX2_seek_38 rfl (lv_at hl 0 rfl) ?_
          refine lv_iload_n X.1 X.2.1 dX2_seek_39 rfl (lv_at hl 2 rfl) ?_
          have t_70 : At S_67 x 2 := tAt_sI eS_67 ha_x
          refine r_putI (v := a2) X hw t_70 rfl 7 207 tyX2 (by decide) rfl inn_X2_seek_2 tyX2_ok nmX2 (by decide) (X.2.2.2.1 (.fieldLink RX2 37 "SilkMill$Mixer" "bestSet" "I") (by decide +kernel)) rfl (Or.inl rfl) rfl rfl (Nat.le_of_ble_eq_true rfl) (st_207 _ _) dX2_seek_40 (fun H locs hw => ?_)
          obtain ⟨S_71, eS_71⟩ : ∃ T, T = sI S_67 207 x (a2) := ⟨_, rfl⟩
          rw [← eS_71] at hw
          have hO_72 : Ok eMX S S_71 := hO_68.sI eS_71 (by decide +kernel) (uI_2_207 hO_68.1 t_70)
          have h_73 : pI S_71 207 x = a2 := tI_sIs eS_71
          exact ret_v X hw hr hlocks (Nat.le_of_ble_eq_true rfl) (Nat.le_of_ble_eq_true rfl) ⟨hO_72, trivial⟩ dX2_seek_43
    · have z_b_74 := trivial
      have k_75 : a4_z ≥ v_9.toInt := z_nlt hz_a4 rfl c_12
      exact ret_v X hw hr hlocks (Nat.le_of_ble_eq_true rfl) (Nat.le_of_ble_eq_true rfl) ⟨hO, trivial⟩ dX2_seek_17
set_option maxHeartbeats 4000000 in
set_option maxRecDepth 100000 in
theorem k_X2_seek_13 (l : Launch) (G : va_G) (cy : Nat → ClassId) (κ : Nat → Nat) (S : PS) (sz : Nat) (x : Nat) (a1 : Int32) (a1_z : Int) (a2 : Int32) (a2_z : Int) (a3 : Int32) (a3_z : Int) (a4 : Int32) (a4_z : Int) (hG : GX S) (ha_x : At S x 2) (hz_a1 : a1.toInt = a1_z) (hz_a2 : a2.toInt = a2_z) (hz_a3 : a3.toInt = a3_z) (hz_a4 : a4.toInt = a4_z) (hp_0 : 0 ≤ a1_z) (hp_1 : a1_z ≤ 14) (hp_2 : 14 ≤ a1_z + 13) : Cv l yX2_seek wsX2_seek ({ frames := 14, cells := 0, slots := 0, locals := 672 }) G cy κ S sz [.ref x, .int (a1), .int (a2), .int (a3), .int (a4)] (fun (S9 : PS) => Ok eMX S S9 ∧ (True)) := by
  refine ent_m (cc := cX2_seek) (maxL := 5) (ret := none) (by decide) rfl (Nat.le_of_ble_eq_true rfl) ?_
  intro p e s m below meth c ls X hr hlocks hin hw hl hsz
  subst hsz
  have X : Cx p c cX2_seek 5 s [.ref x, .int (a1), .int (a2), .int (a3), .int (a4)].toArray wsX2_seek RX2 m G cy κ (AS S s.heap.size) := X
  have hl : lv_has ls 5 [(0, .ref x), (1, .int (a1)), (2, .int (a2)), (3, .int (a3)), (4, .int (a4))] := hl
  have rg_a1 : (-2147483648) ≤ a1_z ∧ a1_z ≤ 2147483647 := by rw [← hz_a1]; exact ⟨z_lo _, z_hi _⟩
  have rg_a2 : (-2147483648) ≤ a2_z ∧ a2_z ≤ 2147483647 := by rw [← hz_a2]; exact ⟨z_lo _, z_hi _⟩
  have rg_a3 : (-2147483648) ≤ a3_z ∧ a3_z ≤ 2147483647 := by rw [← hz_a3]; exact ⟨z_lo _, z_hi _⟩
  have rg_a4 : (-2147483648) ≤ a4_z ∧ a4_z ≤ 2147483647 := by rw [← hz_a4]; exact ⟨z_lo _, z_hi _⟩
  have hO : Ok eMX S S := Ok.rf hG
  refine lv_iload_n X.1 X.2.1 dX2_seek_0 rfl (lv_at hl 3 rfl) ?_
  refine lv_aload_n X.1 X.2.1 dX2_seek_1 rfl (lv_at hl 0 rfl) ?_
  obtain ⟨v_1, ev_1⟩ : ∃ v, pI S 205 x = v := ⟨_, rfl⟩
  have rg_3 := And.intro (z_lo v_1) (z_hi v_1)
  refine r_getI (g := 205) (x := v_1) X hw ha_x rfl 5 ev_1 (by decide) rfl inn_X2_seek_2 (by decide) (X.2.2.2.1 (.fieldLink RX2 28 "SilkMill$Mixer" "wanted" "I") (by decide +kernel)) rfl (gv_205 _ _) dX2_seek_2 ?_
  refine lv_icmp_lt (tgt := 17) X.1 X.2.1 dX2_seek_5 (by decide) (fun c_4 => ?_) (fun c_4 => ?_)
  · have z_b_5 := trivial
    have k_6 : a3_z < v_1.toInt := z_lt hz_a3 rfl c_4
    exact ret_v X hw hr hlocks (Nat.le_of_ble_eq_true rfl) (Nat.le_of_ble_eq_true rfl) ⟨hO, trivial⟩ dX2_seek_17
  · have z_b_7 := trivial
    have k_8 : a3_z ≥ v_1.toInt := z_nlt hz_a3 rfl c_4
    refine lv_iload X.1 X.2.1 dX2_seek_8 (lv_at hl 4 rfl) ?_
    refine lv_aload_n X.1 X.2.1 dX2_seek_10 rfl (lv_at hl 0 rfl) ?_
    obtain ⟨v_9, ev_9⟩ : ∃ v, pI S 206 x = v := ⟨_, rfl⟩
    have rg_11 := And.intro (z_lo v_9) (z_hi v_9)
    refine r_getI (g := 206) (x := v_9) X hw ha_x rfl 6 ev_9 (by decide) rfl inn_X2_seek_2 (by decide) (X.2.2.2.1 (.fieldLink RX2 34 "SilkMill$Mixer" "bestPrice" "I") (by decide +kernel)) rfl (gv_206 _ _) dX2_seek_11 ?_
    refine lv_icmp_lt (tgt := 18) X.1 X.2.1 dX2_seek_14 (by decide) (fun c_12 => ?_) (fun c_12 => ?_)
    · have z_b_13 := trivial
      have k_14 : a4_z < v_9.toInt := z_lt hz_a4 rfl c_12
      refine lv_iload_n X.1 X.2.1 dX2_seek_18 rfl (lv_at hl 1 rfl) ?_
      refine lv_aload_n X.1 X.2.1 dX2_seek_19 rfl (lv_at hl 0 rfl) ?_
      obtain ⟨v_15, ev_15⟩ : ∃ v, pI S 203 x = v := ⟨_, rfl⟩
      have rg_16 := gI_2_203 hO.1 ha_x; rw [ev_15] at rg_16
      refine r_getI (g := 203) (x := v_15) X hw ha_x rfl 3 ev_15 (by decide) rfl inn_X2_seek_2 (by decide) (X.2.2.2.1 (.fieldLink RX2 21 "SilkMill$Mixer" "size" "I") (by decide +kernel)) rfl (gv_203 _ _) dX2_seek_20 ?_
      refine lv_icmp_ge (tgt := 32) X.1 X.2.1 dX2_seek_23 (by decide) (fun c_17 => ?_) (fun c_17 => ?_)
      · have z_b_18 := trivial
        have k_19 : a1_z ≥ v_15.toInt := z_le rfl hz_a1 c_17
        refine lv_aload_n X.1 X.2.1 dX2_seek_32 rfl (lv_at hl 0 rfl) ?_
        refine lv_iload X.1 X.2.1 dX2_seek_33 (lv_at hl 4 rfl) ?_
        refine r_putI (v := a4) X hw ha_x rfl 6 206 tyX2 (by decide) rfl inn_X2_seek_2 tyX2_ok nmX2 (by decide) (X.2.2.2.1 (.fieldLink RX2 34 "SilkMill$Mixer" "bestPrice" "I") (by decide +kernel)) rfl (Or.inl rfl) rfl rfl (Nat.le_of_ble_eq_true rfl) (st_206 _ _) dX2_seek_35 (fun H locs hw => ?_)
        obtain ⟨S_20, eS_20⟩ : ∃ T, T = sI S 206 x (a4) := ⟨_, rfl⟩
        rw [← eS_20] at hw
        have hO_21 : Ok eMX S S_20 := hO.sI eS_20 (by decide +kernel) (uI_2_206 hO.1 ha_x)
        have h_22 : pI S_20 206 x = a4 := tI_sIs eS_20
        refine lv_aload_n X.1 X.2.1 dX2_seek_38 rfl (lv_at hl 0 rfl) ?_
        refine lv_iload_n X.1 X.2.1 dX2_seek_39 rfl (lv_at hl 2 rfl) ?_
        have t_23 : At S_20 x 2 := tAt_sI eS_20 ha_x
        refine r_putI (v := a2) X hw t_23 rfl 7 207 tyX2 (by decide) rfl inn_X2_seek_2 tyX2_ok nmX2 (by decide) (X.2.2.2.1 (.fieldLink RX2 37 "SilkMill$Mixer" "bestSet" "I") (by decide +kernel)) rfl (Or.inl rfl) rfl rfl (Nat.le_of_ble_eq_true rfl) (st_207 _ _) dX2_seek_40 (fun H locs hw => ?_)
        obtain ⟨S_24, eS_24⟩ : ∃ T, T = sI S_20 207 x (a2) := ⟨_, rfl⟩
        rw [← eS_24] at hw
        have hO_25 : Ok eMX S S_24 := hO_21.sI eS_24 (by decide +kernel) (uI_2_207 hO_21.1 t_23)
        have h_26 : pI S_24 207 x = a2 := tI_sIs eS_24
        exact ret_v X hw hr hlocks (Nat.le_of_ble_eq_true rfl) (Nat.le_of_ble_eq_true rfl) ⟨hO_25, trivial⟩ dX2_seek_43
      · have z_b_27 := trivial
        have k_28 : a1_z < v_15.toInt := z_nle rfl hz_a1 c_17
        refine lv_iload_n X.1 X.2.1 dX2_seek_26 rfl (lv_at hl 1 rfl) ?_
        refine lv_bipush (v := 14) X.1 X.2.1 dX2_seek_27 (by decide) ?_
        refine lv_icmp_lt (tgt := 44) X.1 X.2.1 dX2_seek_29 (by decide) (fun c_29 => ?_) (fun c_29 => ?_)
        · have z_b_30 := trivial
          have k_31 : a1_z < 14 := z_lt hz_a1 ti_14 c_29
          refine lv_aload_n X.1 X.2.1 dX2_seek_44 rfl (lv_at hl 0 rfl) ?_
          refine lv_iload_n X.1 X.2.1 dX2_seek_45 rfl (lv_at hl 1 rfl) ?_
          refine lv_iconst (v := 1) X.1 X.2.1 dX2_seek_46 (by decide) ?_
          refine lv_iadd X.1 X.2.1 dX2_seek_47 ?_
          refine lv_topi (fun v_32 ev_32 => ?_)
          have z_33 : v_32.toInt = a1_z + 1 := z_add ev_32 hz_a1 ti_1 (by omega) (by omega)
          refine lv_iload_n X.1 X.2.1 dX2_seek_48 rfl (lv_at hl 2 rfl) ?_
          refine lv_iconst (v := 1) X.1 X.2.1 dX2_seek_49 (by decide) ?_
          refine lv_iload_n X.1 X.2.1 dX2_seek_50 rfl (lv_at hl 1 rfl) ?_
          refine lv_ishl X.1 X.2.1 dX2_seek_51 ?_
          refine lv_topi (fun v_34 ev_34 => ?_)
          have rg_35 := And.intro (z_lo v_34) (z_hi v_34)
          refine lv_ior X.1 X.2.1 dX2_seek_52 ?_
          refine lv_topi (fun v_36 ev_36 => ?_)
          have rg_37 := And.intro (z_lo v_36) (z_hi v_36)
          refine lv_iload_n X.1 X.2.1 dX2_seek_53 rfl (lv_at hl 3 rfl) ?_
          refine lv_iload X.1 X.2.1 dX2_seek_54 (lv_at hl 4 rfl) ?_
          refine lv_aload_n X.1 X.2.1 dX2_seek_56 rfl (lv_at hl 0 rfl) ?_
          obtain ⟨q_38, h_39, h_40, h_41⟩ := gQ_2_202 hO.1 ha_x
          refine r_getR (g := 202) X hw ha_x rfl 2 h_39 (by decide) rfl inn_X2_seek_2 (by decide) (X.2.2.2.1 (.fieldLink RX2 18 "SilkMill$Mixer" "prices" "[I") (by decide +kernel)) rfl (gv_202 _ _) dX2_seek_57 ?_
          refine lv_iload_n X.1 X.2.1 dX2_seek_60 rfl (lv_at hl 1 rfl) ?_
          refine r_iald X hw h_40 rfl (by rw [h_41]; exact z_ix hz_a1 (by omega) (by omega)) dX2_seek_61 ?_
          refine lv_topi (fun v_42 ev_42 => ?_)
          have rg_43 := And.intro (z_lo v_42) (z_hi v_42)
          have ev_42 := ev_42.symm
          refine lv_iadd X.1 X.2.1 dX2_seek_62 ?_
          refine lv_topi (fun v_44 ev_44 => ?_)
          have rg_45 := And.intro (z_lo v_44) (z_hi v_44)
          refine k_v (rm := { frames := 13, cells := 0, slots := 0, locals := 624 }) (av := [.ref x, .int (v_32), .int (v_36), .int (a3), .int (v_44)]) X hw (va_runS (As := [.ref x, .int (v_32), .int (v_36), .int (a3), .int (v_44)]) (rest := []) (cfix X) (k_X2_seek_12 l G cy κ S _ x (v_32) (v_32.toInt) (v_36) (v_36.toInt) (a3) (a3_z) (v_44) (v_44.toInt) hO.1 ha_x rfl rfl hz_a3 rfl (by omega) (by omega) (by omega)) (cwS 5 X.2.2.2.1 gX2_seek_X2_seek rfl rfl rfl (by decide +kernel) ⟨Nat.le_of_ble_eq_true rfl, Nat.le_of_ble_eq_true rfl⟩) (pre_S X hw _) rfl rfl hl.1 rfl (lv_room (Nat.le_of_ble_eq_true rfl)) dX2_seek_63 ⟨Nat.le_of_ble_eq_true rfl, Nat.le_of_ble_eq_true rfl⟩) 0 0 (Nat.le_of_ble_eq_true rfl) (Nat.le_of_ble_eq_true rfl) (fun S_47 H locs hp hw hfr hnw => ?_)
          obtain ⟨hk_48, hp⟩ := hp
          have hO_49 : Ok eMX S S_47 := hO.call hk_48 (by decide +kernel)
          refine lv_aload_n X.1 X.2.1 dX2_seek_66 rfl (lv_at hl 0 rfl) ?_
          refine lv_iload_n X.1 X.2.1 dX2_seek_67 rfl (lv_at hl 1 rfl) ?_
          refine lv_iconst (v := 1) X.1 X.2.1 dX2_seek_68 (by decide) ?_
          refine lv_iadd X.1 X.2.1 dX2_seek_69 ?_
          refine lv_topi (fun v_50 ev_50 => ?_)
          have z_51 : v_50.toInt = a1_z + 1 := z_add ev_50 hz_a1 ti_1 (by omega) (by omega)
          refine lv_iload_n X.1 X.2.1 dX2_seek_70 rfl (lv_at hl 2 rfl) ?_
          refine lv_iload_n X.1 X.2.1 dX2_seek_71 rfl (lv_at hl 3 rfl) ?_
          refine lv_aload_n X.1 X.2.1 dX2_seek_72 rfl (lv_at hl 0 rfl) ?_
          have t_52 : At S_47 x 2 := hk_48.fr.at ha_x
          obtain ⟨q_53, h_54, h_55, h_56⟩ := gQ_2_201 hO_49.1 t_52
          refine r_getR (g := 201) X hw t_52 rfl 1 h_54 (by decide) rfl inn_X2_seek_2 (by decide) (X.2.2.2.1 (.fieldLink RX2 15 "SilkMill$Mixer" "weights" "[I") (by decide +kernel)) rfl (gv_201 _ _) dX2_seek_73 ?_
          refine lv_iload_n X.1 X.2.1 dX2_seek_76 rfl (lv_at hl 1 rfl) ?_
          refine r_iald X hw h_55 rfl (by rw [h_56]; exact z_ix hz_a1 (by omega) (by omega)) dX2_seek_77 ?_
          refine lv_topi (fun v_57 ev_57 => ?_)
          have rg_58 := And.intro (z_lo v_57) (z_hi v_57)
          have ev_57 := ev_57.symm
          refine lv_isub X.1 X.2.1 dX2_seek_78 ?_
          refine lv_topi (fun v_59 ev_59 => ?_)
          have rg_60 := And.intro (z_lo v_59) (z_hi v_59)
          refine lv_iload X.1 X.2.1 dX2_seek_79 (lv_at hl 4 rfl) ?_
          refine k_v (rm := { frames := 13, cells := 0, slots := 0, locals := 624 }) (av := [.ref x, .int (v_50), .int (a2), .int (v_59), .int (a4)]) X hw (va_runS (As := [.ref x, .int (v_50), .int (a2), .int (v_59), .int (a4)]) (rest := []) (cfix X) (k_X2_seek_12 l G cy κ S_47 _ x (v_50) (v_50.toInt) (a2) (a2_z) (v_59) (v_59.toInt) (a4) (a4_z) hO_49.1 t_52 rfl hz_a2 rfl hz_a4 (by omega) (by omega) (by omega)) (cwS 5 X.2.2.2.1 gX2_seek_X2_seek rfl rfl rfl (by decide +kernel) ⟨Nat.le_of_ble_eq_true rfl, Nat.le_of_ble_eq_true rfl⟩) (pre_S X hw _) rfl rfl hl.1 rfl (lv_room (Nat.le_of_ble_eq_true rfl)) dX2_seek_81 ⟨Nat.le_of_ble_eq_true rfl, Nat.le_of_ble_eq_true rfl⟩) 0 0 (Nat.le_of_ble_eq_true rfl) (Nat.le_of_ble_eq_true rfl) (fun S_62 H locs hp hw hfr hnw => ?_)
          obtain ⟨hk_63, hp⟩ := hp
          have hO_64 : Ok eMX S S_62 := hO_49.call hk_63 (by decide +kernel)
          exact ret_v X hw hr hlocks (Nat.le_of_ble_eq_true rfl) (Nat.le_of_ble_eq_true rfl) ⟨hO_64, trivial⟩ dX2_seek_84
        · have z_b_65 := trivial
          have k_66 : a1_z ≥ 14 := z_nlt hz_a1 ti_14 c_29
          refine lv_aload_n X.1 X.2.1 dX2_seek_32 rfl (lv_at hl 0 rfl) ?_
          refine lv_iload X.1 X.2.1 dX2_seek_33 (lv_at hl 4 rfl) ?_
          refine r_putI (v := a4) X hw ha_x rfl 6 206 tyX2 (by decide) rfl inn_X2_seek_2 tyX2_ok nmX2 (by decide) (X.2.2.2.1 (.fieldLink RX2 34 "SilkMill$Mixer" "bestPrice" "I") (by decide +kernel)) rfl (Or.inl rfl) rfl rfl (Nat.le_of_ble_eq_true rfl) (st_206 _ _) dX2_seek_35 (fun H locs hw => ?_)
          obtain ⟨S_67, eS_67⟩ : ∃ T, T = sI S 206 x (a4) := ⟨_, rfl⟩
          rw [← eS_67] at hw
          have hO_68 : Ok eMX S S_67 := hO.sI eS_67 (by decide +kernel) (uI_2_206 hO.1 ha_x)
          have h_69 : pI S_67 206 x = a4 := tI_sIs eS_67
          refine lv_aload_n X.1 X.2.1 dX2_seek_38 rfl (lv_at hl 0 rfl) ?_
          refine lv_iload_n X.1 X.2.1 dX2_seek_39 rfl (lv_at hl 2 rfl) ?_
          have t_70 : At S_67 x 2 := tAt_sI eS_67 ha_x
          refine r_putI (v := a2) X hw t_70 rfl 7 207 tyX2 (by decide) rfl inn_X2_seek_2 tyX2_ok nmX2 (by decide) (X.2.2.2.1 (.fieldLink RX2 37 "SilkMill$Mixer" "bestSet" "I") (by decide +kernel)) rfl (Or.inl rfl) rfl rfl (Nat.le_of_ble_eq_true rfl) (st_207 _ _) dX2_seek_40 (fun H locs hw => ?_)
          obtain ⟨S_71, eS_71⟩ : ∃ T, T = sI S_67 207 x (a2) := ⟨_, rfl⟩
          rw [← eS_71] at hw
          have hO_72 : Ok eMX S S_71 := hO_68.sI eS_71 (by decide +kernel) (uI_2_207 hO_68.1 t_70)
          have h_73 : pI S_71 207 x = a2 := tI_sIs eS_71
          exact ret_v X hw hr hlocks (Nat.le_of_ble_eq_true rfl) (Nat.le_of_ble_eq_true rfl) ⟨hO_72, trivial⟩ dX2_seek_43
    · have z_b_74 := trivial
      have k_75 : a4_z ≥ v_9.toInt := z_nlt hz_a4 rfl c_12
      exact ret_v X hw hr hlocks (Nat.le_of_ble_eq_true rfl) (Nat.le_of_ble_eq_true rfl) ⟨hO, trivial⟩ dX2_seek_17
set_option maxHeartbeats 4000000 in
set_option maxRecDepth 100000 in
theorem k_X2_seek_14 (l : Launch) (G : va_G) (cy : Nat → ClassId) (κ : Nat → Nat) (S : PS) (sz : Nat) (x : Nat) (a1 : Int32) (a1_z : Int) (a2 : Int32) (a2_z : Int) (a3 : Int32) (a3_z : Int) (a4 : Int32) (a4_z : Int) (hG : GX S) (ha_x : At S x 2) (hz_a1 : a1.toInt = a1_z) (hz_a2 : a2.toInt = a2_z) (hz_a3 : a3.toInt = a3_z) (hz_a4 : a4.toInt = a4_z) (hp_0 : 0 ≤ a1_z) (hp_1 : a1_z ≤ 14) (hp_2 : 14 ≤ a1_z + 14) : Cv l yX2_seek wsX2_seek ({ frames := 15, cells := 0, slots := 0, locals := 720 }) G cy κ S sz [.ref x, .int (a1), .int (a2), .int (a3), .int (a4)] (fun (S9 : PS) => Ok eMX S S9 ∧ (True)) := by
  refine ent_m (cc := cX2_seek) (maxL := 5) (ret := none) (by decide) rfl (Nat.le_of_ble_eq_true rfl) ?_
  intro p e s m below meth c ls X hr hlocks hin hw hl hsz
  subst hsz
  have X : Cx p c cX2_seek 5 s [.ref x, .int (a1), .int (a2), .int (a3), .int (a4)].toArray wsX2_seek RX2 m G cy κ (AS S s.heap.size) := X
  have hl : lv_has ls 5 [(0, .ref x), (1, .int (a1)), (2, .int (a2)), (3, .int (a3)), (4, .int (a4))] := hl
  have rg_a1 : (-2147483648) ≤ a1_z ∧ a1_z ≤ 2147483647 := by rw [← hz_a1]; exact ⟨z_lo _, z_hi _⟩
  have rg_a2 : (-2147483648) ≤ a2_z ∧ a2_z ≤ 2147483647 := by rw [← hz_a2]; exact ⟨z_lo _, z_hi _⟩
  have rg_a3 : (-2147483648) ≤ a3_z ∧ a3_z ≤ 2147483647 := by rw [← hz_a3]; exact ⟨z_lo _, z_hi _⟩
  have rg_a4 : (-2147483648) ≤ a4_z ∧ a4_z ≤ 2147483647 := by rw [← hz_a4]; exact ⟨z_lo _, z_hi _⟩
  have hO : Ok eMX S S := Ok.rf hG
  refine lv_iload_n X.1 X.2.1 dX2_seek_0 rfl (lv_at hl 3 rfl) ?_
  refine lv_aload_n X.1 X.2.1 dX2_seek_1 rfl (lv_at hl 0 rfl) ?_
  obtain ⟨v_1, ev_1⟩ : ∃ v, pI S 205 x = v := ⟨_, rfl⟩
  have rg_3 := And.intro (z_lo v_1) (z_hi v_1)
  refine r_getI (g := 205) (x := v_1) X hw ha_x rfl 5 ev_1 (by decide) rfl inn_X2_seek_2 (by decide) (X.2.2.2.1 (.fieldLink RX2 28 "SilkMill$Mixer" "wanted" "I") (by decide +kernel)) rfl (gv_205 _ _) dX2_seek_2 ?_
  refine lv_icmp_lt (tgt := 17) X.1 X.2.1 dX2_seek_5 (by decide) (fun c_4 => ?_) (fun c_4 => ?_)
  · have z_b_5 := trivial
    have k_6 : a3_z < v_1.toInt := z_lt hz_a3 rfl c_4
    exact ret_v X hw hr hlocks (Nat.le_of_ble_eq_true rfl) (Nat.le_of_ble_eq_true rfl) ⟨hO, trivial⟩ dX2_seek_17
  · have z_b_7 := trivial
    have k_8 : a3_z ≥ v_1.toInt := z_nlt hz_a3 rfl c_4
    refine lv_iload X.1 X.2.1 dX2_seek_8 (lv_at hl 4 rfl) ?_
    refine lv_aload_n X.1 X.2.1 dX2_seek_10 rfl (lv_at hl 0 rfl) ?_
    obtain ⟨v_9, ev_9⟩ : ∃ v, pI S 206 x = v := ⟨_, rfl⟩
    have rg_11 := And.intro (z_lo v_9) (z_hi v_9)
    refine r_getI (g := 206) (x := v_9) X hw ha_x rfl 6 ev_9 (by decide) rfl inn_X2_seek_2 (by decide) (X.2.2.2.1 (.fieldLink RX2 34 "SilkMill$Mixer" "bestPrice" "I") (by decide +kernel)) rfl (gv_206 _ _) dX2_seek_11 ?_
    refine lv_icmp_lt (tgt := 18) X.1 X.2.1 dX2_seek_14 (by decide) (fun c_12 => ?_) (fun c_12 => ?_)
    · have z_b_13 := trivial
      have k_14 : a4_z < v_9.toInt := z_lt hz_a4 rfl c_12
      refine lv_iload_n X.1 X.2.1 dX2_seek_18 rfl (lv_at hl 1 rfl) ?_
      refine lv_aload_n X.1 X.2.1 dX2_seek_19 rfl (lv_at hl 0 rfl) ?_
      obtain ⟨v_15, ev_15⟩ : ∃ v, pI S 203 x = v := ⟨_, rfl⟩
      have rg_16 := gI_2_203 hO.1 ha_x; rw [ev_15] at rg_16
      refine r_getI (g := 203) (x := v_15) X hw ha_x rfl 3 ev_15 (by decide) rfl inn_X2_seek_2 (by decide) (X.2.2.2.1 (.fieldLink RX2 21 "SilkMill$Mixer" "size" "I") (by decide +kernel)) rfl (gv_203 _ _) dX2_seek_20 ?_
      refine lv_icmp_ge (tgt := 32) X.1 X.2.1 dX2_seek_23 (by decide) (fun c_17 => ?_) (fun c_17 => ?_)
      · have z_b_18 := trivial
        have k_19 : a1_z ≥ v_15.toInt := z_le rfl hz_a1 c_17
        refine lv_aload_n X.1 X.2.1 dX2_seek_32 rfl (lv_at hl 0 rfl) ?_
        refine lv_iload X.1 X.2.1 dX2_seek_33 (lv_at hl 4 rfl) ?_
        refine r_putI (v := a4) X hw ha_x rfl 6 206 tyX2 (by decide) rfl inn_X2_seek_2 tyX2_ok nmX2 (by decide) (X.2.2.2.1 (.fieldLink RX2 34 "SilkMill$Mixer" "bestPrice" "I") (by decide +kernel)) rfl (Or.inl rfl) rfl rfl (Nat.le_of_ble_eq_true rfl) (st_206 _ _) dX2_seek_35 (fun H locs hw => ?_)
        obtain ⟨S_20, eS_20⟩ : ∃ T, T = sI S 206 x (a4) := ⟨_, rfl⟩
        rw [← eS_20] at hw
        have hO_21 : Ok eMX S S_20 := hO.sI eS_20 (by decide +kernel) (uI_2_206 hO.1 ha_x)
        have h_22 : pI S_20 206 x = a4 := tI_sIs eS_20
        refine lv_aload_n X.1 X.2.1 dX2_seek_38 rfl (lv_at hl 0 rfl) ?_
        refine lv_iload_n X.1 X.2.1 dX2_seek_39 rfl (lv_at hl 2 rfl) ?_
        have t_23 : At S_20 x 2 := tAt_sI eS_20 ha_x
        refine r_putI (v := a2) X hw t_23 rfl 7 207 tyX2 (by decide) rfl inn_X2_seek_2 tyX2_ok nmX2 (by decide) (X.2.2.2.1 (.fieldLink RX2 37 "SilkMill$Mixer" "bestSet" "I") (by decide +kernel)) rfl (Or.inl rfl) rfl rfl (Nat.le_of_ble_eq_true rfl) (st_207 _ _) dX2_seek_40 (fun H locs hw => ?_)
        obtain ⟨S_24, eS_24⟩ : ∃ T, T = sI S_20 207 x (a2) := ⟨_, rfl⟩
        rw [← eS_24] at hw
        have hO_25 : Ok eMX S S_24 := hO_21.sI eS_24 (by decide +kernel) (uI_2_207 hO_21.1 t_23)
        have h_26 : pI S_24 207 x = a2 := tI_sIs eS_24
        exact ret_v X hw hr hlocks (Nat.le_of_ble_eq_true rfl) (Nat.le_of_ble_eq_true rfl) ⟨hO_25, trivial⟩ dX2_seek_43
      · have z_b_27 := trivial
        have k_28 : a1_z < v_15.toInt := z_nle rfl hz_a1 c_17
        refine lv_iload_n X.1 X.2.1 dX2_seek_26 rfl (lv_at hl 1 rfl) ?_
        refine lv_bipush (v := 14) X.1 X.2.1 dX2_seek_27 (by decide) ?_
        refine lv_icmp_lt (tgt := 44) X.1 X.2.1 dX2_seek_29 (by decide) (fun c_29 => ?_) (fun c_29 => ?_)
        · have z_b_30 := trivial
          have k_31 : a1_z < 14 := z_lt hz_a1 ti_14 c_29
          refine lv_aload_n X.1 X.2.1 dX2_seek_44 rfl (lv_at hl 0 rfl) ?_
          refine lv_iload_n X.1 X.2.1 dX2_seek_45 rfl (lv_at hl 1 rfl) ?_
          refine lv_iconst (v := 1) X.1 X.2.1 dX2_seek_46 (by decide) ?_
          refine lv_iadd X.1 X.2.1 dX2_seek_47 ?_
          refine lv_topi (fun v_32 ev_32 => ?_)
          have z_33 : v_32.toInt = a1_z + 1 := z_add ev_32 hz_a1 ti_1 (by omega) (by omega)
          refine lv_iload_n X.1 X.2.1 dX2_seek_48 rfl (lv_at hl 2 rfl) ?_
          refine lv_iconst (v := 1) X.1 X.2.1 dX2_seek_49 (by decide) ?_
          refine lv_iload_n X.1 X.2.1 dX2_seek_50 rfl (lv_at hl 1 rfl) ?_
          refine lv_ishl X.1 X.2.1 dX2_seek_51 ?_
          refine lv_topi (fun v_34 ev_34 => ?_)
          have rg_35 := And.intro (z_lo v_34) (z_hi v_34)
          refine lv_ior X.1 X.2.1 dX2_seek_52 ?_
          refine lv_topi (fun v_36 ev_36 => ?_)
          have rg_37 := And.intro (z_lo v_36) (z_hi v_36)
          refine lv_iload_n X.1 X.2.1 dX2_seek_53 rfl (lv_at hl 3 rfl) ?_
          refine lv_iload X.1 X.2.1 dX2_seek_54 (lv_at hl 4 rfl) ?_
          refine lv_aload_n X.1 X.2.1 dX2_seek_56 rfl (lv_at hl 0 rfl) ?_
          obtain ⟨q_38, h_39, h_40, h_41⟩ := gQ_2_202 hO.1 ha_x
          refine r_getR (g := 202) X hw ha_x rfl 2 h_39 (by decide) rfl inn_X2_seek_2 (by decide) (X.2.2.2.1 (.fieldLink RX2 18 "SilkMill$Mixer" "prices" "[I") (by decide +kernel)) rfl (gv_202 _ _) dX2_seek_57 ?_
          refine lv_iload_n X.1 X.2.1 dX2_seek_60 rfl (lv_at hl 1 rfl) ?_
          refine r_iald X hw h_40 rfl (by rw [h_41]; exact z_ix hz_a1 (by omega) (by omega)) dX2_seek_61 ?_
          refine lv_topi (fun v_42 ev_42 => ?_)
          have rg_43 := And.intro (z_lo v_42) (z_hi v_42)
          have ev_42 := ev_42.symm
          refine lv_iadd X.1 X.2.1 dX2_seek_62 ?_
          refine lv_topi (fun v_44 ev_44 => ?_)
          have rg_45 := And.intro (z_lo v_44) (z_hi v_44)
          refine k_v (rm := { frames := 14, cells := 0, slots := 0, locals := 672 }) (av := [.ref x, .int (v_32), .int (v_36), .int (a3), .int (v_44)]) X hw (va_runS (As := [.ref x, .int (v_32), .int (v_36), .int (a3), .int (v_44)]) (rest := []) (cfix X) (k_X2_seek_13 l G cy κ S _ x (v_32) (v_32.toInt) (v_36) (v_36.toInt) (a3) (a3_z) (v_44) (v_44.toInt) hO.1 ha_x rfl rfl hz_a3 rfl (by omega) (by omega) (by omega)) (cwS 5 X.2.2.2.1 gX2_seek_X2_seek rfl rfl rfl (by decide +kernel) ⟨Nat.le_of_ble_eq_true rfl, Nat.le_of_ble_eq_true rfl⟩) (pre_S X hw _) rfl rfl hl.1 rfl (lv_room (Nat.le_of_ble_eq_true rfl)) dX2_seek_63 ⟨Nat.le_of_ble_eq_true rfl, Nat.le_of_ble_eq_true rfl⟩) 0 0 (Nat.le_of_ble_eq_true rfl) (Nat.le_of_ble_eq_true rfl) (fun S_47 H locs hp hw hfr hnw => ?_)
          obtain ⟨hk_48, hp⟩ := hp
          have hO_49 : Ok eMX S S_47 := hO.call hk_48 (by decide +kernel)
          refine lv_aload_n X.1 X.2.1 dX2_seek_66 rfl (lv_at hl 0 rfl) ?_
          refine lv_iload_n X.1 X.2.1 dX2_seek_67 rfl (lv_at hl 1 rfl) ?_
          refine lv_iconst (v := 1) X.1 X.2.1 dX2_seek_68 (by decide) ?_
          refine lv_iadd X.1 X.2.1 dX2_seek_69 ?_
          refine lv_topi (fun v_50 ev_50 => ?_)
          have z_51 : v_50.toInt = a1_z + 1 := z_add ev_50 hz_a1 ti_1 (by omega) (by omega)
          refine lv_iload_n X.1 X.2.1 dX2_seek_70 rfl (lv_at hl 2 rfl) ?_
          refine lv_iload_n X.1 X.2.1 dX2_seek_71 rfl (lv_at hl 3 rfl) ?_
          refine lv_aload_n X.1 X.2.1 dX2_seek_72 rfl (lv_at hl 0 rfl) ?_
          have t_52 : At S_47 x 2 := hk_48.fr.at ha_x
          obtain ⟨q_53, h_54, h_55, h_56⟩ := gQ_2_201 hO_49.1 t_52
          refine r_getR (g := 201) X hw t_52 rfl 1 h_54 (by decide) rfl inn_X2_seek_2 (by decide) (X.2.2.2.1 (.fieldLink RX2 15 "SilkMill$Mixer" "weights" "[I") (by decide +kernel)) rfl (gv_201 _ _) dX2_seek_73 ?_
          refine lv_iload_n X.1 X.2.1 dX2_seek_76 rfl (lv_at hl 1 rfl) ?_
          refine r_iald X hw h_55 rfl (by rw [h_56]; exact z_ix hz_a1 (by omega) (by omega)) dX2_seek_77 ?_
          refine lv_topi (fun v_57 ev_57 => ?_)
          have rg_58 := And.intro (z_lo v_57) (z_hi v_57)
          have ev_57 := ev_57.symm
          refine lv_isub X.1 X.2.1 dX2_seek_78 ?_
          refine lv_topi (fun v_59 ev_59 => ?_)
          have rg_60 := And.intro (z_lo v_59) (z_hi v_59)
          refine lv_iload X.1 X.2.1 dX2_seek_79 (lv_at hl 4 rfl) ?_
          refine k_v (rm := { frames := 14, cells := 0, slots := 0, locals := 672 }) (av := [.ref x, .int (v_50), .int (a2), .int (v_59), .int (a4)]) X hw (va_runS (As := [.ref x, .int (v_50), .int (a2), .int (v_59), .int (a4)]) (rest := []) (cfix X) (k_X2_seek_13 l G cy κ S_47 _ x (v_50) (v_50.toInt) (a2) (a2_z) (v_59) (v_59.toInt) (a4) (a4_z) hO_49.1 t_52 rfl hz_a2 rfl hz_a4 (by omega) (by omega) (by omega)) (cwS 5 X.2.2.2.1 gX2_seek_X2_seek rfl rfl rfl (by decide +kernel) ⟨Nat.le_of_ble_eq_true rfl, Nat.le_of_ble_eq_true rfl⟩) (pre_S X hw _) rfl rfl hl.1 rfl (lv_room (Nat.le_of_ble_eq_true rfl)) dX2_seek_81 ⟨Nat.le_of_ble_eq_true rfl, Nat.le_of_ble_eq_true rfl⟩) 0 0 (Nat.le_of_ble_eq_true rfl) (Nat.le_of_ble_eq_true rfl) (fun S_62 H locs hp hw hfr hnw => ?_)
          obtain ⟨hk_63, hp⟩ := hp
          have hO_64 : Ok eMX S S_62 := hO_49.call hk_63 (by decide +kernel)
          exact ret_v X hw hr hlocks (Nat.le_of_ble_eq_true rfl) (Nat.le_of_ble_eq_true rfl) ⟨hO_64, trivial⟩ dX2_seek_84
        · have z_b_65 := trivial
          have k_66 : a1_z ≥ 14 := z_nlt hz_a1 ti_14 c_29
          refine lv_aload_n X.1 X.2.1 dX2_seek_32 rfl (lv_at hl 0 rfl) ?_
          refine lv_iload X.1 X.2.1 dX2_seek_33 (lv_at hl 4 rfl) ?_
          refine r_putI (v := a4) X hw ha_x rfl 6 206 tyX2 (by decide) rfl inn_X2_seek_2 tyX2_ok nmX2 (by decide) (X.2.2.2.1 (.fieldLink RX2 34 "SilkMill$Mixer" "bestPrice" "I") (by decide +kernel)) rfl (Or.inl rfl) rfl rfl (Nat.le_of_ble_eq_true rfl) (st_206 _ _) dX2_seek_35 (fun H locs hw => ?_)
          obtain ⟨S_67, eS_67⟩ : ∃ T, T = sI S 206 x (a4) := ⟨_, rfl⟩
          rw [← eS_67] at hw
          have hO_68 : Ok eMX S S_67 := hO.sI eS_67 (by decide +kernel) (uI_2_206 hO.1 ha_x)
          have h_69 : pI S_67 206 x = a4 := tI_sIs eS_67
          refine lv_aload_n X.1 X.2.1 dX2_seek_38 rfl (lv_at hl 0 rfl) ?_
          refine lv_iload_n X.1 X.2.1 dX2_seek_39 rfl (lv_at hl 2 rfl) ?_
          have t_70 : At S_67 x 2 := tAt_sI eS_67 ha_x
          refine r_putI (v := a2) X hw t_70 rfl 7 207 tyX2 (by decide) rfl inn_X2_seek_2 tyX2_ok nmX2 (by decide) (X.2.2.2.1 (.fieldLink RX2 37 "SilkMill$Mixer" "bestSet" "I") (by decide +kernel)) rfl (Or.inl rfl) rfl rfl (Nat.le_of_ble_eq_true rfl) (st_207 _ _) dX2_seek_40 (fun H locs hw => ?_)
          obtain ⟨S_71, eS_71⟩ : ∃ T, T = sI S_67 207 x (a2) := ⟨_, rfl⟩
          rw [← eS_71] at hw
          have hO_72 : Ok eMX S S_71 := hO_68.sI eS_71 (by decide +kernel) (uI_2_207 hO_68.1 t_70)
          have h_73 : pI S_71 207 x = a2 := tI_sIs eS_71
          exact ret_v X hw hr hlocks (Nat.le_of_ble_eq_true rfl) (Nat.le_of_ble_eq_true rfl) ⟨hO_72, trivial⟩ dX2_seek_43
    · have z_b_74 := trivial
      have k_75 : a4_z ≥ v_9.toInt := z_nlt hz_a4 rfl c_12
      exact ret_v X hw hr hlocks (Nat.le_of_ble_eq_true rfl) (Nat.le_of_ble_eq_true rfl) ⟨hO, trivial⟩ dX2_seek_17
set_option maxHeartbeats 4000000 in
set_option maxRecDepth 100000 in
theorem k_X2_leastPrice (l : Launch) (G : va_G) (cy : Nat → ClassId) (κ : Nat → Nat) (S : PS) (sz : Nat) (x : Nat) (hG : GX S) (ha_x : At S x 2) : Ci l yX2_leastPrice wsX2_leastPrice ({ frames := 16, cells := 0, slots := 0, locals := 768 }) G cy κ S sz [.ref x] (fun (r : Int32) (S9 : PS) => Ok eMX S S9 ∧ (True)) := by
  refine ent_m (cc := cX2_leastPrice) (maxL := 1) (ret := (some .int)) (by decide) rfl (Nat.le_of_ble_eq_true rfl) ?_
  intro p e s m below meth c ls X hr hlocks hin hw hl hsz
  subst hsz
  have X : Cx p c cX2_leastPrice 1 s [.ref x].toArray wsX2_leastPrice RX2 m G cy κ (AS S s.heap.size) := X
  have hl : lv_has ls 1 [(0, .ref x)] := hl
  have hO : Ok eMX S S := Ok.rf hG
  refine lv_aload_n X.1 X.2.1 dX2_leastPrice_0 rfl (lv_at hl 0 rfl) ?_
  refine lv_iconst (v := 0) X.1 X.2.1 dX2_leastPrice_1 (by decide) ?_
  refine lv_iconst (v := 0) X.1 X.2.1 dX2_leastPrice_2 (by decide) ?_
  refine lv_aload_n X.1 X.2.1 dX2_leastPrice_3 rfl (lv_at hl 0 rfl) ?_
  obtain ⟨v_1, ev_1⟩ : ∃ v, pI S 204 x = v := ⟨_, rfl⟩
  have rg_3 := And.intro (z_lo v_1) (z_hi v_1)
  refine r_getI (g := 204) (x := v_1) X hw ha_x rfl 4 ev_1 (by decide) rfl inn_X2_leastPrice_2 (by decide) (X.2.2.2.1 (.fieldLink RX2 25 "SilkMill$Mixer" "offered" "I") (by decide +kernel)) rfl (gv_204 _ _) dX2_leastPrice_4 ?_
  refine lv_iconst (v := 0) X.1 X.2.1 dX2_leastPrice_7 (by decide) ?_
  refine k_v (rm := { frames := 15, cells := 0, slots := 0, locals := 720 }) (av := [.ref x, .int 0, .int 0, .int (v_1), .int 0]) X hw (va_runS (As := [.ref x, .int 0, .int 0, .int (v_1), .int 0]) (rest := []) (cfix X) (k_X2_seek_14 l G cy κ S _ x (0) (0) (0) (0) (v_1) (v_1.toInt) (0) (0) hO.1 ha_x ti_0 ti_0 rfl ti_0 (by omega) (by omega) (by omega)) (cwS 5 X.2.2.2.1 gX2_leastPrice_X2_seek rfl rfl rfl (by decide +kernel) ⟨Nat.le_of_ble_eq_true rfl, Nat.le_of_ble_eq_true rfl⟩) (pre_S X hw _) rfl rfl hl.1 rfl (lv_room (Nat.le_of_ble_eq_true rfl)) dX2_leastPrice_8 ⟨Nat.le_of_ble_eq_true rfl, Nat.le_of_ble_eq_true rfl⟩) 0 0 (Nat.le_of_ble_eq_true rfl) (Nat.le_of_ble_eq_true rfl) (fun S_5 H locs hp hw hfr hnw => ?_)
  obtain ⟨hk_6, hp⟩ := hp
  have hO_7 : Ok eMX S S_5 := hO.call hk_6 (by decide +kernel)
  refine lv_aload_n X.1 X.2.1 dX2_leastPrice_11 rfl (lv_at hl 0 rfl) ?_
  have t_8 : At S_5 x 2 := hk_6.fr.at ha_x
  obtain ⟨v_9, ev_9⟩ : ∃ v, pI S_5 207 x = v := ⟨_, rfl⟩
  have rg_11 := And.intro (z_lo v_9) (z_hi v_9)
  refine r_getI (g := 207) (x := v_9) X hw t_8 rfl 7 ev_9 (by decide) rfl inn_X2_leastPrice_2 (by decide) (X.2.2.2.1 (.fieldLink RX2 37 "SilkMill$Mixer" "bestSet" "I") (by decide +kernel)) rfl (gv_207 _ _) dX2_leastPrice_12 ?_
  refine lv_if_ne (tgt := 22) X.1 X.2.1 dX2_leastPrice_15 (by decide) (fun c_12 => ?_) (fun c_12 => ?_)
  · have z_b_13 := trivial
    have k_14 : v_9.toInt ≠ 0 := z_ne rfl ti_0 c_12
    refine lv_aload_n X.1 X.2.1 dX2_leastPrice_22 rfl (lv_at hl 0 rfl) ?_
    obtain ⟨v_15, ev_15⟩ : ∃ v, pI S_5 206 x = v := ⟨_, rfl⟩
    have rg_17 := And.intro (z_lo v_15) (z_hi v_15)
    refine r_getI (g := 206) (x := v_15) X hw t_8 rfl 6 ev_15 (by decide) rfl inn_X2_leastPrice_2 (by decide) (X.2.2.2.1 (.fieldLink RX2 34 "SilkMill$Mixer" "bestPrice" "I") (by decide +kernel)) rfl (gv_206 _ _) dX2_leastPrice_23 ?_
    exact ret_i X hw hr hlocks (Nat.le_of_ble_eq_true rfl) (Nat.le_of_ble_eq_true rfl) ⟨hO_7, trivial⟩ dX2_leastPrice_26
  · have z_b_18 := trivial
    have k_19 : v_9.toInt = 0 := z_eq rfl ti_0 c_12
    refine lv_iconst (v := (-1)) X.1 X.2.1 dX2_leastPrice_18 (by decide) ?_
    refine lv_goto (tgt := 26) X.1 X.2.1 dX2_leastPrice_19 (by decide) ?_
    exact ret_i X hw hr hlocks (Nat.le_of_ble_eq_true rfl) (Nat.le_of_ble_eq_true rfl) ⟨hO_7, trivial⟩ dX2_leastPrice_26
set_option maxHeartbeats 4000000 in
set_option maxRecDepth 100000 in
theorem k_X8_skeinAt (l : Launch) (G : va_G) (cy : Nat → ClassId) (κ : Nat → Nat) (S : PS) (sz : Nat) (x : Nat) (a1 : Int32) (a1_z : Int) (hG : GX S) (ha_x : At S x 8) (hz_a1 : a1.toInt = a1_z) : Cq l yX8_skeinAt wsX8_skeinAt ({ frames := 1, cells := 0, slots := 0, locals := 48 }) G cy κ S sz [.ref x, .int (a1)] (fun (r : Option Nat) (S9 : PS) => S = S9 ∧ (∀ q, r = some q → At S9 q 7 ∧ 0 ≤ a1_z ∧ a1_z < (pI S 800 x).toInt)) := by
  refine ent_m (cc := cX8_skeinAt) (maxL := 2) (ret := (some (.object "SilkMill$Skein"))) (by decide) rfl (Nat.le_of_ble_eq_true rfl) ?_
  intro p e s m below meth c ls X hr hlocks hin hw hl hsz
  subst hsz
  have X : Cx p c cX8_skeinAt 2 s [.ref x, .int (a1)].toArray wsX8_skeinAt RX8 m G cy κ (AS S s.heap.size) := X
  have hl : lv_has ls 2 [(0, .ref x), (1, .int (a1))] := hl
  have rg_a1 : (-2147483648) ≤ a1_z ∧ a1_z ≤ 2147483647 := by rw [← hz_a1]; exact ⟨z_lo _, z_hi _⟩
  refine lv_iload_n X.1 X.2.1 dX8_skeinAt_0 rfl (lv_at hl 1 rfl) ?_
  refine lv_if_lt (tgt := 12) X.1 X.2.1 dX8_skeinAt_1 (by decide) (fun c_1 => ?_) (fun c_1 => ?_)
  · have z_b_2 := trivial
    have k_3 : a1_z < 0 := z_lt hz_a1 ti_0 c_1
    refine lv_null X.1 X.2.1 dX8_skeinAt_12 ?_
    refine lv_goto (tgt := 22) X.1 X.2.1 dX8_skeinAt_13 (by decide) ?_
    exact ret_q none rfl X hw hr hlocks (Nat.le_of_ble_eq_true rfl) (Nat.le_of_ble_eq_true rfl) ⟨rfl, (fun q h => by cases h)⟩ dX8_skeinAt_22
  · have z_b_4 := trivial
    have k_5 : a1_z ≥ 0 := z_nlt hz_a1 ti_0 c_1
    refine lv_iload_n X.1 X.2.1 dX8_skeinAt_4 rfl (lv_at hl 1 rfl) ?_
    refine lv_aload_n X.1 X.2.1 dX8_skeinAt_5 rfl (lv_at hl 0 rfl) ?_
    obtain ⟨v_6, ev_6⟩ : ∃ v, pI S 800 x = v := ⟨_, rfl⟩
    have rg_7 := gI_8_800 hG ha_x; rw [ev_6] at rg_7
    have pz_8 : (pI S 800 x).toInt = v_6.toInt := by rw [ev_6]
    refine r_getI (g := 800) (x := v_6) X hw ha_x rfl 0 ev_6 (by decide) rfl inn_X8_skeinAt_8 (by decide) (X.2.2.2.1 (.fieldLink RX8 37 "SilkMill$Store" "kept" "I") (by decide +kernel)) rfl (gv_800 _ _) dX8_skeinAt_6 ?_
    refine lv_icmp_lt (tgt := 16) X.1 X.2.1 dX8_skeinAt_9 (by decide) (fun c_9 => ?_) (fun c_9 => ?_)
    · have z_b_10 := trivial
      have k_11 : a1_z < v_6.toInt := z_lt hz_a1 rfl c_9
      refine lv_aload_n X.1 X.2.1 dX8_skeinAt_16 rfl (lv_at hl 0 rfl) ?_
      obtain ⟨q_12, h_13, h_14, h_15⟩ := gQ_8_808 hG ha_x
      refine r_getR (g := 808) X hw ha_x rfl 8 h_13 (by decide) rfl inn_X8_skeinAt_8 (by decide) (X.2.2.2.1 (.fieldLink RX8 17 "SilkMill$Store" "skeins" "[LSilkMill$Skein;") (by decide +kernel)) rfl (gv_808 _ _) dX8_skeinAt_17 ?_
      refine lv_iload_n X.1 X.2.1 dX8_skeinAt_20 rfl (lv_at hl 1 rfl) ?_
      refine r_aald X hw h_14 rfl (by decide) rfl (by rw [h_15]; exact z_ix hz_a1 (by omega) (by omega)) dX8_skeinAt_21 ?_
      rcases ho_16 : pB S q_12 (Int32.toNatClampNeg (a1)) with _ | q_17
      · refine W.eq (g2 := F0 m 22 ls (.null :: [])) rfl ?_
        exact ret_q none rfl X hw hr hlocks (Nat.le_of_ble_eq_true rfl) (Nat.le_of_ble_eq_true rfl) ⟨rfl, (fun q h => by cases h)⟩ dX8_skeinAt_22
      · refine W.eq (g2 := F0 m 22 ls (.ref q_17 :: [])) rfl ?_
        have ha_18 : At S q_17 7 := gEl_19 hG h_14 _ _ ho_16
        exact ret_q (some q_17) rfl X hw hr hlocks (Nat.le_of_ble_eq_true rfl) (Nat.le_of_ble_eq_true rfl) ⟨rfl, (fun q h => by cases h; exact ⟨ha_18, by omega, by omega⟩)⟩ dX8_skeinAt_22
    · have z_b_19 := trivial
      have k_20 : a1_z ≥ v_6.toInt := z_nlt hz_a1 rfl c_9
      refine lv_null X.1 X.2.1 dX8_skeinAt_12 ?_
      refine lv_goto (tgt := 22) X.1 X.2.1 dX8_skeinAt_13 (by decide) ?_
      exact ret_q none rfl X hw hr hlocks (Nat.le_of_ble_eq_true rfl) (Nat.le_of_ble_eq_true rfl) ⟨rfl, (fun q h => by cases h)⟩ dX8_skeinAt_22
set_option maxHeartbeats 4000000 in
set_option maxRecDepth 100000 in
theorem k_X8_priceOf (l : Launch) (G : va_G) (cy : Nat → ClassId) (κ : Nat → Nat) (S : PS) (sz : Nat) (x : Nat) (s1 : Nat) (hG : GX S) (ha_x : At S x 8) (ha_s1 : At S s1 7) : Ci l yX8_priceOf wsX8_priceOf ({ frames := 2, cells := 0, slots := 0, locals := 96 }) G cy κ S sz [.ref x, .ref s1] (fun (r : Int32) (S9 : PS) => S = S9 ∧ (True)) := by
  refine ent_m (cc := cX8_priceOf) (maxL := 3) (ret := (some .int)) (by decide) rfl (Nat.le_of_ble_eq_true rfl) ?_
  intro p e s m below meth c ls X hr hlocks hin hw hl hsz
  subst hsz
  have X : Cx p c cX8_priceOf 3 s [.ref x, .ref s1].toArray wsX8_priceOf RX8 m G cy κ (AS S s.heap.size) := X
  have hl : lv_has ls 3 [(0, .ref x), (1, .ref s1)] := hl
  refine lv_aload_n X.1 X.2.1 dX8_priceOf_0 rfl (lv_at hl 1 rfl) ?_
  obtain ⟨v_1, ev_1⟩ : ∃ v, pI S 707 s1 = v := ⟨_, rfl⟩
  have rg_3 := And.intro (z_lo v_1) (z_hi v_1)
  refine r_getI (g := 707) (x := v_1) X hw ha_s1 rfl 7 ev_1 (by decide) rfl inn_X8_priceOf_7 (by decide) (X.2.2.2.1 (.fieldLink RX8 61 "SilkMill$Skein" "latestGrade" "I") (by decide +kernel)) rfl (gv_707 _ _) dX8_priceOf_1 ?_
  refine lv_iconst (v := 0) X.1 X.2.1 dX8_priceOf_4 (by decide) ?_
  refine lv_iconst (v := 3) X.1 X.2.1 dX8_priceOf_5 (by decide) ?_
  refine k_i (rm := { frames := 1, cells := 0, slots := 0, locals := 48 }) (av := [.int (v_1), .int 0, .int 3]) X hw (va_runSN (As := [.int (v_1), .int 0, .int 3]) (rest := []) (cfix X) (k_X11_isWithin l G cy κ S _ (v_1) (v_1.toInt) (0) (0) (3) (3) hG rfl ti_0 ti_3) ⟨(va_cnB (host := RX11) 3 X.2.2.2.1 gX8_priceOf_X11_isWithin_n64 rfl rfl rfl (X.2.2.2.2.2.2.2.1.2.1 (RX8, 64, yX11_isWithin) (by decide +kernel)) (X.2.2.2.1 (.initialized RX11) (by decide +kernel)) (by decide +kernel) ⟨Nat.le_of_ble_eq_true rfl, Nat.le_of_ble_eq_true rfl⟩), (X.2.2.2.1 (.static yX11_isWithin) (by decide +kernel)), trivial⟩ (pre_S X hw _) rfl rfl hl.1 rfl (lv_room (Nat.le_of_ble_eq_true rfl)) dX8_priceOf_6 ⟨Nat.le_of_ble_eq_true rfl, Nat.le_of_ble_eq_true rfl⟩) 0 0 (Nat.le_of_ble_eq_true rfl) (Nat.le_of_ble_eq_true rfl) (fun rr_4 S_5 H locs hp hw hfr hnw => ?_)
  obtain ⟨e2, hp⟩ := hp
  subst e2
  rcases hp with ⟨f_6, er_7⟩ | ⟨f_6, er_7⟩ <;> subst er_7
  · have z_b_8 := trivial
    refine lv_if_eq (tgt := 19) X.1 X.2.1 dX8_priceOf_9 (by decide) (fun c_9 => absurd c_9 (by decide)) (fun c_9 => ?_)
    refine lv_aload_n X.1 X.2.1 dX8_priceOf_12 rfl (lv_at hl 1 rfl) ?_
    refine r_getI (g := 707) (x := v_1) X hw ha_s1 rfl 7 ev_1 (by decide) rfl inn_X8_priceOf_7 (by decide) (X.2.2.2.1 (.fieldLink RX8 61 "SilkMill$Skein" "latestGrade" "I") (by decide +kernel)) rfl (gv_707 _ _) dX8_priceOf_13 ?_
    refine lv_goto (tgt := 20) X.1 X.2.1 dX8_priceOf_16 (by decide) ?_
    refine lv_istore_n (lv' := [(2, .int (v_1)), (0, .ref x), (1, .ref s1)]) X.1 X.2.1 dX8_priceOf_20 rfl hl (by decide) rfl (fun ls hl => ?_)
    refine lv_aload_n X.1 X.2.1 dX8_priceOf_21 rfl (lv_at hl 2 rfl) ?_
    obtain ⟨q_10, h_11, h_12⟩ := gQ_7_703 hG ha_s1
    refine r_getR (g := 703) X hw ha_s1 rfl 3 h_11 (by decide) rfl inn_X8_priceOf_7 (by decide) (X.2.2.2.1 (.fieldLink RX8 68 "SilkMill$Skein" "strand" "LSilkMill$Strand;") (by decide +kernel)) rfl (gv_703 _ _) dX8_priceOf_22 ?_
    obtain ⟨v_14, ev_14⟩ : ∃ v, pI S 903 q_10 = v := ⟨_, rfl⟩
    have rg_16 := And.intro (z_lo v_14) (z_hi v_14)
    refine r_getI (g := 903) (x := v_14) X hw h_12 rfl 3 ev_14 (by decide) rfl inn_X8_priceOf_9 (by decide) (X.2.2.2.1 (.fieldLink RX8 44 "SilkMill$Strand" "silk" "I") (by decide +kernel)) rfl (gv_903 _ _) dX8_priceOf_25 ?_
    refine lv_aload_n X.1 X.2.1 dX8_priceOf_28 rfl (lv_at hl 1 rfl) ?_
    obtain ⟨q_17, h_18, h_19, h_20⟩ := gQ_8_807 hG ha_x
    refine r_getR (g := 807) X hw ha_x rfl 7 h_18 (by decide) rfl inn_X8_priceOf_8 (by decide) (X.2.2.2.1 (.fieldLink RX8 9 "SilkMill$Store" "prices" "[I") (by decide +kernel)) rfl (gv_807 _ _) dX8_priceOf_29 ?_
    refine lv_iload_n X.1 X.2.1 dX8_priceOf_32 rfl (lv_at hl 0 rfl) ?_
    refine r_iald X hw h_19 rfl (by rw [h_20]; exact z_ix rfl (by omega) (by omega)) dX8_priceOf_33 ?_
    refine lv_topi (fun v_21 ev_21 => ?_)
    have rg_22 := And.intro (z_lo v_21) (z_hi v_21)
    have ev_21 := ev_21.symm
    refine lv_imul X.1 X.2.1 dX8_priceOf_34 ?_
    refine lv_topi (fun v_23 ev_23 => ?_)
    have rg_24 := And.intro (z_lo v_23) (z_hi v_23)
    refine lv_bipush (v := 100) X.1 X.2.1 dX8_priceOf_35 (by decide) ?_
    refine lv_idiv X.1 X.2.1 dX8_priceOf_37 (by decide) ?_
    refine lv_topi (fun v_25 ev_25 => ?_)
    have rg_26 := And.intro (z_lo v_25) (z_hi v_25)
    exact ret_i X hw hr hlocks (Nat.le_of_ble_eq_true rfl) (Nat.le_of_ble_eq_true rfl) ⟨rfl, trivial⟩ dX8_priceOf_38
  · have z_b_27 := trivial
    refine lv_if_eq (tgt := 19) X.1 X.2.1 dX8_priceOf_9 (by decide) (fun c_28 => ?_) (fun c_28 => absurd c_28 (by decide))
    refine lv_iconst (v := 3) X.1 X.2.1 dX8_priceOf_19 (by decide) ?_
    refine lv_istore_n (lv' := [(2, .int 3), (0, .ref x), (1, .ref s1)]) X.1 X.2.1 dX8_priceOf_20 rfl hl (by decide) rfl (fun ls hl => ?_)
    refine lv_aload_n X.1 X.2.1 dX8_priceOf_21 rfl (lv_at hl 2 rfl) ?_
    obtain ⟨q_29, h_30, h_31⟩ := gQ_7_703 hG ha_s1
    refine r_getR (g := 703) X hw ha_s1 rfl 3 h_30 (by decide) rfl inn_X8_priceOf_7 (by decide) (X.2.2.2.1 (.fieldLink RX8 68 "SilkMill$Skein" "strand" "LSilkMill$Strand;") (by decide +kernel)) rfl (gv_703 _ _) dX8_priceOf_22 ?_
    obtain ⟨v_33, ev_33⟩ : ∃ v, pI S 903 q_29 = v := ⟨_, rfl⟩
    have rg_35 := And.intro (z_lo v_33) (z_hi v_33)
    refine r_getI (g := 903) (x := v_33) X hw h_31 rfl 3 ev_33 (by decide) rfl inn_X8_priceOf_9 (by decide) (X.2.2.2.1 (.fieldLink RX8 44 "SilkMill$Strand" "silk" "I") (by decide +kernel)) rfl (gv_903 _ _) dX8_priceOf_25 ?_
    refine lv_aload_n X.1 X.2.1 dX8_priceOf_28 rfl (lv_at hl 1 rfl) ?_
    obtain ⟨q_36, h_37, h_38, h_39⟩ := gQ_8_807 hG ha_x
    refine r_getR (g := 807) X hw ha_x rfl 7 h_37 (by decide) rfl inn_X8_priceOf_8 (by decide) (X.2.2.2.1 (.fieldLink RX8 9 "SilkMill$Store" "prices" "[I") (by decide +kernel)) rfl (gv_807 _ _) dX8_priceOf_29 ?_
    refine lv_iload_n X.1 X.2.1 dX8_priceOf_32 rfl (lv_at hl 0 rfl) ?_
    refine r_iald X hw h_38 rfl (by rw [h_39]; exact z_ix ti_3 (by omega) (by omega)) dX8_priceOf_33 ?_
    refine lv_topi (fun v_40 ev_40 => ?_)
    have rg_41 := And.intro (z_lo v_40) (z_hi v_40)
    have ev_40 := ev_40.symm
    refine lv_imul X.1 X.2.1 dX8_priceOf_34 ?_
    refine lv_topi (fun v_42 ev_42 => ?_)
    have rg_43 := And.intro (z_lo v_42) (z_hi v_42)
    refine lv_bipush (v := 100) X.1 X.2.1 dX8_priceOf_35 (by decide) ?_
    refine lv_idiv X.1 X.2.1 dX8_priceOf_37 (by decide) ?_
    refine lv_topi (fun v_44 ev_44 => ?_)
    have rg_45 := And.intro (z_lo v_44) (z_hi v_44)
    exact ret_i X hw hr hlocks (Nat.le_of_ble_eq_true rfl) (Nat.le_of_ble_eq_true rfl) ⟨rfl, trivial⟩ dX8_priceOf_38
set_option maxHeartbeats 4000000 in
set_option maxRecDepth 100000 in
theorem k_X8_payFor (l : Launch) (G : va_G) (cy : Nat → ClassId) (κ : Nat → Nat) (S : PS) (sz : Nat) (x : Nat) (a1 : Int32) (a1_z : Int) (a2 : Int32) (a2_z : Int) (a3 : Int32) (a3_z : Int) (hG : GX S) (ha_x : At S x 8) (hz_a1 : a1.toInt = a1_z) (hz_a2 : a2.toInt = a2_z) (hz_a3 : a3.toInt = a3_z) : Ci l yX8_payFor wsX8_payFor ({ frames := 3, cells := 0, slots := 0, locals := 144 }) G cy κ S sz [.ref x, .int (a1), .int (a2), .int (a3)] (fun (r : Int32) (S9 : PS) => S = S9 ∧ (True)) := by
  refine ent_m (cc := cX8_payFor) (maxL := 7) (ret := (some .int)) (by decide) rfl (Nat.le_of_ble_eq_true rfl) ?_
  intro p e s m below meth c ls X hr hlocks hin hw hl hsz
  subst hsz
  have X : Cx p c cX8_payFor 7 s [.ref x, .int (a1), .int (a2), .int (a3)].toArray wsX8_payFor RX8 m G cy κ (AS S s.heap.size) := X
  have hl : lv_has ls 7 [(0, .ref x), (1, .int (a1)), (2, .int (a2)), (3, .int (a3))] := hl
  have rg_a1 : (-2147483648) ≤ a1_z ∧ a1_z ≤ 2147483647 := by rw [← hz_a1]; exact ⟨z_lo _, z_hi _⟩
  have rg_a2 : (-2147483648) ≤ a2_z ∧ a2_z ≤ 2147483647 := by rw [← hz_a2]; exact ⟨z_lo _, z_hi _⟩
  have rg_a3 : (-2147483648) ≤ a3_z ∧ a3_z ≤ 2147483647 := by rw [← hz_a3]; exact ⟨z_lo _, z_hi _⟩
  generalize hQQ : MQ below _ _ _ _ _ _ = QQ
  replace hQQ := hQQ.symm
  refine lv_iconst (v := 0) X.1 X.2.1 dX8_payFor_0 (by decide) ?_
  refine lv_istore (lv' := [(4, .int 0), (0, .ref x), (1, .int (a1)), (2, .int (a2)), (3, .int (a3))]) X.1 X.2.1 dX8_payFor_1 hl (by decide) rfl (fun ls hl => ?_)
  refine lv_iconst (v := 0) X.1 X.2.1 dX8_payFor_3 (by decide) ?_
  refine lv_istore (lv' := [(5, .int 0), (4, .int 0), (0, .ref x), (1, .int (a1)), (2, .int (a2)), (3, .int (a3))]) X.1 X.2.1 dX8_payFor_4 hl (by decide) rfl (fun ls hl => ?_)
  have L_1 : ∀ (n : Nat) (H : Heap) (locs : List Loc) (ls : Array Slot) (i4_2 : Int32) (i4_2_z : Int) (i5_3 : Int32) (i5_3_z : Int), ((40 - i5_3_z).toNat = n) → (Wd G cy (AS S s.heap.size) s.heap S H locs) → (i4_2.toInt = i4_2_z) → (i5_3.toInt = i5_3_z) → (0 ≤ i5_3_z ∧ i5_3_z ≤ 40) → (lv_has ls 7 [(4, .int (i4_2)), (5, .int (i5_3)), (0, .ref x), (1, .int (a1)), (2, .int (a2)), (3, .int (a3))]) → W p l e ({ frames := 3, cells := 0, slots := 0, locals := 144 }) s m [.ref x, .int (a1), .int (a2), .int (a3)].toArray below meth c H locs 0 0 QQ (F0 m 6 ls []) := by
    intro n
    induction n using Nat.strongRecOn with
    | ind n ih =>
    intro H locs ls i4_2 i4_2_z i5_3 i5_3_z hn hw hz_i4_2 hz_i5_3 hr_i5_3 hl
    have rg_4 : (-2147483648) ≤ i4_2_z ∧ i4_2_z ≤ 2147483647 := by rw [← hz_i4_2]; exact ⟨z_lo _, z_hi _⟩
    have rg_5 : (-2147483648) ≤ i5_3_z ∧ i5_3_z ≤ 2147483647 := by rw [← hz_i5_3]; exact ⟨z_lo _, z_hi _⟩
    refine lv_iload X.1 X.2.1 dX8_payFor_6 (lv_at hl 1 rfl) ?_
    refine lv_aload_n X.1 X.2.1 dX8_payFor_8 rfl (lv_at hl 2 rfl) ?_
    obtain ⟨v_6, ev_6⟩ : ∃ v, pI S 800 x = v := ⟨_, rfl⟩
    have rg_7 := gI_8_800 hG ha_x; rw [ev_6] at rg_7
    have pz_8 : (pI S 800 x).toInt = v_6.toInt := by rw [ev_6]
    refine r_getI (g := 800) (x := v_6) X hw ha_x rfl 0 ev_6 (by decide) rfl inn_X8_payFor_8 (by decide) (X.2.2.2.1 (.fieldLink RX8 37 "SilkMill$Store" "kept" "I") (by decide +kernel)) rfl (gv_800 _ _) dX8_payFor_9 ?_
    refine lv_icmp_ge (tgt := 55) X.1 X.2.1 dX8_payFor_12 (by decide) (fun c_9 => ?_) (fun c_9 => ?_)
    · have z_b_10 := trivial
      have k_11 : i5_3_z ≥ v_6.toInt := z_le rfl hz_i5_3 c_9
      refine lv_iconst (v := 0) X.1 X.2.1 dX8_payFor_55 (by decide) ?_
      refine lv_istore (lv' := [(5, .int 0), (4, .int (i4_2)), (0, .ref x), (1, .int (a1)), (2, .int (a2)), (3, .int (a3))]) X.1 X.2.1 dX8_payFor_56 hl (by decide) rfl (fun ls hl => ?_)
      have L_12 : ∀ (n : Nat) (H : Heap) (locs : List Loc) (ls : Array Slot) (i4_13 : Int32) (i4_13_z : Int) (i5_14 : Int32) (i5_14_z : Int), ((40 - i5_14_z).toNat = n) → (Wd G cy (AS S s.heap.size) s.heap S H locs) → (i4_13.toInt = i4_13_z) → (i5_14.toInt = i5_14_z) → (0 ≤ i5_14_z ∧ i5_14_z ≤ 40) → (lv_has ls 7 [(4, .int (i4_13)), (5, .int (i5_14)), (0, .ref x), (1, .int (a1)), (2, .int (a2)), (3, .int (a3))]) → W p l e ({ frames := 3, cells := 0, slots := 0, locals := 144 }) s m [.ref x, .int (a1), .int (a2), .int (a3)].toArray below meth c H locs 0 0 QQ (F0 m 58 ls []) := by
        intro n
        induction n using Nat.strongRecOn with
        | ind n ih =>
        intro H locs ls i4_13 i4_13_z i5_14 i5_14_z hn hw hz_i4_13 hz_i5_14 hr_i5_14 hl
        have rg_15 : (-2147483648) ≤ i4_13_z ∧ i4_13_z ≤ 2147483647 := by rw [← hz_i4_13]; exact ⟨z_lo _, z_hi _⟩
        have rg_16 : (-2147483648) ≤ i5_14_z ∧ i5_14_z ≤ 2147483647 := by rw [← hz_i5_14]; exact ⟨z_lo _, z_hi _⟩
        refine lv_iload X.1 X.2.1 dX8_payFor_58 (lv_at hl 1 rfl) ?_
        refine lv_aload_n X.1 X.2.1 dX8_payFor_60 rfl (lv_at hl 2 rfl) ?_
        obtain ⟨v_17, ev_17⟩ : ∃ v, pI S 806 x = v := ⟨_, rfl⟩
        have rg_18 := gI_8_806 hG ha_x; rw [ev_17] at rg_18
        have pz_19 : (pI S 806 x).toInt = v_17.toInt := by rw [ev_17]
        refine r_getI (g := 806) (x := v_17) X hw ha_x rfl 6 ev_17 (by decide) rfl inn_X8_payFor_8 (by decide) (X.2.2.2.1 (.fieldLink RX8 113 "SilkMill$Store" "faults" "I") (by decide +kernel)) rfl (gv_806 _ _) dX8_payFor_61 ?_
        refine lv_icmp_ge (tgt := 124) X.1 X.2.1 dX8_payFor_64 (by decide) (fun c_20 => ?_) (fun c_20 => ?_)
        · have z_b_21 := trivial
          have k_22 : i5_14_z ≥ v_17.toInt := z_le rfl hz_i5_14 c_20
          refine lv_iload X.1 X.2.1 dX8_payFor_124 (lv_at hl 0 rfl) ?_
          rw [hQQ]
          exact ret_i X hw hr hlocks (Nat.le_of_ble_eq_true rfl) (Nat.le_of_ble_eq_true rfl) ⟨rfl, trivial⟩ dX8_payFor_126
        · have z_b_23 := trivial
          have k_24 : i5_14_z < v_17.toInt := z_nle rfl hz_i5_14 c_20
          refine lv_aload_n X.1 X.2.1 dX8_payFor_67 rfl (lv_at hl 2 rfl) ?_
          refine lv_aload_n X.1 X.2.1 dX8_payFor_68 rfl (lv_at hl 2 rfl) ?_
          obtain ⟨q_25, h_26, h_27, h_28⟩ := gQ_8_809 hG ha_x
          refine r_getR (g := 809) X hw ha_x rfl 9 h_26 (by decide) rfl inn_X8_payFor_8 (by decide) (X.2.2.2.1 (.fieldLink RX8 21 "SilkMill$Store" "faultSkeins" "[I") (by decide +kernel)) rfl (gv_809 _ _) dX8_payFor_69 ?_
          refine lv_iload X.1 X.2.1 dX8_payFor_72 (lv_at hl 1 rfl) ?_
          refine r_iald X hw h_27 rfl (by rw [h_28]; exact z_ix hz_i5_14 (by omega) (by omega)) dX8_payFor_74 ?_
          refine lv_topi (fun v_29 ev_29 => ?_)
          have rg_30 := And.intro (z_lo v_29) (z_hi v_29)
          have ev_29 := ev_29.symm
          refine k_q (rm := { frames := 1, cells := 0, slots := 0, locals := 48 }) (av := [.ref x, .int (v_29)]) X hw (va_runV (As := [.int (v_29)]) (rest := []) (cfix X) (k_X8_skeinAt l G cy κ S _ x (v_29) (v_29.toInt) hG ha_x rfl) (cwV 1 X.2.2.2.1 gX8_payFor_X8_skeinAt rfl rfl rfl (by decide +kernel) ⟨Nat.le_of_ble_eq_true rfl, Nat.le_of_ble_eq_true rfl⟩) (pre_V X hw _ ha_x rfl (by decide) rfl) rfl rfl hl.1 rfl (lv_room (Nat.le_of_ble_eq_true rfl)) dX8_payFor_75 ⟨Nat.le_of_ble_eq_true rfl, Nat.le_of_ble_eq_true rfl⟩) 0 0 (Nat.le_of_ble_eq_true rfl) (Nat.le_of_ble_eq_true rfl) (fun rr_31 S_32 H locs hp hw hfr hnw => ?_)
          obtain ⟨e2, hp⟩ := hp
          subst e2
          have hq_33 := hp
          rcases rr_31 with _ | q_34
          · refine W.eq (g2 := F0 m 78 ls (.null :: [])) rfl ?_
            refine lv_astoreN (lv' := [(6, .null), (4, .int (i4_13)), (5, .int (i5_14)), (0, .ref x), (1, .int (a1)), (2, .int (a2)), (3, .int (a3))]) X.1 X.2.1 dX8_payFor_78 hl (by decide) rfl (fun ls hl => ?_)
            refine lv_aloadN X.1 X.2.1 dX8_payFor_80 (lv_at hl 0 rfl) ?_
            refine lv_ifnullN (tgt := 118) X.1 X.2.1 dX8_payFor_82 (by decide) ?_
            obtain ⟨x_35, ex_35⟩ : ∃ y : Int32, y = i5_14 + 1 := ⟨_, rfl⟩
            have z_36 : x_35.toInt = i5_14_z + 1 := z_add ex_35 hz_i5_14 ti_1 (by omega) (by omega)
            refine lv_iinc (v := x_35) (lv' := [(5, .int (x_35)), (6, .null), (4, .int (i4_13)), (0, .ref x), (1, .int (a1)), (2, .int (a2)), (3, .int (a3))]) X.1 X.2.1 dX8_payFor_118 hl (k := 2) rfl (by rw [ex_35]; rfl) (by decide) rfl (fun ls hl => ?_)
            refine lv_goto (tgt := 58) X.1 X.2.1 dX8_payFor_121 (by decide) ?_
            exact ih _ (by omega) _ _ _ (i4_13) (i4_13_z) (x_35) (x_35.toInt) rfl hw hz_i4_13 rfl (by omega) (lv_sub hl [2, 0, 3, 4, 5, 6] rfl)
          · refine W.eq (g2 := F0 m 78 ls (.ref q_34 :: [])) rfl ?_
            obtain ⟨ha_37, f_38, f_39⟩ := hq_33 _ rfl
            refine lv_astore (lv' := [(6, .ref q_34), (4, .int (i4_13)), (5, .int (i5_14)), (0, .ref x), (1, .int (a1)), (2, .int (a2)), (3, .int (a3))]) X.1 X.2.1 dX8_payFor_78 hl (by decide) rfl (fun ls hl => ?_)
            refine lv_aload X.1 X.2.1 dX8_payFor_80 (lv_at hl 0 rfl) ?_
            refine lv_ifnull X.1 X.2.1 dX8_payFor_82 ?_
            refine lv_aload X.1 X.2.1 dX8_payFor_85 (lv_at hl 0 rfl) ?_
            refine lv_iload_n X.1 X.2.1 dX8_payFor_87 rfl (lv_at hl 4 rfl) ?_
            refine lv_iload_n X.1 X.2.1 dX8_payFor_88 rfl (lv_at hl 5 rfl) ?_
            refine k_i (rm := { frames := 1, cells := 0, slots := 0, locals := 48 }) (av := [.ref q_34, .int (a1), .int (a2)]) X hw (va_runV (As := [.int (a1), .int (a2)]) (rest := []) (cfix X) (k_X7_isOf l G cy κ S _ q_34 (a1) (a1_z) (a2) (a2_z) hG ha_37 hz_a1 hz_a2) (cwV 2 X.2.2.2.1 gX8_payFor_X7_isOf rfl rfl rfl (by decide +kernel) ⟨Nat.le_of_ble_eq_true rfl, Nat.le_of_ble_eq_true rfl⟩) (pre_V X hw _ ha_37 rfl (by decide) rfl) rfl rfl hl.1 rfl (lv_room (Nat.le_of_ble_eq_true rfl)) dX8_payFor_89 ⟨Nat.le_of_ble_eq_true rfl, Nat.le_of_ble_eq_true rfl⟩) 0 0 (Nat.le_of_ble_eq_true rfl) (Nat.le_of_ble_eq_true rfl) (fun rr_40 S_41 H locs hp hw hfr hnw => ?_)
            obtain ⟨e2, hp⟩ := hp
            subst e2
            rcases hp with ⟨f_42, er_43⟩ | ⟨f_42, er_43⟩ <;> subst er_43
            · have z_b_44 := trivial
              refine lv_if_eq (tgt := 118) X.1 X.2.1 dX8_payFor_92 (by decide) (fun c_45 => absurd c_45 (by decide)) (fun c_45 => ?_)
              refine lv_aload_n X.1 X.2.1 dX8_payFor_95 rfl (lv_at hl 3 rfl) ?_
              obtain ⟨q_46, h_47, h_48, h_49⟩ := gQ_8_810 hG ha_x
              refine r_getR (g := 810) X hw ha_x rfl 10 h_47 (by decide) rfl inn_X8_payFor_8 (by decide) (X.2.2.2.1 (.fieldLink RX8 24 "SilkMill$Store" "faultDays" "[I") (by decide +kernel)) rfl (gv_810 _ _) dX8_payFor_96 ?_
              refine lv_iload X.1 X.2.1 dX8_payFor_99 (lv_at hl 2 rfl) ?_
              refine r_iald X hw h_48 rfl (by rw [h_49]; exact z_ix hz_i5_14 (by omega) (by omega)) dX8_payFor_101 ?_
              refine lv_topi (fun v_50 ev_50 => ?_)
              have rg_51 := And.intro (z_lo v_50) (z_hi v_50)
              have ev_50 := ev_50.symm
              refine lv_iload_n X.1 X.2.1 dX8_payFor_102 rfl (lv_at hl 6 rfl) ?_
              refine lv_icmp_gt (tgt := 118) X.1 X.2.1 dX8_payFor_103 (by decide) (fun c_52 => ?_) (fun c_52 => ?_)
              · have z_b_53 := trivial
                have k_54 : v_50.toInt > a3_z := z_lt hz_a3 rfl c_52
                obtain ⟨x_55, ex_55⟩ : ∃ y : Int32, y = i5_14 + 1 := ⟨_, rfl⟩
                have z_56 : x_55.toInt = i5_14_z + 1 := z_add ex_55 hz_i5_14 ti_1 (by omega) (by omega)
                refine lv_iinc (v := x_55) (lv' := [(5, .int (x_55)), (6, .ref q_34), (4, .int (i4_13)), (0, .ref x), (1, .int (a1)), (2, .int (a2)), (3, .int (a3))]) X.1 X.2.1 dX8_payFor_118 hl (k := 2) rfl (by rw [ex_55]; rfl) (by decide) rfl (fun ls hl => ?_)
                refine lv_goto (tgt := 58) X.1 X.2.1 dX8_payFor_121 (by decide) ?_
                exact ih _ (by omega) _ _ _ (i4_13) (i4_13_z) (x_55) (x_55.toInt) rfl hw hz_i4_13 rfl (by omega) (lv_sub hl [2, 0, 3, 4, 5, 6] rfl)
              · have z_b_57 := trivial
                have k_58 : v_50.toInt ≤ a3_z := z_nlt hz_a3 rfl c_52
                refine lv_iload X.1 X.2.1 dX8_payFor_106 (lv_at hl 1 rfl) ?_
                refine lv_aload_n X.1 X.2.1 dX8_payFor_108 rfl (lv_at hl 3 rfl) ?_
                obtain ⟨q_59, h_60, h_61, h_62⟩ := gQ_8_811 hG ha_x
                refine r_getR (g := 811) X hw ha_x rfl 11 h_60 (by decide) rfl inn_X8_payFor_8 (by decide) (X.2.2.2.1 (.fieldLink RX8 27 "SilkMill$Store" "faultAmounts" "[I") (by decide +kernel)) rfl (gv_811 _ _) dX8_payFor_109 ?_
                refine lv_iload X.1 X.2.1 dX8_payFor_112 (lv_at hl 2 rfl) ?_
                refine r_iald X hw h_61 rfl (by rw [h_62]; exact z_ix hz_i5_14 (by omega) (by omega)) dX8_payFor_114 ?_
                refine lv_topi (fun v_63 ev_63 => ?_)
                have rg_64 := And.intro (z_lo v_63) (z_hi v_63)
                have ev_63 := ev_63.symm
                refine lv_isub X.1 X.2.1 dX8_payFor_115 ?_
                refine lv_topi (fun v_65 ev_65 => ?_)
                have rg_66 := And.intro (z_lo v_65) (z_hi v_65)
                refine lv_istore (lv' := [(4, .int (v_65)), (6, .ref q_34), (5, .int (i5_14)), (0, .ref x), (1, .int (a1)), (2, .int (a2)), (3, .int (a3))]) X.1 X.2.1 dX8_payFor_116 hl (by decide) rfl (fun ls hl => ?_)
                obtain ⟨x_67, ex_67⟩ : ∃ y : Int32, y = i5_14 + 1 := ⟨_, rfl⟩
                have z_68 : x_67.toInt = i5_14_z + 1 := z_add ex_67 hz_i5_14 ti_1 (by omega) (by omega)
                refine lv_iinc (v := x_67) (lv' := [(5, .int (x_67)), (4, .int (v_65)), (6, .ref q_34), (0, .ref x), (1, .int (a1)), (2, .int (a2)), (3, .int (a3))]) X.1 X.2.1 dX8_payFor_118 hl (k := 2) rfl (by rw [ex_67]; rfl) (by decide) rfl (fun ls hl => ?_)
                refine lv_goto (tgt := 58) X.1 X.2.1 dX8_payFor_121 (by decide) ?_
                exact ih _ (by omega) _ _ _ (v_65) (v_65.toInt) (x_67) (x_67.toInt) rfl hw rfl rfl (by omega) (lv_sub hl [1, 0, 3, 4, 5, 6] rfl)
            · have z_b_69 := trivial
              refine lv_if_eq (tgt := 118) X.1 X.2.1 dX8_payFor_92 (by decide) (fun c_70 => ?_) (fun c_70 => absurd c_70 (by decide))
              obtain ⟨x_71, ex_71⟩ : ∃ y : Int32, y = i5_14 + 1 := ⟨_, rfl⟩
              have z_72 : x_71.toInt = i5_14_z + 1 := z_add ex_71 hz_i5_14 ti_1 (by omega) (by omega)
              refine lv_iinc (v := x_71) (lv' := [(5, .int (x_71)), (6, .ref q_34), (4, .int (i4_13)), (0, .ref x), (1, .int (a1)), (2, .int (a2)), (3, .int (a3))]) X.1 X.2.1 dX8_payFor_118 hl (k := 2) rfl (by rw [ex_71]; rfl) (by decide) rfl (fun ls hl => ?_)
              refine lv_goto (tgt := 58) X.1 X.2.1 dX8_payFor_121 (by decide) ?_
              exact ih _ (by omega) _ _ _ (i4_13) (i4_13_z) (x_71) (x_71.toInt) rfl hw hz_i4_13 rfl (by omega) (lv_sub hl [2, 0, 3, 4, 5, 6] rfl)
      exact L_12 _ _ _ _ (i4_2) (i4_2_z) (0) (0) rfl hw hz_i4_2 ti_0 (by omega) (lv_sub hl [1, 0, 2, 3, 4, 5] rfl)
    · have z_b_73 := trivial
      have k_74 : i5_3_z < v_6.toInt := z_nle rfl hz_i5_3 c_9
      refine lv_aload_n X.1 X.2.1 dX8_payFor_15 rfl (lv_at hl 2 rfl) ?_
      refine lv_iload X.1 X.2.1 dX8_payFor_16 (lv_at hl 1 rfl) ?_
      refine k_q (rm := { frames := 1, cells := 0, slots := 0, locals := 48 }) (av := [.ref x, .int (i5_3)]) X hw (va_runV (As := [.int (i5_3)]) (rest := []) (cfix X) (k_X8_skeinAt l G cy κ S _ x (i5_3) (i5_3_z) hG ha_x hz_i5_3) (cwV 1 X.2.2.2.1 gX8_payFor_X8_skeinAt rfl rfl rfl (by decide +kernel) ⟨Nat.le_of_ble_eq_true rfl, Nat.le_of_ble_eq_true rfl⟩) (pre_V X hw _ ha_x rfl (by decide) rfl) rfl rfl hl.1 rfl (lv_room (Nat.le_of_ble_eq_true rfl)) dX8_payFor_18 ⟨Nat.le_of_ble_eq_true rfl, Nat.le_of_ble_eq_true rfl⟩) 0 0 (Nat.le_of_ble_eq_true rfl) (Nat.le_of_ble_eq_true rfl) (fun rr_75 S_76 H locs hp hw hfr hnw => ?_)
      obtain ⟨e2, hp⟩ := hp
      subst e2
      have hq_77 := hp
      rcases rr_75 with _ | q_78
      · refine W.eq (g2 := F0 m 21 ls (.null :: [])) rfl ?_
        refine lv_astoreN (lv' := [(6, .null), (4, .int (i4_2)), (5, .int (i5_3)), (0, .ref x), (1, .int (a1)), (2, .int (a2)), (3, .int (a3))]) X.1 X.2.1 dX8_payFor_21 hl (by decide) rfl (fun ls hl => ?_)
        refine lv_aloadN X.1 X.2.1 dX8_payFor_23 (lv_at hl 0 rfl) ?_
        refine lv_ifnullN (tgt := 49) X.1 X.2.1 dX8_payFor_25 (by decide) ?_
        obtain ⟨x_79, ex_79⟩ : ∃ y : Int32, y = i5_3 + 1 := ⟨_, rfl⟩
        have z_80 : x_79.toInt = i5_3_z + 1 := z_add ex_79 hz_i5_3 ti_1 (by omega) (by omega)
        refine lv_iinc (v := x_79) (lv' := [(5, .int (x_79)), (6, .null), (4, .int (i4_2)), (0, .ref x), (1, .int (a1)), (2, .int (a2)), (3, .int (a3))]) X.1 X.2.1 dX8_payFor_49 hl (k := 2) rfl (by rw [ex_79]; rfl) (by decide) rfl (fun ls hl => ?_)
        refine lv_goto (tgt := 6) X.1 X.2.1 dX8_payFor_52 (by decide) ?_
        exact ih _ (by omega) _ _ _ (i4_2) (i4_2_z) (x_79) (x_79.toInt) rfl hw hz_i4_2 rfl (by omega) (lv_sub hl [2, 0, 3, 4, 5, 6] rfl)
      · refine W.eq (g2 := F0 m 21 ls (.ref q_78 :: [])) rfl ?_
        obtain ⟨ha_81, f_82, f_83⟩ := hq_77 _ rfl
        refine lv_astore (lv' := [(6, .ref q_78), (4, .int (i4_2)), (5, .int (i5_3)), (0, .ref x), (1, .int (a1)), (2, .int (a2)), (3, .int (a3))]) X.1 X.2.1 dX8_payFor_21 hl (by decide) rfl (fun ls hl => ?_)
        refine lv_aload X.1 X.2.1 dX8_payFor_23 (lv_at hl 0 rfl) ?_
        refine lv_ifnull X.1 X.2.1 dX8_payFor_25 ?_
        refine lv_aload X.1 X.2.1 dX8_payFor_28 (lv_at hl 0 rfl) ?_
        refine lv_iload_n X.1 X.2.1 dX8_payFor_30 rfl (lv_at hl 4 rfl) ?_
        refine lv_iload_n X.1 X.2.1 dX8_payFor_31 rfl (lv_at hl 5 rfl) ?_
        refine k_i (rm := { frames := 1, cells := 0, slots := 0, locals := 48 }) (av := [.ref q_78, .int (a1), .int (a2)]) X hw (va_runV (As := [.int (a1), .int (a2)]) (rest := []) (cfix X) (k_X7_isOf l G cy κ S _ q_78 (a1) (a1_z) (a2) (a2_z) hG ha_81 hz_a1 hz_a2) (cwV 2 X.2.2.2.1 gX8_payFor_X7_isOf rfl rfl rfl (by decide +kernel) ⟨Nat.le_of_ble_eq_true rfl, Nat.le_of_ble_eq_true rfl⟩) (pre_V X hw _ ha_81 rfl (by decide) rfl) rfl rfl hl.1 rfl (lv_room (Nat.le_of_ble_eq_true rfl)) dX8_payFor_32 ⟨Nat.le_of_ble_eq_true rfl, Nat.le_of_ble_eq_true rfl⟩) 0 0 (Nat.le_of_ble_eq_true rfl) (Nat.le_of_ble_eq_true rfl) (fun rr_84 S_85 H locs hp hw hfr hnw => ?_)
        obtain ⟨e2, hp⟩ := hp
        subst e2
        rcases hp with ⟨f_86, er_87⟩ | ⟨f_86, er_87⟩ <;> subst er_87
        · have z_b_88 := trivial
          refine lv_if_eq (tgt := 49) X.1 X.2.1 dX8_payFor_35 (by decide) (fun c_89 => absurd c_89 (by decide)) (fun c_89 => ?_)
          refine lv_iload X.1 X.2.1 dX8_payFor_38 (lv_at hl 1 rfl) ?_
          refine lv_aload_n X.1 X.2.1 dX8_payFor_40 rfl (lv_at hl 3 rfl) ?_
          refine lv_aload X.1 X.2.1 dX8_payFor_41 (lv_at hl 0 rfl) ?_
          refine k_i (rm := { frames := 2, cells := 0, slots := 0, locals := 96 }) (av := [.ref x, .ref q_78]) X hw (va_runV (As := [.ref q_78]) (rest := [.int (i4_2)]) (cfix X) (k_X8_priceOf l G cy κ S _ x q_78 hG ha_x ha_81) (cwV 1 X.2.2.2.1 gX8_payFor_X8_priceOf rfl rfl rfl (by decide +kernel) ⟨Nat.le_of_ble_eq_true rfl, Nat.le_of_ble_eq_true rfl⟩) (pre_V X hw _ ha_x rfl (by decide) rfl) rfl rfl hl.1 rfl (lv_room (Nat.le_of_ble_eq_true rfl)) dX8_payFor_43 ⟨Nat.le_of_ble_eq_true rfl, Nat.le_of_ble_eq_true rfl⟩) 0 0 (Nat.le_of_ble_eq_true rfl) (Nat.le_of_ble_eq_true rfl) (fun rr_90 S_91 H locs hp hw hfr hnw => ?_)
          obtain ⟨e2, hp⟩ := hp
          subst e2
          have rg_92 := And.intro (z_lo rr_90) (z_hi rr_90)
          refine lv_iadd X.1 X.2.1 dX8_payFor_46 ?_
          refine lv_topi (fun v_93 ev_93 => ?_)
          have rg_94 := And.intro (z_lo v_93) (z_hi v_93)
          refine lv_istore (lv' := [(4, .int (v_93)), (6, .ref q_78), (5, .int (i5_3)), (0, .ref x), (1, .int (a1)), (2, .int (a2)), (3, .int (a3))]) X.1 X.2.1 dX8_payFor_47 hl (by decide) rfl (fun ls hl => ?_)
          obtain ⟨x_95, ex_95⟩ : ∃ y : Int32, y = i5_3 + 1 := ⟨_, rfl⟩
          have z_96 : x_95.toInt = i5_3_z + 1 := z_add ex_95 hz_i5_3 ti_1 (by omega) (by omega)
          refine lv_iinc (v := x_95) (lv' := [(5, .int (x_95)), (4, .int (v_93)), (6, .ref q_78), (0, .ref x), (1, .int (a1)), (2, .int (a2)), (3, .int (a3))]) X.1 X.2.1 dX8_payFor_49 hl (k := 2) rfl (by rw [ex_95]; rfl) (by decide) rfl (fun ls hl => ?_)
          refine lv_goto (tgt := 6) X.1 X.2.1 dX8_payFor_52 (by decide) ?_
          exact ih _ (by omega) _ _ _ (v_93) (v_93.toInt) (x_95) (x_95.toInt) rfl hw rfl rfl (by omega) (lv_sub hl [1, 0, 3, 4, 5, 6] rfl)
        · have z_b_97 := trivial
          refine lv_if_eq (tgt := 49) X.1 X.2.1 dX8_payFor_35 (by decide) (fun c_98 => ?_) (fun c_98 => absurd c_98 (by decide))
          obtain ⟨x_99, ex_99⟩ : ∃ y : Int32, y = i5_3 + 1 := ⟨_, rfl⟩
          have z_100 : x_99.toInt = i5_3_z + 1 := z_add ex_99 hz_i5_3 ti_1 (by omega) (by omega)
          refine lv_iinc (v := x_99) (lv' := [(5, .int (x_99)), (6, .ref q_78), (4, .int (i4_2)), (0, .ref x), (1, .int (a1)), (2, .int (a2)), (3, .int (a3))]) X.1 X.2.1 dX8_payFor_49 hl (k := 2) rfl (by rw [ex_99]; rfl) (by decide) rfl (fun ls hl => ?_)
          refine lv_goto (tgt := 6) X.1 X.2.1 dX8_payFor_52 (by decide) ?_
          exact ih _ (by omega) _ _ _ (i4_2) (i4_2_z) (x_99) (x_99.toInt) rfl hw hz_i4_2 rfl (by omega) (lv_sub hl [2, 0, 3, 4, 5, 6] rfl)
  exact L_1 _ _ _ _ (0) (0) (0) (0) rfl hw ti_0 ti_0 (by omega) (lv_sub hl [1, 0, 2, 3, 4, 5] rfl)
set_option maxHeartbeats 4000000 in
set_option maxRecDepth 100000 in
theorem k_X8_markMix (l : Launch) (G : va_G) (cy : Nat → ClassId) (κ : Nat → Nat) (S : PS) (sz : Nat) (x : Nat) (a1 : Int32) (a1_z : Int) (hG : GX S) (ha_x : At S x 8) (hz_a1 : a1.toInt = a1_z) : Cv l yX8_markMix wsX8_markMix ({ frames := 2, cells := 0, slots := 0, locals := 96 }) G cy κ S sz [.ref x, .int (a1)] (fun (S9 : PS) => Ok eMM S S9 ∧ (True)) := by
  refine ent_m (cc := cX8_markMix) (maxL := 4) (ret := none) (by decide) rfl (Nat.le_of_ble_eq_true rfl) ?_
  intro p e s m below meth c ls X hr hlocks hin hw hl hsz
  subst hsz
  have X : Cx p c cX8_markMix 4 s [.ref x, .int (a1)].toArray wsX8_markMix RX8 m G cy κ (AS S s.heap.size) := X
  have hl : lv_has ls 4 [(0, .ref x), (1, .int (a1))] := hl
  have rg_a1 : (-2147483648) ≤ a1_z ∧ a1_z ≤ 2147483647 := by rw [← hz_a1]; exact ⟨z_lo _, z_hi _⟩
  have hO : Ok eMM S S := Ok.rf hG
  generalize hQQ : MQ below _ _ _ _ _ _ = QQ
  replace hQQ := hQQ.symm
  refine lv_iconst (v := 0) X.1 X.2.1 dX8_markMix_0 (by decide) ?_
  refine lv_istore_n (lv' := [(2, .int 0), (0, .ref x), (1, .int (a1))]) X.1 X.2.1 dX8_markMix_1 rfl hl (by decide) rfl (fun ls hl => ?_)
  have L_1 : ∀ (n : Nat) (T_3 : PS) (H : Heap) (locs : List Loc) (ls : Array Slot) (i2_2 : Int32) (i2_2_z : Int), ((40 - i2_2_z).toNat = n) → (Wd G cy (AS S s.heap.size) s.heap T_3 H locs) → (i2_2.toInt = i2_2_z) → (0 ≤ i2_2_z ∧ i2_2_z ≤ 40) → (At T_3 x 8) → (Ok eMM S T_3) → (lv_has ls 4 [(2, .int (i2_2)), (0, .ref x), (1, .int (a1))]) → W p l e ({ frames := 2, cells := 0, slots := 0, locals := 96 }) s m [.ref x, .int (a1)].toArray below meth c H locs 0 0 QQ (F0 m 2 ls []) := by
    intro n
    induction n using Nat.strongRecOn with
    | ind n ih =>
    intro T_3 H locs ls i2_2 i2_2_z hn hw hz_i2_2 hr_i2_2 ha_x_L_4 hO_T_3 hl
    have rg_5 : (-2147483648) ≤ i2_2_z ∧ i2_2_z ≤ 2147483647 := by rw [← hz_i2_2]; exact ⟨z_lo _, z_hi _⟩
    refine lv_iload_n X.1 X.2.1 dX8_markMix_2 rfl (lv_at hl 0 rfl) ?_
    refine lv_aload_n X.1 X.2.1 dX8_markMix_3 rfl (lv_at hl 1 rfl) ?_
    obtain ⟨v_6, ev_6⟩ : ∃ v, pI T_3 800 x = v := ⟨_, rfl⟩
    have rg_7 := gI_8_800 hO_T_3.1 ha_x_L_4; rw [ev_6] at rg_7
    have pz_8 : (pI T_3 800 x).toInt = v_6.toInt := by rw [ev_6]
    refine r_getI (g := 800) (x := v_6) X hw ha_x_L_4 rfl 0 ev_6 (by decide) rfl inn_X8_markMix_8 (by decide) (X.2.2.2.1 (.fieldLink RX8 37 "SilkMill$Store" "kept" "I") (by decide +kernel)) rfl (gv_800 _ _) dX8_markMix_4 ?_
    refine lv_icmp_ge (tgt := 65) X.1 X.2.1 dX8_markMix_7 (by decide) (fun c_9 => ?_) (fun c_9 => ?_)
    · have z_b_10 := trivial
      have k_11 : i2_2_z ≥ v_6.toInt := z_le rfl hz_i2_2 c_9
      rw [hQQ]
      exact ret_v X hw hr hlocks (Nat.le_of_ble_eq_true rfl) (Nat.le_of_ble_eq_true rfl) ⟨hO_T_3, trivial⟩ dX8_markMix_65
    · have z_b_12 := trivial
      have k_13 : i2_2_z < v_6.toInt := z_nle rfl hz_i2_2 c_9
      refine lv_aload_n X.1 X.2.1 dX8_markMix_10 rfl (lv_at hl 1 rfl) ?_
      refine lv_iload_n X.1 X.2.1 dX8_markMix_11 rfl (lv_at hl 0 rfl) ?_
      refine k_q (rm := { frames := 1, cells := 0, slots := 0, locals := 48 }) (av := [.ref x, .int (i2_2)]) X hw (va_runV (As := [.int (i2_2)]) (rest := []) (cfix X) (k_X8_skeinAt l G cy κ T_3 _ x (i2_2) (i2_2_z) hO_T_3.1 ha_x_L_4 hz_i2_2) (cwV 1 X.2.2.2.1 gX8_markMix_X8_skeinAt rfl rfl rfl (by decide +kernel) ⟨Nat.le_of_ble_eq_true rfl, Nat.le_of_ble_eq_true rfl⟩) (pre_V X hw _ ha_x_L_4 rfl (by decide) rfl) rfl rfl hl.1 rfl (lv_room (Nat.le_of_ble_eq_true rfl)) dX8_markMix_12 ⟨Nat.le_of_ble_eq_true rfl, Nat.le_of_ble_eq_true rfl⟩) 0 0 (Nat.le_of_ble_eq_true rfl) (Nat.le_of_ble_eq_true rfl) (fun rr_14 S_15 H locs hp hw hfr hnw => ?_)
      obtain ⟨e2, hp⟩ := hp
      subst e2
      have hq_16 := hp
      rcases rr_14 with _ | q_17
      · refine W.eq (g2 := F0 m 15 ls (.null :: [])) rfl ?_
        refine lv_astore_nN (lv' := [(3, .null), (2, .int (i2_2)), (0, .ref x), (1, .int (a1))]) X.1 X.2.1 dX8_markMix_15 rfl hl (by decide) rfl (fun ls hl => ?_)
        refine lv_aload_nN X.1 X.2.1 dX8_markMix_16 rfl (lv_at hl 0 rfl) ?_
        refine lv_ifnullN (tgt := 59) X.1 X.2.1 dX8_markMix_17 (by decide) ?_
        obtain ⟨x_18, ex_18⟩ : ∃ y : Int32, y = i2_2 + 1 := ⟨_, rfl⟩
        have z_19 : x_18.toInt = i2_2_z + 1 := z_add ex_18 hz_i2_2 ti_1 (by omega) (by omega)
        refine lv_iinc (v := x_18) (lv' := [(2, .int (x_18)), (3, .null), (0, .ref x), (1, .int (a1))]) X.1 X.2.1 dX8_markMix_59 hl (k := 1) rfl (by rw [ex_18]; rfl) (by decide) rfl (fun ls hl => ?_)
        refine lv_goto (tgt := 2) X.1 X.2.1 dX8_markMix_62 (by decide) ?_
        exact ih _ (by omega) _ _ _ _ (x_18) (x_18.toInt) rfl hw rfl (by omega) ha_x_L_4 hO_T_3 (lv_sub hl [0, 2, 3] rfl)
      · refine W.eq (g2 := F0 m 15 ls (.ref q_17 :: [])) rfl ?_
        obtain ⟨ha_20, f_21, f_22⟩ := hq_16 _ rfl
        refine lv_astore_n (lv' := [(3, .ref q_17), (2, .int (i2_2)), (0, .ref x), (1, .int (a1))]) X.1 X.2.1 dX8_markMix_15 rfl hl (by decide) rfl (fun ls hl => ?_)
        refine lv_aload_n X.1 X.2.1 dX8_markMix_16 rfl (lv_at hl 0 rfl) ?_
        refine lv_ifnull X.1 X.2.1 dX8_markMix_17 ?_
        refine lv_aload_n X.1 X.2.1 dX8_markMix_20 rfl (lv_at hl 0 rfl) ?_
        refine lv_aload_n X.1 X.2.1 dX8_markMix_21 rfl (lv_at hl 2 rfl) ?_
        obtain ⟨q_23, h_24, h_25⟩ := gQ_8_812 hO_T_3.1 ha_x_L_4
        refine r_getR (g := 812) X hw ha_x_L_4 rfl 12 h_24 (by decide) rfl inn_X8_markMix_8 (by decide) (X.2.2.2.1 (.fieldLink RX8 33 "SilkMill$Store" "mixer" "LSilkMill$Mixer;") (by decide +kernel)) rfl (gv_812 _ _) dX8_markMix_22 ?_
        refine lv_iload_n X.1 X.2.1 dX8_markMix_25 rfl (lv_at hl 1 rfl) ?_
        refine k_i (rm := { frames := 1, cells := 0, slots := 0, locals := 48 }) (av := [.ref q_23, .int (i2_2)]) X hw (va_runV (As := [.int (i2_2)]) (rest := [.ref q_17]) (cfix X) (k_X2_isChosen l G cy κ T_3 _ q_23 (i2_2) (i2_2_z) hO_T_3.1 h_25 hz_i2_2) (cwV 1 X.2.2.2.1 gX8_markMix_X2_isChosen rfl rfl rfl (by decide +kernel) ⟨Nat.le_of_ble_eq_true rfl, Nat.le_of_ble_eq_true rfl⟩) (pre_V X hw _ h_25 rfl (by decide) rfl) rfl rfl hl.1 rfl (lv_room (Nat.le_of_ble_eq_true rfl)) dX8_markMix_26 ⟨Nat.le_of_ble_eq_true rfl, Nat.le_of_ble_eq_true rfl⟩) 0 0 (Nat.le_of_ble_eq_true rfl) (Nat.le_of_ble_eq_true rfl) (fun rr_27 S_28 H locs hp hw hfr hnw => ?_)
        obtain ⟨e2, hp⟩ := hp
        subst e2
        rcases hp with ⟨f_29, er_30⟩ | ⟨f_29, er_30⟩ <;> subst er_30
        · have z_b_31 := trivial
          refine r_putI (v := 1) X hw ha_20 rfl 9 709 tyX7 (by decide) rfl inn_X8_markMix_7 tyX7_ok nmX7 (by decide) (X.2.2.2.1 (.fieldLink RX8 110 "SilkMill$Skein" "inLatestMix" "Z") (by decide +kernel)) rfl (Or.inl rfl) (by decide) (by decide) (Nat.le_of_ble_eq_true rfl) (st_709 _ _) dX8_markMix_29 (fun H locs hw => ?_)
          obtain ⟨S_32, eS_32⟩ : ∃ T, T = sI T_3 709 q_17 (1) := ⟨_, rfl⟩
          rw [← eS_32] at hw
          have hO_33 : Ok eMM S S_32 := hO_T_3.sI eS_32 (by decide +kernel) (uI_7_709 hO_T_3.1 ha_20)
          have h_34 : pI S_32 709 q_17 = 1 := tI_sIs eS_32
          refine lv_aload_n X.1 X.2.1 dX8_markMix_32 rfl (lv_at hl 0 rfl) ?_
          refine lv_aload_n X.1 X.2.1 dX8_markMix_33 rfl (lv_at hl 0 rfl) ?_
          have t_35 : At S_32 q_17 7 := tAt_sI eS_32 ha_20
          obtain ⟨v_36, ev_36⟩ : ∃ v, pI S_32 708 q_17 = v := ⟨_, rfl⟩
          have rg_38 := And.intro (z_lo v_36) (z_hi v_36)
          have pz_39 : (pI S_32 708 q_17).toInt = v_36.toInt := by rw [ev_36]
          refine r_getI (g := 708) (x := v_36) X hw t_35 rfl 8 ev_36 (by decide) rfl inn_X8_markMix_7 (by decide) (X.2.2.2.1 (.fieldLink RX8 80 "SilkMill$Skein" "sold" "Z") (by decide +kernel)) rfl (gv_708 _ _) dX8_markMix_34 ?_
          refine lv_if_ne (tgt := 51) X.1 X.2.1 dX8_markMix_37 (by decide) (fun c_40 => ?_) (fun c_40 => ?_)
          · have z_b_41 := trivial
            have k_42 : v_36.toInt ≠ 0 := z_ne rfl ti_0 c_40
            refine lv_iconst (v := 1) X.1 X.2.1 dX8_markMix_51 (by decide) ?_
            refine lv_goto (tgt := 56) X.1 X.2.1 dX8_markMix_52 (by decide) ?_
            refine r_putI (v := 1) X hw t_35 rfl 8 708 tyX7 (by decide) rfl inn_X8_markMix_7 tyX7_ok nmX7 (by decide) (X.2.2.2.1 (.fieldLink RX8 80 "SilkMill$Skein" "sold" "Z") (by decide +kernel)) rfl (Or.inl rfl) (by decide) (by decide) (Nat.le_of_ble_eq_true rfl) (st_708 _ _) dX8_markMix_56 (fun H locs hw => ?_)
            obtain ⟨S_43, eS_43⟩ : ∃ T, T = sI S_32 708 q_17 (1) := ⟨_, rfl⟩
            rw [← eS_43] at hw
            have hO_44 : Ok eMM S S_43 := hO_33.sI eS_43 (by decide +kernel) (uI_7_708 hO_33.1 t_35)
            have h_45 : pI S_43 708 q_17 = 1 := tI_sIs eS_43
            obtain ⟨x_46, ex_46⟩ : ∃ y : Int32, y = i2_2 + 1 := ⟨_, rfl⟩
            have z_47 : x_46.toInt = i2_2_z + 1 := z_add ex_46 hz_i2_2 ti_1 (by omega) (by omega)
            refine lv_iinc (v := x_46) (lv' := [(2, .int (x_46)), (3, .ref q_17), (0, .ref x), (1, .int (a1))]) X.1 X.2.1 dX8_markMix_59 hl (k := 1) rfl (by rw [ex_46]; rfl) (by decide) rfl (fun ls hl => ?_)
            refine lv_goto (tgt := 2) X.1 X.2.1 dX8_markMix_62 (by decide) ?_
            have t_48 : At S_32 x 8 := tAt_sI eS_32 ha_x_L_4
            have t_49 : At S_43 x 8 := tAt_sI eS_43 t_48
            exact ih _ (by omega) _ _ _ _ (x_46) (x_46.toInt) rfl hw rfl (by omega) t_49 hO_44 (lv_sub hl [0, 2, 3] rfl)
          · have z_b_50 := trivial
            have k_51 : v_36.toInt = 0 := z_eq rfl ti_0 c_40
            refine lv_aload_n X.1 X.2.1 dX8_markMix_40 rfl (lv_at hl 0 rfl) ?_
            refine r_getI (g := 709) (x := 1) X hw t_35 rfl 9 h_34 (by decide) rfl inn_X8_markMix_7 (by decide) (X.2.2.2.1 (.fieldLink RX8 110 "SilkMill$Skein" "inLatestMix" "Z") (by decide +kernel)) rfl (gv_709 _ _) dX8_markMix_41 ?_
            refine lv_if_eq (tgt := 55) X.1 X.2.1 dX8_markMix_44 (by decide) (fun c_52 => absurd c_52 (by decide)) (fun c_52 => ?_)
            refine lv_iload_n X.1 X.2.1 dX8_markMix_47 rfl (lv_at hl 3 rfl) ?_
            refine lv_if_eq (tgt := 55) X.1 X.2.1 dX8_markMix_48 (by decide) (fun c_53 => ?_) (fun c_53 => ?_)
            · have z_b_54 := trivial
              have k_55 : a1_z = 0 := z_eq hz_a1 ti_0 c_53
              refine lv_iconst (v := 0) X.1 X.2.1 dX8_markMix_55 (by decide) ?_
              refine r_putI (v := 0) X hw t_35 rfl 8 708 tyX7 (by decide) rfl inn_X8_markMix_7 tyX7_ok nmX7 (by decide) (X.2.2.2.1 (.fieldLink RX8 80 "SilkMill$Skein" "sold" "Z") (by decide +kernel)) rfl (Or.inl rfl) (by decide) (by decide) (Nat.le_of_ble_eq_true rfl) (st_708 _ _) dX8_markMix_56 (fun H locs hw => ?_)
              obtain ⟨S_56, eS_56⟩ : ∃ T, T = sI S_32 708 q_17 (0) := ⟨_, rfl⟩
              rw [← eS_56] at hw
              have hO_57 : Ok eMM S S_56 := hO_33.sI eS_56 (by decide +kernel) (uI_7_708 hO_33.1 t_35)
              have h_58 : pI S_56 708 q_17 = 0 := tI_sIs eS_56
              obtain ⟨x_59, ex_59⟩ : ∃ y : Int32, y = i2_2 + 1 := ⟨_, rfl⟩
              have z_60 : x_59.toInt = i2_2_z + 1 := z_add ex_59 hz_i2_2 ti_1 (by omega) (by omega)
              refine lv_iinc (v := x_59) (lv' := [(2, .int (x_59)), (3, .ref q_17), (0, .ref x), (1, .int (a1))]) X.1 X.2.1 dX8_markMix_59 hl (k := 1) rfl (by rw [ex_59]; rfl) (by decide) rfl (fun ls hl => ?_)
              refine lv_goto (tgt := 2) X.1 X.2.1 dX8_markMix_62 (by decide) ?_
              have t_61 : At S_32 x 8 := tAt_sI eS_32 ha_x_L_4
              have t_62 : At S_56 x 8 := tAt_sI eS_56 t_61
              exact ih _ (by omega) _ _ _ _ (x_59) (x_59.toInt) rfl hw rfl (by omega) t_62 hO_57 (lv_sub hl [0, 2, 3] rfl)
            · have z_b_63 := trivial
              have k_64 : a1_z ≠ 0 := z_ne hz_a1 ti_0 c_53
              refine lv_iconst (v := 1) X.1 X.2.1 dX8_markMix_51 (by decide) ?_
              refine lv_goto (tgt := 56) X.1 X.2.1 dX8_markMix_52 (by decide) ?_
              refine r_putI (v := 1) X hw t_35 rfl 8 708 tyX7 (by decide) rfl inn_X8_markMix_7 tyX7_ok nmX7 (by decide) (X.2.2.2.1 (.fieldLink RX8 80 "SilkMill$Skein" "sold" "Z") (by decide +kernel)) rfl (Or.inl rfl) (by decide) (by decide) (Nat.le_of_ble_eq_true rfl) (st_708 _ _) dX8_markMix_56 (fun H locs hw => ?_)
              obtain ⟨S_65, eS_65⟩ : ∃ T, T = sI S_32 708 q_17 (1) := ⟨_, rfl⟩
              rw [← eS_65] at hw
              have hO_66 : Ok eMM S S_65 := hO_33.sI eS_65 (by decide +kernel) (uI_7_708 hO_33.1 t_35)
              have h_67 : pI S_65 708 q_17 = 1 := tI_sIs eS_65
              obtain ⟨x_68, ex_68⟩ : ∃ y : Int32, y = i2_2 + 1 := ⟨_, rfl⟩
              have z_69 : x_68.toInt = i2_2_z + 1 := z_add ex_68 hz_i2_2 ti_1 (by omega) (by omega)
              refine lv_iinc (v := x_68) (lv' := [(2, .int (x_68)), (3, .ref q_17), (0, .ref x), (1, .int (a1))]) X.1 X.2.1 dX8_markMix_59 hl (k := 1) rfl (by rw [ex_68]; rfl) (by decide) rfl (fun ls hl => ?_)
              refine lv_goto (tgt := 2) X.1 X.2.1 dX8_markMix_62 (by decide) ?_
              have t_70 : At S_32 x 8 := tAt_sI eS_32 ha_x_L_4
              have t_71 : At S_65 x 8 := tAt_sI eS_65 t_70
              exact ih _ (by omega) _ _ _ _ (x_68) (x_68.toInt) rfl hw rfl (by omega) t_71 hO_66 (lv_sub hl [0, 2, 3] rfl)
        · have z_b_72 := trivial
          refine r_putI (v := 0) X hw ha_20 rfl 9 709 tyX7 (by decide) rfl inn_X8_markMix_7 tyX7_ok nmX7 (by decide) (X.2.2.2.1 (.fieldLink RX8 110 "SilkMill$Skein" "inLatestMix" "Z") (by decide +kernel)) rfl (Or.inl rfl) (by decide) (by decide) (Nat.le_of_ble_eq_true rfl) (st_709 _ _) dX8_markMix_29 (fun H locs hw => ?_)
          obtain ⟨S_73, eS_73⟩ : ∃ T, T = sI T_3 709 q_17 (0) := ⟨_, rfl⟩
          rw [← eS_73] at hw
          have hO_74 : Ok eMM S S_73 := hO_T_3.sI eS_73 (by decide +kernel) (uI_7_709 hO_T_3.1 ha_20)
          have h_75 : pI S_73 709 q_17 = 0 := tI_sIs eS_73
          refine lv_aload_n X.1 X.2.1 dX8_markMix_32 rfl (lv_at hl 0 rfl) ?_
          refine lv_aload_n X.1 X.2.1 dX8_markMix_33 rfl (lv_at hl 0 rfl) ?_
          have t_76 : At S_73 q_17 7 := tAt_sI eS_73 ha_20
          obtain ⟨v_77, ev_77⟩ : ∃ v, pI S_73 708 q_17 = v := ⟨_, rfl⟩
          have rg_79 := And.intro (z_lo v_77) (z_hi v_77)
          have pz_80 : (pI S_73 708 q_17).toInt = v_77.toInt := by rw [ev_77]
          refine r_getI (g := 708) (x := v_77) X hw t_76 rfl 8 ev_77 (by decide) rfl inn_X8_markMix_7 (by decide) (X.2.2.2.1 (.fieldLink RX8 80 "SilkMill$Skein" "sold" "Z") (by decide +kernel)) rfl (gv_708 _ _) dX8_markMix_34 ?_
          refine lv_if_ne (tgt := 51) X.1 X.2.1 dX8_markMix_37 (by decide) (fun c_81 => ?_) (fun c_81 => ?_)
          · have z_b_82 := trivial
            have k_83 : v_77.toInt ≠ 0 := z_ne rfl ti_0 c_81
            refine lv_iconst (v := 1) X.1 X.2.1 dX8_markMix_51 (by decide) ?_
            refine lv_goto (tgt := 56) X.1 X.2.1 dX8_markMix_52 (by decide) ?_
            refine r_putI (v := 1) X hw t_76 rfl 8 708 tyX7 (by decide) rfl inn_X8_markMix_7 tyX7_ok nmX7 (by decide) (X.2.2.2.1 (.fieldLink RX8 80 "SilkMill$Skein" "sold" "Z") (by decide +kernel)) rfl (Or.inl rfl) (by decide) (by decide) (Nat.le_of_ble_eq_true rfl) (st_708 _ _) dX8_markMix_56 (fun H locs hw => ?_)
            obtain ⟨S_84, eS_84⟩ : ∃ T, T = sI S_73 708 q_17 (1) := ⟨_, rfl⟩
            rw [← eS_84] at hw
            have hO_85 : Ok eMM S S_84 := hO_74.sI eS_84 (by decide +kernel) (uI_7_708 hO_74.1 t_76)
            have h_86 : pI S_84 708 q_17 = 1 := tI_sIs eS_84
            obtain ⟨x_87, ex_87⟩ : ∃ y : Int32, y = i2_2 + 1 := ⟨_, rfl⟩
            have z_88 : x_87.toInt = i2_2_z + 1 := z_add ex_87 hz_i2_2 ti_1 (by omega) (by omega)
            refine lv_iinc (v := x_87) (lv' := [(2, .int (x_87)), (3, .ref q_17), (0, .ref x), (1, .int (a1))]) X.1 X.2.1 dX8_markMix_59 hl (k := 1) rfl (by rw [ex_87]; rfl) (by decide) rfl (fun ls hl => ?_)
            refine lv_goto (tgt := 2) X.1 X.2.1 dX8_markMix_62 (by decide) ?_
            have t_89 : At S_73 x 8 := tAt_sI eS_73 ha_x_L_4
            have t_90 : At S_84 x 8 := tAt_sI eS_84 t_89
            exact ih _ (by omega) _ _ _ _ (x_87) (x_87.toInt) rfl hw rfl (by omega) t_90 hO_85 (lv_sub hl [0, 2, 3] rfl)
          · have z_b_91 := trivial
            have k_92 : v_77.toInt = 0 := z_eq rfl ti_0 c_81
            refine lv_aload_n X.1 X.2.1 dX8_markMix_40 rfl (lv_at hl 0 rfl) ?_
            refine r_getI (g := 709) (x := 0) X hw t_76 rfl 9 h_75 (by decide) rfl inn_X8_markMix_7 (by decide) (X.2.2.2.1 (.fieldLink RX8 110 "SilkMill$Skein" "inLatestMix" "Z") (by decide +kernel)) rfl (gv_709 _ _) dX8_markMix_41 ?_
            refine lv_if_eq (tgt := 55) X.1 X.2.1 dX8_markMix_44 (by decide) (fun c_93 => ?_) (fun c_93 => absurd c_93 (by decide))
            refine lv_iconst (v := 0) X.1 X.2.1 dX8_markMix_55 (by decide) ?_
            refine r_putI (v := 0) X hw t_76 rfl 8 708 tyX7 (by decide) rfl inn_X8_markMix_7 tyX7_ok nmX7 (by decide) (X.2.2.2.1 (.fieldLink RX8 80 "SilkMill$Skein" "sold" "Z") (by decide +kernel)) rfl (Or.inl rfl) (by decide) (by decide) (Nat.le_of_ble_eq_true rfl) (st_708 _ _) dX8_markMix_56 (fun H locs hw => ?_)
            obtain ⟨S_94, eS_94⟩ : ∃ T, T = sI S_73 708 q_17 (0) := ⟨_, rfl⟩
            rw [← eS_94] at hw
            have hO_95 : Ok eMM S S_94 := hO_74.sI eS_94 (by decide +kernel) (uI_7_708 hO_74.1 t_76)
            have h_96 : pI S_94 708 q_17 = 0 := tI_sIs eS_94
            obtain ⟨x_97, ex_97⟩ : ∃ y : Int32, y = i2_2 + 1 := ⟨_, rfl⟩
            have z_98 : x_97.toInt = i2_2_z + 1 := z_add ex_97 hz_i2_2 ti_1 (by omega) (by omega)
            refine lv_iinc (v := x_97) (lv' := [(2, .int (x_97)), (3, .ref q_17), (0, .ref x), (1, .int (a1))]) X.1 X.2.1 dX8_markMix_59 hl (k := 1) rfl (by rw [ex_97]; rfl) (by decide) rfl (fun ls hl => ?_)
            refine lv_goto (tgt := 2) X.1 X.2.1 dX8_markMix_62 (by decide) ?_
            have t_99 : At S_73 x 8 := tAt_sI eS_73 ha_x_L_4
            have t_100 : At S_94 x 8 := tAt_sI eS_94 t_99
            exact ih _ (by omega) _ _ _ _ (x_97) (x_97.toInt) rfl hw rfl (by omega) t_100 hO_95 (lv_sub hl [0, 2, 3] rfl)
  exact L_1 _ _ _ _ _ (0) (0) rfl hw ti_0 (by omega) ha_x hO (lv_sub hl [0, 1, 2] rfl)
set_option maxHeartbeats 4000000 in
set_option maxRecDepth 100000 in
theorem k_X8_mixFor (l : Launch) (G : va_G) (cy : Nat → ClassId) (κ : Nat → Nat) (S : PS) (sz : Nat) (x : Nat) (a1 : Int32) (a1_z : Int) (a2 : Int32) (a2_z : Int) (a3 : Int32) (a3_z : Int) (a4 : Int32) (a4_z : Int) (hG : GX S) (ha_x : At S x 8) (hz_a1 : a1.toInt = a1_z) (hz_a2 : a2.toInt = a2_z) (hz_a3 : a3.toInt = a3_z) (hz_a4 : a4.toInt = a4_z) : Ci l yX8_mixFor wsX8_mixFor ({ frames := 17, cells := 0, slots := 0, locals := 816 }) G cy κ S sz [.ref x, .int (a1), .int (a2), .int (a3), .int (a4)] (fun (r : Int32) (S9 : PS) => Ok eMI S S9 ∧ (True)) := by
  refine ent_m (cc := cX8_mixFor) (maxL := 7) (ret := (some .int)) (by decide) rfl (Nat.le_of_ble_eq_true rfl) ?_
  intro p e s m below meth c ls X hr hlocks hin hw hl hsz
  subst hsz
  have X : Cx p c cX8_mixFor 7 s [.ref x, .int (a1), .int (a2), .int (a3), .int (a4)].toArray wsX8_mixFor RX8 m G cy κ (AS S s.heap.size) := X
  have hl : lv_has ls 7 [(0, .ref x), (1, .int (a1)), (2, .int (a2)), (3, .int (a3)), (4, .int (a4))] := hl
  have rg_a1 : (-2147483648) ≤ a1_z ∧ a1_z ≤ 2147483647 := by rw [← hz_a1]; exact ⟨z_lo _, z_hi _⟩
  have rg_a2 : (-2147483648) ≤ a2_z ∧ a2_z ≤ 2147483647 := by rw [← hz_a2]; exact ⟨z_lo _, z_hi _⟩
  have rg_a3 : (-2147483648) ≤ a3_z ∧ a3_z ≤ 2147483647 := by rw [← hz_a3]; exact ⟨z_lo _, z_hi _⟩
  have rg_a4 : (-2147483648) ≤ a4_z ∧ a4_z ≤ 2147483647 := by rw [← hz_a4]; exact ⟨z_lo _, z_hi _⟩
  have hO : Ok eMI S S := Ok.rf hG
  generalize hQQ : MQ below _ _ _ _ _ _ = QQ
  replace hQQ := hQQ.symm
  refine lv_aload_n X.1 X.2.1 dX8_mixFor_0 rfl (lv_at hl 0 rfl) ?_
  obtain ⟨q_1, h_2, h_3⟩ := gQ_8_812 hO.1 ha_x
  refine r_getR (g := 812) X hw ha_x rfl 12 h_2 (by decide) rfl inn_X8_mixFor_8 (by decide) (X.2.2.2.1 (.fieldLink RX8 33 "SilkMill$Store" "mixer" "LSilkMill$Mixer;") (by decide +kernel)) rfl (gv_812 _ _) dX8_mixFor_1 ?_
  refine lv_iload_n X.1 X.2.1 dX8_mixFor_4 rfl (lv_at hl 1 rfl) ?_
  refine k_v (rm := { frames := 1, cells := 0, slots := 0, locals := 48 }) (av := [.ref q_1, .int (a1)]) X hw (va_runV (As := [.int (a1)]) (rest := []) (cfix X) (k_X2_beginFor l G cy κ S _ q_1 (a1) (a1_z) hO.1 h_3 hz_a1) (cwV 1 X.2.2.2.1 gX8_mixFor_X2_beginFor rfl rfl rfl (by decide +kernel) ⟨Nat.le_of_ble_eq_true rfl, Nat.le_of_ble_eq_true rfl⟩) (pre_V X hw _ h_3 rfl (by decide) rfl) rfl rfl hl.1 rfl (lv_room (Nat.le_of_ble_eq_true rfl)) dX8_mixFor_5 ⟨Nat.le_of_ble_eq_true rfl, Nat.le_of_ble_eq_true rfl⟩) 0 0 (Nat.le_of_ble_eq_true rfl) (Nat.le_of_ble_eq_true rfl) (fun S_6 H locs hp hw hfr hnw => ?_)
  obtain ⟨hk_7, hp⟩ := hp
  have hO_8 : Ok eMI S S_6 := hO.call hk_7 (by decide +kernel)
  refine lv_iconst (v := 0) X.1 X.2.1 dX8_mixFor_8 (by decide) ?_
  refine lv_istore (lv' := [(5, .int 0), (0, .ref x), (1, .int (a1)), (2, .int (a2)), (3, .int (a3)), (4, .int (a4))]) X.1 X.2.1 dX8_mixFor_9 hl (by decide) rfl (fun ls hl => ?_)
  have L_9 : ∀ (n : Nat) (T_11 : PS) (H : Heap) (locs : List Loc) (ls : Array Slot) (i5_10 : Int32) (i5_10_z : Int), ((40 - i5_10_z).toNat = n) → (Wd G cy (AS S s.heap.size) s.heap T_11 H locs) → (i5_10.toInt = i5_10_z) → (0 ≤ i5_10_z ∧ i5_10_z ≤ 40) → (At T_11 x 8) → (Ok eMI S T_11) → (lv_has ls 7 [(5, .int (i5_10)), (0, .ref x), (1, .int (a1)), (2, .int (a2)), (3, .int (a3)), (4, .int (a4))]) → W p l e ({ frames := 17, cells := 0, slots := 0, locals := 816 }) s m [.ref x, .int (a1), .int (a2), .int (a3), .int (a4)].toArray below meth c H locs 0 0 QQ (F0 m 11 ls []) := by
    intro n
    induction n using Nat.strongRecOn with
    | ind n ih =>
    intro T_11 H locs ls i5_10 i5_10_z hn hw hz_i5_10 hr_i5_10 ha_x_L_12 hO_T_11 hl
    have rg_13 : (-2147483648) ≤ i5_10_z ∧ i5_10_z ≤ 2147483647 := by rw [← hz_i5_10]; exact ⟨z_lo _, z_hi _⟩
    refine lv_iload X.1 X.2.1 dX8_mixFor_11 (lv_at hl 0 rfl) ?_
    refine lv_aload_n X.1 X.2.1 dX8_mixFor_13 rfl (lv_at hl 1 rfl) ?_
    obtain ⟨v_14, ev_14⟩ : ∃ v, pI T_11 800 x = v := ⟨_, rfl⟩
    have rg_15 := gI_8_800 hO_T_11.1 ha_x_L_12; rw [ev_14] at rg_15
    have pz_16 : (pI T_11 800 x).toInt = v_14.toInt := by rw [ev_14]
    refine r_getI (g := 800) (x := v_14) X hw ha_x_L_12 rfl 0 ev_14 (by decide) rfl inn_X8_mixFor_8 (by decide) (X.2.2.2.1 (.fieldLink RX8 37 "SilkMill$Store" "kept" "I") (by decide +kernel)) rfl (gv_800 _ _) dX8_mixFor_14 ?_
    refine lv_icmp_ge (tgt := 88) X.1 X.2.1 dX8_mixFor_17 (by decide) (fun c_17 => ?_) (fun c_17 => ?_)
    · have z_b_18 := trivial
      have k_19 : i5_10_z ≥ v_14.toInt := z_le rfl hz_i5_10 c_17
      refine lv_aload_n X.1 X.2.1 dX8_mixFor_88 rfl (lv_at hl 1 rfl) ?_
      obtain ⟨q_20, h_21, h_22⟩ := gQ_8_812 hO_T_11.1 ha_x_L_12
      refine r_getR (g := 812) X hw ha_x_L_12 rfl 12 h_21 (by decide) rfl inn_X8_mixFor_8 (by decide) (X.2.2.2.1 (.fieldLink RX8 33 "SilkMill$Store" "mixer" "LSilkMill$Mixer;") (by decide +kernel)) rfl (gv_812 _ _) dX8_mixFor_89 ?_
      refine k_i (rm := { frames := 16, cells := 0, slots := 0, locals := 768 }) (av := [.ref q_20]) X hw (va_runV (As := []) (rest := []) (cfix X) (k_X2_leastPrice l G cy κ T_11 _ q_20 hO_T_11.1 h_22) (cwV 0 X.2.2.2.1 gX8_mixFor_X2_leastPrice rfl rfl rfl (by decide +kernel) ⟨Nat.le_of_ble_eq_true rfl, Nat.le_of_ble_eq_true rfl⟩) (pre_V X hw _ h_22 rfl (by decide) rfl) rfl rfl hl.1 rfl (lv_room (Nat.le_of_ble_eq_true rfl)) dX8_mixFor_92 ⟨Nat.le_of_ble_eq_true rfl, Nat.le_of_ble_eq_true rfl⟩) 0 0 (Nat.le_of_ble_eq_true rfl) (Nat.le_of_ble_eq_true rfl) (fun rr_24 S_25 H locs hp hw hfr hnw => ?_)
      obtain ⟨hk_26, hp⟩ := hp
      have hO_27 : Ok eMI S S_25 := hO_T_11.call hk_26 (by decide +kernel)
      have rg_28 := And.intro (z_lo rr_24) (z_hi rr_24)
      refine lv_istore (lv' := [(5, .int (rr_24)), (0, .ref x), (1, .int (a1)), (2, .int (a2)), (3, .int (a3)), (4, .int (a4))]) X.1 X.2.1 dX8_mixFor_95 hl (by decide) rfl (fun ls hl => ?_)
      refine lv_iload X.1 X.2.1 dX8_mixFor_97 (lv_at hl 0 rfl) ?_
      refine lv_iconst (v := (-1)) X.1 X.2.1 dX8_mixFor_99 (by decide) ?_
      refine lv_icmp_eq (tgt := 109) X.1 X.2.1 dX8_mixFor_100 (by decide) (fun c_29 => ?_) (fun c_29 => ?_)
      · have z_b_30 := trivial
        have k_31 : rr_24.toInt = (-1) := z_eq rfl ti_m1 c_29
        refine lv_iload X.1 X.2.1 dX8_mixFor_109 (lv_at hl 0 rfl) ?_
        rw [hQQ]
        exact ret_i X hw hr hlocks (Nat.le_of_ble_eq_true rfl) (Nat.le_of_ble_eq_true rfl) ⟨hO_27, trivial⟩ dX8_mixFor_111
      · have z_b_32 := trivial
        have k_33 : rr_24.toInt ≠ (-1) := z_ne rfl ti_m1 c_29
        refine lv_aload_n X.1 X.2.1 dX8_mixFor_103 rfl (lv_at hl 1 rfl) ?_
        refine lv_iload X.1 X.2.1 dX8_mixFor_104 (lv_at hl 5 rfl) ?_
        have t_34 : At S_25 x 8 := hk_26.fr.at ha_x_L_12
        refine k_v (rm := { frames := 2, cells := 0, slots := 0, locals := 96 }) (av := [.ref x, .int (a4)]) X hw (va_runV (As := [.int (a4)]) (rest := []) (cfix X) (k_X8_markMix l G cy κ S_25 _ x (a4) (a4_z) hO_27.1 t_34 hz_a4) (cwV 1 X.2.2.2.1 gX8_mixFor_X8_markMix rfl rfl rfl (by decide +kernel) ⟨Nat.le_of_ble_eq_true rfl, Nat.le_of_ble_eq_true rfl⟩) (pre_V X hw _ t_34 rfl (by decide) rfl) rfl rfl hl.1 rfl (lv_room (Nat.le_of_ble_eq_true rfl)) dX8_mixFor_106 ⟨Nat.le_of_ble_eq_true rfl, Nat.le_of_ble_eq_true rfl⟩) 0 0 (Nat.le_of_ble_eq_true rfl) (Nat.le_of_ble_eq_true rfl) (fun S_36 H locs hp hw hfr hnw => ?_)
        obtain ⟨hk_37, hp⟩ := hp
        have hO_38 : Ok eMI S S_36 := hO_27.call hk_37 (by decide +kernel)
        refine lv_iload X.1 X.2.1 dX8_mixFor_109 (lv_at hl 0 rfl) ?_
        rw [hQQ]
        exact ret_i X hw hr hlocks (Nat.le_of_ble_eq_true rfl) (Nat.le_of_ble_eq_true rfl) ⟨hO_38, trivial⟩ dX8_mixFor_111
    · have z_b_39 := trivial
      have k_40 : i5_10_z < v_14.toInt := z_nle rfl hz_i5_10 c_17
      refine lv_aload_n X.1 X.2.1 dX8_mixFor_20 rfl (lv_at hl 1 rfl) ?_
      refine lv_iload X.1 X.2.1 dX8_mixFor_21 (lv_at hl 0 rfl) ?_
      refine k_q (rm := { frames := 1, cells := 0, slots := 0, locals := 48 }) (av := [.ref x, .int (i5_10)]) X hw (va_runV (As := [.int (i5_10)]) (rest := []) (cfix X) (k_X8_skeinAt l G cy κ T_11 _ x (i5_10) (i5_10_z) hO_T_11.1 ha_x_L_12 hz_i5_10) (cwV 1 X.2.2.2.1 gX8_mixFor_X8_skeinAt rfl rfl rfl (by decide +kernel) ⟨Nat.le_of_ble_eq_true rfl, Nat.le_of_ble_eq_true rfl⟩) (pre_V X hw _ ha_x_L_12 rfl (by decide) rfl) rfl rfl hl.1 rfl (lv_room (Nat.le_of_ble_eq_true rfl)) dX8_mixFor_23 ⟨Nat.le_of_ble_eq_true rfl, Nat.le_of_ble_eq_true rfl⟩) 0 0 (Nat.le_of_ble_eq_true rfl) (Nat.le_of_ble_eq_true rfl) (fun rr_41 S_42 H locs hp hw hfr hnw => ?_)
      obtain ⟨e2, hp⟩ := hp
      subst e2
      have hq_43 := hp
      rcases rr_41 with _ | q_44
      · refine W.eq (g2 := F0 m 26 ls (.null :: [])) rfl ?_
        refine lv_astoreN (lv' := [(6, .null), (5, .int (i5_10)), (0, .ref x), (1, .int (a1)), (2, .int (a2)), (3, .int (a3)), (4, .int (a4))]) X.1 X.2.1 dX8_mixFor_26 hl (by decide) rfl (fun ls hl => ?_)
        refine lv_aloadN X.1 X.2.1 dX8_mixFor_28 (lv_at hl 0 rfl) ?_
        refine lv_ifnullN (tgt := 82) X.1 X.2.1 dX8_mixFor_30 (by decide) ?_
        obtain ⟨x_45, ex_45⟩ : ∃ y : Int32, y = i5_10 + 1 := ⟨_, rfl⟩
        have z_46 : x_45.toInt = i5_10_z + 1 := z_add ex_45 hz_i5_10 ti_1 (by omega) (by omega)
        refine lv_iinc (v := x_45) (lv' := [(5, .int (x_45)), (6, .null), (0, .ref x), (1, .int (a1)), (2, .int (a2)), (3, .int (a3)), (4, .int (a4))]) X.1 X.2.1 dX8_mixFor_82 hl (k := 1) rfl (by rw [ex_45]; rfl) (by decide) rfl (fun ls hl => ?_)
        refine lv_goto (tgt := 11) X.1 X.2.1 dX8_mixFor_85 (by decide) ?_
        exact ih _ (by omega) _ _ _ _ (x_45) (x_45.toInt) rfl hw rfl (by omega) ha_x_L_12 hO_T_11 (lv_sub hl [0, 2, 3, 4, 5, 6] rfl)
      · refine W.eq (g2 := F0 m 26 ls (.ref q_44 :: [])) rfl ?_
        obtain ⟨ha_47, f_48, f_49⟩ := hq_43 _ rfl
        refine lv_astore (lv' := [(6, .ref q_44), (5, .int (i5_10)), (0, .ref x), (1, .int (a1)), (2, .int (a2)), (3, .int (a3)), (4, .int (a4))]) X.1 X.2.1 dX8_mixFor_26 hl (by decide) rfl (fun ls hl => ?_)
        refine lv_aload X.1 X.2.1 dX8_mixFor_28 (lv_at hl 0 rfl) ?_
        refine lv_ifnull X.1 X.2.1 dX8_mixFor_30 ?_
        refine lv_aload X.1 X.2.1 dX8_mixFor_33 (lv_at hl 0 rfl) ?_
        obtain ⟨v_50, ev_50⟩ : ∃ v, pI T_11 708 q_44 = v := ⟨_, rfl⟩
        have rg_52 := And.intro (z_lo v_50) (z_hi v_50)
        have pz_53 : (pI T_11 708 q_44).toInt = v_50.toInt := by rw [ev_50]
        refine r_getI (g := 708) (x := v_50) X hw ha_47 rfl 8 ev_50 (by decide) rfl inn_X8_mixFor_7 (by decide) (X.2.2.2.1 (.fieldLink RX8 80 "SilkMill$Skein" "sold" "Z") (by decide +kernel)) rfl (gv_708 _ _) dX8_mixFor_35 ?_
        refine lv_if_ne (tgt := 82) X.1 X.2.1 dX8_mixFor_38 (by decide) (fun c_54 => ?_) (fun c_54 => ?_)
        · have z_b_55 := trivial
          have k_56 : v_50.toInt ≠ 0 := z_ne rfl ti_0 c_54
          obtain ⟨x_57, ex_57⟩ : ∃ y : Int32, y = i5_10 + 1 := ⟨_, rfl⟩
          have z_58 : x_57.toInt = i5_10_z + 1 := z_add ex_57 hz_i5_10 ti_1 (by omega) (by omega)
          refine lv_iinc (v := x_57) (lv' := [(5, .int (x_57)), (6, .ref q_44), (0, .ref x), (1, .int (a1)), (2, .int (a2)), (3, .int (a3)), (4, .int (a4))]) X.1 X.2.1 dX8_mixFor_82 hl (k := 1) rfl (by rw [ex_57]; rfl) (by decide) rfl (fun ls hl => ?_)
          refine lv_goto (tgt := 11) X.1 X.2.1 dX8_mixFor_85 (by decide) ?_
          exact ih _ (by omega) _ _ _ _ (x_57) (x_57.toInt) rfl hw rfl (by omega) ha_x_L_12 hO_T_11 (lv_sub hl [0, 2, 3, 4, 5, 6] rfl)
        · have z_b_59 := trivial
          have k_60 : v_50.toInt = 0 := z_eq rfl ti_0 c_54
          refine lv_aload X.1 X.2.1 dX8_mixFor_41 (lv_at hl 0 rfl) ?_
          obtain ⟨v_61, ev_61⟩ : ∃ v, pI T_11 704 q_44 = v := ⟨_, rfl⟩
          have rg_63 := And.intro (z_lo v_61) (z_hi v_61)
          have pz_64 : (pI T_11 704 q_44).toInt = v_61.toInt := by rw [ev_61]
          refine r_getI (g := 704) (x := v_61) X hw ha_47 rfl 4 ev_61 (by decide) rfl inn_X8_mixFor_7 (by decide) (X.2.2.2.1 (.fieldLink RX8 84 "SilkMill$Skein" "least" "I") (by decide +kernel)) rfl (gv_704 _ _) dX8_mixFor_43 ?_
          refine lv_iload_n X.1 X.2.1 dX8_mixFor_46 rfl (lv_at hl 4 rfl) ?_
          refine lv_icmp_lt (tgt := 82) X.1 X.2.1 dX8_mixFor_47 (by decide) (fun c_65 => ?_) (fun c_65 => ?_)
          · have z_b_66 := trivial
            have k_67 : v_61.toInt < a2_z := z_lt rfl hz_a2 c_65
            obtain ⟨x_68, ex_68⟩ : ∃ y : Int32, y = i5_10 + 1 := ⟨_, rfl⟩
            have z_69 : x_68.toInt = i5_10_z + 1 := z_add ex_68 hz_i5_10 ti_1 (by omega) (by omega)
            refine lv_iinc (v := x_68) (lv' := [(5, .int (x_68)), (6, .ref q_44), (0, .ref x), (1, .int (a1)), (2, .int (a2)), (3, .int (a3)), (4, .int (a4))]) X.1 X.2.1 dX8_mixFor_82 hl (k := 1) rfl (by rw [ex_68]; rfl) (by decide) rfl (fun ls hl => ?_)
            refine lv_goto (tgt := 11) X.1 X.2.1 dX8_mixFor_85 (by decide) ?_
            exact ih _ (by omega) _ _ _ _ (x_68) (x_68.toInt) rfl hw rfl (by omega) ha_x_L_12 hO_T_11 (lv_sub hl [0, 2, 3, 4, 5, 6] rfl)
          · have z_b_70 := trivial
            have k_71 : v_61.toInt ≥ a2_z := z_nlt rfl hz_a2 c_65
            refine lv_aload X.1 X.2.1 dX8_mixFor_50 (lv_at hl 0 rfl) ?_
            obtain ⟨v_72, ev_72⟩ : ∃ v, pI T_11 705 q_44 = v := ⟨_, rfl⟩
            have rg_74 := And.intro (z_lo v_72) (z_hi v_72)
            have pz_75 : (pI T_11 705 q_44).toInt = v_72.toInt := by rw [ev_72]
            refine r_getI (g := 705) (x := v_72) X hw ha_47 rfl 5 ev_72 (by decide) rfl inn_X8_mixFor_7 (by decide) (X.2.2.2.1 (.fieldLink RX8 87 "SilkMill$Skein" "greatest" "I") (by decide +kernel)) rfl (gv_705 _ _) dX8_mixFor_52 ?_
            refine lv_iload_n X.1 X.2.1 dX8_mixFor_55 rfl (lv_at hl 5 rfl) ?_
            refine lv_icmp_gt (tgt := 82) X.1 X.2.1 dX8_mixFor_56 (by decide) (fun c_76 => ?_) (fun c_76 => ?_)
            · have z_b_77 := trivial
              have k_78 : v_72.toInt > a3_z := z_lt hz_a3 rfl c_76
              obtain ⟨x_79, ex_79⟩ : ∃ y : Int32, y = i5_10 + 1 := ⟨_, rfl⟩
              have z_80 : x_79.toInt = i5_10_z + 1 := z_add ex_79 hz_i5_10 ti_1 (by omega) (by omega)
              refine lv_iinc (v := x_79) (lv' := [(5, .int (x_79)), (6, .ref q_44), (0, .ref x), (1, .int (a1)), (2, .int (a2)), (3, .int (a3)), (4, .int (a4))]) X.1 X.2.1 dX8_mixFor_82 hl (k := 1) rfl (by rw [ex_79]; rfl) (by decide) rfl (fun ls hl => ?_)
              refine lv_goto (tgt := 11) X.1 X.2.1 dX8_mixFor_85 (by decide) ?_
              exact ih _ (by omega) _ _ _ _ (x_79) (x_79.toInt) rfl hw rfl (by omega) ha_x_L_12 hO_T_11 (lv_sub hl [0, 2, 3, 4, 5, 6] rfl)
            · have z_b_81 := trivial
              have k_82 : v_72.toInt ≤ a3_z := z_nlt hz_a3 rfl c_76
              refine lv_aload_n X.1 X.2.1 dX8_mixFor_59 rfl (lv_at hl 2 rfl) ?_
              obtain ⟨q_83, h_84, h_85⟩ := gQ_8_812 hO_T_11.1 ha_x_L_12
              refine r_getR (g := 812) X hw ha_x_L_12 rfl 12 h_84 (by decide) rfl inn_X8_mixFor_8 (by decide) (X.2.2.2.1 (.fieldLink RX8 33 "SilkMill$Store" "mixer" "LSilkMill$Mixer;") (by decide +kernel)) rfl (gv_812 _ _) dX8_mixFor_60 ?_
              refine lv_iload X.1 X.2.1 dX8_mixFor_63 (lv_at hl 1 rfl) ?_
              refine lv_aload X.1 X.2.1 dX8_mixFor_65 (lv_at hl 0 rfl) ?_
              obtain ⟨q_87, h_88, h_89⟩ := gQ_7_703 hO_T_11.1 ha_47
              refine r_getR (g := 703) X hw ha_47 rfl 3 h_88 (by decide) rfl inn_X8_mixFor_7 (by decide) (X.2.2.2.1 (.fieldLink RX8 68 "SilkMill$Skein" "strand" "LSilkMill$Strand;") (by decide +kernel)) rfl (gv_703 _ _) dX8_mixFor_67 ?_
              obtain ⟨v_91, ev_91⟩ : ∃ v, pI T_11 903 q_87 = v := ⟨_, rfl⟩
              have rg_93 := And.intro (z_lo v_91) (z_hi v_91)
              have pz_94 : (pI T_11 903 q_87).toInt = v_91.toInt := by rw [ev_91]
              refine r_getI (g := 903) (x := v_91) X hw h_89 rfl 3 ev_91 (by decide) rfl inn_X8_mixFor_9 (by decide) (X.2.2.2.1 (.fieldLink RX8 44 "SilkMill$Strand" "silk" "I") (by decide +kernel)) rfl (gv_903 _ _) dX8_mixFor_70 ?_
              refine lv_aload_n X.1 X.2.1 dX8_mixFor_73 rfl (lv_at hl 2 rfl) ?_
              refine lv_aload X.1 X.2.1 dX8_mixFor_74 (lv_at hl 0 rfl) ?_
              refine k_i (rm := { frames := 2, cells := 0, slots := 0, locals := 96 }) (av := [.ref x, .ref q_44]) X hw (va_runV (As := [.ref q_44]) (rest := [.int (v_91), .int (i5_10), .ref q_83]) (cfix X) (k_X8_priceOf l G cy κ T_11 _ x q_44 hO_T_11.1 ha_x_L_12 ha_47) (cwV 1 X.2.2.2.1 gX8_mixFor_X8_priceOf rfl rfl rfl (by decide +kernel) ⟨Nat.le_of_ble_eq_true rfl, Nat.le_of_ble_eq_true rfl⟩) (pre_V X hw _ ha_x_L_12 rfl (by decide) rfl) rfl rfl hl.1 rfl (lv_room (Nat.le_of_ble_eq_true rfl)) dX8_mixFor_76 ⟨Nat.le_of_ble_eq_true rfl, Nat.le_of_ble_eq_true rfl⟩) 0 0 (Nat.le_of_ble_eq_true rfl) (Nat.le_of_ble_eq_true rfl) (fun rr_95 S_96 H locs hp hw hfr hnw => ?_)
              obtain ⟨e2, hp⟩ := hp
              subst e2
              have rg_97 := And.intro (z_lo rr_95) (z_hi rr_95)
              refine k_v (rm := { frames := 1, cells := 0, slots := 0, locals := 48 }) (av := [.ref q_83, .int (i5_10), .int (v_91), .int (rr_95)]) X hw (va_runV (As := [.int (i5_10), .int (v_91), .int (rr_95)]) (rest := []) (cfix X) (k_X2_offer l G cy κ T_11 _ q_83 (i5_10) (i5_10_z) (v_91) (v_91.toInt) (rr_95) (rr_95.toInt) hO_T_11.1 h_85 hz_i5_10 rfl rfl) (cwV 3 X.2.2.2.1 gX8_mixFor_X2_offer rfl rfl rfl (by decide +kernel) ⟨Nat.le_of_ble_eq_true rfl, Nat.le_of_ble_eq_true rfl⟩) (pre_V X hw _ h_85 rfl (by decide) rfl) rfl rfl hl.1 rfl (lv_room (Nat.le_of_ble_eq_true rfl)) dX8_mixFor_79 ⟨Nat.le_of_ble_eq_true rfl, Nat.le_of_ble_eq_true rfl⟩) 0 0 (Nat.le_of_ble_eq_true rfl) (Nat.le_of_ble_eq_true rfl) (fun S_99 H locs hp hw hfr hnw => ?_)
              obtain ⟨hk_100, hp⟩ := hp
              have hO_101 : Ok eMI S S_99 := hO_T_11.call hk_100 (by decide +kernel)
              obtain ⟨x_102, ex_102⟩ : ∃ y : Int32, y = i5_10 + 1 := ⟨_, rfl⟩
              have z_103 : x_102.toInt = i5_10_z + 1 := z_add ex_102 hz_i5_10 ti_1 (by omega) (by omega)
              refine lv_iinc (v := x_102) (lv' := [(5, .int (x_102)), (6, .ref q_44), (0, .ref x), (1, .int (a1)), (2, .int (a2)), (3, .int (a3)), (4, .int (a4))]) X.1 X.2.1 dX8_mixFor_82 hl (k := 1) rfl (by rw [ex_102]; rfl) (by decide) rfl (fun ls hl => ?_)
              refine lv_goto (tgt := 11) X.1 X.2.1 dX8_mixFor_85 (by decide) ?_
              have t_104 : At S_99 x 8 := hk_100.fr.at ha_x_L_12
              exact ih _ (by omega) _ _ _ _ (x_102) (x_102.toInt) rfl hw rfl (by omega) t_104 hO_101 (lv_sub hl [0, 2, 3, 4, 5, 6] rfl)
  have t_105 : At S_6 x 8 := hk_7.fr.at ha_x
  exact L_9 _ _ _ _ _ (0) (0) rfl hw ti_0 (by omega) t_105 hO_8 (lv_sub hl [0, 1, 2, 3, 4, 5] rfl)
