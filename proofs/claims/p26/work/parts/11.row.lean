set_option maxRecDepth 20000 in
theorem ggX0_silkBetween_X0_finenessAt : GoodIn wsX0_silkBetween wsX0_finenessAt := goodIn_r _ [5, 6, 7, 8, 9, 10, 11, 12, 13, 14, 15, 16, 17] (by decide +kernel) (by decide +kernel)
set_option maxRecDepth 20000 in
theorem gX0_silkBetween_X0_finenessAt : GoodIn wsX0_silkBetween (wsV RX0 50 RX0 yX0_finenessAt wsX0_finenessAt) := goodIn_app (goodIn_of _ (by decide +kernel)) ggX0_silkBetween_X0_finenessAt
theorem dX0_silkBetween_0 : decode cX0_silkBetween 0 = .ok (.iconst 0, 1) := by decide +kernel
theorem dX0_silkBetween_1 : decode cX0_silkBetween 1 = .ok (.istore_n 3, 1) := by decide +kernel
theorem dX0_silkBetween_2 : decode cX0_silkBetween 2 = .ok (.iload_n 1, 1) := by decide +kernel
theorem dX0_silkBetween_3 : decode cX0_silkBetween 3 = .ok (.istore 4, 2) := by decide +kernel
theorem dX0_silkBetween_5 : decode cX0_silkBetween 5 = .ok (.iload 4, 2) := by decide +kernel
theorem dX0_silkBetween_7 : decode cX0_silkBetween 7 = .ok (.iload_n 2, 1) := by decide +kernel
theorem dX0_silkBetween_8 : decode cX0_silkBetween 8 = .ok (.if_icmp .ge 18, 3) := by decide +kernel
theorem dX0_silkBetween_11 : decode cX0_silkBetween 11 = .ok (.iload_n 3, 1) := by decide +kernel
theorem dX0_silkBetween_12 : decode cX0_silkBetween 12 = .ok (.aload_n 0, 1) := by decide +kernel
theorem dX0_silkBetween_13 : decode cX0_silkBetween 13 = .ok (.iload 4, 2) := by decide +kernel
theorem dX0_silkBetween_15 : decode cX0_silkBetween 15 = .ok (.invokevirtual 50, 3) := by decide +kernel
theorem dX0_silkBetween_18 : decode cX0_silkBetween 18 = .ok (.iadd, 1) := by decide +kernel
theorem dX0_silkBetween_19 : decode cX0_silkBetween 19 = .ok (.istore_n 3, 1) := by decide +kernel
theorem dX0_silkBetween_20 : decode cX0_silkBetween 20 = .ok (.iinc 4 1, 3) := by decide +kernel
theorem dX0_silkBetween_23 : decode cX0_silkBetween 23 = .ok (.goto (-18), 3) := by decide +kernel
theorem dX0_silkBetween_26 : decode cX0_silkBetween 26 = .ok (.iload_n 3, 1) := by decide +kernel
theorem dX0_silkBetween_27 : decode cX0_silkBetween 27 = .ok (.ireturn, 1) := by decide +kernel
set_option maxRecDepth 20000 in
theorem ggX0_breaksAnywhere_X0_breaksAt : GoodIn wsX0_breaksAnywhere wsX0_breaksAt := goodIn_r _ [6, 7, 8, 9, 10, 11, 12, 13, 14, 15, 16, 17, 18, 19, 20, 21, 22, 23] (by decide +kernel) (by decide +kernel)
set_option maxRecDepth 20000 in
theorem gX0_breaksAnywhere_X0_breaksAt : GoodIn wsX0_breaksAnywhere (wsV RX0 53 RX0 yX0_breaksAt wsX0_breaksAt) := goodIn_app (goodIn_of _ (by decide +kernel)) ggX0_breaksAnywhere_X0_breaksAt
theorem dX0_breaksAnywhere_0 : decode cX0_breaksAnywhere 0 = .ok (.iconst 0, 1) := by decide +kernel
theorem dX0_breaksAnywhere_1 : decode cX0_breaksAnywhere 1 = .ok (.istore_n 1, 1) := by decide +kernel
theorem dX0_breaksAnywhere_2 : decode cX0_breaksAnywhere 2 = .ok (.iload_n 1, 1) := by decide +kernel
theorem dX0_breaksAnywhere_3 : decode cX0_breaksAnywhere 3 = .ok (.aload_n 0, 1) := by decide +kernel
theorem dX0_breaksAnywhere_4 : decode cX0_breaksAnywhere 4 = .ok (.getfield 40, 3) := by decide +kernel
theorem dX0_breaksAnywhere_7 : decode cX0_breaksAnywhere 7 = .ok (.if_icmp .ge 19, 3) := by decide +kernel
theorem dX0_breaksAnywhere_10 : decode cX0_breaksAnywhere 10 = .ok (.aload_n 0, 1) := by decide +kernel
theorem dX0_breaksAnywhere_11 : decode cX0_breaksAnywhere 11 = .ok (.iload_n 1, 1) := by decide +kernel
theorem dX0_breaksAnywhere_12 : decode cX0_breaksAnywhere 12 = .ok (.invokevirtual 53, 3) := by decide +kernel
theorem dX0_breaksAnywhere_15 : decode cX0_breaksAnywhere 15 = .ok (.ifCond .eq 5, 3) := by decide +kernel
theorem dX0_breaksAnywhere_18 : decode cX0_breaksAnywhere 18 = .ok (.iconst 1, 1) := by decide +kernel
theorem dX0_breaksAnywhere_19 : decode cX0_breaksAnywhere 19 = .ok (.ireturn, 1) := by decide +kernel
theorem dX0_breaksAnywhere_20 : decode cX0_breaksAnywhere 20 = .ok (.iinc 1 1, 3) := by decide +kernel
theorem dX0_breaksAnywhere_23 : decode cX0_breaksAnywhere 23 = .ok (.goto (-21), 3) := by decide +kernel
theorem dX0_breaksAnywhere_26 : decode cX0_breaksAnywhere 26 = .ok (.iconst 0, 1) := by decide +kernel
theorem dX0_breaksAnywhere_27 : decode cX0_breaksAnywhere 27 = .ok (.ireturn, 1) := by decide +kernel
set_option maxRecDepth 20000 in
theorem ggX0_drawOneMetre_X0_breaksAt : GoodIn wsX0_drawOneMetre wsX0_breaksAt := goodIn_r _ [8, 9, 10, 11, 12, 13, 14, 15, 16, 17, 18, 19, 20, 21, 22, 23, 24, 25] (by decide +kernel) (by decide +kernel)
set_option maxRecDepth 20000 in
theorem gX0_drawOneMetre_X0_breaksAt : GoodIn wsX0_drawOneMetre (wsV RX0 53 RX0 yX0_breaksAt wsX0_breaksAt) := goodIn_app (goodIn_of _ (by decide +kernel)) ggX0_drawOneMetre_X0_breaksAt
theorem dX0_drawOneMetre_0 : decode cX0_drawOneMetre 0 = .ok (.aload_n 0, 1) := by decide +kernel
theorem dX0_drawOneMetre_1 : decode cX0_drawOneMetre 1 = .ok (.getfield 57, 3) := by decide +kernel
theorem dX0_drawOneMetre_4 : decode cX0_drawOneMetre 4 = .ok (.istore_n 1, 1) := by decide +kernel
theorem dX0_drawOneMetre_5 : decode cX0_drawOneMetre 5 = .ok (.aload_n 0, 1) := by decide +kernel
theorem dX0_drawOneMetre_6 : decode cX0_drawOneMetre 6 = .ok (.dup, 1) := by decide +kernel
theorem dX0_drawOneMetre_7 : decode cX0_drawOneMetre 7 = .ok (.getfield 57, 3) := by decide +kernel
theorem dX0_drawOneMetre_10 : decode cX0_drawOneMetre 10 = .ok (.iconst 1, 1) := by decide +kernel
theorem dX0_drawOneMetre_11 : decode cX0_drawOneMetre 11 = .ok (.iadd, 1) := by decide +kernel
theorem dX0_drawOneMetre_12 : decode cX0_drawOneMetre 12 = .ok (.putfield 57, 3) := by decide +kernel
theorem dX0_drawOneMetre_15 : decode cX0_drawOneMetre 15 = .ok (.aload_n 0, 1) := by decide +kernel
theorem dX0_drawOneMetre_16 : decode cX0_drawOneMetre 16 = .ok (.getfield 57, 3) := by decide +kernel
theorem dX0_drawOneMetre_19 : decode cX0_drawOneMetre 19 = .ok (.aload_n 0, 1) := by decide +kernel
theorem dX0_drawOneMetre_20 : decode cX0_drawOneMetre 20 = .ok (.getfield 40, 3) := by decide +kernel
theorem dX0_drawOneMetre_23 : decode cX0_drawOneMetre 23 = .ok (.if_icmp .lt 11, 3) := by decide +kernel
theorem dX0_drawOneMetre_26 : decode cX0_drawOneMetre 26 = .ok (.aload_n 0, 1) := by decide +kernel
theorem dX0_drawOneMetre_27 : decode cX0_drawOneMetre 27 = .ok (.iconst 4, 1) := by decide +kernel
theorem dX0_drawOneMetre_28 : decode cX0_drawOneMetre 28 = .ok (.putfield 9, 3) := by decide +kernel
theorem dX0_drawOneMetre_31 : decode cX0_drawOneMetre 31 = .ok (.goto 16, 3) := by decide +kernel
theorem dX0_drawOneMetre_34 : decode cX0_drawOneMetre 34 = .ok (.aload_n 0, 1) := by decide +kernel
theorem dX0_drawOneMetre_35 : decode cX0_drawOneMetre 35 = .ok (.iload_n 1, 1) := by decide +kernel
theorem dX0_drawOneMetre_36 : decode cX0_drawOneMetre 36 = .ok (.invokevirtual 53, 3) := by decide +kernel
theorem dX0_drawOneMetre_39 : decode cX0_drawOneMetre 39 = .ok (.ifCond .eq 8, 3) := by decide +kernel
theorem dX0_drawOneMetre_42 : decode cX0_drawOneMetre 42 = .ok (.aload_n 0, 1) := by decide +kernel
theorem dX0_drawOneMetre_43 : decode cX0_drawOneMetre 43 = .ok (.iconst 3, 1) := by decide +kernel
theorem dX0_drawOneMetre_44 : decode cX0_drawOneMetre 44 = .ok (.putfield 9, 3) := by decide +kernel
theorem dX0_drawOneMetre_47 : decode cX0_drawOneMetre 47 = .ok (.return_, 1) := by decide +kernel
set_option maxRecDepth 20000 in
theorem ggX0_breaksAt_X11_next : GoodIn wsX0_breaksAt wsX11_next := goodIn_r _ [6, 7] (by decide +kernel) (by decide +kernel)
set_option maxRecDepth 20000 in
theorem gX0_breaksAt_X11_next_n30 : GoodIn wsX0_breaksAt (wsX11_next) := ggX0_breaksAt_X11_next
theorem dX0_breaksAt_0 : decode cX0_breaksAt 0 = .ok (.aload_n 0, 1) := by decide +kernel
theorem dX0_breaksAt_1 : decode cX0_breaksAt 1 = .ok (.getfield 24, 3) := by decide +kernel
theorem dX0_breaksAt_4 : decode cX0_breaksAt 4 = .ok (.sipush 131, 3) := by decide +kernel
theorem dX0_breaksAt_7 : decode cX0_breaksAt 7 = .ok (.aload_n 0, 1) := by decide +kernel
theorem dX0_breaksAt_8 : decode cX0_breaksAt 8 = .ok (.getfield 21, 3) := by decide +kernel
theorem dX0_breaksAt_11 : decode cX0_breaksAt 11 = .ok (.imul, 1) := by decide +kernel
theorem dX0_breaksAt_12 : decode cX0_breaksAt 12 = .ok (.iadd, 1) := by decide +kernel
theorem dX0_breaksAt_13 : decode cX0_breaksAt 13 = .ok (.bipush 17, 2) := by decide +kernel
theorem dX0_breaksAt_15 : decode cX0_breaksAt 15 = .ok (.iload_n 1, 1) := by decide +kernel
theorem dX0_breaksAt_16 : decode cX0_breaksAt 16 = .ok (.imul, 1) := by decide +kernel
theorem dX0_breaksAt_17 : decode cX0_breaksAt 17 = .ok (.iadd, 1) := by decide +kernel
theorem dX0_breaksAt_18 : decode cX0_breaksAt 18 = .ok (.invokestatic 30, 3) := by decide +kernel
theorem dX0_breaksAt_21 : decode cX0_breaksAt 21 = .ok (.bipush 16, 2) := by decide +kernel
theorem dX0_breaksAt_23 : decode cX0_breaksAt 23 = .ok (.iushr, 1) := by decide +kernel
theorem dX0_breaksAt_24 : decode cX0_breaksAt 24 = .ok (.sipush 1000, 3) := by decide +kernel
theorem dX0_breaksAt_27 : decode cX0_breaksAt 27 = .ok (.irem, 1) := by decide +kernel
theorem dX0_breaksAt_28 : decode cX0_breaksAt 28 = .ok (.aload_n 0, 1) := by decide +kernel
theorem dX0_breaksAt_29 : decode cX0_breaksAt 29 = .ok (.getfield 27, 3) := by decide +kernel
theorem dX0_breaksAt_32 : decode cX0_breaksAt 32 = .ok (.if_icmp .ge 7, 3) := by decide +kernel
theorem dX0_breaksAt_35 : decode cX0_breaksAt 35 = .ok (.iconst 1, 1) := by decide +kernel
theorem dX0_breaksAt_36 : decode cX0_breaksAt 36 = .ok (.goto 4, 3) := by decide +kernel
theorem dX0_breaksAt_39 : decode cX0_breaksAt 39 = .ok (.iconst 0, 1) := by decide +kernel
theorem dX0_breaksAt_40 : decode cX0_breaksAt 40 = .ok (.ireturn, 1) := by decide +kernel
set_option maxRecDepth 20000 in
theorem ggX5_at_X5_cellOf : GoodIn wsX5_at wsX5_cellOf := goodIn_r _ [7, 8, 2, 9, 10, 11] (by decide +kernel) (by decide +kernel)
set_option maxRecDepth 20000 in
theorem gX5_at_X5_cellOf : GoodIn wsX5_at (wsV RX5 27 RX5 yX5_cellOf wsX5_cellOf) := goodIn_app (goodIn_of _ (by decide +kernel)) ggX5_at_X5_cellOf
theorem dX5_at_0 : decode cX5_at 0 = .ok (.iload_n 1, 1) := by decide +kernel
theorem dX5_at_1 : decode cX5_at 1 = .ok (.ifCond .lt 11, 3) := by decide +kernel
theorem dX5_at_4 : decode cX5_at 4 = .ok (.iload_n 1, 1) := by decide +kernel
theorem dX5_at_5 : decode cX5_at 5 = .ok (.aload_n 0, 1) := by decide +kernel
theorem dX5_at_6 : decode cX5_at 6 = .ok (.getfield 23, 3) := by decide +kernel
theorem dX5_at_9 : decode cX5_at 9 = .ok (.if_icmp .lt 7, 3) := by decide +kernel
theorem dX5_at_12 : decode cX5_at 12 = .ok (.aconst_null, 1) := by decide +kernel
theorem dX5_at_13 : decode cX5_at 13 = .ok (.goto 13, 3) := by decide +kernel
theorem dX5_at_16 : decode cX5_at 16 = .ok (.aload_n 0, 1) := by decide +kernel
theorem dX5_at_17 : decode cX5_at 17 = .ok (.getfield 17, 3) := by decide +kernel
theorem dX5_at_20 : decode cX5_at 20 = .ok (.aload_n 0, 1) := by decide +kernel
theorem dX5_at_21 : decode cX5_at 21 = .ok (.iload_n 1, 1) := by decide +kernel
theorem dX5_at_22 : decode cX5_at 22 = .ok (.invokevirtual 27, 3) := by decide +kernel
theorem dX5_at_25 : decode cX5_at 25 = .ok (.aaload, 1) := by decide +kernel
theorem dX5_at_26 : decode cX5_at 26 = .ok (.areturn, 1) := by decide +kernel
set_option maxRecDepth 20000 in
theorem ggX5_addLast_X5_cellOf : GoodIn wsX5_addLast wsX5_cellOf := goodIn_r _ [7, 8, 2, 9, 10, 11] (by decide +kernel) (by decide +kernel)
set_option maxRecDepth 20000 in
theorem gX5_addLast_X5_cellOf : GoodIn wsX5_addLast (wsV RX5 27 RX5 yX5_cellOf wsX5_cellOf) := goodIn_app (goodIn_of _ (by decide +kernel)) ggX5_addLast_X5_cellOf
theorem dX5_addLast_0 : decode cX5_addLast 0 = .ok (.aload_n 0, 1) := by decide +kernel
theorem dX5_addLast_1 : decode cX5_addLast 1 = .ok (.getfield 23, 3) := by decide +kernel
theorem dX5_addLast_4 : decode cX5_addLast 4 = .ok (.aload_n 0, 1) := by decide +kernel
theorem dX5_addLast_5 : decode cX5_addLast 5 = .ok (.getfield 17, 3) := by decide +kernel
theorem dX5_addLast_8 : decode cX5_addLast 8 = .ok (.arraylength, 1) := by decide +kernel
theorem dX5_addLast_9 : decode cX5_addLast 9 = .ok (.if_icmp .ge 27, 3) := by decide +kernel
theorem dX5_addLast_12 : decode cX5_addLast 12 = .ok (.aload_n 0, 1) := by decide +kernel
theorem dX5_addLast_13 : decode cX5_addLast 13 = .ok (.getfield 17, 3) := by decide +kernel
theorem dX5_addLast_16 : decode cX5_addLast 16 = .ok (.aload_n 0, 1) := by decide +kernel
theorem dX5_addLast_17 : decode cX5_addLast 17 = .ok (.aload_n 0, 1) := by decide +kernel
theorem dX5_addLast_18 : decode cX5_addLast 18 = .ok (.getfield 23, 3) := by decide +kernel
theorem dX5_addLast_21 : decode cX5_addLast 21 = .ok (.invokevirtual 27, 3) := by decide +kernel
theorem dX5_addLast_24 : decode cX5_addLast 24 = .ok (.aload_n 1, 1) := by decide +kernel
theorem dX5_addLast_25 : decode cX5_addLast 25 = .ok (.aastore, 1) := by decide +kernel
theorem dX5_addLast_26 : decode cX5_addLast 26 = .ok (.aload_n 0, 1) := by decide +kernel
theorem dX5_addLast_27 : decode cX5_addLast 27 = .ok (.dup, 1) := by decide +kernel
theorem dX5_addLast_28 : decode cX5_addLast 28 = .ok (.getfield 23, 3) := by decide +kernel
theorem dX5_addLast_31 : decode cX5_addLast 31 = .ok (.iconst 1, 1) := by decide +kernel
theorem dX5_addLast_32 : decode cX5_addLast 32 = .ok (.iadd, 1) := by decide +kernel
theorem dX5_addLast_33 : decode cX5_addLast 33 = .ok (.putfield 23, 3) := by decide +kernel
theorem dX5_addLast_36 : decode cX5_addLast 36 = .ok (.return_, 1) := by decide +kernel
theorem dX5_addFirst_0 : decode cX5_addFirst 0 = .ok (.aload_n 0, 1) := by decide +kernel
theorem dX5_addFirst_1 : decode cX5_addFirst 1 = .ok (.getfield 23, 3) := by decide +kernel
theorem dX5_addFirst_4 : decode cX5_addFirst 4 = .ok (.aload_n 0, 1) := by decide +kernel
theorem dX5_addFirst_5 : decode cX5_addFirst 5 = .ok (.getfield 17, 3) := by decide +kernel
theorem dX5_addFirst_8 : decode cX5_addFirst 8 = .ok (.arraylength, 1) := by decide +kernel
theorem dX5_addFirst_9 : decode cX5_addFirst 9 = .ok (.if_icmp .ge 50, 3) := by decide +kernel
theorem dX5_addFirst_12 : decode cX5_addFirst 12 = .ok (.aload_n 0, 1) := by decide +kernel
theorem dX5_addFirst_13 : decode cX5_addFirst 13 = .ok (.aload_n 0, 1) := by decide +kernel
theorem dX5_addFirst_14 : decode cX5_addFirst 14 = .ok (.getfield 31, 3) := by decide +kernel
theorem dX5_addFirst_17 : decode cX5_addFirst 17 = .ok (.ifCond .ne 13, 3) := by decide +kernel
theorem dX5_addFirst_20 : decode cX5_addFirst 20 = .ok (.aload_n 0, 1) := by decide +kernel
theorem dX5_addFirst_21 : decode cX5_addFirst 21 = .ok (.getfield 17, 3) := by decide +kernel
theorem dX5_addFirst_24 : decode cX5_addFirst 24 = .ok (.arraylength, 1) := by decide +kernel
theorem dX5_addFirst_25 : decode cX5_addFirst 25 = .ok (.iconst 1, 1) := by decide +kernel
theorem dX5_addFirst_26 : decode cX5_addFirst 26 = .ok (.isub, 1) := by decide +kernel
theorem dX5_addFirst_27 : decode cX5_addFirst 27 = .ok (.goto 9, 3) := by decide +kernel
theorem dX5_addFirst_30 : decode cX5_addFirst 30 = .ok (.aload_n 0, 1) := by decide +kernel
theorem dX5_addFirst_31 : decode cX5_addFirst 31 = .ok (.getfield 31, 3) := by decide +kernel
theorem dX5_addFirst_34 : decode cX5_addFirst 34 = .ok (.iconst 1, 1) := by decide +kernel
theorem dX5_addFirst_35 : decode cX5_addFirst 35 = .ok (.isub, 1) := by decide +kernel
theorem dX5_addFirst_36 : decode cX5_addFirst 36 = .ok (.putfield 31, 3) := by decide +kernel
theorem dX5_addFirst_39 : decode cX5_addFirst 39 = .ok (.aload_n 0, 1) := by decide +kernel
theorem dX5_addFirst_40 : decode cX5_addFirst 40 = .ok (.getfield 17, 3) := by decide +kernel
theorem dX5_addFirst_43 : decode cX5_addFirst 43 = .ok (.aload_n 0, 1) := by decide +kernel
theorem dX5_addFirst_44 : decode cX5_addFirst 44 = .ok (.getfield 31, 3) := by decide +kernel
theorem dX5_addFirst_47 : decode cX5_addFirst 47 = .ok (.aload_n 1, 1) := by decide +kernel
theorem dX5_addFirst_48 : decode cX5_addFirst 48 = .ok (.aastore, 1) := by decide +kernel
theorem dX5_addFirst_49 : decode cX5_addFirst 49 = .ok (.aload_n 0, 1) := by decide +kernel
theorem dX5_addFirst_50 : decode cX5_addFirst 50 = .ok (.dup, 1) := by decide +kernel
theorem dX5_addFirst_51 : decode cX5_addFirst 51 = .ok (.getfield 23, 3) := by decide +kernel
theorem dX5_addFirst_54 : decode cX5_addFirst 54 = .ok (.iconst 1, 1) := by decide +kernel
theorem dX5_addFirst_55 : decode cX5_addFirst 55 = .ok (.iadd, 1) := by decide +kernel
theorem dX5_addFirst_56 : decode cX5_addFirst 56 = .ok (.putfield 23, 3) := by decide +kernel
theorem dX5_addFirst_59 : decode cX5_addFirst 59 = .ok (.return_, 1) := by decide +kernel
set_option maxRecDepth 20000 in
theorem ggX5_removeFirst_X5_cellOf : GoodIn wsX5_removeFirst wsX5_cellOf := goodIn_r _ [8, 3, 2, 9, 10, 11] (by decide +kernel) (by decide +kernel)
set_option maxRecDepth 20000 in
theorem gX5_removeFirst_X5_cellOf : GoodIn wsX5_removeFirst (wsV RX5 27 RX5 yX5_cellOf wsX5_cellOf) := goodIn_app (goodIn_of _ (by decide +kernel)) ggX5_removeFirst_X5_cellOf
theorem dX5_removeFirst_0 : decode cX5_removeFirst 0 = .ok (.aload_n 0, 1) := by decide +kernel
theorem dX5_removeFirst_1 : decode cX5_removeFirst 1 = .ok (.getfield 23, 3) := by decide +kernel
theorem dX5_removeFirst_4 : decode cX5_removeFirst 4 = .ok (.ifCond .ne 5, 3) := by decide +kernel
theorem dX5_removeFirst_7 : decode cX5_removeFirst 7 = .ok (.aconst_null, 1) := by decide +kernel
theorem dX5_removeFirst_8 : decode cX5_removeFirst 8 = .ok (.areturn, 1) := by decide +kernel
theorem dX5_removeFirst_9 : decode cX5_removeFirst 9 = .ok (.aload_n 0, 1) := by decide +kernel
theorem dX5_removeFirst_10 : decode cX5_removeFirst 10 = .ok (.getfield 17, 3) := by decide +kernel
theorem dX5_removeFirst_13 : decode cX5_removeFirst 13 = .ok (.aload_n 0, 1) := by decide +kernel
theorem dX5_removeFirst_14 : decode cX5_removeFirst 14 = .ok (.getfield 31, 3) := by decide +kernel
theorem dX5_removeFirst_17 : decode cX5_removeFirst 17 = .ok (.aaload, 1) := by decide +kernel
theorem dX5_removeFirst_18 : decode cX5_removeFirst 18 = .ok (.astore_n 1, 1) := by decide +kernel
theorem dX5_removeFirst_19 : decode cX5_removeFirst 19 = .ok (.aload_n 0, 1) := by decide +kernel
theorem dX5_removeFirst_20 : decode cX5_removeFirst 20 = .ok (.aload_n 0, 1) := by decide +kernel
theorem dX5_removeFirst_21 : decode cX5_removeFirst 21 = .ok (.iconst 1, 1) := by decide +kernel
theorem dX5_removeFirst_22 : decode cX5_removeFirst 22 = .ok (.invokevirtual 27, 3) := by decide +kernel
theorem dX5_removeFirst_25 : decode cX5_removeFirst 25 = .ok (.putfield 31, 3) := by decide +kernel
theorem dX5_removeFirst_28 : decode cX5_removeFirst 28 = .ok (.aload_n 0, 1) := by decide +kernel
theorem dX5_removeFirst_29 : decode cX5_removeFirst 29 = .ok (.dup, 1) := by decide +kernel
theorem dX5_removeFirst_30 : decode cX5_removeFirst 30 = .ok (.getfield 23, 3) := by decide +kernel
theorem dX5_removeFirst_33 : decode cX5_removeFirst 33 = .ok (.iconst 1, 1) := by decide +kernel
theorem dX5_removeFirst_34 : decode cX5_removeFirst 34 = .ok (.isub, 1) := by decide +kernel
theorem dX5_removeFirst_35 : decode cX5_removeFirst 35 = .ok (.putfield 23, 3) := by decide +kernel
theorem dX5_removeFirst_38 : decode cX5_removeFirst 38 = .ok (.aload_n 1, 1) := by decide +kernel
theorem dX5_removeFirst_39 : decode cX5_removeFirst 39 = .ok (.areturn, 1) := by decide +kernel
set_option maxRecDepth 20000 in
theorem ggX5_removeAt_X5_at : GoodIn wsX5_removeAt wsX5_at := goodIn_r _ [7, 1, 2, 8, 9, 10, 6, 11, 12, 13, 14, 15] (by decide +kernel) (by decide +kernel)
set_option maxRecDepth 20000 in
theorem gX5_removeAt_X5_at : GoodIn wsX5_removeAt (wsV RX5 34 RX5 yX5_at wsX5_at) := goodIn_app (goodIn_of _ (by decide +kernel)) ggX5_removeAt_X5_at
set_option maxRecDepth 20000 in
theorem ggX5_removeAt_X5_cellOf : GoodIn wsX5_removeAt wsX5_cellOf := goodIn_r _ [11, 12, 2, 13, 14, 15] (by decide +kernel) (by decide +kernel)
set_option maxRecDepth 20000 in
theorem gX5_removeAt_X5_cellOf : GoodIn wsX5_removeAt (wsV RX5 27 RX5 yX5_cellOf wsX5_cellOf) := goodIn_app (goodIn_of _ (by decide +kernel)) ggX5_removeAt_X5_cellOf
theorem dX5_removeAt_0 : decode cX5_removeAt 0 = .ok (.aload_n 0, 1) := by decide +kernel
theorem dX5_removeAt_1 : decode cX5_removeAt 1 = .ok (.iload_n 1, 1) := by decide +kernel
theorem dX5_removeAt_2 : decode cX5_removeAt 2 = .ok (.invokevirtual 34, 3) := by decide +kernel
theorem dX5_removeAt_5 : decode cX5_removeAt 5 = .ok (.astore_n 2, 1) := by decide +kernel
theorem dX5_removeAt_6 : decode cX5_removeAt 6 = .ok (.aload_n 2, 1) := by decide +kernel
theorem dX5_removeAt_7 : decode cX5_removeAt 7 = .ok (.ifnonnull 5, 3) := by decide +kernel
theorem dX5_removeAt_10 : decode cX5_removeAt 10 = .ok (.aconst_null, 1) := by decide +kernel
theorem dX5_removeAt_11 : decode cX5_removeAt 11 = .ok (.areturn, 1) := by decide +kernel
theorem dX5_removeAt_12 : decode cX5_removeAt 12 = .ok (.iload_n 1, 1) := by decide +kernel
theorem dX5_removeAt_13 : decode cX5_removeAt 13 = .ok (.istore_n 3, 1) := by decide +kernel
theorem dX5_removeAt_14 : decode cX5_removeAt 14 = .ok (.iload_n 3, 1) := by decide +kernel
theorem dX5_removeAt_15 : decode cX5_removeAt 15 = .ok (.aload_n 0, 1) := by decide +kernel
theorem dX5_removeAt_16 : decode cX5_removeAt 16 = .ok (.getfield 23, 3) := by decide +kernel
theorem dX5_removeAt_19 : decode cX5_removeAt 19 = .ok (.iconst 1, 1) := by decide +kernel
theorem dX5_removeAt_20 : decode cX5_removeAt 20 = .ok (.isub, 1) := by decide +kernel
theorem dX5_removeAt_21 : decode cX5_removeAt 21 = .ok (.if_icmp .ge 31, 3) := by decide +kernel
theorem dX5_removeAt_24 : decode cX5_removeAt 24 = .ok (.aload_n 0, 1) := by decide +kernel
theorem dX5_removeAt_25 : decode cX5_removeAt 25 = .ok (.getfield 17, 3) := by decide +kernel
theorem dX5_removeAt_28 : decode cX5_removeAt 28 = .ok (.aload_n 0, 1) := by decide +kernel
theorem dX5_removeAt_29 : decode cX5_removeAt 29 = .ok (.iload_n 3, 1) := by decide +kernel
theorem dX5_removeAt_30 : decode cX5_removeAt 30 = .ok (.invokevirtual 27, 3) := by decide +kernel
theorem dX5_removeAt_33 : decode cX5_removeAt 33 = .ok (.aload_n 0, 1) := by decide +kernel
theorem dX5_removeAt_34 : decode cX5_removeAt 34 = .ok (.getfield 17, 3) := by decide +kernel
theorem dX5_removeAt_37 : decode cX5_removeAt 37 = .ok (.aload_n 0, 1) := by decide +kernel
theorem dX5_removeAt_38 : decode cX5_removeAt 38 = .ok (.iload_n 3, 1) := by decide +kernel
theorem dX5_removeAt_39 : decode cX5_removeAt 39 = .ok (.iconst 1, 1) := by decide +kernel
theorem dX5_removeAt_40 : decode cX5_removeAt 40 = .ok (.iadd, 1) := by decide +kernel
theorem dX5_removeAt_41 : decode cX5_removeAt 41 = .ok (.invokevirtual 27, 3) := by decide +kernel
theorem dX5_removeAt_44 : decode cX5_removeAt 44 = .ok (.aaload, 1) := by decide +kernel
theorem dX5_removeAt_45 : decode cX5_removeAt 45 = .ok (.aastore, 1) := by decide +kernel
theorem dX5_removeAt_46 : decode cX5_removeAt 46 = .ok (.iinc 3 1, 3) := by decide +kernel
theorem dX5_removeAt_49 : decode cX5_removeAt 49 = .ok (.goto (-35), 3) := by decide +kernel
theorem dX5_removeAt_52 : decode cX5_removeAt 52 = .ok (.aload_n 0, 1) := by decide +kernel
theorem dX5_removeAt_53 : decode cX5_removeAt 53 = .ok (.dup, 1) := by decide +kernel
theorem dX5_removeAt_54 : decode cX5_removeAt 54 = .ok (.getfield 23, 3) := by decide +kernel
theorem dX5_removeAt_57 : decode cX5_removeAt 57 = .ok (.iconst 1, 1) := by decide +kernel
theorem dX5_removeAt_58 : decode cX5_removeAt 58 = .ok (.isub, 1) := by decide +kernel
theorem dX5_removeAt_59 : decode cX5_removeAt 59 = .ok (.putfield 23, 3) := by decide +kernel
theorem dX5_removeAt_62 : decode cX5_removeAt 62 = .ok (.aload_n 2, 1) := by decide +kernel
theorem dX5_removeAt_63 : decode cX5_removeAt 63 = .ok (.areturn, 1) := by decide +kernel
set_option maxRecDepth 20000 in
theorem ggX5_sumOfFineness_X5_at : GoodIn wsX5_sumOfFineness wsX5_at := goodIn_r _ [7, 1, 8, 9, 10, 11, 6, 12, 13, 21, 22, 23] (by decide +kernel) (by decide +kernel)
set_option maxRecDepth 20000 in
theorem gX5_sumOfFineness_X5_at : GoodIn wsX5_sumOfFineness (wsV RX5 34 RX5 yX5_at wsX5_at) := goodIn_app (goodIn_of _ (by decide +kernel)) ggX5_sumOfFineness_X5_at
set_option maxRecDepth 20000 in
theorem ggX5_sumOfFineness_X0_finenessAt : GoodIn wsX5_sumOfFineness wsX0_finenessAt := goodIn_r _ [18, 19, 20, 24, 25, 26, 27, 28, 29, 30, 31, 32, 33] (by decide +kernel) (by decide +kernel)
set_option maxRecDepth 20000 in
theorem gX5_sumOfFineness_X0_finenessAt : GoodIn wsX5_sumOfFineness (wsV RX5 41 RX0 yX0_finenessAt wsX0_finenessAt) := goodIn_app (goodIn_of _ (by decide +kernel)) ggX5_sumOfFineness_X0_finenessAt
theorem dX5_sumOfFineness_0 : decode cX5_sumOfFineness 0 = .ok (.iconst 0, 1) := by decide +kernel
theorem dX5_sumOfFineness_1 : decode cX5_sumOfFineness 1 = .ok (.istore_n 1, 1) := by decide +kernel
theorem dX5_sumOfFineness_2 : decode cX5_sumOfFineness 2 = .ok (.iconst 0, 1) := by decide +kernel
theorem dX5_sumOfFineness_3 : decode cX5_sumOfFineness 3 = .ok (.istore_n 2, 1) := by decide +kernel
theorem dX5_sumOfFineness_4 : decode cX5_sumOfFineness 4 = .ok (.iload_n 2, 1) := by decide +kernel
theorem dX5_sumOfFineness_5 : decode cX5_sumOfFineness 5 = .ok (.aload_n 0, 1) := by decide +kernel
theorem dX5_sumOfFineness_6 : decode cX5_sumOfFineness 6 = .ok (.getfield 23, 3) := by decide +kernel
theorem dX5_sumOfFineness_9 : decode cX5_sumOfFineness 9 = .ok (.if_icmp .ge 34, 3) := by decide +kernel
theorem dX5_sumOfFineness_12 : decode cX5_sumOfFineness 12 = .ok (.aload_n 0, 1) := by decide +kernel
theorem dX5_sumOfFineness_13 : decode cX5_sumOfFineness 13 = .ok (.iload_n 2, 1) := by decide +kernel
theorem dX5_sumOfFineness_14 : decode cX5_sumOfFineness 14 = .ok (.invokevirtual 34, 3) := by decide +kernel
theorem dX5_sumOfFineness_17 : decode cX5_sumOfFineness 17 = .ok (.astore_n 3, 1) := by decide +kernel
theorem dX5_sumOfFineness_18 : decode cX5_sumOfFineness 18 = .ok (.iload_n 1, 1) := by decide +kernel
theorem dX5_sumOfFineness_19 : decode cX5_sumOfFineness 19 = .ok (.aload_n 3, 1) := by decide +kernel
theorem dX5_sumOfFineness_20 : decode cX5_sumOfFineness 20 = .ok (.ifnonnull 7, 3) := by decide +kernel
theorem dX5_sumOfFineness_23 : decode cX5_sumOfFineness 23 = .ok (.iconst 0, 1) := by decide +kernel
theorem dX5_sumOfFineness_24 : decode cX5_sumOfFineness 24 = .ok (.goto 11, 3) := by decide +kernel
theorem dX5_sumOfFineness_27 : decode cX5_sumOfFineness 27 = .ok (.aload_n 3, 1) := by decide +kernel
theorem dX5_sumOfFineness_28 : decode cX5_sumOfFineness 28 = .ok (.aload_n 3, 1) := by decide +kernel
theorem dX5_sumOfFineness_29 : decode cX5_sumOfFineness 29 = .ok (.getfield 38, 3) := by decide +kernel
theorem dX5_sumOfFineness_32 : decode cX5_sumOfFineness 32 = .ok (.invokevirtual 41, 3) := by decide +kernel
theorem dX5_sumOfFineness_35 : decode cX5_sumOfFineness 35 = .ok (.iadd, 1) := by decide +kernel
theorem dX5_sumOfFineness_36 : decode cX5_sumOfFineness 36 = .ok (.istore_n 1, 1) := by decide +kernel
theorem dX5_sumOfFineness_37 : decode cX5_sumOfFineness 37 = .ok (.iinc 2 1, 3) := by decide +kernel
theorem dX5_sumOfFineness_40 : decode cX5_sumOfFineness 40 = .ok (.goto (-36), 3) := by decide +kernel
theorem dX5_sumOfFineness_43 : decode cX5_sumOfFineness 43 = .ok (.iload_n 1, 1) := by decide +kernel
theorem dX5_sumOfFineness_44 : decode cX5_sumOfFineness 44 = .ok (.ireturn, 1) := by decide +kernel
set_option maxRecDepth 20000 in
theorem ggX5_thinnest_X5_at : GoodIn wsX5_thinnest wsX5_at := goodIn_r _ [8, 2, 9, 10, 11, 12, 7, 13, 14, 22, 23, 24] (by decide +kernel) (by decide +kernel)
set_option maxRecDepth 20000 in
theorem gX5_thinnest_X5_at : GoodIn wsX5_thinnest (wsV RX5 34 RX5 yX5_at wsX5_at) := goodIn_app (goodIn_of _ (by decide +kernel)) ggX5_thinnest_X5_at
set_option maxRecDepth 20000 in
theorem ggX5_thinnest_X0_finenessAt : GoodIn wsX5_thinnest wsX0_finenessAt := goodIn_r _ [19, 20, 21, 25, 26, 27, 28, 29, 30, 31, 32, 33, 34] (by decide +kernel) (by decide +kernel)
set_option maxRecDepth 20000 in
theorem gX5_thinnest_X0_finenessAt : GoodIn wsX5_thinnest (wsV RX5 41 RX0 yX0_finenessAt wsX0_finenessAt) := goodIn_app (goodIn_of _ (by decide +kernel)) ggX5_thinnest_X0_finenessAt
theorem dX5_thinnest_0 : decode cX5_thinnest 0 = .ok (.iconst (-1), 1) := by decide +kernel
theorem dX5_thinnest_1 : decode cX5_thinnest 1 = .ok (.istore_n 1, 1) := by decide +kernel
theorem dX5_thinnest_2 : decode cX5_thinnest 2 = .ok (.ldc 46, 2) := by decide +kernel
theorem dX5_thinnest_4 : decode cX5_thinnest 4 = .ok (.istore_n 2, 1) := by decide +kernel
theorem dX5_thinnest_5 : decode cX5_thinnest 5 = .ok (.iconst 0, 1) := by decide +kernel
theorem dX5_thinnest_6 : decode cX5_thinnest 6 = .ok (.istore_n 3, 1) := by decide +kernel
theorem dX5_thinnest_7 : decode cX5_thinnest 7 = .ok (.iload_n 3, 1) := by decide +kernel
theorem dX5_thinnest_8 : decode cX5_thinnest 8 = .ok (.aload_n 0, 1) := by decide +kernel
theorem dX5_thinnest_9 : decode cX5_thinnest 9 = .ok (.getfield 23, 3) := by decide +kernel
theorem dX5_thinnest_12 : decode cX5_thinnest 12 = .ok (.if_icmp .ge 48, 3) := by decide +kernel
theorem dX5_thinnest_15 : decode cX5_thinnest 15 = .ok (.aload_n 0, 1) := by decide +kernel
theorem dX5_thinnest_16 : decode cX5_thinnest 16 = .ok (.iload_n 3, 1) := by decide +kernel
theorem dX5_thinnest_17 : decode cX5_thinnest 17 = .ok (.invokevirtual 34, 3) := by decide +kernel
theorem dX5_thinnest_20 : decode cX5_thinnest 20 = .ok (.astore 4, 2) := by decide +kernel
theorem dX5_thinnest_22 : decode cX5_thinnest 22 = .ok (.aload 4, 2) := by decide +kernel
theorem dX5_thinnest_24 : decode cX5_thinnest 24 = .ok (.ifnull 30, 3) := by decide +kernel
theorem dX5_thinnest_27 : decode cX5_thinnest 27 = .ok (.aload 4, 2) := by decide +kernel
theorem dX5_thinnest_29 : decode cX5_thinnest 29 = .ok (.aload 4, 2) := by decide +kernel
theorem dX5_thinnest_31 : decode cX5_thinnest 31 = .ok (.getfield 38, 3) := by decide +kernel
theorem dX5_thinnest_34 : decode cX5_thinnest 34 = .ok (.invokevirtual 41, 3) := by decide +kernel
theorem dX5_thinnest_37 : decode cX5_thinnest 37 = .ok (.iload_n 2, 1) := by decide +kernel
theorem dX5_thinnest_38 : decode cX5_thinnest 38 = .ok (.if_icmp .ge 16, 3) := by decide +kernel
theorem dX5_thinnest_41 : decode cX5_thinnest 41 = .ok (.aload 4, 2) := by decide +kernel
theorem dX5_thinnest_43 : decode cX5_thinnest 43 = .ok (.aload 4, 2) := by decide +kernel
theorem dX5_thinnest_45 : decode cX5_thinnest 45 = .ok (.getfield 38, 3) := by decide +kernel
theorem dX5_thinnest_48 : decode cX5_thinnest 48 = .ok (.invokevirtual 41, 3) := by decide +kernel
theorem dX5_thinnest_51 : decode cX5_thinnest 51 = .ok (.istore_n 2, 1) := by decide +kernel
theorem dX5_thinnest_52 : decode cX5_thinnest 52 = .ok (.iload_n 3, 1) := by decide +kernel
theorem dX5_thinnest_53 : decode cX5_thinnest 53 = .ok (.istore_n 1, 1) := by decide +kernel
theorem dX5_thinnest_54 : decode cX5_thinnest 54 = .ok (.iinc 3 1, 3) := by decide +kernel
theorem dX5_thinnest_57 : decode cX5_thinnest 57 = .ok (.goto (-50), 3) := by decide +kernel
theorem dX5_thinnest_60 : decode cX5_thinnest 60 = .ok (.iload_n 1, 1) := by decide +kernel
theorem dX5_thinnest_61 : decode cX5_thinnest 61 = .ok (.ireturn, 1) := by decide +kernel
theorem dX5_cellOf_0 : decode cX5_cellOf 0 = .ok (.aload_n 0, 1) := by decide +kernel
theorem dX5_cellOf_1 : decode cX5_cellOf 1 = .ok (.getfield 31, 3) := by decide +kernel
theorem dX5_cellOf_4 : decode cX5_cellOf 4 = .ok (.iload_n 1, 1) := by decide +kernel
theorem dX5_cellOf_5 : decode cX5_cellOf 5 = .ok (.iadd, 1) := by decide +kernel
theorem dX5_cellOf_6 : decode cX5_cellOf 6 = .ok (.istore_n 2, 1) := by decide +kernel
theorem dX5_cellOf_7 : decode cX5_cellOf 7 = .ok (.iload_n 2, 1) := by decide +kernel
theorem dX5_cellOf_8 : decode cX5_cellOf 8 = .ok (.aload_n 0, 1) := by decide +kernel
theorem dX5_cellOf_9 : decode cX5_cellOf 9 = .ok (.getfield 17, 3) := by decide +kernel
theorem dX5_cellOf_12 : decode cX5_cellOf 12 = .ok (.arraylength, 1) := by decide +kernel
theorem dX5_cellOf_13 : decode cX5_cellOf 13 = .ok (.if_icmp .ge 7, 3) := by decide +kernel
theorem dX5_cellOf_16 : decode cX5_cellOf 16 = .ok (.iload_n 2, 1) := by decide +kernel
theorem dX5_cellOf_17 : decode cX5_cellOf 17 = .ok (.goto 10, 3) := by decide +kernel
theorem dX5_cellOf_20 : decode cX5_cellOf 20 = .ok (.iload_n 2, 1) := by decide +kernel
theorem dX5_cellOf_21 : decode cX5_cellOf 21 = .ok (.aload_n 0, 1) := by decide +kernel
theorem dX5_cellOf_22 : decode cX5_cellOf 22 = .ok (.getfield 17, 3) := by decide +kernel
theorem dX5_cellOf_25 : decode cX5_cellOf 25 = .ok (.arraylength, 1) := by decide +kernel
theorem dX5_cellOf_26 : decode cX5_cellOf 26 = .ok (.isub, 1) := by decide +kernel
theorem dX5_cellOf_27 : decode cX5_cellOf 27 = .ok (.ireturn, 1) := by decide +kernel
theorem inn_X0_breaksAnywhere_0 : ∀ w ∈ u_ws RX0 TX0 10, w ∈ wsX0_breaksAnywhere := fun w h => List.mem_cons_of_mem _ (List.mem_append_right _ h)
theorem inn_X0_breaksAt_0 : ∀ w ∈ u_ws RX0 TX0 10, w ∈ wsX0_breaksAt := fun w h => List.mem_cons_of_mem _ (List.mem_append_right _ h)
theorem inn_X0_drawOneMetre_0 : ∀ w ∈ u_ws RX0 TX0 10, w ∈ wsX0_drawOneMetre := fun w h => List.mem_cons_of_mem _ (List.mem_append_right _ h)
theorem inn_X5_addFirst_5 : ∀ w ∈ u_ws RX5 TX5 3, w ∈ wsX5_addFirst := fun w h => List.mem_cons_of_mem _ (List.mem_append_right _ h)
theorem inn_X5_addLast_5 : ∀ w ∈ u_ws RX5 TX5 3, w ∈ wsX5_addLast := fun w h => List.mem_cons_of_mem _ (List.mem_append_right _ h)
theorem inn_X5_at_5 : ∀ w ∈ u_ws RX5 TX5 3, w ∈ wsX5_at := fun w h => List.mem_cons_of_mem _ (List.mem_append_right _ h)
theorem inn_X5_cellOf_5 : ∀ w ∈ u_ws RX5 TX5 3, w ∈ wsX5_cellOf := fun w h => List.mem_cons_of_mem _ (List.mem_append_right _ h)
theorem inn_X5_removeAt_5 : ∀ w ∈ u_ws RX5 TX5 3, w ∈ wsX5_removeAt := fun w h => List.mem_cons_of_mem _ (List.mem_append_right _ h)
theorem inn_X5_removeFirst_5 : ∀ w ∈ u_ws RX5 TX5 3, w ∈ wsX5_removeFirst := fun w h => List.mem_cons_of_mem _ (List.mem_append_right _ h)
theorem inn_X5_sumOfFineness_0 : ∀ w ∈ u_ws RX0 TX0 10, w ∈ wsX5_sumOfFineness := fun w h => List.mem_cons_of_mem _ (List.mem_append_right _ h)
theorem inn_X5_sumOfFineness_5 : ∀ w ∈ u_ws RX5 TX5 3, w ∈ wsX5_sumOfFineness := fun w h => List.mem_cons_of_mem _ (List.mem_append_left _ (List.mem_append_right _ h))
theorem inn_X5_thinnest_0 : ∀ w ∈ u_ws RX0 TX0 10, w ∈ wsX5_thinnest := fun w h => List.mem_cons_of_mem _ (List.mem_append_right _ h)
theorem inn_X5_thinnest_5 : ∀ w ∈ u_ws RX5 TX5 3, w ∈ wsX5_thinnest := fun w h => List.mem_cons_of_mem _ (List.mem_append_left _ (List.mem_append_right _ h))
set_option maxHeartbeats 4000000 in
set_option maxRecDepth 100000 in
theorem k_X0_silkBetween (l : Launch) (G : va_G) (cy : Nat → ClassId) (κ : Nat → Nat) (S : PS) (sz : Nat) (x : Nat) (a1 : Int32) (a1_z : Int) (a2 : Int32) (a2_z : Int) (hG : GX S) (ha_x : At S x 0) (hz_a1 : a1.toInt = a1_z) (hz_a2 : a2.toInt = a2_z) : Ci l yX0_silkBetween wsX0_silkBetween ({ frames := 2, cells := 0, slots := 0, locals := 96 }) G cy κ S sz [.ref x, .int (a1), .int (a2)] (fun (r : Int32) (S9 : PS) => S = S9 ∧ (True)) := by
  refine ent_m (cc := cX0_silkBetween) (maxL := 5) (ret := (some .int)) (by decide) rfl (Nat.le_of_ble_eq_true rfl) ?_
  intro p e s m below meth c ls X hr hlocks hin hw hl hsz
  subst hsz
  have X : Cx p c cX0_silkBetween 5 s [.ref x, .int (a1), .int (a2)].toArray wsX0_silkBetween RX0 m G cy κ (AS S s.heap.size) := X
  have hl : lv_has ls 5 [(0, .ref x), (1, .int (a1)), (2, .int (a2))] := hl
  have rg_a1 : (-2147483648) ≤ a1_z ∧ a1_z ≤ 2147483647 := by rw [← hz_a1]; exact ⟨z_lo _, z_hi _⟩
  have rg_a2 : (-2147483648) ≤ a2_z ∧ a2_z ≤ 2147483647 := by rw [← hz_a2]; exact ⟨z_lo _, z_hi _⟩
  generalize hQQ : MQ below _ _ _ _ _ _ = QQ
  replace hQQ := hQQ.symm
  refine lv_iconst (v := 0) X.1 X.2.1 dX0_silkBetween_0 (by decide) ?_
  refine lv_istore_n (lv' := [(3, .int 0), (0, .ref x), (1, .int (a1)), (2, .int (a2))]) X.1 X.2.1 dX0_silkBetween_1 rfl hl (by decide) rfl (fun ls hl => ?_)
  refine lv_iload_n X.1 X.2.1 dX0_silkBetween_2 rfl (lv_at hl 2 rfl) ?_
  refine lv_istore (lv' := [(4, .int (a1)), (3, .int 0), (0, .ref x), (1, .int (a1)), (2, .int (a2))]) X.1 X.2.1 dX0_silkBetween_3 hl (by decide) rfl (fun ls hl => ?_)
  have L_1 : ∀ (n : Nat) (H : Heap) (locs : List Loc) (ls : Array Slot) (i3_2 : Int32) (i3_2_z : Int) (i4_3 : Int32) (i4_3_z : Int), ((a2_z - i4_3_z).toNat = n) → (Wd G cy (AS S s.heap.size) s.heap S H locs) → (i3_2.toInt = i3_2_z) → (i4_3.toInt = i4_3_z) → (lv_has ls 5 [(3, .int (i3_2)), (4, .int (i4_3)), (0, .ref x), (1, .int (a1)), (2, .int (a2))]) → W p l e ({ frames := 2, cells := 0, slots := 0, locals := 96 }) s m [.ref x, .int (a1), .int (a2)].toArray below meth c H locs 0 0 QQ (F0 m 5 ls []) := by
    intro n
    induction n using Nat.strongRecOn with
    | ind n ih =>
    intro H locs ls i3_2 i3_2_z i4_3 i4_3_z hn hw hz_i3_2 hz_i4_3 hl
    have rg_4 : (-2147483648) ≤ i3_2_z ∧ i3_2_z ≤ 2147483647 := by rw [← hz_i3_2]; exact ⟨z_lo _, z_hi _⟩
    have rg_5 : (-2147483648) ≤ i4_3_z ∧ i4_3_z ≤ 2147483647 := by rw [← hz_i4_3]; exact ⟨z_lo _, z_hi _⟩
    refine lv_iload X.1 X.2.1 dX0_silkBetween_5 (lv_at hl 1 rfl) ?_
    refine lv_iload_n X.1 X.2.1 dX0_silkBetween_7 rfl (lv_at hl 4 rfl) ?_
    refine lv_icmp_ge (tgt := 26) X.1 X.2.1 dX0_silkBetween_8 (by decide) (fun c_6 => ?_) (fun c_6 => ?_)
    · have z_b_7 := trivial
      have k_8 : i4_3_z ≥ a2_z := z_le hz_a2 hz_i4_3 c_6
      refine lv_iload_n X.1 X.2.1 dX0_silkBetween_26 rfl (lv_at hl 0 rfl) ?_
      rw [hQQ]
      exact ret_i X hw hr hlocks (Nat.le_of_ble_eq_true rfl) (Nat.le_of_ble_eq_true rfl) ⟨rfl, trivial⟩ dX0_silkBetween_27
    · have z_b_9 := trivial
      have k_10 : i4_3_z < a2_z := z_nle hz_a2 hz_i4_3 c_6
      refine lv_iload_n X.1 X.2.1 dX0_silkBetween_11 rfl (lv_at hl 0 rfl) ?_
      refine lv_aload_n X.1 X.2.1 dX0_silkBetween_12 rfl (lv_at hl 2 rfl) ?_
      refine lv_iload X.1 X.2.1 dX0_silkBetween_13 (lv_at hl 1 rfl) ?_
      refine k_i (rm := { frames := 1, cells := 0, slots := 0, locals := 48 }) (av := [.ref x, .int (i4_3)]) X hw (va_runV (As := [.int (i4_3)]) (rest := [.int (i3_2)]) (cfix X) (k_X0_finenessAt l G cy κ S _ x (i4_3) (i4_3_z) hG ha_x hz_i4_3) (cwV 1 X.2.2.2.1 gX0_silkBetween_X0_finenessAt rfl rfl rfl (by decide +kernel) ⟨Nat.le_of_ble_eq_true rfl, Nat.le_of_ble_eq_true rfl⟩) (pre_V X hw _ ha_x rfl (by decide) rfl) rfl rfl hl.1 rfl (lv_room (Nat.le_of_ble_eq_true rfl)) dX0_silkBetween_15 ⟨Nat.le_of_ble_eq_true rfl, Nat.le_of_ble_eq_true rfl⟩) 0 0 (Nat.le_of_ble_eq_true rfl) (Nat.le_of_ble_eq_true rfl) (fun rr_11 S_12 H locs hp hw hfr hnw => ?_)
      obtain ⟨e2, hp⟩ := hp
      subst e2
      have rg_13 := And.intro (z_lo rr_11) (z_hi rr_11)
      refine lv_iadd X.1 X.2.1 dX0_silkBetween_18 ?_
      refine lv_topi (fun v_14 ev_14 => ?_)
      have rg_15 := And.intro (z_lo v_14) (z_hi v_14)
      refine lv_istore_n (lv' := [(3, .int (v_14)), (4, .int (i4_3)), (0, .ref x), (1, .int (a1)), (2, .int (a2))]) X.1 X.2.1 dX0_silkBetween_19 rfl hl (by decide) rfl (fun ls hl => ?_)
      obtain ⟨x_16, ex_16⟩ : ∃ y : Int32, y = i4_3 + 1 := ⟨_, rfl⟩
      have z_17 : x_16.toInt = i4_3_z + 1 := z_add ex_16 hz_i4_3 ti_1 (by omega) (by omega)
      refine lv_iinc (v := x_16) (lv' := [(4, .int (x_16)), (3, .int (v_14)), (0, .ref x), (1, .int (a1)), (2, .int (a2))]) X.1 X.2.1 dX0_silkBetween_20 hl (k := 1) rfl (by rw [ex_16]; rfl) (by decide) rfl (fun ls hl => ?_)
      refine lv_goto (tgt := 5) X.1 X.2.1 dX0_silkBetween_23 (by decide) ?_
      exact ih _ (by omega) _ _ _ (v_14) (v_14.toInt) (x_16) (x_16.toInt) rfl hw rfl rfl (lv_sub hl [1, 0, 2, 3, 4] rfl)
  exact L_1 _ _ _ _ (0) (0) (a1) (a1_z) rfl hw ti_0 hz_a1 (lv_sub hl [1, 0, 2, 3, 4] rfl)
set_option maxHeartbeats 4000000 in
set_option maxRecDepth 100000 in
theorem k_X0_breaksAt (l : Launch) (G : va_G) (cy : Nat → ClassId) (κ : Nat → Nat) (S : PS) (sz : Nat) (x : Nat) (a1 : Int32) (a1_z : Int) (hG : GX S) (ha_x : At S x 0) (hz_a1 : a1.toInt = a1_z) : Ci l yX0_breaksAt wsX0_breaksAt ({ frames := 2, cells := 0, slots := 0, locals := 96 }) G cy κ S sz [.ref x, .int (a1)] (fun (r : Int32) (S9 : PS) => S = S9 ∧ (((True) ∧ r = 1) ∨ ((True) ∧ r = 0))) := by
  refine ent_m (cc := cX0_breaksAt) (maxL := 2) (ret := (some .boolean)) (by decide) rfl (Nat.le_of_ble_eq_true rfl) ?_
  intro p e s m below meth c ls X hr hlocks hin hw hl hsz
  subst hsz
  have X : Cx p c cX0_breaksAt 2 s [.ref x, .int (a1)].toArray wsX0_breaksAt RX0 m G cy κ (AS S s.heap.size) := X
  have hl : lv_has ls 2 [(0, .ref x), (1, .int (a1))] := hl
  have rg_a1 : (-2147483648) ≤ a1_z ∧ a1_z ≤ 2147483647 := by rw [← hz_a1]; exact ⟨z_lo _, z_hi _⟩
  refine lv_aload_n X.1 X.2.1 dX0_breaksAt_0 rfl (lv_at hl 0 rfl) ?_
  obtain ⟨v_1, ev_1⟩ : ∃ v, pI S 7 x = v := ⟨_, rfl⟩
  have rg_3 := And.intro (z_lo v_1) (z_hi v_1)
  have pz_4 : (pI S 7 x).toInt = v_1.toInt := by rw [ev_1]
  refine r_getI (g := 7) (x := v_1) X hw ha_x rfl 7 ev_1 (by decide) rfl inn_X0_breaksAt_0 (by decide) (X.2.2.2.1 (.fieldLink RX0 24 "SilkMill$Cocoon" "seed" "I") (by decide +kernel)) rfl (gv_7 _ _) dX0_breaksAt_1 ?_
  refine lv_sipush (v := 131) X.1 X.2.1 dX0_breaksAt_4 (by decide) ?_
  refine lv_aload_n X.1 X.2.1 dX0_breaksAt_7 rfl (lv_at hl 0 rfl) ?_
  obtain ⟨v_5, ev_5⟩ : ∃ v, pI S 1 x = v := ⟨_, rfl⟩
  have rg_7 := And.intro (z_lo v_5) (z_hi v_5)
  have pz_8 : (pI S 1 x).toInt = v_5.toInt := by rw [ev_5]
  refine r_getI (g := 1) (x := v_5) X hw ha_x rfl 1 ev_5 (by decide) rfl inn_X0_breaksAt_0 (by decide) (X.2.2.2.1 (.fieldLink RX0 21 "SilkMill$Cocoon" "index" "I") (by decide +kernel)) rfl (gv_1 _ _) dX0_breaksAt_8 ?_
  refine lv_imul X.1 X.2.1 dX0_breaksAt_11 ?_
  refine lv_topi (fun v_9 ev_9 => ?_)
  have rg_10 := And.intro (z_lo v_9) (z_hi v_9)
  refine lv_iadd X.1 X.2.1 dX0_breaksAt_12 ?_
  refine lv_topi (fun v_11 ev_11 => ?_)
  have rg_12 := And.intro (z_lo v_11) (z_hi v_11)
  refine lv_bipush (v := 17) X.1 X.2.1 dX0_breaksAt_13 (by decide) ?_
  refine lv_iload_n X.1 X.2.1 dX0_breaksAt_15 rfl (lv_at hl 1 rfl) ?_
  refine lv_imul X.1 X.2.1 dX0_breaksAt_16 ?_
  refine lv_topi (fun v_13 ev_13 => ?_)
  have rg_14 := And.intro (z_lo v_13) (z_hi v_13)
  refine lv_iadd X.1 X.2.1 dX0_breaksAt_17 ?_
  refine lv_topi (fun v_15 ev_15 => ?_)
  have rg_16 := And.intro (z_lo v_15) (z_hi v_15)
  refine k_i (rm := { frames := 1, cells := 0, slots := 0, locals := 48 }) (av := [.int (v_15)]) X hw (va_runSN (As := [.int (v_15)]) (rest := []) (cfix X) (k_X11_next l G cy κ S _ (v_15) (v_15.toInt) hG rfl) ⟨(va_cnB (host := RX11) 1 X.2.2.2.1 gX0_breaksAt_X11_next_n30 rfl rfl rfl (X.2.2.2.2.2.2.2.1.2.1 (RX0, 30, yX11_next) (by decide +kernel)) (X.2.2.2.1 (.initialized RX11) (by decide +kernel)) (by decide +kernel) ⟨Nat.le_of_ble_eq_true rfl, Nat.le_of_ble_eq_true rfl⟩), (X.2.2.2.1 (.static yX11_next) (by decide +kernel)), trivial⟩ (pre_S X hw _) rfl rfl hl.1 rfl (lv_room (Nat.le_of_ble_eq_true rfl)) dX0_breaksAt_18 ⟨Nat.le_of_ble_eq_true rfl, Nat.le_of_ble_eq_true rfl⟩) 0 0 (Nat.le_of_ble_eq_true rfl) (Nat.le_of_ble_eq_true rfl) (fun rr_17 S_18 H locs hp hw hfr hnw => ?_)
  obtain ⟨e2, hp⟩ := hp
  subst e2
  have rg_19 := And.intro (z_lo rr_17) (z_hi rr_17)
  refine lv_bipush (v := 16) X.1 X.2.1 dX0_breaksAt_21 (by decide) ?_
  refine lv_iushr X.1 X.2.1 dX0_breaksAt_23 rfl ?_
  refine lv_topi (fun v_20 ev_20 => ?_)
  have z_21 : 0 ≤ v_20.toInt ∧ v_20.toInt ≤ 65535 := z_ushr16 ev_20
  refine lv_sipush (v := 1000) X.1 X.2.1 dX0_breaksAt_24 (by decide) ?_
  refine lv_irem X.1 X.2.1 dX0_breaksAt_27 (by decide) ?_
  refine lv_topi (fun v_22 ev_22 => ?_)
  have z_23 : v_22.toInt = v_20.toInt % 1000 := z_rem ev_22 rfl ti_1000 (by omega) (by omega)
  have z_24 : 0 ≤ v_22.toInt ∧ v_22.toInt < 1000 := by rw [z_23]; exact ⟨Int.emod_nonneg _ (by omega), Int.emod_lt_of_pos _ (by omega)⟩
  refine lv_aload_n X.1 X.2.1 dX0_breaksAt_28 rfl (lv_at hl 0 rfl) ?_
  obtain ⟨v_25, ev_25⟩ : ∃ v, pI S 9 x = v := ⟨_, rfl⟩
  have rg_27 := And.intro (z_lo v_25) (z_hi v_25)
  have pz_28 : (pI S 9 x).toInt = v_25.toInt := by rw [ev_25]
  refine r_getI (g := 9) (x := v_25) X hw ha_x rfl 9 ev_25 (by decide) rfl inn_X0_breaksAt_0 (by decide) (X.2.2.2.1 (.fieldLink RX0 27 "SilkMill$Cocoon" "frail" "I") (by decide +kernel)) rfl (gv_9 _ _) dX0_breaksAt_29 ?_
  refine lv_icmp_ge (tgt := 39) X.1 X.2.1 dX0_breaksAt_32 (by decide) (fun c_29 => ?_) (fun c_29 => ?_)
  · have z_b_30 := trivial
    have k_31 : v_22.toInt ≥ v_25.toInt := z_le rfl rfl c_29
    refine lv_iconst (v := 0) X.1 X.2.1 dX0_breaksAt_39 (by decide) ?_
    exact ret_z X hw hr hlocks (Nat.le_of_ble_eq_true rfl) (Nat.le_of_ble_eq_true rfl) (by decide) ⟨rfl, Or.inr ⟨trivial, rfl⟩⟩ dX0_breaksAt_40
  · have z_b_32 := trivial
    have k_33 : v_22.toInt < v_25.toInt := z_nle rfl rfl c_29
    refine lv_iconst (v := 1) X.1 X.2.1 dX0_breaksAt_35 (by decide) ?_
    refine lv_goto (tgt := 40) X.1 X.2.1 dX0_breaksAt_36 (by decide) ?_
    exact ret_z X hw hr hlocks (Nat.le_of_ble_eq_true rfl) (Nat.le_of_ble_eq_true rfl) (by decide) ⟨rfl, Or.inl ⟨trivial, rfl⟩⟩ dX0_breaksAt_40
set_option maxHeartbeats 4000000 in
set_option maxRecDepth 100000 in
theorem k_X0_breaksAnywhere (l : Launch) (G : va_G) (cy : Nat → ClassId) (κ : Nat → Nat) (S : PS) (sz : Nat) (x : Nat) (hG : GX S) (ha_x : At S x 0) : Ci l yX0_breaksAnywhere wsX0_breaksAnywhere ({ frames := 3, cells := 0, slots := 0, locals := 144 }) G cy κ S sz [.ref x] (fun (r : Int32) (S9 : PS) => S = S9 ∧ (((True) ∧ r = 1) ∨ ((True) ∧ r = 0))) := by
  refine ent_m (cc := cX0_breaksAnywhere) (maxL := 2) (ret := (some .boolean)) (by decide) rfl (Nat.le_of_ble_eq_true rfl) ?_
  intro p e s m below meth c ls X hr hlocks hin hw hl hsz
  subst hsz
  have X : Cx p c cX0_breaksAnywhere 2 s [.ref x].toArray wsX0_breaksAnywhere RX0 m G cy κ (AS S s.heap.size) := X
  have hl : lv_has ls 2 [(0, .ref x)] := hl
  generalize hQQ : MQ below _ _ _ _ _ _ = QQ
  replace hQQ := hQQ.symm
  refine lv_iconst (v := 0) X.1 X.2.1 dX0_breaksAnywhere_0 (by decide) ?_
  refine lv_istore_n (lv' := [(1, .int 0), (0, .ref x)]) X.1 X.2.1 dX0_breaksAnywhere_1 rfl hl (by decide) rfl (fun ls hl => ?_)
  have L_1 : ∀ (n : Nat) (H : Heap) (locs : List Loc) (ls : Array Slot) (i1_2 : Int32) (i1_2_z : Int), ((220 - i1_2_z).toNat = n) → (Wd G cy (AS S s.heap.size) s.heap S H locs) → (i1_2.toInt = i1_2_z) → (0 ≤ i1_2_z ∧ i1_2_z ≤ 220) → (lv_has ls 2 [(1, .int (i1_2)), (0, .ref x)]) → W p l e ({ frames := 3, cells := 0, slots := 0, locals := 144 }) s m [.ref x].toArray below meth c H locs 0 0 QQ (F0 m 2 ls []) := by
    intro n
    induction n using Nat.strongRecOn with
    | ind n ih =>
    intro H locs ls i1_2 i1_2_z hn hw hz_i1_2 hr_i1_2 hl
    have rg_3 : (-2147483648) ≤ i1_2_z ∧ i1_2_z ≤ 2147483647 := by rw [← hz_i1_2]; exact ⟨z_lo _, z_hi _⟩
    refine lv_iload_n X.1 X.2.1 dX0_breaksAnywhere_2 rfl (lv_at hl 0 rfl) ?_
    refine lv_aload_n X.1 X.2.1 dX0_breaksAnywhere_3 rfl (lv_at hl 1 rfl) ?_
    obtain ⟨v_4, ev_4⟩ : ∃ v, pI S 2 x = v := ⟨_, rfl⟩
    have rg_5 := gI_0_2 hG ha_x; rw [ev_4] at rg_5
    have pz_6 : (pI S 2 x).toInt = v_4.toInt := by rw [ev_4]
    refine r_getI (g := 2) (x := v_4) X hw ha_x rfl 2 ev_4 (by decide) rfl inn_X0_breaksAnywhere_0 (by decide) (X.2.2.2.1 (.fieldLink RX0 40 "SilkMill$Cocoon" "length" "I") (by decide +kernel)) rfl (gv_2 _ _) dX0_breaksAnywhere_4 ?_
    refine lv_icmp_ge (tgt := 26) X.1 X.2.1 dX0_breaksAnywhere_7 (by decide) (fun c_7 => ?_) (fun c_7 => ?_)
    · have z_b_8 := trivial
      have k_9 : i1_2_z ≥ v_4.toInt := z_le rfl hz_i1_2 c_7
      refine lv_iconst (v := 0) X.1 X.2.1 dX0_breaksAnywhere_26 (by decide) ?_
      rw [hQQ]
      exact ret_z X hw hr hlocks (Nat.le_of_ble_eq_true rfl) (Nat.le_of_ble_eq_true rfl) (by decide) ⟨rfl, Or.inr ⟨trivial, rfl⟩⟩ dX0_breaksAnywhere_27
    · have z_b_10 := trivial
      have k_11 : i1_2_z < v_4.toInt := z_nle rfl hz_i1_2 c_7
      refine lv_aload_n X.1 X.2.1 dX0_breaksAnywhere_10 rfl (lv_at hl 1 rfl) ?_
      refine lv_iload_n X.1 X.2.1 dX0_breaksAnywhere_11 rfl (lv_at hl 0 rfl) ?_
      refine k_i (rm := { frames := 2, cells := 0, slots := 0, locals := 96 }) (av := [.ref x, .int (i1_2)]) X hw (va_runV (As := [.int (i1_2)]) (rest := []) (cfix X) (k_X0_breaksAt l G cy κ S _ x (i1_2) (i1_2_z) hG ha_x hz_i1_2) (cwV 1 X.2.2.2.1 gX0_breaksAnywhere_X0_breaksAt rfl rfl rfl (by decide +kernel) ⟨Nat.le_of_ble_eq_true rfl, Nat.le_of_ble_eq_true rfl⟩) (pre_V X hw _ ha_x rfl (by decide) rfl) rfl rfl hl.1 rfl (lv_room (Nat.le_of_ble_eq_true rfl)) dX0_breaksAnywhere_12 ⟨Nat.le_of_ble_eq_true rfl, Nat.le_of_ble_eq_true rfl⟩) 0 0 (Nat.le_of_ble_eq_true rfl) (Nat.le_of_ble_eq_true rfl) (fun rr_12 S_13 H locs hp hw hfr hnw => ?_)
      obtain ⟨e2, hp⟩ := hp
      subst e2
      rcases hp with ⟨f_14, er_15⟩ | ⟨f_14, er_15⟩ <;> subst er_15
      · have z_b_16 := trivial
        refine lv_if_eq (tgt := 20) X.1 X.2.1 dX0_breaksAnywhere_15 (by decide) (fun c_17 => absurd c_17 (by decide)) (fun c_17 => ?_)
        refine lv_iconst (v := 1) X.1 X.2.1 dX0_breaksAnywhere_18 (by decide) ?_
        rw [hQQ]
        exact ret_z X hw hr hlocks (Nat.le_of_ble_eq_true rfl) (Nat.le_of_ble_eq_true rfl) (by decide) ⟨rfl, Or.inl ⟨trivial, rfl⟩⟩ dX0_breaksAnywhere_19
      · have z_b_18 := trivial
        refine lv_if_eq (tgt := 20) X.1 X.2.1 dX0_breaksAnywhere_15 (by decide) (fun c_19 => ?_) (fun c_19 => absurd c_19 (by decide))
        obtain ⟨x_20, ex_20⟩ : ∃ y : Int32, y = i1_2 + 1 := ⟨_, rfl⟩
        have z_21 : x_20.toInt = i1_2_z + 1 := z_add ex_20 hz_i1_2 ti_1 (by omega) (by omega)
        refine lv_iinc (v := x_20) (lv' := [(1, .int (x_20)), (0, .ref x)]) X.1 X.2.1 dX0_breaksAnywhere_20 hl (k := 0) rfl (by rw [ex_20]; rfl) (by decide) rfl (fun ls hl => ?_)
        refine lv_goto (tgt := 2) X.1 X.2.1 dX0_breaksAnywhere_23 (by decide) ?_
        exact ih _ (by omega) _ _ _ (x_20) (x_20.toInt) rfl hw rfl (by omega) (lv_sub hl [0, 1] rfl)
  exact L_1 _ _ _ _ (0) (0) rfl hw ti_0 (by omega) (lv_sub hl [0, 1] rfl)
set_option maxHeartbeats 4000000 in
set_option maxRecDepth 100000 in
theorem k_X0_drawOneMetre (l : Launch) (G : va_G) (cy : Nat → ClassId) (κ : Nat → Nat) (S : PS) (sz : Nat) (x : Nat) (hG : GX S) (ha_x : At S x 0) : Cv l yX0_drawOneMetre wsX0_drawOneMetre ({ frames := 3, cells := 0, slots := 0, locals := 144 }) G cy κ S sz [.ref x] (fun (S9 : PS) => Ok MLX S S9 ∧ (True)) := by
  refine ent_m (cc := cX0_drawOneMetre) (maxL := 2) (ret := none) (by decide) rfl (Nat.le_of_ble_eq_true rfl) ?_
  intro p e s m below meth c ls X hr hlocks hin hw hl hsz
  subst hsz
  have X : Cx p c cX0_drawOneMetre 2 s [.ref x].toArray wsX0_drawOneMetre RX0 m G cy κ (AS S s.heap.size) := X
  have hl : lv_has ls 2 [(0, .ref x)] := hl
  have hO : Ok MLX S S := Ok.rf hG
  refine lv_aload_n X.1 X.2.1 dX0_drawOneMetre_0 rfl (lv_at hl 0 rfl) ?_
  obtain ⟨v_1, ev_1⟩ : ∃ v, pI S 4 x = v := ⟨_, rfl⟩
  have rg_3 := And.intro (z_lo v_1) (z_hi v_1)
  have pz_4 : (pI S 4 x).toInt = v_1.toInt := by rw [ev_1]
  refine r_getI (g := 4) (x := v_1) X hw ha_x rfl 4 ev_1 (by decide) rfl inn_X0_drawOneMetre_0 (by decide) (X.2.2.2.1 (.fieldLink RX0 57 "SilkMill$Cocoon" "drawnTo" "I") (by decide +kernel)) rfl (gv_4 _ _) dX0_drawOneMetre_1 ?_
  refine lv_istore_n (lv' := [(1, .int (v_1)), (0, .ref x)]) X.1 X.2.1 dX0_drawOneMetre_4 rfl hl (by decide) rfl (fun ls hl => ?_)
  refine lv_aload_n X.1 X.2.1 dX0_drawOneMetre_5 rfl (lv_at hl 1 rfl) ?_
  refine lv_dup X.1 X.2.1 dX0_drawOneMetre_6 rfl ?_
  refine r_getI (g := 4) (x := v_1) X hw ha_x rfl 4 ev_1 (by decide) rfl inn_X0_drawOneMetre_0 (by decide) (X.2.2.2.1 (.fieldLink RX0 57 "SilkMill$Cocoon" "drawnTo" "I") (by decide +kernel)) rfl (gv_4 _ _) dX0_drawOneMetre_7 ?_
  refine lv_iconst (v := 1) X.1 X.2.1 dX0_drawOneMetre_10 (by decide) ?_
  refine lv_iadd X.1 X.2.1 dX0_drawOneMetre_11 ?_
  refine lv_topi (fun v_5 ev_5 => ?_)
  have rg_6 := And.intro (z_lo v_5) (z_hi v_5)
  refine r_putI (v := v_5) X hw ha_x rfl 4 4 tyX0 (by decide) rfl inn_X0_drawOneMetre_0 tyX0_ok nmX0 (by decide) (X.2.2.2.1 (.fieldLink RX0 57 "SilkMill$Cocoon" "drawnTo" "I") (by decide +kernel)) rfl (Or.inl rfl) rfl rfl (Nat.le_of_ble_eq_true rfl) (st_4 _ _) dX0_drawOneMetre_12 (fun H locs hw => ?_)
  obtain ⟨S_7, eS_7⟩ : ∃ T, T = sI S 4 x (v_5) := ⟨_, rfl⟩
  rw [← eS_7] at hw
  have hO_8 : Ok MLX S S_7 := hO.sI eS_7 (by decide +kernel) (uI_0_4 hO.1 ha_x)
  have h_9 : pI S_7 4 x = v_5 := tI_sIs eS_7
  refine lv_aload_n X.1 X.2.1 dX0_drawOneMetre_15 rfl (lv_at hl 1 rfl) ?_
  have t_10 : At S_7 x 0 := tAt_sI eS_7 ha_x
  refine r_getI (g := 4) (x := v_5) X hw t_10 rfl 4 h_9 (by decide) rfl inn_X0_drawOneMetre_0 (by decide) (X.2.2.2.1 (.fieldLink RX0 57 "SilkMill$Cocoon" "drawnTo" "I") (by decide +kernel)) rfl (gv_4 _ _) dX0_drawOneMetre_16 ?_
  refine lv_aload_n X.1 X.2.1 dX0_drawOneMetre_19 rfl (lv_at hl 1 rfl) ?_
  obtain ⟨v_11, ev_11⟩ : ∃ v, pI S_7 2 x = v := ⟨_, rfl⟩
  have rg_12 := gI_0_2 hO_8.1 t_10; rw [ev_11] at rg_12
  have pz_13 : (pI S_7 2 x).toInt = v_11.toInt := by rw [ev_11]
  refine r_getI (g := 2) (x := v_11) X hw t_10 rfl 2 ev_11 (by decide) rfl inn_X0_drawOneMetre_0 (by decide) (X.2.2.2.1 (.fieldLink RX0 40 "SilkMill$Cocoon" "length" "I") (by decide +kernel)) rfl (gv_2 _ _) dX0_drawOneMetre_20 ?_
  refine lv_icmp_lt (tgt := 34) X.1 X.2.1 dX0_drawOneMetre_23 (by decide) (fun c_14 => ?_) (fun c_14 => ?_)
  · have z_b_15 := trivial
    have k_16 : v_5.toInt < v_11.toInt := z_lt rfl rfl c_14
    refine lv_aload_n X.1 X.2.1 dX0_drawOneMetre_34 rfl (lv_at hl 1 rfl) ?_
    refine lv_iload_n X.1 X.2.1 dX0_drawOneMetre_35 rfl (lv_at hl 0 rfl) ?_
    refine k_i (rm := { frames := 2, cells := 0, slots := 0, locals := 96 }) (av := [.ref x, .int (v_1)]) X hw (va_runV (As := [.int (v_1)]) (rest := []) (cfix X) (k_X0_breaksAt l G cy κ S_7 _ x (v_1) (v_1.toInt) hO_8.1 t_10 rfl) (cwV 1 X.2.2.2.1 gX0_drawOneMetre_X0_breaksAt rfl rfl rfl (by decide +kernel) ⟨Nat.le_of_ble_eq_true rfl, Nat.le_of_ble_eq_true rfl⟩) (pre_V X hw _ t_10 rfl (by decide) rfl) rfl rfl hl.1 rfl (lv_room (Nat.le_of_ble_eq_true rfl)) dX0_drawOneMetre_36 ⟨Nat.le_of_ble_eq_true rfl, Nat.le_of_ble_eq_true rfl⟩) 0 0 (Nat.le_of_ble_eq_true rfl) (Nat.le_of_ble_eq_true rfl) (fun rr_17 S_18 H locs hp hw hfr hnw => ?_)
    obtain ⟨e2, hp⟩ := hp
    subst e2
    rcases hp with ⟨f_19, er_20⟩ | ⟨f_19, er_20⟩ <;> subst er_20
    · have z_b_21 := trivial
      refine lv_if_eq (tgt := 47) X.1 X.2.1 dX0_drawOneMetre_39 (by decide) (fun c_22 => absurd c_22 (by decide)) (fun c_22 => ?_)
      refine lv_aload_n X.1 X.2.1 dX0_drawOneMetre_42 rfl (lv_at hl 1 rfl) ?_
      refine lv_iconst (v := 3) X.1 X.2.1 dX0_drawOneMetre_43 (by decide) ?_
      refine r_putI (v := 3) X hw t_10 rfl 3 3 tyX0 (by decide) rfl inn_X0_drawOneMetre_0 tyX0_ok nmX0 (by decide) (X.2.2.2.1 (.fieldLink RX0 9 "SilkMill$Cocoon" "stand" "I") (by decide +kernel)) rfl (Or.inl rfl) rfl rfl (Nat.le_of_ble_eq_true rfl) (st_3 _ _) dX0_drawOneMetre_44 (fun H locs hw => ?_)
      obtain ⟨S_23, eS_23⟩ : ∃ T, T = sI S_7 3 x (3) := ⟨_, rfl⟩
      rw [← eS_23] at hw
      have hO_24 : Ok MLX S S_23 := hO_8.sI eS_23 (by decide +kernel) (uI_0_3 hO_8.1 t_10)
      have h_25 : pI S_23 3 x = 3 := tI_sIs eS_23
      exact ret_v X hw hr hlocks (Nat.le_of_ble_eq_true rfl) (Nat.le_of_ble_eq_true rfl) ⟨hO_24, trivial⟩ dX0_drawOneMetre_47
    · have z_b_26 := trivial
      refine lv_if_eq (tgt := 47) X.1 X.2.1 dX0_drawOneMetre_39 (by decide) (fun c_27 => ?_) (fun c_27 => absurd c_27 (by decide))
      exact ret_v X hw hr hlocks (Nat.le_of_ble_eq_true rfl) (Nat.le_of_ble_eq_true rfl) ⟨hO_8, trivial⟩ dX0_drawOneMetre_47
  · have z_b_28 := trivial
    have k_29 : v_5.toInt ≥ v_11.toInt := z_nlt rfl rfl c_14
    refine lv_aload_n X.1 X.2.1 dX0_drawOneMetre_26 rfl (lv_at hl 1 rfl) ?_
    refine lv_iconst (v := 4) X.1 X.2.1 dX0_drawOneMetre_27 (by decide) ?_
    refine r_putI (v := 4) X hw t_10 rfl 3 3 tyX0 (by decide) rfl inn_X0_drawOneMetre_0 tyX0_ok nmX0 (by decide) (X.2.2.2.1 (.fieldLink RX0 9 "SilkMill$Cocoon" "stand" "I") (by decide +kernel)) rfl (Or.inl rfl) rfl rfl (Nat.le_of_ble_eq_true rfl) (st_3 _ _) dX0_drawOneMetre_28 (fun H locs hw => ?_)
    obtain ⟨S_30, eS_30⟩ : ∃ T, T = sI S_7 3 x (4) := ⟨_, rfl⟩
    rw [← eS_30] at hw
    have hO_31 : Ok MLX S S_30 := hO_8.sI eS_30 (by decide +kernel) (uI_0_3 hO_8.1 t_10)
    have h_32 : pI S_30 3 x = 4 := tI_sIs eS_30
    refine lv_goto (tgt := 47) X.1 X.2.1 dX0_drawOneMetre_31 (by decide) ?_
    exact ret_v X hw hr hlocks (Nat.le_of_ble_eq_true rfl) (Nat.le_of_ble_eq_true rfl) ⟨hO_31, trivial⟩ dX0_drawOneMetre_47
set_option maxHeartbeats 4000000 in
set_option maxRecDepth 100000 in
theorem k_X5_cellOf (l : Launch) (G : va_G) (cy : Nat → ClassId) (κ : Nat → Nat) (S : PS) (sz : Nat) (x : Nat) (a1 : Int32) (a1_z : Int) (q : Nat) (n : Nat) (hG : GX S) (ha_x : At S x 5) (hz_a1 : a1.toInt = a1_z) (hp_0 : pR S 501 x = some q) (hp_1 : pN S q = n) (hp_2 : 0 ≤ a1_z ∧ a1_z ≤ (n : Int)) : Ci l yX5_cellOf wsX5_cellOf ({ frames := 1, cells := 0, slots := 0, locals := 48 }) G cy κ S sz [.ref x, .int (a1)] (fun (r : Int32) (S9 : PS) => S = S9 ∧ (0 ≤ r.toInt ∧ r.toInt < (n : Int))) := by
  refine ent_m (cc := cX5_cellOf) (maxL := 3) (ret := (some .int)) (by decide) rfl (Nat.le_of_ble_eq_true rfl) ?_
  intro p e s m below meth c ls X hr hlocks hin hw hl hsz
  subst hsz
  have X : Cx p c cX5_cellOf 3 s [.ref x, .int (a1)].toArray wsX5_cellOf RX5 m G cy κ (AS S s.heap.size) := X
  have hl : lv_has ls 3 [(0, .ref x), (1, .int (a1))] := hl
  have rg_a1 : (-2147483648) ≤ a1_z ∧ a1_z ≤ 2147483647 := by rw [← hz_a1]; exact ⟨z_lo _, z_hi _⟩
  have hrr := gRow_all hG ha_x hp_0 hp_1
  have haq := hrr.1
  have hnn := hrr.2.1
  refine lv_aload_n X.1 X.2.1 dX5_cellOf_0 rfl (lv_at hl 0 rfl) ?_
  obtain ⟨v_1, ev_1⟩ : ∃ v, pI S 502 x = v := ⟨_, rfl⟩
  have rg_2 := gRow_502 hG ha_x hp_0 hp_1; rw [ev_1] at rg_2
  have pz_3 : (pI S 502 x).toInt = v_1.toInt := by rw [ev_1]
  refine r_getI (g := 502) (x := v_1) X hw ha_x rfl 2 ev_1 (by decide) rfl inn_X5_cellOf_5 (by decide) (X.2.2.2.1 (.fieldLink RX5 31 "SilkMill$Row" "head" "I") (by decide +kernel)) rfl (gv_502 _ _) dX5_cellOf_1 ?_
  refine lv_iload_n X.1 X.2.1 dX5_cellOf_4 rfl (lv_at hl 1 rfl) ?_
  refine lv_iadd X.1 X.2.1 dX5_cellOf_5 ?_
  refine lv_topi (fun v_4 ev_4 => ?_)
  have z_5 : v_4.toInt = v_1.toInt + a1_z := z_add ev_4 rfl hz_a1 (by omega) (by omega)
  refine lv_istore_n (lv' := [(2, .int (v_4)), (0, .ref x), (1, .int (a1))]) X.1 X.2.1 dX5_cellOf_6 rfl hl (by decide) rfl (fun ls hl => ?_)
  refine lv_iload_n X.1 X.2.1 dX5_cellOf_7 rfl (lv_at hl 0 rfl) ?_
  refine lv_aload_n X.1 X.2.1 dX5_cellOf_8 rfl (lv_at hl 1 rfl) ?_
  refine r_getR (g := 501) X hw ha_x rfl 1 hp_0 (by decide) rfl inn_X5_cellOf_5 (by decide) (X.2.2.2.1 (.fieldLink RX5 17 "SilkMill$Row" "cells" "[LSilkMill$Cocoon;") (by decide +kernel)) rfl (gv_501 _ _) dX5_cellOf_9 ?_
  refine r_alen X hw haq rfl (by decide) rfl dX5_cellOf_12 ?_
  rw [hp_1]
  refine lv_topi (fun v_6 ev_6 => ?_)
  have z_7 : v_6.toInt = (n : Int) := z_len ev_6 (by omega)
  refine lv_icmp_ge (tgt := 20) X.1 X.2.1 dX5_cellOf_13 (by decide) (fun c_8 => ?_) (fun c_8 => ?_)
  · have z_b_9 := trivial
    have k_10 : v_4.toInt ≥ v_6.toInt := z_le rfl rfl c_8
    refine lv_iload_n X.1 X.2.1 dX5_cellOf_20 rfl (lv_at hl 0 rfl) ?_
    refine lv_aload_n X.1 X.2.1 dX5_cellOf_21 rfl (lv_at hl 1 rfl) ?_
    refine r_getR (g := 501) X hw ha_x rfl 1 hp_0 (by decide) rfl inn_X5_cellOf_5 (by decide) (X.2.2.2.1 (.fieldLink RX5 17 "SilkMill$Row" "cells" "[LSilkMill$Cocoon;") (by decide +kernel)) rfl (gv_501 _ _) dX5_cellOf_22 ?_
    refine r_alen X hw haq rfl (by decide) rfl dX5_cellOf_25 ?_
    rw [hp_1]
    refine lv_topi (fun v_11 ev_11 => ?_)
    have z_12 : v_11.toInt = (n : Int) := z_len ev_11 (by omega)
    refine lv_isub X.1 X.2.1 dX5_cellOf_26 ?_
    refine lv_topi (fun v_13 ev_13 => ?_)
    have z_14 : v_13.toInt = v_4.toInt - v_11.toInt := z_sub ev_13 rfl rfl (by omega) (by omega)
    exact ret_i X hw hr hlocks (Nat.le_of_ble_eq_true rfl) (Nat.le_of_ble_eq_true rfl) ⟨rfl, ⟨by omega, by omega⟩⟩ dX5_cellOf_27
  · have z_b_15 := trivial
    have k_16 : v_4.toInt < v_6.toInt := z_nle rfl rfl c_8
    refine lv_iload_n X.1 X.2.1 dX5_cellOf_16 rfl (lv_at hl 0 rfl) ?_
    refine lv_goto (tgt := 27) X.1 X.2.1 dX5_cellOf_17 (by decide) ?_
    exact ret_i X hw hr hlocks (Nat.le_of_ble_eq_true rfl) (Nat.le_of_ble_eq_true rfl) ⟨rfl, ⟨by omega, by omega⟩⟩ dX5_cellOf_27
set_option maxHeartbeats 4000000 in
set_option maxRecDepth 100000 in
theorem k_X5_at (l : Launch) (G : va_G) (cy : Nat → ClassId) (κ : Nat → Nat) (S : PS) (sz : Nat) (x : Nat) (a1 : Int32) (a1_z : Int) (hG : GX S) (ha_x : At S x 5) (hz_a1 : a1.toInt = a1_z) : Cq l yX5_at wsX5_at ({ frames := 2, cells := 0, slots := 0, locals := 96 }) G cy κ S sz [.ref x, .int (a1)] (fun (r : Option Nat) (S9 : PS) => S = S9 ∧ (∀ q, r = some q → At S9 q 0 ∧ 0 ≤ a1_z ∧ a1_z < (pI S 500 x).toInt)) := by
  refine ent_m (cc := cX5_at) (maxL := 2) (ret := (some (.object "SilkMill$Cocoon"))) (by decide) rfl (Nat.le_of_ble_eq_true rfl) ?_
  intro p e s m below meth c ls X hr hlocks hin hw hl hsz
  subst hsz
  have X : Cx p c cX5_at 2 s [.ref x, .int (a1)].toArray wsX5_at RX5 m G cy κ (AS S s.heap.size) := X
  have hl : lv_has ls 2 [(0, .ref x), (1, .int (a1))] := hl
  have rg_a1 : (-2147483648) ≤ a1_z ∧ a1_z ≤ 2147483647 := by rw [← hz_a1]; exact ⟨z_lo _, z_hi _⟩
  refine lv_iload_n X.1 X.2.1 dX5_at_0 rfl (lv_at hl 1 rfl) ?_
  refine lv_if_lt (tgt := 12) X.1 X.2.1 dX5_at_1 (by decide) (fun c_1 => ?_) (fun c_1 => ?_)
  · have z_b_2 := trivial
    have k_3 : a1_z < 0 := z_lt hz_a1 ti_0 c_1
    refine lv_null X.1 X.2.1 dX5_at_12 ?_
    refine lv_goto (tgt := 26) X.1 X.2.1 dX5_at_13 (by decide) ?_
    exact ret_q none rfl X hw hr hlocks (Nat.le_of_ble_eq_true rfl) (Nat.le_of_ble_eq_true rfl) ⟨rfl, (fun q h => by cases h)⟩ dX5_at_26
  · have z_b_4 := trivial
    have k_5 : a1_z ≥ 0 := z_nlt hz_a1 ti_0 c_1
    refine lv_iload_n X.1 X.2.1 dX5_at_4 rfl (lv_at hl 1 rfl) ?_
    refine lv_aload_n X.1 X.2.1 dX5_at_5 rfl (lv_at hl 0 rfl) ?_
    obtain ⟨v_6, ev_6⟩ : ∃ v, pI S 500 x = v := ⟨_, rfl⟩
    obtain ⟨q_8, n_9, h_10, h_11, h_12, h_13, h_14⟩ := gRowQ hG ha_x
    have rg_7 := gRow_500 hG ha_x h_10 h_12; rw [ev_6] at rg_7
    have pz_15 : (pI S 500 x).toInt = v_6.toInt := by rw [ev_6]
    refine r_getI (g := 500) (x := v_6) X hw ha_x rfl 0 ev_6 (by decide) rfl inn_X5_at_5 (by decide) (X.2.2.2.1 (.fieldLink RX5 23 "SilkMill$Row" "size" "I") (by decide +kernel)) rfl (gv_500 _ _) dX5_at_6 ?_
    refine lv_icmp_lt (tgt := 16) X.1 X.2.1 dX5_at_9 (by decide) (fun c_16 => ?_) (fun c_16 => ?_)
    · have z_b_17 := trivial
      have k_18 : a1_z < v_6.toInt := z_lt hz_a1 rfl c_16
      refine lv_aload_n X.1 X.2.1 dX5_at_16 rfl (lv_at hl 0 rfl) ?_
      refine r_getR (g := 501) X hw ha_x rfl 1 h_10 (by decide) rfl inn_X5_at_5 (by decide) (X.2.2.2.1 (.fieldLink RX5 17 "SilkMill$Row" "cells" "[LSilkMill$Cocoon;") (by decide +kernel)) rfl (gv_501 _ _) dX5_at_17 ?_
      refine lv_aload_n X.1 X.2.1 dX5_at_20 rfl (lv_at hl 0 rfl) ?_
      refine lv_iload_n X.1 X.2.1 dX5_at_21 rfl (lv_at hl 1 rfl) ?_
      refine k_i (rm := { frames := 1, cells := 0, slots := 0, locals := 48 }) (av := [.ref x, .int (a1)]) X hw (va_runV (As := [.int (a1)]) (rest := [.ref q_8]) (cfix X) (k_X5_cellOf l G cy κ S _ x (a1) (a1_z) q_8 n_9 hG ha_x hz_a1 h_10 h_12 (by omega)) (cwV 1 X.2.2.2.1 gX5_at_X5_cellOf rfl rfl rfl (by decide +kernel) ⟨Nat.le_of_ble_eq_true rfl, Nat.le_of_ble_eq_true rfl⟩) (pre_V X hw _ ha_x rfl (by decide) rfl) rfl rfl hl.1 rfl (lv_room (Nat.le_of_ble_eq_true rfl)) dX5_at_22 ⟨Nat.le_of_ble_eq_true rfl, Nat.le_of_ble_eq_true rfl⟩) 0 0 (Nat.le_of_ble_eq_true rfl) (Nat.le_of_ble_eq_true rfl) (fun rr_19 S_20 H locs hp hw hfr hnw => ?_)
      obtain ⟨e2, hp⟩ := hp
      subst e2
      obtain ⟨f_21, f_22⟩ := hp
      refine r_aald X hw h_11 rfl (by decide) rfl (by rw [h_12]; exact z_ix rfl (by omega) (by omega)) dX5_at_25 ?_
      rcases ho_23 : pB S q_8 (Int32.toNatClampNeg (rr_19)) with _ | q_24
      · refine W.eq (g2 := F0 m 26 ls (.null :: [])) rfl ?_
        exact ret_q none rfl X hw hr hlocks (Nat.le_of_ble_eq_true rfl) (Nat.le_of_ble_eq_true rfl) ⟨rfl, (fun q h => by cases h)⟩ dX5_at_26
      · refine W.eq (g2 := F0 m 26 ls (.ref q_24 :: [])) rfl ?_
        have ha_25 : At S q_24 0 := gEl_16 hG h_11 _ _ ho_23
        exact ret_q (some q_24) rfl X hw hr hlocks (Nat.le_of_ble_eq_true rfl) (Nat.le_of_ble_eq_true rfl) ⟨rfl, (fun q h => by cases h; exact ⟨ha_25, by omega, by omega⟩)⟩ dX5_at_26
    · have z_b_26 := trivial
      have k_27 : a1_z ≥ v_6.toInt := z_nlt hz_a1 rfl c_16
      refine lv_null X.1 X.2.1 dX5_at_12 ?_
      refine lv_goto (tgt := 26) X.1 X.2.1 dX5_at_13 (by decide) ?_
      exact ret_q none rfl X hw hr hlocks (Nat.le_of_ble_eq_true rfl) (Nat.le_of_ble_eq_true rfl) ⟨rfl, (fun q h => by cases h)⟩ dX5_at_26
set_option maxHeartbeats 4000000 in
set_option maxRecDepth 100000 in
theorem k_X5_addLast (l : Launch) (G : va_G) (cy : Nat → ClassId) (κ : Nat → Nat) (S : PS) (sz : Nat) (x : Nat) (c1 : Nat) (hG : GX S) (ha_x : At S x 5) (ha_c1 : At S c1 0) : Cv l yX5_addLast wsX5_addLast ({ frames := 2, cells := 0, slots := 0, locals := 96 }) G cy κ S sz [.ref x, .ref c1] (fun (S9 : PS) => Ok MLX S S9 ∧ (True)) := by
  refine ent_m (cc := cX5_addLast) (maxL := 2) (ret := none) (by decide) rfl (Nat.le_of_ble_eq_true rfl) ?_
  intro p e s m below meth c ls X hr hlocks hin hw hl hsz
  subst hsz
  have X : Cx p c cX5_addLast 2 s [.ref x, .ref c1].toArray wsX5_addLast RX5 m G cy κ (AS S s.heap.size) := X
  have hl : lv_has ls 2 [(0, .ref x), (1, .ref c1)] := hl
  have hO : Ok MLX S S := Ok.rf hG
  refine lv_aload_n X.1 X.2.1 dX5_addLast_0 rfl (lv_at hl 0 rfl) ?_
  obtain ⟨v_1, ev_1⟩ : ∃ v, pI S 500 x = v := ⟨_, rfl⟩
  obtain ⟨q_3, n_4, h_5, h_6, h_7, h_8, h_9⟩ := gRowQ hO.1 ha_x
  have rg_2 := gRow_500 hO.1 ha_x h_5 h_7; rw [ev_1] at rg_2
  have pz_10 : (pI S 500 x).toInt = v_1.toInt := by rw [ev_1]
  refine r_getI (g := 500) (x := v_1) X hw ha_x rfl 0 ev_1 (by decide) rfl inn_X5_addLast_5 (by decide) (X.2.2.2.1 (.fieldLink RX5 23 "SilkMill$Row" "size" "I") (by decide +kernel)) rfl (gv_500 _ _) dX5_addLast_1 ?_
  refine lv_aload_n X.1 X.2.1 dX5_addLast_4 rfl (lv_at hl 0 rfl) ?_
  refine r_getR (g := 501) X hw ha_x rfl 1 h_5 (by decide) rfl inn_X5_addLast_5 (by decide) (X.2.2.2.1 (.fieldLink RX5 17 "SilkMill$Row" "cells" "[LSilkMill$Cocoon;") (by decide +kernel)) rfl (gv_501 _ _) dX5_addLast_5 ?_
  refine r_alen X hw h_6 rfl (by decide) rfl dX5_addLast_8 ?_
  rw [h_7]
  refine lv_topi (fun v_11 ev_11 => ?_)
  have z_12 : v_11.toInt = (n_4 : Int) := z_len ev_11 (by omega)
  refine lv_icmp_ge (tgt := 36) X.1 X.2.1 dX5_addLast_9 (by decide) (fun c_13 => ?_) (fun c_13 => ?_)
  · have z_b_14 := trivial
    have k_15 : v_1.toInt ≥ v_11.toInt := z_le rfl rfl c_13
    exact ret_v X hw hr hlocks (Nat.le_of_ble_eq_true rfl) (Nat.le_of_ble_eq_true rfl) ⟨hO, trivial⟩ dX5_addLast_36
  · have z_b_16 := trivial
    have k_17 : v_1.toInt < v_11.toInt := z_nle rfl rfl c_13
    refine lv_aload_n X.1 X.2.1 dX5_addLast_12 rfl (lv_at hl 0 rfl) ?_
    refine r_getR (g := 501) X hw ha_x rfl 1 h_5 (by decide) rfl inn_X5_addLast_5 (by decide) (X.2.2.2.1 (.fieldLink RX5 17 "SilkMill$Row" "cells" "[LSilkMill$Cocoon;") (by decide +kernel)) rfl (gv_501 _ _) dX5_addLast_13 ?_
    refine lv_aload_n X.1 X.2.1 dX5_addLast_16 rfl (lv_at hl 0 rfl) ?_
    refine lv_aload_n X.1 X.2.1 dX5_addLast_17 rfl (lv_at hl 0 rfl) ?_
    refine r_getI (g := 500) (x := v_1) X hw ha_x rfl 0 ev_1 (by decide) rfl inn_X5_addLast_5 (by decide) (X.2.2.2.1 (.fieldLink RX5 23 "SilkMill$Row" "size" "I") (by decide +kernel)) rfl (gv_500 _ _) dX5_addLast_18 ?_
    refine k_i (rm := { frames := 1, cells := 0, slots := 0, locals := 48 }) (av := [.ref x, .int (v_1)]) X hw (va_runV (As := [.int (v_1)]) (rest := [.ref q_3]) (cfix X) (k_X5_cellOf l G cy κ S _ x (v_1) (v_1.toInt) q_3 n_4 hO.1 ha_x rfl h_5 h_7 (by omega)) (cwV 1 X.2.2.2.1 gX5_addLast_X5_cellOf rfl rfl rfl (by decide +kernel) ⟨Nat.le_of_ble_eq_true rfl, Nat.le_of_ble_eq_true rfl⟩) (pre_V X hw _ ha_x rfl (by decide) rfl) rfl rfl hl.1 rfl (lv_room (Nat.le_of_ble_eq_true rfl)) dX5_addLast_21 ⟨Nat.le_of_ble_eq_true rfl, Nat.le_of_ble_eq_true rfl⟩) 0 0 (Nat.le_of_ble_eq_true rfl) (Nat.le_of_ble_eq_true rfl) (fun rr_18 S_19 H locs hp hw hfr hnw => ?_)
    obtain ⟨e2, hp⟩ := hp
    subst e2
    obtain ⟨f_20, f_21⟩ := hp
    refine lv_aload_n X.1 X.2.1 dX5_addLast_24 rfl (lv_at hl 1 rfl) ?_
    refine r_aast X hw h_6 rfl ha_c1 rfl (by decide) (by decide) rfl rfl (by rw [h_7]; exact z_ix rfl (by omega) (by omega)) dX5_addLast_25 (fun H locs hw => ?_)
    obtain ⟨S_22, eS_22⟩ : ∃ T, T = sB S q_3 (va_up (pB S q_3) (Int32.toNatClampNeg (rr_18)) (some c1)) := ⟨_, rfl⟩
    rw [← eS_22] at hw
    have hO_23 : Ok MLX S S_22 := hO.sB eS_22 h_6 (by decide +kernel) (uB_16 hO.1 h_6 (fun q hq => by cases hq; exact ha_c1))
    refine lv_aload_n X.1 X.2.1 dX5_addLast_26 rfl (lv_at hl 0 rfl) ?_
    refine lv_dup X.1 X.2.1 dX5_addLast_27 rfl ?_
    have t_24 : At S_22 x 5 := tAt_sB eS_22 ha_x
    have t_25 : pI S_22 500 x = v_1 := tI_sB eS_22 ev_1
    refine r_getI (g := 500) (x := v_1) X hw t_24 rfl 0 t_25 (by decide) rfl inn_X5_addLast_5 (by decide) (X.2.2.2.1 (.fieldLink RX5 23 "SilkMill$Row" "size" "I") (by decide +kernel)) rfl (gv_500 _ _) dX5_addLast_28 ?_
    refine lv_iconst (v := 1) X.1 X.2.1 dX5_addLast_31 (by decide) ?_
    refine lv_iadd X.1 X.2.1 dX5_addLast_32 ?_
    refine lv_topi (fun v_26 ev_26 => ?_)
    have z_27 : v_26.toInt = v_1.toInt + 1 := z_add ev_26 rfl ti_1 (by omega) (by omega)
    have t_28 : pR S_22 501 x = some q_3 := tR_sB eS_22 h_5
    have t_29 : pN S_22 q_3 = n_4 := tN_sB eS_22 h_7
    refine r_putI (v := v_26) X hw t_24 rfl 0 500 tyX5 (by decide) rfl inn_X5_addLast_5 tyX5_ok nmX5 (by decide) (X.2.2.2.1 (.fieldLink RX5 23 "SilkMill$Row" "size" "I") (by decide +kernel)) rfl (Or.inl rfl) rfl rfl (Nat.le_of_ble_eq_true rfl) (st_500 _ _) dX5_addLast_33 (fun H locs hw => ?_)
    obtain ⟨S_30, eS_30⟩ : ∃ T, T = sI S_22 500 x (v_26) := ⟨_, rfl⟩
    rw [← eS_30] at hw
    have hO_31 : Ok MLX S S_30 := hO_23.sI eS_30 (by decide +kernel) (uI_5_500 hO_23.1 t_24 t_28 t_29 (by omega) (by omega))
    have h_32 : pI S_30 500 x = v_26 := tI_sIs eS_30
    exact ret_v X hw hr hlocks (Nat.le_of_ble_eq_true rfl) (Nat.le_of_ble_eq_true rfl) ⟨hO_31, trivial⟩ dX5_addLast_36
set_option maxHeartbeats 4000000 in
set_option maxRecDepth 100000 in
theorem k_X5_addFirst (l : Launch) (G : va_G) (cy : Nat → ClassId) (κ : Nat → Nat) (S : PS) (sz : Nat) (x : Nat) (c1 : Nat) (hG : GX S) (ha_x : At S x 5) (ha_c1 : At S c1 0) : Cv l yX5_addFirst wsX5_addFirst ({ frames := 1, cells := 0, slots := 0, locals := 48 }) G cy κ S sz [.ref x, .ref c1] (fun (S9 : PS) => Ok MLX S S9 ∧ (True)) := by
  refine ent_m (cc := cX5_addFirst) (maxL := 2) (ret := none) (by decide) rfl (Nat.le_of_ble_eq_true rfl) ?_
  intro p e s m below meth c ls X hr hlocks hin hw hl hsz
  subst hsz
  have X : Cx p c cX5_addFirst 2 s [.ref x, .ref c1].toArray wsX5_addFirst RX5 m G cy κ (AS S s.heap.size) := X
  have hl : lv_has ls 2 [(0, .ref x), (1, .ref c1)] := hl
  have hO : Ok MLX S S := Ok.rf hG
  refine lv_aload_n X.1 X.2.1 dX5_addFirst_0 rfl (lv_at hl 0 rfl) ?_
  obtain ⟨v_1, ev_1⟩ : ∃ v, pI S 500 x = v := ⟨_, rfl⟩
  obtain ⟨q_3, n_4, h_5, h_6, h_7, h_8, h_9⟩ := gRowQ hO.1 ha_x
  have rg_2 := gRow_500 hO.1 ha_x h_5 h_7; rw [ev_1] at rg_2
  have pz_10 : (pI S 500 x).toInt = v_1.toInt := by rw [ev_1]
  refine r_getI (g := 500) (x := v_1) X hw ha_x rfl 0 ev_1 (by decide) rfl inn_X5_addFirst_5 (by decide) (X.2.2.2.1 (.fieldLink RX5 23 "SilkMill$Row" "size" "I") (by decide +kernel)) rfl (gv_500 _ _) dX5_addFirst_1 ?_
  refine lv_aload_n X.1 X.2.1 dX5_addFirst_4 rfl (lv_at hl 0 rfl) ?_
  refine r_getR (g := 501) X hw ha_x rfl 1 h_5 (by decide) rfl inn_X5_addFirst_5 (by decide) (X.2.2.2.1 (.fieldLink RX5 17 "SilkMill$Row" "cells" "[LSilkMill$Cocoon;") (by decide +kernel)) rfl (gv_501 _ _) dX5_addFirst_5 ?_
  refine r_alen X hw h_6 rfl (by decide) rfl dX5_addFirst_8 ?_
  rw [h_7]
  refine lv_topi (fun v_11 ev_11 => ?_)
  have z_12 : v_11.toInt = (n_4 : Int) := z_len ev_11 (by omega)
  refine lv_icmp_ge (tgt := 59) X.1 X.2.1 dX5_addFirst_9 (by decide) (fun c_13 => ?_) (fun c_13 => ?_)
  · have z_b_14 := trivial
    have k_15 : v_1.toInt ≥ v_11.toInt := z_le rfl rfl c_13
    exact ret_v X hw hr hlocks (Nat.le_of_ble_eq_true rfl) (Nat.le_of_ble_eq_true rfl) ⟨hO, trivial⟩ dX5_addFirst_59
  · have z_b_16 := trivial
    have k_17 : v_1.toInt < v_11.toInt := z_nle rfl rfl c_13
    refine lv_aload_n X.1 X.2.1 dX5_addFirst_12 rfl (lv_at hl 0 rfl) ?_
    refine lv_aload_n X.1 X.2.1 dX5_addFirst_13 rfl (lv_at hl 0 rfl) ?_
    obtain ⟨v_18, ev_18⟩ : ∃ v, pI S 502 x = v := ⟨_, rfl⟩
    have rg_19 := gRow_502 hO.1 ha_x h_5 h_7; rw [ev_18] at rg_19
    have pz_20 : (pI S 502 x).toInt = v_18.toInt := by rw [ev_18]
    refine r_getI (g := 502) (x := v_18) X hw ha_x rfl 2 ev_18 (by decide) rfl inn_X5_addFirst_5 (by decide) (X.2.2.2.1 (.fieldLink RX5 31 "SilkMill$Row" "head" "I") (by decide +kernel)) rfl (gv_502 _ _) dX5_addFirst_14 ?_
    refine lv_if_ne (tgt := 30) X.1 X.2.1 dX5_addFirst_17 (by decide) (fun c_21 => ?_) (fun c_21 => ?_)
    · have z_b_22 := trivial
      have k_23 : v_18.toInt ≠ 0 := z_ne rfl ti_0 c_21
      refine lv_aload_n X.1 X.2.1 dX5_addFirst_30 rfl (lv_at hl 0 rfl) ?_
      refine r_getI (g := 502) (x := v_18) X hw ha_x rfl 2 ev_18 (by decide) rfl inn_X5_addFirst_5 (by decide) (X.2.2.2.1 (.fieldLink RX5 31 "SilkMill$Row" "head" "I") (by decide +kernel)) rfl (gv_502 _ _) dX5_addFirst_31 ?_
      refine lv_iconst (v := 1) X.1 X.2.1 dX5_addFirst_34 (by decide) ?_
      refine lv_isub X.1 X.2.1 dX5_addFirst_35 ?_
      refine lv_topi (fun v_24 ev_24 => ?_)
      have z_25 : v_24.toInt = v_18.toInt - 1 := z_sub ev_24 rfl ti_1 (by omega) (by omega)
      refine r_putI (v := v_24) X hw ha_x rfl 2 502 tyX5 (by decide) rfl inn_X5_addFirst_5 tyX5_ok nmX5 (by decide) (X.2.2.2.1 (.fieldLink RX5 31 "SilkMill$Row" "head" "I") (by decide +kernel)) rfl (Or.inl rfl) rfl rfl (Nat.le_of_ble_eq_true rfl) (st_502 _ _) dX5_addFirst_36 (fun H locs hw => ?_)
      obtain ⟨S_26, eS_26⟩ : ∃ T, T = sI S 502 x (v_24) := ⟨_, rfl⟩
      rw [← eS_26] at hw
      have hO_27 : Ok MLX S S_26 := hO.sI eS_26 (by decide +kernel) (uI_5_502 hO.1 ha_x h_5 h_7 (by omega) (by omega))
      have h_28 : pI S_26 502 x = v_24 := tI_sIs eS_26
      refine lv_aload_n X.1 X.2.1 dX5_addFirst_39 rfl (lv_at hl 0 rfl) ?_
      have t_29 : At S_26 x 5 := tAt_sI eS_26 ha_x
      have t_30 : pR S_26 501 x = some q_3 := tR_sI eS_26 h_5
      refine r_getR (g := 501) X hw t_29 rfl 1 t_30 (by decide) rfl inn_X5_addFirst_5 (by decide) (X.2.2.2.1 (.fieldLink RX5 17 "SilkMill$Row" "cells" "[LSilkMill$Cocoon;") (by decide +kernel)) rfl (gv_501 _ _) dX5_addFirst_40 ?_
      refine lv_aload_n X.1 X.2.1 dX5_addFirst_43 rfl (lv_at hl 0 rfl) ?_
      refine r_getI (g := 502) (x := v_24) X hw t_29 rfl 2 h_28 (by decide) rfl inn_X5_addFirst_5 (by decide) (X.2.2.2.1 (.fieldLink RX5 31 "SilkMill$Row" "head" "I") (by decide +kernel)) rfl (gv_502 _ _) dX5_addFirst_44 ?_
      refine lv_aload_n X.1 X.2.1 dX5_addFirst_47 rfl (lv_at hl 1 rfl) ?_
      have t_31 : At S_26 q_3 16 := tAt_sI eS_26 h_6
      have t_32 : pN S_26 q_3 = n_4 := tN_sI eS_26 h_7
      have t_33 : At S_26 c1 0 := tAt_sI eS_26 ha_c1
      refine r_aast X hw t_31 rfl t_33 rfl (by decide) (by decide) rfl rfl (by rw [t_32]; exact z_ix rfl (by omega) (by omega)) dX5_addFirst_48 (fun H locs hw => ?_)
      obtain ⟨S_34, eS_34⟩ : ∃ T, T = sB S_26 q_3 (va_up (pB S_26 q_3) (Int32.toNatClampNeg (v_24)) (some c1)) := ⟨_, rfl⟩
      rw [← eS_34] at hw
      have hO_35 : Ok MLX S S_34 := hO_27.sB eS_34 t_31 (by decide +kernel) (uB_16 hO_27.1 t_31 (fun q hq => by cases hq; exact t_33))
      refine lv_aload_n X.1 X.2.1 dX5_addFirst_49 rfl (lv_at hl 0 rfl) ?_
      refine lv_dup X.1 X.2.1 dX5_addFirst_50 rfl ?_
      have t_36 : At S_34 x 5 := tAt_sB eS_34 t_29
      have t_37 : pI S_26 500 x = v_1 := tI_sI eS_26 rfl ev_1
      have t_38 : pI S_34 500 x = v_1 := tI_sB eS_34 t_37
      refine r_getI (g := 500) (x := v_1) X hw t_36 rfl 0 t_38 (by decide) rfl inn_X5_addFirst_5 (by decide) (X.2.2.2.1 (.fieldLink RX5 23 "SilkMill$Row" "size" "I") (by decide +kernel)) rfl (gv_500 _ _) dX5_addFirst_51 ?_
      refine lv_iconst (v := 1) X.1 X.2.1 dX5_addFirst_54 (by decide) ?_
      refine lv_iadd X.1 X.2.1 dX5_addFirst_55 ?_
      refine lv_topi (fun v_39 ev_39 => ?_)
      have z_40 : v_39.toInt = v_1.toInt + 1 := z_add ev_39 rfl ti_1 (by omega) (by omega)
      have t_41 : pR S_34 501 x = some q_3 := tR_sB eS_34 t_30
      have t_42 : pN S_34 q_3 = n_4 := tN_sB eS_34 t_32
      refine r_putI (v := v_39) X hw t_36 rfl 0 500 tyX5 (by decide) rfl inn_X5_addFirst_5 tyX5_ok nmX5 (by decide) (X.2.2.2.1 (.fieldLink RX5 23 "SilkMill$Row" "size" "I") (by decide +kernel)) rfl (Or.inl rfl) rfl rfl (Nat.le_of_ble_eq_true rfl) (st_500 _ _) dX5_addFirst_56 (fun H locs hw => ?_)
      obtain ⟨S_43, eS_43⟩ : ∃ T, T = sI S_34 500 x (v_39) := ⟨_, rfl⟩
      rw [← eS_43] at hw
      have hO_44 : Ok MLX S S_43 := hO_35.sI eS_43 (by decide +kernel) (uI_5_500 hO_35.1 t_36 t_41 t_42 (by omega) (by omega))
      have h_45 : pI S_43 500 x = v_39 := tI_sIs eS_43
      exact ret_v X hw hr hlocks (Nat.le_of_ble_eq_true rfl) (Nat.le_of_ble_eq_true rfl) ⟨hO_44, trivial⟩ dX5_addFirst_59
    · have z_b_46 := trivial
      have k_47 : v_18.toInt = 0 := z_eq rfl ti_0 c_21
      refine lv_aload_n X.1 X.2.1 dX5_addFirst_20 rfl (lv_at hl 0 rfl) ?_
      refine r_getR (g := 501) X hw ha_x rfl 1 h_5 (by decide) rfl inn_X5_addFirst_5 (by decide) (X.2.2.2.1 (.fieldLink RX5 17 "SilkMill$Row" "cells" "[LSilkMill$Cocoon;") (by decide +kernel)) rfl (gv_501 _ _) dX5_addFirst_21 ?_
      refine r_alen X hw h_6 rfl (by decide) rfl dX5_addFirst_24 ?_
      rw [h_7]
      refine lv_topi (fun v_48 ev_48 => ?_)
      have z_49 : v_48.toInt = (n_4 : Int) := z_len ev_48 (by omega)
      refine lv_iconst (v := 1) X.1 X.2.1 dX5_addFirst_25 (by decide) ?_
      refine lv_isub X.1 X.2.1 dX5_addFirst_26 ?_
      refine lv_topi (fun v_50 ev_50 => ?_)
      have z_51 : v_50.toInt = v_48.toInt - 1 := z_sub ev_50 rfl ti_1 (by omega) (by omega)
      refine lv_goto (tgt := 36) X.1 X.2.1 dX5_addFirst_27 (by decide) ?_
      refine r_putI (v := v_50) X hw ha_x rfl 2 502 tyX5 (by decide) rfl inn_X5_addFirst_5 tyX5_ok nmX5 (by decide) (X.2.2.2.1 (.fieldLink RX5 31 "SilkMill$Row" "head" "I") (by decide +kernel)) rfl (Or.inl rfl) rfl rfl (Nat.le_of_ble_eq_true rfl) (st_502 _ _) dX5_addFirst_36 (fun H locs hw => ?_)
      obtain ⟨S_52, eS_52⟩ : ∃ T, T = sI S 502 x (v_50) := ⟨_, rfl⟩
      rw [← eS_52] at hw
      have hO_53 : Ok MLX S S_52 := hO.sI eS_52 (by decide +kernel) (uI_5_502 hO.1 ha_x h_5 h_7 (by omega) (by omega))
      have h_54 : pI S_52 502 x = v_50 := tI_sIs eS_52
      refine lv_aload_n X.1 X.2.1 dX5_addFirst_39 rfl (lv_at hl 0 rfl) ?_
      have t_55 : At S_52 x 5 := tAt_sI eS_52 ha_x
      have t_56 : pR S_52 501 x = some q_3 := tR_sI eS_52 h_5
      refine r_getR (g := 501) X hw t_55 rfl 1 t_56 (by decide) rfl inn_X5_addFirst_5 (by decide) (X.2.2.2.1 (.fieldLink RX5 17 "SilkMill$Row" "cells" "[LSilkMill$Cocoon;") (by decide +kernel)) rfl (gv_501 _ _) dX5_addFirst_40 ?_
      refine lv_aload_n X.1 X.2.1 dX5_addFirst_43 rfl (lv_at hl 0 rfl) ?_
      refine r_getI (g := 502) (x := v_50) X hw t_55 rfl 2 h_54 (by decide) rfl inn_X5_addFirst_5 (by decide) (X.2.2.2.1 (.fieldLink RX5 31 "SilkMill$Row" "head" "I") (by decide +kernel)) rfl (gv_502 _ _) dX5_addFirst_44 ?_
      refine lv_aload_n X.1 X.2.1 dX5_addFirst_47 rfl (lv_at hl 1 rfl) ?_
      have t_57 : At S_52 q_3 16 := tAt_sI eS_52 h_6
      have t_58 : pN S_52 q_3 = n_4 := tN_sI eS_52 h_7
      have t_59 : At S_52 c1 0 := tAt_sI eS_52 ha_c1
      refine r_aast X hw t_57 rfl t_59 rfl (by decide) (by decide) rfl rfl (by rw [t_58]; exact z_ix rfl (by omega) (by omega)) dX5_addFirst_48 (fun H locs hw => ?_)
      obtain ⟨S_60, eS_60⟩ : ∃ T, T = sB S_52 q_3 (va_up (pB S_52 q_3) (Int32.toNatClampNeg (v_50)) (some c1)) := ⟨_, rfl⟩
      rw [← eS_60] at hw
      have hO_61 : Ok MLX S S_60 := hO_53.sB eS_60 t_57 (by decide +kernel) (uB_16 hO_53.1 t_57 (fun q hq => by cases hq; exact t_59))
      refine lv_aload_n X.1 X.2.1 dX5_addFirst_49 rfl (lv_at hl 0 rfl) ?_
      refine lv_dup X.1 X.2.1 dX5_addFirst_50 rfl ?_
      have t_62 : At S_60 x 5 := tAt_sB eS_60 t_55
      have t_63 : pI S_52 500 x = v_1 := tI_sI eS_52 rfl ev_1
      have t_64 : pI S_60 500 x = v_1 := tI_sB eS_60 t_63
      refine r_getI (g := 500) (x := v_1) X hw t_62 rfl 0 t_64 (by decide) rfl inn_X5_addFirst_5 (by decide) (X.2.2.2.1 (.fieldLink RX5 23 "SilkMill$Row" "size" "I") (by decide +kernel)) rfl (gv_500 _ _) dX5_addFirst_51 ?_
      refine lv_iconst (v := 1) X.1 X.2.1 dX5_addFirst_54 (by decide) ?_
      refine lv_iadd X.1 X.2.1 dX5_addFirst_55 ?_
      refine lv_topi (fun v_65 ev_65 => ?_)
      have z_66 : v_65.toInt = v_1.toInt + 1 := z_add ev_65 rfl ti_1 (by omega) (by omega)
      have t_67 : pR S_60 501 x = some q_3 := tR_sB eS_60 t_56
      have t_68 : pN S_60 q_3 = n_4 := tN_sB eS_60 t_58
      refine r_putI (v := v_65) X hw t_62 rfl 0 500 tyX5 (by decide) rfl inn_X5_addFirst_5 tyX5_ok nmX5 (by decide) (X.2.2.2.1 (.fieldLink RX5 23 "SilkMill$Row" "size" "I") (by decide +kernel)) rfl (Or.inl rfl) rfl rfl (Nat.le_of_ble_eq_true rfl) (st_500 _ _) dX5_addFirst_56 (fun H locs hw => ?_)
      obtain ⟨S_69, eS_69⟩ : ∃ T, T = sI S_60 500 x (v_65) := ⟨_, rfl⟩
      rw [← eS_69] at hw
      have hO_70 : Ok MLX S S_69 := hO_61.sI eS_69 (by decide +kernel) (uI_5_500 hO_61.1 t_62 t_67 t_68 (by omega) (by omega))
      have h_71 : pI S_69 500 x = v_65 := tI_sIs eS_69
      exact ret_v X hw hr hlocks (Nat.le_of_ble_eq_true rfl) (Nat.le_of_ble_eq_true rfl) ⟨hO_70, trivial⟩ dX5_addFirst_59
set_option maxHeartbeats 4000000 in
set_option maxRecDepth 100000 in
theorem k_X5_removeFirst (l : Launch) (G : va_G) (cy : Nat → ClassId) (κ : Nat → Nat) (S : PS) (sz : Nat) (x : Nat) (hG : GX S) (ha_x : At S x 5) : Cq l yX5_removeFirst wsX5_removeFirst ({ frames := 2, cells := 0, slots := 0, locals := 96 }) G cy κ S sz [.ref x] (fun (r : Option Nat) (S9 : PS) => Ok MLX S S9 ∧ (∀ q, r = some q → At S9 q 0)) := by
  refine ent_m (cc := cX5_removeFirst) (maxL := 2) (ret := (some (.object "SilkMill$Cocoon"))) (by decide) rfl (Nat.le_of_ble_eq_true rfl) ?_
  intro p e s m below meth c ls X hr hlocks hin hw hl hsz
  subst hsz
  have X : Cx p c cX5_removeFirst 2 s [.ref x].toArray wsX5_removeFirst RX5 m G cy κ (AS S s.heap.size) := X
  have hl : lv_has ls 2 [(0, .ref x)] := hl
  have hO : Ok MLX S S := Ok.rf hG
  refine lv_aload_n X.1 X.2.1 dX5_removeFirst_0 rfl (lv_at hl 0 rfl) ?_
  obtain ⟨v_1, ev_1⟩ : ∃ v, pI S 500 x = v := ⟨_, rfl⟩
  obtain ⟨q_3, n_4, h_5, h_6, h_7, h_8, h_9⟩ := gRowQ hO.1 ha_x
  have rg_2 := gRow_500 hO.1 ha_x h_5 h_7; rw [ev_1] at rg_2
  have pz_10 : (pI S 500 x).toInt = v_1.toInt := by rw [ev_1]
  refine r_getI (g := 500) (x := v_1) X hw ha_x rfl 0 ev_1 (by decide) rfl inn_X5_removeFirst_5 (by decide) (X.2.2.2.1 (.fieldLink RX5 23 "SilkMill$Row" "size" "I") (by decide +kernel)) rfl (gv_500 _ _) dX5_removeFirst_1 ?_
  refine lv_if_ne (tgt := 9) X.1 X.2.1 dX5_removeFirst_4 (by decide) (fun c_11 => ?_) (fun c_11 => ?_)
  · have z_b_12 := trivial
    have k_13 : v_1.toInt ≠ 0 := z_ne rfl ti_0 c_11
    refine lv_aload_n X.1 X.2.1 dX5_removeFirst_9 rfl (lv_at hl 0 rfl) ?_
    refine r_getR (g := 501) X hw ha_x rfl 1 h_5 (by decide) rfl inn_X5_removeFirst_5 (by decide) (X.2.2.2.1 (.fieldLink RX5 17 "SilkMill$Row" "cells" "[LSilkMill$Cocoon;") (by decide +kernel)) rfl (gv_501 _ _) dX5_removeFirst_10 ?_
    refine lv_aload_n X.1 X.2.1 dX5_removeFirst_13 rfl (lv_at hl 0 rfl) ?_
    obtain ⟨v_14, ev_14⟩ : ∃ v, pI S 502 x = v := ⟨_, rfl⟩
    have rg_15 := gRow_502 hO.1 ha_x h_5 h_7; rw [ev_14] at rg_15
    have pz_16 : (pI S 502 x).toInt = v_14.toInt := by rw [ev_14]
    refine r_getI (g := 502) (x := v_14) X hw ha_x rfl 2 ev_14 (by decide) rfl inn_X5_removeFirst_5 (by decide) (X.2.2.2.1 (.fieldLink RX5 31 "SilkMill$Row" "head" "I") (by decide +kernel)) rfl (gv_502 _ _) dX5_removeFirst_14 ?_
    refine r_aald X hw h_6 rfl (by decide) rfl (by rw [h_7]; exact z_ix rfl (by omega) (by omega)) dX5_removeFirst_17 ?_
    rcases ho_17 : pB S q_3 (Int32.toNatClampNeg (v_14)) with _ | q_18
    · refine W.eq (g2 := F0 m 18 ls (.null :: [])) rfl ?_
      refine lv_astore_nN (lv' := [(1, .null), (0, .ref x)]) X.1 X.2.1 dX5_removeFirst_18 rfl hl (by decide) rfl (fun ls hl => ?_)
      refine lv_aload_n X.1 X.2.1 dX5_removeFirst_19 rfl (lv_at hl 1 rfl) ?_
      refine lv_aload_n X.1 X.2.1 dX5_removeFirst_20 rfl (lv_at hl 1 rfl) ?_
      refine lv_iconst (v := 1) X.1 X.2.1 dX5_removeFirst_21 (by decide) ?_
      refine k_i (rm := { frames := 1, cells := 0, slots := 0, locals := 48 }) (av := [.ref x, .int 1]) X hw (va_runV (As := [.int 1]) (rest := [.ref x]) (cfix X) (k_X5_cellOf l G cy κ S _ x (1) (1) q_3 n_4 hO.1 ha_x ti_1 h_5 h_7 (by omega)) (cwV 1 X.2.2.2.1 gX5_removeFirst_X5_cellOf rfl rfl rfl (by decide +kernel) ⟨Nat.le_of_ble_eq_true rfl, Nat.le_of_ble_eq_true rfl⟩) (pre_V X hw _ ha_x rfl (by decide) rfl) rfl rfl hl.1 rfl (lv_room (Nat.le_of_ble_eq_true rfl)) dX5_removeFirst_22 ⟨Nat.le_of_ble_eq_true rfl, Nat.le_of_ble_eq_true rfl⟩) 0 0 (Nat.le_of_ble_eq_true rfl) (Nat.le_of_ble_eq_true rfl) (fun rr_19 S_20 H locs hp hw hfr hnw => ?_)
      obtain ⟨e2, hp⟩ := hp
      subst e2
      obtain ⟨f_21, f_22⟩ := hp
      refine r_putI (v := rr_19) X hw ha_x rfl 2 502 tyX5 (by decide) rfl inn_X5_removeFirst_5 tyX5_ok nmX5 (by decide) (X.2.2.2.1 (.fieldLink RX5 31 "SilkMill$Row" "head" "I") (by decide +kernel)) rfl (Or.inl rfl) rfl rfl (Nat.le_of_ble_eq_true rfl) (st_502 _ _) dX5_removeFirst_25 (fun H locs hw => ?_)
      obtain ⟨S_23, eS_23⟩ : ∃ T, T = sI S 502 x (rr_19) := ⟨_, rfl⟩
      rw [← eS_23] at hw
      have hO_24 : Ok MLX S S_23 := hO.sI eS_23 (by decide +kernel) (uI_5_502 hO.1 ha_x h_5 h_7 (by omega) (by omega))
      have h_25 : pI S_23 502 x = rr_19 := tI_sIs eS_23
      refine lv_aload_n X.1 X.2.1 dX5_removeFirst_28 rfl (lv_at hl 1 rfl) ?_
      refine lv_dup X.1 X.2.1 dX5_removeFirst_29 rfl ?_
      have t_26 : At S_23 x 5 := tAt_sI eS_23 ha_x
      have t_27 : pI S_23 500 x = v_1 := tI_sI eS_23 rfl ev_1
      refine r_getI (g := 500) (x := v_1) X hw t_26 rfl 0 t_27 (by decide) rfl inn_X5_removeFirst_5 (by decide) (X.2.2.2.1 (.fieldLink RX5 23 "SilkMill$Row" "size" "I") (by decide +kernel)) rfl (gv_500 _ _) dX5_removeFirst_30 ?_
      refine lv_iconst (v := 1) X.1 X.2.1 dX5_removeFirst_33 (by decide) ?_
      refine lv_isub X.1 X.2.1 dX5_removeFirst_34 ?_
      refine lv_topi (fun v_28 ev_28 => ?_)
      have z_29 : v_28.toInt = v_1.toInt - 1 := z_sub ev_28 rfl ti_1 (by omega) (by omega)
      have t_30 : pR S_23 501 x = some q_3 := tR_sI eS_23 h_5
      have t_31 : pN S_23 q_3 = n_4 := tN_sI eS_23 h_7
      refine r_putI (v := v_28) X hw t_26 rfl 0 500 tyX5 (by decide) rfl inn_X5_removeFirst_5 tyX5_ok nmX5 (by decide) (X.2.2.2.1 (.fieldLink RX5 23 "SilkMill$Row" "size" "I") (by decide +kernel)) rfl (Or.inl rfl) rfl rfl (Nat.le_of_ble_eq_true rfl) (st_500 _ _) dX5_removeFirst_35 (fun H locs hw => ?_)
      obtain ⟨S_32, eS_32⟩ : ∃ T, T = sI S_23 500 x (v_28) := ⟨_, rfl⟩
      rw [← eS_32] at hw
      have hO_33 : Ok MLX S S_32 := hO_24.sI eS_32 (by decide +kernel) (uI_5_500 hO_24.1 t_26 t_30 t_31 (by omega) (by omega))
      have h_34 : pI S_32 500 x = v_28 := tI_sIs eS_32
      refine lv_aload_nN X.1 X.2.1 dX5_removeFirst_38 rfl (lv_at hl 0 rfl) ?_
      exact ret_q none rfl X hw hr hlocks (Nat.le_of_ble_eq_true rfl) (Nat.le_of_ble_eq_true rfl) ⟨hO_33, (fun q h => by cases h)⟩ dX5_removeFirst_39
    · refine W.eq (g2 := F0 m 18 ls (.ref q_18 :: [])) rfl ?_
      have ha_35 : At S q_18 0 := gEl_16 hO.1 h_6 _ _ ho_17
      refine lv_astore_n (lv' := [(1, .ref q_18), (0, .ref x)]) X.1 X.2.1 dX5_removeFirst_18 rfl hl (by decide) rfl (fun ls hl => ?_)
      refine lv_aload_n X.1 X.2.1 dX5_removeFirst_19 rfl (lv_at hl 1 rfl) ?_
      refine lv_aload_n X.1 X.2.1 dX5_removeFirst_20 rfl (lv_at hl 1 rfl) ?_
      refine lv_iconst (v := 1) X.1 X.2.1 dX5_removeFirst_21 (by decide) ?_
      refine k_i (rm := { frames := 1, cells := 0, slots := 0, locals := 48 }) (av := [.ref x, .int 1]) X hw (va_runV (As := [.int 1]) (rest := [.ref x]) (cfix X) (k_X5_cellOf l G cy κ S _ x (1) (1) q_3 n_4 hO.1 ha_x ti_1 h_5 h_7 (by omega)) (cwV 1 X.2.2.2.1 gX5_removeFirst_X5_cellOf rfl rfl rfl (by decide +kernel) ⟨Nat.le_of_ble_eq_true rfl, Nat.le_of_ble_eq_true rfl⟩) (pre_V X hw _ ha_x rfl (by decide) rfl) rfl rfl hl.1 rfl (lv_room (Nat.le_of_ble_eq_true rfl)) dX5_removeFirst_22 ⟨Nat.le_of_ble_eq_true rfl, Nat.le_of_ble_eq_true rfl⟩) 0 0 (Nat.le_of_ble_eq_true rfl) (Nat.le_of_ble_eq_true rfl) (fun rr_36 S_37 H locs hp hw hfr hnw => ?_)
      obtain ⟨e2, hp⟩ := hp
      subst e2
      obtain ⟨f_38, f_39⟩ := hp
      refine r_putI (v := rr_36) X hw ha_x rfl 2 502 tyX5 (by decide) rfl inn_X5_removeFirst_5 tyX5_ok nmX5 (by decide) (X.2.2.2.1 (.fieldLink RX5 31 "SilkMill$Row" "head" "I") (by decide +kernel)) rfl (Or.inl rfl) rfl rfl (Nat.le_of_ble_eq_true rfl) (st_502 _ _) dX5_removeFirst_25 (fun H locs hw => ?_)
      obtain ⟨S_40, eS_40⟩ : ∃ T, T = sI S 502 x (rr_36) := ⟨_, rfl⟩
      rw [← eS_40] at hw
      have hO_41 : Ok MLX S S_40 := hO.sI eS_40 (by decide +kernel) (uI_5_502 hO.1 ha_x h_5 h_7 (by omega) (by omega))
      have h_42 : pI S_40 502 x = rr_36 := tI_sIs eS_40
      refine lv_aload_n X.1 X.2.1 dX5_removeFirst_28 rfl (lv_at hl 1 rfl) ?_
      refine lv_dup X.1 X.2.1 dX5_removeFirst_29 rfl ?_
      have t_43 : At S_40 x 5 := tAt_sI eS_40 ha_x
      have t_44 : pI S_40 500 x = v_1 := tI_sI eS_40 rfl ev_1
      refine r_getI (g := 500) (x := v_1) X hw t_43 rfl 0 t_44 (by decide) rfl inn_X5_removeFirst_5 (by decide) (X.2.2.2.1 (.fieldLink RX5 23 "SilkMill$Row" "size" "I") (by decide +kernel)) rfl (gv_500 _ _) dX5_removeFirst_30 ?_
      refine lv_iconst (v := 1) X.1 X.2.1 dX5_removeFirst_33 (by decide) ?_
      refine lv_isub X.1 X.2.1 dX5_removeFirst_34 ?_
      refine lv_topi (fun v_45 ev_45 => ?_)
      have z_46 : v_45.toInt = v_1.toInt - 1 := z_sub ev_45 rfl ti_1 (by omega) (by omega)
      have t_47 : pR S_40 501 x = some q_3 := tR_sI eS_40 h_5
      have t_48 : pN S_40 q_3 = n_4 := tN_sI eS_40 h_7
      refine r_putI (v := v_45) X hw t_43 rfl 0 500 tyX5 (by decide) rfl inn_X5_removeFirst_5 tyX5_ok nmX5 (by decide) (X.2.2.2.1 (.fieldLink RX5 23 "SilkMill$Row" "size" "I") (by decide +kernel)) rfl (Or.inl rfl) rfl rfl (Nat.le_of_ble_eq_true rfl) (st_500 _ _) dX5_removeFirst_35 (fun H locs hw => ?_)
      obtain ⟨S_49, eS_49⟩ : ∃ T, T = sI S_40 500 x (v_45) := ⟨_, rfl⟩
      rw [← eS_49] at hw
      have hO_50 : Ok MLX S S_49 := hO_41.sI eS_49 (by decide +kernel) (uI_5_500 hO_41.1 t_43 t_47 t_48 (by omega) (by omega))
      have h_51 : pI S_49 500 x = v_45 := tI_sIs eS_49
      refine lv_aload_n X.1 X.2.1 dX5_removeFirst_38 rfl (lv_at hl 0 rfl) ?_
      have t_52 : At S_40 q_18 0 := tAt_sI eS_40 ha_35
      have t_53 : At S_49 q_18 0 := tAt_sI eS_49 t_52
      exact ret_q (some q_18) rfl X hw hr hlocks (Nat.le_of_ble_eq_true rfl) (Nat.le_of_ble_eq_true rfl) ⟨hO_50, (fun q h => by cases h; exact t_53)⟩ dX5_removeFirst_39
  · have z_b_54 := trivial
    have k_55 : v_1.toInt = 0 := z_eq rfl ti_0 c_11
    refine lv_null X.1 X.2.1 dX5_removeFirst_7 ?_
    exact ret_q none rfl X hw hr hlocks (Nat.le_of_ble_eq_true rfl) (Nat.le_of_ble_eq_true rfl) ⟨hO, (fun q h => by cases h)⟩ dX5_removeFirst_8
set_option maxHeartbeats 4000000 in
set_option maxRecDepth 100000 in
theorem k_X5_removeAt (l : Launch) (G : va_G) (cy : Nat → ClassId) (κ : Nat → Nat) (S : PS) (sz : Nat) (x : Nat) (a1 : Int32) (a1_z : Int) (hG : GX S) (ha_x : At S x 5) (hz_a1 : a1.toInt = a1_z) : Cq l yX5_removeAt wsX5_removeAt ({ frames := 3, cells := 0, slots := 0, locals := 144 }) G cy κ S sz [.ref x, .int (a1)] (fun (r : Option Nat) (S9 : PS) => Ok MLX S S9 ∧ (∀ q, r = some q → At S9 q 0)) := by
  refine ent_m (cc := cX5_removeAt) (maxL := 4) (ret := (some (.object "SilkMill$Cocoon"))) (by decide) rfl (Nat.le_of_ble_eq_true rfl) ?_
  intro p e s m below meth c ls X hr hlocks hin hw hl hsz
  subst hsz
  have X : Cx p c cX5_removeAt 4 s [.ref x, .int (a1)].toArray wsX5_removeAt RX5 m G cy κ (AS S s.heap.size) := X
  have hl : lv_has ls 4 [(0, .ref x), (1, .int (a1))] := hl
  have rg_a1 : (-2147483648) ≤ a1_z ∧ a1_z ≤ 2147483647 := by rw [← hz_a1]; exact ⟨z_lo _, z_hi _⟩
  have hO : Ok MLX S S := Ok.rf hG
  generalize hQQ : MQ below _ _ _ _ _ _ = QQ
  replace hQQ := hQQ.symm
  refine lv_aload_n X.1 X.2.1 dX5_removeAt_0 rfl (lv_at hl 0 rfl) ?_
  refine lv_iload_n X.1 X.2.1 dX5_removeAt_1 rfl (lv_at hl 1 rfl) ?_
  refine k_q (rm := { frames := 2, cells := 0, slots := 0, locals := 96 }) (av := [.ref x, .int (a1)]) X hw (va_runV (As := [.int (a1)]) (rest := []) (cfix X) (k_X5_at l G cy κ S _ x (a1) (a1_z) hO.1 ha_x hz_a1) (cwV 1 X.2.2.2.1 gX5_removeAt_X5_at rfl rfl rfl (by decide +kernel) ⟨Nat.le_of_ble_eq_true rfl, Nat.le_of_ble_eq_true rfl⟩) (pre_V X hw _ ha_x rfl (by decide) rfl) rfl rfl hl.1 rfl (lv_room (Nat.le_of_ble_eq_true rfl)) dX5_removeAt_2 ⟨Nat.le_of_ble_eq_true rfl, Nat.le_of_ble_eq_true rfl⟩) 0 0 (Nat.le_of_ble_eq_true rfl) (Nat.le_of_ble_eq_true rfl) (fun rr_1 S_2 H locs hp hw hfr hnw => ?_)
  obtain ⟨e2, hp⟩ := hp
  subst e2
  have hq_3 := hp
  rcases rr_1 with _ | q_4
  · refine W.eq (g2 := F0 m 5 ls (.null :: [])) rfl ?_
    refine lv_astore_nN (lv' := [(2, .null), (0, .ref x), (1, .int (a1))]) X.1 X.2.1 dX5_removeAt_5 rfl hl (by decide) rfl (fun ls hl => ?_)
    refine lv_aload_nN X.1 X.2.1 dX5_removeAt_6 rfl (lv_at hl 0 rfl) ?_
    refine lv_ifnonnullN X.1 X.2.1 dX5_removeAt_7 ?_
    refine lv_null X.1 X.2.1 dX5_removeAt_10 ?_
    rw [hQQ]
    exact ret_q none rfl X hw hr hlocks (Nat.le_of_ble_eq_true rfl) (Nat.le_of_ble_eq_true rfl) ⟨hO, (fun q h => by cases h)⟩ dX5_removeAt_11
  · refine W.eq (g2 := F0 m 5 ls (.ref q_4 :: [])) rfl ?_
    obtain ⟨ha_5, f_6, f_7⟩ := hq_3 _ rfl
    refine lv_astore_n (lv' := [(2, .ref q_4), (0, .ref x), (1, .int (a1))]) X.1 X.2.1 dX5_removeAt_5 rfl hl (by decide) rfl (fun ls hl => ?_)
    refine lv_aload_n X.1 X.2.1 dX5_removeAt_6 rfl (lv_at hl 0 rfl) ?_
    refine lv_ifnonnull (tgt := 12) X.1 X.2.1 dX5_removeAt_7 (by decide) ?_
    refine lv_iload_n X.1 X.2.1 dX5_removeAt_12 rfl (lv_at hl 2 rfl) ?_
    refine lv_istore_n (lv' := [(3, .int (a1)), (2, .ref q_4), (0, .ref x), (1, .int (a1))]) X.1 X.2.1 dX5_removeAt_13 rfl hl (by decide) rfl (fun ls hl => ?_)
    obtain ⟨v_13, ev_13⟩ : ∃ v, pI S 500 x = v := ⟨_, rfl⟩
    obtain ⟨q_15, n_16, h_17, h_18, h_19, h_20, h_21⟩ := gRowQ hO.1 ha_x
    have rg_14 := gRow_500 hO.1 ha_x h_17 h_19; rw [ev_13] at rg_14
    have pz_22 : (pI S 500 x).toInt = v_13.toInt := by rw [ev_13]
    have L_8 : ∀ (n : Nat) (T_10 : PS) (H : Heap) (locs : List Loc) (ls : Array Slot) (i3_9 : Int32) (i3_9_z : Int), ((600 - i3_9_z).toNat = n) → (Wd G cy (AS S s.heap.size) s.heap T_10 H locs) → (i3_9.toInt = i3_9_z) → (0 ≤ i3_9_z ∧ i3_9_z ≤ 2147483647) → (At T_10 q_4 0) → (At T_10 x 5) → (Ok MLX S T_10) → (pI T_10 500 x = v_13) → (pR T_10 501 x = some q_15) → (At T_10 q_15 16) → (pN T_10 q_15 = n_16) → (lv_has ls 4 [(3, .int (i3_9)), (2, .ref q_4), (0, .ref x), (1, .int (a1))]) → W p l e ({ frames := 3, cells := 0, slots := 0, locals := 144 }) s m [.ref x, .int (a1)].toArray below meth c H locs 0 0 QQ (F0 m 14 ls []) := by
      intro n
      induction n using Nat.strongRecOn with
      | ind n ih =>
      intro T_10 H locs ls i3_9 i3_9_z hn hw hz_i3_9 hr_i3_9 ha_q_4_L_11 ha_x_L_12 hO_T_10 ik_23 ik_24 ik_25 ik_26 hl
      have rg_27 : (-2147483648) ≤ i3_9_z ∧ i3_9_z ≤ 2147483647 := by rw [← hz_i3_9]; exact ⟨z_lo _, z_hi _⟩
      refine lv_iload_n X.1 X.2.1 dX5_removeAt_14 rfl (lv_at hl 0 rfl) ?_
      refine lv_aload_n X.1 X.2.1 dX5_removeAt_15 rfl (lv_at hl 2 rfl) ?_
      refine r_getI (g := 500) (x := v_13) X hw ha_x_L_12 rfl 0 ik_23 (by decide) rfl inn_X5_removeAt_5 (by decide) (X.2.2.2.1 (.fieldLink RX5 23 "SilkMill$Row" "size" "I") (by decide +kernel)) rfl (gv_500 _ _) dX5_removeAt_16 ?_
      refine lv_iconst (v := 1) X.1 X.2.1 dX5_removeAt_19 (by decide) ?_
      refine lv_isub X.1 X.2.1 dX5_removeAt_20 ?_
      refine lv_topi (fun v_28 ev_28 => ?_)
      have z_29 : v_28.toInt = v_13.toInt - 1 := z_sub ev_28 rfl ti_1 (by omega) (by omega)
      refine lv_icmp_ge (tgt := 52) X.1 X.2.1 dX5_removeAt_21 (by decide) (fun c_30 => ?_) (fun c_30 => ?_)
      · have z_b_31 := trivial
        have k_32 : i3_9_z ≥ v_28.toInt := z_le rfl hz_i3_9 c_30
        refine lv_aload_n X.1 X.2.1 dX5_removeAt_52 rfl (lv_at hl 2 rfl) ?_
        refine lv_dup X.1 X.2.1 dX5_removeAt_53 rfl ?_
        refine r_getI (g := 500) (x := v_13) X hw ha_x_L_12 rfl 0 ik_23 (by decide) rfl inn_X5_removeAt_5 (by decide) (X.2.2.2.1 (.fieldLink RX5 23 "SilkMill$Row" "size" "I") (by decide +kernel)) rfl (gv_500 _ _) dX5_removeAt_54 ?_
        refine lv_iconst (v := 1) X.1 X.2.1 dX5_removeAt_57 (by decide) ?_
        refine lv_isub X.1 X.2.1 dX5_removeAt_58 ?_
        refine lv_topi (fun v_33 ev_33 => ?_)
        have z_34 : v_33.toInt = v_13.toInt - 1 := z_sub ev_33 rfl ti_1 (by omega) (by omega)
        refine r_putI (v := v_33) X hw ha_x_L_12 rfl 0 500 tyX5 (by decide) rfl inn_X5_removeAt_5 tyX5_ok nmX5 (by decide) (X.2.2.2.1 (.fieldLink RX5 23 "SilkMill$Row" "size" "I") (by decide +kernel)) rfl (Or.inl rfl) rfl rfl (Nat.le_of_ble_eq_true rfl) (st_500 _ _) dX5_removeAt_59 (fun H locs hw => ?_)
        obtain ⟨S_35, eS_35⟩ : ∃ T, T = sI T_10 500 x (v_33) := ⟨_, rfl⟩
        rw [← eS_35] at hw
        have hO_36 : Ok MLX S S_35 := hO_T_10.sI eS_35 (by decide +kernel) (uI_5_500 hO_T_10.1 ha_x_L_12 ik_24 ik_26 (by omega) (by omega))
        have h_37 : pI S_35 500 x = v_33 := tI_sIs eS_35
        refine lv_aload_n X.1 X.2.1 dX5_removeAt_62 rfl (lv_at hl 1 rfl) ?_
        have t_38 : At S_35 q_4 0 := tAt_sI eS_35 ha_q_4_L_11
        rw [hQQ]
        exact ret_q (some q_4) rfl X hw hr hlocks (Nat.le_of_ble_eq_true rfl) (Nat.le_of_ble_eq_true rfl) ⟨hO_36, (fun q h => by cases h; exact t_38)⟩ dX5_removeAt_63
      · have z_b_39 := trivial
        have k_40 : i3_9_z < v_28.toInt := z_nle rfl hz_i3_9 c_30
        refine lv_aload_n X.1 X.2.1 dX5_removeAt_24 rfl (lv_at hl 2 rfl) ?_
        refine r_getR (g := 501) X hw ha_x_L_12 rfl 1 ik_24 (by decide) rfl inn_X5_removeAt_5 (by decide) (X.2.2.2.1 (.fieldLink RX5 17 "SilkMill$Row" "cells" "[LSilkMill$Cocoon;") (by decide +kernel)) rfl (gv_501 _ _) dX5_removeAt_25 ?_
        refine lv_aload_n X.1 X.2.1 dX5_removeAt_28 rfl (lv_at hl 2 rfl) ?_
        refine lv_iload_n X.1 X.2.1 dX5_removeAt_29 rfl (lv_at hl 0 rfl) ?_
        refine k_i (rm := { frames := 1, cells := 0, slots := 0, locals := 48 }) (av := [.ref x, .int (i3_9)]) X hw (va_runV (As := [.int (i3_9)]) (rest := [.ref q_15]) (cfix X) (k_X5_cellOf l G cy κ T_10 _ x (i3_9) (i3_9_z) q_15 n_16 hO_T_10.1 ha_x_L_12 hz_i3_9 ik_24 ik_26 (by omega)) (cwV 1 X.2.2.2.1 gX5_removeAt_X5_cellOf rfl rfl rfl (by decide +kernel) ⟨Nat.le_of_ble_eq_true rfl, Nat.le_of_ble_eq_true rfl⟩) (pre_V X hw _ ha_x_L_12 rfl (by decide) rfl) rfl rfl hl.1 rfl (lv_room (Nat.le_of_ble_eq_true rfl)) dX5_removeAt_30 ⟨Nat.le_of_ble_eq_true rfl, Nat.le_of_ble_eq_true rfl⟩) 0 0 (Nat.le_of_ble_eq_true rfl) (Nat.le_of_ble_eq_true rfl) (fun rr_41 S_42 H locs hp hw hfr hnw => ?_)
        obtain ⟨e2, hp⟩ := hp
        subst e2
        obtain ⟨f_43, f_44⟩ := hp
        refine lv_aload_n X.1 X.2.1 dX5_removeAt_33 rfl (lv_at hl 2 rfl) ?_
        refine r_getR (g := 501) X hw ha_x_L_12 rfl 1 ik_24 (by decide) rfl inn_X5_removeAt_5 (by decide) (X.2.2.2.1 (.fieldLink RX5 17 "SilkMill$Row" "cells" "[LSilkMill$Cocoon;") (by decide +kernel)) rfl (gv_501 _ _) dX5_removeAt_34 ?_
        refine lv_aload_n X.1 X.2.1 dX5_removeAt_37 rfl (lv_at hl 2 rfl) ?_
        refine lv_iload_n X.1 X.2.1 dX5_removeAt_38 rfl (lv_at hl 0 rfl) ?_
        refine lv_iconst (v := 1) X.1 X.2.1 dX5_removeAt_39 (by decide) ?_
        refine lv_iadd X.1 X.2.1 dX5_removeAt_40 ?_
        refine lv_topi (fun v_45 ev_45 => ?_)
        have z_46 : v_45.toInt = i3_9_z + 1 := z_add ev_45 hz_i3_9 ti_1 (by omega) (by omega)
        refine k_i (rm := { frames := 1, cells := 0, slots := 0, locals := 48 }) (av := [.ref x, .int (v_45)]) X hw (va_runV (As := [.int (v_45)]) (rest := [.ref q_15, .int (rr_41), .ref q_15]) (cfix X) (k_X5_cellOf l G cy κ T_10 _ x (v_45) (v_45.toInt) q_15 n_16 hO_T_10.1 ha_x_L_12 rfl ik_24 ik_26 (by omega)) (cwV 1 X.2.2.2.1 gX5_removeAt_X5_cellOf rfl rfl rfl (by decide +kernel) ⟨Nat.le_of_ble_eq_true rfl, Nat.le_of_ble_eq_true rfl⟩) (pre_V X hw _ ha_x_L_12 rfl (by decide) rfl) rfl rfl hl.1 rfl (lv_room (Nat.le_of_ble_eq_true rfl)) dX5_removeAt_41 ⟨Nat.le_of_ble_eq_true rfl, Nat.le_of_ble_eq_true rfl⟩) 0 0 (Nat.le_of_ble_eq_true rfl) (Nat.le_of_ble_eq_true rfl) (fun rr_47 S_48 H locs hp hw hfr hnw => ?_)
        obtain ⟨e2, hp⟩ := hp
        subst e2
        obtain ⟨f_49, f_50⟩ := hp
        refine r_aald X hw ik_25 rfl (by decide) rfl (by rw [ik_26]; exact z_ix rfl (by omega) (by omega)) dX5_removeAt_44 ?_
        rcases ho_51 : pB T_10 q_15 (Int32.toNatClampNeg (rr_47)) with _ | q_52
        · refine W.eq (g2 := F0 m 45 ls (.null :: .int (rr_41) :: .ref q_15 :: [])) rfl ?_
          refine r_aastN (C := "SilkMill$Cocoon") X hw ik_25 rfl (by decide) rfl (by rw [ik_26]; exact z_ix rfl (by omega) (by omega)) dX5_removeAt_45 (fun H locs hw => ?_)
          obtain ⟨S_53, eS_53⟩ : ∃ T, T = sB T_10 q_15 (va_up (pB T_10 q_15) (Int32.toNatClampNeg (rr_41)) none) := ⟨_, rfl⟩
          rw [← eS_53] at hw
          have hO_54 : Ok MLX S S_53 := hO_T_10.sB eS_53 ik_25 (by decide +kernel) (uB_16 hO_T_10.1 ik_25 (fun q hq => by cases hq))
          obtain ⟨x_55, ex_55⟩ : ∃ y : Int32, y = i3_9 + 1 := ⟨_, rfl⟩
          have z_56 : x_55.toInt = i3_9_z + 1 := z_add ex_55 hz_i3_9 ti_1 (by omega) (by omega)
          refine lv_iinc (v := x_55) (lv' := [(3, .int (x_55)), (2, .ref q_4), (0, .ref x), (1, .int (a1))]) X.1 X.2.1 dX5_removeAt_46 hl (k := 0) rfl (by rw [ex_55]; rfl) (by decide) rfl (fun ls hl => ?_)
          refine lv_goto (tgt := 14) X.1 X.2.1 dX5_removeAt_49 (by decide) ?_
          have t_57 : At S_53 q_4 0 := tAt_sB eS_53 ha_q_4_L_11
          have t_58 : At S_53 x 5 := tAt_sB eS_53 ha_x_L_12
          have t_59 : pI S_53 500 x = v_13 := tI_sB eS_53 ik_23
          have t_60 : pR S_53 501 x = some q_15 := tR_sB eS_53 ik_24
          have t_61 : At S_53 q_15 16 := tAt_sB eS_53 ik_25
          have t_62 : pN S_53 q_15 = n_16 := tN_sB eS_53 ik_26
          exact ih _ (by omega) _ _ _ _ (x_55) (x_55.toInt) rfl hw rfl (by omega) t_57 t_58 hO_54 t_59 t_60 t_61 t_62 (lv_sub hl [0, 1, 2, 3] rfl)
        · refine W.eq (g2 := F0 m 45 ls (.ref q_52 :: .int (rr_41) :: .ref q_15 :: [])) rfl ?_
          have ha_63 : At T_10 q_52 0 := gEl_16 hO_T_10.1 ik_25 _ _ ho_51
          refine r_aast X hw ik_25 rfl ha_63 rfl (by decide) (by decide) rfl rfl (by rw [ik_26]; exact z_ix rfl (by omega) (by omega)) dX5_removeAt_45 (fun H locs hw => ?_)
          obtain ⟨S_64, eS_64⟩ : ∃ T, T = sB T_10 q_15 (va_up (pB T_10 q_15) (Int32.toNatClampNeg (rr_41)) (some q_52)) := ⟨_, rfl⟩
          rw [← eS_64] at hw
          have hO_65 : Ok MLX S S_64 := hO_T_10.sB eS_64 ik_25 (by decide +kernel) (uB_16 hO_T_10.1 ik_25 (fun q hq => by cases hq; exact ha_63))
          obtain ⟨x_66, ex_66⟩ : ∃ y : Int32, y = i3_9 + 1 := ⟨_, rfl⟩
          have z_67 : x_66.toInt = i3_9_z + 1 := z_add ex_66 hz_i3_9 ti_1 (by omega) (by omega)
          refine lv_iinc (v := x_66) (lv' := [(3, .int (x_66)), (2, .ref q_4), (0, .ref x), (1, .int (a1))]) X.1 X.2.1 dX5_removeAt_46 hl (k := 0) rfl (by rw [ex_66]; rfl) (by decide) rfl (fun ls hl => ?_)
          refine lv_goto (tgt := 14) X.1 X.2.1 dX5_removeAt_49 (by decide) ?_
          have t_68 : At S_64 q_4 0 := tAt_sB eS_64 ha_q_4_L_11
          have t_69 : At S_64 x 5 := tAt_sB eS_64 ha_x_L_12
          have t_70 : pI S_64 500 x = v_13 := tI_sB eS_64 ik_23
          have t_71 : pR S_64 501 x = some q_15 := tR_sB eS_64 ik_24
          have t_72 : At S_64 q_15 16 := tAt_sB eS_64 ik_25
          have t_73 : pN S_64 q_15 = n_16 := tN_sB eS_64 ik_26
          exact ih _ (by omega) _ _ _ _ (x_66) (x_66.toInt) rfl hw rfl (by omega) t_68 t_69 hO_65 t_70 t_71 t_72 t_73 (lv_sub hl [0, 1, 2, 3] rfl)
    exact L_8 _ _ _ _ _ (a1) (a1_z) rfl hw hz_a1 (by omega) ha_5 ha_x hO ev_13 h_17 h_18 h_19 (lv_sub hl [0, 1, 2, 3] rfl)
set_option maxHeartbeats 4000000 in
set_option maxRecDepth 100000 in
theorem k_X5_sumOfFineness (l : Launch) (G : va_G) (cy : Nat → ClassId) (κ : Nat → Nat) (S : PS) (sz : Nat) (x : Nat) (hG : GX S) (ha_x : At S x 5) : Ci l yX5_sumOfFineness wsX5_sumOfFineness ({ frames := 3, cells := 0, slots := 0, locals := 144 }) G cy κ S sz [.ref x] (fun (r : Int32) (S9 : PS) => S = S9 ∧ (True)) := by
  refine ent_m (cc := cX5_sumOfFineness) (maxL := 4) (ret := (some .int)) (by decide) rfl (Nat.le_of_ble_eq_true rfl) ?_
  intro p e s m below meth c ls X hr hlocks hin hw hl hsz
  subst hsz
  have X : Cx p c cX5_sumOfFineness 4 s [.ref x].toArray wsX5_sumOfFineness RX5 m G cy κ (AS S s.heap.size) := X
  have hl : lv_has ls 4 [(0, .ref x)] := hl
  generalize hQQ : MQ below _ _ _ _ _ _ = QQ
  replace hQQ := hQQ.symm
  refine lv_iconst (v := 0) X.1 X.2.1 dX5_sumOfFineness_0 (by decide) ?_
  refine lv_istore_n (lv' := [(1, .int 0), (0, .ref x)]) X.1 X.2.1 dX5_sumOfFineness_1 rfl hl (by decide) rfl (fun ls hl => ?_)
  refine lv_iconst (v := 0) X.1 X.2.1 dX5_sumOfFineness_2 (by decide) ?_
  refine lv_istore_n (lv' := [(2, .int 0), (1, .int 0), (0, .ref x)]) X.1 X.2.1 dX5_sumOfFineness_3 rfl hl (by decide) rfl (fun ls hl => ?_)
  have L_1 : ∀ (n : Nat) (H : Heap) (locs : List Loc) (ls : Array Slot) (i1_2 : Int32) (i1_2_z : Int) (i2_3 : Int32) (i2_3_z : Int), ((600 - i2_3_z).toNat = n) → (Wd G cy (AS S s.heap.size) s.heap S H locs) → (i1_2.toInt = i1_2_z) → (i2_3.toInt = i2_3_z) → (0 ≤ i2_3_z ∧ i2_3_z ≤ 600) → (lv_has ls 4 [(1, .int (i1_2)), (2, .int (i2_3)), (0, .ref x)]) → W p l e ({ frames := 3, cells := 0, slots := 0, locals := 144 }) s m [.ref x].toArray below meth c H locs 0 0 QQ (F0 m 4 ls []) := by
    intro n
    induction n using Nat.strongRecOn with
    | ind n ih =>
    intro H locs ls i1_2 i1_2_z i2_3 i2_3_z hn hw hz_i1_2 hz_i2_3 hr_i2_3 hl
    have rg_4 : (-2147483648) ≤ i1_2_z ∧ i1_2_z ≤ 2147483647 := by rw [← hz_i1_2]; exact ⟨z_lo _, z_hi _⟩
    have rg_5 : (-2147483648) ≤ i2_3_z ∧ i2_3_z ≤ 2147483647 := by rw [← hz_i2_3]; exact ⟨z_lo _, z_hi _⟩
    refine lv_iload_n X.1 X.2.1 dX5_sumOfFineness_4 rfl (lv_at hl 1 rfl) ?_
    refine lv_aload_n X.1 X.2.1 dX5_sumOfFineness_5 rfl (lv_at hl 2 rfl) ?_
    obtain ⟨v_6, ev_6⟩ : ∃ v, pI S 500 x = v := ⟨_, rfl⟩
    obtain ⟨q_8, n_9, h_10, h_11, h_12, h_13, h_14⟩ := gRowQ hG ha_x
    have rg_7 := gRow_500 hG ha_x h_10 h_12; rw [ev_6] at rg_7
    have pz_15 : (pI S 500 x).toInt = v_6.toInt := by rw [ev_6]
    refine r_getI (g := 500) (x := v_6) X hw ha_x rfl 0 ev_6 (by decide) rfl inn_X5_sumOfFineness_5 (by decide) (X.2.2.2.1 (.fieldLink RX5 23 "SilkMill$Row" "size" "I") (by decide +kernel)) rfl (gv_500 _ _) dX5_sumOfFineness_6 ?_
    refine lv_icmp_ge (tgt := 43) X.1 X.2.1 dX5_sumOfFineness_9 (by decide) (fun c_16 => ?_) (fun c_16 => ?_)
    · have z_b_17 := trivial
      have k_18 : i2_3_z ≥ v_6.toInt := z_le rfl hz_i2_3 c_16
      refine lv_iload_n X.1 X.2.1 dX5_sumOfFineness_43 rfl (lv_at hl 0 rfl) ?_
      rw [hQQ]
      exact ret_i X hw hr hlocks (Nat.le_of_ble_eq_true rfl) (Nat.le_of_ble_eq_true rfl) ⟨rfl, trivial⟩ dX5_sumOfFineness_44
    · have z_b_19 := trivial
      have k_20 : i2_3_z < v_6.toInt := z_nle rfl hz_i2_3 c_16
      refine lv_aload_n X.1 X.2.1 dX5_sumOfFineness_12 rfl (lv_at hl 2 rfl) ?_
      refine lv_iload_n X.1 X.2.1 dX5_sumOfFineness_13 rfl (lv_at hl 1 rfl) ?_
      refine k_q (rm := { frames := 2, cells := 0, slots := 0, locals := 96 }) (av := [.ref x, .int (i2_3)]) X hw (va_runV (As := [.int (i2_3)]) (rest := []) (cfix X) (k_X5_at l G cy κ S _ x (i2_3) (i2_3_z) hG ha_x hz_i2_3) (cwV 1 X.2.2.2.1 gX5_sumOfFineness_X5_at rfl rfl rfl (by decide +kernel) ⟨Nat.le_of_ble_eq_true rfl, Nat.le_of_ble_eq_true rfl⟩) (pre_V X hw _ ha_x rfl (by decide) rfl) rfl rfl hl.1 rfl (lv_room (Nat.le_of_ble_eq_true rfl)) dX5_sumOfFineness_14 ⟨Nat.le_of_ble_eq_true rfl, Nat.le_of_ble_eq_true rfl⟩) 0 0 (Nat.le_of_ble_eq_true rfl) (Nat.le_of_ble_eq_true rfl) (fun rr_21 S_22 H locs hp hw hfr hnw => ?_)
      obtain ⟨e2, hp⟩ := hp
      subst e2
      have hq_23 := hp
      rcases rr_21 with _ | q_24
      · refine W.eq (g2 := F0 m 17 ls (.null :: [])) rfl ?_
        refine lv_astore_nN (lv' := [(3, .null), (1, .int (i1_2)), (2, .int (i2_3)), (0, .ref x)]) X.1 X.2.1 dX5_sumOfFineness_17 rfl hl (by decide) rfl (fun ls hl => ?_)
        refine lv_iload_n X.1 X.2.1 dX5_sumOfFineness_18 rfl (lv_at hl 1 rfl) ?_
        refine lv_aload_nN X.1 X.2.1 dX5_sumOfFineness_19 rfl (lv_at hl 0 rfl) ?_
        refine lv_ifnonnullN X.1 X.2.1 dX5_sumOfFineness_20 ?_
        refine lv_iconst (v := 0) X.1 X.2.1 dX5_sumOfFineness_23 (by decide) ?_
        refine lv_goto (tgt := 35) X.1 X.2.1 dX5_sumOfFineness_24 (by decide) ?_
        refine lv_iadd X.1 X.2.1 dX5_sumOfFineness_35 ?_
        refine lv_topi (fun v_25 ev_25 => ?_)
        have z_26 : v_25.toInt = i1_2_z + 0 := z_add ev_25 hz_i1_2 ti_0 (by omega) (by omega)
        refine lv_istore_n (lv' := [(1, .int (v_25)), (3, .null), (2, .int (i2_3)), (0, .ref x)]) X.1 X.2.1 dX5_sumOfFineness_36 rfl hl (by decide) rfl (fun ls hl => ?_)
        obtain ⟨x_27, ex_27⟩ : ∃ y : Int32, y = i2_3 + 1 := ⟨_, rfl⟩
        have z_28 : x_27.toInt = i2_3_z + 1 := z_add ex_27 hz_i2_3 ti_1 (by omega) (by omega)
        refine lv_iinc (v := x_27) (lv' := [(2, .int (x_27)), (1, .int (v_25)), (3, .null), (0, .ref x)]) X.1 X.2.1 dX5_sumOfFineness_37 hl (k := 2) rfl (by rw [ex_27]; rfl) (by decide) rfl (fun ls hl => ?_)
        refine lv_goto (tgt := 4) X.1 X.2.1 dX5_sumOfFineness_40 (by decide) ?_
        exact ih _ (by omega) _ _ _ (v_25) (v_25.toInt) (x_27) (x_27.toInt) rfl hw rfl rfl (by omega) (lv_sub hl [1, 0, 3] rfl)
      · refine W.eq (g2 := F0 m 17 ls (.ref q_24 :: [])) rfl ?_
        obtain ⟨ha_29, f_30, f_31⟩ := hq_23 _ rfl
        refine lv_astore_n (lv' := [(3, .ref q_24), (1, .int (i1_2)), (2, .int (i2_3)), (0, .ref x)]) X.1 X.2.1 dX5_sumOfFineness_17 rfl hl (by decide) rfl (fun ls hl => ?_)
        refine lv_iload_n X.1 X.2.1 dX5_sumOfFineness_18 rfl (lv_at hl 1 rfl) ?_
        refine lv_aload_n X.1 X.2.1 dX5_sumOfFineness_19 rfl (lv_at hl 0 rfl) ?_
        refine lv_ifnonnull (tgt := 27) X.1 X.2.1 dX5_sumOfFineness_20 (by decide) ?_
        refine lv_aload_n X.1 X.2.1 dX5_sumOfFineness_27 rfl (lv_at hl 0 rfl) ?_
        refine lv_aload_n X.1 X.2.1 dX5_sumOfFineness_28 rfl (lv_at hl 0 rfl) ?_
        obtain ⟨v_32, ev_32⟩ : ∃ v, pI S 4 q_24 = v := ⟨_, rfl⟩
        have rg_34 := And.intro (z_lo v_32) (z_hi v_32)
        have pz_35 : (pI S 4 q_24).toInt = v_32.toInt := by rw [ev_32]
        refine r_getI (g := 4) (x := v_32) X hw ha_29 rfl 4 ev_32 (by decide) rfl inn_X5_sumOfFineness_0 (by decide) (X.2.2.2.1 (.fieldLink RX5 38 "SilkMill$Cocoon" "drawnTo" "I") (by decide +kernel)) rfl (gv_4 _ _) dX5_sumOfFineness_29 ?_
        refine k_i (rm := { frames := 1, cells := 0, slots := 0, locals := 48 }) (av := [.ref q_24, .int (v_32)]) X hw (va_runV (As := [.int (v_32)]) (rest := [.int (i1_2)]) (cfix X) (k_X0_finenessAt l G cy κ S _ q_24 (v_32) (v_32.toInt) hG ha_29 rfl) (cwV 1 X.2.2.2.1 gX5_sumOfFineness_X0_finenessAt rfl rfl rfl (by decide +kernel) ⟨Nat.le_of_ble_eq_true rfl, Nat.le_of_ble_eq_true rfl⟩) (pre_V X hw _ ha_29 rfl (by decide) rfl) rfl rfl hl.1 rfl (lv_room (Nat.le_of_ble_eq_true rfl)) dX5_sumOfFineness_32 ⟨Nat.le_of_ble_eq_true rfl, Nat.le_of_ble_eq_true rfl⟩) 0 0 (Nat.le_of_ble_eq_true rfl) (Nat.le_of_ble_eq_true rfl) (fun rr_36 S_37 H locs hp hw hfr hnw => ?_)
        obtain ⟨e2, hp⟩ := hp
        subst e2
        have rg_38 := And.intro (z_lo rr_36) (z_hi rr_36)
        refine lv_iadd X.1 X.2.1 dX5_sumOfFineness_35 ?_
        refine lv_topi (fun v_39 ev_39 => ?_)
        have rg_40 := And.intro (z_lo v_39) (z_hi v_39)
        refine lv_istore_n (lv' := [(1, .int (v_39)), (3, .ref q_24), (2, .int (i2_3)), (0, .ref x)]) X.1 X.2.1 dX5_sumOfFineness_36 rfl hl (by decide) rfl (fun ls hl => ?_)
        obtain ⟨x_41, ex_41⟩ : ∃ y : Int32, y = i2_3 + 1 := ⟨_, rfl⟩
        have z_42 : x_41.toInt = i2_3_z + 1 := z_add ex_41 hz_i2_3 ti_1 (by omega) (by omega)
        refine lv_iinc (v := x_41) (lv' := [(2, .int (x_41)), (1, .int (v_39)), (3, .ref q_24), (0, .ref x)]) X.1 X.2.1 dX5_sumOfFineness_37 hl (k := 2) rfl (by rw [ex_41]; rfl) (by decide) rfl (fun ls hl => ?_)
        refine lv_goto (tgt := 4) X.1 X.2.1 dX5_sumOfFineness_40 (by decide) ?_
        exact ih _ (by omega) _ _ _ (v_39) (v_39.toInt) (x_41) (x_41.toInt) rfl hw rfl rfl (by omega) (lv_sub hl [1, 0, 3] rfl)
  exact L_1 _ _ _ _ (0) (0) (0) (0) rfl hw ti_0 ti_0 (by omega) (lv_sub hl [1, 0, 2] rfl)
set_option maxHeartbeats 4000000 in
set_option maxRecDepth 100000 in
theorem k_X5_thinnest (l : Launch) (G : va_G) (cy : Nat → ClassId) (κ : Nat → Nat) (S : PS) (sz : Nat) (x : Nat) (hG : GX S) (ha_x : At S x 5) : Ci l yX5_thinnest wsX5_thinnest ({ frames := 3, cells := 0, slots := 0, locals := 144 }) G cy κ S sz [.ref x] (fun (r : Int32) (S9 : PS) => S = S9 ∧ (True)) := by
  refine ent_m (cc := cX5_thinnest) (maxL := 5) (ret := (some .int)) (by decide) rfl (Nat.le_of_ble_eq_true rfl) ?_
  intro p e s m below meth c ls X hr hlocks hin hw hl hsz
  subst hsz
  have X : Cx p c cX5_thinnest 5 s [.ref x].toArray wsX5_thinnest RX5 m G cy κ (AS S s.heap.size) := X
  have hl : lv_has ls 5 [(0, .ref x)] := hl
  generalize hQQ : MQ below _ _ _ _ _ _ = QQ
  replace hQQ := hQQ.symm
  refine lv_iconst (v := (-1)) X.1 X.2.1 dX5_thinnest_0 (by decide) ?_
  refine lv_istore_n (lv' := [(1, .int (-1)), (0, .ref x)]) X.1 X.2.1 dX5_thinnest_1 rfl hl (by decide) rfl (fun ls hl => ?_)
  refine lv_ldc (v := 2147483647) X.1 X.2.1 X.2.2.2.2.1 (X.2.2.2.1 (.constant RX5 46 2147483647) (by decide +kernel)) dX5_thinnest_2 ?_
  refine lv_istore_n (lv' := [(2, .int 2147483647), (1, .int (-1)), (0, .ref x)]) X.1 X.2.1 dX5_thinnest_4 rfl hl (by decide) rfl (fun ls hl => ?_)
  refine lv_iconst (v := 0) X.1 X.2.1 dX5_thinnest_5 (by decide) ?_
  refine lv_istore_n (lv' := [(3, .int 0), (2, .int 2147483647), (1, .int (-1)), (0, .ref x)]) X.1 X.2.1 dX5_thinnest_6 rfl hl (by decide) rfl (fun ls hl => ?_)
  have L_1 : ∀ (n : Nat) (H : Heap) (locs : List Loc) (ls : Array Slot) (i1_2 : Int32) (i1_2_z : Int) (i2_3 : Int32) (i2_3_z : Int) (i3_4 : Int32) (i3_4_z : Int), ((600 - i3_4_z).toNat = n) → (Wd G cy (AS S s.heap.size) s.heap S H locs) → (i1_2.toInt = i1_2_z) → (i2_3.toInt = i2_3_z) → (i3_4.toInt = i3_4_z) → (0 ≤ i3_4_z ∧ i3_4_z ≤ 600) → (lv_has ls 5 [(1, .int (i1_2)), (2, .int (i2_3)), (3, .int (i3_4)), (0, .ref x)]) → W p l e ({ frames := 3, cells := 0, slots := 0, locals := 144 }) s m [.ref x].toArray below meth c H locs 0 0 QQ (F0 m 7 ls []) := by
    intro n
    induction n using Nat.strongRecOn with
    | ind n ih =>
    intro H locs ls i1_2 i1_2_z i2_3 i2_3_z i3_4 i3_4_z hn hw hz_i1_2 hz_i2_3 hz_i3_4 hr_i3_4 hl
    have rg_5 : (-2147483648) ≤ i1_2_z ∧ i1_2_z ≤ 2147483647 := by rw [← hz_i1_2]; exact ⟨z_lo _, z_hi _⟩
    have rg_6 : (-2147483648) ≤ i2_3_z ∧ i2_3_z ≤ 2147483647 := by rw [← hz_i2_3]; exact ⟨z_lo _, z_hi _⟩
    have rg_7 : (-2147483648) ≤ i3_4_z ∧ i3_4_z ≤ 2147483647 := by rw [← hz_i3_4]; exact ⟨z_lo _, z_hi _⟩
    refine lv_iload_n X.1 X.2.1 dX5_thinnest_7 rfl (lv_at hl 2 rfl) ?_
    refine lv_aload_n X.1 X.2.1 dX5_thinnest_8 rfl (lv_at hl 3 rfl) ?_
    obtain ⟨v_8, ev_8⟩ : ∃ v, pI S 500 x = v := ⟨_, rfl⟩
    obtain ⟨q_10, n_11, h_12, h_13, h_14, h_15, h_16⟩ := gRowQ hG ha_x
    have rg_9 := gRow_500 hG ha_x h_12 h_14; rw [ev_8] at rg_9
    have pz_17 : (pI S 500 x).toInt = v_8.toInt := by rw [ev_8]
    refine r_getI (g := 500) (x := v_8) X hw ha_x rfl 0 ev_8 (by decide) rfl inn_X5_thinnest_5 (by decide) (X.2.2.2.1 (.fieldLink RX5 23 "SilkMill$Row" "size" "I") (by decide +kernel)) rfl (gv_500 _ _) dX5_thinnest_9 ?_
    refine lv_icmp_ge (tgt := 60) X.1 X.2.1 dX5_thinnest_12 (by decide) (fun c_18 => ?_) (fun c_18 => ?_)
    · have z_b_19 := trivial
      have k_20 : i3_4_z ≥ v_8.toInt := z_le rfl hz_i3_4 c_18
      refine lv_iload_n X.1 X.2.1 dX5_thinnest_60 rfl (lv_at hl 0 rfl) ?_
      rw [hQQ]
      exact ret_i X hw hr hlocks (Nat.le_of_ble_eq_true rfl) (Nat.le_of_ble_eq_true rfl) ⟨rfl, trivial⟩ dX5_thinnest_61
    · have z_b_21 := trivial
      have k_22 : i3_4_z < v_8.toInt := z_nle rfl hz_i3_4 c_18
      refine lv_aload_n X.1 X.2.1 dX5_thinnest_15 rfl (lv_at hl 3 rfl) ?_
      refine lv_iload_n X.1 X.2.1 dX5_thinnest_16 rfl (lv_at hl 2 rfl) ?_
      refine k_q (rm := { frames := 2, cells := 0, slots := 0, locals := 96 }) (av := [.ref x, .int (i3_4)]) X hw (va_runV (As := [.int (i3_4)]) (rest := []) (cfix X) (k_X5_at l G cy κ S _ x (i3_4) (i3_4_z) hG ha_x hz_i3_4) (cwV 1 X.2.2.2.1 gX5_thinnest_X5_at rfl rfl rfl (by decide +kernel) ⟨Nat.le_of_ble_eq_true rfl, Nat.le_of_ble_eq_true rfl⟩) (pre_V X hw _ ha_x rfl (by decide) rfl) rfl rfl hl.1 rfl (lv_room (Nat.le_of_ble_eq_true rfl)) dX5_thinnest_17 ⟨Nat.le_of_ble_eq_true rfl, Nat.le_of_ble_eq_true rfl⟩) 0 0 (Nat.le_of_ble_eq_true rfl) (Nat.le_of_ble_eq_true rfl) (fun rr_23 S_24 H locs hp hw hfr hnw => ?_)
      obtain ⟨e2, hp⟩ := hp
      subst e2
      have hq_25 := hp
      rcases rr_23 with _ | q_26
      · refine W.eq (g2 := F0 m 20 ls (.null :: [])) rfl ?_
        refine lv_astoreN (lv' := [(4, .null), (1, .int (i1_2)), (2, .int (i2_3)), (3, .int (i3_4)), (0, .ref x)]) X.1 X.2.1 dX5_thinnest_20 hl (by decide) rfl (fun ls hl => ?_)
        refine lv_aloadN X.1 X.2.1 dX5_thinnest_22 (lv_at hl 0 rfl) ?_
        refine lv_ifnullN (tgt := 54) X.1 X.2.1 dX5_thinnest_24 (by decide) ?_
        obtain ⟨x_27, ex_27⟩ : ∃ y : Int32, y = i3_4 + 1 := ⟨_, rfl⟩
        have z_28 : x_27.toInt = i3_4_z + 1 := z_add ex_27 hz_i3_4 ti_1 (by omega) (by omega)
        refine lv_iinc (v := x_27) (lv' := [(3, .int (x_27)), (4, .null), (1, .int (i1_2)), (2, .int (i2_3)), (0, .ref x)]) X.1 X.2.1 dX5_thinnest_54 hl (k := 3) rfl (by rw [ex_27]; rfl) (by decide) rfl (fun ls hl => ?_)
        refine lv_goto (tgt := 7) X.1 X.2.1 dX5_thinnest_57 (by decide) ?_
        exact ih _ (by omega) _ _ _ (i1_2) (i1_2_z) (i2_3) (i2_3_z) (x_27) (x_27.toInt) rfl hw hz_i1_2 hz_i2_3 rfl (by omega) (lv_sub hl [2, 3, 0, 4] rfl)
      · refine W.eq (g2 := F0 m 20 ls (.ref q_26 :: [])) rfl ?_
        obtain ⟨ha_29, f_30, f_31⟩ := hq_25 _ rfl
        refine lv_astore (lv' := [(4, .ref q_26), (1, .int (i1_2)), (2, .int (i2_3)), (3, .int (i3_4)), (0, .ref x)]) X.1 X.2.1 dX5_thinnest_20 hl (by decide) rfl (fun ls hl => ?_)
        refine lv_aload X.1 X.2.1 dX5_thinnest_22 (lv_at hl 0 rfl) ?_
        refine lv_ifnull X.1 X.2.1 dX5_thinnest_24 ?_
        refine lv_aload X.1 X.2.1 dX5_thinnest_27 (lv_at hl 0 rfl) ?_
        refine lv_aload X.1 X.2.1 dX5_thinnest_29 (lv_at hl 0 rfl) ?_
        obtain ⟨v_32, ev_32⟩ : ∃ v, pI S 4 q_26 = v := ⟨_, rfl⟩
        have rg_34 := And.intro (z_lo v_32) (z_hi v_32)
        have pz_35 : (pI S 4 q_26).toInt = v_32.toInt := by rw [ev_32]
        refine r_getI (g := 4) (x := v_32) X hw ha_29 rfl 4 ev_32 (by decide) rfl inn_X5_thinnest_0 (by decide) (X.2.2.2.1 (.fieldLink RX5 38 "SilkMill$Cocoon" "drawnTo" "I") (by decide +kernel)) rfl (gv_4 _ _) dX5_thinnest_31 ?_
        refine k_i (rm := { frames := 1, cells := 0, slots := 0, locals := 48 }) (av := [.ref q_26, .int (v_32)]) X hw (va_runV (As := [.int (v_32)]) (rest := []) (cfix X) (k_X0_finenessAt l G cy κ S _ q_26 (v_32) (v_32.toInt) hG ha_29 rfl) (cwV 1 X.2.2.2.1 gX5_thinnest_X0_finenessAt rfl rfl rfl (by decide +kernel) ⟨Nat.le_of_ble_eq_true rfl, Nat.le_of_ble_eq_true rfl⟩) (pre_V X hw _ ha_29 rfl (by decide) rfl) rfl rfl hl.1 rfl (lv_room (Nat.le_of_ble_eq_true rfl)) dX5_thinnest_34 ⟨Nat.le_of_ble_eq_true rfl, Nat.le_of_ble_eq_true rfl⟩) 0 0 (Nat.le_of_ble_eq_true rfl) (Nat.le_of_ble_eq_true rfl) (fun rr_36 S_37 H locs hp hw hfr hnw => ?_)
        obtain ⟨e2, hp⟩ := hp
        subst e2
        have rg_38 := And.intro (z_lo rr_36) (z_hi rr_36)
        refine lv_iload_n X.1 X.2.1 dX5_thinnest_37 rfl (lv_at hl 2 rfl) ?_
        refine lv_icmp_ge (tgt := 54) X.1 X.2.1 dX5_thinnest_38 (by decide) (fun c_39 => ?_) (fun c_39 => ?_)
        · have z_b_40 := trivial
          have k_41 : rr_36.toInt ≥ i2_3_z := z_le hz_i2_3 rfl c_39
          obtain ⟨x_42, ex_42⟩ : ∃ y : Int32, y = i3_4 + 1 := ⟨_, rfl⟩
          have z_43 : x_42.toInt = i3_4_z + 1 := z_add ex_42 hz_i3_4 ti_1 (by omega) (by omega)
          refine lv_iinc (v := x_42) (lv' := [(3, .int (x_42)), (4, .ref q_26), (1, .int (i1_2)), (2, .int (i2_3)), (0, .ref x)]) X.1 X.2.1 dX5_thinnest_54 hl (k := 3) rfl (by rw [ex_42]; rfl) (by decide) rfl (fun ls hl => ?_)
          refine lv_goto (tgt := 7) X.1 X.2.1 dX5_thinnest_57 (by decide) ?_
          exact ih _ (by omega) _ _ _ (i1_2) (i1_2_z) (i2_3) (i2_3_z) (x_42) (x_42.toInt) rfl hw hz_i1_2 hz_i2_3 rfl (by omega) (lv_sub hl [2, 3, 0, 4] rfl)
        · have z_b_44 := trivial
          have k_45 : rr_36.toInt < i2_3_z := z_nle hz_i2_3 rfl c_39
          refine lv_aload X.1 X.2.1 dX5_thinnest_41 (lv_at hl 0 rfl) ?_
          refine lv_aload X.1 X.2.1 dX5_thinnest_43 (lv_at hl 0 rfl) ?_
          refine r_getI (g := 4) (x := v_32) X hw ha_29 rfl 4 ev_32 (by decide) rfl inn_X5_thinnest_0 (by decide) (X.2.2.2.1 (.fieldLink RX5 38 "SilkMill$Cocoon" "drawnTo" "I") (by decide +kernel)) rfl (gv_4 _ _) dX5_thinnest_45 ?_
          refine k_i (rm := { frames := 1, cells := 0, slots := 0, locals := 48 }) (av := [.ref q_26, .int (v_32)]) X hw (va_runV (As := [.int (v_32)]) (rest := []) (cfix X) (k_X0_finenessAt l G cy κ S _ q_26 (v_32) (v_32.toInt) hG ha_29 rfl) (cwV 1 X.2.2.2.1 gX5_thinnest_X0_finenessAt rfl rfl rfl (by decide +kernel) ⟨Nat.le_of_ble_eq_true rfl, Nat.le_of_ble_eq_true rfl⟩) (pre_V X hw _ ha_29 rfl (by decide) rfl) rfl rfl hl.1 rfl (lv_room (Nat.le_of_ble_eq_true rfl)) dX5_thinnest_48 ⟨Nat.le_of_ble_eq_true rfl, Nat.le_of_ble_eq_true rfl⟩) 0 0 (Nat.le_of_ble_eq_true rfl) (Nat.le_of_ble_eq_true rfl) (fun rr_46 S_47 H locs hp hw hfr hnw => ?_)
          obtain ⟨e2, hp⟩ := hp
          subst e2
          have rg_48 := And.intro (z_lo rr_46) (z_hi rr_46)
          refine lv_istore_n (lv' := [(2, .int (rr_46)), (4, .ref q_26), (1, .int (i1_2)), (3, .int (i3_4)), (0, .ref x)]) X.1 X.2.1 dX5_thinnest_51 rfl hl (by decide) rfl (fun ls hl => ?_)
          refine lv_iload_n X.1 X.2.1 dX5_thinnest_52 rfl (lv_at hl 3 rfl) ?_
          refine lv_istore_n (lv' := [(1, .int (i3_4)), (2, .int (rr_46)), (4, .ref q_26), (3, .int (i3_4)), (0, .ref x)]) X.1 X.2.1 dX5_thinnest_53 rfl hl (by decide) rfl (fun ls hl => ?_)
          obtain ⟨x_49, ex_49⟩ : ∃ y : Int32, y = i3_4 + 1 := ⟨_, rfl⟩
          have z_50 : x_49.toInt = i3_4_z + 1 := z_add ex_49 hz_i3_4 ti_1 (by omega) (by omega)
          refine lv_iinc (v := x_49) (lv' := [(3, .int (x_49)), (1, .int (i3_4)), (2, .int (rr_46)), (4, .ref q_26), (0, .ref x)]) X.1 X.2.1 dX5_thinnest_54 hl (k := 3) rfl (by rw [ex_49]; rfl) (by decide) rfl (fun ls hl => ?_)
          refine lv_goto (tgt := 7) X.1 X.2.1 dX5_thinnest_57 (by decide) ?_
          exact ih _ (by omega) _ _ _ (i3_4) (i3_4_z) (rr_46) (rr_46.toInt) (x_49) (x_49.toInt) rfl hw hz_i3_4 rfl rfl (by omega) (lv_sub hl [1, 2, 0, 4] rfl)
  exact L_1 _ _ _ _ ((-1)) ((-1)) (2147483647) (2147483647) (0) (0) rfl hw ti_m1 ti_2147483647 ti_0 (by omega) (lv_sub hl [2, 1, 0, 3] rfl)
