set_option maxRecDepth 20000 in
theorem ggX0_silkBetween_X0_finenessAt : GoodIn wsX0_silkBetween wsX0_finenessAt := goodIn_h _ [5, 0, 0, 0, 0, 0, 0, 0, 0, 0, 0, 0, 0] [0, 1, 2, 3, 4, 5, 6, 7, 8, 9, 10, 11, 12] (by decide +kernel) (by decide +kernel)
set_option maxRecDepth 20000 in
theorem gX0_silkBetween_X0_finenessAt : GoodIn wsX0_silkBetween (wsV RX0 50 RX0 yX0_finenessAt wsX0_finenessAt) := goodIn_app (goodIn_of _ (by decide +kernel)) ggX0_silkBetween_X0_finenessAt
theorem dX0_silkBetween_0 : decode cX0_silkBetween 0 = .ok (.iconst 0, 1) := by decide +kernel
theorem dX0_silkBetween_1 : decode cX0_silkBetween 1 = .ok (.istore_n 3, 1) := by decide +kernel
theorem dX0_silkBetween_2 : decode cX0_silkBetween 2 = .ok (.iload_n 1, 1) := by decide +kernel
theorem dX0_silkBetween_3 : decode cX0_silkBetween 3 = .ok (.istore 4, 2) := by decide +kernel
theorem dX0_silkBetween_5 : decode cX0_silkBetween 5 = .ok (.iload 4, 2) := by decide +kernel
theorem dX0_silkBetween_7 : decode cX0_silkBetween 7 = .ok (.iload_n 2, 1) := by decide +kernel
theorem dX0_silkBetween_8 : decode cX0_silkBetween 8 = .ok (.if_icmp .ge 18, 3) := by decide +kernel
theorem dX0_silkBetween_11 : decode cX0_silkBetween 11 = .ok (.iload_n 3, 1) := by decide +kernel
theorem dX0_silkBetween_12 : decode cX0_silkBetween 12 = .ok (.aload_n 0, 1) := by decide +kernel
theorem dX0_silkBetween_13 : decode cX0_silkBetween 13 = .ok (.iload 4, 2) := by decide +kernel
theorem dX0_silkBetween_15 : decode cX0_silkBetween 15 = .ok (.invokevirtual 50, 3) := by decide +kernel
theorem dX0_silkBetween_18 : decode cX0_silkBetween 18 = .ok (.iadd, 1) := by decide +kernel
theorem dX0_silkBetween_19 : decode cX0_silkBetween 19 = .ok (.istore_n 3, 1) := by decide +kernel
theorem dX0_silkBetween_20 : decode cX0_silkBetween 20 = .ok (.iinc 4 1, 3) := by decide +kernel
theorem dX0_silkBetween_23 : decode cX0_silkBetween 23 = .ok (.goto (-18), 3) := by decide +kernel
theorem dX0_silkBetween_26 : decode cX0_silkBetween 26 = .ok (.iload_n 3, 1) := by decide +kernel
theorem dX0_silkBetween_27 : decode cX0_silkBetween 27 = .ok (.ireturn, 1) := by decide +kernel
set_option maxRecDepth 20000 in
theorem ggX0_breaksAnywhere_X0_breaksAt : GoodIn wsX0_breaksAnywhere wsX0_breaksAt := goodIn_h _ [6, 0, 0, 0, 0, 0, 0, 0, 0, 0, 0, 0, 0, 0, 0, 0, 0, 0] [0, 1, 2, 3, 4, 5, 6, 7, 8, 9, 10, 11, 12, 13, 14, 15, 16, 17] (by decide +kernel) (by decide +kernel)
set_option maxRecDepth 20000 in
theorem gX0_breaksAnywhere_X0_breaksAt : GoodIn wsX0_breaksAnywhere (wsV RX0 53 RX0 yX0_breaksAt wsX0_breaksAt) := goodIn_app (goodIn_of _ (by decide +kernel)) ggX0_breaksAnywhere_X0_breaksAt
theorem dX0_breaksAnywhere_0 : decode cX0_breaksAnywhere 0 = .ok (.iconst 0, 1) := by decide +kernel
theorem dX0_breaksAnywhere_1 : decode cX0_breaksAnywhere 1 = .ok (.istore_n 1, 1) := by decide +kernel
theorem dX0_breaksAnywhere_2 : decode cX0_breaksAnywhere 2 = .ok (.iload_n 1, 1) := by decide +kernel
theorem dX0_breaksAnywhere_3 : decode cX0_breaksAnywhere 3 = .ok (.aload_n 0, 1) := by decide +kernel
theorem dX0_breaksAnywhere_4 : decode cX0_breaksAnywhere 4 = .ok (.getfield 40, 3) := by decide +kernel
theorem dX0_breaksAnywhere_7 : decode cX0_breaksAnywhere 7 = .ok (.if_icmp .ge 19, 3) := by decide +kernel
theorem dX0_breaksAnywhere_10 : decode cX0_breaksAnywhere 10 = .ok (.aload_n 0, 1) := by decide +kernel
theorem dX0_breaksAnywhere_11 : decode cX0_breaksAnywhere 11 = .ok (.iload_n 1, 1) := by decide +kernel
theorem dX0_breaksAnywhere_12 : decode cX0_breaksAnywhere 12 = .ok (.invokevirtual 53, 3) := by decide +kernel
theorem dX0_breaksAnywhere_15 : decode cX0_breaksAnywhere 15 = .ok (.ifCond .eq 5, 3) := by decide +kernel
theorem dX0_breaksAnywhere_18 : decode cX0_breaksAnywhere 18 = .ok (.iconst 1, 1) := by decide +kernel
theorem dX0_breaksAnywhere_19 : decode cX0_breaksAnywhere 19 = .ok (.ireturn, 1) := by decide +kernel
theorem dX0_breaksAnywhere_20 : decode cX0_breaksAnywhere 20 = .ok (.iinc 1 1, 3) := by decide +kernel
theorem dX0_breaksAnywhere_23 : decode cX0_breaksAnywhere 23 = .ok (.goto (-21), 3) := by decide +kernel
theorem dX0_breaksAnywhere_26 : decode cX0_breaksAnywhere 26 = .ok (.iconst 0, 1) := by decide +kernel
theorem dX0_breaksAnywhere_27 : decode cX0_breaksAnywhere 27 = .ok (.ireturn, 1) := by decide +kernel
set_option maxRecDepth 20000 in
theorem ggX0_drawOneMetre_X0_breaksAt : GoodIn wsX0_drawOneMetre wsX0_breaksAt := goodIn_h _ [8, 0, 0, 0, 0, 0, 0, 0, 0, 0, 0, 0, 0, 0, 0, 0, 0, 0] [0, 1, 2, 3, 4, 5, 6, 7, 8, 9, 10, 11, 12, 13, 14, 15, 16, 17] (by decide +kernel) (by decide +kernel)
set_option maxRecDepth 20000 in
theorem gX0_drawOneMetre_X0_breaksAt : GoodIn wsX0_drawOneMetre (wsV RX0 53 RX0 yX0_breaksAt wsX0_breaksAt) := goodIn_app (goodIn_of _ (by decide +kernel)) ggX0_drawOneMetre_X0_breaksAt
theorem dX0_drawOneMetre_0 : decode cX0_drawOneMetre 0 = .ok (.aload_n 0, 1) := by decide +kernel
theorem dX0_drawOneMetre_1 : decode cX0_drawOneMetre 1 = .ok (.getfield 57, 3) := by decide +kernel
theorem dX0_drawOneMetre_4 : decode cX0_drawOneMetre 4 = .ok (.istore_n 1, 1) := by decide +kernel
theorem dX0_drawOneMetre_5 : decode cX0_drawOneMetre 5 = .ok (.aload_n 0, 1) := by decide +kernel
theorem dX0_drawOneMetre_6 : decode cX0_drawOneMetre 6 = .ok (.dup, 1) := by decide +kernel
theorem dX0_drawOneMetre_7 : decode cX0_drawOneMetre 7 = .ok (.getfield 57, 3) := by decide +kernel
theorem dX0_drawOneMetre_10 : decode cX0_drawOneMetre 10 = .ok (.iconst 1, 1) := by decide +kernel
theorem dX0_drawOneMetre_11 : decode cX0_drawOneMetre 11 = .ok (.iadd, 1) := by decide +kernel
theorem dX0_drawOneMetre_12 : decode cX0_drawOneMetre 12 = .ok (.putfield 57, 3) := by decide +kernel
theorem dX0_drawOneMetre_15 : decode cX0_drawOneMetre 15 = .ok (.aload_n 0, 1) := by decide +kernel
theorem dX0_drawOneMetre_16 : decode cX0_drawOneMetre 16 = .ok (.getfield 57, 3) := by decide +kernel
theorem dX0_drawOneMetre_19 : decode cX0_drawOneMetre 19 = .ok (.aload_n 0, 1) := by decide +kernel
theorem dX0_drawOneMetre_20 : decode cX0_drawOneMetre 20 = .ok (.getfield 40, 3) := by decide +kernel
theorem dX0_drawOneMetre_23 : decode cX0_drawOneMetre 23 = .ok (.if_icmp .lt 11, 3) := by decide +kernel
theorem dX0_drawOneMetre_26 : decode cX0_drawOneMetre 26 = .ok (.aload_n 0, 1) := by decide +kernel
theorem dX0_drawOneMetre_27 : decode cX0_drawOneMetre 27 = .ok (.iconst 4, 1) := by decide +kernel
theorem dX0_drawOneMetre_28 : decode cX0_drawOneMetre 28 = .ok (.putfield 9, 3) := by decide +kernel
theorem dX0_drawOneMetre_31 : decode cX0_drawOneMetre 31 = .ok (.goto 16, 3) := by decide +kernel
theorem dX0_drawOneMetre_34 : decode cX0_drawOneMetre 34 = .ok (.aload_n 0, 1) := by decide +kernel
theorem dX0_drawOneMetre_35 : decode cX0_drawOneMetre 35 = .ok (.iload_n 1, 1) := by decide +kernel
theorem dX0_drawOneMetre_36 : decode cX0_drawOneMetre 36 = .ok (.invokevirtual 53, 3) := by decide +kernel
theorem dX0_drawOneMetre_39 : decode cX0_drawOneMetre 39 = .ok (.ifCond .eq 8, 3) := by decide +kernel
theorem dX0_drawOneMetre_42 : decode cX0_drawOneMetre 42 = .ok (.aload_n 0, 1) := by decide +kernel
theorem dX0_drawOneMetre_43 : decode cX0_drawOneMetre 43 = .ok (.iconst 3, 1) := by decide +kernel
theorem dX0_drawOneMetre_44 : decode cX0_drawOneMetre 44 = .ok (.putfield 9, 3) := by decide +kernel
theorem dX0_drawOneMetre_47 : decode cX0_drawOneMetre 47 = .ok (.return_, 1) := by decide +kernel
set_option maxRecDepth 20000 in
theorem ggX0_breaksAt_X11_next : GoodIn wsX0_breaksAt wsX11_next := goodIn_h _ [6, 0] [0, 1] (by decide +kernel) (by decide +kernel)
set_option maxRecDepth 20000 in
theorem gX0_breaksAt_X11_next_n30 : GoodIn wsX0_breaksAt (wsX11_next) := ggX0_breaksAt_X11_next
theorem dX0_breaksAt_0 : decode cX0_breaksAt 0 = .ok (.aload_n 0, 1) := by decide +kernel
theorem dX0_breaksAt_1 : decode cX0_breaksAt 1 = .ok (.getfield 24, 3) := by decide +kernel
theorem dX0_breaksAt_4 : decode cX0_breaksAt 4 = .ok (.sipush 131, 3) := by decide +kernel
theorem dX0_breaksAt_7 : decode cX0_breaksAt 7 = .ok (.aload_n 0, 1) := by decide +kernel
theorem dX0_breaksAt_8 : decode cX0_breaksAt 8 = .ok (.getfield 21, 3) := by decide +kernel
theorem dX0_breaksAt_11 : decode cX0_breaksAt 11 = .ok (.imul, 1) := by decide +kernel
theorem dX0_breaksAt_12 : decode cX0_breaksAt 12 = .ok (.iadd, 1) := by decide +kernel
theorem dX0_breaksAt_13 : decode cX0_breaksAt 13 = .ok (.bipush 17, 2) := by decide +kernel
theorem dX0_breaksAt_15 : decode cX0_breaksAt 15 = .ok (.iload_n 1, 1) := by decide +kernel
theorem dX0_breaksAt_16 : decode cX0_breaksAt 16 = .ok (.imul, 1) := by decide +kernel
theorem dX0_breaksAt_17 : decode cX0_breaksAt 17 = .ok (.iadd, 1) := by decide +kernel
theorem dX0_breaksAt_18 : decode cX0_breaksAt 18 = .ok (.invokestatic 30, 3) := by decide +kernel
theorem dX0_breaksAt_21 : decode cX0_breaksAt 21 = .ok (.bipush 16, 2) := by decide +kernel
theorem dX0_breaksAt_23 : decode cX0_breaksAt 23 = .ok (.iushr, 1) := by decide +kernel
theorem dX0_breaksAt_24 : decode cX0_breaksAt 24 = .ok (.sipush 1000, 3) := by decide +kernel
theorem dX0_breaksAt_27 : decode cX0_breaksAt 27 = .ok (.irem, 1) := by decide +kernel
theorem dX0_breaksAt_28 : decode cX0_breaksAt 28 = .ok (.aload_n 0, 1) := by decide +kernel
theorem dX0_breaksAt_29 : decode cX0_breaksAt 29 = .ok (.getfield 27, 3) := by decide +kernel
theorem dX0_breaksAt_32 : decode cX0_breaksAt 32 = .ok (.if_icmp .ge 7, 3) := by decide +kernel
theorem dX0_breaksAt_35 : decode cX0_breaksAt 35 = .ok (.iconst 1, 1) := by decide +kernel
theorem dX0_breaksAt_36 : decode cX0_breaksAt 36 = .ok (.goto 4, 3) := by decide +kernel
theorem dX0_breaksAt_39 : decode cX0_breaksAt 39 = .ok (.iconst 0, 1) := by decide +kernel
theorem dX0_breaksAt_40 : decode cX0_breaksAt 40 = .ok (.ireturn, 1) := by decide +kernel
set_option maxRecDepth 20000 in
theorem ggX5_at_X5_cellOf : GoodIn wsX5_at wsX5_cellOf := goodIn_h _ [2, 4, 0, 0, 0, 0] [1, 2, 0, 3, 4, 5] (by decide +kernel) (by decide +kernel)
set_option maxRecDepth 20000 in
theorem gX5_at_X5_cellOf : GoodIn wsX5_at (wsV RX5 27 RX5 yX5_cellOf wsX5_cellOf) := goodIn_app (goodIn_of _ (by decide +kernel)) ggX5_at_X5_cellOf
theorem dX5_at_0 : decode cX5_at 0 = .ok (.iload_n 1, 1) := by decide +kernel
theorem dX5_at_1 : decode cX5_at 1 = .ok (.ifCond .lt 11, 3) := by decide +kernel
theorem dX5_at_4 : decode cX5_at 4 = .ok (.iload_n 1, 1) := by decide +kernel
theorem dX5_at_5 : decode cX5_at 5 = .ok (.aload_n 0, 1) := by decide +kernel
theorem dX5_at_6 : decode cX5_at 6 = .ok (.getfield 23, 3) := by decide +kernel
theorem dX5_at_9 : decode cX5_at 9 = .ok (.if_icmp .lt 7, 3) := by decide +kernel
theorem dX5_at_12 : decode cX5_at 12 = .ok (.aconst_null, 1) := by decide +kernel
theorem dX5_at_13 : decode cX5_at 13 = .ok (.goto 13, 3) := by decide +kernel
theorem dX5_at_16 : decode cX5_at 16 = .ok (.aload_n 0, 1) := by decide +kernel
theorem dX5_at_17 : decode cX5_at 17 = .ok (.getfield 17, 3) := by decide +kernel
theorem dX5_at_20 : decode cX5_at 20 = .ok (.aload_n 0, 1) := by decide +kernel
theorem dX5_at_21 : decode cX5_at 21 = .ok (.iload_n 1, 1) := by decide +kernel
theorem dX5_at_22 : decode cX5_at 22 = .ok (.invokevirtual 27, 3) := by decide +kernel
theorem dX5_at_25 : decode cX5_at 25 = .ok (.aaload, 1) := by decide +kernel
theorem dX5_at_26 : decode cX5_at 26 = .ok (.areturn, 1) := by decide +kernel
set_option maxRecDepth 20000 in
theorem ggX5_addLast_X5_cellOf : GoodIn wsX5_addLast wsX5_cellOf := goodIn_h _ [2, 4, 0, 0, 0, 0] [1, 2, 0, 3, 4, 5] (by decide +kernel) (by decide +kernel)
set_option maxRecDepth 20000 in
theorem gX5_addLast_X5_cellOf : GoodIn wsX5_addLast (wsV RX5 27 RX5 yX5_cellOf wsX5_cellOf) := goodIn_app (goodIn_of _ (by decide +kernel)) ggX5_addLast_X5_cellOf
theorem dX5_addLast_0 : decode cX5_addLast 0 = .ok (.aload_n 0, 1) := by decide +kernel
theorem dX5_addLast_1 : decode cX5_addLast 1 = .ok (.getfield 23, 3) := by decide +kernel
theorem dX5_addLast_4 : decode cX5_addLast 4 = .ok (.aload_n 0, 1) := by decide +kernel
theorem dX5_addLast_5 : decode cX5_addLast 5 = .ok (.getfield 17, 3) := by decide +kernel
theorem dX5_addLast_8 : decode cX5_addLast 8 = .ok (.arraylength, 1) := by decide +kernel
theorem dX5_addLast_9 : decode cX5_addLast 9 = .ok (.if_icmp .ge 27, 3) := by decide +kernel
theorem dX5_addLast_12 : decode cX5_addLast 12 = .ok (.aload_n 0, 1) := by decide +kernel
theorem dX5_addLast_13 : decode cX5_addLast 13 = .ok (.getfield 17, 3) := by decide +kernel
theorem dX5_addLast_16 : decode cX5_addLast 16 = .ok (.aload_n 0, 1) := by decide +kernel
theorem dX5_addLast_17 : decode cX5_addLast 17 = .ok (.aload_n 0, 1) := by decide +kernel
theorem dX5_addLast_18 : decode cX5_addLast 18 = .ok (.getfield 23, 3) := by decide +kernel
theorem dX5_addLast_21 : decode cX5_addLast 21 = .ok (.invokevirtual 27, 3) := by decide +kernel
theorem dX5_addLast_24 : decode cX5_addLast 24 = .ok (.aload_n 1, 1) := by decide +kernel
theorem dX5_addLast_25 : decode cX5_addLast 25 = .ok (.aastore, 1) := by decide +kernel
theorem dX5_addLast_26 : decode cX5_addLast 26 = .ok (.aload_n 0, 1) := by decide +kernel
theorem dX5_addLast_27 : decode cX5_addLast 27 = .ok (.dup, 1) := by decide +kernel
theorem dX5_addLast_28 : decode cX5_addLast 28 = .ok (.getfield 23, 3) := by decide +kernel
theorem dX5_addLast_31 : decode cX5_addLast 31 = .ok (.iconst 1, 1) := by decide +kernel
theorem dX5_addLast_32 : decode cX5_addLast 32 = .ok (.iadd, 1) := by decide +kernel
theorem dX5_addLast_33 : decode cX5_addLast 33 = .ok (.putfield 23, 3) := by decide +kernel
theorem dX5_addLast_36 : decode cX5_addLast 36 = .ok (.return_, 1) := by decide +kernel
theorem dX5_addFirst_0 : decode cX5_addFirst 0 = .ok (.aload_n 0, 1) := by decide +kernel
theorem dX5_addFirst_1 : decode cX5_addFirst 1 = .ok (.getfield 23, 3) := by decide +kernel
theorem dX5_addFirst_4 : decode cX5_addFirst 4 = .ok (.aload_n 0, 1) := by decide +kernel
theorem dX5_addFirst_5 : decode cX5_addFirst 5 = .ok (.getfield 17, 3) := by decide +kernel
theorem dX5_addFirst_8 : decode cX5_addFirst 8 = .ok (.arraylength, 1) := by decide +kernel
theorem dX5_addFirst_9 : decode cX5_addFirst 9 = .ok (.if_icmp .ge 50, 3) := by decide +kernel
theorem dX5_addFirst_12 : decode cX5_addFirst 12 = .ok (.aload_n 0, 1) := by decide +kernel
theorem dX5_addFirst_13 : decode cX5_addFirst 13 = .ok (.aload_n 0, 1) := by decide +kernel
theorem dX5_addFirst_14 : decode cX5_addFirst 14 = .ok (.getfield 31, 3) := by decide +kernel
theorem dX5_addFirst_17 : decode cX5_addFirst 17 = .ok (.ifCond .ne 13, 3) := by decide +kernel
theorem dX5_addFirst_20 : decode cX5_addFirst 20 = .ok (.aload_n 0, 1) := by decide +kernel
theorem dX5_addFirst_21 : decode cX5_addFirst 21 = .ok (.getfield 17, 3) := by decide +kernel
theorem dX5_addFirst_24 : decode cX5_addFirst 24 = .ok (.arraylength, 1) := by decide +kernel
theorem dX5_addFirst_25 : decode cX5_addFirst 25 = .ok (.iconst 1, 1) := by decide +kernel
theorem dX5_addFirst_26 : decode cX5_addFirst 26 = .ok (.isub, 1) := by decide +kernel
theorem dX5_addFirst_27 : decode cX5_addFirst 27 = .ok (.goto 9, 3) := by decide +kernel
theorem dX5_addFirst_30 : decode cX5_addFirst 30 = .ok (.aload_n 0, 1) := by decide +kernel
theorem dX5_addFirst_31 : decode cX5_addFirst 31 = .ok (.getfield 31, 3) := by decide +kernel
theorem dX5_addFirst_34 : decode cX5_addFirst 34 = .ok (.iconst 1, 1) := by decide +kernel
theorem dX5_addFirst_35 : decode cX5_addFirst 35 = .ok (.isub, 1) := by decide +kernel
theorem dX5_addFirst_36 : decode cX5_addFirst 36 = .ok (.putfield 31, 3) := by decide +kernel
theorem dX5_addFirst_39 : decode cX5_addFirst 39 = .ok (.aload_n 0, 1) := by decide +kernel
theorem dX5_addFirst_40 : decode cX5_addFirst 40 = .ok (.getfield 17, 3) := by decide +kernel
theorem dX5_addFirst_43 : decode cX5_addFirst 43 = .ok (.aload_n 0, 1) := by decide +kernel
theorem dX5_addFirst_44 : decode cX5_addFirst 44 = .ok (.getfield 31, 3) := by decide +kernel
theorem dX5_addFirst_47 : decode cX5_addFirst 47 = .ok (.aload_n 1, 1) := by decide +kernel
theorem dX5_addFirst_48 : decode cX5_addFirst 48 = .ok (.aastore, 1) := by decide +kernel
theorem dX5_addFirst_49 : decode cX5_addFirst 49 = .ok (.aload_n 0, 1) := by decide +kernel
theorem dX5_addFirst_50 : decode cX5_addFirst 50 = .ok (.dup, 1) := by decide +kernel
theorem dX5_addFirst_51 : decode cX5_addFirst 51 = .ok (.getfield 23, 3) := by decide +kernel
theorem dX5_addFirst_54 : decode cX5_addFirst 54 = .ok (.iconst 1, 1) := by decide +kernel
theorem dX5_addFirst_55 : decode cX5_addFirst 55 = .ok (.iadd, 1) := by decide +kernel
theorem dX5_addFirst_56 : decode cX5_addFirst 56 = .ok (.putfield 23, 3) := by decide +kernel
theorem dX5_addFirst_59 : decode cX5_addFirst 59 = .ok (.return_, 1) := by decide +kernel
set_option maxRecDepth 20000 in
theorem ggX5_removeFirst_X5_cellOf : GoodIn wsX5_removeFirst wsX5_cellOf := goodIn_h _ [2, 0, 4, 0, 0, 0] [2, 1, 0, 3, 4, 5] (by decide +kernel) (by decide +kernel)
set_option maxRecDepth 20000 in
theorem gX5_removeFirst_X5_cellOf : GoodIn wsX5_removeFirst (wsV RX5 27 RX5 yX5_cellOf wsX5_cellOf) := goodIn_app (goodIn_of _ (by decide +kernel)) ggX5_removeFirst_X5_cellOf
theorem dX5_removeFirst_0 : decode cX5_removeFirst 0 = .ok (.aload_n 0, 1) := by decide +kernel
theorem dX5_removeFirst_1 : decode cX5_removeFirst 1 = .ok (.getfield 23, 3) := by decide +kernel
theorem dX5_removeFirst_4 : decode cX5_removeFirst 4 = .ok (.ifCond .ne 5, 3) := by decide +kernel
theorem dX5_removeFirst_7 : decode cX5_removeFirst 7 = .ok (.aconst_null, 1) := by decide +kernel
theorem dX5_removeFirst_8 : decode cX5_removeFirst 8 = .ok (.areturn, 1) := by decide +kernel
theorem dX5_removeFirst_9 : decode cX5_removeFirst 9 = .ok (.aload_n 0, 1) := by decide +kernel
theorem dX5_removeFirst_10 : decode cX5_removeFirst 10 = .ok (.getfield 17, 3) := by decide +kernel
theorem dX5_removeFirst_13 : decode cX5_removeFirst 13 = .ok (.aload_n 0, 1) := by decide +kernel
theorem dX5_removeFirst_14 : decode cX5_removeFirst 14 = .ok (.getfield 31, 3) := by decide +kernel
theorem dX5_removeFirst_17 : decode cX5_removeFirst 17 = .ok (.aaload, 1) := by decide +kernel
theorem dX5_removeFirst_18 : decode cX5_removeFirst 18 = .ok (.astore_n 1, 1) := by decide +kernel
theorem dX5_removeFirst_19 : decode cX5_removeFirst 19 = .ok (.aload_n 0, 1) := by decide +kernel
theorem dX5_removeFirst_20 : decode cX5_removeFirst 20 = .ok (.aload_n 0, 1) := by decide +kernel
theorem dX5_removeFirst_21 : decode cX5_removeFirst 21 = .ok (.iconst 1, 1) := by decide +kernel
theorem dX5_removeFirst_22 : decode cX5_removeFirst 22 = .ok (.invokevirtual 27, 3) := by decide +kernel
theorem dX5_removeFirst_25 : decode cX5_removeFirst 25 = .ok (.putfield 31, 3) := by decide +kernel
theorem dX5_removeFirst_28 : decode cX5_removeFirst 28 = .ok (.aload_n 0, 1) := by decide +kernel
theorem dX5_removeFirst_29 : decode cX5_removeFirst 29 = .ok (.dup, 1) := by decide +kernel
theorem dX5_removeFirst_30 : decode cX5_removeFirst 30 = .ok (.getfield 23, 3) := by decide +kernel
theorem dX5_removeFirst_33 : decode cX5_removeFirst 33 = .ok (.iconst 1, 1) := by decide +kernel
theorem dX5_removeFirst_34 : decode cX5_removeFirst 34 = .ok (.isub, 1) := by decide +kernel
theorem dX5_removeFirst_35 : decode cX5_removeFirst 35 = .ok (.putfield 23, 3) := by decide +kernel
theorem dX5_removeFirst_38 : decode cX5_removeFirst 38 = .ok (.aload_n 1, 1) := by decide +kernel
theorem dX5_removeFirst_39 : decode cX5_removeFirst 39 = .ok (.areturn, 1) := by decide +kernel
set_option maxRecDepth 20000 in
theorem ggX5_removeAt_X5_at : GoodIn wsX5_removeAt wsX5_at := goodIn_h _ [1, 0, 3, 0, 0, 0, 0, 0, 0, 0, 0, 0] [3, 0, 1, 4, 5, 6, 2, 7, 8, 9, 10, 11] (by decide +kernel) (by decide +kernel)
set_option maxRecDepth 20000 in
theorem gX5_removeAt_X5_at : GoodIn wsX5_removeAt (wsV RX5 34 RX5 yX5_at wsX5_at) := goodIn_app (goodIn_of _ (by decide +kernel)) ggX5_removeAt_X5_at
set_option maxRecDepth 20000 in
theorem ggX5_removeAt_X5_cellOf : GoodIn wsX5_removeAt wsX5_cellOf := goodIn_h _ [2, 8, 0, 0, 0, 0] [1, 2, 0, 3, 4, 5] (by decide +kernel) (by decide +kernel)
set_option maxRecDepth 20000 in
theorem gX5_removeAt_X5_cellOf : GoodIn wsX5_removeAt (wsV RX5 27 RX5 yX5_cellOf wsX5_cellOf) := goodIn_app (goodIn_of _ (by decide +kernel)) ggX5_removeAt_X5_cellOf
theorem dX5_removeAt_0 : decode cX5_removeAt 0 = .ok (.aload_n 0, 1) := by decide +kernel
theorem dX5_removeAt_1 : decode cX5_removeAt 1 = .ok (.iload_n 1, 1) := by decide +kernel
theorem dX5_removeAt_2 : decode cX5_removeAt 2 = .ok (.invokevirtual 34, 3) := by decide +kernel
theorem dX5_removeAt_5 : decode cX5_removeAt 5 = .ok (.astore_n 2, 1) := by decide +kernel
theorem dX5_removeAt_6 : decode cX5_removeAt 6 = .ok (.aload_n 2, 1) := by decide +kernel
theorem dX5_removeAt_7 : decode cX5_removeAt 7 = .ok (.ifnonnull 5, 3) := by decide +kernel
theorem dX5_removeAt_10 : decode cX5_removeAt 10 = .ok (.aconst_null, 1) := by decide +kernel
theorem dX5_removeAt_11 : decode cX5_removeAt 11 = .ok (.areturn, 1) := by decide +kernel
theorem dX5_removeAt_12 : decode cX5_removeAt 12 = .ok (.iload_n 1, 1) := by decide +kernel
theorem dX5_removeAt_13 : decode cX5_removeAt 13 = .ok (.istore_n 3, 1) := by decide +kernel
theorem dX5_removeAt_14 : decode cX5_removeAt 14 = .ok (.iload_n 3, 1) := by decide +kernel
theorem dX5_removeAt_15 : decode cX5_removeAt 15 = .ok (.aload_n 0, 1) := by decide +kernel
theorem dX5_removeAt_16 : decode cX5_removeAt 16 = .ok (.getfield 23, 3) := by decide +kernel
theorem dX5_removeAt_19 : decode cX5_removeAt 19 = .ok (.iconst 1, 1) := by decide +kernel
theorem dX5_removeAt_20 : decode cX5_removeAt 20 = .ok (.isub, 1) := by decide +kernel
theorem dX5_removeAt_21 : decode cX5_removeAt 21 = .ok (.if_icmp .ge 31, 3) := by decide +kernel
theorem dX5_removeAt_24 : decode cX5_removeAt 24 = .ok (.aload_n 0, 1) := by decide +kernel
theorem dX5_removeAt_25 : decode cX5_removeAt 25 = .ok (.getfield 17, 3) := by decide +kernel
theorem dX5_removeAt_28 : decode cX5_removeAt 28 = .ok (.aload_n 0, 1) := by decide +kernel
theorem dX5_removeAt_29 : decode cX5_removeAt 29 = .ok (.iload_n 3, 1) := by decide +kernel
theorem dX5_removeAt_30 : decode cX5_removeAt 30 = .ok (.invokevirtual 27, 3) := by decide +kernel
theorem dX5_removeAt_33 : decode cX5_removeAt 33 = .ok (.aload_n 0, 1) := by decide +kernel
theorem dX5_removeAt_34 : decode cX5_removeAt 34 = .ok (.getfield 17, 3) := by decide +kernel
theorem dX5_removeAt_37 : decode cX5_removeAt 37 = .ok (.aload_n 0, 1) := by decide +kernel
theorem dX5_removeAt_38 : decode cX5_removeAt 38 = .ok (.iload_n 3, 1) := by decide +kernel
theorem dX5_removeAt_39 : decode cX5_removeAt 39 = .ok (.iconst 1, 1) := by decide +kernel
theorem dX5_removeAt_40 : decode cX5_removeAt 40 = .ok (.iadd, 1) := by decide +kernel
theorem dX5_removeAt_41 : decode cX5_removeAt 41 = .ok (.invokevirtual 27, 3) := by decide +kernel
theorem dX5_removeAt_44 : decode cX5_removeAt 44 = .ok (.aaload, 1) := by decide +kernel
theorem dX5_removeAt_45 : decode cX5_removeAt 45 = .ok (.aastore, 1) := by decide +kernel
theorem dX5_removeAt_46 : decode cX5_removeAt 46 = .ok (.iinc 3 1, 3) := by decide +kernel
theorem dX5_removeAt_49 : decode cX5_removeAt 49 = .ok (.goto (-35), 3) := by decide +kernel
theorem dX5_removeAt_52 : decode cX5_removeAt 52 = .ok (.aload_n 0, 1) := by decide +kernel
theorem dX5_removeAt_53 : decode cX5_removeAt 53 = .ok (.dup, 1) := by decide +kernel
theorem dX5_removeAt_54 : decode cX5_removeAt 54 = .ok (.getfield 23, 3) := by decide +kernel
theorem dX5_removeAt_57 : decode cX5_removeAt 57 = .ok (.iconst 1, 1) := by decide +kernel
theorem dX5_removeAt_58 : decode cX5_removeAt 58 = .ok (.isub, 1) := by decide +kernel
theorem dX5_removeAt_59 : decode cX5_removeAt 59 = .ok (.putfield 23, 3) := by decide +kernel
theorem dX5_removeAt_62 : decode cX5_removeAt 62 = .ok (.aload_n 2, 1) := by decide +kernel
theorem dX5_removeAt_63 : decode cX5_removeAt 63 = .ok (.areturn, 1) := by decide +kernel
set_option maxRecDepth 20000 in
theorem ggX5_sumOfFineness_X5_at : GoodIn wsX5_sumOfFineness wsX5_at := goodIn_h _ [1, 4, 0, 0, 0, 0, 0, 0, 0, 7, 0, 0] [2, 0, 3, 4, 5, 6, 1, 7, 8, 9, 10, 11] (by decide +kernel) (by decide +kernel)
set_option maxRecDepth 20000 in
theorem gX5_sumOfFineness_X5_at : GoodIn wsX5_sumOfFineness (wsV RX5 34 RX5 yX5_at wsX5_at) := goodIn_app (goodIn_of _ (by decide +kernel)) ggX5_sumOfFineness_X5_at
set_option maxRecDepth 20000 in
theorem ggX5_sumOfFineness_X0_finenessAt : GoodIn wsX5_sumOfFineness wsX0_finenessAt := goodIn_h _ [18, 0, 0, 3, 0, 0, 0, 0, 0, 0, 0, 0, 0] [0, 1, 2, 3, 4, 5, 6, 7, 8, 9, 10, 11, 12] (by decide +kernel) (by decide +kernel)
set_option maxRecDepth 20000 in
theorem gX5_sumOfFineness_X0_finenessAt : GoodIn wsX5_sumOfFineness (wsV RX5 41 RX0 yX0_finenessAt wsX0_finenessAt) := goodIn_app (goodIn_of _ (by decide +kernel)) ggX5_sumOfFineness_X0_finenessAt
theorem dX5_sumOfFineness_0 : decode cX5_sumOfFineness 0 = .ok (.iconst 0, 1) := by decide +kernel
theorem dX5_sumOfFineness_1 : decode cX5_sumOfFineness 1 = .ok (.istore_n 1, 1) := by decide +kernel
theorem dX5_sumOfFineness_2 : decode cX5_sumOfFineness 2 = .ok (.iconst 0, 1) := by decide +kernel
theorem dX5_sumOfFineness_3 : decode cX5_sumOfFineness 3 = .ok (.istore_n 2, 1) := by decide +kernel
theorem dX5_sumOfFineness_4 : decode cX5_sumOfFineness 4 = .ok (.iload_n 2, 1) := by decide +kernel
theorem dX5_sumOfFineness_5 : decode cX5_sumOfFineness 5 = .ok (.aload_n 0, 1) := by decide +kernel
theorem dX5_sumOfFineness_6 : decode cX5_sumOfFineness 6 = .ok (.getfield 23, 3) := by decide +kernel
theorem dX5_sumOfFineness_9 : decode cX5_sumOfFineness 9 = .ok (.if_icmp .ge 34, 3) := by decide +kernel
theorem dX5_sumOfFineness_12 : decode cX5_sumOfFineness 12 = .ok (.aload_n 0, 1) := by decide +kernel
theorem dX5_sumOfFineness_13 : decode cX5_sumOfFineness 13 = .ok (.iload_n 2, 1) := by decide +kernel
theorem dX5_sumOfFineness_14 : decode cX5_sumOfFineness 14 = .ok (.invokevirtual 34, 3) := by decide +kernel
theorem dX5_sumOfFineness_17 : decode cX5_sumOfFineness 17 = .ok (.astore_n 3, 1) := by decide +kernel
theorem dX5_sumOfFineness_18 : decode cX5_sumOfFineness 18 = .ok (.iload_n 1, 1) := by decide +kernel
theorem dX5_sumOfFineness_19 : decode cX5_sumOfFineness 19 = .ok (.aload_n 3, 1) := by decide +kernel
theorem dX5_sumOfFineness_20 : decode cX5_sumOfFineness 20 = .ok (.ifnonnull 7, 3) := by decide +kernel
theorem dX5_sumOfFineness_23 : decode cX5_sumOfFineness 23 = .ok (.iconst 0, 1) := by decide +kernel
theorem dX5_sumOfFineness_24 : decode cX5_sumOfFineness 24 = .ok (.goto 11, 3) := by decide +kernel
theorem dX5_sumOfFineness_27 : decode cX5_sumOfFineness 27 = .ok (.aload_n 3, 1) := by decide +kernel
theorem dX5_sumOfFineness_28 : decode cX5_sumOfFineness 28 = .ok (.aload_n 3, 1) := by decide +kernel
theorem dX5_sumOfFineness_29 : decode cX5_sumOfFineness 29 = .ok (.getfield 38, 3) := by decide +kernel
theorem dX5_sumOfFineness_32 : decode cX5_sumOfFineness 32 = .ok (.invokevirtual 41, 3) := by decide +kernel
theorem dX5_sumOfFineness_35 : decode cX5_sumOfFineness 35 = .ok (.iadd, 1) := by decide +kernel
theorem dX5_sumOfFineness_36 : decode cX5_sumOfFineness 36 = .ok (.istore_n 1, 1) := by decide +kernel
theorem dX5_sumOfFineness_37 : decode cX5_sumOfFineness 37 = .ok (.iinc 2 1, 3) := by decide +kernel
theorem dX5_sumOfFineness_40 : decode cX5_sumOfFineness 40 = .ok (.goto (-36), 3) := by decide +kernel
theorem dX5_sumOfFineness_43 : decode cX5_sumOfFineness 43 = .ok (.iload_n 1, 1) := by decide +kernel
theorem dX5_sumOfFineness_44 : decode cX5_sumOfFineness 44 = .ok (.ireturn, 1) := by decide +kernel
set_option maxRecDepth 20000 in
theorem ggX5_thinnest_X5_at : GoodIn wsX5_thinnest wsX5_at := goodIn_h _ [2, 4, 0, 0, 0, 0, 0, 0, 0, 7, 0, 0] [2, 0, 3, 4, 5, 6, 1, 7, 8, 9, 10, 11] (by decide +kernel) (by decide +kernel)
set_option maxRecDepth 20000 in
theorem gX5_thinnest_X5_at : GoodIn wsX5_thinnest (wsV RX5 34 RX5 yX5_at wsX5_at) := goodIn_app (goodIn_of _ (by decide +kernel)) ggX5_thinnest_X5_at
set_option maxRecDepth 20000 in
theorem ggX5_thinnest_X0_finenessAt : GoodIn wsX5_thinnest wsX0_finenessAt := goodIn_h _ [19, 0, 0, 3, 0, 0, 0, 0, 0, 0, 0, 0, 0] [0, 1, 2, 3, 4, 5, 6, 7, 8, 9, 10, 11, 12] (by decide +kernel) (by decide +kernel)
set_option maxRecDepth 20000 in
theorem gX5_thinnest_X0_finenessAt : GoodIn wsX5_thinnest (wsV RX5 41 RX0 yX0_finenessAt wsX0_finenessAt) := goodIn_app (goodIn_of _ (by decide +kernel)) ggX5_thinnest_X0_finenessAt
theorem dX5_thinnest_0 : decode cX5_thinnest 0 = .ok (.iconst (-1), 1) := by decide +kernel
theorem dX5_thinnest_1 : decode cX5_thinnest 1 = .ok (.istore_n 1, 1) := by decide +kernel
theorem dX5_thinnest_2 : decode cX5_thinnest 2 = .ok (.ldc 46, 2) := by decide +kernel
theorem dX5_thinnest_4 : decode cX5_thinnest 4 = .ok (.istore_n 2, 1) := by decide +kernel
theorem dX5_thinnest_5 : decode cX5_thinnest 5 = .ok (.iconst 0, 1) := by decide +kernel
theorem dX5_thinnest_6 : decode cX5_thinnest 6 = .ok (.istore_n 3, 1) := by decide +kernel
theorem dX5_thinnest_7 : decode cX5_thinnest 7 = .ok (.iload_n 3, 1) := by decide +kernel
theorem dX5_thinnest_8 : decode cX5_thinnest 8 = .ok (.aload_n 0, 1) := by decide +kernel
theorem dX5_thinnest_9 : decode cX5_thinnest 9 = .ok (.getfield 23, 3) := by decide +kernel
theorem dX5_thinnest_12 : decode cX5_thinnest 12 = .ok (.if_icmp .ge 48, 3) := by decide +kernel
theorem dX5_thinnest_15 : decode cX5_thinnest 15 = .ok (.aload_n 0, 1) := by decide +kernel
theorem dX5_thinnest_16 : decode cX5_thinnest 16 = .ok (.iload_n 3, 1) := by decide +kernel
theorem dX5_thinnest_17 : decode cX5_thinnest 17 = .ok (.invokevirtual 34, 3) := by decide +kernel
theorem dX5_thinnest_20 : decode cX5_thinnest 20 = .ok (.astore 4, 2) := by decide +kernel
theorem dX5_thinnest_22 : decode cX5_thinnest 22 = .ok (.aload 4, 2) := by decide +kernel
theorem dX5_thinnest_24 : decode cX5_thinnest 24 = .ok (.ifnull 30, 3) := by decide +kernel
theorem dX5_thinnest_27 : decode cX5_thinnest 27 = .ok (.aload 4, 2) := by decide +kernel
theorem dX5_thinnest_29 : decode cX5_thinnest 29 = .ok (.aload 4, 2) := by decide +kernel
theorem dX5_thinnest_31 : decode cX5_thinnest 31 = .ok (.getfield 38, 3) := by decide +kernel
theorem dX5_thinnest_34 : decode cX5_thinnest 34 = .ok (.invokevirtual 41, 3) := by decide +kernel
theorem dX5_thinnest_37 : decode cX5_thinnest 37 = .ok (.iload_n 2, 1) := by decide +kernel
theorem dX5_thinnest_38 : decode cX5_thinnest 38 = .ok (.if_icmp .ge 16, 3) := by decide +kernel
theorem dX5_thinnest_41 : decode cX5_thinnest 41 = .ok (.aload 4, 2) := by decide +kernel
theorem dX5_thinnest_43 : decode cX5_thinnest 43 = .ok (.aload 4, 2) := by decide +kernel
theorem dX5_thinnest_45 : decode cX5_thinnest 45 = .ok (.getfield 38, 3) := by decide +kernel
theorem dX5_thinnest_48 : decode cX5_thinnest 48 = .ok (.invokevirtual 41, 3) := by decide +kernel
theorem dX5_thinnest_51 : decode cX5_thinnest 51 = .ok (.istore_n 2, 1) := by decide +kernel
theorem dX5_thinnest_52 : decode cX5_thinnest 52 = .ok (.iload_n 3, 1) := by decide +kernel
theorem dX5_thinnest_53 : decode cX5_thinnest 53 = .ok (.istore_n 1, 1) := by decide +kernel
theorem dX5_thinnest_54 : decode cX5_thinnest 54 = .ok (.iinc 3 1, 3) := by decide +kernel
theorem dX5_thinnest_57 : decode cX5_thinnest 57 = .ok (.goto (-50), 3) := by decide +kernel
theorem dX5_thinnest_60 : decode cX5_thinnest 60 = .ok (.iload_n 1, 1) := by decide +kernel
theorem dX5_thinnest_61 : decode cX5_thinnest 61 = .ok (.ireturn, 1) := by decide +kernel
theorem dX5_cellOf_0 : decode cX5_cellOf 0 = .ok (.aload_n 0, 1) := by decide +kernel
theorem dX5_cellOf_1 : decode cX5_cellOf 1 = .ok (.getfield 31, 3) := by decide +kernel
theorem dX5_cellOf_4 : decode cX5_cellOf 4 = .ok (.iload_n 1, 1) := by decide +kernel
theorem dX5_cellOf_5 : decode cX5_cellOf 5 = .ok (.iadd, 1) := by decide +kernel
theorem dX5_cellOf_6 : decode cX5_cellOf 6 = .ok (.istore_n 2, 1) := by decide +kernel
theorem dX5_cellOf_7 : decode cX5_cellOf 7 = .ok (.iload_n 2, 1) := by decide +kernel
theorem dX5_cellOf_8 : decode cX5_cellOf 8 = .ok (.aload_n 0, 1) := by decide +kernel
theorem dX5_cellOf_9 : decode cX5_cellOf 9 = .ok (.getfield 17, 3) := by decide +kernel
theorem dX5_cellOf_12 : decode cX5_cellOf 12 = .ok (.arraylength, 1) := by decide +kernel
theorem dX5_cellOf_13 : decode cX5_cellOf 13 = .ok (.if_icmp .ge 7, 3) := by decide +kernel
theorem dX5_cellOf_16 : decode cX5_cellOf 16 = .ok (.iload_n 2, 1) := by decide +kernel
theorem dX5_cellOf_17 : decode cX5_cellOf 17 = .ok (.goto 10, 3) := by decide +kernel
theorem dX5_cellOf_20 : decode cX5_cellOf 20 = .ok (.iload_n 2, 1) := by decide +kernel
theorem dX5_cellOf_21 : decode cX5_cellOf 21 = .ok (.aload_n 0, 1) := by decide +kernel
theorem dX5_cellOf_22 : decode cX5_cellOf 22 = .ok (.getfield 17, 3) := by decide +kernel
theorem dX5_cellOf_25 : decode cX5_cellOf 25 = .ok (.arraylength, 1) := by decide +kernel
theorem dX5_cellOf_26 : decode cX5_cellOf 26 = .ok (.isub, 1) := by decide +kernel
theorem dX5_cellOf_27 : decode cX5_cellOf 27 = .ok (.ireturn, 1) := by decide +kernel
theorem inn_X0_breaksAnywhere_0 : ∀ w ∈ u_ws RX0 TX0 10, w ∈ wsX0_breaksAnywhere := fun w h => List.mem_cons_of_mem _ (List.mem_append_right _ h)
theorem inn_X0_breaksAt_0 : ∀ w ∈ u_ws RX0 TX0 10, w ∈ wsX0_breaksAt := fun w h => List.mem_cons_of_mem _ (List.mem_append_right _ h)
theorem inn_X0_drawOneMetre_0 : ∀ w ∈ u_ws RX0 TX0 10, w ∈ wsX0_drawOneMetre := fun w h => List.mem_cons_of_mem _ (List.mem_append_right _ h)
theorem inn_X5_addFirst_5 : ∀ w ∈ u_ws RX5 TX5 3, w ∈ wsX5_addFirst := fun w h => List.mem_cons_of_mem _ (List.mem_append_right _ h)
theorem inn_X5_addLast_5 : ∀ w ∈ u_ws RX5 TX5 3, w ∈ wsX5_addLast := fun w h => List.mem_cons_of_mem _ (List.mem_append_right _ h)
theorem inn_X5_at_5 : ∀ w ∈ u_ws RX5 TX5 3, w ∈ wsX5_at := fun w h => List.mem_cons_of_mem _ (List.mem_append_right _ h)
theorem inn_X5_cellOf_5 : ∀ w ∈ u_ws RX5 TX5 3, w ∈ wsX5_cellOf := fun w h => List.mem_cons_of_mem _ (List.mem_append_right _ h)
theorem inn_X5_removeAt_5 : ∀ w ∈ u_ws RX5 TX5 3, w ∈ wsX5_removeAt := fun w h => List.mem_cons_of_mem _ (List.mem_append_right _ h)
theorem inn_X5_removeFirst_5 : ∀ w ∈ u_ws RX5 TX5 3, w ∈ wsX5_removeFirst := fun w h => List.mem_cons_of_mem _ (List.mem_append_right _ h)
theorem inn_X5_sumOfFineness_0 : ∀ w ∈ u_ws RX0 TX0 10, w ∈ wsX5_sumOfFineness := fun w h => List.mem_cons_of_mem _ (List.mem_append_right _ h)
theorem inn_X5_sumOfFineness_5 : ∀ w ∈ u_ws RX5 TX5 3, w ∈ wsX5_sumOfFineness := fun w h => List.mem_cons_of_mem _ (List.mem_append_left _ (List.mem_append_right _ h))
theorem inn_X5_thinnest_0 : ∀ w ∈ u_ws RX0 TX0 10, w ∈ wsX5_thinnest := fun w h => List.mem_cons_of_mem _ (List.mem_append_right _ h)
theorem inn_X5_thinnest_5 : ∀ w ∈ u_ws RX5 TX5 3, w ∈ wsX5_thinnest := fun w h => List.mem_cons_of_mem _ (List.mem_append_left _ (List.mem_append_right _ h))
set_option maxHeartbeats 4000000 in
set_option maxRecDepth 100000 in
theorem k_X0_silkBetween (l : Launch) (G : va_G) (cy : Nat → ClassId) (κ : Nat → Nat) (S : PS) (sz : Nat) (x : Nat) (a1 : Int32) (a1_z : Int) (a2 : Int32) (a2_z : Int) (hG : GX S) (ha_x : At S x 0) (hz_a1 : a1.toInt = a1_z) (hz_a2 : a2.toInt = a2_z) : Ci l yX0_silkBetween wsX0_silkBetween ({ frames := 2, cells := 0, slots := 0, locals := 96 }) G cy κ S sz [.ref x, .int (a1), .int (a2)] (fun (r : Int32) (S9 : PS) => S = S9 ∧ (True)) := by
  refine ent_m (cc := cX0_silkBetween) (maxL := 5) (ret := (some .int)) (by decide) rfl (Nat.le_of_ble_eq_true rfl) ?_
  intro p e s m below meth c ls X hr hlocks hin hw hl hsz
  subst hsz
  have X : Cx p c cX0_silkBetween 5 s [.ref x, .int (a1), .int (a2)].toArray wsX0_silkBetween RX0 m G cy κ (AS S s.heap.size) := X
  have hl : lv_has ls 5 [(0, .ref x), (1, .int (a1)), (2, .int (a2))] := hl
  have rg_a1 : (-2147483648) ≤ a1_z ∧ a1_z ≤ 2147483647 := by rw [← hz_a1]; exact ⟨z_lo _, z_hi _⟩
  have rg_a2 : (-2147483648) ≤ a2_z ∧ a2_z ≤ 2147483647 := by rw [← hz_a2]; exact ⟨z_lo _, z_hi _⟩
  generalize hQQ : MQ below _ _ _ _ _ _ = QQ
  replace hQQ := hQQ.symm
  refine lv_iconst (v := 0) X.1 X.2.1 dX0_silkBetween_0 (by decide) ?_
  refine lv_istore_n (lv' := [(3, .int 0), (0, .ref x), (1, .int (a1)), (2, .int (a2))]) X.1 X.2.1 dX0_silkBetween_1 rfl hl (by decide) rfl (fun ls hl => ?_)
  refine lv_iload_n X.1 X.2.1 dX0_silkBetween_2 rfl (lv_at hl 2 rfl) ?_
  refine lv_istore (lv' := [(4, .int (a1)), (3, .int 0), (0, .ref x), (1, .int (a1)), (2, .int (a2))]) X.1 X.2.1 dX0_silkBetween_3 hl (by decide) rfl (fun ls hl => ?_)
  have L_1 : ∀ (n : Nat) (H : Heap) (locs : List Loc) (ls : Array Slot) (i3_2 : Int32) (i3_2_z : Int) (i4_3 : Int32) (i4_3_z : Int), ((a2_z - i4_3_z).toNat = n) → (Wd G cy (AS S s.heap.size) s.heap S H locs) → (i3_2.toInt = i3_2_z) → (i4_3.toInt = i4_3_z) → (lv_has ls 5 [(3, .int (i3_2)), (4, .int (i4_3)), (0, .ref x), (1, .int (a1)), (2, .int (a2))]) → W p l e ({ frames := 2, cells := 0, slots := 0, locals := 96 }) s m [.ref x, .int (a1), .int (a2)].toArray below meth c H locs 0 0 QQ (F0 m 5 ls []) := by
    intro n
    induction n using Nat.strongRecOn with
    | ind n ih =>
    intro H locs ls i3_2 i3_2_z i4_3 i4_3_z hn hw hz_i3_2 hz_i4_3 hl
    have rg_4 : (-2147483648) ≤ i3_2_z ∧ i3_2_z ≤ 2147483647 := by rw [← hz_i3_2]; exact ⟨z_lo _, z_hi _⟩
    have rg_5 : (-2147483648) ≤ i4_3_z ∧ i4_3_z ≤ 2147483647 := by rw [← hz_i4_3]; exact ⟨z_lo _, z_hi _⟩
    refine lv_iload X.1 X.2.1 dX0_silkBetween_5 (lv_at hl 1 rfl) ?_
    refine lv_iload_n X.1 X.2.1 dX0_silkBetween_7 rfl (lv_at hl 4 rfl) ?_
    refine lv_icmp_ge (tgt := 26) X.1 X.2.1 dX0_silkBetween_8 (by decide) (fun c_6 => ?_) (fun c_6 => ?_)
    · have z_b_7 := trivial
      have k_8 : i4_3_z ≥ a2_z := z_le hz_a2 hz_i4_3 c_6
      refine lv_iload_n X.1 X.2.1 dX0_silkBetween_26 rfl (lv_at hl 0 rfl) ?_
      rw [hQQ]
      exact ret_i X hw hr hlocks (Nat.le_of_ble_eq_true rfl) (Nat.le_of_ble_eq_true rfl) ⟨rfl, trivial⟩ dX0_silkBetween_27
    · have z_b_9 := trivial
      have k_10 : i4_3_z < a2_z := z_nle hz_a2 hz_i4_3 c_6
      refine lv_iload_n X.1 X.2.1 dX0_silkBetween_11 rfl (lv_at hl 0 rfl) ?_
      refine lv_aload_n X.1 X.2.1 dX0_silkBetween_12 rfl (lv_at hl 2 rfl) ?_
      refine lv_iload X.1 X.2.1 dX0_silkBetween_13 (lv_at hl 1 rfl) ?_
      refine k_i (rm := { frames := 1, cells := 0, slots := 0, locals := 48 }) (av := [.ref x, .int (i4_3)]) X hw (va_runV (As := [.int (i4_3)]) (rest := [.int (i3_2)]) (cfix X) (k_X0_finenessAt l G cy κ S _ x (i4_3) (i4_3_z) hG ha_x hz_i4_3) (cwV 1 X.2.2.2.1 gX0_silkBetween_X0_finenessAt rfl rfl rfl (by decide +kernel) ⟨Nat.le_of_ble_eq_true rfl, Nat.le_of_ble_eq_true rfl⟩) (pre_V X hw _ ha_x rfl (by decide) rfl) rfl rfl hl.1 rfl (lv_room (Nat.le_of_ble_eq_true rfl)) dX0_silkBetween_15 ⟨Nat.le_of_ble_eq_true rfl, Nat.le_of_ble_eq_true rfl⟩) 0 0 (Nat.le_of_ble_eq_true rfl) (Nat.le_of_ble_eq_true rfl) (fun rr_11 S_12 H locs hp hw hfr hnw => ?_)
      obtain ⟨e2, hp⟩ := hp
      subst e2
      have rg_13 := And.intro (z_lo rr_11) (z_hi rr_11)
      refine lv_iadd X.1 X.2.1 dX0_silkBetween_18 ?_
      refine lv_topi (fun v_14 ev_14 => ?_)
      have rg_15 := And.intro (z_lo v_14) (z_hi v_14)
      refine lv_istore_n (lv' := [(3, .int (v_14)), (4, .int (i4_3)), (0, .ref x), (1, .int (a1)), (2, .int (a2))]) X.1 X.2.1 dX0_silkBetween_19 rfl hl (by decide) rfl (fun ls hl => ?_)
      obtain ⟨x_16, ex_16⟩ : ∃ y : Int32, y = i4_3 + 1 := ⟨_, rfl⟩
      have z_17 : x_16.toInt = i4_3_z + 1 := z_add ex_16 hz_i4_3 ti_1 (by omega) (by omega)
      refine lv_iinc (v := x_16) (lv' := [(4, .int (x_16)), (3, .int (v_14)), (0, .ref x), (1, .int (a1)), (2, .int (a2))]) X.1 X.2.1 dX0_silkBetween_20 hl (k := 1) rfl (by rw [ex_16]; rfl) (by decide) rfl (fun ls hl => ?_)
      refine lv_goto (tgt := 5) X.1 X.2.1 dX0_silkBetween_23 (by decide) ?_
      exact ih _ (by omega) _ _ _ (v_14) (v_14.toInt) (x_16) (x_16.toInt) rfl hw rfl rfl (lv_sub hl [1, 0, 2, 3, 4] rfl)
  exact L_1 _ _ _ _ (0) (0) (a1) (a1_z) rfl hw ti_0 hz_a1 (lv_sub hl [1, 0, 2, 3, 4] rfl)
set_option maxHeartbeats 4000000 in
set_option maxRecDepth 100000 in
theorem k_X5_cellOf (l : Launch) (G : va_G) (cy : Nat → ClassId) (κ : Nat → Nat) (S : PS) (sz : Nat) (x : Nat) (a1 : Int32) (a1_z : Int) (q : Nat) (n : Nat) (hG : GX S) (ha_x : At S x 5) (hz_a1 : a1.toInt = a1_z) (hp_0 : pR S 501 x = some q) (hp_1 : pN S q = n) (hp_2 : 0 ≤ a1_z ∧ a1_z ≤ (n : Int)) : Ci l yX5_cellOf wsX5_cellOf ({ frames := 1, cells := 0, slots := 0, locals := 48 }) G cy κ S sz [.ref x, .int (a1)] (fun (r : Int32) (S9 : PS) => S = S9 ∧ (0 ≤ r.toInt ∧ r.toInt < (n : Int))) := by
  refine ent_m (cc := cX5_cellOf) (maxL := 3) (ret := (some .int)) (by decide) rfl (Nat.le_of_ble_eq_true rfl) ?_
  intro p e s m below meth c ls X hr hlocks hin hw hl hsz
  subst hsz
  have X : Cx p c cX5_cellOf 3 s [.ref x, .int (a1)].toArray wsX5_cellOf RX5 m G cy κ (AS S s.heap.size) := X
  have hl : lv_has ls 3 [(0, .ref x), (1, .int (a1))] := hl
  have rg_a1 : (-2147483648) ≤ a1_z ∧ a1_z ≤ 2147483647 := by rw [← hz_a1]; exact ⟨z_lo _, z_hi _⟩
  have hrr := gRow_all hG ha_x hp_0 hp_1
  have haq := hrr.1
  have hnn := hrr.2.1
  refine lv_aload_n X.1 X.2.1 dX5_cellOf_0 rfl (lv_at hl 0 rfl) ?_
  obtain ⟨v_1, ev_1⟩ : ∃ v, pI S 502 x = v := ⟨_, rfl⟩
  have rg_2 := gRow_502 hG ha_x hp_0 hp_1; rw [ev_1] at rg_2
  refine r_getI (g := 502) (x := v_1) X hw ha_x rfl 2 ev_1 (by decide) rfl inn_X5_cellOf_5 (by decide) (X.2.2.2.1 (.fieldLink RX5 31 "SilkMill$Row" "head" "I") (by decide +kernel)) rfl (gv_502 _ _) dX5_cellOf_1 ?_
  refine lv_iload_n X.1 X.2.1 dX5_cellOf_4 rfl (lv_at hl 1 rfl) ?_
  refine lv_iadd X.1 X.2.1 dX5_cellOf_5 ?_
  refine lv_topi (fun v_3 ev_3 => ?_)
  have z_4 : v_3.toInt = v_1.toInt + a1_z := z_add ev_3 rfl hz_a1 (by omega) (by omega)
  refine lv_istore_n (lv' := [(2, .int (v_3)), (0, .ref x), (1, .int (a1))]) X.1 X.2.1 dX5_cellOf_6 rfl hl (by decide) rfl (fun ls hl => ?_)
  refine lv_iload_n X.1 X.2.1 dX5_cellOf_7 rfl (lv_at hl 0 rfl) ?_
  refine lv_aload_n X.1 X.2.1 dX5_cellOf_8 rfl (lv_at hl 1 rfl) ?_
  refine r_getR (g := 501) X hw ha_x rfl 1 hp_0 (by decide) rfl inn_X5_cellOf_5 (by decide) (X.2.2.2.1 (.fieldLink RX5 17 "SilkMill$Row" "cells" "[LSilkMill$Cocoon;") (by decide +kernel)) rfl (gv_501 _ _) dX5_cellOf_9 ?_
  refine r_alen X hw haq rfl (by decide) rfl dX5_cellOf_12 ?_
  rw [hp_1]
  refine lv_topi (fun v_5 ev_5 => ?_)
  have z_6 : v_5.toInt = (n : Int) := z_len ev_5 (by omega)
  refine lv_icmp_ge (tgt := 20) X.1 X.2.1 dX5_cellOf_13 (by decide) (fun c_7 => ?_) (fun c_7 => ?_)
  · have z_b_8 := trivial
    have k_9 : v_3.toInt ≥ v_5.toInt := z_le rfl rfl c_7
    refine lv_iload_n X.1 X.2.1 dX5_cellOf_20 rfl (lv_at hl 0 rfl) ?_
    refine lv_aload_n X.1 X.2.1 dX5_cellOf_21 rfl (lv_at hl 1 rfl) ?_
    refine r_getR (g := 501) X hw ha_x rfl 1 hp_0 (by decide) rfl inn_X5_cellOf_5 (by decide) (X.2.2.2.1 (.fieldLink RX5 17 "SilkMill$Row" "cells" "[LSilkMill$Cocoon;") (by decide +kernel)) rfl (gv_501 _ _) dX5_cellOf_22 ?_
    refine r_alen X hw haq rfl (by decide) rfl dX5_cellOf_25 ?_
    rw [hp_1]
    refine lv_topi (fun v_10 ev_10 => ?_)
    have z_11 : v_10.toInt = (n : Int) := z_len ev_10 (by omega)
    refine lv_isub X.1 X.2.1 dX5_cellOf_26 ?_
    refine lv_topi (fun v_12 ev_12 => ?_)
    have z_13 : v_12.toInt = v_3.toInt - v_10.toInt := z_sub ev_12 rfl rfl (by omega) (by omega)
    exact ret_i X hw hr hlocks (Nat.le_of_ble_eq_true rfl) (Nat.le_of_ble_eq_true rfl) ⟨rfl, ⟨by omega, by omega⟩⟩ dX5_cellOf_27
  · have z_b_14 := trivial
    have k_15 : v_3.toInt < v_5.toInt := z_nle rfl rfl c_7
    refine lv_iload_n X.1 X.2.1 dX5_cellOf_16 rfl (lv_at hl 0 rfl) ?_
    refine lv_goto (tgt := 27) X.1 X.2.1 dX5_cellOf_17 (by decide) ?_
    exact ret_i X hw hr hlocks (Nat.le_of_ble_eq_true rfl) (Nat.le_of_ble_eq_true rfl) ⟨rfl, ⟨by omega, by omega⟩⟩ dX5_cellOf_27
set_option maxHeartbeats 4000000 in
set_option maxRecDepth 100000 in
theorem k_X5_at (l : Launch) (G : va_G) (cy : Nat → ClassId) (κ : Nat → Nat) (S : PS) (sz : Nat) (x : Nat) (a1 : Int32) (a1_z : Int) (hG : GX S) (ha_x : At S x 5) (hz_a1 : a1.toInt = a1_z) : Cq l yX5_at wsX5_at ({ frames := 2, cells := 0, slots := 0, locals := 96 }) G cy κ S sz [.ref x, .int (a1)] (fun (r : Option Nat) (S9 : PS) => S = S9 ∧ (∀ q, r = some q → At S9 q 0 ∧ 0 ≤ a1_z ∧ a1_z < (pI S 500 x).toInt)) := by
  refine ent_m (cc := cX5_at) (maxL := 2) (ret := (some (.object "SilkMill$Cocoon"))) (by decide) rfl (Nat.le_of_ble_eq_true rfl) ?_
  intro p e s m below meth c ls X hr hlocks hin hw hl hsz
  subst hsz
  have X : Cx p c cX5_at 2 s [.ref x, .int (a1)].toArray wsX5_at RX5 m G cy κ (AS S s.heap.size) := X
  have hl : lv_has ls 2 [(0, .ref x), (1, .int (a1))] := hl
  have rg_a1 : (-2147483648) ≤ a1_z ∧ a1_z ≤ 2147483647 := by rw [← hz_a1]; exact ⟨z_lo _, z_hi _⟩
  refine lv_iload_n X.1 X.2.1 dX5_at_0 rfl (lv_at hl 1 rfl) ?_
  refine lv_if_lt (tgt := 12) X.1 X.2.1 dX5_at_1 (by decide) (fun c_1 => ?_) (fun c_1 => ?_)
  · have z_b_2 := trivial
    have k_3 : a1_z < 0 := z_lt hz_a1 ti_0 c_1
    refine lv_null X.1 X.2.1 dX5_at_12 ?_
    refine lv_goto (tgt := 26) X.1 X.2.1 dX5_at_13 (by decide) ?_
    exact ret_q none rfl X hw hr hlocks (Nat.le_of_ble_eq_true rfl) (Nat.le_of_ble_eq_true rfl) ⟨rfl, (fun q h => by cases h)⟩ dX5_at_26
  · have z_b_4 := trivial
    have k_5 : a1_z ≥ 0 := z_nlt hz_a1 ti_0 c_1
    refine lv_iload_n X.1 X.2.1 dX5_at_4 rfl (lv_at hl 1 rfl) ?_
    refine lv_aload_n X.1 X.2.1 dX5_at_5 rfl (lv_at hl 0 rfl) ?_
    obtain ⟨v_6, ev_6⟩ : ∃ v, pI S 500 x = v := ⟨_, rfl⟩
    obtain ⟨q_8, n_9, h_10, h_11, h_12, h_13, h_14⟩ := gRowQ hG ha_x
    have rg_7 := gRow_500 hG ha_x h_10 h_12; rw [ev_6] at rg_7
    have pz_15 : (pI S 500 x).toInt = v_6.toInt := by rw [ev_6]
    refine r_getI (g := 500) (x := v_6) X hw ha_x rfl 0 ev_6 (by decide) rfl inn_X5_at_5 (by decide) (X.2.2.2.1 (.fieldLink RX5 23 "SilkMill$Row" "size" "I") (by decide +kernel)) rfl (gv_500 _ _) dX5_at_6 ?_
    refine lv_icmp_lt (tgt := 16) X.1 X.2.1 dX5_at_9 (by decide) (fun c_16 => ?_) (fun c_16 => ?_)
    · have z_b_17 := trivial
      have k_18 : a1_z < v_6.toInt := z_lt hz_a1 rfl c_16
      refine lv_aload_n X.1 X.2.1 dX5_at_16 rfl (lv_at hl 0 rfl) ?_
      refine r_getR (g := 501) X hw ha_x rfl 1 h_10 (by decide) rfl inn_X5_at_5 (by decide) (X.2.2.2.1 (.fieldLink RX5 17 "SilkMill$Row" "cells" "[LSilkMill$Cocoon;") (by decide +kernel)) rfl (gv_501 _ _) dX5_at_17 ?_
      refine lv_aload_n X.1 X.2.1 dX5_at_20 rfl (lv_at hl 0 rfl) ?_
      refine lv_iload_n X.1 X.2.1 dX5_at_21 rfl (lv_at hl 1 rfl) ?_
      refine k_i (rm := { frames := 1, cells := 0, slots := 0, locals := 48 }) (av := [.ref x, .int (a1)]) X hw (va_runV (As := [.int (a1)]) (rest := [.ref q_8]) (cfix X) (k_X5_cellOf l G cy κ S _ x (a1) (a1_z) q_8 n_9 hG ha_x hz_a1 h_10 h_12 (by omega)) (cwV 1 X.2.2.2.1 gX5_at_X5_cellOf rfl rfl rfl (by decide +kernel) ⟨Nat.le_of_ble_eq_true rfl, Nat.le_of_ble_eq_true rfl⟩) (pre_V X hw _ ha_x rfl (by decide) rfl) rfl rfl hl.1 rfl (lv_room (Nat.le_of_ble_eq_true rfl)) dX5_at_22 ⟨Nat.le_of_ble_eq_true rfl, Nat.le_of_ble_eq_true rfl⟩) 0 0 (Nat.le_of_ble_eq_true rfl) (Nat.le_of_ble_eq_true rfl) (fun rr_19 S_20 H locs hp hw hfr hnw => ?_)
      obtain ⟨e2, hp⟩ := hp
      subst e2
      obtain ⟨f_21, f_22⟩ := hp
      refine r_aald X hw h_11 rfl (by decide) rfl (by rw [h_12]; exact z_ix rfl (by omega) (by omega)) dX5_at_25 ?_
      rcases ho_23 : pB S q_8 (Int32.toNatClampNeg (rr_19)) with _ | q_24
      · refine W.eq (g2 := F0 m 26 ls (.null :: [])) rfl ?_
        exact ret_q none rfl X hw hr hlocks (Nat.le_of_ble_eq_true rfl) (Nat.le_of_ble_eq_true rfl) ⟨rfl, (fun q h => by cases h)⟩ dX5_at_26
      · refine W.eq (g2 := F0 m 26 ls (.ref q_24 :: [])) rfl ?_
        have ha_25 : At S q_24 0 := gEl_16 hG h_11 _ _ ho_23
        exact ret_q (some q_24) rfl X hw hr hlocks (Nat.le_of_ble_eq_true rfl) (Nat.le_of_ble_eq_true rfl) ⟨rfl, (fun q h => by cases h; exact ⟨ha_25, by omega, by omega⟩)⟩ dX5_at_26
    · have z_b_26 := trivial
      have k_27 : a1_z ≥ v_6.toInt := z_nlt hz_a1 rfl c_16
      refine lv_null X.1 X.2.1 dX5_at_12 ?_
      refine lv_goto (tgt := 26) X.1 X.2.1 dX5_at_13 (by decide) ?_
      exact ret_q none rfl X hw hr hlocks (Nat.le_of_ble_eq_true rfl) (Nat.le_of_ble_eq_true rfl) ⟨rfl, (fun q h => by cases h)⟩ dX5_at_26
set_option maxHeartbeats 4000000 in
set_option maxRecDepth 100000 in
theorem k_X5_sumOfFineness (l : Launch) (G : va_G) (cy : Nat → ClassId) (κ : Nat → Nat) (S : PS) (sz : Nat) (x : Nat) (hG : GX S) (ha_x : At S x 5) : Ci l yX5_sumOfFineness wsX5_sumOfFineness ({ frames := 3, cells := 0, slots := 0, locals := 144 }) G cy κ S sz [.ref x] (fun (r : Int32) (S9 : PS) => S = S9 ∧ (True)) := by
  refine ent_m (cc := cX5_sumOfFineness) (maxL := 4) (ret := (some .int)) (by decide) rfl (Nat.le_of_ble_eq_true rfl) ?_
  intro p e s m below meth c ls X hr hlocks hin hw hl hsz
  subst hsz
  have X : Cx p c cX5_sumOfFineness 4 s [.ref x].toArray wsX5_sumOfFineness RX5 m G cy κ (AS S s.heap.size) := X
  have hl : lv_has ls 4 [(0, .ref x)] := hl
  generalize hQQ : MQ below _ _ _ _ _ _ = QQ
  replace hQQ := hQQ.symm
  refine lv_iconst (v := 0) X.1 X.2.1 dX5_sumOfFineness_0 (by decide) ?_
  refine lv_istore_n (lv' := [(1, .int 0), (0, .ref x)]) X.1 X.2.1 dX5_sumOfFineness_1 rfl hl (by decide) rfl (fun ls hl => ?_)
  refine lv_iconst (v := 0) X.1 X.2.1 dX5_sumOfFineness_2 (by decide) ?_
  refine lv_istore_n (lv' := [(2, .int 0), (1, .int 0), (0, .ref x)]) X.1 X.2.1 dX5_sumOfFineness_3 rfl hl (by decide) rfl (fun ls hl => ?_)
  have L_1 : ∀ (n : Nat) (H : Heap) (locs : List Loc) (ls : Array Slot) (i1_2 : Int32) (i1_2_z : Int) (i2_3 : Int32) (i2_3_z : Int), ((600 - i2_3_z).toNat = n) → (Wd G cy (AS S s.heap.size) s.heap S H locs) → (i1_2.toInt = i1_2_z) → (i2_3.toInt = i2_3_z) → (0 ≤ i2_3_z ∧ i2_3_z ≤ 600) → (lv_has ls 4 [(1, .int (i1_2)), (2, .int (i2_3)), (0, .ref x)]) → W p l e ({ frames := 3, cells := 0, slots := 0, locals := 144 }) s m [.ref x].toArray below meth c H locs 0 0 QQ (F0 m 4 ls []) := by
    intro n
    induction n using Nat.strongRecOn with
    | ind n ih =>
    intro H locs ls i1_2 i1_2_z i2_3 i2_3_z hn hw hz_i1_2 hz_i2_3 hr_i2_3 hl
    have rg_4 : (-2147483648) ≤ i1_2_z ∧ i1_2_z ≤ 2147483647 := by rw [← hz_i1_2]; exact ⟨z_lo _, z_hi _⟩
    have rg_5 : (-2147483648) ≤ i2_3_z ∧ i2_3_z ≤ 2147483647 := by rw [← hz_i2_3]; exact ⟨z_lo _, z_hi _⟩
    refine lv_iload_n X.1 X.2.1 dX5_sumOfFineness_4 rfl (lv_at hl 1 rfl) ?_
    refine lv_aload_n X.1 X.2.1 dX5_sumOfFineness_5 rfl (lv_at hl 2 rfl) ?_
    obtain ⟨v_6, ev_6⟩ : ∃ v, pI S 500 x = v := ⟨_, rfl⟩
    obtain ⟨q_8, n_9, h_10, h_11, h_12, h_13, h_14⟩ := gRowQ hG ha_x
    have rg_7 := gRow_500 hG ha_x h_10 h_12; rw [ev_6] at rg_7
    have pz_15 : (pI S 500 x).toInt = v_6.toInt := by rw [ev_6]
    refine r_getI (g := 500) (x := v_6) X hw ha_x rfl 0 ev_6 (by decide) rfl inn_X5_sumOfFineness_5 (by decide) (X.2.2.2.1 (.fieldLink RX5 23 "SilkMill$Row" "size" "I") (by decide +kernel)) rfl (gv_500 _ _) dX5_sumOfFineness_6 ?_
    refine lv_icmp_ge (tgt := 43) X.1 X.2.1 dX5_sumOfFineness_9 (by decide) (fun c_16 => ?_) (fun c_16 => ?_)
    · have z_b_17 := trivial
      have k_18 : i2_3_z ≥ v_6.toInt := z_le rfl hz_i2_3 c_16
      refine lv_iload_n X.1 X.2.1 dX5_sumOfFineness_43 rfl (lv_at hl 0 rfl) ?_
      rw [hQQ]
      exact ret_i X hw hr hlocks (Nat.le_of_ble_eq_true rfl) (Nat.le_of_ble_eq_true rfl) ⟨rfl, trivial⟩ dX5_sumOfFineness_44
    · have z_b_19 := trivial
      have k_20 : i2_3_z < v_6.toInt := z_nle rfl hz_i2_3 c_16
      refine lv_aload_n X.1 X.2.1 dX5_sumOfFineness_12 rfl (lv_at hl 2 rfl) ?_
      refine lv_iload_n X.1 X.2.1 dX5_sumOfFineness_13 rfl (lv_at hl 1 rfl) ?_
      refine k_q (rm := { frames := 2, cells := 0, slots := 0, locals := 96 }) (av := [.ref x, .int (i2_3)]) X hw (va_runV (As := [.int (i2_3)]) (rest := []) (cfix X) (k_X5_at l G cy κ S _ x (i2_3) (i2_3_z) hG ha_x hz_i2_3) (cwV 1 X.2.2.2.1 gX5_sumOfFineness_X5_at rfl rfl rfl (by decide +kernel) ⟨Nat.le_of_ble_eq_true rfl, Nat.le_of_ble_eq_true rfl⟩) (pre_V X hw _ ha_x rfl (by decide) rfl) rfl rfl hl.1 rfl (lv_room (Nat.le_of_ble_eq_true rfl)) dX5_sumOfFineness_14 ⟨Nat.le_of_ble_eq_true rfl, Nat.le_of_ble_eq_true rfl⟩) 0 0 (Nat.le_of_ble_eq_true rfl) (Nat.le_of_ble_eq_true rfl) (fun rr_21 S_22 H locs hp hw hfr hnw => ?_)
      obtain ⟨e2, hp⟩ := hp
      subst e2
      have hq_23 := hp
      rcases rr_21 with _ | q_24
      · refine W.eq (g2 := F0 m 17 ls (.null :: [])) rfl ?_
        refine lv_astore_nN (lv' := [(3, .null), (1, .int (i1_2)), (2, .int (i2_3)), (0, .ref x)]) X.1 X.2.1 dX5_sumOfFineness_17 rfl hl (by decide) rfl (fun ls hl => ?_)
        refine lv_iload_n X.1 X.2.1 dX5_sumOfFineness_18 rfl (lv_at hl 1 rfl) ?_
        refine lv_aload_nN X.1 X.2.1 dX5_sumOfFineness_19 rfl (lv_at hl 0 rfl) ?_
        refine lv_ifnonnullN X.1 X.2.1 dX5_sumOfFineness_20 ?_
        refine lv_iconst (v := 0) X.1 X.2.1 dX5_sumOfFineness_23 (by decide) ?_
        refine lv_goto (tgt := 35) X.1 X.2.1 dX5_sumOfFineness_24 (by decide) ?_
        refine lv_iadd X.1 X.2.1 dX5_sumOfFineness_35 ?_
        refine lv_topi (fun v_25 ev_25 => ?_)
        have z_26 : v_25.toInt = i1_2_z + 0 := z_add ev_25 hz_i1_2 ti_0 (by omega) (by omega)
        refine lv_istore_n (lv' := [(1, .int (v_25)), (3, .null), (2, .int (i2_3)), (0, .ref x)]) X.1 X.2.1 dX5_sumOfFineness_36 rfl hl (by decide) rfl (fun ls hl => ?_)
        obtain ⟨x_27, ex_27⟩ : ∃ y : Int32, y = i2_3 + 1 := ⟨_, rfl⟩
        have z_28 : x_27.toInt = i2_3_z + 1 := z_add ex_27 hz_i2_3 ti_1 (by omega) (by omega)
        refine lv_iinc (v := x_27) (lv' := [(2, .int (x_27)), (1, .int (v_25)), (3, .null), (0, .ref x)]) X.1 X.2.1 dX5_sumOfFineness_37 hl (k := 2) rfl (by rw [ex_27]; rfl) (by decide) rfl (fun ls hl => ?_)
        refine lv_goto (tgt := 4) X.1 X.2.1 dX5_sumOfFineness_40 (by decide) ?_
        exact ih _ (by omega) _ _ _ (v_25) (v_25.toInt) (x_27) (x_27.toInt) rfl hw rfl rfl (by omega) (lv_sub hl [1, 0, 3] rfl)
      · refine W.eq (g2 := F0 m 17 ls (.ref q_24 :: [])) rfl ?_
        obtain ⟨ha_29, f_30, f_31⟩ := hq_23 _ rfl
        refine lv_astore_n (lv' := [(3, .ref q_24), (1, .int (i1_2)), (2, .int (i2_3)), (0, .ref x)]) X.1 X.2.1 dX5_sumOfFineness_17 rfl hl (by decide) rfl (fun ls hl => ?_)
        refine lv_iload_n X.1 X.2.1 dX5_sumOfFineness_18 rfl (lv_at hl 1 rfl) ?_
        refine lv_aload_n X.1 X.2.1 dX5_sumOfFineness_19 rfl (lv_at hl 0 rfl) ?_
        refine lv_ifnonnull (tgt := 27) X.1 X.2.1 dX5_sumOfFineness_20 (by decide) ?_
        refine lv_aload_n X.1 X.2.1 dX5_sumOfFineness_27 rfl (lv_at hl 0 rfl) ?_
        refine lv_aload_n X.1 X.2.1 dX5_sumOfFineness_28 rfl (lv_at hl 0 rfl) ?_
        obtain ⟨v_32, ev_32⟩ : ∃ v, pI S 4 q_24 = v := ⟨_, rfl⟩
        have rg_34 := And.intro (z_lo v_32) (z_hi v_32)
        have pz_35 : (pI S 4 q_24).toInt = v_32.toInt := by rw [ev_32]
        refine r_getI (g := 4) (x := v_32) X hw ha_29 rfl 4 ev_32 (by decide) rfl inn_X5_sumOfFineness_0 (by decide) (X.2.2.2.1 (.fieldLink RX5 38 "SilkMill$Cocoon" "drawnTo" "I") (by decide +kernel)) rfl (gv_4 _ _) dX5_sumOfFineness_29 ?_
        refine k_i (rm := { frames := 1, cells := 0, slots := 0, locals := 48 }) (av := [.ref q_24, .int (v_32)]) X hw (va_runV (As := [.int (v_32)]) (rest := [.int (i1_2)]) (cfix X) (k_X0_finenessAt l G cy κ S _ q_24 (v_32) (v_32.toInt) hG ha_29 rfl) (cwV 1 X.2.2.2.1 gX5_sumOfFineness_X0_finenessAt rfl rfl rfl (by decide +kernel) ⟨Nat.le_of_ble_eq_true rfl, Nat.le_of_ble_eq_true rfl⟩) (pre_V X hw _ ha_29 rfl (by decide) rfl) rfl rfl hl.1 rfl (lv_room (Nat.le_of_ble_eq_true rfl)) dX5_sumOfFineness_32 ⟨Nat.le_of_ble_eq_true rfl, Nat.le_of_ble_eq_true rfl⟩) 0 0 (Nat.le_of_ble_eq_true rfl) (Nat.le_of_ble_eq_true rfl) (fun rr_36 S_37 H locs hp hw hfr hnw => ?_)
        obtain ⟨e2, hp⟩ := hp
        subst e2
        have rg_38 := And.intro (z_lo rr_36) (z_hi rr_36)
        refine lv_iadd X.1 X.2.1 dX5_sumOfFineness_35 ?_
        refine lv_topi (fun v_39 ev_39 => ?_)
        have rg_40 := And.intro (z_lo v_39) (z_hi v_39)
        refine lv_istore_n (lv' := [(1, .int (v_39)), (3, .ref q_24), (2, .int (i2_3)), (0, .ref x)]) X.1 X.2.1 dX5_sumOfFineness_36 rfl hl (by decide) rfl (fun ls hl => ?_)
        obtain ⟨x_41, ex_41⟩ : ∃ y : Int32, y = i2_3 + 1 := ⟨_, rfl⟩
        have z_42 : x_41.toInt = i2_3_z + 1 := z_add ex_41 hz_i2_3 ti_1 (by omega) (by omega)
        refine lv_iinc (v := x_41) (lv' := [(2, .int (x_41)), (1, .int (v_39)), (3, .ref q_24), (0, .ref x)]) X.1 X.2.1 dX5_sumOfFineness_37 hl (k := 2) rfl (by rw [ex_41]; rfl) (by decide) rfl (fun ls hl => ?_)
        refine lv_goto (tgt := 4) X.1 X.2.1 dX5_sumOfFineness_40 (by decide) ?_
        exact ih _ (by omega) _ _ _ (v_39) (v_39.toInt) (x_41) (x_41.toInt) rfl hw rfl rfl (by omega) (lv_sub hl [1, 0, 3] rfl)
  exact L_1 _ _ _ _ (0) (0) (0) (0) rfl hw ti_0 ti_0 (by omega) (lv_sub hl [1, 0, 2] rfl)
