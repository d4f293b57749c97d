theorem dX10_append_0 : decode cX10_append 0 = .ok (.aload_n 0, 1) := by decide +kernel
theorem dX10_append_1 : decode cX10_append 1 = .ok (.getfield 19, 3) := by decide +kernel
theorem dX10_append_4 : decode cX10_append 4 = .ok (.iconst 4, 1) := by decide +kernel
theorem dX10_append_5 : decode cX10_append 5 = .ok (.iadd, 1) := by decide +kernel
theorem dX10_append_6 : decode cX10_append 6 = .ok (.sipush 400, 3) := by decide +kernel
theorem dX10_append_9 : decode cX10_append 9 = .ok (.if_icmp .gt 72, 3) := by decide +kernel
theorem dX10_append_12 : decode cX10_append 12 = .ok (.aload_n 0, 1) := by decide +kernel
theorem dX10_append_13 : decode cX10_append 13 = .ok (.getfield 15, 3) := by decide +kernel
theorem dX10_append_16 : decode cX10_append 16 = .ok (.aload_n 0, 1) := by decide +kernel
theorem dX10_append_17 : decode cX10_append 17 = .ok (.getfield 19, 3) := by decide +kernel
theorem dX10_append_20 : decode cX10_append 20 = .ok (.iload_n 1, 1) := by decide +kernel
theorem dX10_append_21 : decode cX10_append 21 = .ok (.bipush 24, 2) := by decide +kernel
theorem dX10_append_23 : decode cX10_append 23 = .ok (.iushr, 1) := by decide +kernel
theorem dX10_append_24 : decode cX10_append 24 = .ok (.i2b, 1) := by decide +kernel
theorem dX10_append_25 : decode cX10_append 25 = .ok (.bastore, 1) := by decide +kernel
theorem dX10_append_26 : decode cX10_append 26 = .ok (.aload_n 0, 1) := by decide +kernel
theorem dX10_append_27 : decode cX10_append 27 = .ok (.getfield 15, 3) := by decide +kernel
theorem dX10_append_30 : decode cX10_append 30 = .ok (.aload_n 0, 1) := by decide +kernel
theorem dX10_append_31 : decode cX10_append 31 = .ok (.getfield 19, 3) := by decide +kernel
theorem dX10_append_34 : decode cX10_append 34 = .ok (.iconst 1, 1) := by decide +kernel
theorem dX10_append_35 : decode cX10_append 35 = .ok (.iadd, 1) := by decide +kernel
theorem dX10_append_36 : decode cX10_append 36 = .ok (.iload_n 1, 1) := by decide +kernel
theorem dX10_append_37 : decode cX10_append 37 = .ok (.bipush 16, 2) := by decide +kernel
theorem dX10_append_39 : decode cX10_append 39 = .ok (.iushr, 1) := by decide +kernel
theorem dX10_append_40 : decode cX10_append 40 = .ok (.i2b, 1) := by decide +kernel
theorem dX10_append_41 : decode cX10_append 41 = .ok (.bastore, 1) := by decide +kernel
theorem dX10_append_42 : decode cX10_append 42 = .ok (.aload_n 0, 1) := by decide +kernel
theorem dX10_append_43 : decode cX10_append 43 = .ok (.getfield 15, 3) := by decide +kernel
theorem dX10_append_46 : decode cX10_append 46 = .ok (.aload_n 0, 1) := by decide +kernel
theorem dX10_append_47 : decode cX10_append 47 = .ok (.getfield 19, 3) := by decide +kernel
theorem dX10_append_50 : decode cX10_append 50 = .ok (.iconst 2, 1) := by decide +kernel
theorem dX10_append_51 : decode cX10_append 51 = .ok (.iadd, 1) := by decide +kernel
theorem dX10_append_52 : decode cX10_append 52 = .ok (.iload_n 1, 1) := by decide +kernel
theorem dX10_append_53 : decode cX10_append 53 = .ok (.bipush 8, 2) := by decide +kernel
theorem dX10_append_55 : decode cX10_append 55 = .ok (.iushr, 1) := by decide +kernel
theorem dX10_append_56 : decode cX10_append 56 = .ok (.i2b, 1) := by decide +kernel
theorem dX10_append_57 : decode cX10_append 57 = .ok (.bastore, 1) := by decide +kernel
theorem dX10_append_58 : decode cX10_append 58 = .ok (.aload_n 0, 1) := by decide +kernel
theorem dX10_append_59 : decode cX10_append 59 = .ok (.getfield 15, 3) := by decide +kernel
theorem dX10_append_62 : decode cX10_append 62 = .ok (.aload_n 0, 1) := by decide +kernel
theorem dX10_append_63 : decode cX10_append 63 = .ok (.getfield 19, 3) := by decide +kernel
theorem dX10_append_66 : decode cX10_append 66 = .ok (.iconst 3, 1) := by decide +kernel
theorem dX10_append_67 : decode cX10_append 67 = .ok (.iadd, 1) := by decide +kernel
theorem dX10_append_68 : decode cX10_append 68 = .ok (.iload_n 1, 1) := by decide +kernel
theorem dX10_append_69 : decode cX10_append 69 = .ok (.i2b, 1) := by decide +kernel
theorem dX10_append_70 : decode cX10_append 70 = .ok (.bastore, 1) := by decide +kernel
theorem dX10_append_71 : decode cX10_append 71 = .ok (.aload_n 0, 1) := by decide +kernel
theorem dX10_append_72 : decode cX10_append 72 = .ok (.dup, 1) := by decide +kernel
theorem dX10_append_73 : decode cX10_append 73 = .ok (.getfield 19, 3) := by decide +kernel
theorem dX10_append_76 : decode cX10_append 76 = .ok (.iconst 4, 1) := by decide +kernel
theorem dX10_append_77 : decode cX10_append 77 = .ok (.iadd, 1) := by decide +kernel
theorem dX10_append_78 : decode cX10_append 78 = .ok (.putfield 19, 3) := by decide +kernel
theorem dX10_append_81 : decode cX10_append 81 = .ok (.return_, 1) := by decide +kernel
set_option maxRecDepth 20000 in
theorem ggX11_feed_X10_append : GoodIn wsX11_feed wsX10_append := goodIn_r _ [7, 8, 9, 22, 23, 24, 25, 26, 27, 28] (by decide +kernel) (by decide +kernel)
set_option maxRecDepth 20000 in
theorem gX11_feed_X10_append : GoodIn wsX11_feed (wsV RX11 148 RX10 yX10_append wsX10_append) := goodIn_app (goodIn_of _ (by decide +kernel)) ggX11_feed_X10_append
theorem dX11_feed_0 : decode cX11_feed 0 = .ok (.aload_n 0, 1) := by decide +kernel
theorem dX11_feed_1 : decode cX11_feed 1 = .ok (.getfield 28, 3) := by decide +kernel
theorem dX11_feed_4 : decode cX11_feed 4 = .ok (.getfield 145, 3) := by decide +kernel
theorem dX11_feed_7 : decode cX11_feed 7 = .ok (.bipush 20, 2) := by decide +kernel
theorem dX11_feed_9 : decode cX11_feed 9 = .ok (.iadd, 1) := by decide +kernel
theorem dX11_feed_10 : decode cX11_feed 10 = .ok (.sipush 400, 3) := by decide +kernel
theorem dX11_feed_13 : decode cX11_feed 13 = .ok (.if_icmp .le 5, 3) := by decide +kernel
theorem dX11_feed_18 : decode cX11_feed 18 = .ok (.aload_n 0, 1) := by decide +kernel
theorem dX11_feed_19 : decode cX11_feed 19 = .ok (.getfield 28, 3) := by decide +kernel
theorem dX11_feed_22 : decode cX11_feed 22 = .ok (.iload_n 1, 1) := by decide +kernel
theorem dX11_feed_23 : decode cX11_feed 23 = .ok (.invokevirtual 148, 3) := by decide +kernel
theorem dX11_feed_26 : decode cX11_feed 26 = .ok (.aload_n 0, 1) := by decide +kernel
theorem dX11_feed_27 : decode cX11_feed 27 = .ok (.getfield 28, 3) := by decide +kernel
theorem dX11_feed_30 : decode cX11_feed 30 = .ok (.iload_n 2, 1) := by decide +kernel
theorem dX11_feed_31 : decode cX11_feed 31 = .ok (.invokevirtual 148, 3) := by decide +kernel
theorem dX11_feed_34 : decode cX11_feed 34 = .ok (.aload_n 0, 1) := by decide +kernel
theorem dX11_feed_35 : decode cX11_feed 35 = .ok (.getfield 28, 3) := by decide +kernel
theorem dX11_feed_38 : decode cX11_feed 38 = .ok (.iload_n 3, 1) := by decide +kernel
theorem dX11_feed_39 : decode cX11_feed 39 = .ok (.invokevirtual 148, 3) := by decide +kernel
theorem dX11_feed_42 : decode cX11_feed 42 = .ok (.aload_n 0, 1) := by decide +kernel
theorem dX11_feed_43 : decode cX11_feed 43 = .ok (.getfield 28, 3) := by decide +kernel
theorem dX11_feed_46 : decode cX11_feed 46 = .ok (.iload 4, 2) := by decide +kernel
theorem dX11_feed_48 : decode cX11_feed 48 = .ok (.invokevirtual 148, 3) := by decide +kernel
theorem dX11_feed_51 : decode cX11_feed 51 = .ok (.aload_n 0, 1) := by decide +kernel
theorem dX11_feed_52 : decode cX11_feed 52 = .ok (.getfield 28, 3) := by decide +kernel
theorem dX11_feed_55 : decode cX11_feed 55 = .ok (.iload 5, 2) := by decide +kernel
theorem dX11_feed_57 : decode cX11_feed 57 = .ok (.invokevirtual 148, 3) := by decide +kernel
theorem dX11_feed_60 : decode cX11_feed 60 = .ok (.aload_n 0, 1) := by decide +kernel
theorem dX11_feed_61 : decode cX11_feed 61 = .ok (.getfield 28, 3) := by decide +kernel
theorem dX11_feed_64 : decode cX11_feed 64 = .ok (.getfield 145, 3) := by decide +kernel
theorem dX11_feed_67 : decode cX11_feed 67 = .ok (.ireturn, 1) := by decide +kernel
theorem dX11_end_0 : decode cX11_end 0 = .ok (.iload_n 1, 1) := by decide +kernel
theorem dX11_end_1 : decode cX11_end 1 = .ok (.ifCond .lt 14, 3) := by decide +kernel
theorem dX11_end_4 : decode cX11_end 4 = .ok (.iload_n 1, 1) := by decide +kernel
theorem dX11_end_5 : decode cX11_end 5 = .ok (.aload_n 0, 1) := by decide +kernel
theorem dX11_end_6 : decode cX11_end 6 = .ok (.getfield 28, 3) := by decide +kernel
theorem dX11_end_9 : decode cX11_end 9 = .ok (.getfield 145, 3) := by decide +kernel
theorem dX11_end_12 : decode cX11_end 12 = .ok (.if_icmp .le 5, 3) := by decide +kernel
theorem dX11_end_15 : decode cX11_end 15 = .ok (.iconst (-1), 1) := by decide +kernel
theorem dX11_end_16 : decode cX11_end 16 = .ok (.ireturn, 1) := by decide +kernel
theorem dX11_end_17 : decode cX11_end 17 = .ok (.aload_n 0, 1) := by decide +kernel
theorem dX11_end_18 : decode cX11_end 18 = .ok (.getfield 28, 3) := by decide +kernel
theorem dX11_end_21 : decode cX11_end 21 = .ok (.iload_n 1, 1) := by decide +kernel
theorem dX11_end_22 : decode cX11_end 22 = .ok (.putfield 145, 3) := by decide +kernel
theorem dX11_end_25 : decode cX11_end 25 = .ok (.iload_n 1, 1) := by decide +kernel
theorem dX11_end_26 : decode cX11_end 26 = .ok (.ireturn, 1) := by decide +kernel
theorem inn_X10_append_10 : ∀ w ∈ u_ws RX10 TX10 7, w ∈ wsX10_append := fun w h => List.mem_cons_of_mem _ (List.mem_append_right _ h)
theorem inn_X11_end_10 : ∀ w ∈ u_ws RX10 TX10 7, w ∈ wsX11_end := fun w h => List.mem_cons_of_mem _ (List.mem_append_right _ h)
theorem inn_X11_end_11 : ∀ w ∈ u_ws RX11 TX11 12, w ∈ wsX11_end := fun w h => List.mem_cons_of_mem _ (List.mem_append_left _ (List.mem_append_right _ h))
theorem inn_X11_feed_10 : ∀ w ∈ u_ws RX10 TX10 7, w ∈ wsX11_feed := fun w h => List.mem_cons_of_mem _ (List.mem_append_right _ h)
theorem inn_X11_feed_11 : ∀ w ∈ u_ws RX11 TX11 12, w ∈ wsX11_feed := fun w h => List.mem_cons_of_mem _ (List.mem_append_left _ (List.mem_append_right _ h))
