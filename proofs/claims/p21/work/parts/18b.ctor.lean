set_option maxRecDepth 20000 in
theorem ggX9_init__J7_copyOf_59c91 : GoodIn wsX9_init_ wsJ7_copyOf_59c91 := goodIn_h _ [7, 12, 0, 0, 0, 0, 0, 0, 0, 0, 0, 0, 0, 0, 0, 0] [1, 2, 3, 4, 5, 6, 7, 8, 9, 10, 0, 11, 12, 13, 14, 15] (by decide +kernel) (by decide +kernel)
set_option maxRecDepth 20000 in
theorem gX9_init__J7_copyOf_59c91 : GoodIn wsX9_init_ (va_wsS RX9 46 yJ7_copyOf_59c91 wsJ7_copyOf_59c91) := goodIn_app (goodIn_of _ (by decide +kernel)) ggX9_init__J7_copyOf_59c91
theorem dX9_init__0 : decode cX9_init_ 0 = .ok (.aload_n 0, 1) := by decide +kernel
theorem dX9_init__1 : decode cX9_init_ 1 = .ok (.invokespecial 3, 3) := by decide +kernel
theorem dX9_init__4 : decode cX9_init_ 4 = .ok (.aload_n 0, 1) := by decide +kernel
theorem dX9_init__5 : decode cX9_init_ 5 = .ok (.iconst 0, 1) := by decide +kernel
theorem dX9_init__6 : decode cX9_init_ 6 = .ok (.aload_n 1, 1) := by decide +kernel
theorem dX9_init__7 : decode cX9_init_ 7 = .ok (.getfield 30, 3) := by decide +kernel
theorem dX9_init__10 : decode cX9_init_ 10 = .ok (.invokestatic 34, 3) := by decide +kernel
theorem dX9_init__13 : decode cX9_init_ 13 = .ok (.putfield 30, 3) := by decide +kernel
theorem dX9_init__16 : decode cX9_init_ 16 = .ok (.aload_n 0, 1) := by decide +kernel
theorem dX9_init__17 : decode cX9_init_ 17 = .ok (.aload_n 1, 1) := by decide +kernel
theorem dX9_init__18 : decode cX9_init_ 18 = .ok (.getfield 40, 3) := by decide +kernel
theorem dX9_init__21 : decode cX9_init_ 21 = .ok (.putfield 40, 3) := by decide +kernel
theorem dX9_init__24 : decode cX9_init_ 24 = .ok (.aload_n 0, 1) := by decide +kernel
theorem dX9_init__25 : decode cX9_init_ 25 = .ok (.iconst 0, 1) := by decide +kernel
theorem dX9_init__26 : decode cX9_init_ 26 = .ok (.aload_n 1, 1) := by decide +kernel
theorem dX9_init__27 : decode cX9_init_ 27 = .ok (.getfield 43, 3) := by decide +kernel
theorem dX9_init__30 : decode cX9_init_ 30 = .ok (.invokestatic 34, 3) := by decide +kernel
theorem dX9_init__33 : decode cX9_init_ 33 = .ok (.putfield 43, 3) := by decide +kernel
theorem dX9_init__36 : decode cX9_init_ 36 = .ok (.aload_n 0, 1) := by decide +kernel
theorem dX9_init__37 : decode cX9_init_ 37 = .ok (.aload_n 1, 1) := by decide +kernel
theorem dX9_init__38 : decode cX9_init_ 38 = .ok (.getfield 9, 3) := by decide +kernel
theorem dX9_init__41 : decode cX9_init_ 41 = .ok (.aload_n 0, 1) := by decide +kernel
theorem dX9_init__42 : decode cX9_init_ 42 = .ok (.getfield 30, 3) := by decide +kernel
theorem dX9_init__45 : decode cX9_init_ 45 = .ok (.invokestatic 46, 3) := by decide +kernel
theorem dX9_init__48 : decode cX9_init_ 48 = .ok (.putfield 9, 3) := by decide +kernel
theorem dX9_init__51 : decode cX9_init_ 51 = .ok (.aload_n 0, 1) := by decide +kernel
theorem dX9_init__52 : decode cX9_init_ 52 = .ok (.aload_n 1, 1) := by decide +kernel
theorem dX9_init__53 : decode cX9_init_ 53 = .ok (.getfield 15, 3) := by decide +kernel
theorem dX9_init__56 : decode cX9_init_ 56 = .ok (.aload_n 0, 1) := by decide +kernel
theorem dX9_init__57 : decode cX9_init_ 57 = .ok (.getfield 30, 3) := by decide +kernel
theorem dX9_init__60 : decode cX9_init_ 60 = .ok (.invokestatic 46, 3) := by decide +kernel
theorem dX9_init__63 : decode cX9_init_ 63 = .ok (.putfield 15, 3) := by decide +kernel
theorem dX9_init__66 : decode cX9_init_ 66 = .ok (.aload_n 0, 1) := by decide +kernel
theorem dX9_init__67 : decode cX9_init_ 67 = .ok (.aload_n 1, 1) := by decide +kernel
theorem dX9_init__68 : decode cX9_init_ 68 = .ok (.getfield 18, 3) := by decide +kernel
theorem dX9_init__71 : decode cX9_init_ 71 = .ok (.aload_n 0, 1) := by decide +kernel
theorem dX9_init__72 : decode cX9_init_ 72 = .ok (.getfield 43, 3) := by decide +kernel
theorem dX9_init__75 : decode cX9_init_ 75 = .ok (.invokestatic 46, 3) := by decide +kernel
theorem dX9_init__78 : decode cX9_init_ 78 = .ok (.putfield 18, 3) := by decide +kernel
theorem dX9_init__81 : decode cX9_init_ 81 = .ok (.aload_n 0, 1) := by decide +kernel
theorem dX9_init__82 : decode cX9_init_ 82 = .ok (.aload_n 1, 1) := by decide +kernel
theorem dX9_init__83 : decode cX9_init_ 83 = .ok (.getfield 21, 3) := by decide +kernel
theorem dX9_init__86 : decode cX9_init_ 86 = .ok (.aload_n 0, 1) := by decide +kernel
theorem dX9_init__87 : decode cX9_init_ 87 = .ok (.getfield 43, 3) := by decide +kernel
theorem dX9_init__90 : decode cX9_init_ 90 = .ok (.invokestatic 46, 3) := by decide +kernel
theorem dX9_init__93 : decode cX9_init_ 93 = .ok (.putfield 21, 3) := by decide +kernel
theorem dX9_init__96 : decode cX9_init_ 96 = .ok (.aload_n 0, 1) := by decide +kernel
theorem dX9_init__97 : decode cX9_init_ 97 = .ok (.aload_n 1, 1) := by decide +kernel
theorem dX9_init__98 : decode cX9_init_ 98 = .ok (.getfield 24, 3) := by decide +kernel
theorem dX9_init__101 : decode cX9_init_ 101 = .ok (.aload_n 0, 1) := by decide +kernel
theorem dX9_init__102 : decode cX9_init_ 102 = .ok (.getfield 43, 3) := by decide +kernel
theorem dX9_init__105 : decode cX9_init_ 105 = .ok (.invokestatic 46, 3) := by decide +kernel
theorem dX9_init__108 : decode cX9_init_ 108 = .ok (.putfield 24, 3) := by decide +kernel
theorem dX9_init__111 : decode cX9_init_ 111 = .ok (.aload_n 0, 1) := by decide +kernel
theorem dX9_init__112 : decode cX9_init_ 112 = .ok (.aload_n 1, 1) := by decide +kernel
theorem dX9_init__113 : decode cX9_init_ 113 = .ok (.getfield 27, 3) := by decide +kernel
theorem dX9_init__116 : decode cX9_init_ 116 = .ok (.aload_n 0, 1) := by decide +kernel
theorem dX9_init__117 : decode cX9_init_ 117 = .ok (.getfield 43, 3) := by decide +kernel
theorem dX9_init__120 : decode cX9_init_ 120 = .ok (.invokestatic 46, 3) := by decide +kernel
theorem dX9_init__123 : decode cX9_init_ 123 = .ok (.putfield 27, 3) := by decide +kernel
theorem dX9_init__126 : decode cX9_init_ 126 = .ok (.return_, 1) := by decide +kernel
theorem inn_X9_init__9 : ∀ w ∈ u_ws RX9 TX9 9, w ∈ wsX9_init_ := fun w h => List.mem_cons_of_mem _ (List.mem_append_right _ h)
