theorem dX10_forgetFault_0 : decode cX10_forgetFault 0 = .ok (.aload_n 0, 1) := by decide +kernel
theorem dX10_forgetFault_1 : decode cX10_forgetFault 1 = .ok (.iconst 0, 1) := by decide +kernel
theorem dX10_forgetFault_2 : decode cX10_forgetFault 2 = .ok (.putfield 22, 3) := by decide +kernel
theorem dX10_forgetFault_5 : decode cX10_forgetFault 5 = .ok (.aload_n 0, 1) := by decide +kernel
theorem dX10_forgetFault_6 : decode cX10_forgetFault 6 = .ok (.iconst (-1), 1) := by decide +kernel
theorem dX10_forgetFault_7 : decode cX10_forgetFault 7 = .ok (.putfield 9, 3) := by decide +kernel
theorem dX10_forgetFault_10 : decode cX10_forgetFault 10 = .ok (.return_, 1) := by decide +kernel
set_option maxRecDepth 20000 in
theorem ggX11_program_X11_potAt : GoodIn wsX11_program wsX11_potAt := goodIn_r _ [11, 12, 13, 161, 162, 163, 164, 165, 166, 167, 168, 169, 170, 171, 172] (by decide +kernel) (by decide +kernel)
set_option maxRecDepth 20000 in
theorem gX11_program_X11_potAt : GoodIn wsX11_program (wsV RX11 134 RX11 yX11_potAt wsX11_potAt) := goodIn_app (goodIn_of _ (by decide +kernel)) ggX11_program_X11_potAt
set_option maxRecDepth 20000 in
theorem ggX11_program_X10_forgetFault : GoodIn wsX11_program wsX10_forgetFault := goodIn_r _ [18, 19, 20, 173, 174, 175, 176, 177, 178, 179] (by decide +kernel) (by decide +kernel)
set_option maxRecDepth 20000 in
theorem gX11_program_X10_forgetFault : GoodIn wsX11_program (wsV RX11 152 RX10 yX10_forgetFault wsX10_forgetFault) := goodIn_app (goodIn_of _ (by decide +kernel)) ggX11_program_X10_forgetFault
theorem dX11_program_0 : decode cX11_program 0 = .ok (.aload_n 0, 1) := by decide +kernel
theorem dX11_program_1 : decode cX11_program 1 = .ok (.iload_n 1, 1) := by decide +kernel
theorem dX11_program_2 : decode cX11_program 2 = .ok (.invokevirtual 134, 3) := by decide +kernel
theorem dX11_program_5 : decode cX11_program 5 = .ok (.astore_n 2, 1) := by decide +kernel
theorem dX11_program_6 : decode cX11_program 6 = .ok (.aload_n 2, 1) := by decide +kernel
theorem dX11_program_7 : decode cX11_program 7 = .ok (.ifnonnull 12, 3) := by decide +kernel
theorem dX11_program_10 : decode cX11_program 10 = .ok (.aload_n 0, 1) := by decide +kernel
theorem dX11_program_11 : decode cX11_program 11 = .ok (.getfield 28, 3) := by decide +kernel
theorem dX11_program_14 : decode cX11_program 14 = .ok (.invokevirtual 152, 3) := by decide +kernel
theorem dX11_program_17 : decode cX11_program 17 = .ok (.iconst (-1), 1) := by decide +kernel
theorem dX11_program_18 : decode cX11_program 18 = .ok (.ireturn, 1) := by decide +kernel
theorem inn_X10_forgetFault_10 : ∀ w ∈ u_ws RX10 TX10 7, w ∈ wsX10_forgetFault := fun w h => List.mem_cons_of_mem _ (List.mem_append_right _ h)
theorem inn_X11_program_11 : ∀ w ∈ u_ws RX11 TX11 12, w ∈ wsX11_program := fun w h => List.mem_cons_of_mem _ (List.mem_append_left _ (List.mem_append_left _ (List.mem_append_left _ (List.mem_append_right _ h))))
