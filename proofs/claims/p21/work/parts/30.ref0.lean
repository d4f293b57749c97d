def MN : List Nat := [1200]
def Mpr : List Nat := [1200, 11174]
def Mfa : List Nat := [1200, 1262, 11474, 11494, 11514]
def Mmi : List Nat := [1200, 11095, 11374, 11394, 11414, 11435]
def Mgr : List Nat := [1200, 1249, 1250, 1251, 11074, 11254]
def Mtg : List Nat := [1200, 10454]
def MEn : List Nat := [1200, 1228]
def MT : List Nat := [1200, 1228, 10753]
def MP : List Nat := [1200, 1211, 10454, 10474]
def MD : List Nat := [1200, 1245]
def ML0 : List Nat := [1200, 1201, 10254, 10274, 10294, 10314, 10334]
def MK : List Nat := [1229, 1230, 1231, 1232, 1233, 1234]
def MC : List Nat := [1229, 1230, 1231, 1232, 1233, 1234, 10674, 10694, 10714, 10734]
def MR : List Nat := [1229, 1230, 1231, 1232, 1233, 1234, 10674, 10694, 10714, 10734, 10614, 10634, 10654]
def MPg : List Nat := [1200, 1228, 1229, 1230, 1231, 1232, 1233, 1234, 10674, 10694, 10714, 10734, 10614, 10634, 10654]
theorem dX12_part_0 : decode cX12_part 0 = .ok (.iload_n 0, 1) := by decide +kernel
theorem dX12_part_1 : decode cX12_part 1 = .ok (.bipush 16, 2) := by decide +kernel
theorem dX12_part_3 : decode cX12_part 3 = .ok (.iushr, 1) := by decide +kernel
theorem dX12_part_4 : decode cX12_part 4 = .ok (.iload_n 1, 1) := by decide +kernel
theorem dX12_part_5 : decode cX12_part 5 = .ok (.irem, 1) := by decide +kernel
theorem dX12_part_6 : decode cX12_part 6 = .ok (.ireturn, 1) := by decide +kernel
set_option maxRecDepth 20000 in
theorem ggX12_isCocoon_X12_within : GoodIn wsX12_isCocoon wsX12_within := goodIn_h _ [6] [0] (by decide +kernel) (by decide +kernel)
set_option maxRecDepth 20000 in
theorem gX12_isCocoon_X12_within : GoodIn wsX12_isCocoon (va_wsS RX12 168 yX12_within wsX12_within) := goodIn_app (goodIn_of _ (by decide +kernel)) ggX12_isCocoon_X12_within
theorem dX12_isCocoon_0 : decode cX12_isCocoon 0 = .ok (.iload_n 1, 1) := by decide +kernel
theorem dX12_isCocoon_1 : decode cX12_isCocoon 1 = .ok (.iconst 0, 1) := by decide +kernel
theorem dX12_isCocoon_2 : decode cX12_isCocoon 2 = .ok (.aload_n 0, 1) := by decide +kernel
theorem dX12_isCocoon_3 : decode cX12_isCocoon 3 = .ok (.getfield 165, 3) := by decide +kernel
theorem dX12_isCocoon_6 : decode cX12_isCocoon 6 = .ok (.iconst 1, 1) := by decide +kernel
theorem dX12_isCocoon_7 : decode cX12_isCocoon 7 = .ok (.isub, 1) := by decide +kernel
theorem dX12_isCocoon_8 : decode cX12_isCocoon 8 = .ok (.invokestatic 168, 3) := by decide +kernel
theorem dX12_isCocoon_11 : decode cX12_isCocoon 11 = .ok (.ifCond .eq 23, 3) := by decide +kernel
theorem dX12_isCocoon_14 : decode cX12_isCocoon 14 = .ok (.iload_n 2, 1) := by decide +kernel
theorem dX12_isCocoon_15 : decode cX12_isCocoon 15 = .ok (.iconst 0, 1) := by decide +kernel
theorem dX12_isCocoon_16 : decode cX12_isCocoon 16 = .ok (.aload_n 0, 1) := by decide +kernel
theorem dX12_isCocoon_17 : decode cX12_isCocoon 17 = .ok (.getfield 7, 3) := by decide +kernel
theorem dX12_isCocoon_20 : decode cX12_isCocoon 20 = .ok (.iload_n 1, 1) := by decide +kernel
theorem dX12_isCocoon_21 : decode cX12_isCocoon 21 = .ok (.iaload, 1) := by decide +kernel
theorem dX12_isCocoon_22 : decode cX12_isCocoon 22 = .ok (.iconst 1, 1) := by decide +kernel
theorem dX12_isCocoon_23 : decode cX12_isCocoon 23 = .ok (.isub, 1) := by decide +kernel
theorem dX12_isCocoon_24 : decode cX12_isCocoon 24 = .ok (.invokestatic 168, 3) := by decide +kernel
theorem dX12_isCocoon_27 : decode cX12_isCocoon 27 = .ok (.ifCond .eq 7, 3) := by decide +kernel
theorem dX12_isCocoon_30 : decode cX12_isCocoon 30 = .ok (.iconst 1, 1) := by decide +kernel
theorem dX12_isCocoon_31 : decode cX12_isCocoon 31 = .ok (.goto 4, 3) := by decide +kernel
theorem dX12_isCocoon_34 : decode cX12_isCocoon 34 = .ok (.iconst 0, 1) := by decide +kernel
theorem dX12_isCocoon_35 : decode cX12_isCocoon 35 = .ok (.ireturn, 1) := by decide +kernel
set_option maxRecDepth 20000 in
theorem ggX12_breaks_X12_next : GoodIn wsX12_breaks wsX12_next := goodIn_h _ [6, 0] [0, 1] (by decide +kernel) (by decide +kernel)
set_option maxRecDepth 20000 in
theorem gX12_breaks_X12_next : GoodIn wsX12_breaks (va_wsS RX12 172 yX12_next wsX12_next) := goodIn_app (goodIn_of _ (by decide +kernel)) ggX12_breaks_X12_next
set_option maxRecDepth 20000 in
theorem ggX12_breaks_X12_part : GoodIn wsX12_breaks wsX12_part := goodIn_h _ [10] [0] (by decide +kernel) (by decide +kernel)
set_option maxRecDepth 20000 in
theorem gX12_breaks_X12_part : GoodIn wsX12_breaks (va_wsS RX12 176 yX12_part wsX12_part) := goodIn_app (goodIn_of _ (by decide +kernel)) ggX12_breaks_X12_part
theorem dX12_breaks_0 : decode cX12_breaks 0 = .ok (.iload_n 1, 1) := by decide +kernel
theorem dX12_breaks_1 : decode cX12_breaks 1 = .ok (.bipush 60, 2) := by decide +kernel
theorem dX12_breaks_3 : decode cX12_breaks 3 = .ok (.idiv, 1) := by decide +kernel
theorem dX12_breaks_4 : decode cX12_breaks 4 = .ok (.istore_n 3, 1) := by decide +kernel
theorem dX12_breaks_5 : decode cX12_breaks 5 = .ok (.aload_n 0, 1) := by decide +kernel
theorem dX12_breaks_6 : decode cX12_breaks 6 = .ok (.getfield 13, 3) := by decide +kernel
theorem dX12_breaks_9 : decode cX12_breaks 9 = .ok (.iload_n 3, 1) := by decide +kernel
theorem dX12_breaks_10 : decode cX12_breaks 10 = .ok (.iaload, 1) := by decide +kernel
theorem dX12_breaks_11 : decode cX12_breaks 11 = .ok (.sipush 131, 3) := by decide +kernel
theorem dX12_breaks_14 : decode cX12_breaks 14 = .ok (.iload_n 1, 1) := by decide +kernel
theorem dX12_breaks_15 : decode cX12_breaks 15 = .ok (.bipush 60, 2) := by decide +kernel
theorem dX12_breaks_17 : decode cX12_breaks 17 = .ok (.irem, 1) := by decide +kernel
theorem dX12_breaks_18 : decode cX12_breaks 18 = .ok (.imul, 1) := by decide +kernel
theorem dX12_breaks_19 : decode cX12_breaks 19 = .ok (.iadd, 1) := by decide +kernel
theorem dX12_breaks_20 : decode cX12_breaks 20 = .ok (.bipush 17, 2) := by decide +kernel
theorem dX12_breaks_22 : decode cX12_breaks 22 = .ok (.iload_n 2, 1) := by decide +kernel
theorem dX12_breaks_23 : decode cX12_breaks 23 = .ok (.imul, 1) := by decide +kernel
theorem dX12_breaks_24 : decode cX12_breaks 24 = .ok (.iadd, 1) := by decide +kernel
theorem dX12_breaks_25 : decode cX12_breaks 25 = .ok (.invokestatic 172, 3) := by decide +kernel
theorem dX12_breaks_28 : decode cX12_breaks 28 = .ok (.sipush 1000, 3) := by decide +kernel
theorem dX12_breaks_31 : decode cX12_breaks 31 = .ok (.invokestatic 176, 3) := by decide +kernel
theorem dX12_breaks_34 : decode cX12_breaks 34 = .ok (.aload_n 0, 1) := by decide +kernel
theorem dX12_breaks_35 : decode cX12_breaks 35 = .ok (.getfield 22, 3) := by decide +kernel
theorem dX12_breaks_38 : decode cX12_breaks 38 = .ok (.iload_n 3, 1) := by decide +kernel
theorem dX12_breaks_39 : decode cX12_breaks 39 = .ok (.iaload, 1) := by decide +kernel
theorem dX12_breaks_40 : decode cX12_breaks 40 = .ok (.if_icmp .ge 7, 3) := by decide +kernel
theorem dX12_breaks_43 : decode cX12_breaks 43 = .ok (.iconst 1, 1) := by decide +kernel
theorem dX12_breaks_44 : decode cX12_breaks 44 = .ok (.goto 4, 3) := by decide +kernel
theorem dX12_breaks_47 : decode cX12_breaks 47 = .ok (.iconst 0, 1) := by decide +kernel
theorem dX12_breaks_48 : decode cX12_breaks 48 = .ok (.ireturn, 1) := by decide +kernel
set_option maxRecDepth 20000 in
theorem ggX12_pot_X12_within : GoodIn wsX12_pot wsX12_within := goodIn_h _ [8] [0] (by decide +kernel) (by decide +kernel)
set_option maxRecDepth 20000 in
theorem gX12_pot_X12_within : GoodIn wsX12_pot (va_wsS RX12 168 yX12_within wsX12_within) := goodIn_app (goodIn_of _ (by decide +kernel)) ggX12_pot_X12_within
theorem dX12_pot_0 : decode cX12_pot 0 = .ok (.aload_n 0, 1) := by decide +kernel
theorem dX12_pot_1 : decode cX12_pot 1 = .ok (.iconst 0, 1) := by decide +kernel
theorem dX12_pot_2 : decode cX12_pot 2 = .ok (.putfield 161, 3) := by decide +kernel
theorem dX12_pot_5 : decode cX12_pot 5 = .ok (.aload_n 0, 1) := by decide +kernel
theorem dX12_pot_6 : decode cX12_pot 6 = .ok (.getfield 197, 3) := by decide +kernel
theorem dX12_pot_9 : decode cX12_pot 9 = .ok (.iconst 4, 1) := by decide +kernel
theorem dX12_pot_10 : decode cX12_pot 10 = .ok (.if_icmp .eq 25, 3) := by decide +kernel
theorem dX12_pot_13 : decode cX12_pot 13 = .ok (.iload_n 1, 1) := by decide +kernel
theorem dX12_pot_14 : decode cX12_pot 14 = .ok (.bipush 10, 2) := by decide +kernel
theorem dX12_pot_16 : decode cX12_pot 16 = .ok (.sipush 2000, 3) := by decide +kernel
theorem dX12_pot_19 : decode cX12_pot 19 = .ok (.invokestatic 168, 3) := by decide +kernel
theorem dX12_pot_22 : decode cX12_pot 22 = .ok (.ifCond .eq 13, 3) := by decide +kernel
theorem dX12_pot_25 : decode cX12_pot 25 = .ok (.iload_n 2, 1) := by decide +kernel
theorem dX12_pot_26 : decode cX12_pot 26 = .ok (.iconst 1, 1) := by decide +kernel
theorem dX12_pot_27 : decode cX12_pot 27 = .ok (.bipush 50, 2) := by decide +kernel
theorem dX12_pot_29 : decode cX12_pot 29 = .ok (.invokestatic 168, 3) := by decide +kernel
theorem dX12_pot_32 : decode cX12_pot 32 = .ok (.ifCond .ne 5, 3) := by decide +kernel
theorem dX12_pot_35 : decode cX12_pot 35 = .ok (.iconst (-1), 1) := by decide +kernel
theorem dX12_pot_36 : decode cX12_pot 36 = .ok (.ireturn, 1) := by decide +kernel
theorem dX12_pot_37 : decode cX12_pot 37 = .ok (.aload_n 0, 1) := by decide +kernel
theorem dX12_pot_38 : decode cX12_pot 38 = .ok (.getfield 37, 3) := by decide +kernel
theorem dX12_pot_41 : decode cX12_pot 41 = .ok (.aload_n 0, 1) := by decide +kernel
theorem dX12_pot_42 : decode cX12_pot 42 = .ok (.getfield 197, 3) := by decide +kernel
theorem dX12_pot_45 : decode cX12_pot 45 = .ok (.iload_n 1, 1) := by decide +kernel
theorem dX12_pot_46 : decode cX12_pot 46 = .ok (.iastore, 1) := by decide +kernel
theorem dX12_pot_47 : decode cX12_pot 47 = .ok (.aload_n 0, 1) := by decide +kernel
theorem dX12_pot_48 : decode cX12_pot 48 = .ok (.getfield 40, 3) := by decide +kernel
theorem dX12_pot_51 : decode cX12_pot 51 = .ok (.aload_n 0, 1) := by decide +kernel
theorem dX12_pot_52 : decode cX12_pot 52 = .ok (.getfield 197, 3) := by decide +kernel
theorem dX12_pot_55 : decode cX12_pot 55 = .ok (.iload_n 2, 1) := by decide +kernel
theorem dX12_pot_56 : decode cX12_pot 56 = .ok (.iastore, 1) := by decide +kernel
theorem dX12_pot_57 : decode cX12_pot 57 = .ok (.aload_n 0, 1) := by decide +kernel
theorem dX12_pot_58 : decode cX12_pot 58 = .ok (.dup, 1) := by decide +kernel
theorem dX12_pot_59 : decode cX12_pot 59 = .ok (.getfield 197, 3) := by decide +kernel
theorem dX12_pot_62 : decode cX12_pot 62 = .ok (.iconst 1, 1) := by decide +kernel
theorem dX12_pot_63 : decode cX12_pot 63 = .ok (.iadd, 1) := by decide +kernel
theorem dX12_pot_64 : decode cX12_pot 64 = .ok (.putfield 197, 3) := by decide +kernel
theorem dX12_pot_67 : decode cX12_pot 67 = .ok (.aload_n 0, 1) := by decide +kernel
theorem dX12_pot_68 : decode cX12_pot 68 = .ok (.getfield 197, 3) := by decide +kernel
theorem dX12_pot_71 : decode cX12_pot 71 = .ok (.iconst 1, 1) := by decide +kernel
theorem dX12_pot_72 : decode cX12_pot 72 = .ok (.isub, 1) := by decide +kernel
theorem dX12_pot_73 : decode cX12_pot 73 = .ok (.ireturn, 1) := by decide +kernel
set_option maxRecDepth 20000 in
theorem ggX12_isPot_X12_within : GoodIn wsX12_isPot wsX12_within := goodIn_h _ [5] [0] (by decide +kernel) (by decide +kernel)
set_option maxRecDepth 20000 in
theorem gX12_isPot_X12_within : GoodIn wsX12_isPot (va_wsS RX12 168 yX12_within wsX12_within) := goodIn_app (goodIn_of _ (by decide +kernel)) ggX12_isPot_X12_within
theorem dX12_isPot_0 : decode cX12_isPot 0 = .ok (.iload_n 1, 1) := by decide +kernel
theorem dX12_isPot_1 : decode cX12_isPot 1 = .ok (.iconst 0, 1) := by decide +kernel
theorem dX12_isPot_2 : decode cX12_isPot 2 = .ok (.aload_n 0, 1) := by decide +kernel
theorem dX12_isPot_3 : decode cX12_isPot 3 = .ok (.getfield 197, 3) := by decide +kernel
theorem dX12_isPot_6 : decode cX12_isPot 6 = .ok (.iconst 1, 1) := by decide +kernel
theorem dX12_isPot_7 : decode cX12_isPot 7 = .ok (.isub, 1) := by decide +kernel
theorem dX12_isPot_8 : decode cX12_isPot 8 = .ok (.invokestatic 168, 3) := by decide +kernel
theorem dX12_isPot_11 : decode cX12_isPot 11 = .ok (.ireturn, 1) := by decide +kernel
set_option maxRecDepth 20000 in
theorem ggX12_target_X12_isPot : GoodIn wsX12_target wsX12_isPot := goodIn_h _ [6, 0, 0, 0, 0, 0, 0, 0, 0, 0, 0, 0, 0, 0, 0, 0, 0, 0, 0, 0, 0, 0, 0, 0, 0, 0, 0, 0, 0, 0, 0, 0, 0, 0, 0, 0, 0, 0, 0, 0, 0, 0, 0, 0, 0, 0, 0, 0, 0, 0, 0, 0, 0, 0, 0, 0, 0, 0, 0, 0, 0, 0, 0, 0, 0, 0, 0, 0, 0, 0, 0, 0] [1, 2, 3, 4, 0, 5, 6, 7, 8, 9, 10, 11, 12, 13, 14, 15, 16, 17, 18, 19, 20, 21, 22, 23, 24, 25, 26, 27, 28, 29, 30, 31, 32, 33, 34, 35, 36, 37, 38, 39, 40, 41, 42, 43, 44, 45, 46, 47, 48, 49, 50, 51, 52, 53, 54, 55, 56, 57, 58, 59, 60, 61, 62, 63, 64, 65, 66, 67, 68, 69, 70, 71] (by decide +kernel) (by decide +kernel)
set_option maxRecDepth 20000 in
theorem gX12_target_X12_isPot : GoodIn wsX12_target (wsV RX12 200 RX12 yX12_isPot wsX12_isPot) := goodIn_app (goodIn_of _ (by decide +kernel)) ggX12_target_X12_isPot
set_option maxRecDepth 20000 in
theorem ggX12_target_X12_within : GoodIn wsX12_target wsX12_within := goodIn_h _ [11] [0] (by decide +kernel) (by decide +kernel)
set_option maxRecDepth 20000 in
theorem gX12_target_X12_within : GoodIn wsX12_target (va_wsS RX12 168 yX12_within wsX12_within) := goodIn_app (goodIn_of _ (by decide +kernel)) ggX12_target_X12_within
theorem dX12_target_0 : decode cX12_target 0 = .ok (.aload_n 0, 1) := by decide +kernel
theorem dX12_target_1 : decode cX12_target 1 = .ok (.iconst 0, 1) := by decide +kernel
theorem dX12_target_2 : decode cX12_target 2 = .ok (.putfield 161, 3) := by decide +kernel
theorem dX12_target_5 : decode cX12_target 5 = .ok (.aload_n 0, 1) := by decide +kernel
theorem dX12_target_6 : decode cX12_target 6 = .ok (.iload_n 1, 1) := by decide +kernel
theorem dX12_target_7 : decode cX12_target 7 = .ok (.invokevirtual 200, 3) := by decide +kernel
theorem dX12_target_10 : decode cX12_target 10 = .ok (.ifCond .eq 15, 3) := by decide +kernel
theorem dX12_target_13 : decode cX12_target 13 = .ok (.iload_n 2, 1) := by decide +kernel
theorem dX12_target_14 : decode cX12_target 14 = .ok (.bipush 10, 2) := by decide +kernel
theorem dX12_target_16 : decode cX12_target 16 = .ok (.sipush 2000, 3) := by decide +kernel
theorem dX12_target_19 : decode cX12_target 19 = .ok (.invokestatic 168, 3) := by decide +kernel
theorem dX12_target_22 : decode cX12_target 22 = .ok (.ifCond .ne 5, 3) := by decide +kernel
theorem dX12_target_25 : decode cX12_target 25 = .ok (.iconst 0, 1) := by decide +kernel
theorem dX12_target_26 : decode cX12_target 26 = .ok (.ireturn, 1) := by decide +kernel
theorem dX12_target_27 : decode cX12_target 27 = .ok (.aload_n 0, 1) := by decide +kernel
theorem dX12_target_28 : decode cX12_target 28 = .ok (.getfield 37, 3) := by decide +kernel
theorem dX12_target_31 : decode cX12_target 31 = .ok (.iload_n 1, 1) := by decide +kernel
theorem dX12_target_32 : decode cX12_target 32 = .ok (.iload_n 2, 1) := by decide +kernel
theorem dX12_target_33 : decode cX12_target 33 = .ok (.iastore, 1) := by decide +kernel
theorem dX12_target_34 : decode cX12_target 34 = .ok (.iconst 1, 1) := by decide +kernel
theorem dX12_target_35 : decode cX12_target 35 = .ok (.ireturn, 1) := by decide +kernel
theorem dX12_at_0 : decode cX12_at 0 = .ok (.aload_n 0, 1) := by decide +kernel
theorem dX12_at_1 : decode cX12_at 1 = .ok (.getfield 55, 3) := by decide +kernel
theorem dX12_at_4 : decode cX12_at 4 = .ok (.sipush 600, 3) := by decide +kernel
theorem dX12_at_7 : decode cX12_at 7 = .ok (.iconst 3, 1) := by decide +kernel
theorem dX12_at_8 : decode cX12_at 8 = .ok (.iload_n 1, 1) := by decide +kernel
theorem dX12_at_9 : decode cX12_at 9 = .ok (.imul, 1) := by decide +kernel
theorem dX12_at_10 : decode cX12_at 10 = .ok (.iload_n 2, 1) := by decide +kernel
theorem dX12_at_11 : decode cX12_at 11 = .ok (.iadd, 1) := by decide +kernel
theorem dX12_at_12 : decode cX12_at 12 = .ok (.imul, 1) := by decide +kernel
theorem dX12_at_13 : decode cX12_at 13 = .ok (.iload_n 3, 1) := by decide +kernel
theorem dX12_at_14 : decode cX12_at 14 = .ok (.iadd, 1) := by decide +kernel
theorem dX12_at_15 : decode cX12_at 15 = .ok (.iaload, 1) := by decide +kernel
theorem dX12_at_16 : decode cX12_at 16 = .ok (.ireturn, 1) := by decide +kernel
theorem dX12_many_0 : decode cX12_many 0 = .ok (.aload_n 0, 1) := by decide +kernel
theorem dX12_many_1 : decode cX12_many 1 = .ok (.getfield 58, 3) := by decide +kernel
theorem dX12_many_4 : decode cX12_many 4 = .ok (.iconst 3, 1) := by decide +kernel
theorem dX12_many_5 : decode cX12_many 5 = .ok (.iload_n 1, 1) := by decide +kernel
theorem dX12_many_6 : decode cX12_many 6 = .ok (.imul, 1) := by decide +kernel
theorem dX12_many_7 : decode cX12_many 7 = .ok (.iload_n 2, 1) := by decide +kernel
theorem dX12_many_8 : decode cX12_many 8 = .ok (.iadd, 1) := by decide +kernel
theorem dX12_many_9 : decode cX12_many 9 = .ok (.iaload, 1) := by decide +kernel
theorem dX12_many_10 : decode cX12_many 10 = .ok (.ireturn, 1) := by decide +kernel
theorem dX12_feed_0 : decode cX12_feed 0 = .ok (.aload_n 0, 1) := by decide +kernel
theorem dX12_feed_1 : decode cX12_feed 1 = .ok (.iconst 0, 1) := by decide +kernel
theorem dX12_feed_2 : decode cX12_feed 2 = .ok (.putfield 161, 3) := by decide +kernel
theorem dX12_feed_5 : decode cX12_feed 5 = .ok (.aload_n 0, 1) := by decide +kernel
theorem dX12_feed_6 : decode cX12_feed 6 = .ok (.getfield 211, 3) := by decide +kernel
theorem dX12_feed_9 : decode cX12_feed 9 = .ok (.sipush 380, 3) := by decide +kernel
theorem dX12_feed_12 : decode cX12_feed 12 = .ok (.if_icmp .le 5, 3) := by decide +kernel
theorem dX12_feed_15 : decode cX12_feed 15 = .ok (.iconst (-1), 1) := by decide +kernel
theorem dX12_feed_16 : decode cX12_feed 16 = .ok (.ireturn, 1) := by decide +kernel
theorem dX12_feed_17 : decode cX12_feed 17 = .ok (.iconst 0, 1) := by decide +kernel
theorem dX12_feed_18 : decode cX12_feed 18 = .ok (.istore 6, 2) := by decide +kernel
theorem dX12_feed_20 : decode cX12_feed 20 = .ok (.iload 6, 2) := by decide +kernel
theorem dX12_feed_22 : decode cX12_feed 22 = .ok (.bipush 20, 2) := by decide +kernel
theorem dX12_feed_24 : decode cX12_feed 24 = .ok (.if_icmp .ge 90, 3) := by decide +kernel
theorem dX12_feed_27 : decode cX12_feed 27 = .ok (.iload 6, 2) := by decide +kernel
theorem dX12_feed_29 : decode cX12_feed 29 = .ok (.iconst 4, 1) := by decide +kernel
theorem dX12_feed_30 : decode cX12_feed 30 = .ok (.if_icmp .ge 7, 3) := by decide +kernel
theorem dX12_feed_33 : decode cX12_feed 33 = .ok (.iload_n 1, 1) := by decide +kernel
theorem dX12_feed_34 : decode cX12_feed 34 = .ok (.goto 39, 3) := by decide +kernel
theorem dX12_feed_37 : decode cX12_feed 37 = .ok (.iload 6, 2) := by decide +kernel
theorem dX12_feed_39 : decode cX12_feed 39 = .ok (.bipush 8, 2) := by decide +kernel
theorem dX12_feed_41 : decode cX12_feed 41 = .ok (.if_icmp .ge 7, 3) := by decide +kernel
theorem dX12_feed_44 : decode cX12_feed 44 = .ok (.iload_n 2, 1) := by decide +kernel
theorem dX12_feed_45 : decode cX12_feed 45 = .ok (.goto 28, 3) := by decide +kernel
theorem dX12_feed_48 : decode cX12_feed 48 = .ok (.iload 6, 2) := by decide +kernel
theorem dX12_feed_50 : decode cX12_feed 50 = .ok (.bipush 12, 2) := by decide +kernel
theorem dX12_feed_52 : decode cX12_feed 52 = .ok (.if_icmp .ge 7, 3) := by decide +kernel
theorem dX12_feed_55 : decode cX12_feed 55 = .ok (.iload_n 3, 1) := by decide +kernel
theorem dX12_feed_56 : decode cX12_feed 56 = .ok (.goto 17, 3) := by decide +kernel
theorem dX12_feed_59 : decode cX12_feed 59 = .ok (.iload 6, 2) := by decide +kernel
theorem dX12_feed_61 : decode cX12_feed 61 = .ok (.bipush 16, 2) := by decide +kernel
theorem dX12_feed_63 : decode cX12_feed 63 = .ok (.if_icmp .ge 8, 3) := by decide +kernel
theorem dX12_feed_66 : decode cX12_feed 66 = .ok (.iload 4, 2) := by decide +kernel
theorem dX12_feed_68 : decode cX12_feed 68 = .ok (.goto 5, 3) := by decide +kernel
theorem dX12_feed_71 : decode cX12_feed 71 = .ok (.iload 5, 2) := by decide +kernel
theorem dX12_feed_73 : decode cX12_feed 73 = .ok (.istore 7, 2) := by decide +kernel
theorem dX12_feed_75 : decode cX12_feed 75 = .ok (.aload_n 0, 1) := by decide +kernel
theorem dX12_feed_76 : decode cX12_feed 76 = .ok (.getfield 82, 3) := by decide +kernel
theorem dX12_feed_79 : decode cX12_feed 79 = .ok (.aload_n 0, 1) := by decide +kernel
theorem dX12_feed_80 : decode cX12_feed 80 = .ok (.getfield 211, 3) := by decide +kernel
theorem dX12_feed_83 : decode cX12_feed 83 = .ok (.iload 7, 2) := by decide +kernel
theorem dX12_feed_85 : decode cX12_feed 85 = .ok (.bipush 24, 2) := by decide +kernel
theorem dX12_feed_87 : decode cX12_feed 87 = .ok (.bipush 8, 2) := by decide +kernel
theorem dX12_feed_89 : decode cX12_feed 89 = .ok (.iload 6, 2) := by decide +kernel
theorem dX12_feed_91 : decode cX12_feed 91 = .ok (.iconst 4, 1) := by decide +kernel
theorem dX12_feed_92 : decode cX12_feed 92 = .ok (.irem, 1) := by decide +kernel
theorem dX12_feed_93 : decode cX12_feed 93 = .ok (.imul, 1) := by decide +kernel
theorem dX12_feed_94 : decode cX12_feed 94 = .ok (.isub, 1) := by decide +kernel
theorem dX12_feed_95 : decode cX12_feed 95 = .ok (.ishr, 1) := by decide +kernel
theorem dX12_feed_96 : decode cX12_feed 96 = .ok (.i2b, 1) := by decide +kernel
theorem dX12_feed_97 : decode cX12_feed 97 = .ok (.bastore, 1) := by decide +kernel
theorem dX12_feed_98 : decode cX12_feed 98 = .ok (.aload_n 0, 1) := by decide +kernel
theorem dX12_feed_99 : decode cX12_feed 99 = .ok (.dup, 1) := by decide +kernel
theorem dX12_feed_100 : decode cX12_feed 100 = .ok (.getfield 211, 3) := by decide +kernel
theorem dX12_feed_103 : decode cX12_feed 103 = .ok (.iconst 1, 1) := by decide +kernel
theorem dX12_feed_104 : decode cX12_feed 104 = .ok (.iadd, 1) := by decide +kernel
theorem dX12_feed_105 : decode cX12_feed 105 = .ok (.putfield 211, 3) := by decide +kernel
theorem dX12_feed_108 : decode cX12_feed 108 = .ok (.iinc 6 1, 3) := by decide +kernel
theorem dX12_feed_111 : decode cX12_feed 111 = .ok (.goto (-91), 3) := by decide +kernel
theorem dX12_feed_114 : decode cX12_feed 114 = .ok (.aload_n 0, 1) := by decide +kernel
theorem dX12_feed_115 : decode cX12_feed 115 = .ok (.getfield 211, 3) := by decide +kernel
theorem dX12_feed_118 : decode cX12_feed 118 = .ok (.ireturn, 1) := by decide +kernel
set_option maxRecDepth 20000 in
theorem ggX12_end_X12_within : GoodIn wsX12_end wsX12_within := goodIn_h _ [6] [0] (by decide +kernel) (by decide +kernel)
set_option maxRecDepth 20000 in
theorem gX12_end_X12_within : GoodIn wsX12_end (va_wsS RX12 168 yX12_within wsX12_within) := goodIn_app (goodIn_of _ (by decide +kernel)) ggX12_end_X12_within
theorem dX12_end_0 : decode cX12_end 0 = .ok (.aload_n 0, 1) := by decide +kernel
theorem dX12_end_1 : decode cX12_end 1 = .ok (.iconst 0, 1) := by decide +kernel
theorem dX12_end_2 : decode cX12_end 2 = .ok (.putfield 161, 3) := by decide +kernel
theorem dX12_end_5 : decode cX12_end 5 = .ok (.iload_n 1, 1) := by decide +kernel
theorem dX12_end_6 : decode cX12_end 6 = .ok (.iconst 0, 1) := by decide +kernel
theorem dX12_end_7 : decode cX12_end 7 = .ok (.aload_n 0, 1) := by decide +kernel
theorem dX12_end_8 : decode cX12_end 8 = .ok (.getfield 211, 3) := by decide +kernel
theorem dX12_end_11 : decode cX12_end 11 = .ok (.invokestatic 168, 3) := by decide +kernel
theorem dX12_end_14 : decode cX12_end 14 = .ok (.ifCond .ne 5, 3) := by decide +kernel
theorem dX12_end_17 : decode cX12_end 17 = .ok (.iconst (-1), 1) := by decide +kernel
theorem dX12_end_18 : decode cX12_end 18 = .ok (.ireturn, 1) := by decide +kernel
theorem dX12_end_19 : decode cX12_end 19 = .ok (.aload_n 0, 1) := by decide +kernel
theorem dX12_end_20 : decode cX12_end 20 = .ok (.iload_n 1, 1) := by decide +kernel
theorem dX12_end_21 : decode cX12_end 21 = .ok (.putfield 211, 3) := by decide +kernel
theorem dX12_end_24 : decode cX12_end 24 = .ok (.iload_n 1, 1) := by decide +kernel
theorem dX12_end_25 : decode cX12_end 25 = .ok (.ireturn, 1) := by decide +kernel
theorem dX12_byteAt_0 : decode cX12_byteAt 0 = .ok (.iload_n 1, 1) := by decide +kernel
theorem dX12_byteAt_1 : decode cX12_byteAt 1 = .ok (.aload_n 0, 1) := by decide +kernel
theorem dX12_byteAt_2 : decode cX12_byteAt 2 = .ok (.getfield 211, 3) := by decide +kernel
theorem dX12_byteAt_5 : decode cX12_byteAt 5 = .ok (.if_icmp .ge 16, 3) := by decide +kernel
theorem dX12_byteAt_8 : decode cX12_byteAt 8 = .ok (.aload_n 0, 1) := by decide +kernel
theorem dX12_byteAt_9 : decode cX12_byteAt 9 = .ok (.getfield 82, 3) := by decide +kernel
theorem dX12_byteAt_12 : decode cX12_byteAt 12 = .ok (.iload_n 1, 1) := by decide +kernel
theorem dX12_byteAt_13 : decode cX12_byteAt 13 = .ok (.baload, 1) := by decide +kernel
theorem dX12_byteAt_14 : decode cX12_byteAt 14 = .ok (.sipush 255, 3) := by decide +kernel
theorem dX12_byteAt_17 : decode cX12_byteAt 17 = .ok (.iand, 1) := by decide +kernel
theorem dX12_byteAt_18 : decode cX12_byteAt 18 = .ok (.goto 4, 3) := by decide +kernel
theorem dX12_byteAt_21 : decode cX12_byteAt 21 = .ok (.iconst 0, 1) := by decide +kernel
theorem dX12_byteAt_22 : decode cX12_byteAt 22 = .ok (.ireturn, 1) := by decide +kernel
set_option maxRecDepth 20000 in
theorem ggX12_token_X12_byteAt : GoodIn wsX12_token wsX12_byteAt := goodIn_h _ [3, 6, 0, 3, 0, 0, 0, 0, 0, 0, 0, 0, 0, 0, 0, 0, 0, 0, 0, 0, 0, 0, 0, 0, 0, 0, 0, 0, 0, 0, 0, 0, 0, 0, 0, 0, 0, 0, 0, 0, 0, 0, 0, 0, 0, 0, 0, 0, 0, 0, 0, 0, 0, 0, 0, 0, 0, 0, 0, 0, 0, 0, 0, 0, 0, 0, 0, 0, 0] [1, 0, 2, 3, 4, 5, 6, 7, 8, 9, 10, 11, 12, 13, 14, 15, 16, 17, 18, 19, 20, 21, 22, 23, 24, 25, 26, 27, 28, 29, 30, 31, 32, 33, 34, 35, 36, 37, 38, 39, 40, 41, 42, 43, 44, 45, 46, 47, 48, 49, 50, 51, 52, 53, 54, 55, 56, 57, 58, 59, 60, 61, 62, 63, 64, 65, 66, 67, 68] (by decide +kernel) (by decide +kernel)
set_option maxRecDepth 20000 in
theorem gX12_token_X12_byteAt : GoodIn wsX12_token (wsV RX12 220 RX12 yX12_byteAt wsX12_byteAt) := goodIn_app (goodIn_of _ (by decide +kernel)) ggX12_token_X12_byteAt
set_option maxRecDepth 20000 in
theorem ggX12_token_X12_within : GoodIn wsX12_token wsX12_within := goodIn_h _ [14] [0] (by decide +kernel) (by decide +kernel)
set_option maxRecDepth 20000 in
theorem gX12_token_X12_within : GoodIn wsX12_token (va_wsS RX12 168 yX12_within wsX12_within) := goodIn_app (goodIn_of _ (by decide +kernel)) ggX12_token_X12_within
theorem dX12_token_0 : decode cX12_token 0 = .ok (.aload_n 0, 1) := by decide +kernel
theorem dX12_token_1 : decode cX12_token 1 = .ok (.aload_n 0, 1) := by decide +kernel
theorem dX12_token_2 : decode cX12_token 2 = .ok (.getfield 214, 3) := by decide +kernel
theorem dX12_token_5 : decode cX12_token 5 = .ok (.putfield 217, 3) := by decide +kernel
theorem dX12_token_8 : decode cX12_token 8 = .ok (.aload_n 0, 1) := by decide +kernel
theorem dX12_token_9 : decode cX12_token 9 = .ok (.aload_n 0, 1) := by decide +kernel
theorem dX12_token_10 : decode cX12_token 10 = .ok (.getfield 217, 3) := by decide +kernel
theorem dX12_token_13 : decode cX12_token 13 = .ok (.invokevirtual 220, 3) := by decide +kernel
theorem dX12_token_16 : decode cX12_token 16 = .ok (.bipush 32, 2) := by decide +kernel
theorem dX12_token_18 : decode cX12_token 18 = .ok (.if_icmp .eq 16, 3) := by decide +kernel
theorem dX12_token_21 : decode cX12_token 21 = .ok (.aload_n 0, 1) := by decide +kernel
theorem dX12_token_22 : decode cX12_token 22 = .ok (.aload_n 0, 1) := by decide +kernel
theorem dX12_token_23 : decode cX12_token 23 = .ok (.getfield 217, 3) := by decide +kernel
theorem dX12_token_26 : decode cX12_token 26 = .ok (.invokevirtual 220, 3) := by decide +kernel
theorem dX12_token_29 : decode cX12_token 29 = .ok (.bipush 10, 2) := by decide +kernel
theorem dX12_token_31 : decode cX12_token 31 = .ok (.if_icmp .ne 16, 3) := by decide +kernel
theorem dX12_token_34 : decode cX12_token 34 = .ok (.aload_n 0, 1) := by decide +kernel
theorem dX12_token_35 : decode cX12_token 35 = .ok (.dup, 1) := by decide +kernel
theorem dX12_token_36 : decode cX12_token 36 = .ok (.getfield 217, 3) := by decide +kernel
theorem dX12_token_39 : decode cX12_token 39 = .ok (.iconst 1, 1) := by decide +kernel
theorem dX12_token_40 : decode cX12_token 40 = .ok (.iadd, 1) := by decide +kernel
theorem dX12_token_41 : decode cX12_token 41 = .ok (.putfield 217, 3) := by decide +kernel
theorem dX12_token_44 : decode cX12_token 44 = .ok (.goto (-36), 3) := by decide +kernel
theorem dX12_token_47 : decode cX12_token 47 = .ok (.aload_n 0, 1) := by decide +kernel
theorem dX12_token_48 : decode cX12_token 48 = .ok (.aload_n 0, 1) := by decide +kernel
theorem dX12_token_49 : decode cX12_token 49 = .ok (.getfield 217, 3) := by decide +kernel
theorem dX12_token_52 : decode cX12_token 52 = .ok (.putfield 214, 3) := by decide +kernel
theorem dX12_token_55 : decode cX12_token 55 = .ok (.aload_n 0, 1) := by decide +kernel
theorem dX12_token_56 : decode cX12_token 56 = .ok (.aload_n 0, 1) := by decide +kernel
theorem dX12_token_57 : decode cX12_token 57 = .ok (.getfield 217, 3) := by decide +kernel
theorem dX12_token_60 : decode cX12_token 60 = .ok (.invokevirtual 220, 3) := by decide +kernel
theorem dX12_token_63 : decode cX12_token 63 = .ok (.istore_n 1, 1) := by decide +kernel
theorem dX12_token_64 : decode cX12_token 64 = .ok (.aload_n 0, 1) := by decide +kernel
theorem dX12_token_65 : decode cX12_token 65 = .ok (.getfield 217, 3) := by decide +kernel
theorem dX12_token_68 : decode cX12_token 68 = .ok (.aload_n 0, 1) := by decide +kernel
theorem dX12_token_69 : decode cX12_token 69 = .ok (.getfield 211, 3) := by decide +kernel
theorem dX12_token_72 : decode cX12_token 72 = .ok (.if_icmp .lt 11, 3) := by decide +kernel
theorem dX12_token_75 : decode cX12_token 75 = .ok (.aload_n 0, 1) := by decide +kernel
theorem dX12_token_76 : decode cX12_token 76 = .ok (.iconst 0, 1) := by decide +kernel
theorem dX12_token_77 : decode cX12_token 77 = .ok (.putfield 223, 3) := by decide +kernel
theorem dX12_token_80 : decode cX12_token 80 = .ok (.goto 228, 3) := by decide +kernel
theorem dX12_token_83 : decode cX12_token 83 = .ok (.iload_n 1, 1) := by decide +kernel
theorem dX12_token_84 : decode cX12_token 84 = .ok (.bipush 97, 2) := by decide +kernel
theorem dX12_token_86 : decode cX12_token 86 = .ok (.bipush 122, 2) := by decide +kernel
theorem dX12_token_88 : decode cX12_token 88 = .ok (.invokestatic 168, 3) := by decide +kernel
theorem dX12_token_91 : decode cX12_token 91 = .ok (.ifCond .eq 60, 3) := by decide +kernel
theorem dX12_token_94 : decode cX12_token 94 = .ok (.aload_n 0, 1) := by decide +kernel
theorem dX12_token_95 : decode cX12_token 95 = .ok (.aload_n 0, 1) := by decide +kernel
theorem dX12_token_96 : decode cX12_token 96 = .ok (.getfield 214, 3) := by decide +kernel
theorem dX12_token_99 : decode cX12_token 99 = .ok (.invokevirtual 220, 3) := by decide +kernel
theorem dX12_token_102 : decode cX12_token 102 = .ok (.bipush 97, 2) := by decide +kernel
theorem dX12_token_104 : decode cX12_token 104 = .ok (.bipush 122, 2) := by decide +kernel
theorem dX12_token_106 : decode cX12_token 106 = .ok (.invokestatic 168, 3) := by decide +kernel
theorem dX12_token_109 : decode cX12_token 109 = .ok (.ifCond .eq 16, 3) := by decide +kernel
theorem dX12_token_112 : decode cX12_token 112 = .ok (.aload_n 0, 1) := by decide +kernel
theorem dX12_token_113 : decode cX12_token 113 = .ok (.dup, 1) := by decide +kernel
theorem dX12_token_114 : decode cX12_token 114 = .ok (.getfield 214, 3) := by decide +kernel
theorem dX12_token_117 : decode cX12_token 117 = .ok (.iconst 1, 1) := by decide +kernel
theorem dX12_token_118 : decode cX12_token 118 = .ok (.iadd, 1) := by decide +kernel
theorem dX12_token_119 : decode cX12_token 119 = .ok (.putfield 214, 3) := by decide +kernel
theorem dX12_token_122 : decode cX12_token 122 = .ok (.goto (-28), 3) := by decide +kernel
theorem dX12_token_125 : decode cX12_token 125 = .ok (.aload_n 0, 1) := by decide +kernel
theorem dX12_token_126 : decode cX12_token 126 = .ok (.aload_n 0, 1) := by decide +kernel
theorem dX12_token_127 : decode cX12_token 127 = .ok (.getfield 214, 3) := by decide +kernel
theorem dX12_token_130 : decode cX12_token 130 = .ok (.aload_n 0, 1) := by decide +kernel
theorem dX12_token_131 : decode cX12_token 131 = .ok (.getfield 217, 3) := by decide +kernel
theorem dX12_token_134 : decode cX12_token 134 = .ok (.isub, 1) := by decide +kernel
theorem dX12_token_135 : decode cX12_token 135 = .ok (.bipush 8, 2) := by decide +kernel
theorem dX12_token_137 : decode cX12_token 137 = .ok (.if_icmp .le 7, 3) := by decide +kernel
theorem dX12_token_140 : decode cX12_token 140 = .ok (.iconst 4, 1) := by decide +kernel
theorem dX12_token_141 : decode cX12_token 141 = .ok (.goto 4, 3) := by decide +kernel
theorem dX12_token_144 : decode cX12_token 144 = .ok (.iconst 1, 1) := by decide +kernel
theorem dX12_token_145 : decode cX12_token 145 = .ok (.putfield 223, 3) := by decide +kernel
theorem dX12_token_148 : decode cX12_token 148 = .ok (.goto 160, 3) := by decide +kernel
theorem dX12_token_151 : decode cX12_token 151 = .ok (.iload_n 1, 1) := by decide +kernel
theorem dX12_token_152 : decode cX12_token 152 = .ok (.bipush 48, 2) := by decide +kernel
theorem dX12_token_154 : decode cX12_token 154 = .ok (.bipush 57, 2) := by decide +kernel
theorem dX12_token_156 : decode cX12_token 156 = .ok (.invokestatic 168, 3) := by decide +kernel
theorem dX12_token_159 : decode cX12_token 159 = .ok (.ifCond .eq 100, 3) := by decide +kernel
theorem dX12_token_162 : decode cX12_token 162 = .ok (.aload_n 0, 1) := by decide +kernel
theorem dX12_token_163 : decode cX12_token 163 = .ok (.iconst 0, 1) := by decide +kernel
theorem dX12_token_164 : decode cX12_token 164 = .ok (.putfield 226, 3) := by decide +kernel
theorem dX12_token_167 : decode cX12_token 167 = .ok (.aload_n 0, 1) := by decide +kernel
theorem dX12_token_168 : decode cX12_token 168 = .ok (.aload_n 0, 1) := by decide +kernel
theorem dX12_token_169 : decode cX12_token 169 = .ok (.getfield 214, 3) := by decide +kernel
theorem dX12_token_172 : decode cX12_token 172 = .ok (.invokevirtual 220, 3) := by decide +kernel
theorem dX12_token_175 : decode cX12_token 175 = .ok (.bipush 48, 2) := by decide +kernel
theorem dX12_token_177 : decode cX12_token 177 = .ok (.bipush 57, 2) := by decide +kernel
theorem dX12_token_179 : decode cX12_token 179 = .ok (.invokestatic 168, 3) := by decide +kernel
theorem dX12_token_182 : decode cX12_token 182 = .ok (.ifCond .eq 52, 3) := by decide +kernel
theorem dX12_token_185 : decode cX12_token 185 = .ok (.aload_n 0, 1) := by decide +kernel
theorem dX12_token_186 : decode cX12_token 186 = .ok (.getfield 214, 3) := by decide +kernel
theorem dX12_token_189 : decode cX12_token 189 = .ok (.aload_n 0, 1) := by decide +kernel
theorem dX12_token_190 : decode cX12_token 190 = .ok (.getfield 217, 3) := by decide +kernel
theorem dX12_token_193 : decode cX12_token 193 = .ok (.isub, 1) := by decide +kernel
theorem dX12_token_194 : decode cX12_token 194 = .ok (.iconst 4, 1) := by decide +kernel
theorem dX12_token_195 : decode cX12_token 195 = .ok (.if_icmp .ge 26, 3) := by decide +kernel
theorem dX12_token_198 : decode cX12_token 198 = .ok (.aload_n 0, 1) := by decide +kernel
theorem dX12_token_199 : decode cX12_token 199 = .ok (.bipush 10, 2) := by decide +kernel
theorem dX12_token_201 : decode cX12_token 201 = .ok (.aload_n 0, 1) := by decide +kernel
theorem dX12_token_202 : decode cX12_token 202 = .ok (.getfield 226, 3) := by decide +kernel
theorem dX12_token_205 : decode cX12_token 205 = .ok (.imul, 1) := by decide +kernel
theorem dX12_token_206 : decode cX12_token 206 = .ok (.aload_n 0, 1) := by decide +kernel
theorem dX12_token_207 : decode cX12_token 207 = .ok (.aload_n 0, 1) := by decide +kernel
theorem dX12_token_208 : decode cX12_token 208 = .ok (.getfield 214, 3) := by decide +kernel
theorem dX12_token_211 : decode cX12_token 211 = .ok (.invokevirtual 220, 3) := by decide +kernel
theorem dX12_token_214 : decode cX12_token 214 = .ok (.iadd, 1) := by decide +kernel
theorem dX12_token_215 : decode cX12_token 215 = .ok (.bipush 48, 2) := by decide +kernel
theorem dX12_token_217 : decode cX12_token 217 = .ok (.isub, 1) := by decide +kernel
theorem dX12_token_218 : decode cX12_token 218 = .ok (.putfield 226, 3) := by decide +kernel
theorem dX12_token_221 : decode cX12_token 221 = .ok (.aload_n 0, 1) := by decide +kernel
theorem dX12_token_222 : decode cX12_token 222 = .ok (.dup, 1) := by decide +kernel
theorem dX12_token_223 : decode cX12_token 223 = .ok (.getfield 214, 3) := by decide +kernel
theorem dX12_token_226 : decode cX12_token 226 = .ok (.iconst 1, 1) := by decide +kernel
theorem dX12_token_227 : decode cX12_token 227 = .ok (.iadd, 1) := by decide +kernel
theorem dX12_token_228 : decode cX12_token 228 = .ok (.putfield 214, 3) := by decide +kernel
theorem dX12_token_231 : decode cX12_token 231 = .ok (.goto (-64), 3) := by decide +kernel
theorem dX12_token_234 : decode cX12_token 234 = .ok (.aload_n 0, 1) := by decide +kernel
theorem dX12_token_235 : decode cX12_token 235 = .ok (.aload_n 0, 1) := by decide +kernel
theorem dX12_token_236 : decode cX12_token 236 = .ok (.getfield 214, 3) := by decide +kernel
theorem dX12_token_239 : decode cX12_token 239 = .ok (.aload_n 0, 1) := by decide +kernel
theorem dX12_token_240 : decode cX12_token 240 = .ok (.getfield 217, 3) := by decide +kernel
theorem dX12_token_243 : decode cX12_token 243 = .ok (.isub, 1) := by decide +kernel
theorem dX12_token_244 : decode cX12_token 244 = .ok (.iconst 4, 1) := by decide +kernel
theorem dX12_token_245 : decode cX12_token 245 = .ok (.if_icmp .le 7, 3) := by decide +kernel
theorem dX12_token_248 : decode cX12_token 248 = .ok (.iconst 4, 1) := by decide +kernel
theorem dX12_token_249 : decode cX12_token 249 = .ok (.goto 4, 3) := by decide +kernel
theorem dX12_token_252 : decode cX12_token 252 = .ok (.iconst 2, 1) := by decide +kernel
theorem dX12_token_253 : decode cX12_token 253 = .ok (.putfield 223, 3) := by decide +kernel
theorem dX12_token_256 : decode cX12_token 256 = .ok (.goto 52, 3) := by decide +kernel
theorem dX12_token_259 : decode cX12_token 259 = .ok (.aload_n 0, 1) := by decide +kernel
theorem dX12_token_260 : decode cX12_token 260 = .ok (.dup, 1) := by decide +kernel
theorem dX12_token_261 : decode cX12_token 261 = .ok (.getfield 214, 3) := by decide +kernel
theorem dX12_token_264 : decode cX12_token 264 = .ok (.iconst 1, 1) := by decide +kernel
theorem dX12_token_265 : decode cX12_token 265 = .ok (.iadd, 1) := by decide +kernel
theorem dX12_token_266 : decode cX12_token 266 = .ok (.putfield 214, 3) := by decide +kernel
theorem dX12_token_269 : decode cX12_token 269 = .ok (.aload_n 0, 1) := by decide +kernel
theorem dX12_token_270 : decode cX12_token 270 = .ok (.iload_n 1, 1) := by decide +kernel
theorem dX12_token_271 : decode cX12_token 271 = .ok (.bipush 60, 2) := by decide +kernel
theorem dX12_token_273 : decode cX12_token 273 = .ok (.if_icmp .eq 27, 3) := by decide +kernel
theorem dX12_token_276 : decode cX12_token 276 = .ok (.iload_n 1, 1) := by decide +kernel
theorem dX12_token_277 : decode cX12_token 277 = .ok (.bipush 61, 2) := by decide +kernel
theorem dX12_token_279 : decode cX12_token 279 = .ok (.if_icmp .eq 21, 3) := by decide +kernel
theorem dX12_token_282 : decode cX12_token 282 = .ok (.iload_n 1, 1) := by decide +kernel
theorem dX12_token_283 : decode cX12_token 283 = .ok (.bipush 62, 2) := by decide +kernel
theorem dX12_token_285 : decode cX12_token 285 = .ok (.if_icmp .eq 15, 3) := by decide +kernel
theorem dX12_token_288 : decode cX12_token 288 = .ok (.iload_n 1, 1) := by decide +kernel
theorem dX12_token_289 : decode cX12_token 289 = .ok (.bipush 58, 2) := by decide +kernel
theorem dX12_token_291 : decode cX12_token 291 = .ok (.if_icmp .eq 9, 3) := by decide +kernel
theorem dX12_token_294 : decode cX12_token 294 = .ok (.iload_n 1, 1) := by decide +kernel
theorem dX12_token_295 : decode cX12_token 295 = .ok (.bipush 59, 2) := by decide +kernel
theorem dX12_token_297 : decode cX12_token 297 = .ok (.if_icmp .ne 7, 3) := by decide +kernel
theorem dX12_token_300 : decode cX12_token 300 = .ok (.iconst 3, 1) := by decide +kernel
theorem dX12_token_301 : decode cX12_token 301 = .ok (.goto 4, 3) := by decide +kernel
theorem dX12_token_304 : decode cX12_token 304 = .ok (.iconst 4, 1) := by decide +kernel
theorem dX12_token_305 : decode cX12_token 305 = .ok (.putfield 223, 3) := by decide +kernel
theorem dX12_token_308 : decode cX12_token 308 = .ok (.return_, 1) := by decide +kernel
set_option maxRecDepth 20000 in
theorem ggX12_is_J0_length_8abf5 : GoodIn wsX12_is wsJ0_length_8abf5 := goodIn_h _ [7, 0, 0, 0, 0, 0, 0, 0, 0] [1, 2, 3, 4, 5, 0, 6, 7, 8] (by decide +kernel) (by decide +kernel)
set_option maxRecDepth 20000 in
theorem gX12_is_J0_length_8abf5 : GoodIn wsX12_is (wsV RX12 232 RJ0 yJ0_length_8abf5 wsJ0_length_8abf5) := goodIn_app (goodIn_of _ (by decide +kernel)) ggX12_is_J0_length_8abf5
set_option maxRecDepth 20000 in
theorem ggX12_is_X12_byteAt : GoodIn wsX12_is wsX12_byteAt := goodIn_h _ [20, 0, 0, 37, 0, 0, 0, 0, 0, 0, 0, 0, 0, 0, 0, 0, 0, 0, 0, 0, 0, 0, 0, 0, 0, 0, 0, 0, 0, 0, 0, 0, 0, 0, 0, 0, 0, 0, 0, 0, 0, 0, 0, 0, 0, 0, 0, 0, 0, 0, 0, 0, 0, 0, 0, 0, 0, 0, 0, 0, 0, 0, 0, 0, 0, 0, 0, 0, 0] [0, 1, 2, 3, 4, 5, 6, 7, 8, 9, 10, 11, 12, 13, 14, 15, 16, 17, 18, 19, 20, 21, 22, 23, 24, 25, 26, 27, 28, 29, 30, 31, 32, 33, 34, 35, 36, 37, 38, 39, 40, 41, 42, 43, 44, 45, 46, 47, 48, 49, 50, 51, 52, 53, 54, 55, 56, 57, 58, 59, 60, 61, 62, 63, 64, 65, 66, 67, 68] (by decide +kernel) (by decide +kernel)
set_option maxRecDepth 20000 in
theorem gX12_is_X12_byteAt : GoodIn wsX12_is (wsV RX12 220 RX12 yX12_byteAt wsX12_byteAt) := goodIn_app (goodIn_of _ (by decide +kernel)) ggX12_is_X12_byteAt
set_option maxRecDepth 20000 in
theorem ggX12_is_J0_charAt_5068e : GoodIn wsX12_is wsJ0_charAt_5068e := goodIn_h _ [7, 1, 4, 0, 10, 0, 0, 0, 0, 0, 0, 0, 0, 0, 0, 0, 0, 0, 0, 0, 0, 0, 0, 0, 0, 0, 0, 0, 0, 0, 0, 0, 0, 0, 0, 0, 0, 0] [4, 1, 5, 6, 7, 0, 8, 2, 3, 9, 10, 11, 12, 13, 14, 15, 16, 17, 18, 19, 20, 21, 22, 23, 24, 25, 26, 27, 28, 29, 30, 31, 32, 33, 34, 35, 36, 37] (by decide +kernel) (by decide +kernel)
set_option maxRecDepth 20000 in
theorem gX12_is_J0_charAt_5068e : GoodIn wsX12_is (wsV RX12 238 RJ0 yJ0_charAt_5068e wsJ0_charAt_5068e) := goodIn_app (goodIn_of _ (by decide +kernel)) ggX12_is_J0_charAt_5068e
theorem dX12_is_0 : decode cX12_is 0 = .ok (.aload_n 0, 1) := by decide +kernel
theorem dX12_is_1 : decode cX12_is 1 = .ok (.getfield 229, 3) := by decide +kernel
theorem dX12_is_4 : decode cX12_is 4 = .ok (.ifCond .ne 23, 3) := by decide +kernel
theorem dX12_is_7 : decode cX12_is 7 = .ok (.aload_n 0, 1) := by decide +kernel
theorem dX12_is_8 : decode cX12_is 8 = .ok (.getfield 214, 3) := by decide +kernel
theorem dX12_is_11 : decode cX12_is 11 = .ok (.aload_n 0, 1) := by decide +kernel
theorem dX12_is_12 : decode cX12_is 12 = .ok (.getfield 217, 3) := by decide +kernel
theorem dX12_is_15 : decode cX12_is 15 = .ok (.isub, 1) := by decide +kernel
theorem dX12_is_16 : decode cX12_is 16 = .ok (.aload_n 1, 1) := by decide +kernel
theorem dX12_is_17 : decode cX12_is 17 = .ok (.invokevirtual 232, 3) := by decide +kernel
theorem dX12_is_20 : decode cX12_is 20 = .ok (.if_icmp .ne 7, 3) := by decide +kernel
theorem dX12_is_23 : decode cX12_is 23 = .ok (.iconst 1, 1) := by decide +kernel
theorem dX12_is_24 : decode cX12_is 24 = .ok (.goto 4, 3) := by decide +kernel
theorem dX12_is_27 : decode cX12_is 27 = .ok (.iconst 0, 1) := by decide +kernel
theorem dX12_is_28 : decode cX12_is 28 = .ok (.istore_n 2, 1) := by decide +kernel
theorem dX12_is_29 : decode cX12_is 29 = .ok (.iconst 0, 1) := by decide +kernel
theorem dX12_is_30 : decode cX12_is 30 = .ok (.istore_n 3, 1) := by decide +kernel
theorem dX12_is_31 : decode cX12_is 31 = .ok (.iload_n 3, 1) := by decide +kernel
theorem dX12_is_32 : decode cX12_is 32 = .ok (.aload_n 1, 1) := by decide +kernel
theorem dX12_is_33 : decode cX12_is 33 = .ok (.invokevirtual 232, 3) := by decide +kernel
theorem dX12_is_36 : decode cX12_is 36 = .ok (.if_icmp .ge 37, 3) := by decide +kernel
theorem dX12_is_39 : decode cX12_is 39 = .ok (.iload_n 2, 1) := by decide +kernel
theorem dX12_is_40 : decode cX12_is 40 = .ok (.ifCond .eq 33, 3) := by decide +kernel
theorem dX12_is_43 : decode cX12_is 43 = .ok (.aload_n 0, 1) := by decide +kernel
theorem dX12_is_44 : decode cX12_is 44 = .ok (.aload_n 0, 1) := by decide +kernel
theorem dX12_is_45 : decode cX12_is 45 = .ok (.getfield 217, 3) := by decide +kernel
theorem dX12_is_48 : decode cX12_is 48 = .ok (.iload_n 3, 1) := by decide +kernel
theorem dX12_is_49 : decode cX12_is 49 = .ok (.iadd, 1) := by decide +kernel
theorem dX12_is_50 : decode cX12_is 50 = .ok (.invokevirtual 220, 3) := by decide +kernel
theorem dX12_is_53 : decode cX12_is 53 = .ok (.aload_n 1, 1) := by decide +kernel
theorem dX12_is_54 : decode cX12_is 54 = .ok (.iload_n 3, 1) := by decide +kernel
theorem dX12_is_55 : decode cX12_is 55 = .ok (.invokevirtual 238, 3) := by decide +kernel
theorem dX12_is_58 : decode cX12_is 58 = .ok (.if_icmp .ne 7, 3) := by decide +kernel
theorem dX12_is_61 : decode cX12_is 61 = .ok (.iconst 1, 1) := by decide +kernel
theorem dX12_is_62 : decode cX12_is 62 = .ok (.goto 4, 3) := by decide +kernel
theorem dX12_is_65 : decode cX12_is 65 = .ok (.iconst 0, 1) := by decide +kernel
theorem dX12_is_66 : decode cX12_is 66 = .ok (.istore_n 2, 1) := by decide +kernel
theorem dX12_is_67 : decode cX12_is 67 = .ok (.iinc 3 1, 3) := by decide +kernel
theorem dX12_is_70 : decode cX12_is 70 = .ok (.goto (-39), 3) := by decide +kernel
theorem dX12_is_73 : decode cX12_is 73 = .ok (.iload_n 2, 1) := by decide +kernel
theorem dX12_is_74 : decode cX12_is 74 = .ok (.ireturn, 1) := by decide +kernel
theorem dX12_wrong_0 : decode cX12_wrong 0 = .ok (.aload_n 0, 1) := by decide +kernel
theorem dX12_wrong_1 : decode cX12_wrong 1 = .ok (.getfield 229, 3) := by decide +kernel
theorem dX12_wrong_4 : decode cX12_wrong 4 = .ok (.ifCond .ne 16, 3) := by decide +kernel
theorem dX12_wrong_7 : decode cX12_wrong 7 = .ok (.aload_n 0, 1) := by decide +kernel
theorem dX12_wrong_8 : decode cX12_wrong 8 = .ok (.iload_n 1, 1) := by decide +kernel
theorem dX12_wrong_9 : decode cX12_wrong 9 = .ok (.putfield 229, 3) := by decide +kernel
theorem dX12_wrong_12 : decode cX12_wrong 12 = .ok (.aload_n 0, 1) := by decide +kernel
theorem dX12_wrong_13 : decode cX12_wrong 13 = .ok (.aload_n 0, 1) := by decide +kernel
theorem dX12_wrong_14 : decode cX12_wrong 14 = .ok (.getfield 217, 3) := by decide +kernel
theorem dX12_wrong_17 : decode cX12_wrong 17 = .ok (.putfield 86, 3) := by decide +kernel
theorem dX12_wrong_20 : decode cX12_wrong 20 = .ok (.iconst 0, 1) := by decide +kernel
theorem dX12_wrong_21 : decode cX12_wrong 21 = .ok (.ireturn, 1) := by decide +kernel
set_option maxRecDepth 20000 in
theorem ggX12_must_X12_is : GoodIn wsX12_must wsX12_is := goodIn_h _ [4, 0, 0, 0, 0, 0, 0, 0, 0, 0, 0, 0, 0, 0, 0, 0, 0, 0, 0, 0, 0, 0, 0, 0, 0, 0, 0, 0, 0, 0, 0, 0, 0, 0, 0, 0, 0, 0, 0, 0, 0, 0, 0, 0, 0, 0, 0, 0, 0, 0, 0, 0, 0, 0, 0, 0, 0, 0, 0, 0, 14, 0, 0, 0, 0, 0, 0, 0, 0, 0, 0, 0, 0, 0, 0, 0, 0, 0, 0, 0, 0, 0, 0, 0, 0, 0, 0, 0, 0, 0, 0, 0, 0, 0, 0, 0, 0, 0, 0, 0, 0, 0, 0, 0, 0, 0, 0, 0, 0, 0, 0, 0, 0, 0, 0, 0, 0, 0, 0, 0, 0, 0, 0, 0, 0, 0] [1, 2, 3, 4, 5, 6, 7, 8, 9, 10, 11, 12, 13, 14, 15, 16, 17, 18, 19, 0, 20, 21, 22, 23, 24, 25, 26, 27, 28, 29, 30, 31, 32, 33, 34, 35, 36, 37, 38, 39, 40, 41, 42, 43, 44, 45, 46, 47, 48, 49, 50, 51, 52, 53, 54, 55, 56, 57, 58, 59, 60, 61, 62, 63, 64, 65, 66, 67, 68, 69, 70, 71, 72, 73, 74, 75, 76, 77, 78, 79, 80, 81, 82, 83, 84, 85, 86, 87, 88, 89, 90, 91, 92, 93, 94, 95, 96, 97, 98, 99, 100, 101, 102, 103, 104, 105, 106, 107, 108, 109, 110, 111, 112, 113, 114, 115, 116, 117, 118, 119, 120, 121, 122, 123, 124, 125] (by decide +kernel) (by decide +kernel)
set_option maxRecDepth 20000 in
theorem gX12_must_X12_is : GoodIn wsX12_must (wsV RX12 242 RX12 yX12_is wsX12_is) := goodIn_app (goodIn_of _ (by decide +kernel)) ggX12_must_X12_is
set_option maxRecDepth 20000 in
theorem ggX12_must_X12_wrong : GoodIn wsX12_must wsX12_wrong := goodIn_h _ [6, 1, 58, 0, 9, 0, 0, 0, 0, 0, 0, 0, 0, 0, 0, 0, 0, 0, 0, 0, 0, 0, 0, 0, 0, 0, 0, 0, 0, 0, 0, 0, 0, 0, 0, 0, 0, 0, 0, 0, 0, 0, 0, 0, 0, 0, 0, 0, 0, 0, 0, 0, 0, 0, 0, 0, 0, 0, 0, 0, 0, 0, 0, 0, 0, 0, 0, 0, 0, 0] [2, 0, 1, 3, 4, 5, 6, 7, 8, 9, 10, 11, 12, 13, 14, 15, 16, 17, 18, 19, 20, 21, 22, 23, 24, 25, 26, 27, 28, 29, 30, 31, 32, 33, 34, 35, 36, 37, 38, 39, 40, 41, 42, 43, 44, 45, 46, 47, 48, 49, 50, 51, 52, 53, 54, 55, 56, 57, 58, 59, 60, 61, 62, 63, 64, 65, 66, 67, 68, 69] (by decide +kernel) (by decide +kernel)
set_option maxRecDepth 20000 in
theorem gX12_must_X12_wrong : GoodIn wsX12_must (wsV RX12 246 RX12 yX12_wrong wsX12_wrong) := goodIn_app (goodIn_of _ (by decide +kernel)) ggX12_must_X12_wrong
set_option maxRecDepth 20000 in
theorem ggX12_must_X12_token : GoodIn wsX12_must wsX12_token := goodIn_h _ [4, 2, 0, 12, 0, 0, 0, 0, 0, 45, 0, 0, 0, 0, 0, 0, 0, 0, 0, 0, 0, 0, 0, 0, 0, 0, 0, 0, 0, 0, 0, 0, 0, 0, 0, 0, 0, 0, 0, 0, 0, 0, 0, 0, 0, 0, 0, 0, 0, 0, 0, 0, 0, 0, 0, 0, 0, 0, 0, 0, 0, 0, 0, 0, 0, 0, 0, 0, 0, 0, 0, 0, 0, 0, 0, 0, 0, 0, 0, 0, 0] [9, 1, 2, 7, 10, 11, 3, 4, 5, 0, 6, 8, 12, 13, 14, 15, 16, 17, 18, 19, 20, 21, 22, 23, 24, 25, 26, 27, 28, 29, 30, 31, 32, 33, 34, 35, 36, 37, 38, 39, 40, 41, 42, 43, 44, 45, 46, 47, 48, 49, 50, 51, 52, 53, 54, 55, 56, 57, 58, 59, 60, 61, 62, 63, 64, 65, 66, 67, 68, 69, 70, 71, 72, 73, 74, 75, 76, 77, 78, 79, 80] (by decide +kernel) (by decide +kernel)
set_option maxRecDepth 20000 in
theorem gX12_must_X12_token : GoodIn wsX12_must (wsV RX12 249 RX12 yX12_token wsX12_token) := goodIn_app (goodIn_of _ (by decide +kernel)) ggX12_must_X12_token
theorem dX12_must_0 : decode cX12_must 0 = .ok (.aload_n 0, 1) := by decide +kernel
theorem dX12_must_1 : decode cX12_must 1 = .ok (.aload_n 1, 1) := by decide +kernel
theorem dX12_must_2 : decode cX12_must 2 = .ok (.invokevirtual 242, 3) := by decide +kernel
theorem dX12_must_5 : decode cX12_must 5 = .ok (.ifCond .ne 9, 3) := by decide +kernel
theorem dX12_must_8 : decode cX12_must 8 = .ok (.aload_n 0, 1) := by decide +kernel
theorem dX12_must_9 : decode cX12_must 9 = .ok (.iconst 1, 1) := by decide +kernel
theorem dX12_must_10 : decode cX12_must 10 = .ok (.invokevirtual 246, 3) := by decide +kernel
theorem dX12_must_13 : decode cX12_must 13 = .ok (.ireturn, 1) := by decide +kernel
theorem dX12_must_14 : decode cX12_must 14 = .ok (.aload_n 0, 1) := by decide +kernel
theorem dX12_must_15 : decode cX12_must 15 = .ok (.invokevirtual 249, 3) := by decide +kernel
theorem dX12_must_18 : decode cX12_must 18 = .ok (.iconst 1, 1) := by decide +kernel
theorem dX12_must_19 : decode cX12_must 19 = .ok (.ireturn, 1) := by decide +kernel
set_option maxRecDepth 20000 in
theorem ggX12_which_J0_length_8abf5 : GoodIn wsX12_which wsJ0_length_8abf5 := goodIn_h _ [8, 0, 0, 0, 0, 0, 0, 0, 0] [1, 2, 3, 4, 5, 0, 6, 7, 8] (by decide +kernel) (by decide +kernel)
set_option maxRecDepth 20000 in
theorem gX12_which_J0_length_8abf5 : GoodIn wsX12_which (wsV RX12 232 RJ0 yJ0_length_8abf5 wsJ0_length_8abf5) := goodIn_app (goodIn_of _ (by decide +kernel)) ggX12_which_J0_length_8abf5
set_option maxRecDepth 20000 in
theorem ggX12_which_J0_charAt_5068e : GoodIn wsX12_which wsJ0_charAt_5068e := goodIn_h _ [8, 1, 4, 0, 3, 0, 0, 0, 0, 0, 0, 0, 0, 0, 0, 0, 0, 0, 0, 0, 0, 0, 0, 0, 0, 0, 0, 0, 0, 0, 0, 0, 0, 0, 0, 0, 0, 0] [4, 1, 5, 6, 7, 0, 8, 2, 3, 9, 10, 11, 12, 13, 14, 15, 16, 17, 18, 19, 20, 21, 22, 23, 24, 25, 26, 27, 28, 29, 30, 31, 32, 33, 34, 35, 36, 37] (by decide +kernel) (by decide +kernel)
set_option maxRecDepth 20000 in
theorem gX12_which_J0_charAt_5068e : GoodIn wsX12_which (wsV RX12 238 RJ0 yJ0_charAt_5068e wsJ0_charAt_5068e) := goodIn_app (goodIn_of _ (by decide +kernel)) ggX12_which_J0_charAt_5068e
set_option maxRecDepth 20000 in
theorem ggX12_which_X12_byteAt : GoodIn wsX12_which wsX12_byteAt := goodIn_h _ [58, 0, 0, 0, 0, 0, 0, 0, 0, 0, 0, 0, 0, 0, 0, 0, 0, 0, 0, 0, 0, 0, 0, 0, 0, 0, 0, 0, 0, 0, 0, 0, 0, 0, 0, 0, 0, 0, 0, 0, 0, 0, 0, 0, 0, 0, 0, 0, 0, 0, 0, 0, 0, 0, 0, 0, 0, 0, 0, 0, 0, 0, 0, 0, 0, 0, 0, 0, 0] [0, 1, 2, 3, 4, 5, 6, 7, 8, 9, 10, 11, 12, 13, 14, 15, 16, 17, 18, 19, 20, 21, 22, 23, 24, 25, 26, 27, 28, 29, 30, 31, 32, 33, 34, 35, 36, 37, 38, 39, 40, 41, 42, 43, 44, 45, 46, 47, 48, 49, 50, 51, 52, 53, 54, 55, 56, 57, 58, 59, 60, 61, 62, 63, 64, 65, 66, 67, 68] (by decide +kernel) (by decide +kernel)
set_option maxRecDepth 20000 in
theorem gX12_which_X12_byteAt : GoodIn wsX12_which (wsV RX12 220 RX12 yX12_byteAt wsX12_byteAt) := goodIn_app (goodIn_of _ (by decide +kernel)) ggX12_which_X12_byteAt
theorem dX12_which_0 : decode cX12_which 0 = .ok (.iconst 0, 1) := by decide +kernel
theorem dX12_which_1 : decode cX12_which 1 = .ok (.istore_n 2, 1) := by decide +kernel
theorem dX12_which_2 : decode cX12_which 2 = .ok (.iconst 0, 1) := by decide +kernel
theorem dX12_which_3 : decode cX12_which 3 = .ok (.istore_n 3, 1) := by decide +kernel
theorem dX12_which_4 : decode cX12_which 4 = .ok (.iconst 0, 1) := by decide +kernel
theorem dX12_which_5 : decode cX12_which 5 = .ok (.istore 4, 2) := by decide +kernel
theorem dX12_which_7 : decode cX12_which 7 = .ok (.iload 4, 2) := by decide +kernel
theorem dX12_which_9 : decode cX12_which 9 = .ok (.aload_n 1, 1) := by decide +kernel
theorem dX12_which_10 : decode cX12_which 10 = .ok (.invokevirtual 232, 3) := by decide +kernel
theorem dX12_which_13 : decode cX12_which 13 = .ok (.if_icmp .ge 128, 3) := by decide +kernel
theorem dX12_which_16 : decode cX12_which 16 = .ok (.aload_n 1, 1) := by decide +kernel
theorem dX12_which_17 : decode cX12_which 17 = .ok (.iload 4, 2) := by decide +kernel
theorem dX12_which_19 : decode cX12_which 19 = .ok (.invokevirtual 238, 3) := by decide +kernel
theorem dX12_which_22 : decode cX12_which 22 = .ok (.bipush 32, 2) := by decide +kernel
theorem dX12_which_24 : decode cX12_which 24 = .ok (.if_icmp .eq 6, 3) := by decide +kernel
theorem dX12_which_27 : decode cX12_which 27 = .ok (.goto 108, 3) := by decide +kernel
theorem dX12_which_30 : decode cX12_which 30 = .ok (.aload_n 0, 1) := by decide +kernel
theorem dX12_which_31 : decode cX12_which 31 = .ok (.getfield 223, 3) := by decide +kernel
theorem dX12_which_34 : decode cX12_which 34 = .ok (.iconst 1, 1) := by decide +kernel
theorem dX12_which_35 : decode cX12_which 35 = .ok (.if_icmp .ne 30, 3) := by decide +kernel
theorem dX12_which_38 : decode cX12_which 38 = .ok (.aload_n 0, 1) := by decide +kernel
theorem dX12_which_39 : decode cX12_which 39 = .ok (.getfield 229, 3) := by decide +kernel
theorem dX12_which_42 : decode cX12_which 42 = .ok (.ifCond .ne 23, 3) := by decide +kernel
theorem dX12_which_45 : decode cX12_which 45 = .ok (.aload_n 0, 1) := by decide +kernel
theorem dX12_which_46 : decode cX12_which 46 = .ok (.getfield 214, 3) := by decide +kernel
theorem dX12_which_49 : decode cX12_which 49 = .ok (.aload_n 0, 1) := by decide +kernel
theorem dX12_which_50 : decode cX12_which 50 = .ok (.getfield 217, 3) := by decide +kernel
theorem dX12_which_53 : decode cX12_which 53 = .ok (.isub, 1) := by decide +kernel
theorem dX12_which_54 : decode cX12_which 54 = .ok (.iload 4, 2) := by decide +kernel
theorem dX12_which_56 : decode cX12_which 56 = .ok (.iload_n 3, 1) := by decide +kernel
theorem dX12_which_57 : decode cX12_which 57 = .ok (.isub, 1) := by decide +kernel
theorem dX12_which_58 : decode cX12_which 58 = .ok (.if_icmp .ne 7, 3) := by decide +kernel
theorem dX12_which_61 : decode cX12_which 61 = .ok (.iconst 1, 1) := by decide +kernel
theorem dX12_which_62 : decode cX12_which 62 = .ok (.goto 4, 3) := by decide +kernel
theorem dX12_which_65 : decode cX12_which 65 = .ok (.iconst 0, 1) := by decide +kernel
theorem dX12_which_66 : decode cX12_which 66 = .ok (.istore 5, 2) := by decide +kernel
theorem dX12_which_68 : decode cX12_which 68 = .ok (.iconst 0, 1) := by decide +kernel
theorem dX12_which_69 : decode cX12_which 69 = .ok (.istore 6, 2) := by decide +kernel
theorem dX12_which_71 : decode cX12_which 71 = .ok (.iload 6, 2) := by decide +kernel
theorem dX12_which_73 : decode cX12_which 73 = .ok (.iload 4, 2) := by decide +kernel
theorem dX12_which_75 : decode cX12_which 75 = .ok (.iload_n 3, 1) := by decide +kernel
theorem dX12_which_76 : decode cX12_which 76 = .ok (.isub, 1) := by decide +kernel
theorem dX12_which_77 : decode cX12_which 77 = .ok (.if_icmp .ge 43, 3) := by decide +kernel
theorem dX12_which_80 : decode cX12_which 80 = .ok (.iload 5, 2) := by decide +kernel
theorem dX12_which_82 : decode cX12_which 82 = .ok (.ifCond .eq 38, 3) := by decide +kernel
theorem dX12_which_85 : decode cX12_which 85 = .ok (.aload_n 0, 1) := by decide +kernel
theorem dX12_which_86 : decode cX12_which 86 = .ok (.aload_n 0, 1) := by decide +kernel
theorem dX12_which_87 : decode cX12_which 87 = .ok (.getfield 217, 3) := by decide +kernel
theorem dX12_which_90 : decode cX12_which 90 = .ok (.iload 6, 2) := by decide +kernel
theorem dX12_which_92 : decode cX12_which 92 = .ok (.iadd, 1) := by decide +kernel
theorem dX12_which_93 : decode cX12_which 93 = .ok (.invokevirtual 220, 3) := by decide +kernel
theorem dX12_which_96 : decode cX12_which 96 = .ok (.aload_n 1, 1) := by decide +kernel
theorem dX12_which_97 : decode cX12_which 97 = .ok (.iload_n 3, 1) := by decide +kernel
theorem dX12_which_98 : decode cX12_which 98 = .ok (.iload 6, 2) := by decide +kernel
theorem dX12_which_100 : decode cX12_which 100 = .ok (.iadd, 1) := by decide +kernel
theorem dX12_which_101 : decode cX12_which 101 = .ok (.invokevirtual 238, 3) := by decide +kernel
theorem dX12_which_104 : decode cX12_which 104 = .ok (.if_icmp .ne 7, 3) := by decide +kernel
theorem dX12_which_107 : decode cX12_which 107 = .ok (.iconst 1, 1) := by decide +kernel
theorem dX12_which_108 : decode cX12_which 108 = .ok (.goto 4, 3) := by decide +kernel
theorem dX12_which_111 : decode cX12_which 111 = .ok (.iconst 0, 1) := by decide +kernel
theorem dX12_which_112 : decode cX12_which 112 = .ok (.istore 5, 2) := by decide +kernel
theorem dX12_which_114 : decode cX12_which 114 = .ok (.iinc 6 1, 3) := by decide +kernel
theorem dX12_which_117 : decode cX12_which 117 = .ok (.goto (-46), 3) := by decide +kernel
theorem dX12_which_120 : decode cX12_which 120 = .ok (.iload 5, 2) := by decide +kernel
theorem dX12_which_122 : decode cX12_which 122 = .ok (.ifCond .eq 5, 3) := by decide +kernel
theorem dX12_which_125 : decode cX12_which 125 = .ok (.iload_n 2, 1) := by decide +kernel
theorem dX12_which_126 : decode cX12_which 126 = .ok (.ireturn, 1) := by decide +kernel
theorem dX12_which_127 : decode cX12_which 127 = .ok (.iinc 2 1, 3) := by decide +kernel
theorem dX12_which_130 : decode cX12_which 130 = .ok (.iload 4, 2) := by decide +kernel
theorem dX12_which_132 : decode cX12_which 132 = .ok (.iconst 1, 1) := by decide +kernel
theorem dX12_which_133 : decode cX12_which 133 = .ok (.iadd, 1) := by decide +kernel
theorem dX12_which_134 : decode cX12_which 134 = .ok (.istore_n 3, 1) := by decide +kernel
theorem dX12_which_135 : decode cX12_which 135 = .ok (.iinc 4 1, 3) := by decide +kernel
theorem dX12_which_138 : decode cX12_which 138 = .ok (.goto (-131), 3) := by decide +kernel
theorem dX12_which_141 : decode cX12_which 141 = .ok (.iconst (-1), 1) := by decide +kernel
theorem dX12_which_142 : decode cX12_which 142 = .ok (.ireturn, 1) := by decide +kernel
set_option maxRecDepth 20000 in
theorem ggX12_number_X12_wrong : GoodIn wsX12_number wsX12_wrong := goodIn_h _ [7, 0, 0, 0, 14, 0, 0, 0, 0, 0, 0, 0, 0, 0, 0, 0, 0, 0, 0, 0, 0, 0, 0, 0, 0, 0, 0, 0, 0, 0, 0, 0, 0, 0, 0, 0, 0, 0, 0, 0, 0, 0, 0, 0, 0, 0, 0, 0, 0, 0, 0, 0, 0, 0, 0, 0, 0, 0, 0, 0, 0, 0, 0, 0, 0, 0, 0, 0, 0, 0] [0, 1, 2, 3, 4, 5, 6, 7, 8, 9, 10, 11, 12, 13, 14, 15, 16, 17, 18, 19, 20, 21, 22, 23, 24, 25, 26, 27, 28, 29, 30, 31, 32, 33, 34, 35, 36, 37, 38, 39, 40, 41, 42, 43, 44, 45, 46, 47, 48, 49, 50, 51, 52, 53, 54, 55, 56, 57, 58, 59, 60, 61, 62, 63, 64, 65, 66, 67, 68, 69] (by decide +kernel) (by decide +kernel)
set_option maxRecDepth 20000 in
theorem gX12_number_X12_wrong : GoodIn wsX12_number (wsV RX12 246 RX12 yX12_wrong wsX12_wrong) := goodIn_app (goodIn_of _ (by decide +kernel)) ggX12_number_X12_wrong
set_option maxRecDepth 20000 in
theorem ggX12_number_X12_token : GoodIn wsX12_number wsX12_token := goodIn_h _ [1, 0, 3, 2, 4, 0, 0, 0, 0, 0, 0, 0, 0, 0, 0, 0, 0, 0, 0, 0, 0, 0, 0, 0, 0, 0, 0, 0, 0, 0, 0, 0, 0, 0, 0, 0, 0, 0, 0, 0, 0, 0, 0, 0, 0, 0, 0, 0, 0, 0, 0, 0, 0, 0, 0, 0, 0, 0, 0, 0, 0, 0, 0, 0, 0, 0, 0, 0, 0, 0, 0, 0, 0, 0, 0, 0, 0, 0, 0, 0, 0] [4, 5, 3, 6, 0, 1, 7, 8, 9, 2, 10, 11, 12, 13, 14, 15, 16, 17, 18, 19, 20, 21, 22, 23, 24, 25, 26, 27, 28, 29, 30, 31, 32, 33, 34, 35, 36, 37, 38, 39, 40, 41, 42, 43, 44, 45, 46, 47, 48, 49, 50, 51, 52, 53, 54, 55, 56, 57, 58, 59, 60, 61, 62, 63, 64, 65, 66, 67, 68, 69, 70, 71, 72, 73, 74, 75, 76, 77, 78, 79, 80] (by decide +kernel) (by decide +kernel)
set_option maxRecDepth 20000 in
theorem gX12_number_X12_token : GoodIn wsX12_number (wsV RX12 249 RX12 yX12_token wsX12_token) := goodIn_app (goodIn_of _ (by decide +kernel)) ggX12_number_X12_token
theorem dX12_number_0 : decode cX12_number 0 = .ok (.aload_n 0, 1) := by decide +kernel
theorem dX12_number_1 : decode cX12_number 1 = .ok (.getfield 223, 3) := by decide +kernel
theorem dX12_number_4 : decode cX12_number 4 = .ok (.iconst 2, 1) := by decide +kernel
theorem dX12_number_5 : decode cX12_number 5 = .ok (.if_icmp .eq 11, 3) := by decide +kernel
theorem dX12_number_8 : decode cX12_number 8 = .ok (.aload_n 0, 1) := by decide +kernel
theorem dX12_number_9 : decode cX12_number 9 = .ok (.iconst 1, 1) := by decide +kernel
theorem dX12_number_10 : decode cX12_number 10 = .ok (.invokevirtual 246, 3) := by decide +kernel
theorem dX12_number_13 : decode cX12_number 13 = .ok (.istore_n 1, 1) := by decide +kernel
theorem dX12_number_14 : decode cX12_number 14 = .ok (.iconst 0, 1) := by decide +kernel
theorem dX12_number_15 : decode cX12_number 15 = .ok (.ireturn, 1) := by decide +kernel
theorem dX12_number_16 : decode cX12_number 16 = .ok (.aload_n 0, 1) := by decide +kernel
theorem dX12_number_17 : decode cX12_number 17 = .ok (.getfield 226, 3) := by decide +kernel
theorem dX12_number_20 : decode cX12_number 20 = .ok (.istore_n 1, 1) := by decide +kernel
theorem dX12_number_21 : decode cX12_number 21 = .ok (.aload_n 0, 1) := by decide +kernel
theorem dX12_number_22 : decode cX12_number 22 = .ok (.invokevirtual 249, 3) := by decide +kernel
theorem dX12_number_25 : decode cX12_number 25 = .ok (.iload_n 1, 1) := by decide +kernel
theorem dX12_number_26 : decode cX12_number 26 = .ok (.ireturn, 1) := by decide +kernel
theorem inn_X12_at_12 : ∀ w ∈ u_ws RX12 TX12 66, w ∈ wsX12_at := fun w h => List.mem_cons_of_mem _ (List.mem_append_right _ h)
theorem inn_X12_breaks_12 : ∀ w ∈ u_ws RX12 TX12 66, w ∈ wsX12_breaks := fun w h => List.mem_cons_of_mem _ (List.mem_append_right _ h)
theorem inn_X12_byteAt_12 : ∀ w ∈ u_ws RX12 TX12 66, w ∈ wsX12_byteAt := fun w h => List.mem_cons_of_mem _ (List.mem_append_right _ h)
theorem inn_X12_end_12 : ∀ w ∈ u_ws RX12 TX12 66, w ∈ wsX12_end := fun w h => List.mem_cons_of_mem _ (List.mem_append_right _ h)
theorem inn_X12_feed_12 : ∀ w ∈ u_ws RX12 TX12 66, w ∈ wsX12_feed := fun w h => List.mem_cons_of_mem _ (List.mem_append_right _ h)
theorem inn_X12_is_12 : ∀ w ∈ u_ws RX12 TX12 66, w ∈ wsX12_is := fun w h => List.mem_cons_of_mem _ (List.mem_append_right _ h)
theorem inn_X12_isCocoon_12 : ∀ w ∈ u_ws RX12 TX12 66, w ∈ wsX12_isCocoon := fun w h => List.mem_cons_of_mem _ (List.mem_append_right _ h)
theorem inn_X12_isPot_12 : ∀ w ∈ u_ws RX12 TX12 66, w ∈ wsX12_isPot := fun w h => List.mem_cons_of_mem _ (List.mem_append_right _ h)
theorem inn_X12_many_12 : ∀ w ∈ u_ws RX12 TX12 66, w ∈ wsX12_many := fun w h => List.mem_cons_of_mem _ (List.mem_append_right _ h)
theorem inn_X12_number_12 : ∀ w ∈ u_ws RX12 TX12 66, w ∈ wsX12_number := fun w h => List.mem_cons_of_mem _ (List.mem_append_right _ h)
theorem inn_X12_pot_12 : ∀ w ∈ u_ws RX12 TX12 66, w ∈ wsX12_pot := fun w h => List.mem_cons_of_mem _ (List.mem_append_right _ h)
theorem inn_X12_target_12 : ∀ w ∈ u_ws RX12 TX12 66, w ∈ wsX12_target := fun w h => List.mem_cons_of_mem _ (List.mem_append_right _ h)
theorem inn_X12_token_12 : ∀ w ∈ u_ws RX12 TX12 66, w ∈ wsX12_token := fun w h => List.mem_cons_of_mem _ (List.mem_append_right _ h)
theorem inn_X12_which_12 : ∀ w ∈ u_ws RX12 TX12 66, w ∈ wsX12_which := fun w h => List.mem_cons_of_mem _ (List.mem_append_right _ h)
theorem inn_X12_wrong_12 : ∀ w ∈ u_ws RX12 TX12 66, w ∈ wsX12_wrong := fun w h => List.mem_cons_of_mem _ (List.mem_append_right _ h)
set_option maxHeartbeats 4000000 in
set_option maxRecDepth 100000 in
theorem k_X12_isCocoon (l : Launch) (G : va_G) (cy : Nat → ClassId) (κ : Nat → Nat) (S : PS) (sz : Nat) (x : Nat) (a1 : Int32) (a1_z : Int) (a2 : Int32) (a2_z : Int) (hG : GX S) (ha_x : At S x 12) (hz_a1 : a1.toInt = a1_z) (hz_a2 : a2.toInt = a2_z) : Ci l yX12_isCocoon wsX12_isCocoon ({ frames := 2, cells := 0, slots := 0, locals := 96 }) G cy κ S sz [.ref x, .int (a1), .int (a2)] (fun (r : Int32) (S9 : PS) => S = S9 ∧ (((0 ≤ a1_z ∧ a1_z < (pI S 1201 x).toInt ∧ a1_z ≤ 9 ∧ 0 ≤ a2_z ∧ a2_z ≤ 59) ∧ r = 1) ∨ ((True) ∧ r = 0))) := by
  refine ent_m (cc := cX12_isCocoon) (maxL := 3) (ret := (some .boolean)) (by decide) rfl (Nat.le_of_ble_eq_true rfl) ?_
  intro p e s m below meth c ls X hr hlocks hin hw hl hsz
  subst hsz
  have X : Cx p c cX12_isCocoon 3 s [.ref x, .int (a1), .int (a2)].toArray wsX12_isCocoon RX12 m G cy κ (AS S s.heap.size) := X
  have hl : lv_has ls 3 [(0, .ref x), (1, .int (a1)), (2, .int (a2))] := hl
  have rg_a1 : (-2147483648) ≤ a1_z ∧ a1_z ≤ 2147483647 := by rw [← hz_a1]; exact ⟨z_lo _, z_hi _⟩
  have rg_a2 : (-2147483648) ≤ a2_z ∧ a2_z ≤ 2147483647 := by rw [← hz_a2]; exact ⟨z_lo _, z_hi _⟩
  refine lv_iload_n X.1 X.2.1 dX12_isCocoon_0 rfl (lv_at hl 1 rfl) ?_
  refine lv_iconst (v := 0) X.1 X.2.1 dX12_isCocoon_1 (by decide) ?_
  refine lv_aload_n X.1 X.2.1 dX12_isCocoon_2 rfl (lv_at hl 0 rfl) ?_
  obtain ⟨v_1, ev_1⟩ : ∃ v, pI S 1201 x = v := ⟨_, rfl⟩
  have rg_2 := gI_12_1201 hG ha_x; rw [ev_1] at rg_2
  have pz_3 : (pI S 1201 x).toInt = v_1.toInt := by rw [ev_1]
  refine r_getI (g := 1201) (x := v_1) X hw ha_x rfl 1 ev_1 (by decide) rfl inn_X12_isCocoon_12 (by decide) (X.2.2.2.1 (.fieldLink RX12 165 "SilkMillModel" "lots" "I") (by decide +kernel)) rfl (gv_1201 _ _) dX12_isCocoon_3 ?_
  refine lv_iconst (v := 1) X.1 X.2.1 dX12_isCocoon_6 (by decide) ?_
  refine lv_isub X.1 X.2.1 dX12_isCocoon_7 ?_
  refine lv_topi (fun v_4 ev_4 => ?_)
  have z_5 : v_4.toInt = v_1.toInt - 1 := z_sub ev_4 rfl ti_1 (by omega) (by omega)
  refine k_i (rm := { frames := 1, cells := 0, slots := 0, locals := 48 }) (av := [.int (a1), .int 0, .int (v_4)]) X hw (va_runS (As := [.int (a1), .int 0, .int (v_4)]) (rest := []) (cfix X) (k_X12_within l G cy κ S _ (a1) (a1_z) (0) (0) (v_4) ((v_1.toInt - 1)) hG hz_a1 ti_0 z_5) (cwS 3 X.2.2.2.1 gX12_isCocoon_X12_within rfl rfl rfl (by decide +kernel) ⟨Nat.le_of_ble_eq_true rfl, Nat.le_of_ble_eq_true rfl⟩) (pre_S X hw _) rfl rfl hl.1 rfl (lv_room (Nat.le_of_ble_eq_true rfl)) dX12_isCocoon_8 ⟨Nat.le_of_ble_eq_true rfl, Nat.le_of_ble_eq_true rfl⟩) 0 0 (Nat.le_of_ble_eq_true rfl) (Nat.le_of_ble_eq_true rfl) (fun rr_6 S_7 H locs hp hw hfr hnw => ?_)
  obtain ⟨e2, hp⟩ := hp
  subst e2
  rcases hp with ⟨f_8, er_9⟩ | ⟨f_8, er_9⟩ <;> subst er_9
  · have z_b_10 := trivial
    refine lv_if_eq (tgt := 34) X.1 X.2.1 dX12_isCocoon_11 (by decide) (fun c_11 => absurd c_11 (by decide)) (fun c_11 => ?_)
    refine lv_iload_n X.1 X.2.1 dX12_isCocoon_14 rfl (lv_at hl 2 rfl) ?_
    refine lv_iconst (v := 0) X.1 X.2.1 dX12_isCocoon_15 (by decide) ?_
    refine lv_aload_n X.1 X.2.1 dX12_isCocoon_16 rfl (lv_at hl 0 rfl) ?_
    obtain ⟨q_12, h_13, h_14, h_15⟩ := gQ_12_1202 hG ha_x
    refine r_getR (g := 1202) X hw ha_x rfl 2 h_13 (by decide) rfl inn_X12_isCocoon_12 (by decide) (X.2.2.2.1 (.fieldLink RX12 7 "SilkMillModel" "lotMany" "[I") (by decide +kernel)) rfl (gv_1202 _ _) dX12_isCocoon_17 ?_
    refine lv_iload_n X.1 X.2.1 dX12_isCocoon_20 rfl (lv_at hl 1 rfl) ?_
    refine r_iald X hw h_14 rfl (by rw [h_15]; exact z_ix hz_a1 (by omega) (by omega)) dX12_isCocoon_21 ?_
    refine lv_topi (fun v_16 ev_16 => ?_)
    have z_17 := gE_254 hG h_14 (Int32.toNatClampNeg (a1)); rw [← ev_16] at z_17
    have ev_16 := ev_16.symm
    refine lv_iconst (v := 1) X.1 X.2.1 dX12_isCocoon_22 (by decide) ?_
    refine lv_isub X.1 X.2.1 dX12_isCocoon_23 ?_
    refine lv_topi (fun v_18 ev_18 => ?_)
    have z_19 : v_18.toInt = v_16.toInt - 1 := z_sub ev_18 rfl ti_1 (by omega) (by omega)
    refine k_i (rm := { frames := 1, cells := 0, slots := 0, locals := 48 }) (av := [.int (a2), .int 0, .int (v_18)]) X hw (va_runS (As := [.int (a2), .int 0, .int (v_18)]) (rest := []) (cfix X) (k_X12_within l G cy κ S _ (a2) (a2_z) (0) (0) (v_18) ((v_16.toInt - 1)) hG hz_a2 ti_0 z_19) (cwS 3 X.2.2.2.1 gX12_isCocoon_X12_within rfl rfl rfl (by decide +kernel) ⟨Nat.le_of_ble_eq_true rfl, Nat.le_of_ble_eq_true rfl⟩) (pre_S X hw _) rfl rfl hl.1 rfl (lv_room (Nat.le_of_ble_eq_true rfl)) dX12_isCocoon_24 ⟨Nat.le_of_ble_eq_true rfl, Nat.le_of_ble_eq_true rfl⟩) 0 0 (Nat.le_of_ble_eq_true rfl) (Nat.le_of_ble_eq_true rfl) (fun rr_20 S_21 H locs hp hw hfr hnw => ?_)
    obtain ⟨e2, hp⟩ := hp
    subst e2
    rcases hp with ⟨f_22, er_23⟩ | ⟨f_22, er_23⟩ <;> subst er_23
    · have z_b_24 := trivial
      refine lv_if_eq (tgt := 34) X.1 X.2.1 dX12_isCocoon_27 (by decide) (fun c_25 => absurd c_25 (by decide)) (fun c_25 => ?_)
      refine lv_iconst (v := 1) X.1 X.2.1 dX12_isCocoon_30 (by decide) ?_
      refine lv_goto (tgt := 35) X.1 X.2.1 dX12_isCocoon_31 (by decide) ?_
      exact ret_z X hw hr hlocks (Nat.le_of_ble_eq_true rfl) (Nat.le_of_ble_eq_true rfl) (by decide) ⟨rfl, Or.inl ⟨by omega, rfl⟩⟩ dX12_isCocoon_35
    · have z_b_26 := trivial
      refine lv_if_eq (tgt := 34) X.1 X.2.1 dX12_isCocoon_27 (by decide) (fun c_27 => ?_) (fun c_27 => absurd c_27 (by decide))
      refine lv_iconst (v := 0) X.1 X.2.1 dX12_isCocoon_34 (by decide) ?_
      exact ret_z X hw hr hlocks (Nat.le_of_ble_eq_true rfl) (Nat.le_of_ble_eq_true rfl) (by decide) ⟨rfl, Or.inr ⟨trivial, rfl⟩⟩ dX12_isCocoon_35
  · have z_b_28 := trivial
    refine lv_if_eq (tgt := 34) X.1 X.2.1 dX12_isCocoon_11 (by decide) (fun c_29 => ?_) (fun c_29 => absurd c_29 (by decide))
    refine lv_iconst (v := 0) X.1 X.2.1 dX12_isCocoon_34 (by decide) ?_
    exact ret_z X hw hr hlocks (Nat.le_of_ble_eq_true rfl) (Nat.le_of_ble_eq_true rfl) (by decide) ⟨rfl, Or.inr ⟨trivial, rfl⟩⟩ dX12_isCocoon_35
set_option maxHeartbeats 4000000 in
set_option maxRecDepth 100000 in
theorem k_X12_isPot (l : Launch) (G : va_G) (cy : Nat → ClassId) (κ : Nat → Nat) (S : PS) (sz : Nat) (x : Nat) (a1 : Int32) (a1_z : Int) (hG : GX S) (ha_x : At S x 12) (hz_a1 : a1.toInt = a1_z) : Ci l yX12_isPot wsX12_isPot ({ frames := 2, cells := 0, slots := 0, locals := 96 }) G cy κ S sz [.ref x, .int (a1)] (fun (r : Int32) (S9 : PS) => S = S9 ∧ (((0 ≤ a1_z ∧ a1_z < (pI S 1211 x).toInt ∧ a1_z ≤ 3) ∧ r = 1) ∨ ((¬ (0 ≤ a1_z ∧ a1_z < (pI S 1211 x).toInt)) ∧ r = 0))) := by
  refine ent_m (cc := cX12_isPot) (maxL := 2) (ret := (some .boolean)) (by decide) rfl (Nat.le_of_ble_eq_true rfl) ?_
  intro p e s m below meth c ls X hr hlocks hin hw hl hsz
  subst hsz
  have X : Cx p c cX12_isPot 2 s [.ref x, .int (a1)].toArray wsX12_isPot RX12 m G cy κ (AS S s.heap.size) := X
  have hl : lv_has ls 2 [(0, .ref x), (1, .int (a1))] := hl
  have rg_a1 : (-2147483648) ≤ a1_z ∧ a1_z ≤ 2147483647 := by rw [← hz_a1]; exact ⟨z_lo _, z_hi _⟩
  refine lv_iload_n X.1 X.2.1 dX12_isPot_0 rfl (lv_at hl 1 rfl) ?_
  refine lv_iconst (v := 0) X.1 X.2.1 dX12_isPot_1 (by decide) ?_
  refine lv_aload_n X.1 X.2.1 dX12_isPot_2 rfl (lv_at hl 0 rfl) ?_
  obtain ⟨v_1, ev_1⟩ : ∃ v, pI S 1211 x = v := ⟨_, rfl⟩
  have rg_2 := gI_12_1211 hG ha_x; rw [ev_1] at rg_2
  have pz_3 : (pI S 1211 x).toInt = v_1.toInt := by rw [ev_1]
  refine r_getI (g := 1211) (x := v_1) X hw ha_x rfl 11 ev_1 (by decide) rfl inn_X12_isPot_12 (by decide) (X.2.2.2.1 (.fieldLink RX12 197 "SilkMillModel" "pots" "I") (by decide +kernel)) rfl (gv_1211 _ _) dX12_isPot_3 ?_
  refine lv_iconst (v := 1) X.1 X.2.1 dX12_isPot_6 (by decide) ?_
  refine lv_isub X.1 X.2.1 dX12_isPot_7 ?_
  refine lv_topi (fun v_4 ev_4 => ?_)
  have z_5 : v_4.toInt = v_1.toInt - 1 := z_sub ev_4 rfl ti_1 (by omega) (by omega)
  refine k_i (rm := { frames := 1, cells := 0, slots := 0, locals := 48 }) (av := [.int (a1), .int 0, .int (v_4)]) X hw (va_runS (As := [.int (a1), .int 0, .int (v_4)]) (rest := []) (cfix X) (k_X12_within l G cy κ S _ (a1) (a1_z) (0) (0) (v_4) ((v_1.toInt - 1)) hG hz_a1 ti_0 z_5) (cwS 3 X.2.2.2.1 gX12_isPot_X12_within rfl rfl rfl (by decide +kernel) ⟨Nat.le_of_ble_eq_true rfl, Nat.le_of_ble_eq_true rfl⟩) (pre_S X hw _) rfl rfl hl.1 rfl (lv_room (Nat.le_of_ble_eq_true rfl)) dX12_isPot_8 ⟨Nat.le_of_ble_eq_true rfl, Nat.le_of_ble_eq_true rfl⟩) 0 0 (Nat.le_of_ble_eq_true rfl) (Nat.le_of_ble_eq_true rfl) (fun rr_6 S_7 H locs hp hw hfr hnw => ?_)
  obtain ⟨e2, hp⟩ := hp
  subst e2
  rcases hp with ⟨f_8, er_9⟩ | ⟨f_8, er_9⟩ <;> subst er_9
  · have z_b_10 := trivial
    exact ret_z X hw hr hlocks (Nat.le_of_ble_eq_true rfl) (Nat.le_of_ble_eq_true rfl) (by decide) ⟨rfl, Or.inl ⟨by omega, rfl⟩⟩ dX12_isPot_11
  · have z_b_11 := trivial
    exact ret_z X hw hr hlocks (Nat.le_of_ble_eq_true rfl) (Nat.le_of_ble_eq_true rfl) (by decide) ⟨rfl, Or.inr ⟨by omega, rfl⟩⟩ dX12_isPot_11
set_option maxHeartbeats 4000000 in
set_option maxRecDepth 100000 in
theorem k_X12_end (l : Launch) (G : va_G) (cy : Nat → ClassId) (κ : Nat → Nat) (S : PS) (sz : Nat) (x : Nat) (a1 : Int32) (a1_z : Int) (hG : GX S) (ha_x : At S x 12) (hz_a1 : a1.toInt = a1_z) : Ci l yX12_end wsX12_end ({ frames := 2, cells := 0, slots := 0, locals := 96 }) G cy κ S sz [.ref x, .int (a1)] (fun (r : Int32) (S9 : PS) => Ok MEn S S9 ∧ (-2147483648 ≤ r.toInt ∧ r.toInt ≤ 2147483647 ∧ ((0 ≤ a1_z ∧ a1_z ≤ (pI S 1228 x).toInt ∧ r.toInt = a1_z ∧ (pI S9 1228 x).toInt = a1_z) ∨ (¬ (0 ≤ a1_z ∧ a1_z ≤ (pI S 1228 x).toInt) ∧ r.toInt = -1 ∧ (pI S9 1228 x).toInt = (pI S 1228 x).toInt)))) := by
  refine ent_m (cc := cX12_end) (maxL := 2) (ret := (some .int)) (by decide) rfl (Nat.le_of_ble_eq_true rfl) ?_
  intro p e s m below meth c ls X hr hlocks hin hw hl hsz
  subst hsz
  have X : Cx p c cX12_end 2 s [.ref x, .int (a1)].toArray wsX12_end RX12 m G cy κ (AS S s.heap.size) := X
  have hl : lv_has ls 2 [(0, .ref x), (1, .int (a1))] := hl
  have rg_a1 : (-2147483648) ≤ a1_z ∧ a1_z ≤ 2147483647 := by rw [← hz_a1]; exact ⟨z_lo _, z_hi _⟩
  have hO : Ok MEn S S := Ok.rf hG
  obtain ⟨v_1, ev_1⟩ : ∃ v, pI S 1228 x = v := ⟨_, rfl⟩
  have rg_2 := gI_12_1228 hO.1 ha_x; rw [ev_1] at rg_2
  have pz_3 : (pI S 1228 x).toInt = v_1.toInt := by rw [ev_1]
  have pz_4 : (pI S 1228 x).toInt = v_1.toInt := (congrArg Int32.toInt ev_1).trans rfl
  refine lv_aload_n X.1 X.2.1 dX12_end_0 rfl (lv_at hl 0 rfl) ?_
  refine lv_iconst (v := 0) X.1 X.2.1 dX12_end_1 (by decide) ?_
  refine r_putI (v := 0) X hw ha_x rfl 0 1200 tyX12 (by decide) rfl inn_X12_end_12 tyX12_ok nmX12 (by decide) (X.2.2.2.1 (.fieldLink RX12 161 "SilkMillModel" "thrown" "I") (by decide +kernel)) rfl (Or.inl rfl) rfl rfl (Nat.le_of_ble_eq_true rfl) (st_1200 _ _) dX12_end_2 (fun H locs hw => ?_)
  obtain ⟨S_5, eS_5⟩ : ∃ T, T = sI S 1200 x (0) := ⟨_, rfl⟩
  rw [← eS_5] at hw
  have hO_6 : Ok MEn S S_5 := hO.sI eS_5 (by decide +kernel) (uI_12_1200 hO.1 ha_x)
  have h_7 : pI S_5 1200 x = 0 := tI_sIs eS_5
  refine lv_iload_n X.1 X.2.1 dX12_end_5 rfl (lv_at hl 1 rfl) ?_
  refine lv_iconst (v := 0) X.1 X.2.1 dX12_end_6 (by decide) ?_
  refine lv_aload_n X.1 X.2.1 dX12_end_7 rfl (lv_at hl 0 rfl) ?_
  have t_8 : At S_5 x 12 := tAt_sI eS_5 ha_x
  have t_9 : pI S_5 1228 x = v_1 := tI_sI eS_5 rfl ev_1
  refine r_getI (g := 1228) (x := v_1) X hw t_8 rfl 28 t_9 (by decide) rfl inn_X12_end_12 (by decide) (X.2.2.2.1 (.fieldLink RX12 211 "SilkMillModel" "taped" "I") (by decide +kernel)) rfl (gv_1228 _ _) dX12_end_8 ?_
  refine k_i (rm := { frames := 1, cells := 0, slots := 0, locals := 48 }) (av := [.int (a1), .int 0, .int (v_1)]) X hw (va_runS (As := [.int (a1), .int 0, .int (v_1)]) (rest := []) (cfix X) (k_X12_within l G cy κ S_5 _ (a1) (a1_z) (0) (0) (v_1) (v_1.toInt) hO_6.1 hz_a1 ti_0 rfl) (cwS 3 X.2.2.2.1 gX12_end_X12_within rfl rfl rfl (by decide +kernel) ⟨Nat.le_of_ble_eq_true rfl, Nat.le_of_ble_eq_true rfl⟩) (pre_S X hw _) rfl rfl hl.1 rfl (lv_room (Nat.le_of_ble_eq_true rfl)) dX12_end_11 ⟨Nat.le_of_ble_eq_true rfl, Nat.le_of_ble_eq_true rfl⟩) 0 0 (Nat.le_of_ble_eq_true rfl) (Nat.le_of_ble_eq_true rfl) (fun rr_10 S_11 H locs hp hw hfr hnw => ?_)
  obtain ⟨e2, hp⟩ := hp
  subst e2
  rcases hp with ⟨f_12, er_13⟩ | ⟨f_12, er_13⟩ <;> subst er_13
  · have z_b_14 := trivial
    refine lv_if_ne (tgt := 19) X.1 X.2.1 dX12_end_14 (by decide) (fun c_15 => ?_) (fun c_15 => absurd c_15 (by decide))
    refine lv_aload_n X.1 X.2.1 dX12_end_19 rfl (lv_at hl 0 rfl) ?_
    refine lv_iload_n X.1 X.2.1 dX12_end_20 rfl (lv_at hl 1 rfl) ?_
    refine r_putI (v := a1) X hw t_8 rfl 28 1228 tyX12 (by decide) rfl inn_X12_end_12 tyX12_ok nmX12 (by decide) (X.2.2.2.1 (.fieldLink RX12 211 "SilkMillModel" "taped" "I") (by decide +kernel)) rfl (Or.inl rfl) rfl rfl (Nat.le_of_ble_eq_true rfl) (st_1228 _ _) dX12_end_21 (fun H locs hw => ?_)
    obtain ⟨S_16, eS_16⟩ : ∃ T, T = sI S_5 1228 x (a1) := ⟨_, rfl⟩
    rw [← eS_16] at hw
    have hO_17 : Ok MEn S S_16 := hO_6.sI eS_16 (by decide +kernel) (uI_12_1228 hO_6.1 t_8 (by omega) (by omega))
    have h_18 : pI S_16 1228 x = a1 := tI_sIs eS_16
    refine lv_iload_n X.1 X.2.1 dX12_end_24 rfl (lv_at hl 1 rfl) ?_
    have pz_19 : (pI S_16 1228 x).toInt = a1_z := (congrArg Int32.toInt h_18).trans hz_a1
    exact ret_i X hw hr hlocks (Nat.le_of_ble_eq_true rfl) (Nat.le_of_ble_eq_true rfl) ⟨hO_17, ⟨z_lo _, z_hi _, by have hzr := hz_a1; omega⟩⟩ dX12_end_25
  · have z_b_20 := trivial
    refine lv_if_ne (tgt := 19) X.1 X.2.1 dX12_end_14 (by decide) (fun c_21 => absurd c_21 (by decide)) (fun c_21 => ?_)
    refine lv_iconst (v := (-1)) X.1 X.2.1 dX12_end_17 (by decide) ?_
    have pz_22 : (pI S_5 1228 x).toInt = v_1.toInt := (congrArg Int32.toInt t_9).trans rfl
    exact ret_i X hw hr hlocks (Nat.le_of_ble_eq_true rfl) (Nat.le_of_ble_eq_true rfl) ⟨hO_6, ⟨z_lo _, z_hi _, by have hzr := ti_m1; omega⟩⟩ dX12_end_18
