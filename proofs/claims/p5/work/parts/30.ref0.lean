def MN : List Nat := [1200]
def Mpr : List Nat := [1200, 11174]
def Mfa : List Nat := [1200, 1262, 11474, 11494, 11514]
def Mmi : List Nat := [1200, 11095, 11374, 11394, 11414, 11435]
def Mgr : List Nat := [1200, 1249, 1250, 1251, 11074, 11254]
def Mtg : List Nat := [1200, 10454]
def MEn : List Nat := [1200, 1228]
def MT : List Nat := [1200, 1228, 10753]
def MP : List Nat := [1200, 1211, 10454, 10474]
def MD : List Nat := [1200, 1245]
def ML0 : List Nat := [1200, 1201, 10254, 10274, 10294, 10314, 10334]
def MK : List Nat := [1229, 1230, 1231, 1232, 1233, 1234]
def MC : List Nat := [1229, 1230, 1231, 1232, 1233, 1234, 10674, 10694, 10714, 10734]
def MR : List Nat := [1229, 1230, 1231, 1232, 1233, 1234, 10674, 10694, 10714, 10734, 10614, 10634, 10654]
def MPg : List Nat := [1200, 1228, 1229, 1230, 1231, 1232, 1233, 1234, 10674, 10694, 10714, 10734, 10614, 10634, 10654]
theorem dX12_part_0 : decode cX12_part 0 = .ok (.iload_n 0, 1) := by decide +kernel
theorem dX12_part_1 : decode cX12_part 1 = .ok (.bipush 16, 2) := by decide +kernel
theorem dX12_part_3 : decode cX12_part 3 = .ok (.iushr, 1) := by decide +kernel
theorem dX12_part_4 : decode cX12_part 4 = .ok (.iload_n 1, 1) := by decide +kernel
theorem dX12_part_5 : decode cX12_part 5 = .ok (.irem, 1) := by decide +kernel
theorem dX12_part_6 : decode cX12_part 6 = .ok (.ireturn, 1) := by decide +kernel
set_option maxRecDepth 20000 in
theorem ggX12_isCocoon_X12_within : GoodIn wsX12_isCocoon wsX12_within := goodIn_h _ [6] [0] (by decide +kernel) (by decide +kernel)
set_option maxRecDepth 20000 in
theorem gX12_isCocoon_X12_within : GoodIn wsX12_isCocoon (va_wsS RX12 168 yX12_within wsX12_within) := goodIn_app (goodIn_of _ (by decide +kernel)) ggX12_isCocoon_X12_within
theorem dX12_isCocoon_0 : decode cX12_isCocoon 0 = .ok (.iload_n 1, 1) := by decide +kernel
theorem dX12_isCocoon_1 : decode cX12_isCocoon 1 = .ok (.iconst 0, 1) := by decide +kernel
theorem dX12_isCocoon_2 : decode cX12_isCocoon 2 = .ok (.aload_n 0, 1) := by decide +kernel
theorem dX12_isCocoon_3 : decode cX12_isCocoon 3 = .ok (.getfield 165, 3) := by decide +kernel
theorem dX12_isCocoon_6 : decode cX12_isCocoon 6 = .ok (.iconst 1, 1) := by decide +kernel
theorem dX12_isCocoon_7 : decode cX12_isCocoon 7 = .ok (.isub, 1) := by decide +kernel
theorem dX12_isCocoon_8 : decode cX12_isCocoon 8 = .ok (.invokestatic 168, 3) := by decide +kernel
theorem dX12_isCocoon_11 : decode cX12_isCocoon 11 = .ok (.ifCond .eq 23, 3) := by decide +kernel
theorem dX12_isCocoon_14 : decode cX12_isCocoon 14 = .ok (.iload_n 2, 1) := by decide +kernel
theorem dX12_isCocoon_15 : decode cX12_isCocoon 15 = .ok (.iconst 0, 1) := by decide +kernel
theorem dX12_isCocoon_16 : decode cX12_isCocoon 16 = .ok (.aload_n 0, 1) := by decide +kernel
theorem dX12_isCocoon_17 : decode cX12_isCocoon 17 = .ok (.getfield 7, 3) := by decide +kernel
theorem dX12_isCocoon_20 : decode cX12_isCocoon 20 = .ok (.iload_n 1, 1) := by decide +kernel
theorem dX12_isCocoon_21 : decode cX12_isCocoon 21 = .ok (.iaload, 1) := by decide +kernel
theorem dX12_isCocoon_22 : decode cX12_isCocoon 22 = .ok (.iconst 1, 1) := by decide +kernel
theorem dX12_isCocoon_23 : decode cX12_isCocoon 23 = .ok (.isub, 1) := by decide +kernel
theorem dX12_isCocoon_24 : decode cX12_isCocoon 24 = .ok (.invokestatic 168, 3) := by decide +kernel
theorem dX12_isCocoon_27 : decode cX12_isCocoon 27 = .ok (.ifCond .eq 7, 3) := by decide +kernel
theorem dX12_isCocoon_30 : decode cX12_isCocoon 30 = .ok (.iconst 1, 1) := by decide +kernel
theorem dX12_isCocoon_31 : decode cX12_isCocoon 31 = .ok (.goto 4, 3) := by decide +kernel
theorem dX12_isCocoon_34 : decode cX12_isCocoon 34 = .ok (.iconst 0, 1) := by decide +kernel
theorem dX12_isCocoon_35 : decode cX12_isCocoon 35 = .ok (.ireturn, 1) := by decide +kernel
set_option maxRecDepth 20000 in
theorem ggX12_breaks_X12_next : GoodIn wsX12_breaks wsX12_next := goodIn_h _ [6, 0] [0, 1] (by decide +kernel) (by decide +kernel)
set_option maxRecDepth 20000 in
theorem gX12_breaks_X12_next : GoodIn wsX12_breaks (va_wsS RX12 172 yX12_next wsX12_next) := goodIn_app (goodIn_of _ (by decide +kernel)) ggX12_breaks_X12_next
set_option maxRecDepth 20000 in
theorem ggX12_breaks_X12_part : GoodIn wsX12_breaks wsX12_part := goodIn_h _ [10] [0] (by decide +kernel) (by decide +kernel)
set_option maxRecDepth 20000 in
theorem gX12_breaks_X12_part : GoodIn wsX12_breaks (va_wsS RX12 176 yX12_part wsX12_part) := goodIn_app (goodIn_of _ (by decide +kernel)) ggX12_breaks_X12_part
theorem dX12_breaks_0 : decode cX12_breaks 0 = .ok (.iload_n 1, 1) := by decide +kernel
theorem dX12_breaks_1 : decode cX12_breaks 1 = .ok (.bipush 60, 2) := by decide +kernel
theorem dX12_breaks_3 : decode cX12_breaks 3 = .ok (.idiv, 1) := by decide +kernel
theorem dX12_breaks_4 : decode cX12_breaks 4 = .ok (.istore_n 3, 1) := by decide +kernel
theorem dX12_breaks_5 : decode cX12_breaks 5 = .ok (.aload_n 0, 1) := by decide +kernel
theorem dX12_breaks_6 : decode cX12_breaks 6 = .ok (.getfield 13, 3) := by decide +kernel
theorem dX12_breaks_9 : decode cX12_breaks 9 = .ok (.iload_n 3, 1) := by decide +kernel
theorem dX12_breaks_10 : decode cX12_breaks 10 = .ok (.iaload, 1) := by decide +kernel
theorem dX12_breaks_11 : decode cX12_breaks 11 = .ok (.sipush 131, 3) := by decide +kernel
theorem dX12_breaks_14 : decode cX12_breaks 14 = .ok (.iload_n 1, 1) := by decide +kernel
theorem dX12_breaks_15 : decode cX12_breaks 15 = .ok (.bipush 60, 2) := by decide +kernel
theorem dX12_breaks_17 : decode cX12_breaks 17 = .ok (.irem, 1) := by decide +kernel
theorem dX12_breaks_18 : decode cX12_breaks 18 = .ok (.imul, 1) := by decide +kernel
theorem dX12_breaks_19 : decode cX12_breaks 19 = .ok (.iadd, 1) := by decide +kernel
theorem dX12_breaks_20 : decode cX12_breaks 20 = .ok (.bipush 17, 2) := by decide +kernel
theorem dX12_breaks_22 : decode cX12_breaks 22 = .ok (.iload_n 2, 1) := by decide +kernel
theorem dX12_breaks_23 : decode cX12_breaks 23 = .ok (.imul, 1) := by decide +kernel
theorem dX12_breaks_24 : decode cX12_breaks 24 = .ok (.iadd, 1) := by decide +kernel
theorem dX12_breaks_25 : decode cX12_breaks 25 = .ok (.invokestatic 172, 3) := by decide +kernel
theorem dX12_breaks_28 : decode cX12_breaks 28 = .ok (.sipush 1000, 3) := by decide +kernel
theorem dX12_breaks_31 : decode cX12_breaks 31 = .ok (.invokestatic 176, 3) := by decide +kernel
theorem dX12_breaks_34 : decode cX12_breaks 34 = .ok (.aload_n 0, 1) := by decide +kernel
theorem dX12_breaks_35 : decode cX12_breaks 35 = .ok (.getfield 22, 3) := by decide +kernel
theorem dX12_breaks_38 : decode cX12_breaks 38 = .ok (.iload_n 3, 1) := by decide +kernel
theorem dX12_breaks_39 : decode cX12_breaks 39 = .ok (.iaload, 1) := by decide +kernel
theorem dX12_breaks_40 : decode cX12_breaks 40 = .ok (.if_icmp .ge 7, 3) := by decide +kernel
theorem dX12_breaks_43 : decode cX12_breaks 43 = .ok (.iconst 1, 1) := by decide +kernel
theorem dX12_breaks_44 : decode cX12_breaks 44 = .ok (.goto 4, 3) := by decide +kernel
theorem dX12_breaks_47 : decode cX12_breaks 47 = .ok (.iconst 0, 1) := by decide +kernel
theorem dX12_breaks_48 : decode cX12_breaks 48 = .ok (.ireturn, 1) := by decide +kernel
set_option maxRecDepth 20000 in
theorem ggX12_pot_X12_within : GoodIn wsX12_pot wsX12_within := goodIn_h _ [8] [0] (by decide +kernel) (by decide +kernel)
set_option maxRecDepth 20000 in
theorem gX12_pot_X12_within : GoodIn wsX12_pot (va_wsS RX12 168 yX12_within wsX12_within) := goodIn_app (goodIn_of _ (by decide +kernel)) ggX12_pot_X12_within
theorem dX12_pot_0 : decode cX12_pot 0 = .ok (.aload_n 0, 1) := by decide +kernel
theorem dX12_pot_1 : decode cX12_pot 1 = .ok (.iconst 0, 1) := by decide +kernel
theorem dX12_pot_2 : decode cX12_pot 2 = .ok (.putfield 161, 3) := by decide +kernel
theorem dX12_pot_5 : decode cX12_pot 5 = .ok (.aload_n 0, 1) := by decide +kernel
theorem dX12_pot_6 : decode cX12_pot 6 = .ok (.getfield 197, 3) := by decide +kernel
theorem dX12_pot_9 : decode cX12_pot 9 = .ok (.iconst 4, 1) := by decide +kernel
theorem dX12_pot_10 : decode cX12_pot 10 = .ok (.if_icmp .eq 25, 3) := by decide +kernel
theorem dX12_pot_13 : decode cX12_pot 13 = .ok (.iload_n 1, 1) := by decide +kernel
theorem dX12_pot_14 : decode cX12_pot 14 = .ok (.bipush 10, 2) := by decide +kernel
theorem dX12_pot_16 : decode cX12_pot 16 = .ok (.sipush 2000, 3) := by decide +kernel
theorem dX12_pot_19 : decode cX12_pot 19 = .ok (.invokestatic 168, 3) := by decide +kernel
theorem dX12_pot_22 : decode cX12_pot 22 = .ok (.ifCond .eq 13, 3) := by decide +kernel
theorem dX12_pot_25 : decode cX12_pot 25 = .ok (.iload_n 2, 1) := by decide +kernel
theorem dX12_pot_26 : decode cX12_pot 26 = .ok (.iconst 1, 1) := by decide +kernel
theorem dX12_pot_27 : decode cX12_pot 27 = .ok (.bipush 50, 2) := by decide +kernel
theorem dX12_pot_29 : decode cX12_pot 29 = .ok (.invokestatic 168, 3) := by decide +kernel
theorem dX12_pot_32 : decode cX12_pot 32 = .ok (.ifCond .ne 5, 3) := by decide +kernel
theorem dX12_pot_35 : decode cX12_pot 35 = .ok (.iconst (-1), 1) := by decide +kernel
theorem dX12_pot_36 : decode cX12_pot 36 = .ok (.ireturn, 1) := by decide +kernel
theorem dX12_pot_37 : decode cX12_pot 37 = .ok (.aload_n 0, 1) := by decide +kernel
theorem dX12_pot_38 : decode cX12_pot 38 = .ok (.getfield 37, 3) := by decide +kernel
theorem dX12_pot_41 : decode cX12_pot 41 = .ok (.aload_n 0, 1) := by decide +kernel
theorem dX12_pot_42 : decode cX12_pot 42 = .ok (.getfield 197, 3) := by decide +kernel
theorem dX12_pot_45 : decode cX12_pot 45 = .ok (.iload_n 1, 1) := by decide +kernel
theorem dX12_pot_46 : decode cX12_pot 46 = .ok (.iastore, 1) := by decide +kernel
theorem dX12_pot_47 : decode cX12_pot 47 = .ok (.aload_n 0, 1) := by decide +kernel
theorem dX12_pot_48 : decode cX12_pot 48 = .ok (.getfield 40, 3) := by decide +kernel
theorem dX12_pot_51 : decode cX12_pot 51 = .ok (.aload_n 0, 1) := by decide +kernel
theorem dX12_pot_52 : decode cX12_pot 52 = .ok (.getfield 197, 3) := by decide +kernel
theorem dX12_pot_55 : decode cX12_pot 55 = .ok (.iload_n 2, 1) := by decide +kernel
theorem dX12_pot_56 : decode cX12_pot 56 = .ok (.iastore, 1) := by decide +kernel
theorem dX12_pot_57 : decode cX12_pot 57 = .ok (.aload_n 0, 1) := by decide +kernel
theorem dX12_pot_58 : decode cX12_pot 58 = .ok (.dup, 1) := by decide +kernel
theorem dX12_pot_59 : decode cX12_pot 59 = .ok (.getfield 197, 3) := by decide +kernel
theorem dX12_pot_62 : decode cX12_pot 62 = .ok (.iconst 1, 1) := by decide +kernel
theorem dX12_pot_63 : decode cX12_pot 63 = .ok (.iadd, 1) := by decide +kernel
theorem dX12_pot_64 : decode cX12_pot 64 = .ok (.putfield 197, 3) := by decide +kernel
theorem dX12_pot_67 : decode cX12_pot 67 = .ok (.aload_n 0, 1) := by decide +kernel
theorem dX12_pot_68 : decode cX12_pot 68 = .ok (.getfield 197, 3) := by decide +kernel
theorem dX12_pot_71 : decode cX12_pot 71 = .ok (.iconst 1, 1) := by decide +kernel
theorem dX12_pot_72 : decode cX12_pot 72 = .ok (.isub, 1) := by decide +kernel
theorem dX12_pot_73 : decode cX12_pot 73 = .ok (.ireturn, 1) := by decide +kernel
set_option maxRecDepth 20000 in
theorem ggX12_isPot_X12_within : GoodIn wsX12_isPot wsX12_within := goodIn_h _ [5] [0] (by decide +kernel) (by decide +kernel)
set_option maxRecDepth 20000 in
theorem gX12_isPot_X12_within : GoodIn wsX12_isPot (va_wsS RX12 168 yX12_within wsX12_within) := goodIn_app (goodIn_of _ (by decide +kernel)) ggX12_isPot_X12_within
theorem dX12_isPot_0 : decode cX12_isPot 0 = .ok (.iload_n 1, 1) := by decide +kernel
theorem dX12_isPot_1 : decode cX12_isPot 1 = .ok (.iconst 0, 1) := by decide +kernel
theorem dX12_isPot_2 : decode cX12_isPot 2 = .ok (.aload_n 0, 1) := by decide +kernel
theorem dX12_isPot_3 : decode cX12_isPot 3 = .ok (.getfield 197, 3) := by decide +kernel
theorem dX12_isPot_6 : decode cX12_isPot 6 = .ok (.iconst 1, 1) := by decide +kernel
theorem dX12_isPot_7 : decode cX12_isPot 7 = .ok (.isub, 1) := by decide +kernel
theorem dX12_isPot_8 : decode cX12_isPot 8 = .ok (.invokestatic 168, 3) := by decide +kernel
theorem dX12_isPot_11 : decode cX12_isPot 11 = .ok (.ireturn, 1) := by decide +kernel
set_option maxRecDepth 20000 in
theorem ggX12_target_X12_isPot : GoodIn wsX12_target wsX12_isPot := goodIn_h _ [6, 0, 0, 0, 0, 0, 0, 0, 0, 0, 0, 0, 0, 0, 0, 0, 0, 0, 0, 0, 0, 0, 0, 0, 0, 0, 0, 0, 0, 0, 0, 0, 0, 0, 0, 0, 0, 0, 0, 0, 0, 0, 0, 0, 0, 0, 0, 0, 0, 0, 0, 0, 0, 0, 0, 0, 0, 0, 0, 0, 0, 0, 0, 0, 0, 0, 0, 0, 0, 0, 0, 0] [1, 2, 3, 4, 0, 5, 6, 7, 8, 9, 10, 11, 12, 13, 14, 15, 16, 17, 18, 19, 20, 21, 22, 23, 24, 25, 26, 27, 28, 29, 30, 31, 32, 33, 34, 35, 36, 37, 38, 39, 40, 41, 42, 43, 44, 45, 46, 47, 48, 49, 50, 51, 52, 53, 54, 55, 56, 57, 58, 59, 60, 61, 62, 63, 64, 65, 66, 67, 68, 69, 70, 71] (by decide +kernel) (by decide +kernel)
set_option maxRecDepth 20000 in
theorem gX12_target_X12_isPot : GoodIn wsX12_target (wsV RX12 200 RX12 yX12_isPot wsX12_isPot) := goodIn_app (goodIn_of _ (by decide +kernel)) ggX12_target_X12_isPot
set_option maxRecDepth 20000 in
theorem ggX12_target_X12_within : GoodIn wsX12_target wsX12_within := goodIn_h _ [11] [0] (by decide +kernel) (by decide +kernel)
set_option maxRecDepth 20000 in
theorem gX12_target_X12_within : GoodIn wsX12_target (va_wsS RX12 168 yX12_within wsX12_within) := goodIn_app (goodIn_of _ (by decide +kernel)) ggX12_target_X12_within
theorem dX12_target_0 : decode cX12_target 0 = .ok (.aload_n 0, 1) := by decide +kernel
theorem dX12_target_1 : decode cX12_target 1 = .ok (.iconst 0, 1) := by decide +kernel
theorem dX12_target_2 : decode cX12_target 2 = .ok (.putfield 161, 3) := by decide +kernel
theorem dX12_target_5 : decode cX12_target 5 = .ok (.aload_n 0, 1) := by decide +kernel
theorem dX12_target_6 : decode cX12_target 6 = .ok (.iload_n 1, 1) := by decide +kernel
theorem dX12_target_7 : decode cX12_target 7 = .ok (.invokevirtual 200, 3) := by decide +kernel
theorem dX12_target_10 : decode cX12_target 10 = .ok (.ifCond .eq 15, 3) := by decide +kernel
theorem dX12_target_13 : decode cX12_target 13 = .ok (.iload_n 2, 1) := by decide +kernel
theorem dX12_target_14 : decode cX12_target 14 = .ok (.bipush 10, 2) := by decide +kernel
theorem dX12_target_16 : decode cX12_target 16 = .ok (.sipush 2000, 3) := by decide +kernel
theorem dX12_target_19 : decode cX12_target 19 = .ok (.invokestatic 168, 3) := by decide +kernel
theorem dX12_target_22 : decode cX12_target 22 = .ok (.ifCond .ne 5, 3) := by decide +kernel
theorem dX12_target_25 : decode cX12_target 25 = .ok (.iconst 0, 1) := by decide +kernel
theorem dX12_target_26 : decode cX12_target 26 = .ok (.ireturn, 1) := by decide +kernel
theorem dX12_target_27 : decode cX12_target 27 = .ok (.aload_n 0, 1) := by decide +kernel
theorem dX12_target_28 : decode cX12_target 28 = .ok (.getfield 37, 3) := by decide +kernel
theorem dX12_target_31 : decode cX12_target 31 = .ok (.iload_n 1, 1) := by decide +kernel
theorem dX12_target_32 : decode cX12_target 32 = .ok (.iload_n 2, 1) := by decide +kernel
theorem dX12_target_33 : decode cX12_target 33 = .ok (.iastore, 1) := by decide +kernel
theorem dX12_target_34 : decode cX12_target 34 = .ok (.iconst 1, 1) := by decide +kernel
theorem dX12_target_35 : decode cX12_target 35 = .ok (.ireturn, 1) := by decide +kernel
theorem dX12_at_0 : decode cX12_at 0 = .ok (.aload_n 0, 1) := by decide +kernel
theorem dX12_at_1 : decode cX12_at 1 = .ok (.getfield 55, 3) := by decide +kernel
theorem dX12_at_4 : decode cX12_at 4 = .ok (.sipush 600, 3) := by decide +kernel
theorem dX12_at_7 : decode cX12_at 7 = .ok (.iconst 3, 1) := by decide +kernel
theorem dX12_at_8 : decode cX12_at 8 = .ok (.iload_n 1, 1) := by decide +kernel
theorem dX12_at_9 : decode cX12_at 9 = .ok (.imul, 1) := by decide +kernel
theorem dX12_at_10 : decode cX12_at 10 = .ok (.iload_n 2, 1) := by decide +kernel
theorem dX12_at_11 : decode cX12_at 11 = .ok (.iadd, 1) := by decide +kernel
theorem dX12_at_12 : decode cX12_at 12 = .ok (.imul, 1) := by decide +kernel
theorem dX12_at_13 : decode cX12_at 13 = .ok (.iload_n 3, 1) := by decide +kernel
theorem dX12_at_14 : decode cX12_at 14 = .ok (.iadd, 1) := by decide +kernel
theorem dX12_at_15 : decode cX12_at 15 = .ok (.iaload, 1) := by decide +kernel
theorem dX12_at_16 : decode cX12_at 16 = .ok (.ireturn, 1) := by decide +kernel
theorem dX12_many_0 : decode cX12_many 0 = .ok (.aload_n 0, 1) := by decide +kernel
theorem dX12_many_1 : decode cX12_many 1 = .ok (.getfield 58, 3) := by decide +kernel
theorem dX12_many_4 : decode cX12_many 4 = .ok (.iconst 3, 1) := by decide +kernel
theorem dX12_many_5 : decode cX12_many 5 = .ok (.iload_n 1, 1) := by decide +kernel
theorem dX12_many_6 : decode cX12_many 6 = .ok (.imul, 1) := by decide +kernel
theorem dX12_many_7 : decode cX12_many 7 = .ok (.iload_n 2, 1) := by decide +kernel
theorem dX12_many_8 : decode cX12_many 8 = .ok (.iadd, 1) := by decide +kernel
theorem dX12_many_9 : decode cX12_many 9 = .ok (.iaload, 1) := by decide +kernel
theorem dX12_many_10 : decode cX12_many 10 = .ok (.ireturn, 1) := by decide +kernel
theorem dX12_feed_0 : decode cX12_feed 0 = .ok (.aload_n 0, 1) := by decide +kernel
theorem dX12_feed_1 : decode cX12_feed 1 = .ok (.iconst 0, 1) := by decide +kernel
theorem dX12_feed_2 : decode cX12_feed 2 = .ok (.putfield 161, 3) := by decide +kernel
theorem dX12_feed_5 : decode cX12_feed 5 = .ok (.aload_n 0, 1) := by decide +kernel
theorem dX12_feed_6 : decode cX12_feed 6 = .ok (.getfield 211, 3) := by decide +kernel
theorem dX12_feed_9 : decode cX12_feed 9 = .ok (.sipush 380, 3) := by decide +kernel
theorem dX12_feed_12 : decode cX12_feed 12 = .ok (.if_icmp .le 5, 3) := by decide +kernel
theorem dX12_feed_15 : decode cX12_feed 15 = .ok (.iconst (-1), 1) := by decide +kernel
theorem dX12_feed_16 : decode cX12_feed 16 = .ok (.ireturn, 1) := by decide +kernel
theorem dX12_feed_17 : decode cX12_feed 17 = .ok (.iconst 0, 1) := by decide +kernel
theorem dX12_feed_18 : decode cX12_feed 18 = .ok (.istore 6, 2) := by decide +kernel
theorem dX12_feed_20 : decode cX12_feed 20 = .ok (.iload 6, 2) := by decide +kernel
theorem dX12_feed_22 : decode cX12_feed 22 = .ok (.bipush 20, 2) := by decide +kernel
theorem dX12_feed_24 : decode cX12_feed 24 = .ok (.if_icmp .ge 90, 3) := by decide +kernel
theorem dX12_feed_27 : decode cX12_feed 27 = .ok (.iload 6, 2) := by decide +kernel
theorem dX12_feed_29 : decode cX12_feed 29 = .ok (.iconst 4, 1) := by decide +kernel
theorem dX12_feed_30 : decode cX12_feed 30 = .ok (.if_icmp .ge 7, 3) := by decide +kernel
theorem dX12_feed_33 : decode cX12_feed 33 = .ok (.iload_n 1, 1) := by decide +kernel
theorem dX12_feed_34 : decode cX12_feed 34 = .ok (.goto 39, 3) := by decide +kernel
theorem dX12_feed_37 : decode cX12_feed 37 = .ok (.iload 6, 2) := by decide +kernel
theorem dX12_feed_39 : decode cX12_feed 39 = .ok (.bipush 8, 2) := by decide +kernel
theorem dX12_feed_41 : decode cX12_feed 41 = .ok (.if_icmp .ge 7, 3) := by decide +kernel
theorem dX12_feed_44 : decode cX12_feed 44 = .ok (.iload_n 2, 1) := by decide +kernel
theorem dX12_feed_45 : decode cX12_feed 45 = .ok (.goto 28, 3) := by decide +kernel
theorem dX12_feed_48 : decode cX12_feed 48 = .ok (.iload 6, 2) := by decide +kernel
theorem dX12_feed_50 : decode cX12_feed 50 = .ok (.bipush 12, 2) := by decide +kernel
theorem dX12_feed_52 : decode cX12_feed 52 = .ok (.if_icmp .ge 7, 3) := by decide +kernel
theorem dX12_feed_55 : decode cX12_feed 55 = .ok (.iload_n 3, 1) := by decide +kernel
theorem dX12_feed_56 : decode cX12_feed 56 = .ok (.goto 17, 3) := by decide +kernel
theorem dX12_feed_59 : decode cX12_feed 59 = .ok (.iload 6, 2) := by decide +kernel
theorem dX12_feed_61 : decode cX12_feed 61 = .ok (.bipush 16, 2) := by decide +kernel
theorem dX12_feed_63 : decode cX12_feed 63 = .ok (.if_icmp .ge 8, 3) := by decide +kernel
theorem dX12_feed_66 : decode cX12_feed 66 = .ok (.iload 4, 2) := by decide +kernel
theorem dX12_feed_68 : decode cX12_feed 68 = .ok (.goto 5, 3) := by decide +kernel
theorem dX12_feed_71 : decode cX12_feed 71 = .ok (.iload 5, 2) := by decide +kernel
theorem dX12_feed_73 : decode cX12_feed 73 = .ok (.istore 7, 2) := by decide +kernel
theorem dX12_feed_75 : decode cX12_feed 75 = .ok (.aload_n 0, 1) := by decide +kernel
theorem dX12_feed_76 : decode cX12_feed 76 = .ok (.getfield 82, 3) := by decide +kernel
theorem dX12_feed_79 : decode cX12_feed 79 = .ok (.aload_n 0, 1) := by decide +kernel
theorem dX12_feed_80 : decode cX12_feed 80 = .ok (.getfield 211, 3) := by decide +kernel
theorem dX12_feed_83 : decode cX12_feed 83 = .ok (.iload 7, 2) := by decide +kernel
theorem dX12_feed_85 : decode cX12_feed 85 = .ok (.bipush 24, 2) := by decide +kernel
theorem dX12_feed_87 : decode cX12_feed 87 = .ok (.bipush 8, 2) := by decide +kernel
theorem dX12_feed_89 : decode cX12_feed 89 = .ok (.iload 6, 2) := by decide +kernel
theorem dX12_feed_91 : decode cX12_feed 91 = .ok (.iconst 4, 1) := by decide +kernel
theorem dX12_feed_92 : decode cX12_feed 92 = .ok (.irem, 1) := by decide +kernel
theorem dX12_feed_93 : decode cX12_feed 93 = .ok (.imul, 1) := by decide +kernel
theorem dX12_feed_94 : decode cX12_feed 94 = .ok (.isub, 1) := by decide +kernel
theorem dX12_feed_95 : decode cX12_feed 95 = .ok (.ishr, 1) := by decide +kernel
theorem dX12_feed_96 : decode cX12_feed 96 = .ok (.i2b, 1) := by decide +kernel
theorem dX12_feed_97 : decode cX12_feed 97 = .ok (.bastore, 1) := by decide +kernel
theorem dX12_feed_98 : decode cX12_feed 98 = .ok (.aload_n 0, 1) := by decide +kernel
theorem dX12_feed_99 : decode cX12_feed 99 = .ok (.dup, 1) := by decide +kernel
theorem dX12_feed_100 : decode cX12_feed 100 = .ok (.getfield 211, 3) := by decide +kernel
theorem dX12_feed_103 : decode cX12_feed 103 = .ok (.iconst 1, 1) := by decide +kernel
theorem dX12_feed_104 : decode cX12_feed 104 = .ok (.iadd, 1) := by decide +kernel
theorem dX12_feed_105 : decode cX12_feed 105 = .ok (.putfield 211, 3) := by decide +kernel
theorem dX12_feed_108 : decode cX12_feed 108 = .ok (.iinc 6 1, 3) := by decide +kernel
theorem dX12_feed_111 : decode cX12_feed 111 = .ok (.goto (-91), 3) := by decide +kernel
theorem dX12_feed_114 : decode cX12_feed 114 = .ok (.aload_n 0, 1) := by decide +kernel
theorem dX12_feed_115 : decode cX12_feed 115 = .ok (.getfield 211, 3) := by decide +kernel
theorem dX12_feed_118 : decode cX12_feed 118 = .ok (.ireturn, 1) := by decide +kernel
set_option maxRecDepth 20000 in
theorem ggX12_end_X12_within : GoodIn wsX12_end wsX12_within := goodIn_h _ [6] [0] (by decide +kernel) (by decide +kernel)
set_option maxRecDepth 20000 in
theorem gX12_end_X12_within : GoodIn wsX12_end (va_wsS RX12 168 yX12_within wsX12_within) := goodIn_app (goodIn_of _ (by decide +kernel)) ggX12_end_X12_within
theorem dX12_end_0 : decode cX12_end 0 = .ok (.aload_n 0, 1) := by decide +kernel
theorem dX12_end_1 : decode cX12_end 1 = .ok (.iconst 0, 1) := by decide +kernel
theorem dX12_end_2 : decode cX12_end 2 = .ok (.putfield 161, 3) := by decide +kernel
theorem dX12_end_5 : decode cX12_end 5 = .ok (.iload_n 1, 1) := by decide +kernel
theorem dX12_end_6 : decode cX12_end 6 = .ok (.iconst 0, 1) := by decide +kernel
theorem dX12_end_7 : decode cX12_end 7 = .ok (.aload_n 0, 1) := by decide +kernel
theorem dX12_end_8 : decode cX12_end 8 = .ok (.getfield 211, 3) := by decide +kernel
theorem dX12_end_11 : decode cX12_end 11 = .ok (.invokestatic 168, 3) := by decide +kernel
theorem dX12_end_14 : decode cX12_end 14 = .ok (.ifCond .ne 5, 3) := by decide +kernel
theorem dX12_end_17 : decode cX12_end 17 = .ok (.iconst (-1), 1) := by decide +kernel
theorem dX12_end_18 : decode cX12_end 18 = .ok (.ireturn, 1) := by decide +kernel
theorem dX12_end_19 : decode cX12_end 19 = .ok (.aload_n 0, 1) := by decide +kernel
theorem dX12_end_20 : decode cX12_end 20 = .ok (.iload_n 1, 1) := by decide +kernel
theorem dX12_end_21 : decode cX12_end 21 = .ok (.putfield 211, 3) := by decide +kernel
theorem dX12_end_24 : decode cX12_end 24 = .ok (.iload_n 1, 1) := by decide +kernel
theorem dX12_end_25 : decode cX12_end 25 = .ok (.ireturn, 1) := by decide +kernel
theorem dX12_byteAt_0 : decode cX12_byteAt 0 = .ok (.iload_n 1, 1) := by decide +kernel
theorem dX12_byteAt_1 : decode cX12_byteAt 1 = .ok (.aload_n 0, 1) := by decide +kernel
theorem dX12_byteAt_2 : decode cX12_byteAt 2 = .ok (.getfield 211, 3) := by decide +kernel
theorem dX12_byteAt_5 : decode cX12_byteAt 5 = .ok (.if_icmp .ge 16, 3) := by decide +kernel
theorem dX12_byteAt_8 : decode cX12_byteAt 8 = .ok (.aload_n 0, 1) := by decide +kernel
theorem dX12_byteAt_9 : decode cX12_byteAt 9 = .ok (.getfield 82, 3) := by decide +kernel
theorem dX12_byteAt_12 : decode cX12_byteAt 12 = .ok (.iload_n 1, 1) := by decide +kernel
theorem dX12_byteAt_13 : decode cX12_byteAt 13 = .ok (.baload, 1) := by decide +kernel
theorem dX12_byteAt_14 : decode cX12_byteAt 14 = .ok (.sipush 255, 3) := by decide +kernel
theorem dX12_byteAt_17 : decode cX12_byteAt 17 = .ok (.iand, 1) := by decide +kernel
theorem dX12_byteAt_18 : decode cX12_byteAt 18 = .ok (.goto 4, 3) := by decide +kernel
theorem dX12_byteAt_21 : decode cX12_byteAt 21 = .ok (.iconst 0, 1) := by decide +kernel
theorem dX12_byteAt_22 : decode cX12_byteAt 22 = .ok (.ireturn, 1) := by decide +kernel
set_option maxRecDepth 20000 in
theorem ggX12_token_X12_byteAt : GoodIn wsX12_token wsX12_byteAt := goodIn_h _ [3, 6, 0, 3, 0, 0, 0, 0, 0, 0, 0, 0, 0, 0, 0, 0, 0, 0, 0, 0, 0, 0, 0, 0, 0, 0, 0, 0, 0, 0, 0, 0, 0, 0, 0, 0, 0, 0, 0, 0, 0, 0, 0, 0, 0, 0, 0, 0, 0, 0, 0, 0, 0, 0, 0, 0, 0, 0, 0, 0, 0, 0, 0, 0, 0, 0, 0, 0, 0] [1, 0, 2, 3, 4, 5, 6, 7, 8, 9, 10, 11, 12, 13, 14, 15, 16, 17, 18, 19, 20, 21, 22, 23, 24, 25, 26, 27, 28, 29, 30, 31, 32, 33, 34, 35, 36, 37, 38, 39, 40, 41, 42, 43, 44, 45, 46, 47, 48, 49, 50, 51, 52, 53, 54, 55, 56, 57, 58, 59, 60, 61, 62, 63, 64, 65, 66, 67, 68] (by decide +kernel) (by decide +kernel)
set_option maxRecDepth 20000 in
theorem gX12_token_X12_byteAt : GoodIn wsX12_token (wsV RX12 220 RX12 yX12_byteAt wsX12_byteAt) := goodIn_app (goodIn_of _ (by decide +kernel)) ggX12_token_X12_byteAt
set_option maxRecDepth 20000 in
theorem ggX12_token_X12_within : GoodIn wsX12_token wsX12_within := goodIn_h _ [14] [0] (by decide +kernel) (by decide +kernel)
set_option maxRecDepth 20000 in
theorem gX12_token_X12_within : GoodIn wsX12_token (va_wsS RX12 168 yX12_within wsX12_within) := goodIn_app (goodIn_of _ (by decide +kernel)) ggX12_token_X12_within
theorem dX12_token_0 : decode cX12_token 0 = .ok (.aload_n 0, 1) := by decide +kernel
theorem dX12_token_1 : decode cX12_token 1 = .ok (.aload_n 0, 1) := by decide +kernel
theorem dX12_token_2 : decode cX12_token 2 = .ok (.getfield 214, 3) := by decide +kernel
theorem dX12_token_5 : decode cX12_token 5 = .ok (.putfield 217, 3) := by decide +kernel
theorem dX12_token_8 : decode cX12_token 8 = .ok (.aload_n 0, 1) := by decide +kernel
theorem dX12_token_9 : decode cX12_token 9 = .ok (.aload_n 0, 1) := by decide +kernel
theorem dX12_token_10 : decode cX12_token 10 = .ok (.getfield 217, 3) := by decide +kernel
theorem dX12_token_13 : decode cX12_token 13 = .ok (.invokevirtual 220, 3) := by decide +kernel
theorem dX12_token_16 : decode cX12_token 16 = .ok (.bipush 32, 2) := by decide +kernel
theorem dX12_token_18 : decode cX12_token 18 = .ok (.if_icmp .eq 16, 3) := by decide +kernel
theorem dX12_token_21 : decode cX12_token 21 = .ok (.aload_n 0, 1) := by decide +kernel
theorem dX12_token_22 : decode cX12_token 22 = .ok (.aload_n 0, 1) := by decide +kernel
theorem dX12_token_23 : decode cX12_token 23 = .ok (.getfield 217, 3) := by decide +kernel
theorem dX12_token_26 : decode cX12_token 26 = .ok (.invokevirtual 220, 3) := by decide +kernel
theorem dX12_token_29 : decode cX12_token 29 = .ok (.bipush 10, 2) := by decide +kernel
theorem dX12_token_31 : decode cX12_token 31 = .ok (.if_icmp .ne 16, 3) := by decide +kernel
theorem dX12_token_34 : decode cX12_token 34 = .ok (.aload_n 0, 1) := by decide +kernel
theorem dX12_token_35 : decode cX12_token 35 = .ok (.dup, 1) := by decide +kernel
theorem dX12_token_36 : decode cX12_token 36 = .ok (.getfield 217, 3) := by decide +kernel
theorem dX12_token_39 : decode cX12_token 39 = .ok (.iconst 1, 1) := by decide +kernel
theorem dX12_token_40 : decode cX12_token 40 = .ok (.iadd, 1) := by decide +kernel
theorem dX12_token_41 : decode cX12_token 41 = .ok (.putfield 217, 3) := by decide +kernel
theorem dX12_token_44 : decode cX12_token 44 = .ok (.goto (-36), 3) := by decide +kernel
theorem dX12_token_47 : decode cX12_token 47 = .ok (.aload_n 0, 1) := by decide +kernel
theorem dX12_token_48 : decode cX12_token 48 = .ok (.aload_n 0, 1) := by decide +kernel
theorem dX12_token_49 : decode cX12_token 49 = .ok (.getfield 217, 3) := by decide +kernel
theorem dX12_token_52 : decode cX12_token 52 = .ok (.putfield 214, 3) := by decide +kernel
theorem dX12_token_55 : decode cX12_token 55 = .ok (.aload_n 0, 1) := by decide +kernel
theorem dX12_token_56 : decode cX12_token 56 = .ok (.aload_n 0, 1) := by decide +kernel
theorem dX12_token_57 : decode cX12_token 57 = .ok (.getfield 217, 3) := by decide +kernel
theorem dX12_token_60 : decode cX12_token 60 = .ok (.invokevirtual 220, 3) := by decide +kernel
theorem dX12_token_63 : decode cX12_token 63 = .ok (.istore_n 1, 1) := by decide +kernel
theorem dX12_token_64 : decode cX12_token 64 = .ok (.aload_n 0, 1) := by decide +kernel
theorem dX12_token_65 : decode cX12_token 65 = .ok (.getfield 217, 3) := by decide +kernel
theorem dX12_token_68 : decode cX12_token 68 = .ok (.aload_n 0, 1) := by decide +kernel
theorem dX12_token_69 : decode cX12_token 69 = .ok (.getfield 211, 3) := by decide +kernel
theorem dX12_token_72 : decode cX12_token 72 = .ok (.if_icmp .lt 11, 3) := by decide +kernel
theorem dX12_token_75 : decode cX12_token 75 = .ok (.aload_n 0, 1) := by decide +kernel
theorem dX12_token_76 : decode cX12_token 76 = .ok (.iconst 0, 1) := by decide +kernel
theorem dX12_token_77 : decode cX12_token 77 = .ok (.putfield 223, 3) := by decide +kernel
theorem dX12_token_80 : decode cX12_token 80 = .ok (.goto 228, 3) := by decide +kernel
theorem dX12_token_83 : decode cX12_token 83 = .ok (.iload_n 1, 1) := by decide +kernel
theorem dX12_token_84 : decode cX12_token 84 = .ok (.bipush 97, 2) := by decide +kernel
theorem dX12_token_86 : decode cX12_token 86 = .ok (.bipush 122, 2) := by decide +kernel
theorem dX12_token_88 : decode cX12_token 88 = .ok (.invokestatic 168, 3) := by decide +kernel
theorem dX12_token_91 : decode cX12_token 91 = .ok (.ifCond .eq 60, 3) := by decide +kernel
theorem dX12_token_94 : decode cX12_token 94 = .ok (.aload_n 0, 1) := by decide +kernel
theorem dX12_token_95 : decode cX12_token 95 = .ok (.aload_n 0, 1) := by decide +kernel
theorem dX12_token_96 : decode cX12_token 96 = .ok (.getfield 214, 3) := by decide +kernel
theorem dX12_token_99 : decode cX12_token 99 = .ok (.invokevirtual 220, 3) := by decide +kernel
theorem dX12_token_102 : decode cX12_token 102 = .ok (.bipush 97, 2) := by decide +kernel
theorem dX12_token_104 : decode cX12_token 104 = .ok (.bipush 122, 2) := by decide +kernel
theorem dX12_token_106 : decode cX12_token 106 = .ok (.invokestatic 168, 3) := by decide +kernel
theorem dX12_token_109 : decode cX12_token 109 = .ok (.ifCond .eq 16, 3) := by decide +kernel
theorem dX12_token_112 : decode cX12_token 112 = .ok (.aload_n 0, 1) := by decide +kernel
theorem dX12_token_113 : decode cX12_token 113 = .ok (.dup, 1) := by decide +kernel
theorem dX12_token_114 : decode cX12_token 114 = .ok (.getfield 214, 3) := by decide +kernel
theorem dX12_token_117 : decode cX12_token 117 = .ok (.iconst 1, 1) := by decide +kernel
theorem dX12_token_118 : decode cX12_token 118 = .ok (.iadd, 1) := by decide +kernel
theorem dX12_token_119 : decode cX12_token 119 = .ok (.putfield 214, 3) := by decide +kernel
theorem dX12_token_122 : decode cX12_token 122 = .ok (.goto (-28), 3) := by decide +kernel
theorem dX12_token_125 : decode cX12_token 125 = .ok (.aload_n 0, 1) := by decide +kernel
theorem dX12_token_126 : decode cX12_token 126 = .ok (.aload_n 0, 1) := by decide +kernel
theorem dX12_token_127 : decode cX12_token 127 = .ok (.getfield 214, 3) := by decide +kernel
theorem dX12_token_130 : decode cX12_token 130 = .ok (.aload_n 0, 1) := by decide +kernel
theorem dX12_token_131 : decode cX12_token 131 = .ok (.getfield 217, 3) := by decide +kernel
theorem dX12_token_134 : decode cX12_token 134 = .ok (.isub, 1) := by decide +kernel
theorem dX12_token_135 : decode cX12_token 135 = .ok (.bipush 8, 2) := by decide +kernel
theorem dX12_token_137 : decode cX12_token 137 = .ok (.if_icmp .le 7, 3) := by decide +kernel
theorem dX12_token_140 : decode cX12_token 140 = .ok (.iconst 4, 1) := by decide +kernel
theorem dX12_token_141 : decode cX12_token 141 = .ok (.goto 4, 3) := by decide +kernel
theorem dX12_token_144 : decode cX12_token 144 = .ok (.iconst 1, 1) := by decide +kernel
theorem dX12_token_145 : decode cX12_token 145 = .ok (.putfield 223, 3) := by decide +kernel
theorem dX12_token_148 : decode cX12_token 148 = .ok (.goto 160, 3) := by decide +kernel
theorem dX12_token_151 : decode cX12_token 151 = .ok (.iload_n 1, 1) := by decide +kernel
theorem dX12_token_152 : decode cX12_token 152 = .ok (.bipush 48, 2) := by decide +kernel
theorem dX12_token_154 : decode cX12_token 154 = .ok (.bipush 57, 2) := by decide +kernel
theorem dX12_token_156 : decode cX12_token 156 = .ok (.invokestatic 168, 3) := by decide +kernel
theorem dX12_token_159 : decode cX12_token 159 = .ok (.ifCond .eq 100, 3) := by decide +kernel
theorem dX12_token_162 : decode cX12_token 162 = .ok (.aload_n 0, 1) := by decide +kernel
theorem dX12_token_163 : decode cX12_token 163 = .ok (.iconst 0, 1) := by decide +kernel
theorem dX12_token_164 : decode cX12_token 164 = .ok (.putfield 226, 3) := by decide +kernel
theorem dX12_token_167 : decode cX12_token 167 = .ok (.aload_n 0, 1) := by decide +kernel
theorem dX12_token_168 : decode cX12_token 168 = .ok (.aload_n 0, 1) := by decide +kernel
theorem dX12_token_169 : decode cX12_token 169 = .ok (.getfield 214, 3) := by decide +kernel
theorem dX12_token_172 : decode cX12_token 172 = .ok (.invokevirtual 220, 3) := by decide +kernel
theorem dX12_token_175 : decode cX12_token 175 = .ok (.bipush 48, 2) := by decide +kernel
theorem dX12_token_177 : decode cX12_token 177 = .ok (.bipush 57, 2) := by decide +kernel
theorem dX12_token_179 : decode cX12_token 179 = .ok (.invokestatic 168, 3) := by decide +kernel
theorem dX12_token_182 : decode cX12_token 182 = .ok (.ifCond .eq 52, 3) := by decide +kernel
theorem dX12_token_185 : decode cX12_token 185 = .ok (.aload_n 0, 1) := by decide +kernel
theorem dX12_token_186 : decode cX12_token 186 = .ok (.getfield 214, 3) := by decide +kernel
theorem dX12_token_189 : decode cX12_token 189 = .ok (.aload_n 0, 1) := by decide +kernel
theorem dX12_token_190 : decode cX12_token 190 = .ok (.getfield 217, 3) := by decide +kernel
theorem dX12_token_193 : decode cX12_token 193 = .ok (.isub, 1) := by decide +kernel
theorem dX12_token_194 : decode cX12_token 194 = .ok (.iconst 4, 1) := by decide +kernel
theorem dX12_token_195 : decode cX12_token 195 = .ok (.if_icmp .ge 26, 3) := by decide +kernel
theorem dX12_token_198 : decode cX12_token 198 = .ok (.aload_n 0, 1) := by decide +kernel
theorem dX12_token_199 : decode cX12_token 199 = .ok (.bipush 10, 2) := by decide +kernel
theorem dX12_token_201 : decode cX12_token 201 = .ok (.aload_n 0, 1) := by decide +kernel
theorem dX12_token_202 : decode cX12_token 202 = .ok (.getfield 226, 3) := by decide +kernel
theorem dX12_token_205 : decode cX12_token 205 = .ok (.imul, 1) := by decide +kernel
theorem dX12_token_206 : decode cX12_token 206 = .ok (.aload_n 0, 1) := by decide +kernel
theorem dX12_token_207 : decode cX12_token 207 = .ok (.aload_n 0, 1) := by decide +kernel
theorem dX12_token_208 : decode cX12_token 208 = .ok (.getfield 214, 3) := by decide +kernel
theorem dX12_token_211 : decode cX12_token 211 = .ok (.invokevirtual 220, 3) := by decide +kernel
theorem dX12_token_214 : decode cX12_token 214 = .ok (.iadd, 1) := by decide +kernel
theorem dX12_token_215 : decode cX12_token 215 = .ok (.bipush 48, 2) := by decide +kernel
theorem dX12_token_217 : decode cX12_token 217 = .ok (.isub, 1) := by decide +kernel
theorem dX12_token_218 : decode cX12_token 218 = .ok (.putfield 226, 3) := by decide +kernel
theorem dX12_token_221 : decode cX12_token 221 = .ok (.aload_n 0, 1) := by decide +kernel
theorem dX12_token_222 : decode cX12_token 222 = .ok (.dup, 1) := by decide +kernel
theorem dX12_token_223 : decode cX12_token 223 = .ok (.getfield 214, 3) := by decide +kernel
theorem dX12_token_226 : decode cX12_token 226 = .ok (.iconst 1, 1) := by decide +kernel
theorem dX12_token_227 : decode cX12_token 227 = .ok (.iadd, 1) := by decide +kernel
theorem dX12_token_228 : decode cX12_token 228 = .ok (.putfield 214, 3) := by decide +kernel
theorem dX12_token_231 : decode cX12_token 231 = .ok (.goto (-64), 3) := by decide +kernel
theorem dX12_token_234 : decode cX12_token 234 = .ok (.aload_n 0, 1) := by decide +kernel
theorem dX12_token_235 : decode cX12_token 235 = .ok (.aload_n 0, 1) := by decide +kernel
theorem dX12_token_236 : decode cX12_token 236 = .ok (.getfield 214, 3) := by decide +kernel
theorem dX12_token_239 : decode cX12_token 239 = .ok (.aload_n 0, 1) := by decide +kernel
theorem dX12_token_240 : decode cX12_token 240 = .ok (.getfield 217, 3) := by decide +kernel
theorem dX12_token_243 : decode cX12_token 243 = .ok (.isub, 1) := by decide +kernel
theorem dX12_token_244 : decode cX12_token 244 = .ok (.iconst 4, 1) := by decide +kernel
theorem dX12_token_245 : decode cX12_token 245 = .ok (.if_icmp .le 7, 3) := by decide +kernel
theorem dX12_token_248 : decode cX12_token 248 = .ok (.iconst 4, 1) := by decide +kernel
theorem dX12_token_249 : decode cX12_token 249 = .ok (.goto 4, 3) := by decide +kernel
theorem dX12_token_252 : decode cX12_token 252 = .ok (.iconst 2, 1) := by decide +kernel
theorem dX12_token_253 : decode cX12_token 253 = .ok (.putfield 223, 3) := by decide +kernel
theorem dX12_token_256 : decode cX12_token 256 = .ok (.goto 52, 3) := by decide +kernel
theorem dX12_token_259 : decode cX12_token 259 = .ok (.aload_n 0, 1) := by decide +kernel
theorem dX12_token_260 : decode cX12_token 260 = .ok (.dup, 1) := by decide +kernel
theorem dX12_token_261 : decode cX12_token 261 = .ok (.getfield 214, 3) := by decide +kernel
theorem dX12_token_264 : decode cX12_token 264 = .ok (.iconst 1, 1) := by decide +kernel
theorem dX12_token_265 : decode cX12_token 265 = .ok (.iadd, 1) := by decide +kernel
theorem dX12_token_266 : decode cX12_token 266 = .ok (.putfield 214, 3) := by decide +kernel
theorem dX12_token_269 : decode cX12_token 269 = .ok (.aload_n 0, 1) := by decide +kernel
theorem dX12_token_270 : decode cX12_token 270 = .ok (.iload_n 1, 1) := by decide +kernel
theorem dX12_token_271 : decode cX12_token 271 = .ok (.bipush 60, 2) := by decide +kernel
theorem dX12_token_273 : decode cX12_token 273 = .ok (.if_icmp .eq 27, 3) := by decide +kernel
theorem dX12_token_276 : decode cX12_token 276 = .ok (.iload_n 1, 1) := by decide +kernel
theorem dX12_token_277 : decode cX12_token 277 = .ok (.bipush 61, 2) := by decide +kernel
theorem dX12_token_279 : decode cX12_token 279 = .ok (.if_icmp .eq 21, 3) := by decide +kernel
theorem dX12_token_282 : decode cX12_token 282 = .ok (.iload_n 1, 1) := by decide +kernel
theorem dX12_token_283 : decode cX12_token 283 = .ok (.bipush 62, 2) := by decide +kernel
theorem dX12_token_285 : decode cX12_token 285 = .ok (.if_icmp .eq 15, 3) := by decide +kernel
theorem dX12_token_288 : decode cX12_token 288 = .ok (.iload_n 1, 1) := by decide +kernel
theorem dX12_token_289 : decode cX12_token 289 = .ok (.bipush 58, 2) := by decide +kernel
theorem dX12_token_291 : decode cX12_token 291 = .ok (.if_icmp .eq 9, 3) := by decide +kernel
theorem dX12_token_294 : decode cX12_token 294 = .ok (.iload_n 1, 1) := by decide +kernel
theorem dX12_token_295 : decode cX12_token 295 = .ok (.bipush 59, 2) := by decide +kernel
theorem dX12_token_297 : decode cX12_token 297 = .ok (.if_icmp .ne 7, 3) := by decide +kernel
theorem dX12_token_300 : decode cX12_token 300 = .ok (.iconst 3, 1) := by decide +kernel
theorem dX12_token_301 : decode cX12_token 301 = .ok (.goto 4, 3) := by decide +kernel
theorem dX12_token_304 : decode cX12_token 304 = .ok (.iconst 4, 1) := by decide +kernel
theorem dX12_token_305 : decode cX12_token 305 = .ok (.putfield 223, 3) := by decide +kernel
theorem dX12_token_308 : decode cX12_token 308 = .ok (.return_, 1) := by decide +kernel
set_option maxRecDepth 20000 in
theorem ggX12_is_J0_length_8abf5 : GoodIn wsX12_is wsJ0_length_8abf5 := goodIn_h _ [7, 0, 0, 0, 0, 0, 0, 0, 0] [1, 2, 3, 4, 5, 0, 6, 7, 8] (by decide +kernel) (by decide +kernel)
set_option maxRecDepth 20000 in
theorem gX12_is_J0_length_8abf5 : GoodIn wsX12_is (wsV RX12 232 RJ0 yJ0_length_8abf5 wsJ0_length_8abf5) := goodIn_app (goodIn_of _ (by decide +kernel)) ggX12_is_J0_length_8abf5
set_option maxRecDepth 20000 in
theorem ggX12_is_X12_byteAt : GoodIn wsX12_is wsX12_byteAt := goodIn_h _ [20, 0, 0, 37, 0, 0, 0, 0, 0, 0, 0, 0, 0, 0, 0, 0, 0, 0, 0, 0, 0, 0, 0, 0, 0, 0, 0, 0, 0, 0, 0, 0, 0, 0, 0, 0, 0, 0, 0, 0, 0, 0, 0, 0, 0, 0, 0, 0, 0, 0, 0, 0, 0, 0, 0, 0, 0, 0, 0, 0, 0, 0, 0, 0, 0, 0, 0, 0, 0] [0, 1, 2, 3, 4, 5, 6, 7, 8, 9, 10, 11, 12, 13, 14, 15, 16, 17, 18, 19, 20, 21, 22, 23, 24, 25, 26, 27, 28, 29, 30, 31, 32, 33, 34, 35, 36, 37, 38, 39, 40, 41, 42, 43, 44, 45, 46, 47, 48, 49, 50, 51, 52, 53, 54, 55, 56, 57, 58, 59, 60, 61, 62, 63, 64, 65, 66, 67, 68] (by decide +kernel) (by decide +kernel)
set_option maxRecDepth 20000 in
theorem gX12_is_X12_byteAt : GoodIn wsX12_is (wsV RX12 220 RX12 yX12_byteAt wsX12_byteAt) := goodIn_app (goodIn_of _ (by decide +kernel)) ggX12_is_X12_byteAt
set_option maxRecDepth 20000 in
theorem ggX12_is_J0_charAt_5068e : GoodIn wsX12_is wsJ0_charAt_5068e := goodIn_h _ [7, 1, 4, 0, 10, 0, 0, 0, 0, 0, 0, 0, 0, 0, 0, 0, 0, 0, 0, 0, 0, 0, 0, 0, 0, 0, 0, 0, 0, 0, 0, 0, 0, 0, 0, 0, 0, 0] [4, 1, 5, 6, 7, 0, 8, 2, 3, 9, 10, 11, 12, 13, 14, 15, 16, 17, 18, 19, 20, 21, 22, 23, 24, 25, 26, 27, 28, 29, 30, 31, 32, 33, 34, 35, 36, 37] (by decide +kernel) (by decide +kernel)
set_option maxRecDepth 20000 in
theorem gX12_is_J0_charAt_5068e : GoodIn wsX12_is (wsV RX12 238 RJ0 yJ0_charAt_5068e wsJ0_charAt_5068e) := goodIn_app (goodIn_of _ (by decide +kernel)) ggX12_is_J0_charAt_5068e
theorem dX12_is_0 : decode cX12_is 0 = .ok (.aload_n 0, 1) := by decide +kernel
theorem dX12_is_1 : decode cX12_is 1 = .ok (.getfield 229, 3) := by decide +kernel
theorem dX12_is_4 : decode cX12_is 4 = .ok (.ifCond .ne 23, 3) := by decide +kernel
theorem dX12_is_7 : decode cX12_is 7 = .ok (.aload_n 0, 1) := by decide +kernel
theorem dX12_is_8 : decode cX12_is 8 = .ok (.getfield 214, 3) := by decide +kernel
theorem dX12_is_11 : decode cX12_is 11 = .ok (.aload_n 0, 1) := by decide +kernel
theorem dX12_is_12 : decode cX12_is 12 = .ok (.getfield 217, 3) := by decide +kernel
theorem dX12_is_15 : decode cX12_is 15 = .ok (.isub, 1) := by decide +kernel
theorem dX12_is_16 : decode cX12_is 16 = .ok (.aload_n 1, 1) := by decide +kernel
theorem dX12_is_17 : decode cX12_is 17 = .ok (.invokevirtual 232, 3) := by decide +kernel
theorem dX12_is_20 : decode cX12_is 20 = .ok (.if_icmp .ne 7, 3) := by decide +kernel
theorem dX12_is_23 : decode cX12_is 23 = .ok (.iconst 1, 1) := by decide +kernel
theorem dX12_is_24 : decode cX12_is 24 = .ok (.goto 4, 3) := by decide +kernel
theorem dX12_is_27 : decode cX12_is 27 = .ok (.iconst 0, 1) := by decide +kernel
theorem dX12_is_28 : decode cX12_is 28 = .ok (.istore_n 2, 1) := by decide +kernel
theorem dX12_is_29 : decode cX12_is 29 = .ok (.iconst 0, 1) := by decide +kernel
theorem dX12_is_30 : decode cX12_is 30 = .ok (.istore_n 3, 1) := by decide +kernel
theorem dX12_is_31 : decode cX12_is 31 = .ok (.iload_n 3, 1) := by decide +kernel
theorem dX12_is_32 : decode cX12_is 32 = .ok (.aload_n 1, 1) := by decide +kernel
theorem dX12_is_33 : decode cX12_is 33 = .ok (.invokevirtual 232, 3) := by decide +kernel
theorem dX12_is_36 : decode cX12_is 36 = .ok (.if_icmp .ge 37, 3) := by decide +kernel
theorem dX12_is_39 : decode cX12_is 39 = .ok (.iload_n 2, 1) := by decide +kernel
theorem dX12_is_40 : decode cX12_is 40 = .ok (.ifCond .eq 33, 3) := by decide +kernel
theorem dX12_is_43 : decode cX12_is 43 = .ok (.aload_n 0, 1) := by decide +kernel
theorem dX12_is_44 : decode cX12_is 44 = .ok (.aload_n 0, 1) := by decide +kernel
theorem dX12_is_45 : decode cX12_is 45 = .ok (.getfield 217, 3) := by decide +kernel
theorem dX12_is_48 : decode cX12_is 48 = .ok (.iload_n 3, 1) := by decide +kernel
theorem dX12_is_49 : decode cX12_is 49 = .ok (.iadd, 1) := by decide +kernel
theorem dX12_is_50 : decode cX12_is 50 = .ok (.invokevirtual 220, 3) := by decide +kernel
theorem dX12_is_53 : decode cX12_is 53 = .ok (.aload_n 1, 1) := by decide +kernel
theorem dX12_is_54 : decode cX12_is 54 = .ok (.iload_n 3, 1) := by decide +kernel
theorem dX12_is_55 : decode cX12_is 55 = .ok (.invokevirtual 238, 3) := by decide +kernel
theorem dX12_is_58 : decode cX12_is 58 = .ok (.if_icmp .ne 7, 3) := by decide +kernel
theorem dX12_is_61 : decode cX12_is 61 = .ok (.iconst 1, 1) := by decide +kernel
theorem dX12_is_62 : decode cX12_is 62 = .ok (.goto 4, 3) := by decide +kernel
theorem dX12_is_65 : decode cX12_is 65 = .ok (.iconst 0, 1) := by decide +kernel
theorem dX12_is_66 : decode cX12_is 66 = .ok (.istore_n 2, 1) := by decide +kernel
theorem dX12_is_67 : decode cX12_is 67 = .ok (.iinc 3 1, 3) := by decide +kernel
theorem dX12_is_70 : decode cX12_is 70 = .ok (.goto (-39), 3) := by decide +kernel
theorem dX12_is_73 : decode cX12_is 73 = .ok (.iload_n 2, 1) := by decide +kernel
theorem dX12_is_74 : decode cX12_is 74 = .ok (.ireturn, 1) := by decide +kernel
theorem dX12_wrong_0 : decode cX12_wrong 0 = .ok (.aload_n 0, 1) := by decide +kernel
theorem dX12_wrong_1 : decode cX12_wrong 1 = .ok (.getfield 229, 3) := by decide +kernel
theorem dX12_wrong_4 : decode cX12_wrong 4 = .ok (.ifCond .ne 16, 3) := by decide +kernel
theorem dX12_wrong_7 : decode cX12_wrong 7 = .ok (.aload_n 0, 1) := by decide +kernel
theorem dX12_wrong_8 : decode cX12_wrong 8 = .ok (.iload_n 1, 1) := by decide +kernel
theorem dX12_wrong_9 : decode cX12_wrong 9 = .ok (.putfield 229, 3) := by decide +kernel
theorem dX12_wrong_12 : decode cX12_wrong 12 = .ok (.aload_n 0, 1) := by decide +kernel
theorem dX12_wrong_13 : decode cX12_wrong 13 = .ok (.aload_n 0, 1) := by decide +kernel
theorem dX12_wrong_14 : decode cX12_wrong 14 = .ok (.getfield 217, 3) := by decide +kernel
theorem dX12_wrong_17 : decode cX12_wrong 17 = .ok (.putfield 86, 3) := by decide +kernel
theorem dX12_wrong_20 : decode cX12_wrong 20 = .ok (.iconst 0, 1) := by decide +kernel
theorem dX12_wrong_21 : decode cX12_wrong 21 = .ok (.ireturn, 1) := by decide +kernel
set_option maxRecDepth 20000 in
theorem ggX12_must_X12_is : GoodIn wsX12_must wsX12_is := goodIn_h _ [4, 0, 0, 0, 0, 0, 0, 0, 0, 0, 0, 0, 0, 0, 0, 0, 0, 0, 0, 0, 0, 0, 0, 0, 0, 0, 0, 0, 0, 0, 0, 0, 0, 0, 0, 0, 0, 0, 0, 0, 0, 0, 0, 0, 0, 0, 0, 0, 0, 0, 0, 0, 0, 0, 0, 0, 0, 0, 0, 0, 14, 0, 0, 0, 0, 0, 0, 0, 0, 0, 0, 0, 0, 0, 0, 0, 0, 0, 0, 0, 0, 0, 0, 0, 0, 0, 0, 0, 0, 0, 0, 0, 0, 0, 0, 0, 0, 0, 0, 0, 0, 0, 0, 0, 0, 0, 0, 0, 0, 0, 0, 0, 0, 0, 0, 0, 0, 0, 0, 0, 0, 0, 0, 0, 0, 0] [1, 2, 3, 4, 5, 6, 7, 8, 9, 10, 11, 12, 13, 14, 15, 16, 17, 18, 19, 0, 20, 21, 22, 23, 24, 25, 26, 27, 28, 29, 30, 31, 32, 33, 34, 35, 36, 37, 38, 39, 40, 41, 42, 43, 44, 45, 46, 47, 48, 49, 50, 51, 52, 53, 54, 55, 56, 57, 58, 59, 60, 61, 62, 63, 64, 65, 66, 67, 68, 69, 70, 71, 72, 73, 74, 75, 76, 77, 78, 79, 80, 81, 82, 83, 84, 85, 86, 87, 88, 89, 90, 91, 92, 93, 94, 95, 96, 97, 98, 99, 100, 101, 102, 103, 104, 105, 106, 107, 108, 109, 110, 111, 112, 113, 114, 115, 116, 117, 118, 119, 120, 121, 122, 123, 124, 125] (by decide +kernel) (by decide +kernel)
set_option maxRecDepth 20000 in
theorem gX12_must_X12_is : GoodIn wsX12_must (wsV RX12 242 RX12 yX12_is wsX12_is) := goodIn_app (goodIn_of _ (by decide +kernel)) ggX12_must_X12_is
set_option maxRecDepth 20000 in
theorem ggX12_must_X12_wrong : GoodIn wsX12_must wsX12_wrong := goodIn_h _ [6, 1, 58, 0, 9, 0, 0, 0, 0, 0, 0, 0, 0, 0, 0, 0, 0, 0, 0, 0, 0, 0, 0, 0, 0, 0, 0, 0, 0, 0, 0, 0, 0, 0, 0, 0, 0, 0, 0, 0, 0, 0, 0, 0, 0, 0, 0, 0, 0, 0, 0, 0, 0, 0, 0, 0, 0, 0, 0, 0, 0, 0, 0, 0, 0, 0, 0, 0, 0, 0] [2, 0, 1, 3, 4, 5, 6, 7, 8, 9, 10, 11, 12, 13, 14, 15, 16, 17, 18, 19, 20, 21, 22, 23, 24, 25, 26, 27, 28, 29, 30, 31, 32, 33, 34, 35, 36, 37, 38, 39, 40, 41, 42, 43, 44, 45, 46, 47, 48, 49, 50, 51, 52, 53, 54, 55, 56, 57, 58, 59, 60, 61, 62, 63, 64, 65, 66, 67, 68, 69] (by decide +kernel) (by decide +kernel)
set_option maxRecDepth 20000 in
theorem gX12_must_X12_wrong : GoodIn wsX12_must (wsV RX12 246 RX12 yX12_wrong wsX12_wrong) := goodIn_app (goodIn_of _ (by decide +kernel)) ggX12_must_X12_wrong
set_option maxRecDepth 20000 in
theorem ggX12_must_X12_token : GoodIn wsX12_must wsX12_token := goodIn_h _ [4, 2, 0, 12, 0, 0, 0, 0, 0, 45, 0, 0, 0, 0, 0, 0, 0, 0, 0, 0, 0, 0, 0, 0, 0, 0, 0, 0, 0, 0, 0, 0, 0, 0, 0, 0, 0, 0, 0, 0, 0, 0, 0, 0, 0, 0, 0, 0, 0, 0, 0, 0, 0, 0, 0, 0, 0, 0, 0, 0, 0, 0, 0, 0, 0, 0, 0, 0, 0, 0, 0, 0, 0, 0, 0, 0, 0, 0, 0, 0, 0] [9, 1, 2, 7, 10, 11, 3, 4, 5, 0, 6, 8, 12, 13, 14, 15, 16, 17, 18, 19, 20, 21, 22, 23, 24, 25, 26, 27, 28, 29, 30, 31, 32, 33, 34, 35, 36, 37, 38, 39, 40, 41, 42, 43, 44, 45, 46, 47, 48, 49, 50, 51, 52, 53, 54, 55, 56, 57, 58, 59, 60, 61, 62, 63, 64, 65, 66, 67, 68, 69, 70, 71, 72, 73, 74, 75, 76, 77, 78, 79, 80] (by decide +kernel) (by decide +kernel)
set_option maxRecDepth 20000 in
theorem gX12_must_X12_token : GoodIn wsX12_must (wsV RX12 249 RX12 yX12_token wsX12_token) := goodIn_app (goodIn_of _ (by decide +kernel)) ggX12_must_X12_token
theorem dX12_must_0 : decode cX12_must 0 = .ok (.aload_n 0, 1) := by decide +kernel
theorem dX12_must_1 : decode cX12_must 1 = .ok (.aload_n 1, 1) := by decide +kernel
theorem dX12_must_2 : decode cX12_must 2 = .ok (.invokevirtual 242, 3) := by decide +kernel
theorem dX12_must_5 : decode cX12_must 5 = .ok (.ifCond .ne 9, 3) := by decide +kernel
theorem dX12_must_8 : decode cX12_must 8 = .ok (.aload_n 0, 1) := by decide +kernel
theorem dX12_must_9 : decode cX12_must 9 = .ok (.iconst 1, 1) := by decide +kernel
theorem dX12_must_10 : decode cX12_must 10 = .ok (.invokevirtual 246, 3) := by decide +kernel
theorem dX12_must_13 : decode cX12_must 13 = .ok (.ireturn, 1) := by decide +kernel
theorem dX12_must_14 : decode cX12_must 14 = .ok (.aload_n 0, 1) := by decide +kernel
theorem dX12_must_15 : decode cX12_must 15 = .ok (.invokevirtual 249, 3) := by decide +kernel
theorem dX12_must_18 : decode cX12_must 18 = .ok (.iconst 1, 1) := by decide +kernel
theorem dX12_must_19 : decode cX12_must 19 = .ok (.ireturn, 1) := by decide +kernel
set_option maxRecDepth 20000 in
theorem ggX12_which_J0_length_8abf5 : GoodIn wsX12_which wsJ0_length_8abf5 := goodIn_h _ [8, 0, 0, 0, 0, 0, 0, 0, 0] [1, 2, 3, 4, 5, 0, 6, 7, 8] (by decide +kernel) (by decide +kernel)
set_option maxRecDepth 20000 in
theorem gX12_which_J0_length_8abf5 : GoodIn wsX12_which (wsV RX12 232 RJ0 yJ0_length_8abf5 wsJ0_length_8abf5) := goodIn_app (goodIn_of _ (by decide +kernel)) ggX12_which_J0_length_8abf5
set_option maxRecDepth 20000 in
theorem ggX12_which_J0_charAt_5068e : GoodIn wsX12_which wsJ0_charAt_5068e := goodIn_h _ [8, 1, 4, 0, 3, 0, 0, 0, 0, 0, 0, 0, 0, 0, 0, 0, 0, 0, 0, 0, 0, 0, 0, 0, 0, 0, 0, 0, 0, 0, 0, 0, 0, 0, 0, 0, 0, 0] [4, 1, 5, 6, 7, 0, 8, 2, 3, 9, 10, 11, 12, 13, 14, 15, 16, 17, 18, 19, 20, 21, 22, 23, 24, 25, 26, 27, 28, 29, 30, 31, 32, 33, 34, 35, 36, 37] (by decide +kernel) (by decide +kernel)
set_option maxRecDepth 20000 in
theorem gX12_which_J0_charAt_5068e : GoodIn wsX12_which (wsV RX12 238 RJ0 yJ0_charAt_5068e wsJ0_charAt_5068e) := goodIn_app (goodIn_of _ (by decide +kernel)) ggX12_which_J0_charAt_5068e
set_option maxRecDepth 20000 in
theorem ggX12_which_X12_byteAt : GoodIn wsX12_which wsX12_byteAt := goodIn_h _ [58, 0, 0, 0, 0, 0, 0, 0, 0, 0, 0, 0, 0, 0, 0, 0, 0, 0, 0, 0, 0, 0, 0, 0, 0, 0, 0, 0, 0, 0, 0, 0, 0, 0, 0, 0, 0, 0, 0, 0, 0, 0, 0, 0, 0, 0, 0, 0, 0, 0, 0, 0, 0, 0, 0, 0, 0, 0, 0, 0, 0, 0, 0, 0, 0, 0, 0, 0, 0] [0, 1, 2, 3, 4, 5, 6, 7, 8, 9, 10, 11, 12, 13, 14, 15, 16, 17, 18, 19, 20, 21, 22, 23, 24, 25, 26, 27, 28, 29, 30, 31, 32, 33, 34, 35, 36, 37, 38, 39, 40, 41, 42, 43, 44, 45, 46, 47, 48, 49, 50, 51, 52, 53, 54, 55, 56, 57, 58, 59, 60, 61, 62, 63, 64, 65, 66, 67, 68] (by decide +kernel) (by decide +kernel)
set_option maxRecDepth 20000 in
theorem gX12_which_X12_byteAt : GoodIn wsX12_which (wsV RX12 220 RX12 yX12_byteAt wsX12_byteAt) := goodIn_app (goodIn_of _ (by decide +kernel)) ggX12_which_X12_byteAt
theorem dX12_which_0 : decode cX12_which 0 = .ok (.iconst 0, 1) := by decide +kernel
theorem dX12_which_1 : decode cX12_which 1 = .ok (.istore_n 2, 1) := by decide +kernel
theorem dX12_which_2 : decode cX12_which 2 = .ok (.iconst 0, 1) := by decide +kernel
theorem dX12_which_3 : decode cX12_which 3 = .ok (.istore_n 3, 1) := by decide +kernel
theorem dX12_which_4 : decode cX12_which 4 = .ok (.iconst 0, 1) := by decide +kernel
theorem dX12_which_5 : decode cX12_which 5 = .ok (.istore 4, 2) := by decide +kernel
theorem dX12_which_7 : decode cX12_which 7 = .ok (.iload 4, 2) := by decide +kernel
theorem dX12_which_9 : decode cX12_which 9 = .ok (.aload_n 1, 1) := by decide +kernel
theorem dX12_which_10 : decode cX12_which 10 = .ok (.invokevirtual 232, 3) := by decide +kernel
theorem dX12_which_13 : decode cX12_which 13 = .ok (.if_icmp .ge 128, 3) := by decide +kernel
theorem dX12_which_16 : decode cX12_which 16 = .ok (.aload_n 1, 1) := by decide +kernel
theorem dX12_which_17 : decode cX12_which 17 = .ok (.iload 4, 2) := by decide +kernel
theorem dX12_which_19 : decode cX12_which 19 = .ok (.invokevirtual 238, 3) := by decide +kernel
theorem dX12_which_22 : decode cX12_which 22 = .ok (.bipush 32, 2) := by decide +kernel
theorem dX12_which_24 : decode cX12_which 24 = .ok (.if_icmp .eq 6, 3) := by decide +kernel
theorem dX12_which_27 : decode cX12_which 27 = .ok (.goto 108, 3) := by decide +kernel
theorem dX12_which_30 : decode cX12_which 30 = .ok (.aload_n 0, 1) := by decide +kernel
theorem dX12_which_31 : decode cX12_which 31 = .ok (.getfield 223, 3) := by decide +kernel
theorem dX12_which_34 : decode cX12_which 34 = .ok (.iconst 1, 1) := by decide +kernel
theorem dX12_which_35 : decode cX12_which 35 = .ok (.if_icmp .ne 30, 3) := by decide +kernel
theorem dX12_which_38 : decode cX12_which 38 = .ok (.aload_n 0, 1) := by decide +kernel
theorem dX12_which_39 : decode cX12_which 39 = .ok (.getfield 229, 3) := by decide +kernel
theorem dX12_which_42 : decode cX12_which 42 = .ok (.ifCond .ne 23, 3) := by decide +kernel
theorem dX12_which_45 : decode cX12_which 45 = .ok (.aload_n 0, 1) := by decide +kernel
theorem dX12_which_46 : decode cX12_which 46 = .ok (.getfield 214, 3) := by decide +kernel
theorem dX12_which_49 : decode cX12_which 49 = .ok (.aload_n 0, 1) := by decide +kernel
theorem dX12_which_50 : decode cX12_which 50 = .ok (.getfield 217, 3) := by decide +kernel
theorem dX12_which_53 : decode cX12_which 53 = .ok (.isub, 1) := by decide +kernel
theorem dX12_which_54 : decode cX12_which 54 = .ok (.iload 4, 2) := by decide +kernel
theorem dX12_which_56 : decode cX12_which 56 = .ok (.iload_n 3, 1) := by decide +kernel
theorem dX12_which_57 : decode cX12_which 57 = .ok (.isub, 1) := by decide +kernel
theorem dX12_which_58 : decode cX12_which 58 = .ok (.if_icmp .ne 7, 3) := by decide +kernel
theorem dX12_which_61 : decode cX12_which 61 = .ok (.iconst 1, 1) := by decide +kernel
theorem dX12_which_62 : decode cX12_which 62 = .ok (.goto 4, 3) := by decide +kernel
theorem dX12_which_65 : decode cX12_which 65 = .ok (.iconst 0, 1) := by decide +kernel
theorem dX12_which_66 : decode cX12_which 66 = .ok (.istore 5, 2) := by decide +kernel
theorem dX12_which_68 : decode cX12_which 68 = .ok (.iconst 0, 1) := by decide +kernel
theorem dX12_which_69 : decode cX12_which 69 = .ok (.istore 6, 2) := by decide +kernel
theorem dX12_which_71 : decode cX12_which 71 = .ok (.iload 6, 2) := by decide +kernel
theorem dX12_which_73 : decode cX12_which 73 = .ok (.iload 4, 2) := by decide +kernel
theorem dX12_which_75 : decode cX12_which 75 = .ok (.iload_n 3, 1) := by decide +kernel
theorem dX12_which_76 : decode cX12_which 76 = .ok (.isub, 1) := by decide +kernel
theorem dX12_which_77 : decode cX12_which 77 = .ok (.if_icmp .ge 43, 3) := by decide +kernel
theorem dX12_which_80 : decode cX12_which 80 = .ok (.iload 5, 2) := by decide +kernel
theorem dX12_which_82 : decode cX12_which 82 = .ok (.ifCond .eq 38, 3) := by decide +kernel
theorem dX12_which_85 : decode cX12_which 85 = .ok (.aload_n 0, 1) := by decide +kernel
theorem dX12_which_86 : decode cX12_which 86 = .ok (.aload_n 0, 1) := by decide +kernel
theorem dX12_which_87 : decode cX12_which 87 = .ok (.getfield 217, 3) := by decide +kernel
theorem dX12_which_90 : decode cX12_which 90 = .ok (.iload 6, 2) := by decide +kernel
theorem dX12_which_92 : decode cX12_which 92 = .ok (.iadd, 1) := by decide +kernel
theorem dX12_which_93 : decode cX12_which 93 = .ok (.invokevirtual 220, 3) := by decide +kernel
theorem dX12_which_96 : decode cX12_which 96 = .ok (.aload_n 1, 1) := by decide +kernel
theorem dX12_which_97 : decode cX12_which 97 = .ok (.iload_n 3, 1) := by decide +kernel
theorem dX12_which_98 : decode cX12_which 98 = .ok (.iload 6, 2) := by decide +kernel
theorem dX12_which_100 : decode cX12_which 100 = .ok (.iadd, 1) := by decide +kernel
theorem dX12_which_101 : decode cX12_which 101 = .ok (.invokevirtual 238, 3) := by decide +kernel
theorem dX12_which_104 : decode cX12_which 104 = .ok (.if_icmp .ne 7, 3) := by decide +kernel
theorem dX12_which_107 : decode cX12_which 107 = .ok (.iconst 1, 1) := by decide +kernel
theorem dX12_which_108 : decode cX12_which 108 = .ok (.goto 4, 3) := by decide +kernel
theorem dX12_which_111 : decode cX12_which 111 = .ok (.iconst 0, 1) := by decide +kernel
theorem dX12_which_112 : decode cX12_which 112 = .ok (.istore 5, 2) := by decide +kernel
theorem dX12_which_114 : decode cX12_which 114 = .ok (.iinc 6 1, 3) := by decide +kernel
theorem dX12_which_117 : decode cX12_which 117 = .ok (.goto (-46), 3) := by decide +kernel
theorem dX12_which_120 : decode cX12_which 120 = .ok (.iload 5, 2) := by decide +kernel
theorem dX12_which_122 : decode cX12_which 122 = .ok (.ifCond .eq 5, 3) := by decide +kernel
theorem dX12_which_125 : decode cX12_which 125 = .ok (.iload_n 2, 1) := by decide +kernel
theorem dX12_which_126 : decode cX12_which 126 = .ok (.ireturn, 1) := by decide +kernel
theorem dX12_which_127 : decode cX12_which 127 = .ok (.iinc 2 1, 3) := by decide +kernel
theorem dX12_which_130 : decode cX12_which 130 = .ok (.iload 4, 2) := by decide +kernel
theorem dX12_which_132 : decode cX12_which 132 = .ok (.iconst 1, 1) := by decide +kernel
theorem dX12_which_133 : decode cX12_which 133 = .ok (.iadd, 1) := by decide +kernel
theorem dX12_which_134 : decode cX12_which 134 = .ok (.istore_n 3, 1) := by decide +kernel
theorem dX12_which_135 : decode cX12_which 135 = .ok (.iinc 4 1, 3) := by decide +kernel
theorem dX12_which_138 : decode cX12_which 138 = .ok (.goto (-131), 3) := by decide +kernel
theorem dX12_which_141 : decode cX12_which 141 = .ok (.iconst (-1), 1) := by decide +kernel
theorem dX12_which_142 : decode cX12_which 142 = .ok (.ireturn, 1) := by decide +kernel
set_option maxRecDepth 20000 in
theorem ggX12_number_X12_wrong : GoodIn wsX12_number wsX12_wrong := goodIn_h _ [7, 0, 0, 0, 14, 0, 0, 0, 0, 0, 0, 0, 0, 0, 0, 0, 0, 0, 0, 0, 0, 0, 0, 0, 0, 0, 0, 0, 0, 0, 0, 0, 0, 0, 0, 0, 0, 0, 0, 0, 0, 0, 0, 0, 0, 0, 0, 0, 0, 0, 0, 0, 0, 0, 0, 0, 0, 0, 0, 0, 0, 0, 0, 0, 0, 0, 0, 0, 0, 0] [0, 1, 2, 3, 4, 5, 6, 7, 8, 9, 10, 11, 12, 13, 14, 15, 16, 17, 18, 19, 20, 21, 22, 23, 24, 25, 26, 27, 28, 29, 30, 31, 32, 33, 34, 35, 36, 37, 38, 39, 40, 41, 42, 43, 44, 45, 46, 47, 48, 49, 50, 51, 52, 53, 54, 55, 56, 57, 58, 59, 60, 61, 62, 63, 64, 65, 66, 67, 68, 69] (by decide +kernel) (by decide +kernel)
set_option maxRecDepth 20000 in
theorem gX12_number_X12_wrong : GoodIn wsX12_number (wsV RX12 246 RX12 yX12_wrong wsX12_wrong) := goodIn_app (goodIn_of _ (by decide +kernel)) ggX12_number_X12_wrong
set_option maxRecDepth 20000 in
theorem ggX12_number_X12_token : GoodIn wsX12_number wsX12_token := goodIn_h _ [1, 0, 3, 2, 4, 0, 0, 0, 0, 0, 0, 0, 0, 0, 0, 0, 0, 0, 0, 0, 0, 0, 0, 0, 0, 0, 0, 0, 0, 0, 0, 0, 0, 0, 0, 0, 0, 0, 0, 0, 0, 0, 0, 0, 0, 0, 0, 0, 0, 0, 0, 0, 0, 0, 0, 0, 0, 0, 0, 0, 0, 0, 0, 0, 0, 0, 0, 0, 0, 0, 0, 0, 0, 0, 0, 0, 0, 0, 0, 0, 0] [4, 5, 3, 6, 0, 1, 7, 8, 9, 2, 10, 11, 12, 13, 14, 15, 16, 17, 18, 19, 20, 21, 22, 23, 24, 25, 26, 27, 28, 29, 30, 31, 32, 33, 34, 35, 36, 37, 38, 39, 40, 41, 42, 43, 44, 45, 46, 47, 48, 49, 50, 51, 52, 53, 54, 55, 56, 57, 58, 59, 60, 61, 62, 63, 64, 65, 66, 67, 68, 69, 70, 71, 72, 73, 74, 75, 76, 77, 78, 79, 80] (by decide +kernel) (by decide +kernel)
set_option maxRecDepth 20000 in
theorem gX12_number_X12_token : GoodIn wsX12_number (wsV RX12 249 RX12 yX12_token wsX12_token) := goodIn_app (goodIn_of _ (by decide +kernel)) ggX12_number_X12_token
theorem dX12_number_0 : decode cX12_number 0 = .ok (.aload_n 0, 1) := by decide +kernel
theorem dX12_number_1 : decode cX12_number 1 = .ok (.getfield 223, 3) := by decide +kernel
theorem dX12_number_4 : decode cX12_number 4 = .ok (.iconst 2, 1) := by decide +kernel
theorem dX12_number_5 : decode cX12_number 5 = .ok (.if_icmp .eq 11, 3) := by decide +kernel
theorem dX12_number_8 : decode cX12_number 8 = .ok (.aload_n 0, 1) := by decide +kernel
theorem dX12_number_9 : decode cX12_number 9 = .ok (.iconst 1, 1) := by decide +kernel
theorem dX12_number_10 : decode cX12_number 10 = .ok (.invokevirtual 246, 3) := by decide +kernel
theorem dX12_number_13 : decode cX12_number 13 = .ok (.istore_n 1, 1) := by decide +kernel
theorem dX12_number_14 : decode cX12_number 14 = .ok (.iconst 0, 1) := by decide +kernel
theorem dX12_number_15 : decode cX12_number 15 = .ok (.ireturn, 1) := by decide +kernel
theorem dX12_number_16 : decode cX12_number 16 = .ok (.aload_n 0, 1) := by decide +kernel
theorem dX12_number_17 : decode cX12_number 17 = .ok (.getfield 226, 3) := by decide +kernel
theorem dX12_number_20 : decode cX12_number 20 = .ok (.istore_n 1, 1) := by decide +kernel
theorem dX12_number_21 : decode cX12_number 21 = .ok (.aload_n 0, 1) := by decide +kernel
theorem dX12_number_22 : decode cX12_number 22 = .ok (.invokevirtual 249, 3) := by decide +kernel
theorem dX12_number_25 : decode cX12_number 25 = .ok (.iload_n 1, 1) := by decide +kernel
theorem dX12_number_26 : decode cX12_number 26 = .ok (.ireturn, 1) := by decide +kernel
theorem inn_X12_at_12 : ∀ w ∈ u_ws RX12 TX12 66, w ∈ wsX12_at := fun w h => List.mem_cons_of_mem _ (List.mem_append_right _ h)
theorem inn_X12_breaks_12 : ∀ w ∈ u_ws RX12 TX12 66, w ∈ wsX12_breaks := fun w h => List.mem_cons_of_mem _ (List.mem_append_right _ h)
theorem inn_X12_byteAt_12 : ∀ w ∈ u_ws RX12 TX12 66, w ∈ wsX12_byteAt := fun w h => List.mem_cons_of_mem _ (List.mem_append_right _ h)
theorem inn_X12_end_12 : ∀ w ∈ u_ws RX12 TX12 66, w ∈ wsX12_end := fun w h => List.mem_cons_of_mem _ (List.mem_append_right _ h)
theorem inn_X12_feed_12 : ∀ w ∈ u_ws RX12 TX12 66, w ∈ wsX12_feed := fun w h => List.mem_cons_of_mem _ (List.mem_append_right _ h)
theorem inn_X12_is_12 : ∀ w ∈ u_ws RX12 TX12 66, w ∈ wsX12_is := fun w h => List.mem_cons_of_mem _ (List.mem_append_right _ h)
theorem inn_X12_isCocoon_12 : ∀ w ∈ u_ws RX12 TX12 66, w ∈ wsX12_isCocoon := fun w h => List.mem_cons_of_mem _ (List.mem_append_right _ h)
theorem inn_X12_isPot_12 : ∀ w ∈ u_ws RX12 TX12 66, w ∈ wsX12_isPot := fun w h => List.mem_cons_of_mem _ (List.mem_append_right _ h)
theorem inn_X12_many_12 : ∀ w ∈ u_ws RX12 TX12 66, w ∈ wsX12_many := fun w h => List.mem_cons_of_mem _ (List.mem_append_right _ h)
theorem inn_X12_number_12 : ∀ w ∈ u_ws RX12 TX12 66, w ∈ wsX12_number := fun w h => List.mem_cons_of_mem _ (List.mem_append_right _ h)
theorem inn_X12_pot_12 : ∀ w ∈ u_ws RX12 TX12 66, w ∈ wsX12_pot := fun w h => List.mem_cons_of_mem _ (List.mem_append_right _ h)
theorem inn_X12_target_12 : ∀ w ∈ u_ws RX12 TX12 66, w ∈ wsX12_target := fun w h => List.mem_cons_of_mem _ (List.mem_append_right _ h)
theorem inn_X12_token_12 : ∀ w ∈ u_ws RX12 TX12 66, w ∈ wsX12_token := fun w h => List.mem_cons_of_mem _ (List.mem_append_right _ h)
theorem inn_X12_which_12 : ∀ w ∈ u_ws RX12 TX12 66, w ∈ wsX12_which := fun w h => List.mem_cons_of_mem _ (List.mem_append_right _ h)
theorem inn_X12_wrong_12 : ∀ w ∈ u_ws RX12 TX12 66, w ∈ wsX12_wrong := fun w h => List.mem_cons_of_mem _ (List.mem_append_right _ h)
set_option maxHeartbeats 4000000 in
set_option maxRecDepth 100000 in
theorem k_X12_part (l : Launch) (G : va_G) (cy : Nat → ClassId) (κ : Nat → Nat) (S : PS) (sz : Nat) (a1 : Int32) (a1_z : Int) (a2 : Int32) (a2_z : Int) (hG : GX S) (hz_a1 : a1.toInt = a1_z) (hz_a2 : a2.toInt = a2_z) (hp_0 : 0 < a2_z) : Ci l yX12_part wsX12_part ({ frames := 1, cells := 0, slots := 0, locals := 48 }) G cy κ S sz [.int (a1), .int (a2)] (fun (r : Int32) (S9 : PS) => S = S9 ∧ (0 ≤ r.toInt ∧ r.toInt < a2_z ∧ r.toInt ≤ 65535)) := by
  refine ent_m (cc := cX12_part) (maxL := 2) (ret := (some .int)) (by decide) rfl (Nat.le_of_ble_eq_true rfl) ?_
  intro p e s m below meth c ls X hr hlocks hin hw hl hsz
  subst hsz
  have X : Cx p c cX12_part 2 s [.int (a1), .int (a2)].toArray wsX12_part RX12 m G cy κ (AS S s.heap.size) := X
  have hl : lv_has ls 2 [(0, .int (a1)), (1, .int (a2))] := hl
  have rg_a1 : (-2147483648) ≤ a1_z ∧ a1_z ≤ 2147483647 := by rw [← hz_a1]; exact ⟨z_lo _, z_hi _⟩
  have rg_a2 : (-2147483648) ≤ a2_z ∧ a2_z ≤ 2147483647 := by rw [← hz_a2]; exact ⟨z_lo _, z_hi _⟩
  refine lv_iload_n X.1 X.2.1 dX12_part_0 rfl (lv_at hl 0 rfl) ?_
  refine lv_bipush (v := 16) X.1 X.2.1 dX12_part_1 (by decide) ?_
  refine lv_iushr X.1 X.2.1 dX12_part_3 rfl ?_
  refine lv_topi (fun v_1 ev_1 => ?_)
  have z_2 : 0 ≤ v_1.toInt ∧ v_1.toInt ≤ 65535 := z_ushr16 ev_1
  refine lv_iload_n X.1 X.2.1 dX12_part_4 rfl (lv_at hl 1 rfl) ?_
  refine lv_irem X.1 X.2.1 dX12_part_5 (z_nz hz_a2 (by omega)) ?_
  refine lv_topi (fun v_3 ev_3 => ?_)
  have z_4 : v_3.toInt = v_1.toInt % a2_z := z_rem ev_3 rfl hz_a2 (by omega) (by omega)
  have z_5 : 0 ≤ v_3.toInt ∧ v_3.toInt < a2_z := by rw [z_4]; exact ⟨Int.emod_nonneg _ (by omega), Int.emod_lt_of_pos _ (by omega)⟩
  have z_6 : v_3.toInt ≤ v_1.toInt := by rw [z_4]; exact emod_le (by omega) (by omega)
  exact ret_i X hw hr hlocks (Nat.le_of_ble_eq_true rfl) (Nat.le_of_ble_eq_true rfl) ⟨rfl, ⟨by omega, by omega, by omega⟩⟩ dX12_part_6
set_option maxHeartbeats 4000000 in
set_option maxRecDepth 100000 in
theorem k_X12_isCocoon (l : Launch) (G : va_G) (cy : Nat → ClassId) (κ : Nat → Nat) (S : PS) (sz : Nat) (x : Nat) (a1 : Int32) (a1_z : Int) (a2 : Int32) (a2_z : Int) (hG : GX S) (ha_x : At S x 12) (hz_a1 : a1.toInt = a1_z) (hz_a2 : a2.toInt = a2_z) : Ci l yX12_isCocoon wsX12_isCocoon ({ frames := 2, cells := 0, slots := 0, locals := 96 }) G cy κ S sz [.ref x, .int (a1), .int (a2)] (fun (r : Int32) (S9 : PS) => S = S9 ∧ (((0 ≤ a1_z ∧ a1_z < (pI S 1201 x).toInt ∧ a1_z ≤ 9 ∧ 0 ≤ a2_z ∧ a2_z ≤ 59) ∧ r = 1) ∨ ((True) ∧ r = 0))) := by
  refine ent_m (cc := cX12_isCocoon) (maxL := 3) (ret := (some .boolean)) (by decide) rfl (Nat.le_of_ble_eq_true rfl) ?_
  intro p e s m below meth c ls X hr hlocks hin hw hl hsz
  subst hsz
  have X : Cx p c cX12_isCocoon 3 s [.ref x, .int (a1), .int (a2)].toArray wsX12_isCocoon RX12 m G cy κ (AS S s.heap.size) := X
  have hl : lv_has ls 3 [(0, .ref x), (1, .int (a1)), (2, .int (a2))] := hl
  have rg_a1 : (-2147483648) ≤ a1_z ∧ a1_z ≤ 2147483647 := by rw [← hz_a1]; exact ⟨z_lo _, z_hi _⟩
  have rg_a2 : (-2147483648) ≤ a2_z ∧ a2_z ≤ 2147483647 := by rw [← hz_a2]; exact ⟨z_lo _, z_hi _⟩
  refine lv_iload_n X.1 X.2.1 dX12_isCocoon_0 rfl (lv_at hl 1 rfl) ?_
  refine lv_iconst (v := 0) X.1 X.2.1 dX12_isCocoon_1 (by decide) ?_
  refine lv_aload_n X.1 X.2.1 dX12_isCocoon_2 rfl (lv_at hl 0 rfl) ?_
  obtain ⟨v_1, ev_1⟩ : ∃ v, pI S 1201 x = v := ⟨_, rfl⟩
  have rg_2 := gI_12_1201 hG ha_x; rw [ev_1] at rg_2
  have pz_3 : (pI S 1201 x).toInt = v_1.toInt := by rw [ev_1]
  refine r_getI (g := 1201) (x := v_1) X hw ha_x rfl 1 ev_1 (by decide) rfl inn_X12_isCocoon_12 (by decide) (X.2.2.2.1 (.fieldLink RX12 165 "SilkMillModel" "lots" "I") (by decide +kernel)) rfl (gv_1201 _ _) dX12_isCocoon_3 ?_
  refine lv_iconst (v := 1) X.1 X.2.1 dX12_isCocoon_6 (by decide) ?_
  refine lv_isub X.1 X.2.1 dX12_isCocoon_7 ?_
  refine lv_topi (fun v_4 ev_4 => ?_)
  have z_5 : v_4.toInt = v_1.toInt - 1 := z_sub ev_4 rfl ti_1 (by omega) (by omega)
  refine k_i (rm := { frames := 1, cells := 0, slots := 0, locals := 48 }) (av := [.int (a1), .int 0, .int (v_4)]) X hw (va_runS (As := [.int (a1), .int 0, .int (v_4)]) (rest := []) (cfix X) (k_X12_within l G cy κ S _ (a1) (a1_z) (0) (0) (v_4) ((v_1.toInt - 1)) hG hz_a1 ti_0 z_5) (cwS 3 X.2.2.2.1 gX12_isCocoon_X12_within rfl rfl rfl (by decide +kernel) ⟨Nat.le_of_ble_eq_true rfl, Nat.le_of_ble_eq_true rfl⟩) (pre_S X hw _) rfl rfl hl.1 rfl (lv_room (Nat.le_of_ble_eq_true rfl)) dX12_isCocoon_8 ⟨Nat.le_of_ble_eq_true rfl, Nat.le_of_ble_eq_true rfl⟩) 0 0 (Nat.le_of_ble_eq_true rfl) (Nat.le_of_ble_eq_true rfl) (fun rr_6 S_7 H locs hp hw hfr hnw => ?_)
  obtain ⟨e2, hp⟩ := hp
  subst e2
  rcases hp with ⟨f_8, er_9⟩ | ⟨f_8, er_9⟩ <;> subst er_9
  · have z_b_10 := trivial
    refine lv_if_eq (tgt := 34) X.1 X.2.1 dX12_isCocoon_11 (by decide) (fun c_11 => absurd c_11 (by decide)) (fun c_11 => ?_)
    refine lv_iload_n X.1 X.2.1 dX12_isCocoon_14 rfl (lv_at hl 2 rfl) ?_
    refine lv_iconst (v := 0) X.1 X.2.1 dX12_isCocoon_15 (by decide) ?_
    refine lv_aload_n X.1 X.2.1 dX12_isCocoon_16 rfl (lv_at hl 0 rfl) ?_
    obtain ⟨q_12, h_13, h_14, h_15⟩ := gQ_12_1202 hG ha_x
    refine r_getR (g := 1202) X hw ha_x rfl 2 h_13 (by decide) rfl inn_X12_isCocoon_12 (by decide) (X.2.2.2.1 (.fieldLink RX12 7 "SilkMillModel" "lotMany" "[I") (by decide +kernel)) rfl (gv_1202 _ _) dX12_isCocoon_17 ?_
    refine lv_iload_n X.1 X.2.1 dX12_isCocoon_20 rfl (lv_at hl 1 rfl) ?_
    refine r_iald X hw h_14 rfl (by rw [h_15]; exact z_ix hz_a1 (by omega) (by omega)) dX12_isCocoon_21 ?_
    refine lv_topi (fun v_16 ev_16 => ?_)
    have z_17 := gE_254 hG h_14 (Int32.toNatClampNeg (a1)); rw [← ev_16] at z_17
    have ev_16 := ev_16.symm
    refine lv_iconst (v := 1) X.1 X.2.1 dX12_isCocoon_22 (by decide) ?_
    refine lv_isub X.1 X.2.1 dX12_isCocoon_23 ?_
    refine lv_topi (fun v_18 ev_18 => ?_)
    have z_19 : v_18.toInt = v_16.toInt - 1 := z_sub ev_18 rfl ti_1 (by omega) (by omega)
    refine k_i (rm := { frames := 1, cells := 0, slots := 0, locals := 48 }) (av := [.int (a2), .int 0, .int (v_18)]) X hw (va_runS (As := [.int (a2), .int 0, .int (v_18)]) (rest := []) (cfix X) (k_X12_within l G cy κ S _ (a2) (a2_z) (0) (0) (v_18) ((v_16.toInt - 1)) hG hz_a2 ti_0 z_19) (cwS 3 X.2.2.2.1 gX12_isCocoon_X12_within rfl rfl rfl (by decide +kernel) ⟨Nat.le_of_ble_eq_true rfl, Nat.le_of_ble_eq_true rfl⟩) (pre_S X hw _) rfl rfl hl.1 rfl (lv_room (Nat.le_of_ble_eq_true rfl)) dX12_isCocoon_24 ⟨Nat.le_of_ble_eq_true rfl, Nat.le_of_ble_eq_true rfl⟩) 0 0 (Nat.le_of_ble_eq_true rfl) (Nat.le_of_ble_eq_true rfl) (fun rr_20 S_21 H locs hp hw hfr hnw => ?_)
    obtain ⟨e2, hp⟩ := hp
    subst e2
    rcases hp with ⟨f_22, er_23⟩ | ⟨f_22, er_23⟩ <;> subst er_23
    · have z_b_24 := trivial
      refine lv_if_eq (tgt := 34) X.1 X.2.1 dX12_isCocoon_27 (by decide) (fun c_25 => absurd c_25 (by decide)) (fun c_25 => ?_)
      refine lv_iconst (v := 1) X.1 X.2.1 dX12_isCocoon_30 (by decide) ?_
      refine lv_goto (tgt := 35) X.1 X.2.1 dX12_isCocoon_31 (by decide) ?_
      exact ret_z X hw hr hlocks (Nat.le_of_ble_eq_true rfl) (Nat.le_of_ble_eq_true rfl) (by decide) ⟨rfl, Or.inl ⟨by omega, rfl⟩⟩ dX12_isCocoon_35
    · have z_b_26 := trivial
      refine lv_if_eq (tgt := 34) X.1 X.2.1 dX12_isCocoon_27 (by decide) (fun c_27 => ?_) (fun c_27 => absurd c_27 (by decide))
      refine lv_iconst (v := 0) X.1 X.2.1 dX12_isCocoon_34 (by decide) ?_
      exact ret_z X hw hr hlocks (Nat.le_of_ble_eq_true rfl) (Nat.le_of_ble_eq_true rfl) (by decide) ⟨rfl, Or.inr ⟨trivial, rfl⟩⟩ dX12_isCocoon_35
  · have z_b_28 := trivial
    refine lv_if_eq (tgt := 34) X.1 X.2.1 dX12_isCocoon_11 (by decide) (fun c_29 => ?_) (fun c_29 => absurd c_29 (by decide))
    refine lv_iconst (v := 0) X.1 X.2.1 dX12_isCocoon_34 (by decide) ?_
    exact ret_z X hw hr hlocks (Nat.le_of_ble_eq_true rfl) (Nat.le_of_ble_eq_true rfl) (by decide) ⟨rfl, Or.inr ⟨trivial, rfl⟩⟩ dX12_isCocoon_35
set_option maxHeartbeats 4000000 in
set_option maxRecDepth 100000 in
theorem k_X12_breaks (l : Launch) (G : va_G) (cy : Nat → ClassId) (κ : Nat → Nat) (S : PS) (sz : Nat) (x : Nat) (a1 : Int32) (a1_z : Int) (a2 : Int32) (a2_z : Int) (hG : GX S) (ha_x : At S x 12) (hz_a1 : a1.toInt = a1_z) (hz_a2 : a2.toInt = a2_z) (hp_0 : 0 ≤ a1_z) (hp_1 : a1_z ≤ 599) : Ci l yX12_breaks wsX12_breaks ({ frames := 2, cells := 0, slots := 0, locals := 96 }) G cy κ S sz [.ref x, .int (a1), .int (a2)] (fun (r : Int32) (S9 : PS) => S = S9 ∧ (((True) ∧ r = 1) ∨ ((True) ∧ r = 0))) := by
  refine ent_m (cc := cX12_breaks) (maxL := 4) (ret := (some .boolean)) (by decide) rfl (Nat.le_of_ble_eq_true rfl) ?_
  intro p e s m below meth c ls X hr hlocks hin hw hl hsz
  subst hsz
  have X : Cx p c cX12_breaks 4 s [.ref x, .int (a1), .int (a2)].toArray wsX12_breaks RX12 m G cy κ (AS S s.heap.size) := X
  have hl : lv_has ls 4 [(0, .ref x), (1, .int (a1)), (2, .int (a2))] := hl
  have rg_a1 : (-2147483648) ≤ a1_z ∧ a1_z ≤ 2147483647 := by rw [← hz_a1]; exact ⟨z_lo _, z_hi _⟩
  have rg_a2 : (-2147483648) ≤ a2_z ∧ a2_z ≤ 2147483647 := by rw [← hz_a2]; exact ⟨z_lo _, z_hi _⟩
  refine lv_iload_n X.1 X.2.1 dX12_breaks_0 rfl (lv_at hl 1 rfl) ?_
  refine lv_bipush (v := 60) X.1 X.2.1 dX12_breaks_1 (by decide) ?_
  refine lv_idiv X.1 X.2.1 dX12_breaks_3 (by decide) ?_
  refine lv_topi (fun v_1 ev_1 => ?_)
  have z_2 : v_1.toInt = a1_z / 60 := z_div ev_1 hz_a1 ti_60 (by omega) (by omega)
  refine lv_istore_n (lv' := [(3, .int (v_1)), (0, .ref x), (1, .int (a1)), (2, .int (a2))]) X.1 X.2.1 dX12_breaks_4 rfl hl (by decide) rfl (fun ls hl => ?_)
  refine lv_aload_n X.1 X.2.1 dX12_breaks_5 rfl (lv_at hl 1 rfl) ?_
  obtain ⟨q_3, h_4, h_5, h_6⟩ := gQ_12_1203 hG ha_x
  refine r_getR (g := 1203) X hw ha_x rfl 3 h_4 (by decide) rfl inn_X12_breaks_12 (by decide) (X.2.2.2.1 (.fieldLink RX12 13 "SilkMillModel" "lotSeed" "[I") (by decide +kernel)) rfl (gv_1203 _ _) dX12_breaks_6 ?_
  refine lv_iload_n X.1 X.2.1 dX12_breaks_9 rfl (lv_at hl 0 rfl) ?_
  refine r_iald X hw h_5 rfl (by rw [h_6]; exact z_ix z_2 (by omega) (by omega)) dX12_breaks_10 ?_
  refine lv_topi (fun v_7 ev_7 => ?_)
  have rg_8 := And.intro (z_lo v_7) (z_hi v_7)
  have ev_7 := ev_7.symm
  refine lv_sipush (v := 131) X.1 X.2.1 dX12_breaks_11 (by decide) ?_
  refine lv_iload_n X.1 X.2.1 dX12_breaks_14 rfl (lv_at hl 2 rfl) ?_
  refine lv_bipush (v := 60) X.1 X.2.1 dX12_breaks_15 (by decide) ?_
  refine lv_irem X.1 X.2.1 dX12_breaks_17 (by decide) ?_
  refine lv_topi (fun v_9 ev_9 => ?_)
  have z_10 : v_9.toInt = a1_z % 60 := z_rem ev_9 hz_a1 ti_60 (by omega) (by omega)
  have z_11 : 0 ≤ v_9.toInt ∧ v_9.toInt < 60 := by rw [z_10]; exact ⟨Int.emod_nonneg _ (by omega), Int.emod_lt_of_pos _ (by omega)⟩
  refine lv_imul X.1 X.2.1 dX12_breaks_18 ?_
  refine lv_topi (fun v_12 ev_12 => ?_)
  have z_13 : v_12.toInt = 131 * (a1_z % 60) := z_mul ev_12 ti_131 z_10 (by omega) (by omega)
  refine lv_iadd X.1 X.2.1 dX12_breaks_19 ?_
  refine lv_topi (fun v_14 ev_14 => ?_)
  have rg_15 := And.intro (z_lo v_14) (z_hi v_14)
  refine lv_bipush (v := 17) X.1 X.2.1 dX12_breaks_20 (by decide) ?_
  refine lv_iload_n X.1 X.2.1 dX12_breaks_22 rfl (lv_at hl 3 rfl) ?_
  refine lv_imul X.1 X.2.1 dX12_breaks_23 ?_
  refine lv_topi (fun v_16 ev_16 => ?_)
  have rg_17 := And.intro (z_lo v_16) (z_hi v_16)
  refine lv_iadd X.1 X.2.1 dX12_breaks_24 ?_
  refine lv_topi (fun v_18 ev_18 => ?_)
  have rg_19 := And.intro (z_lo v_18) (z_hi v_18)
  refine k_i (rm := { frames := 1, cells := 0, slots := 0, locals := 48 }) (av := [.int (v_18)]) X hw (va_runS (As := [.int (v_18)]) (rest := []) (cfix X) (k_X12_next l G cy κ S _ (v_18) (v_18.toInt) hG rfl) (cwS 1 X.2.2.2.1 gX12_breaks_X12_next rfl rfl rfl (by decide +kernel) ⟨Nat.le_of_ble_eq_true rfl, Nat.le_of_ble_eq_true rfl⟩) (pre_S X hw _) rfl rfl hl.1 rfl (lv_room (Nat.le_of_ble_eq_true rfl)) dX12_breaks_25 ⟨Nat.le_of_ble_eq_true rfl, Nat.le_of_ble_eq_true rfl⟩) 0 0 (Nat.le_of_ble_eq_true rfl) (Nat.le_of_ble_eq_true rfl) (fun rr_20 S_21 H locs hp hw hfr hnw => ?_)
  obtain ⟨e2, hp⟩ := hp
  subst e2
  have rg_22 := And.intro (z_lo rr_20) (z_hi rr_20)
  refine lv_sipush (v := 1000) X.1 X.2.1 dX12_breaks_28 (by decide) ?_
  refine k_i (rm := { frames := 1, cells := 0, slots := 0, locals := 48 }) (av := [.int (rr_20), .int 1000]) X hw (va_runS (As := [.int (rr_20), .int 1000]) (rest := []) (cfix X) (k_X12_part l G cy κ S _ (rr_20) (rr_20.toInt) (1000) (1000) hG rfl ti_1000 (by first | assumption | omega)) (cwS 2 X.2.2.2.1 gX12_breaks_X12_part rfl rfl rfl (by decide +kernel) ⟨Nat.le_of_ble_eq_true rfl, Nat.le_of_ble_eq_true rfl⟩) (pre_S X hw _) rfl rfl hl.1 rfl (lv_room (Nat.le_of_ble_eq_true rfl)) dX12_breaks_31 ⟨Nat.le_of_ble_eq_true rfl, Nat.le_of_ble_eq_true rfl⟩) 0 0 (Nat.le_of_ble_eq_true rfl) (Nat.le_of_ble_eq_true rfl) (fun rr_23 S_24 H locs hp hw hfr hnw => ?_)
  obtain ⟨e2, hp⟩ := hp
  subst e2
  obtain ⟨f_25, f_26, f_27⟩ := hp
  refine lv_aload_n X.1 X.2.1 dX12_breaks_34 rfl (lv_at hl 1 rfl) ?_
  obtain ⟨q_28, h_29, h_30, h_31⟩ := gQ_12_1206 hG ha_x
  refine r_getR (g := 1206) X hw ha_x rfl 6 h_29 (by decide) rfl inn_X12_breaks_12 (by decide) (X.2.2.2.1 (.fieldLink RX12 22 "SilkMillModel" "lotFrail" "[I") (by decide +kernel)) rfl (gv_1206 _ _) dX12_breaks_35 ?_
  refine lv_iload_n X.1 X.2.1 dX12_breaks_38 rfl (lv_at hl 0 rfl) ?_
  refine r_iald X hw h_30 rfl (by rw [h_31]; exact z_ix z_2 (by omega) (by omega)) dX12_breaks_39 ?_
  refine lv_topi (fun v_32 ev_32 => ?_)
  have rg_33 := And.intro (z_lo v_32) (z_hi v_32)
  have ev_32 := ev_32.symm
  refine lv_icmp_ge (tgt := 47) X.1 X.2.1 dX12_breaks_40 (by decide) (fun c_34 => ?_) (fun c_34 => ?_)
  · have z_b_35 := trivial
    have k_36 : rr_23.toInt ≥ v_32.toInt := z_le rfl rfl c_34
    refine lv_iconst (v := 0) X.1 X.2.1 dX12_breaks_47 (by decide) ?_
    exact ret_z X hw hr hlocks (Nat.le_of_ble_eq_true rfl) (Nat.le_of_ble_eq_true rfl) (by decide) ⟨rfl, Or.inr ⟨trivial, rfl⟩⟩ dX12_breaks_48
  · have z_b_37 := trivial
    have k_38 : rr_23.toInt < v_32.toInt := z_nle rfl rfl c_34
    refine lv_iconst (v := 1) X.1 X.2.1 dX12_breaks_43 (by decide) ?_
    refine lv_goto (tgt := 48) X.1 X.2.1 dX12_breaks_44 (by decide) ?_
    exact ret_z X hw hr hlocks (Nat.le_of_ble_eq_true rfl) (Nat.le_of_ble_eq_true rfl) (by decide) ⟨rfl, Or.inl ⟨trivial, rfl⟩⟩ dX12_breaks_48
set_option maxHeartbeats 4000000 in
set_option maxRecDepth 100000 in
theorem k_X12_pot (l : Launch) (G : va_G) (cy : Nat → ClassId) (κ : Nat → Nat) (S : PS) (sz : Nat) (x : Nat) (a1 : Int32) (a1_z : Int) (a2 : Int32) (a2_z : Int) (hG : GX S) (ha_x : At S x 12) (hz_a1 : a1.toInt = a1_z) (hz_a2 : a2.toInt = a2_z) : Ci l yX12_pot wsX12_pot ({ frames := 2, cells := 0, slots := 0, locals := 96 }) G cy κ S sz [.ref x, .int (a1), .int (a2)] (fun (r : Int32) (S9 : PS) => Ok MP S S9 ∧ (-2147483648 ≤ r.toInt ∧ r.toInt ≤ 2147483647 ∧ ((((pI S 1211 x).toInt < 4 ∧ 10 ≤ a1_z ∧ a1_z ≤ 2000 ∧ 1 ≤ a2_z ∧ a2_z ≤ 50) ∧ r.toInt = (pI S 1211 x).toInt ∧ (pI S9 1211 x).toInt = (pI S 1211 x).toInt + 1) ∨ (¬ (((pI S 1211 x).toInt < 4 ∧ 10 ≤ a1_z ∧ a1_z ≤ 2000 ∧ 1 ≤ a2_z ∧ a2_z ≤ 50)) ∧ r.toInt = -1 ∧ (pI S9 1211 x).toInt = (pI S 1211 x).toInt)))) := by
  refine ent_m (cc := cX12_pot) (maxL := 3) (ret := (some .int)) (by decide) rfl (Nat.le_of_ble_eq_true rfl) ?_
  intro p e s m below meth c ls X hr hlocks hin hw hl hsz
  subst hsz
  have X : Cx p c cX12_pot 3 s [.ref x, .int (a1), .int (a2)].toArray wsX12_pot RX12 m G cy κ (AS S s.heap.size) := X
  have hl : lv_has ls 3 [(0, .ref x), (1, .int (a1)), (2, .int (a2))] := hl
  have rg_a1 : (-2147483648) ≤ a1_z ∧ a1_z ≤ 2147483647 := by rw [← hz_a1]; exact ⟨z_lo _, z_hi _⟩
  have rg_a2 : (-2147483648) ≤ a2_z ∧ a2_z ≤ 2147483647 := by rw [← hz_a2]; exact ⟨z_lo _, z_hi _⟩
  have hO : Ok MP S S := Ok.rf hG
  obtain ⟨v_1, ev_1⟩ : ∃ v, pI S 1211 x = v := ⟨_, rfl⟩
  have rg_2 := gI_12_1211 hO.1 ha_x; rw [ev_1] at rg_2
  have pz_3 : (pI S 1211 x).toInt = v_1.toInt := by rw [ev_1]
  have pz_4 : (pI S 1211 x).toInt = v_1.toInt := (congrArg Int32.toInt ev_1).trans rfl
  refine lv_aload_n X.1 X.2.1 dX12_pot_0 rfl (lv_at hl 0 rfl) ?_
  refine lv_iconst (v := 0) X.1 X.2.1 dX12_pot_1 (by decide) ?_
  refine r_putI (v := 0) X hw ha_x rfl 0 1200 tyX12 (by decide) rfl inn_X12_pot_12 tyX12_ok nmX12 (by decide) (X.2.2.2.1 (.fieldLink RX12 161 "SilkMillModel" "thrown" "I") (by decide +kernel)) rfl (Or.inl rfl) rfl rfl (Nat.le_of_ble_eq_true rfl) (st_1200 _ _) dX12_pot_2 (fun H locs hw => ?_)
  obtain ⟨S_5, eS_5⟩ : ∃ T, T = sI S 1200 x (0) := ⟨_, rfl⟩
  rw [← eS_5] at hw
  have hO_6 : Ok MP S S_5 := hO.sI eS_5 (by decide +kernel) (uI_12_1200 hO.1 ha_x)
  have h_7 : pI S_5 1200 x = 0 := tI_sIs eS_5
  refine lv_aload_n X.1 X.2.1 dX12_pot_5 rfl (lv_at hl 0 rfl) ?_
  have t_8 : At S_5 x 12 := tAt_sI eS_5 ha_x
  have t_9 : pI S_5 1211 x = v_1 := tI_sI eS_5 rfl ev_1
  refine r_getI (g := 1211) (x := v_1) X hw t_8 rfl 11 t_9 (by decide) rfl inn_X12_pot_12 (by decide) (X.2.2.2.1 (.fieldLink RX12 197 "SilkMillModel" "pots" "I") (by decide +kernel)) rfl (gv_1211 _ _) dX12_pot_6 ?_
  refine lv_iconst (v := 4) X.1 X.2.1 dX12_pot_9 (by decide) ?_
  refine lv_icmp_eq (tgt := 35) X.1 X.2.1 dX12_pot_10 (by decide) (fun c_10 => ?_) (fun c_10 => ?_)
  · have z_b_11 := trivial
    have k_12 : v_1.toInt = 4 := z_eq rfl ti_4 c_10
    refine lv_iconst (v := (-1)) X.1 X.2.1 dX12_pot_35 (by decide) ?_
    have pz_13 : (pI S_5 1211 x).toInt = v_1.toInt := (congrArg Int32.toInt t_9).trans rfl
    exact ret_i X hw hr hlocks (Nat.le_of_ble_eq_true rfl) (Nat.le_of_ble_eq_true rfl) ⟨hO_6, ⟨z_lo _, z_hi _, Or.inr ⟨by omega, by decide, by omega⟩⟩⟩ dX12_pot_36
  · have z_b_14 := trivial
    have k_15 : v_1.toInt ≠ 4 := z_ne rfl ti_4 c_10
    refine lv_iload_n X.1 X.2.1 dX12_pot_13 rfl (lv_at hl 1 rfl) ?_
    refine lv_bipush (v := 10) X.1 X.2.1 dX12_pot_14 (by decide) ?_
    refine lv_sipush (v := 2000) X.1 X.2.1 dX12_pot_16 (by decide) ?_
    refine k_i (rm := { frames := 1, cells := 0, slots := 0, locals := 48 }) (av := [.int (a1), .int 10, .int 2000]) X hw (va_runS (As := [.int (a1), .int 10, .int 2000]) (rest := []) (cfix X) (k_X12_within l G cy κ S_5 _ (a1) (a1_z) (10) (10) (2000) (2000) hO_6.1 hz_a1 ti_10 ti_2000) (cwS 3 X.2.2.2.1 gX12_pot_X12_within rfl rfl rfl (by decide +kernel) ⟨Nat.le_of_ble_eq_true rfl, Nat.le_of_ble_eq_true rfl⟩) (pre_S X hw _) rfl rfl hl.1 rfl (lv_room (Nat.le_of_ble_eq_true rfl)) dX12_pot_19 ⟨Nat.le_of_ble_eq_true rfl, Nat.le_of_ble_eq_true rfl⟩) 0 0 (Nat.le_of_ble_eq_true rfl) (Nat.le_of_ble_eq_true rfl) (fun rr_16 S_17 H locs hp hw hfr hnw => ?_)
    obtain ⟨e2, hp⟩ := hp
    subst e2
    rcases hp with ⟨f_18, er_19⟩ | ⟨f_18, er_19⟩ <;> subst er_19
    · have z_b_20 := trivial
      refine lv_if_eq (tgt := 35) X.1 X.2.1 dX12_pot_22 (by decide) (fun c_21 => absurd c_21 (by decide)) (fun c_21 => ?_)
      refine lv_iload_n X.1 X.2.1 dX12_pot_25 rfl (lv_at hl 2 rfl) ?_
      refine lv_iconst (v := 1) X.1 X.2.1 dX12_pot_26 (by decide) ?_
      refine lv_bipush (v := 50) X.1 X.2.1 dX12_pot_27 (by decide) ?_
      refine k_i (rm := { frames := 1, cells := 0, slots := 0, locals := 48 }) (av := [.int (a2), .int 1, .int 50]) X hw (va_runS (As := [.int (a2), .int 1, .int 50]) (rest := []) (cfix X) (k_X12_within l G cy κ S_5 _ (a2) (a2_z) (1) (1) (50) (50) hO_6.1 hz_a2 ti_1 ti_50) (cwS 3 X.2.2.2.1 gX12_pot_X12_within rfl rfl rfl (by decide +kernel) ⟨Nat.le_of_ble_eq_true rfl, Nat.le_of_ble_eq_true rfl⟩) (pre_S X hw _) rfl rfl hl.1 rfl (lv_room (Nat.le_of_ble_eq_true rfl)) dX12_pot_29 ⟨Nat.le_of_ble_eq_true rfl, Nat.le_of_ble_eq_true rfl⟩) 0 0 (Nat.le_of_ble_eq_true rfl) (Nat.le_of_ble_eq_true rfl) (fun rr_22 S_23 H locs hp hw hfr hnw => ?_)
      obtain ⟨e2, hp⟩ := hp
      subst e2
      rcases hp with ⟨f_24, er_25⟩ | ⟨f_24, er_25⟩ <;> subst er_25
      · have z_b_26 := trivial
        refine lv_if_ne (tgt := 37) X.1 X.2.1 dX12_pot_32 (by decide) (fun c_27 => ?_) (fun c_27 => absurd c_27 (by decide))
        refine lv_aload_n X.1 X.2.1 dX12_pot_37 rfl (lv_at hl 0 rfl) ?_
        obtain ⟨q_28, h_29, h_30, h_31⟩ := gQ_12_1212 hO_6.1 t_8
        refine r_getR (g := 1212) X hw t_8 rfl 12 h_29 (by decide) rfl inn_X12_pot_12 (by decide) (X.2.2.2.1 (.fieldLink RX12 37 "SilkMillModel" "aim" "[I") (by decide +kernel)) rfl (gv_1212 _ _) dX12_pot_38 ?_
        refine lv_aload_n X.1 X.2.1 dX12_pot_41 rfl (lv_at hl 0 rfl) ?_
        refine r_getI (g := 1211) (x := v_1) X hw t_8 rfl 11 t_9 (by decide) rfl inn_X12_pot_12 (by decide) (X.2.2.2.1 (.fieldLink RX12 197 "SilkMillModel" "pots" "I") (by decide +kernel)) rfl (gv_1211 _ _) dX12_pot_42 ?_
        refine lv_iload_n X.1 X.2.1 dX12_pot_45 rfl (lv_at hl 1 rfl) ?_
        refine r_iast X hw h_30 rfl (by rw [h_31]; exact z_ix rfl (by omega) (by omega)) dX12_pot_46 (fun H locs hw => ?_)
        obtain ⟨S_32, eS_32⟩ : ∃ T, T = sA S_5 q_28 (upd (pA S_5 q_28) (Int32.toNatClampNeg (v_1)) (a1)) := ⟨_, rfl⟩
        rw [← eS_32] at hw
        have hO_33 : Ok MP S S_32 := hO_6.sA eS_32 h_30 (by decide +kernel) (uA_454 hO_6.1 h_30)
        have h_34 : pA S_32 q_28 (Int32.toNatClampNeg (v_1)) = a1 := tA_sAs eS_32
        refine lv_aload_n X.1 X.2.1 dX12_pot_47 rfl (lv_at hl 0 rfl) ?_
        have t_35 : At S_32 x 12 := tAt_sA eS_32 t_8
        obtain ⟨q_36, h_37, h_38, h_39⟩ := gQ_12_1213 hO_33.1 t_35
        refine r_getR (g := 1213) X hw t_35 rfl 13 h_37 (by decide) rfl inn_X12_pot_12 (by decide) (X.2.2.2.1 (.fieldLink RX12 40 "SilkMillModel" "find" "[I") (by decide +kernel)) rfl (gv_1213 _ _) dX12_pot_48 ?_
        refine lv_aload_n X.1 X.2.1 dX12_pot_51 rfl (lv_at hl 0 rfl) ?_
        have t_40 : pI S_32 1211 x = v_1 := tI_sA eS_32 t_9
        refine r_getI (g := 1211) (x := v_1) X hw t_35 rfl 11 t_40 (by decide) rfl inn_X12_pot_12 (by decide) (X.2.2.2.1 (.fieldLink RX12 197 "SilkMillModel" "pots" "I") (by decide +kernel)) rfl (gv_1211 _ _) dX12_pot_52 ?_
        refine lv_iload_n X.1 X.2.1 dX12_pot_55 rfl (lv_at hl 2 rfl) ?_
        refine r_iast X hw h_38 rfl (by rw [h_39]; exact z_ix rfl (by omega) (by omega)) dX12_pot_56 (fun H locs hw => ?_)
        obtain ⟨S_41, eS_41⟩ : ∃ T, T = sA S_32 q_36 (upd (pA S_32 q_36) (Int32.toNatClampNeg (v_1)) (a2)) := ⟨_, rfl⟩
        rw [← eS_41] at hw
        have hO_42 : Ok MP S S_41 := hO_33.sA eS_41 h_38 (by decide +kernel) (uA_474 hO_33.1 h_38)
        have h_43 : pA S_41 q_36 (Int32.toNatClampNeg (v_1)) = a2 := tA_sAs eS_41
        refine lv_aload_n X.1 X.2.1 dX12_pot_57 rfl (lv_at hl 0 rfl) ?_
        refine lv_dup X.1 X.2.1 dX12_pot_58 rfl ?_
        have t_44 : At S_41 x 12 := tAt_sA eS_41 t_35
        have t_45 : pI S_41 1211 x = v_1 := tI_sA eS_41 t_40
        refine r_getI (g := 1211) (x := v_1) X hw t_44 rfl 11 t_45 (by decide) rfl inn_X12_pot_12 (by decide) (X.2.2.2.1 (.fieldLink RX12 197 "SilkMillModel" "pots" "I") (by decide +kernel)) rfl (gv_1211 _ _) dX12_pot_59 ?_
        refine lv_iconst (v := 1) X.1 X.2.1 dX12_pot_62 (by decide) ?_
        refine lv_iadd X.1 X.2.1 dX12_pot_63 ?_
        refine lv_topi (fun v_46 ev_46 => ?_)
        have z_47 : v_46.toInt = v_1.toInt + 1 := z_add ev_46 rfl ti_1 (by omega) (by omega)
        refine r_putI (v := v_46) X hw t_44 rfl 11 1211 tyX12 (by decide) rfl inn_X12_pot_12 tyX12_ok nmX12 (by decide) (X.2.2.2.1 (.fieldLink RX12 197 "SilkMillModel" "pots" "I") (by decide +kernel)) rfl (Or.inl rfl) rfl rfl (Nat.le_of_ble_eq_true rfl) (st_1211 _ _) dX12_pot_64 (fun H locs hw => ?_)
        obtain ⟨S_48, eS_48⟩ : ∃ T, T = sI S_41 1211 x (v_46) := ⟨_, rfl⟩
        rw [← eS_48] at hw
        have hO_49 : Ok MP S S_48 := hO_42.sI eS_48 (by decide +kernel) (uI_12_1211 hO_42.1 t_44 (by omega) (by omega))
        have h_50 : pI S_48 1211 x = v_46 := tI_sIs eS_48
        refine lv_aload_n X.1 X.2.1 dX12_pot_67 rfl (lv_at hl 0 rfl) ?_
        have t_51 : At S_48 x 12 := tAt_sI eS_48 t_44
        refine r_getI (g := 1211) (x := v_46) X hw t_51 rfl 11 h_50 (by decide) rfl inn_X12_pot_12 (by decide) (X.2.2.2.1 (.fieldLink RX12 197 "SilkMillModel" "pots" "I") (by decide +kernel)) rfl (gv_1211 _ _) dX12_pot_68 ?_
        refine lv_iconst (v := 1) X.1 X.2.1 dX12_pot_71 (by decide) ?_
        refine lv_isub X.1 X.2.1 dX12_pot_72 ?_
        refine lv_topi (fun v_52 ev_52 => ?_)
        have z_53 : v_52.toInt = (v_1.toInt + 1) - 1 := z_sub ev_52 z_47 ti_1 (by omega) (by omega)
        have pz_54 : (pI S_48 1211 x).toInt = (v_1.toInt + 1) := (congrArg Int32.toInt h_50).trans z_47
        exact ret_i X hw hr hlocks (Nat.le_of_ble_eq_true rfl) (Nat.le_of_ble_eq_true rfl) ⟨hO_49, ⟨z_lo _, z_hi _, Or.inl ⟨by omega, by have hzr := z_53; omega, by omega⟩⟩⟩ dX12_pot_73
      · have z_b_55 := trivial
        refine lv_if_ne (tgt := 37) X.1 X.2.1 dX12_pot_32 (by decide) (fun c_56 => absurd c_56 (by decide)) (fun c_56 => ?_)
        refine lv_iconst (v := (-1)) X.1 X.2.1 dX12_pot_35 (by decide) ?_
        have pz_57 : (pI S_5 1211 x).toInt = v_1.toInt := (congrArg Int32.toInt t_9).trans rfl
        exact ret_i X hw hr hlocks (Nat.le_of_ble_eq_true rfl) (Nat.le_of_ble_eq_true rfl) ⟨hO_6, ⟨z_lo _, z_hi _, Or.inr ⟨by omega, by decide, by omega⟩⟩⟩ dX12_pot_36
    · have z_b_58 := trivial
      refine lv_if_eq (tgt := 35) X.1 X.2.1 dX12_pot_22 (by decide) (fun c_59 => ?_) (fun c_59 => absurd c_59 (by decide))
      refine lv_iconst (v := (-1)) X.1 X.2.1 dX12_pot_35 (by decide) ?_
      have pz_60 : (pI S_5 1211 x).toInt = v_1.toInt := (congrArg Int32.toInt t_9).trans rfl
      exact ret_i X hw hr hlocks (Nat.le_of_ble_eq_true rfl) (Nat.le_of_ble_eq_true rfl) ⟨hO_6, ⟨z_lo _, z_hi _, Or.inr ⟨by omega, by decide, by omega⟩⟩⟩ dX12_pot_36
set_option maxHeartbeats 4000000 in
set_option maxRecDepth 100000 in
theorem k_X12_isPot (l : Launch) (G : va_G) (cy : Nat → ClassId) (κ : Nat → Nat) (S : PS) (sz : Nat) (x : Nat) (a1 : Int32) (a1_z : Int) (hG : GX S) (ha_x : At S x 12) (hz_a1 : a1.toInt = a1_z) : Ci l yX12_isPot wsX12_isPot ({ frames := 2, cells := 0, slots := 0, locals := 96 }) G cy κ S sz [.ref x, .int (a1)] (fun (r : Int32) (S9 : PS) => S = S9 ∧ (((0 ≤ a1_z ∧ a1_z < (pI S 1211 x).toInt ∧ a1_z ≤ 3) ∧ r = 1) ∨ ((¬ (0 ≤ a1_z ∧ a1_z < (pI S 1211 x).toInt)) ∧ r = 0))) := by
  refine ent_m (cc := cX12_isPot) (maxL := 2) (ret := (some .boolean)) (by decide) rfl (Nat.le_of_ble_eq_true rfl) ?_
  intro p e s m below meth c ls X hr hlocks hin hw hl hsz
  subst hsz
  have X : Cx p c cX12_isPot 2 s [.ref x, .int (a1)].toArray wsX12_isPot RX12 m G cy κ (AS S s.heap.size) := X
  have hl : lv_has ls 2 [(0, .ref x), (1, .int (a1))] := hl
  have rg_a1 : (-2147483648) ≤ a1_z ∧ a1_z ≤ 2147483647 := by rw [← hz_a1]; exact ⟨z_lo _, z_hi _⟩
  refine lv_iload_n X.1 X.2.1 dX12_isPot_0 rfl (lv_at hl 1 rfl) ?_
  refine lv_iconst (v := 0) X.1 X.2.1 dX12_isPot_1 (by decide) ?_
  refine lv_aload_n X.1 X.2.1 dX12_isPot_2 rfl (lv_at hl 0 rfl) ?_
  obtain ⟨v_1, ev_1⟩ : ∃ v, pI S 1211 x = v := ⟨_, rfl⟩
  have rg_2 := gI_12_1211 hG ha_x; rw [ev_1] at rg_2
  have pz_3 : (pI S 1211 x).toInt = v_1.toInt := by rw [ev_1]
  refine r_getI (g := 1211) (x := v_1) X hw ha_x rfl 11 ev_1 (by decide) rfl inn_X12_isPot_12 (by decide) (X.2.2.2.1 (.fieldLink RX12 197 "SilkMillModel" "pots" "I") (by decide +kernel)) rfl (gv_1211 _ _) dX12_isPot_3 ?_
  refine lv_iconst (v := 1) X.1 X.2.1 dX12_isPot_6 (by decide) ?_
  refine lv_isub X.1 X.2.1 dX12_isPot_7 ?_
  refine lv_topi (fun v_4 ev_4 => ?_)
  have z_5 : v_4.toInt = v_1.toInt - 1 := z_sub ev_4 rfl ti_1 (by omega) (by omega)
  refine k_i (rm := { frames := 1, cells := 0, slots := 0, locals := 48 }) (av := [.int (a1), .int 0, .int (v_4)]) X hw (va_runS (As := [.int (a1), .int 0, .int (v_4)]) (rest := []) (cfix X) (k_X12_within l G cy κ S _ (a1) (a1_z) (0) (0) (v_4) ((v_1.toInt - 1)) hG hz_a1 ti_0 z_5) (cwS 3 X.2.2.2.1 gX12_isPot_X12_within rfl rfl rfl (by decide +kernel) ⟨Nat.le_of_ble_eq_true rfl, Nat.le_of_ble_eq_true rfl⟩) (pre_S X hw _) rfl rfl hl.1 rfl (lv_room (Nat.le_of_ble_eq_true rfl)) dX12_isPot_8 ⟨Nat.le_of_ble_eq_true rfl, Nat.le_of_ble_eq_true rfl⟩) 0 0 (Nat.le_of_ble_eq_true rfl) (Nat.le_of_ble_eq_true rfl) (fun rr_6 S_7 H locs hp hw hfr hnw => ?_)
  obtain ⟨e2, hp⟩ := hp
  subst e2
  rcases hp with ⟨f_8, er_9⟩ | ⟨f_8, er_9⟩ <;> subst er_9
  · have z_b_10 := trivial
    exact ret_z X hw hr hlocks (Nat.le_of_ble_eq_true rfl) (Nat.le_of_ble_eq_true rfl) (by decide) ⟨rfl, Or.inl ⟨by omega, rfl⟩⟩ dX12_isPot_11
  · have z_b_11 := trivial
    exact ret_z X hw hr hlocks (Nat.le_of_ble_eq_true rfl) (Nat.le_of_ble_eq_true rfl) (by decide) ⟨rfl, Or.inr ⟨by omega, rfl⟩⟩ dX12_isPot_11
set_option maxHeartbeats 4000000 in
set_option maxRecDepth 100000 in
theorem k_X12_target (l : Launch) (G : va_G) (cy : Nat → ClassId) (κ : Nat → Nat) (S : PS) (sz : Nat) (x : Nat) (a1 : Int32) (a1_z : Int) (a2 : Int32) (a2_z : Int) (hG : GX S) (ha_x : At S x 12) (hz_a1 : a1.toInt = a1_z) (hz_a2 : a2.toInt = a2_z) : Ci l yX12_target wsX12_target ({ frames := 3, cells := 0, slots := 0, locals := 144 }) G cy κ S sz [.ref x, .int (a1), .int (a2)] (fun (r : Int32) (S9 : PS) => Ok Mtg S S9 ∧ (((0 ≤ a1_z ∧ a1_z < (pI S 1211 x).toInt ∧ 10 ≤ a2_z ∧ a2_z ≤ 2000) ∧ r = 1) ∨ ((¬ (0 ≤ a1_z ∧ a1_z < (pI S 1211 x).toInt ∧ 10 ≤ a2_z ∧ a2_z ≤ 2000)) ∧ r = 0))) := by
  refine ent_m (cc := cX12_target) (maxL := 3) (ret := (some .boolean)) (by decide) rfl (Nat.le_of_ble_eq_true rfl) ?_
  intro p e s m below meth c ls X hr hlocks hin hw hl hsz
  subst hsz
  have X : Cx p c cX12_target 3 s [.ref x, .int (a1), .int (a2)].toArray wsX12_target RX12 m G cy κ (AS S s.heap.size) := X
  have hl : lv_has ls 3 [(0, .ref x), (1, .int (a1)), (2, .int (a2))] := hl
  have rg_a1 : (-2147483648) ≤ a1_z ∧ a1_z ≤ 2147483647 := by rw [← hz_a1]; exact ⟨z_lo _, z_hi _⟩
  have rg_a2 : (-2147483648) ≤ a2_z ∧ a2_z ≤ 2147483647 := by rw [← hz_a2]; exact ⟨z_lo _, z_hi _⟩
  have hO : Ok Mtg S S := Ok.rf hG
  obtain ⟨v_1, ev_1⟩ : ∃ v, pI S 1211 x = v := ⟨_, rfl⟩
  have rg_2 := gI_12_1211 hO.1 ha_x; rw [ev_1] at rg_2
  have pz_3 : (pI S 1211 x).toInt = v_1.toInt := by rw [ev_1]
  have pz_4 : (pI S 1211 x).toInt = v_1.toInt := (congrArg Int32.toInt ev_1).trans rfl
  refine lv_aload_n X.1 X.2.1 dX12_target_0 rfl (lv_at hl 0 rfl) ?_
  refine lv_iconst (v := 0) X.1 X.2.1 dX12_target_1 (by decide) ?_
  refine r_putI (v := 0) X hw ha_x rfl 0 1200 tyX12 (by decide) rfl inn_X12_target_12 tyX12_ok nmX12 (by decide) (X.2.2.2.1 (.fieldLink RX12 161 "SilkMillModel" "thrown" "I") (by decide +kernel)) rfl (Or.inl rfl) rfl rfl (Nat.le_of_ble_eq_true rfl) (st_1200 _ _) dX12_target_2 (fun H locs hw => ?_)
  obtain ⟨S_5, eS_5⟩ : ∃ T, T = sI S 1200 x (0) := ⟨_, rfl⟩
  rw [← eS_5] at hw
  have hO_6 : Ok Mtg S S_5 := hO.sI eS_5 (by decide +kernel) (uI_12_1200 hO.1 ha_x)
  have h_7 : pI S_5 1200 x = 0 := tI_sIs eS_5
  refine lv_aload_n X.1 X.2.1 dX12_target_5 rfl (lv_at hl 0 rfl) ?_
  refine lv_iload_n X.1 X.2.1 dX12_target_6 rfl (lv_at hl 1 rfl) ?_
  have t_8 : pI S_5 1211 x = v_1 := tI_sI eS_5 rfl ev_1
  have pz_9 : (pI S_5 1211 x).toInt = v_1.toInt := (congrArg Int32.toInt t_8).trans rfl
  have t_10 : At S_5 x 12 := tAt_sI eS_5 ha_x
  refine k_i (rm := { frames := 2, cells := 0, slots := 0, locals := 96 }) (av := [.ref x, .int (a1)]) X hw (va_runV (As := [.int (a1)]) (rest := []) (cfix X) (k_X12_isPot l G cy κ S_5 _ x (a1) (a1_z) hO_6.1 t_10 hz_a1) (cwV 1 X.2.2.2.1 gX12_target_X12_isPot rfl rfl rfl (by decide +kernel) ⟨Nat.le_of_ble_eq_true rfl, Nat.le_of_ble_eq_true rfl⟩) (pre_V X hw _ t_10 rfl (by decide) rfl) rfl rfl hl.1 rfl (lv_room (Nat.le_of_ble_eq_true rfl)) dX12_target_7 ⟨Nat.le_of_ble_eq_true rfl, Nat.le_of_ble_eq_true rfl⟩) 0 0 (Nat.le_of_ble_eq_true rfl) (Nat.le_of_ble_eq_true rfl) (fun rr_11 S_12 H locs hp hw hfr hnw => ?_)
  obtain ⟨e2, hp⟩ := hp
  subst e2
  rcases hp with ⟨f_13, er_14⟩ | ⟨f_13, er_14⟩ <;> subst er_14
  · have z_b_15 := trivial
    refine lv_if_eq (tgt := 25) X.1 X.2.1 dX12_target_10 (by decide) (fun c_16 => absurd c_16 (by decide)) (fun c_16 => ?_)
    refine lv_iload_n X.1 X.2.1 dX12_target_13 rfl (lv_at hl 2 rfl) ?_
    refine lv_bipush (v := 10) X.1 X.2.1 dX12_target_14 (by decide) ?_
    refine lv_sipush (v := 2000) X.1 X.2.1 dX12_target_16 (by decide) ?_
    refine k_i (rm := { frames := 1, cells := 0, slots := 0, locals := 48 }) (av := [.int (a2), .int 10, .int 2000]) X hw (va_runS (As := [.int (a2), .int 10, .int 2000]) (rest := []) (cfix X) (k_X12_within l G cy κ S_5 _ (a2) (a2_z) (10) (10) (2000) (2000) hO_6.1 hz_a2 ti_10 ti_2000) (cwS 3 X.2.2.2.1 gX12_target_X12_within rfl rfl rfl (by decide +kernel) ⟨Nat.le_of_ble_eq_true rfl, Nat.le_of_ble_eq_true rfl⟩) (pre_S X hw _) rfl rfl hl.1 rfl (lv_room (Nat.le_of_ble_eq_true rfl)) dX12_target_19 ⟨Nat.le_of_ble_eq_true rfl, Nat.le_of_ble_eq_true rfl⟩) 0 0 (Nat.le_of_ble_eq_true rfl) (Nat.le_of_ble_eq_true rfl) (fun rr_17 S_18 H locs hp hw hfr hnw => ?_)
    obtain ⟨e2, hp⟩ := hp
    subst e2
    rcases hp with ⟨f_19, er_20⟩ | ⟨f_19, er_20⟩ <;> subst er_20
    · have z_b_21 := trivial
      refine lv_if_ne (tgt := 27) X.1 X.2.1 dX12_target_22 (by decide) (fun c_22 => ?_) (fun c_22 => absurd c_22 (by decide))
      refine lv_aload_n X.1 X.2.1 dX12_target_27 rfl (lv_at hl 0 rfl) ?_
      obtain ⟨q_23, h_24, h_25, h_26⟩ := gQ_12_1212 hO_6.1 t_10
      refine r_getR (g := 1212) X hw t_10 rfl 12 h_24 (by decide) rfl inn_X12_target_12 (by decide) (X.2.2.2.1 (.fieldLink RX12 37 "SilkMillModel" "aim" "[I") (by decide +kernel)) rfl (gv_1212 _ _) dX12_target_28 ?_
      refine lv_iload_n X.1 X.2.1 dX12_target_31 rfl (lv_at hl 1 rfl) ?_
      refine lv_iload_n X.1 X.2.1 dX12_target_32 rfl (lv_at hl 2 rfl) ?_
      refine r_iast X hw h_25 rfl (by rw [h_26]; exact z_ix hz_a1 (by omega) (by omega)) dX12_target_33 (fun H locs hw => ?_)
      obtain ⟨S_27, eS_27⟩ : ∃ T, T = sA S_5 q_23 (upd (pA S_5 q_23) (Int32.toNatClampNeg (a1)) (a2)) := ⟨_, rfl⟩
      rw [← eS_27] at hw
      have hO_28 : Ok Mtg S S_27 := hO_6.sA eS_27 h_25 (by decide +kernel) (uA_454 hO_6.1 h_25)
      have h_29 : pA S_27 q_23 (Int32.toNatClampNeg (a1)) = a2 := tA_sAs eS_27
      refine lv_iconst (v := 1) X.1 X.2.1 dX12_target_34 (by decide) ?_
      exact ret_z X hw hr hlocks (Nat.le_of_ble_eq_true rfl) (Nat.le_of_ble_eq_true rfl) (by decide) ⟨hO_28, Or.inl ⟨by omega, rfl⟩⟩ dX12_target_35
    · have z_b_30 := trivial
      refine lv_if_ne (tgt := 27) X.1 X.2.1 dX12_target_22 (by decide) (fun c_31 => absurd c_31 (by decide)) (fun c_31 => ?_)
      refine lv_iconst (v := 0) X.1 X.2.1 dX12_target_25 (by decide) ?_
      exact ret_z X hw hr hlocks (Nat.le_of_ble_eq_true rfl) (Nat.le_of_ble_eq_true rfl) (by decide) ⟨hO_6, Or.inr ⟨by omega, rfl⟩⟩ dX12_target_26
  · have z_b_32 := trivial
    refine lv_if_eq (tgt := 25) X.1 X.2.1 dX12_target_10 (by decide) (fun c_33 => ?_) (fun c_33 => absurd c_33 (by decide))
    refine lv_iconst (v := 0) X.1 X.2.1 dX12_target_25 (by decide) ?_
    exact ret_z X hw hr hlocks (Nat.le_of_ble_eq_true rfl) (Nat.le_of_ble_eq_true rfl) (by decide) ⟨hO_6, Or.inr ⟨by omega, rfl⟩⟩ dX12_target_26
set_option maxHeartbeats 4000000 in
set_option maxRecDepth 100000 in
theorem k_X12_feed (l : Launch) (G : va_G) (cy : Nat → ClassId) (κ : Nat → Nat) (S : PS) (sz : Nat) (x : Nat) (a1 : Int32) (a1_z : Int) (a2 : Int32) (a2_z : Int) (a3 : Int32) (a3_z : Int) (a4 : Int32) (a4_z : Int) (a5 : Int32) (a5_z : Int) (hG : GX S) (ha_x : At S x 12) (hz_a1 : a1.toInt = a1_z) (hz_a2 : a2.toInt = a2_z) (hz_a3 : a3.toInt = a3_z) (hz_a4 : a4.toInt = a4_z) (hz_a5 : a5.toInt = a5_z) : Ci l yX12_feed wsX12_feed ({ frames := 1, cells := 0, slots := 0, locals := 48 }) G cy κ S sz [.ref x, .int (a1), .int (a2), .int (a3), .int (a4), .int (a5)] (fun (r : Int32) (S9 : PS) => Ok MT S S9 ∧ (-2147483648 ≤ r.toInt ∧ r.toInt ≤ 2147483647 ∧ (((pI S 1228 x).toInt ≤ 380 ∧ r.toInt = (pI S 1228 x).toInt + 20 ∧ (pI S9 1228 x).toInt = (pI S 1228 x).toInt + 20) ∨ (380 < (pI S 1228 x).toInt ∧ r.toInt = -1 ∧ (pI S9 1228 x).toInt = (pI S 1228 x).toInt)))) := by
  refine ent_m (cc := cX12_feed) (maxL := 8) (ret := (some .int)) (by decide) rfl (Nat.le_of_ble_eq_true rfl) ?_
  intro p e s m below meth c ls X hr hlocks hin hw hl hsz
  subst hsz
  have X : Cx p c cX12_feed 8 s [.ref x, .int (a1), .int (a2), .int (a3), .int (a4), .int (a5)].toArray wsX12_feed RX12 m G cy κ (AS S s.heap.size) := X
  have hl : lv_has ls 8 [(0, .ref x), (1, .int (a1)), (2, .int (a2)), (3, .int (a3)), (4, .int (a4)), (5, .int (a5))] := hl
  have rg_a1 : (-2147483648) ≤ a1_z ∧ a1_z ≤ 2147483647 := by rw [← hz_a1]; exact ⟨z_lo _, z_hi _⟩
  have rg_a2 : (-2147483648) ≤ a2_z ∧ a2_z ≤ 2147483647 := by rw [← hz_a2]; exact ⟨z_lo _, z_hi _⟩
  have rg_a3 : (-2147483648) ≤ a3_z ∧ a3_z ≤ 2147483647 := by rw [← hz_a3]; exact ⟨z_lo _, z_hi _⟩
  have rg_a4 : (-2147483648) ≤ a4_z ∧ a4_z ≤ 2147483647 := by rw [← hz_a4]; exact ⟨z_lo _, z_hi _⟩
  have rg_a5 : (-2147483648) ≤ a5_z ∧ a5_z ≤ 2147483647 := by rw [← hz_a5]; exact ⟨z_lo _, z_hi _⟩
  have hO : Ok MT S S := Ok.rf hG
  generalize hQQ : MQ below _ _ _ _ _ _ = QQ
  replace hQQ := hQQ.symm
  obtain ⟨v_1, ev_1⟩ : ∃ v, pI S 1228 x = v := ⟨_, rfl⟩
  have rg_2 := gI_12_1228 hO.1 ha_x; rw [ev_1] at rg_2
  have pz_3 : (pI S 1228 x).toInt = v_1.toInt := by rw [ev_1]
  have pz_4 : (pI S 1228 x).toInt = v_1.toInt := (congrArg Int32.toInt ev_1).trans rfl
  refine lv_aload_n X.1 X.2.1 dX12_feed_0 rfl (lv_at hl 0 rfl) ?_
  refine lv_iconst (v := 0) X.1 X.2.1 dX12_feed_1 (by decide) ?_
  refine r_putI (v := 0) X hw ha_x rfl 0 1200 tyX12 (by decide) rfl inn_X12_feed_12 tyX12_ok nmX12 (by decide) (X.2.2.2.1 (.fieldLink RX12 161 "SilkMillModel" "thrown" "I") (by decide +kernel)) rfl (Or.inl rfl) rfl rfl (Nat.le_of_ble_eq_true rfl) (st_1200 _ _) dX12_feed_2 (fun H locs hw => ?_)
  obtain ⟨S_5, eS_5⟩ : ∃ T, T = sI S 1200 x (0) := ⟨_, rfl⟩
  rw [← eS_5] at hw
  have hO_6 : Ok MT S S_5 := hO.sI eS_5 (by decide +kernel) (uI_12_1200 hO.1 ha_x)
  have h_7 : pI S_5 1200 x = 0 := tI_sIs eS_5
  refine lv_aload_n X.1 X.2.1 dX12_feed_5 rfl (lv_at hl 0 rfl) ?_
  have t_8 : At S_5 x 12 := tAt_sI eS_5 ha_x
  have t_9 : pI S_5 1228 x = v_1 := tI_sI eS_5 rfl ev_1
  refine r_getI (g := 1228) (x := v_1) X hw t_8 rfl 28 t_9 (by decide) rfl inn_X12_feed_12 (by decide) (X.2.2.2.1 (.fieldLink RX12 211 "SilkMillModel" "taped" "I") (by decide +kernel)) rfl (gv_1228 _ _) dX12_feed_6 ?_
  refine lv_sipush (v := 380) X.1 X.2.1 dX12_feed_9 (by decide) ?_
  refine lv_icmp_le (tgt := 17) X.1 X.2.1 dX12_feed_12 (by decide) (fun c_10 => ?_) (fun c_10 => ?_)
  · have z_b_11 := trivial
    have k_12 : v_1.toInt ≤ 380 := z_le rfl ti_380 c_10
    refine lv_iconst (v := 0) X.1 X.2.1 dX12_feed_17 (by decide) ?_
    refine lv_istore (lv' := [(6, .int 0), (0, .ref x), (1, .int (a1)), (2, .int (a2)), (3, .int (a3)), (4, .int (a4)), (5, .int (a5))]) X.1 X.2.1 dX12_feed_18 hl (by decide) rfl (fun ls hl => ?_)
    have L_13 : ∀ (n : Nat) (T_15 : PS) (H : Heap) (locs : List Loc) (ls : Array Slot) (i6_14 : Int32) (i6_14_z : Int), ((20 - i6_14_z).toNat = n) → (Wd G cy (AS S s.heap.size) s.heap T_15 H locs) → (i6_14.toInt = i6_14_z) → (0 ≤ i6_14_z ∧ i6_14_z ≤ 20) → (At T_15 x 12) → (Ok MT S T_15) → ((pI T_15 1228 x).toInt = (pI S 1228 x).toInt + i6_14_z) → (lv_has ls 8 [(6, .int (i6_14)), (0, .ref x), (1, .int (a1)), (2, .int (a2)), (3, .int (a3)), (4, .int (a4)), (5, .int (a5))]) → W p l e ({ frames := 1, cells := 0, slots := 0, locals := 48 }) s m [.ref x, .int (a1), .int (a2), .int (a3), .int (a4), .int (a5)].toArray below meth c H locs 0 0 QQ (F0 m 20 ls []) := by
      intro n
      induction n using Nat.strongRecOn with
      | ind n ih_L_13 =>
      intro T_15 H locs ls i6_14 i6_14_z hn hw hz_i6_14 hr_i6_14 ha_x_L_16 hO_T_15 iv_17 hl
      have rg_18 : (-2147483648) ≤ i6_14_z ∧ i6_14_z ≤ 2147483647 := by rw [← hz_i6_14]; exact ⟨z_lo _, z_hi _⟩
      obtain ⟨v_19, ev_19⟩ : ∃ v, pI T_15 1228 x = v := ⟨_, rfl⟩
      have rg_20 := gI_12_1228 hO_T_15.1 ha_x_L_16; rw [ev_19] at rg_20
      have pz_21 : (pI T_15 1228 x).toInt = v_19.toInt := by rw [ev_19]
      have pz_22 : (pI T_15 1228 x).toInt = v_19.toInt := (congrArg Int32.toInt ev_19).trans rfl
      refine lv_iload X.1 X.2.1 dX12_feed_20 (lv_at hl 0 rfl) ?_
      refine lv_bipush (v := 20) X.1 X.2.1 dX12_feed_22 (by decide) ?_
      refine lv_icmp_ge (tgt := 114) X.1 X.2.1 dX12_feed_24 (by decide) (fun c_23 => ?_) (fun c_23 => ?_)
      · have z_b_24 := trivial
        have k_25 : i6_14_z ≥ 20 := z_le ti_20 hz_i6_14 c_23
        refine lv_aload_n X.1 X.2.1 dX12_feed_114 rfl (lv_at hl 1 rfl) ?_
        refine r_getI (g := 1228) (x := v_19) X hw ha_x_L_16 rfl 28 ev_19 (by decide) rfl inn_X12_feed_12 (by decide) (X.2.2.2.1 (.fieldLink RX12 211 "SilkMillModel" "taped" "I") (by decide +kernel)) rfl (gv_1228 _ _) dX12_feed_115 ?_
        have pz_26 : (pI T_15 1228 x).toInt = v_19.toInt := (congrArg Int32.toInt ev_19).trans rfl
        rw [hQQ]
        exact ret_i X hw hr hlocks (Nat.le_of_ble_eq_true rfl) (Nat.le_of_ble_eq_true rfl) ⟨hO_T_15, ⟨z_lo _, z_hi _, by omega⟩⟩ dX12_feed_118
      · have z_b_27 := trivial
        have k_28 : i6_14_z < 20 := z_nle ti_20 hz_i6_14 c_23
        refine lv_iload X.1 X.2.1 dX12_feed_27 (lv_at hl 0 rfl) ?_
        refine lv_iconst (v := 4) X.1 X.2.1 dX12_feed_29 (by decide) ?_
        refine lv_icmp_ge (tgt := 37) X.1 X.2.1 dX12_feed_30 (by decide) (fun c_29 => ?_) (fun c_29 => ?_)
        · have z_b_30 := trivial
          have k_31 : i6_14_z ≥ 4 := z_le ti_4 hz_i6_14 c_29
          refine lv_iload X.1 X.2.1 dX12_feed_37 (lv_at hl 0 rfl) ?_
          refine lv_bipush (v := 8) X.1 X.2.1 dX12_feed_39 (by decide) ?_
          refine lv_icmp_ge (tgt := 48) X.1 X.2.1 dX12_feed_41 (by decide) (fun c_32 => ?_) (fun c_32 => ?_)
          · have z_b_33 := trivial
            have k_34 : i6_14_z ≥ 8 := z_le ti_8 hz_i6_14 c_32
            refine lv_iload X.1 X.2.1 dX12_feed_48 (lv_at hl 0 rfl) ?_
            refine lv_bipush (v := 12) X.1 X.2.1 dX12_feed_50 (by decide) ?_
            refine lv_icmp_ge (tgt := 59) X.1 X.2.1 dX12_feed_52 (by decide) (fun c_35 => ?_) (fun c_35 => ?_)
            · have z_b_36 := trivial
              have k_37 : i6_14_z ≥ 12 := z_le ti_12 hz_i6_14 c_35
              refine lv_iload X.1 X.2.1 dX12_feed_59 (lv_at hl 0 rfl) ?_
              refine lv_bipush (v := 16) X.1 X.2.1 dX12_feed_61 (by decide) ?_
              refine lv_icmp_ge (tgt := 71) X.1 X.2.1 dX12_feed_63 (by decide) (fun c_38 => ?_) (fun c_38 => ?_)
              · have z_b_39 := trivial
                have k_40 : i6_14_z ≥ 16 := z_le ti_16 hz_i6_14 c_38
                refine lv_iload X.1 X.2.1 dX12_feed_71 (lv_at hl 6 rfl) ?_
                refine lv_istore (lv' := [(7, .int (a5)), (6, .int (i6_14)), (0, .ref x), (1, .int (a1)), (2, .int (a2)), (3, .int (a3)), (4, .int (a4)), (5, .int (a5))]) X.1 X.2.1 dX12_feed_73 hl (by decide) rfl (fun ls hl => ?_)
                refine lv_aload_n X.1 X.2.1 dX12_feed_75 rfl (lv_at hl 2 rfl) ?_
                obtain ⟨q_41, h_42, h_43, h_44⟩ := gQ_12_1227 hO_T_15.1 ha_x_L_16
                refine r_getR (g := 1227) X hw ha_x_L_16 rfl 27 h_42 (by decide) rfl inn_X12_feed_12 (by decide) (X.2.2.2.1 (.fieldLink RX12 82 "SilkMillModel" "tape" "[B") (by decide +kernel)) rfl (gv_1227 _ _) dX12_feed_76 ?_
                refine lv_aload_n X.1 X.2.1 dX12_feed_79 rfl (lv_at hl 2 rfl) ?_
                refine r_getI (g := 1228) (x := v_19) X hw ha_x_L_16 rfl 28 ev_19 (by decide) rfl inn_X12_feed_12 (by decide) (X.2.2.2.1 (.fieldLink RX12 211 "SilkMillModel" "taped" "I") (by decide +kernel)) rfl (gv_1228 _ _) dX12_feed_80 ?_
                refine lv_iload X.1 X.2.1 dX12_feed_83 (lv_at hl 0 rfl) ?_
                refine lv_bipush (v := 24) X.1 X.2.1 dX12_feed_85 (by decide) ?_
                refine lv_bipush (v := 8) X.1 X.2.1 dX12_feed_87 (by decide) ?_
                refine lv_iload X.1 X.2.1 dX12_feed_89 (lv_at hl 1 rfl) ?_
                refine lv_iconst (v := 4) X.1 X.2.1 dX12_feed_91 (by decide) ?_
                refine lv_irem X.1 X.2.1 dX12_feed_92 (by decide) ?_
                refine lv_topi (fun v_45 ev_45 => ?_)
                have z_46 : v_45.toInt = i6_14_z % 4 := z_rem ev_45 hz_i6_14 ti_4 (by omega) (by omega)
                have z_47 : 0 ≤ v_45.toInt ∧ v_45.toInt < 4 := by rw [z_46]; exact ⟨Int.emod_nonneg _ (by omega), Int.emod_lt_of_pos _ (by omega)⟩
                refine lv_imul X.1 X.2.1 dX12_feed_93 ?_
                refine lv_topi (fun v_48 ev_48 => ?_)
                have z_49 : v_48.toInt = 8 * (i6_14_z % 4) := z_mul ev_48 ti_8 z_46 (by omega) (by omega)
                refine lv_isub X.1 X.2.1 dX12_feed_94 ?_
                refine lv_topi (fun v_50 ev_50 => ?_)
                have z_51 : v_50.toInt = 24 - (8 * (i6_14_z % 4)) := z_sub ev_50 ti_24 z_49 (by omega) (by omega)
                refine lv_ishr X.1 X.2.1 dX12_feed_95 ?_
                refine lv_topi (fun v_52 ev_52 => ?_)
                have rg_53 := And.intro (z_lo v_52) (z_hi v_52)
                refine lv_i2b X.1 X.2.1 dX12_feed_96 rfl ?_
                refine lv_topi (fun v_54 ev_54 => ?_)
                have rg_55 := And.intro (z_lo v_54) (z_hi v_54)
                refine r_bast X hw h_43 rfl (by rw [h_44]; exact z_ix rfl (by omega) (by omega)) dX12_feed_97 (fun H locs hw => ?_)
                obtain ⟨S_56, eS_56⟩ : ∃ T, T = sA T_15 q_41 (upd (pA T_15 q_41) (Int32.toNatClampNeg (v_19)) (vp_nar .byte (v_54))) := ⟨_, rfl⟩
                rw [← eS_56] at hw
                have hO_57 : Ok MT S S_56 := hO_T_15.sA eS_56 h_43 (by decide +kernel) (uA_753 hO_T_15.1 h_43 (nar_b _).1 (nar_b _).2)
                refine lv_aload_n X.1 X.2.1 dX12_feed_98 rfl (lv_at hl 2 rfl) ?_
                refine lv_dup X.1 X.2.1 dX12_feed_99 rfl ?_
                have t_58 : At S_56 x 12 := tAt_sA eS_56 ha_x_L_16
                have t_59 : pI S_56 1228 x = v_19 := tI_sA eS_56 ev_19
                refine r_getI (g := 1228) (x := v_19) X hw t_58 rfl 28 t_59 (by decide) rfl inn_X12_feed_12 (by decide) (X.2.2.2.1 (.fieldLink RX12 211 "SilkMillModel" "taped" "I") (by decide +kernel)) rfl (gv_1228 _ _) dX12_feed_100 ?_
                refine lv_iconst (v := 1) X.1 X.2.1 dX12_feed_103 (by decide) ?_
                refine lv_iadd X.1 X.2.1 dX12_feed_104 ?_
                refine lv_topi (fun v_60 ev_60 => ?_)
                have z_61 : v_60.toInt = v_19.toInt + 1 := z_add ev_60 rfl ti_1 (by omega) (by omega)
                refine r_putI (v := v_60) X hw t_58 rfl 28 1228 tyX12 (by decide) rfl inn_X12_feed_12 tyX12_ok nmX12 (by decide) (X.2.2.2.1 (.fieldLink RX12 211 "SilkMillModel" "taped" "I") (by decide +kernel)) rfl (Or.inl rfl) rfl rfl (Nat.le_of_ble_eq_true rfl) (st_1228 _ _) dX12_feed_105 (fun H locs hw => ?_)
                obtain ⟨S_62, eS_62⟩ : ∃ T, T = sI S_56 1228 x (v_60) := ⟨_, rfl⟩
                rw [← eS_62] at hw
                have hO_63 : Ok MT S S_62 := hO_57.sI eS_62 (by decide +kernel) (uI_12_1228 hO_57.1 t_58 (by omega) (by omega))
                have h_64 : pI S_62 1228 x = v_60 := tI_sIs eS_62
                obtain ⟨x_65, ex_65⟩ : ∃ y : Int32, y = i6_14 + 1 := ⟨_, rfl⟩
                have z_66 : x_65.toInt = i6_14_z + 1 := z_add ex_65 hz_i6_14 ti_1 (by omega) (by omega)
                refine lv_iinc (v := x_65) (lv' := [(6, .int (x_65)), (7, .int (a5)), (0, .ref x), (1, .int (a1)), (2, .int (a2)), (3, .int (a3)), (4, .int (a4)), (5, .int (a5))]) X.1 X.2.1 dX12_feed_108 hl (k := 1) rfl (by rw [ex_65]; rfl) (by decide) rfl (fun ls hl => ?_)
                refine lv_goto (tgt := 20) X.1 X.2.1 dX12_feed_111 (by decide) ?_
                have pz_67 : (pI S_62 1228 x).toInt = (v_19.toInt + 1) := (congrArg Int32.toInt h_64).trans z_61
                have t_68 : At S_62 x 12 := tAt_sI eS_62 t_58
                exact ih_L_13 _ (by omega) _ _ _ _ (x_65) (x_65.toInt) rfl hw rfl (by omega) t_68 hO_63 (by omega) (lv_sub hl [0, 2, 3, 4, 5, 6, 7] rfl)
              · have z_b_69 := trivial
                have k_70 : i6_14_z < 16 := z_nle ti_16 hz_i6_14 c_38
                refine lv_iload X.1 X.2.1 dX12_feed_66 (lv_at hl 5 rfl) ?_
                refine lv_goto (tgt := 73) X.1 X.2.1 dX12_feed_68 (by decide) ?_
                refine lv_istore (lv' := [(7, .int (a4)), (6, .int (i6_14)), (0, .ref x), (1, .int (a1)), (2, .int (a2)), (3, .int (a3)), (4, .int (a4)), (5, .int (a5))]) X.1 X.2.1 dX12_feed_73 hl (by decide) rfl (fun ls hl => ?_)
                refine lv_aload_n X.1 X.2.1 dX12_feed_75 rfl (lv_at hl 2 rfl) ?_
                obtain ⟨q_71, h_72, h_73, h_74⟩ := gQ_12_1227 hO_T_15.1 ha_x_L_16
                refine r_getR (g := 1227) X hw ha_x_L_16 rfl 27 h_72 (by decide) rfl inn_X12_feed_12 (by decide) (X.2.2.2.1 (.fieldLink RX12 82 "SilkMillModel" "tape" "[B") (by decide +kernel)) rfl (gv_1227 _ _) dX12_feed_76 ?_
                refine lv_aload_n X.1 X.2.1 dX12_feed_79 rfl (lv_at hl 2 rfl) ?_
                refine r_getI (g := 1228) (x := v_19) X hw ha_x_L_16 rfl 28 ev_19 (by decide) rfl inn_X12_feed_12 (by decide) (X.2.2.2.1 (.fieldLink RX12 211 "SilkMillModel" "taped" "I") (by decide +kernel)) rfl (gv_1228 _ _) dX12_feed_80 ?_
                refine lv_iload X.1 X.2.1 dX12_feed_83 (lv_at hl 0 rfl) ?_
                refine lv_bipush (v := 24) X.1 X.2.1 dX12_feed_85 (by decide) ?_
                refine lv_bipush (v := 8) X.1 X.2.1 dX12_feed_87 (by decide) ?_
                refine lv_iload X.1 X.2.1 dX12_feed_89 (lv_at hl 1 rfl) ?_
                refine lv_iconst (v := 4) X.1 X.2.1 dX12_feed_91 (by decide) ?_
                refine lv_irem X.1 X.2.1 dX12_feed_92 (by decide) ?_
                refine lv_topi (fun v_75 ev_75 => ?_)
                have z_76 : v_75.toInt = i6_14_z % 4 := z_rem ev_75 hz_i6_14 ti_4 (by omega) (by omega)
                have z_77 : 0 ≤ v_75.toInt ∧ v_75.toInt < 4 := by rw [z_76]; exact ⟨Int.emod_nonneg _ (by omega), Int.emod_lt_of_pos _ (by omega)⟩
                refine lv_imul X.1 X.2.1 dX12_feed_93 ?_
                refine lv_topi (fun v_78 ev_78 => ?_)
                have z_79 : v_78.toInt = 8 * (i6_14_z % 4) := z_mul ev_78 ti_8 z_76 (by omega) (by omega)
                refine lv_isub X.1 X.2.1 dX12_feed_94 ?_
                refine lv_topi (fun v_80 ev_80 => ?_)
                have z_81 : v_80.toInt = 24 - (8 * (i6_14_z % 4)) := z_sub ev_80 ti_24 z_79 (by omega) (by omega)
                refine lv_ishr X.1 X.2.1 dX12_feed_95 ?_
                refine lv_topi (fun v_82 ev_82 => ?_)
                have rg_83 := And.intro (z_lo v_82) (z_hi v_82)
                refine lv_i2b X.1 X.2.1 dX12_feed_96 rfl ?_
                refine lv_topi (fun v_84 ev_84 => ?_)
                have rg_85 := And.intro (z_lo v_84) (z_hi v_84)
                refine r_bast X hw h_73 rfl (by rw [h_74]; exact z_ix rfl (by omega) (by omega)) dX12_feed_97 (fun H locs hw => ?_)
                obtain ⟨S_86, eS_86⟩ : ∃ T, T = sA T_15 q_71 (upd (pA T_15 q_71) (Int32.toNatClampNeg (v_19)) (vp_nar .byte (v_84))) := ⟨_, rfl⟩
                rw [← eS_86] at hw
                have hO_87 : Ok MT S S_86 := hO_T_15.sA eS_86 h_73 (by decide +kernel) (uA_753 hO_T_15.1 h_73 (nar_b _).1 (nar_b _).2)
                refine lv_aload_n X.1 X.2.1 dX12_feed_98 rfl (lv_at hl 2 rfl) ?_
                refine lv_dup X.1 X.2.1 dX12_feed_99 rfl ?_
                have t_88 : At S_86 x 12 := tAt_sA eS_86 ha_x_L_16
                have t_89 : pI S_86 1228 x = v_19 := tI_sA eS_86 ev_19
                refine r_getI (g := 1228) (x := v_19) X hw t_88 rfl 28 t_89 (by decide) rfl inn_X12_feed_12 (by decide) (X.2.2.2.1 (.fieldLink RX12 211 "SilkMillModel" "taped" "I") (by decide +kernel)) rfl (gv_1228 _ _) dX12_feed_100 ?_
                refine lv_iconst (v := 1) X.1 X.2.1 dX12_feed_103 (by decide) ?_
                refine lv_iadd X.1 X.2.1 dX12_feed_104 ?_
                refine lv_topi (fun v_90 ev_90 => ?_)
                have z_91 : v_90.toInt = v_19.toInt + 1 := z_add ev_90 rfl ti_1 (by omega) (by omega)
                refine r_putI (v := v_90) X hw t_88 rfl 28 1228 tyX12 (by decide) rfl inn_X12_feed_12 tyX12_ok nmX12 (by decide) (X.2.2.2.1 (.fieldLink RX12 211 "SilkMillModel" "taped" "I") (by decide +kernel)) rfl (Or.inl rfl) rfl rfl (Nat.le_of_ble_eq_true rfl) (st_1228 _ _) dX12_feed_105 (fun H locs hw => ?_)
                obtain ⟨S_92, eS_92⟩ : ∃ T, T = sI S_86 1228 x (v_90) := ⟨_, rfl⟩
                rw [← eS_92] at hw
                have hO_93 : Ok MT S S_92 := hO_87.sI eS_92 (by decide +kernel) (uI_12_1228 hO_87.1 t_88 (by omega) (by omega))
                have h_94 : pI S_92 1228 x = v_90 := tI_sIs eS_92
                obtain ⟨x_95, ex_95⟩ : ∃ y : Int32, y = i6_14 + 1 := ⟨_, rfl⟩
                have z_96 : x_95.toInt = i6_14_z + 1 := z_add ex_95 hz_i6_14 ti_1 (by omega) (by omega)
                refine lv_iinc (v := x_95) (lv' := [(6, .int (x_95)), (7, .int (a4)), (0, .ref x), (1, .int (a1)), (2, .int (a2)), (3, .int (a3)), (4, .int (a4)), (5, .int (a5))]) X.1 X.2.1 dX12_feed_108 hl (k := 1) rfl (by rw [ex_95]; rfl) (by decide) rfl (fun ls hl => ?_)
                refine lv_goto (tgt := 20) X.1 X.2.1 dX12_feed_111 (by decide) ?_
                have pz_97 : (pI S_92 1228 x).toInt = (v_19.toInt + 1) := (congrArg Int32.toInt h_94).trans z_91
                have t_98 : At S_92 x 12 := tAt_sI eS_92 t_88
                exact ih_L_13 _ (by omega) _ _ _ _ (x_95) (x_95.toInt) rfl hw rfl (by omega) t_98 hO_93 (by omega) (lv_sub hl [0, 2, 3, 4, 5, 6, 7] rfl)
            · have z_b_99 := trivial
              have k_100 : i6_14_z < 12 := z_nle ti_12 hz_i6_14 c_35
              refine lv_iload_n X.1 X.2.1 dX12_feed_55 rfl (lv_at hl 4 rfl) ?_
              refine lv_goto (tgt := 73) X.1 X.2.1 dX12_feed_56 (by decide) ?_
              refine lv_istore (lv' := [(7, .int (a3)), (6, .int (i6_14)), (0, .ref x), (1, .int (a1)), (2, .int (a2)), (3, .int (a3)), (4, .int (a4)), (5, .int (a5))]) X.1 X.2.1 dX12_feed_73 hl (by decide) rfl (fun ls hl => ?_)
              refine lv_aload_n X.1 X.2.1 dX12_feed_75 rfl (lv_at hl 2 rfl) ?_
              obtain ⟨q_101, h_102, h_103, h_104⟩ := gQ_12_1227 hO_T_15.1 ha_x_L_16
              refine r_getR (g := 1227) X hw ha_x_L_16 rfl 27 h_102 (by decide) rfl inn_X12_feed_12 (by decide) (X.2.2.2.1 (.fieldLink RX12 82 "SilkMillModel" "tape" "[B") (by decide +kernel)) rfl (gv_1227 _ _) dX12_feed_76 ?_
              refine lv_aload_n X.1 X.2.1 dX12_feed_79 rfl (lv_at hl 2 rfl) ?_
              refine r_getI (g := 1228) (x := v_19) X hw ha_x_L_16 rfl 28 ev_19 (by decide) rfl inn_X12_feed_12 (by decide) (X.2.2.2.1 (.fieldLink RX12 211 "SilkMillModel" "taped" "I") (by decide +kernel)) rfl (gv_1228 _ _) dX12_feed_80 ?_
              refine lv_iload X.1 X.2.1 dX12_feed_83 (lv_at hl 0 rfl) ?_
              refine lv_bipush (v := 24) X.1 X.2.1 dX12_feed_85 (by decide) ?_
              refine lv_bipush (v := 8) X.1 X.2.1 dX12_feed_87 (by decide) ?_
              refine lv_iload X.1 X.2.1 dX12_feed_89 (lv_at hl 1 rfl) ?_
              refine lv_iconst (v := 4) X.1 X.2.1 dX12_feed_91 (by decide) ?_
              refine lv_irem X.1 X.2.1 dX12_feed_92 (by decide) ?_
              refine lv_topi (fun v_105 ev_105 => ?_)
              have z_106 : v_105.toInt = i6_14_z % 4 := z_rem ev_105 hz_i6_14 ti_4 (by omega) (by omega)
              have z_107 : 0 ≤ v_105.toInt ∧ v_105.toInt < 4 := by rw [z_106]; exact ⟨Int.emod_nonneg _ (by omega), Int.emod_lt_of_pos _ (by omega)⟩
              refine lv_imul X.1 X.2.1 dX12_feed_93 ?_
              refine lv_topi (fun v_108 ev_108 => ?_)
              have z_109 : v_108.toInt = 8 * (i6_14_z % 4) := z_mul ev_108 ti_8 z_106 (by omega) (by omega)
              refine lv_isub X.1 X.2.1 dX12_feed_94 ?_
              refine lv_topi (fun v_110 ev_110 => ?_)
              have z_111 : v_110.toInt = 24 - (8 * (i6_14_z % 4)) := z_sub ev_110 ti_24 z_109 (by omega) (by omega)
              refine lv_ishr X.1 X.2.1 dX12_feed_95 ?_
              refine lv_topi (fun v_112 ev_112 => ?_)
              have rg_113 := And.intro (z_lo v_112) (z_hi v_112)
              refine lv_i2b X.1 X.2.1 dX12_feed_96 rfl ?_
              refine lv_topi (fun v_114 ev_114 => ?_)
              have rg_115 := And.intro (z_lo v_114) (z_hi v_114)
              refine r_bast X hw h_103 rfl (by rw [h_104]; exact z_ix rfl (by omega) (by omega)) dX12_feed_97 (fun H locs hw => ?_)
              obtain ⟨S_116, eS_116⟩ : ∃ T, T = sA T_15 q_101 (upd (pA T_15 q_101) (Int32.toNatClampNeg (v_19)) (vp_nar .byte (v_114))) := ⟨_, rfl⟩
              rw [← eS_116] at hw
              have hO_117 : Ok MT S S_116 := hO_T_15.sA eS_116 h_103 (by decide +kernel) (uA_753 hO_T_15.1 h_103 (nar_b _).1 (nar_b _).2)
              refine lv_aload_n X.1 X.2.1 dX12_feed_98 rfl (lv_at hl 2 rfl) ?_
              refine lv_dup X.1 X.2.1 dX12_feed_99 rfl ?_
              have t_118 : At S_116 x 12 := tAt_sA eS_116 ha_x_L_16
              have t_119 : pI S_116 1228 x = v_19 := tI_sA eS_116 ev_19
              refine r_getI (g := 1228) (x := v_19) X hw t_118 rfl 28 t_119 (by decide) rfl inn_X12_feed_12 (by decide) (X.2.2.2.1 (.fieldLink RX12 211 "SilkMillModel" "taped" "I") (by decide +kernel)) rfl (gv_1228 _ _) dX12_feed_100 ?_
              refine lv_iconst (v := 1) X.1 X.2.1 dX12_feed_103 (by decide) ?_
              refine lv_iadd X.1 X.2.1 dX12_feed_104 ?_
              refine lv_topi (fun v_120 ev_120 => ?_)
              have z_121 : v_120.toInt = v_19.toInt + 1 := z_add ev_120 rfl ti_1 (by omega) (by omega)
              refine r_putI (v := v_120) X hw t_118 rfl 28 1228 tyX12 (by decide) rfl inn_X12_feed_12 tyX12_ok nmX12 (by decide) (X.2.2.2.1 (.fieldLink RX12 211 "SilkMillModel" "taped" "I") (by decide +kernel)) rfl (Or.inl rfl) rfl rfl (Nat.le_of_ble_eq_true rfl) (st_1228 _ _) dX12_feed_105 (fun H locs hw => ?_)
              obtain ⟨S_122, eS_122⟩ : ∃ T, T = sI S_116 1228 x (v_120) := ⟨_, rfl⟩
              rw [← eS_122] at hw
              have hO_123 : Ok MT S S_122 := hO_117.sI eS_122 (by decide +kernel) (uI_12_1228 hO_117.1 t_118 (by omega) (by omega))
              have h_124 : pI S_122 1228 x = v_120 := tI_sIs eS_122
              obtain ⟨x_125, ex_125⟩ : ∃ y : Int32, y = i6_14 + 1 := ⟨_, rfl⟩
              have z_126 : x_125.toInt = i6_14_z + 1 := z_add ex_125 hz_i6_14 ti_1 (by omega) (by omega)
              refine lv_iinc (v := x_125) (lv' := [(6, .int (x_125)), (7, .int (a3)), (0, .ref x), (1, .int (a1)), (2, .int (a2)), (3, .int (a3)), (4, .int (a4)), (5, .int (a5))]) X.1 X.2.1 dX12_feed_108 hl (k := 1) rfl (by rw [ex_125]; rfl) (by decide) rfl (fun ls hl => ?_)
              refine lv_goto (tgt := 20) X.1 X.2.1 dX12_feed_111 (by decide) ?_
              have pz_127 : (pI S_122 1228 x).toInt = (v_19.toInt + 1) := (congrArg Int32.toInt h_124).trans z_121
              have t_128 : At S_122 x 12 := tAt_sI eS_122 t_118
              exact ih_L_13 _ (by omega) _ _ _ _ (x_125) (x_125.toInt) rfl hw rfl (by omega) t_128 hO_123 (by omega) (lv_sub hl [0, 2, 3, 4, 5, 6, 7] rfl)
          · have z_b_129 := trivial
            have k_130 : i6_14_z < 8 := z_nle ti_8 hz_i6_14 c_32
            refine lv_iload_n X.1 X.2.1 dX12_feed_44 rfl (lv_at hl 3 rfl) ?_
            refine lv_goto (tgt := 73) X.1 X.2.1 dX12_feed_45 (by decide) ?_
            refine lv_istore (lv' := [(7, .int (a2)), (6, .int (i6_14)), (0, .ref x), (1, .int (a1)), (2, .int (a2)), (3, .int (a3)), (4, .int (a4)), (5, .int (a5))]) X.1 X.2.1 dX12_feed_73 hl (by decide) rfl (fun ls hl => ?_)
            refine lv_aload_n X.1 X.2.1 dX12_feed_75 rfl (lv_at hl 2 rfl) ?_
            obtain ⟨q_131, h_132, h_133, h_134⟩ := gQ_12_1227 hO_T_15.1 ha_x_L_16
            refine r_getR (g := 1227) X hw ha_x_L_16 rfl 27 h_132 (by decide) rfl inn_X12_feed_12 (by decide) (X.2.2.2.1 (.fieldLink RX12 82 "SilkMillModel" "tape" "[B") (by decide +kernel)) rfl (gv_1227 _ _) dX12_feed_76 ?_
            refine lv_aload_n X.1 X.2.1 dX12_feed_79 rfl (lv_at hl 2 rfl) ?_
            refine r_getI (g := 1228) (x := v_19) X hw ha_x_L_16 rfl 28 ev_19 (by decide) rfl inn_X12_feed_12 (by decide) (X.2.2.2.1 (.fieldLink RX12 211 "SilkMillModel" "taped" "I") (by decide +kernel)) rfl (gv_1228 _ _) dX12_feed_80 ?_
            refine lv_iload X.1 X.2.1 dX12_feed_83 (lv_at hl 0 rfl) ?_
            refine lv_bipush (v := 24) X.1 X.2.1 dX12_feed_85 (by decide) ?_
            refine lv_bipush (v := 8) X.1 X.2.1 dX12_feed_87 (by decide) ?_
            refine lv_iload X.1 X.2.1 dX12_feed_89 (lv_at hl 1 rfl) ?_
            refine lv_iconst (v := 4) X.1 X.2.1 dX12_feed_91 (by decide) ?_
            refine lv_irem X.1 X.2.1 dX12_feed_92 (by decide) ?_
            refine lv_topi (fun v_135 ev_135 => ?_)
            have z_136 : v_135.toInt = i6_14_z % 4 := z_rem ev_135 hz_i6_14 ti_4 (by omega) (by omega)
            have z_137 : 0 ≤ v_135.toInt ∧ v_135.toInt < 4 := by rw [z_136]; exact ⟨Int.emod_nonneg _ (by omega), Int.emod_lt_of_pos _ (by omega)⟩
            refine lv_imul X.1 X.2.1 dX12_feed_93 ?_
            refine lv_topi (fun v_138 ev_138 => ?_)
            have z_139 : v_138.toInt = 8 * (i6_14_z % 4) := z_mul ev_138 ti_8 z_136 (by omega) (by omega)
            refine lv_isub X.1 X.2.1 dX12_feed_94 ?_
            refine lv_topi (fun v_140 ev_140 => ?_)
            have z_141 : v_140.toInt = 24 - (8 * (i6_14_z % 4)) := z_sub ev_140 ti_24 z_139 (by omega) (by omega)
            refine lv_ishr X.1 X.2.1 dX12_feed_95 ?_
            refine lv_topi (fun v_142 ev_142 => ?_)
            have rg_143 := And.intro (z_lo v_142) (z_hi v_142)
            refine lv_i2b X.1 X.2.1 dX12_feed_96 rfl ?_
            refine lv_topi (fun v_144 ev_144 => ?_)
            have rg_145 := And.intro (z_lo v_144) (z_hi v_144)
            refine r_bast X hw h_133 rfl (by rw [h_134]; exact z_ix rfl (by omega) (by omega)) dX12_feed_97 (fun H locs hw => ?_)
            obtain ⟨S_146, eS_146⟩ : ∃ T, T = sA T_15 q_131 (upd (pA T_15 q_131) (Int32.toNatClampNeg (v_19)) (vp_nar .byte (v_144))) := ⟨_, rfl⟩
            rw [← eS_146] at hw
            have hO_147 : Ok MT S S_146 := hO_T_15.sA eS_146 h_133 (by decide +kernel) (uA_753 hO_T_15.1 h_133 (nar_b _).1 (nar_b _).2)
            refine lv_aload_n X.1 X.2.1 dX12_feed_98 rfl (lv_at hl 2 rfl) ?_
            refine lv_dup X.1 X.2.1 dX12_feed_99 rfl ?_
            have t_148 : At S_146 x 12 := tAt_sA eS_146 ha_x_L_16
            have t_149 : pI S_146 1228 x = v_19 := tI_sA eS_146 ev_19
            refine r_getI (g := 1228) (x := v_19) X hw t_148 rfl 28 t_149 (by decide) rfl inn_X12_feed_12 (by decide) (X.2.2.2.1 (.fieldLink RX12 211 "SilkMillModel" "taped" "I") (by decide +kernel)) rfl (gv_1228 _ _) dX12_feed_100 ?_
            refine lv_iconst (v := 1) X.1 X.2.1 dX12_feed_103 (by decide) ?_
            refine lv_iadd X.1 X.2.1 dX12_feed_104 ?_
            refine lv_topi (fun v_150 ev_150 => ?_)
            have z_151 : v_150.toInt = v_19.toInt + 1 := z_add ev_150 rfl ti_1 (by omega) (by omega)
            refine r_putI (v := v_150) X hw t_148 rfl 28 1228 tyX12 (by decide) rfl inn_X12_feed_12 tyX12_ok nmX12 (by decide) (X.2.2.2.1 (.fieldLink RX12 211 "SilkMillModel" "taped" "I") (by decide +kernel)) rfl (Or.inl rfl) rfl rfl (Nat.le_of_ble_eq_true rfl) (st_1228 _ _) dX12_feed_105 (fun H locs hw => ?_)
            obtain ⟨S_152, eS_152⟩ : ∃ T, T = sI S_146 1228 x (v_150) := ⟨_, rfl⟩
            rw [← eS_152] at hw
            have hO_153 : Ok MT S S_152 := hO_147.sI eS_152 (by decide +kernel) (uI_12_1228 hO_147.1 t_148 (by omega) (by omega))
            have h_154 : pI S_152 1228 x = v_150 := tI_sIs eS_152
            obtain ⟨x_155, ex_155⟩ : ∃ y : Int32, y = i6_14 + 1 := ⟨_, rfl⟩
            have z_156 : x_155.toInt = i6_14_z + 1 := z_add ex_155 hz_i6_14 ti_1 (by omega) (by omega)
            refine lv_iinc (v := x_155) (lv' := [(6, .int (x_155)), (7, .int (a2)), (0, .ref x), (1, .int (a1)), (2, .int (a2)), (3, .int (a3)), (4, .int (a4)), (5, .int (a5))]) X.1 X.2.1 dX12_feed_108 hl (k := 1) rfl (by rw [ex_155]; rfl) (by decide) rfl (fun ls hl => ?_)
            refine lv_goto (tgt := 20) X.1 X.2.1 dX12_feed_111 (by decide) ?_
            have pz_157 : (pI S_152 1228 x).toInt = (v_19.toInt + 1) := (congrArg Int32.toInt h_154).trans z_151
            have t_158 : At S_152 x 12 := tAt_sI eS_152 t_148
            exact ih_L_13 _ (by omega) _ _ _ _ (x_155) (x_155.toInt) rfl hw rfl (by omega) t_158 hO_153 (by omega) (lv_sub hl [0, 2, 3, 4, 5, 6, 7] rfl)
        · have z_b_159 := trivial
          have k_160 : i6_14_z < 4 := z_nle ti_4 hz_i6_14 c_29
          refine lv_iload_n X.1 X.2.1 dX12_feed_33 rfl (lv_at hl 2 rfl) ?_
          refine lv_goto (tgt := 73) X.1 X.2.1 dX12_feed_34 (by decide) ?_
          refine lv_istore (lv' := [(7, .int (a1)), (6, .int (i6_14)), (0, .ref x), (1, .int (a1)), (2, .int (a2)), (3, .int (a3)), (4, .int (a4)), (5, .int (a5))]) X.1 X.2.1 dX12_feed_73 hl (by decide) rfl (fun ls hl => ?_)
          refine lv_aload_n X.1 X.2.1 dX12_feed_75 rfl (lv_at hl 2 rfl) ?_
          obtain ⟨q_161, h_162, h_163, h_164⟩ := gQ_12_1227 hO_T_15.1 ha_x_L_16
          refine r_getR (g := 1227) X hw ha_x_L_16 rfl 27 h_162 (by decide) rfl inn_X12_feed_12 (by decide) (X.2.2.2.1 (.fieldLink RX12 82 "SilkMillModel" "tape" "[B") (by decide +kernel)) rfl (gv_1227 _ _) dX12_feed_76 ?_
          refine lv_aload_n X.1 X.2.1 dX12_feed_79 rfl (lv_at hl 2 rfl) ?_
          refine r_getI (g := 1228) (x := v_19) X hw ha_x_L_16 rfl 28 ev_19 (by decide) rfl inn_X12_feed_12 (by decide) (X.2.2.2.1 (.fieldLink RX12 211 "SilkMillModel" "taped" "I") (by decide +kernel)) rfl (gv_1228 _ _) dX12_feed_80 ?_
          refine lv_iload X.1 X.2.1 dX12_feed_83 (lv_at hl 0 rfl) ?_
          refine lv_bipush (v := 24) X.1 X.2.1 dX12_feed_85 (by decide) ?_
          refine lv_bipush (v := 8) X.1 X.2.1 dX12_feed_87 (by decide) ?_
          refine lv_iload X.1 X.2.1 dX12_feed_89 (lv_at hl 1 rfl) ?_
          refine lv_iconst (v := 4) X.1 X.2.1 dX12_feed_91 (by decide) ?_
          refine lv_irem X.1 X.2.1 dX12_feed_92 (by decide) ?_
          refine lv_topi (fun v_165 ev_165 => ?_)
          have z_166 : v_165.toInt = i6_14_z % 4 := z_rem ev_165 hz_i6_14 ti_4 (by omega) (by omega)
          have z_167 : 0 ≤ v_165.toInt ∧ v_165.toInt < 4 := by rw [z_166]; exact ⟨Int.emod_nonneg _ (by omega), Int.emod_lt_of_pos _ (by omega)⟩
          refine lv_imul X.1 X.2.1 dX12_feed_93 ?_
          refine lv_topi (fun v_168 ev_168 => ?_)
          have z_169 : v_168.toInt = 8 * (i6_14_z % 4) := z_mul ev_168 ti_8 z_166 (by omega) (by omega)
          refine lv_isub X.1 X.2.1 dX12_feed_94 ?_
          refine lv_topi (fun v_170 ev_170 => ?_)
          have z_171 : v_170.toInt = 24 - (8 * (i6_14_z % 4)) := z_sub ev_170 ti_24 z_169 (by omega) (by omega)
          refine lv_ishr X.1 X.2.1 dX12_feed_95 ?_
          refine lv_topi (fun v_172 ev_172 => ?_)
          have rg_173 := And.intro (z_lo v_172) (z_hi v_172)
          refine lv_i2b X.1 X.2.1 dX12_feed_96 rfl ?_
          refine lv_topi (fun v_174 ev_174 => ?_)
          have rg_175 := And.intro (z_lo v_174) (z_hi v_174)
          refine r_bast X hw h_163 rfl (by rw [h_164]; exact z_ix rfl (by omega) (by omega)) dX12_feed_97 (fun H locs hw => ?_)
          obtain ⟨S_176, eS_176⟩ : ∃ T, T = sA T_15 q_161 (upd (pA T_15 q_161) (Int32.toNatClampNeg (v_19)) (vp_nar .byte (v_174))) := ⟨_, rfl⟩
          rw [← eS_176] at hw
          have hO_177 : Ok MT S S_176 := hO_T_15.sA eS_176 h_163 (by decide +kernel) (uA_753 hO_T_15.1 h_163 (nar_b _).1 (nar_b _).2)
          refine lv_aload_n X.1 X.2.1 dX12_feed_98 rfl (lv_at hl 2 rfl) ?_
          refine lv_dup X.1 X.2.1 dX12_feed_99 rfl ?_
          have t_178 : At S_176 x 12 := tAt_sA eS_176 ha_x_L_16
          have t_179 : pI S_176 1228 x = v_19 := tI_sA eS_176 ev_19
          refine r_getI (g := 1228) (x := v_19) X hw t_178 rfl 28 t_179 (by decide) rfl inn_X12_feed_12 (by decide) (X.2.2.2.1 (.fieldLink RX12 211 "SilkMillModel" "taped" "I") (by decide +kernel)) rfl (gv_1228 _ _) dX12_feed_100 ?_
          refine lv_iconst (v := 1) X.1 X.2.1 dX12_feed_103 (by decide) ?_
          refine lv_iadd X.1 X.2.1 dX12_feed_104 ?_
          refine lv_topi (fun v_180 ev_180 => ?_)
          have z_181 : v_180.toInt = v_19.toInt + 1 := z_add ev_180 rfl ti_1 (by omega) (by omega)
          refine r_putI (v := v_180) X hw t_178 rfl 28 1228 tyX12 (by decide) rfl inn_X12_feed_12 tyX12_ok nmX12 (by decide) (X.2.2.2.1 (.fieldLink RX12 211 "SilkMillModel" "taped" "I") (by decide +kernel)) rfl (Or.inl rfl) rfl rfl (Nat.le_of_ble_eq_true rfl) (st_1228 _ _) dX12_feed_105 (fun H locs hw => ?_)
          obtain ⟨S_182, eS_182⟩ : ∃ T, T = sI S_176 1228 x (v_180) := ⟨_, rfl⟩
          rw [← eS_182] at hw
          have hO_183 : Ok MT S S_182 := hO_177.sI eS_182 (by decide +kernel) (uI_12_1228 hO_177.1 t_178 (by omega) (by omega))
          have h_184 : pI S_182 1228 x = v_180 := tI_sIs eS_182
          obtain ⟨x_185, ex_185⟩ : ∃ y : Int32, y = i6_14 + 1 := ⟨_, rfl⟩
          have z_186 : x_185.toInt = i6_14_z + 1 := z_add ex_185 hz_i6_14 ti_1 (by omega) (by omega)
          refine lv_iinc (v := x_185) (lv' := [(6, .int (x_185)), (7, .int (a1)), (0, .ref x), (1, .int (a1)), (2, .int (a2)), (3, .int (a3)), (4, .int (a4)), (5, .int (a5))]) X.1 X.2.1 dX12_feed_108 hl (k := 1) rfl (by rw [ex_185]; rfl) (by decide) rfl (fun ls hl => ?_)
          refine lv_goto (tgt := 20) X.1 X.2.1 dX12_feed_111 (by decide) ?_
          have pz_187 : (pI S_182 1228 x).toInt = (v_19.toInt + 1) := (congrArg Int32.toInt h_184).trans z_181
          have t_188 : At S_182 x 12 := tAt_sI eS_182 t_178
          exact ih_L_13 _ (by omega) _ _ _ _ (x_185) (x_185.toInt) rfl hw rfl (by omega) t_188 hO_183 (by omega) (lv_sub hl [0, 2, 3, 4, 5, 6, 7] rfl)
    have pz_189 : (pI S_5 1228 x).toInt = v_1.toInt := (congrArg Int32.toInt t_9).trans rfl
    exact L_13 _ _ _ _ _ (0) (0) rfl hw ti_0 (by omega) t_8 hO_6 (by omega) (lv_sub hl [0, 1, 2, 3, 4, 5, 6] rfl)
  · have z_b_190 := trivial
    have k_191 : v_1.toInt > 380 := z_nle rfl ti_380 c_10
    refine lv_iconst (v := (-1)) X.1 X.2.1 dX12_feed_15 (by decide) ?_
    have pz_192 : (pI S_5 1228 x).toInt = v_1.toInt := (congrArg Int32.toInt t_9).trans rfl
    rw [hQQ]
    exact ret_i X hw hr hlocks (Nat.le_of_ble_eq_true rfl) (Nat.le_of_ble_eq_true rfl) ⟨hO_6, ⟨z_lo _, z_hi _, by have hzr := ti_m1; omega⟩⟩ dX12_feed_16
set_option maxHeartbeats 4000000 in
set_option maxRecDepth 100000 in
theorem k_X12_end (l : Launch) (G : va_G) (cy : Nat → ClassId) (κ : Nat → Nat) (S : PS) (sz : Nat) (x : Nat) (a1 : Int32) (a1_z : Int) (hG : GX S) (ha_x : At S x 12) (hz_a1 : a1.toInt = a1_z) : Ci l yX12_end wsX12_end ({ frames := 2, cells := 0, slots := 0, locals := 96 }) G cy κ S sz [.ref x, .int (a1)] (fun (r : Int32) (S9 : PS) => Ok MEn S S9 ∧ (-2147483648 ≤ r.toInt ∧ r.toInt ≤ 2147483647 ∧ ((0 ≤ a1_z ∧ a1_z ≤ (pI S 1228 x).toInt ∧ r.toInt = a1_z ∧ (pI S9 1228 x).toInt = a1_z) ∨ (¬ (0 ≤ a1_z ∧ a1_z ≤ (pI S 1228 x).toInt) ∧ r.toInt = -1 ∧ (pI S9 1228 x).toInt = (pI S 1228 x).toInt)))) := by
  refine ent_m (cc := cX12_end) (maxL := 2) (ret := (some .int)) (by decide) rfl (Nat.le_of_ble_eq_true rfl) ?_
  intro p e s m below meth c ls X hr hlocks hin hw hl hsz
  subst hsz
  have X : Cx p c cX12_end 2 s [.ref x, .int (a1)].toArray wsX12_end RX12 m G cy κ (AS S s.heap.size) := X
  have hl : lv_has ls 2 [(0, .ref x), (1, .int (a1))] := hl
  have rg_a1 : (-2147483648) ≤ a1_z ∧ a1_z ≤ 2147483647 := by rw [← hz_a1]; exact ⟨z_lo _, z_hi _⟩
  have hO : Ok MEn S S := Ok.rf hG
  obtain ⟨v_1, ev_1⟩ : ∃ v, pI S 1228 x = v := ⟨_, rfl⟩
  have rg_2 := gI_12_1228 hO.1 ha_x; rw [ev_1] at rg_2
  have pz_3 : (pI S 1228 x).toInt = v_1.toInt := by rw [ev_1]
  have pz_4 : (pI S 1228 x).toInt = v_1.toInt := (congrArg Int32.toInt ev_1).trans rfl
  refine lv_aload_n X.1 X.2.1 dX12_end_0 rfl (lv_at hl 0 rfl) ?_
  refine lv_iconst (v := 0) X.1 X.2.1 dX12_end_1 (by decide) ?_
  refine r_putI (v := 0) X hw ha_x rfl 0 1200 tyX12 (by decide) rfl inn_X12_end_12 tyX12_ok nmX12 (by decide) (X.2.2.2.1 (.fieldLink RX12 161 "SilkMillModel" "thrown" "I") (by decide +kernel)) rfl (Or.inl rfl) rfl rfl (Nat.le_of_ble_eq_true rfl) (st_1200 _ _) dX12_end_2 (fun H locs hw => ?_)
  obtain ⟨S_5, eS_5⟩ : ∃ T, T = sI S 1200 x (0) := ⟨_, rfl⟩
  rw [← eS_5] at hw
  have hO_6 : Ok MEn S S_5 := hO.sI eS_5 (by decide +kernel) (uI_12_1200 hO.1 ha_x)
  have h_7 : pI S_5 1200 x = 0 := tI_sIs eS_5
  refine lv_iload_n X.1 X.2.1 dX12_end_5 rfl (lv_at hl 1 rfl) ?_
  refine lv_iconst (v := 0) X.1 X.2.1 dX12_end_6 (by decide) ?_
  refine lv_aload_n X.1 X.2.1 dX12_end_7 rfl (lv_at hl 0 rfl) ?_
  have t_8 : At S_5 x 12 := tAt_sI eS_5 ha_x
  have t_9 : pI S_5 1228 x = v_1 := tI_sI eS_5 rfl ev_1
  refine r_getI (g := 1228) (x := v_1) X hw t_8 rfl 28 t_9 (by decide) rfl inn_X12_end_12 (by decide) (X.2.2.2.1 (.fieldLink RX12 211 "SilkMillModel" "taped" "I") (by decide +kernel)) rfl (gv_1228 _ _) dX12_end_8 ?_
  refine k_i (rm := { frames := 1, cells := 0, slots := 0, locals := 48 }) (av := [.int (a1), .int 0, .int (v_1)]) X hw (va_runS (As := [.int (a1), .int 0, .int (v_1)]) (rest := []) (cfix X) (k_X12_within l G cy κ S_5 _ (a1) (a1_z) (0) (0) (v_1) (v_1.toInt) hO_6.1 hz_a1 ti_0 rfl) (cwS 3 X.2.2.2.1 gX12_end_X12_within rfl rfl rfl (by decide +kernel) ⟨Nat.le_of_ble_eq_true rfl, Nat.le_of_ble_eq_true rfl⟩) (pre_S X hw _) rfl rfl hl.1 rfl (lv_room (Nat.le_of_ble_eq_true rfl)) dX12_end_11 ⟨Nat.le_of_ble_eq_true rfl, Nat.le_of_ble_eq_true rfl⟩) 0 0 (Nat.le_of_ble_eq_true rfl) (Nat.le_of_ble_eq_true rfl) (fun rr_10 S_11 H locs hp hw hfr hnw => ?_)
  obtain ⟨e2, hp⟩ := hp
  subst e2
  rcases hp with ⟨f_12, er_13⟩ | ⟨f_12, er_13⟩ <;> subst er_13
  · have z_b_14 := trivial
    refine lv_if_ne (tgt := 19) X.1 X.2.1 dX12_end_14 (by decide) (fun c_15 => ?_) (fun c_15 => absurd c_15 (by decide))
    refine lv_aload_n X.1 X.2.1 dX12_end_19 rfl (lv_at hl 0 rfl) ?_
    refine lv_iload_n X.1 X.2.1 dX12_end_20 rfl (lv_at hl 1 rfl) ?_
    refine r_putI (v := a1) X hw t_8 rfl 28 1228 tyX12 (by decide) rfl inn_X12_end_12 tyX12_ok nmX12 (by decide) (X.2.2.2.1 (.fieldLink RX12 211 "SilkMillModel" "taped" "I") (by decide +kernel)) rfl (Or.inl rfl) rfl rfl (Nat.le_of_ble_eq_true rfl) (st_1228 _ _) dX12_end_21 (fun H locs hw => ?_)
    obtain ⟨S_16, eS_16⟩ : ∃ T, T = sI S_5 1228 x (a1) := ⟨_, rfl⟩
    rw [← eS_16] at hw
    have hO_17 : Ok MEn S S_16 := hO_6.sI eS_16 (by decide +kernel) (uI_12_1228 hO_6.1 t_8 (by omega) (by omega))
    have h_18 : pI S_16 1228 x = a1 := tI_sIs eS_16
    refine lv_iload_n X.1 X.2.1 dX12_end_24 rfl (lv_at hl 1 rfl) ?_
    have pz_19 : (pI S_16 1228 x).toInt = a1_z := (congrArg Int32.toInt h_18).trans hz_a1
    exact ret_i X hw hr hlocks (Nat.le_of_ble_eq_true rfl) (Nat.le_of_ble_eq_true rfl) ⟨hO_17, ⟨z_lo _, z_hi _, by have hzr := hz_a1; omega⟩⟩ dX12_end_25
  · have z_b_20 := trivial
    refine lv_if_ne (tgt := 19) X.1 X.2.1 dX12_end_14 (by decide) (fun c_21 => absurd c_21 (by decide)) (fun c_21 => ?_)
    refine lv_iconst (v := (-1)) X.1 X.2.1 dX12_end_17 (by decide) ?_
    have pz_22 : (pI S_5 1228 x).toInt = v_1.toInt := (congrArg Int32.toInt t_9).trans rfl
    exact ret_i X hw hr hlocks (Nat.le_of_ble_eq_true rfl) (Nat.le_of_ble_eq_true rfl) ⟨hO_6, ⟨z_lo _, z_hi _, by have hzr := ti_m1; omega⟩⟩ dX12_end_18
set_option maxHeartbeats 4000000 in
set_option maxRecDepth 100000 in
theorem k_X12_byteAt (l : Launch) (G : va_G) (cy : Nat → ClassId) (κ : Nat → Nat) (S : PS) (sz : Nat) (x : Nat) (a1 : Int32) (a1_z : Int) (hG : GX S) (ha_x : At S x 12) (hz_a1 : a1.toInt = a1_z) (hp_0 : 0 ≤ a1_z) : Ci l yX12_byteAt wsX12_byteAt ({ frames := 1, cells := 0, slots := 0, locals := 48 }) G cy κ S sz [.ref x, .int (a1)] (fun (r : Int32) (S9 : PS) => S = S9 ∧ (0 ≤ r.toInt ∧ r.toInt ≤ 255 ∧ (r.toInt ≠ 0 → a1_z < (pI S 1228 x).toInt))) := by
  refine ent_m (cc := cX12_byteAt) (maxL := 2) (ret := (some .int)) (by decide) rfl (Nat.le_of_ble_eq_true rfl) ?_
  intro p e s m below meth c ls X hr hlocks hin hw hl hsz
  subst hsz
  have X : Cx p c cX12_byteAt 2 s [.ref x, .int (a1)].toArray wsX12_byteAt RX12 m G cy κ (AS S s.heap.size) := X
  have hl : lv_has ls 2 [(0, .ref x), (1, .int (a1))] := hl
  have rg_a1 : (-2147483648) ≤ a1_z ∧ a1_z ≤ 2147483647 := by rw [← hz_a1]; exact ⟨z_lo _, z_hi _⟩
  refine lv_iload_n X.1 X.2.1 dX12_byteAt_0 rfl (lv_at hl 1 rfl) ?_
  refine lv_aload_n X.1 X.2.1 dX12_byteAt_1 rfl (lv_at hl 0 rfl) ?_
  obtain ⟨v_1, ev_1⟩ : ∃ v, pI S 1228 x = v := ⟨_, rfl⟩
  have rg_2 := gI_12_1228 hG ha_x; rw [ev_1] at rg_2
  have pz_3 : (pI S 1228 x).toInt = v_1.toInt := by rw [ev_1]
  refine r_getI (g := 1228) (x := v_1) X hw ha_x rfl 28 ev_1 (by decide) rfl inn_X12_byteAt_12 (by decide) (X.2.2.2.1 (.fieldLink RX12 211 "SilkMillModel" "taped" "I") (by decide +kernel)) rfl (gv_1228 _ _) dX12_byteAt_2 ?_
  refine lv_icmp_ge (tgt := 21) X.1 X.2.1 dX12_byteAt_5 (by decide) (fun c_4 => ?_) (fun c_4 => ?_)
  · have z_b_5 := trivial
    have k_6 : a1_z ≥ v_1.toInt := z_le rfl hz_a1 c_4
    refine lv_iconst (v := 0) X.1 X.2.1 dX12_byteAt_21 (by decide) ?_
    exact ret_i X hw hr hlocks (Nat.le_of_ble_eq_true rfl) (Nat.le_of_ble_eq_true rfl) ⟨rfl, ⟨by have hzr := ti_0; omega, by have hzr := ti_0; omega, by have hzr := ti_0; omega⟩⟩ dX12_byteAt_22
  · have z_b_7 := trivial
    have k_8 : a1_z < v_1.toInt := z_nle rfl hz_a1 c_4
    refine lv_aload_n X.1 X.2.1 dX12_byteAt_8 rfl (lv_at hl 0 rfl) ?_
    obtain ⟨q_9, h_10, h_11, h_12⟩ := gQ_12_1227 hG ha_x
    refine r_getR (g := 1227) X hw ha_x rfl 27 h_10 (by decide) rfl inn_X12_byteAt_12 (by decide) (X.2.2.2.1 (.fieldLink RX12 82 "SilkMillModel" "tape" "[B") (by decide +kernel)) rfl (gv_1227 _ _) dX12_byteAt_9 ?_
    refine lv_iload_n X.1 X.2.1 dX12_byteAt_12 rfl (lv_at hl 1 rfl) ?_
    refine r_bald X hw h_11 rfl (by rw [h_12]; exact z_ix hz_a1 (by omega) (by omega)) dX12_byteAt_13 ?_
    refine lv_topi (fun v_13 ev_13 => ?_)
    have z_14 := gE_753 hG h_11 (Int32.toNatClampNeg (a1)); rw [← ev_13] at z_14
    have ev_13 := ev_13.symm
    refine lv_sipush (v := 255) X.1 X.2.1 dX12_byteAt_14 (by decide) ?_
    refine lv_iand X.1 X.2.1 dX12_byteAt_17 ?_
    refine lv_topi (fun v_15 ev_15 => ?_)
    have z_16 : 0 ≤ v_15.toInt ∧ v_15.toInt ≤ 255 := z_and255 ev_15
    refine lv_goto (tgt := 22) X.1 X.2.1 dX12_byteAt_18 (by decide) ?_
    exact ret_i X hw hr hlocks (Nat.le_of_ble_eq_true rfl) (Nat.le_of_ble_eq_true rfl) ⟨rfl, ⟨by omega, by omega, by omega⟩⟩ dX12_byteAt_22
set_option maxHeartbeats 4000000 in
set_option maxRecDepth 100000 in
theorem k_X12_token (l : Launch) (G : va_G) (cy : Nat → ClassId) (κ : Nat → Nat) (S : PS) (sz : Nat) (x : Nat) (hG : GX S) (ha_x : At S x 12) : Cv l yX12_token wsX12_token ({ frames := 2, cells := 0, slots := 0, locals := 96 }) G cy κ S sz [.ref x] (fun (S9 : PS) => Ok MK S S9 ∧ (True)) := by
  refine ent_m (cc := cX12_token) (maxL := 2) (ret := none) (by decide) rfl (Nat.le_of_ble_eq_true rfl) ?_
  intro p e s m below meth c ls X hr hlocks hin hw hl hsz
  subst hsz
  have X : Cx p c cX12_token 2 s [.ref x].toArray wsX12_token RX12 m G cy κ (AS S s.heap.size) := X
  have hl : lv_has ls 2 [(0, .ref x)] := hl
  have hO : Ok MK S S := Ok.rf hG
  generalize hQQ : MQ below _ _ _ _ _ _ = QQ
  replace hQQ := hQQ.symm
  refine lv_aload_n X.1 X.2.1 dX12_token_0 rfl (lv_at hl 0 rfl) ?_
  refine lv_aload_n X.1 X.2.1 dX12_token_1 rfl (lv_at hl 0 rfl) ?_
  obtain ⟨v_1, ev_1⟩ : ∃ v, pI S 1233 x = v := ⟨_, rfl⟩
  have rg_2 := gI_12_1233 hO.1 ha_x; rw [ev_1] at rg_2
  have pz_3 : (pI S 1233 x).toInt = v_1.toInt := by rw [ev_1]
  refine r_getI (g := 1233) (x := v_1) X hw ha_x rfl 33 ev_1 (by decide) rfl inn_X12_token_12 (by decide) (X.2.2.2.1 (.fieldLink RX12 214 "SilkMillModel" "to" "I") (by decide +kernel)) rfl (gv_1233 _ _) dX12_token_2 ?_
  refine r_putI (v := v_1) X hw ha_x rfl 32 1232 tyX12 (by decide) rfl inn_X12_token_12 tyX12_ok nmX12 (by decide) (X.2.2.2.1 (.fieldLink RX12 217 "SilkMillModel" "from" "I") (by decide +kernel)) rfl (Or.inl rfl) rfl rfl (Nat.le_of_ble_eq_true rfl) (st_1232 _ _) dX12_token_5 (fun H locs hw => ?_)
  obtain ⟨S_4, eS_4⟩ : ∃ T, T = sI S 1232 x (v_1) := ⟨_, rfl⟩
  rw [← eS_4] at hw
  have hO_5 : Ok MK S S_4 := hO.sI eS_4 (by decide +kernel) (uI_12_1232 hO.1 ha_x (by omega) (by omega))
  have h_6 : pI S_4 1232 x = v_1 := tI_sIs eS_4
  obtain ⟨v_10, ev_10⟩ : ∃ v, pI S_4 1228 x = v := ⟨_, rfl⟩
  have t_12 : At S_4 x 12 := tAt_sI eS_4 ha_x
  have rg_11 := gI_12_1228 hO_5.1 t_12; rw [ev_10] at rg_11
  have pz_13 : (pI S_4 1228 x).toInt = v_10.toInt := by rw [ev_10]
  have L_7 : ∀ (n : Nat) (T_8 : PS) (H : Heap) (locs : List Loc) (ls : Array Slot) , ((400 - (pI T_8 1232 x).toInt).toNat = n) → (Wd G cy (AS S s.heap.size) s.heap T_8 H locs) → (At T_8 x 12) → (Ok MK S T_8) → (pI T_8 1228 x = v_10) → (lv_has ls 2 [(0, .ref x)]) → W p l e ({ frames := 2, cells := 0, slots := 0, locals := 96 }) s m [.ref x].toArray below meth c H locs 0 0 QQ (F0 m 8 ls []) := by
    intro n
    induction n using Nat.strongRecOn with
    | ind n ih_L_7 =>
    intro T_8 H locs ls  hn hw ha_x_L_9 hO_T_8 ik_14 hl
    obtain ⟨v_15, ev_15⟩ : ∃ v, pI T_8 1232 x = v := ⟨_, rfl⟩
    have rg_16 := gI_12_1232 hO_T_8.1 ha_x_L_9; rw [ev_15] at rg_16
    have pz_17 : (pI T_8 1232 x).toInt = v_15.toInt := by rw [ev_15]
    have pz_18 : (pI T_8 1232 x).toInt = v_15.toInt := (congrArg Int32.toInt ev_15).trans rfl
    have pz_19 : (pI T_8 1228 x).toInt = v_10.toInt := (congrArg Int32.toInt ik_14).trans rfl
    refine lv_aload_n X.1 X.2.1 dX12_token_8 rfl (lv_at hl 0 rfl) ?_
    refine lv_aload_n X.1 X.2.1 dX12_token_9 rfl (lv_at hl 0 rfl) ?_
    refine r_getI (g := 1232) (x := v_15) X hw ha_x_L_9 rfl 32 ev_15 (by decide) rfl inn_X12_token_12 (by decide) (X.2.2.2.1 (.fieldLink RX12 217 "SilkMillModel" "from" "I") (by decide +kernel)) rfl (gv_1232 _ _) dX12_token_10 ?_
    refine k_i (rm := { frames := 1, cells := 0, slots := 0, locals := 48 }) (av := [.ref x, .int (v_15)]) X hw (va_runV (As := [.int (v_15)]) (rest := []) (cfix X) (k_X12_byteAt l G cy κ T_8 _ x (v_15) (v_15.toInt) hO_T_8.1 ha_x_L_9 rfl (by first | assumption | omega)) (cwV 1 X.2.2.2.1 gX12_token_X12_byteAt rfl rfl rfl (by decide +kernel) ⟨Nat.le_of_ble_eq_true rfl, Nat.le_of_ble_eq_true rfl⟩) (pre_V X hw _ ha_x_L_9 rfl (by decide) rfl) rfl rfl hl.1 rfl (lv_room (Nat.le_of_ble_eq_true rfl)) dX12_token_13 ⟨Nat.le_of_ble_eq_true rfl, Nat.le_of_ble_eq_true rfl⟩) 0 0 (Nat.le_of_ble_eq_true rfl) (Nat.le_of_ble_eq_true rfl) (fun rr_20 S_21 H locs hp hw hfr hnw => ?_)
    obtain ⟨e2, hp⟩ := hp
    subst e2
    obtain ⟨f_22, f_23, f_24⟩ := hp
    refine lv_bipush (v := 32) X.1 X.2.1 dX12_token_16 (by decide) ?_
    refine lv_icmp_eq (tgt := 34) X.1 X.2.1 dX12_token_18 (by decide) (fun c_25 => ?_) (fun c_25 => ?_)
    · have z_b_26 := trivial
      have k_27 : rr_20.toInt = 32 := z_eq rfl ti_32 c_25
      refine lv_aload_n X.1 X.2.1 dX12_token_34 rfl (lv_at hl 0 rfl) ?_
      refine lv_dup X.1 X.2.1 dX12_token_35 rfl ?_
      refine r_getI (g := 1232) (x := v_15) X hw ha_x_L_9 rfl 32 ev_15 (by decide) rfl inn_X12_token_12 (by decide) (X.2.2.2.1 (.fieldLink RX12 217 "SilkMillModel" "from" "I") (by decide +kernel)) rfl (gv_1232 _ _) dX12_token_36 ?_
      refine lv_iconst (v := 1) X.1 X.2.1 dX12_token_39 (by decide) ?_
      refine lv_iadd X.1 X.2.1 dX12_token_40 ?_
      refine lv_topi (fun v_28 ev_28 => ?_)
      have z_29 : v_28.toInt = v_15.toInt + 1 := z_add ev_28 rfl ti_1 (by omega) (by omega)
      refine r_putI (v := v_28) X hw ha_x_L_9 rfl 32 1232 tyX12 (by decide) rfl inn_X12_token_12 tyX12_ok nmX12 (by decide) (X.2.2.2.1 (.fieldLink RX12 217 "SilkMillModel" "from" "I") (by decide +kernel)) rfl (Or.inl rfl) rfl rfl (Nat.le_of_ble_eq_true rfl) (st_1232 _ _) dX12_token_41 (fun H locs hw => ?_)
      obtain ⟨S_30, eS_30⟩ : ∃ T, T = sI T_8 1232 x (v_28) := ⟨_, rfl⟩
      rw [← eS_30] at hw
      have hO_31 : Ok MK S S_30 := hO_T_8.sI eS_30 (by decide +kernel) (uI_12_1232 hO_T_8.1 ha_x_L_9 (by omega) (by omega))
      have h_32 : pI S_30 1232 x = v_28 := tI_sIs eS_30
      refine lv_goto (tgt := 8) X.1 X.2.1 dX12_token_44 (by decide) ?_
      have pz_33 : (pI S_30 1232 x).toInt = (v_15.toInt + 1) := (congrArg Int32.toInt h_32).trans z_29
      have t_34 : At S_30 x 12 := tAt_sI eS_30 ha_x_L_9
      have t_35 : pI S_30 1228 x = v_10 := tI_sI eS_30 rfl ik_14
      exact ih_L_7 _ (by omega) _ _ _ _  rfl hw t_34 hO_31 t_35 (lv_sub hl [0] rfl)
    · have z_b_36 := trivial
      have k_37 : rr_20.toInt ≠ 32 := z_ne rfl ti_32 c_25
      refine lv_aload_n X.1 X.2.1 dX12_token_21 rfl (lv_at hl 0 rfl) ?_
      refine lv_aload_n X.1 X.2.1 dX12_token_22 rfl (lv_at hl 0 rfl) ?_
      refine r_getI (g := 1232) (x := v_15) X hw ha_x_L_9 rfl 32 ev_15 (by decide) rfl inn_X12_token_12 (by decide) (X.2.2.2.1 (.fieldLink RX12 217 "SilkMillModel" "from" "I") (by decide +kernel)) rfl (gv_1232 _ _) dX12_token_23 ?_
      refine k_i (rm := { frames := 1, cells := 0, slots := 0, locals := 48 }) (av := [.ref x, .int (v_15)]) X hw (va_runV (As := [.int (v_15)]) (rest := []) (cfix X) (k_X12_byteAt l G cy κ T_8 _ x (v_15) (v_15.toInt) hO_T_8.1 ha_x_L_9 rfl (by first | assumption | omega)) (cwV 1 X.2.2.2.1 gX12_token_X12_byteAt rfl rfl rfl (by decide +kernel) ⟨Nat.le_of_ble_eq_true rfl, Nat.le_of_ble_eq_true rfl⟩) (pre_V X hw _ ha_x_L_9 rfl (by decide) rfl) rfl rfl hl.1 rfl (lv_room (Nat.le_of_ble_eq_true rfl)) dX12_token_26 ⟨Nat.le_of_ble_eq_true rfl, Nat.le_of_ble_eq_true rfl⟩) 0 0 (Nat.le_of_ble_eq_true rfl) (Nat.le_of_ble_eq_true rfl) (fun rr_38 S_39 H locs hp hw hfr hnw => ?_)
      obtain ⟨e2, hp⟩ := hp
      subst e2
      obtain ⟨f_40, f_41, f_42⟩ := hp
      refine lv_bipush (v := 10) X.1 X.2.1 dX12_token_29 (by decide) ?_
      refine lv_icmp_ne (tgt := 47) X.1 X.2.1 dX12_token_31 (by decide) (fun c_43 => ?_) (fun c_43 => ?_)
      · have z_b_44 := trivial
        have k_45 : rr_38.toInt ≠ 10 := z_ne rfl ti_10 c_43
        refine lv_aload_n X.1 X.2.1 dX12_token_47 rfl (lv_at hl 0 rfl) ?_
        refine lv_aload_n X.1 X.2.1 dX12_token_48 rfl (lv_at hl 0 rfl) ?_
        refine r_getI (g := 1232) (x := v_15) X hw ha_x_L_9 rfl 32 ev_15 (by decide) rfl inn_X12_token_12 (by decide) (X.2.2.2.1 (.fieldLink RX12 217 "SilkMillModel" "from" "I") (by decide +kernel)) rfl (gv_1232 _ _) dX12_token_49 ?_
        refine r_putI (v := v_15) X hw ha_x_L_9 rfl 33 1233 tyX12 (by decide) rfl inn_X12_token_12 tyX12_ok nmX12 (by decide) (X.2.2.2.1 (.fieldLink RX12 214 "SilkMillModel" "to" "I") (by decide +kernel)) rfl (Or.inl rfl) rfl rfl (Nat.le_of_ble_eq_true rfl) (st_1233 _ _) dX12_token_52 (fun H locs hw => ?_)
        obtain ⟨S_46, eS_46⟩ : ∃ T, T = sI T_8 1233 x (v_15) := ⟨_, rfl⟩
        rw [← eS_46] at hw
        have hO_47 : Ok MK S S_46 := hO_T_8.sI eS_46 (by decide +kernel) (uI_12_1233 hO_T_8.1 ha_x_L_9 (by omega) (by omega))
        have h_48 : pI S_46 1233 x = v_15 := tI_sIs eS_46
        refine lv_aload_n X.1 X.2.1 dX12_token_55 rfl (lv_at hl 0 rfl) ?_
        refine lv_aload_n X.1 X.2.1 dX12_token_56 rfl (lv_at hl 0 rfl) ?_
        have t_49 : At S_46 x 12 := tAt_sI eS_46 ha_x_L_9
        have t_50 : pI S_46 1232 x = v_15 := tI_sI eS_46 rfl ev_15
        refine r_getI (g := 1232) (x := v_15) X hw t_49 rfl 32 t_50 (by decide) rfl inn_X12_token_12 (by decide) (X.2.2.2.1 (.fieldLink RX12 217 "SilkMillModel" "from" "I") (by decide +kernel)) rfl (gv_1232 _ _) dX12_token_57 ?_
        refine k_i (rm := { frames := 1, cells := 0, slots := 0, locals := 48 }) (av := [.ref x, .int (v_15)]) X hw (va_runV (As := [.int (v_15)]) (rest := []) (cfix X) (k_X12_byteAt l G cy κ S_46 _ x (v_15) (v_15.toInt) hO_47.1 t_49 rfl (by first | assumption | omega)) (cwV 1 X.2.2.2.1 gX12_token_X12_byteAt rfl rfl rfl (by decide +kernel) ⟨Nat.le_of_ble_eq_true rfl, Nat.le_of_ble_eq_true rfl⟩) (pre_V X hw _ t_49 rfl (by decide) rfl) rfl rfl hl.1 rfl (lv_room (Nat.le_of_ble_eq_true rfl)) dX12_token_60 ⟨Nat.le_of_ble_eq_true rfl, Nat.le_of_ble_eq_true rfl⟩) 0 0 (Nat.le_of_ble_eq_true rfl) (Nat.le_of_ble_eq_true rfl) (fun rr_51 S_52 H locs hp hw hfr hnw => ?_)
        obtain ⟨e2, hp⟩ := hp
        subst e2
        obtain ⟨f_53, f_54, f_55⟩ := hp
        refine lv_istore_n (lv' := [(1, .int (rr_51)), (0, .ref x)]) X.1 X.2.1 dX12_token_63 rfl hl (by decide) rfl (fun ls hl => ?_)
        refine lv_aload_n X.1 X.2.1 dX12_token_64 rfl (lv_at hl 1 rfl) ?_
        refine r_getI (g := 1232) (x := v_15) X hw t_49 rfl 32 t_50 (by decide) rfl inn_X12_token_12 (by decide) (X.2.2.2.1 (.fieldLink RX12 217 "SilkMillModel" "from" "I") (by decide +kernel)) rfl (gv_1232 _ _) dX12_token_65 ?_
        refine lv_aload_n X.1 X.2.1 dX12_token_68 rfl (lv_at hl 1 rfl) ?_
        have t_56 : pI S_46 1228 x = v_10 := tI_sI eS_46 rfl ik_14
        refine r_getI (g := 1228) (x := v_10) X hw t_49 rfl 28 t_56 (by decide) rfl inn_X12_token_12 (by decide) (X.2.2.2.1 (.fieldLink RX12 211 "SilkMillModel" "taped" "I") (by decide +kernel)) rfl (gv_1228 _ _) dX12_token_69 ?_
        refine lv_icmp_lt (tgt := 83) X.1 X.2.1 dX12_token_72 (by decide) (fun c_57 => ?_) (fun c_57 => ?_)
        · have z_b_58 := trivial
          have k_59 : v_15.toInt < v_10.toInt := z_lt rfl rfl c_57
          refine lv_iload_n X.1 X.2.1 dX12_token_83 rfl (lv_at hl 0 rfl) ?_
          refine lv_bipush (v := 97) X.1 X.2.1 dX12_token_84 (by decide) ?_
          refine lv_bipush (v := 122) X.1 X.2.1 dX12_token_86 (by decide) ?_
          refine k_i (rm := { frames := 1, cells := 0, slots := 0, locals := 48 }) (av := [.int (rr_51), .int 97, .int 122]) X hw (va_runS (As := [.int (rr_51), .int 97, .int 122]) (rest := []) (cfix X) (k_X12_within l G cy κ S_46 _ (rr_51) (rr_51.toInt) (97) (97) (122) (122) hO_47.1 rfl ti_97 ti_122) (cwS 3 X.2.2.2.1 gX12_token_X12_within rfl rfl rfl (by decide +kernel) ⟨Nat.le_of_ble_eq_true rfl, Nat.le_of_ble_eq_true rfl⟩) (pre_S X hw _) rfl rfl hl.1 rfl (lv_room (Nat.le_of_ble_eq_true rfl)) dX12_token_88 ⟨Nat.le_of_ble_eq_true rfl, Nat.le_of_ble_eq_true rfl⟩) 0 0 (Nat.le_of_ble_eq_true rfl) (Nat.le_of_ble_eq_true rfl) (fun rr_60 S_61 H locs hp hw hfr hnw => ?_)
          obtain ⟨e2, hp⟩ := hp
          subst e2
          rcases hp with ⟨f_62, er_63⟩ | ⟨f_62, er_63⟩ <;> subst er_63
          · have z_b_64 := trivial
            refine lv_if_eq (tgt := 151) X.1 X.2.1 dX12_token_91 (by decide) (fun c_65 => absurd c_65 (by decide)) (fun c_65 => ?_)
            have L_66 : ∀ (n : Nat) (T_67 : PS) (H : Heap) (locs : List Loc) (ls : Array Slot) , ((400 - (pI T_67 1233 x).toInt).toNat = n) → (Wd G cy (AS S s.heap.size) s.heap T_67 H locs) → (At T_67 x 12) → (Ok MK S T_67) → (pI T_67 1228 x = v_10) → (lv_has ls 2 [(1, .int (rr_51)), (0, .ref x)]) → W p l e ({ frames := 2, cells := 0, slots := 0, locals := 96 }) s m [.ref x].toArray below meth c H locs 0 0 QQ (F0 m 94 ls []) := by
              intro n
              induction n using Nat.strongRecOn with
              | ind n ih_L_66 =>
              intro T_67 H locs ls  hn hw ha_x_L_68 hO_T_67 ik_69 hl
              obtain ⟨v_70, ev_70⟩ : ∃ v, pI T_67 1233 x = v := ⟨_, rfl⟩
              have rg_71 := gI_12_1233 hO_T_67.1 ha_x_L_68; rw [ev_70] at rg_71
              have pz_72 : (pI T_67 1233 x).toInt = v_70.toInt := by rw [ev_70]
              have pz_73 : (pI T_67 1233 x).toInt = v_70.toInt := (congrArg Int32.toInt ev_70).trans rfl
              have pz_74 : (pI T_67 1228 x).toInt = v_10.toInt := (congrArg Int32.toInt ik_69).trans rfl
              refine lv_aload_n X.1 X.2.1 dX12_token_94 rfl (lv_at hl 1 rfl) ?_
              refine lv_aload_n X.1 X.2.1 dX12_token_95 rfl (lv_at hl 1 rfl) ?_
              refine r_getI (g := 1233) (x := v_70) X hw ha_x_L_68 rfl 33 ev_70 (by decide) rfl inn_X12_token_12 (by decide) (X.2.2.2.1 (.fieldLink RX12 214 "SilkMillModel" "to" "I") (by decide +kernel)) rfl (gv_1233 _ _) dX12_token_96 ?_
              refine k_i (rm := { frames := 1, cells := 0, slots := 0, locals := 48 }) (av := [.ref x, .int (v_70)]) X hw (va_runV (As := [.int (v_70)]) (rest := []) (cfix X) (k_X12_byteAt l G cy κ T_67 _ x (v_70) (v_70.toInt) hO_T_67.1 ha_x_L_68 rfl (by first | assumption | omega)) (cwV 1 X.2.2.2.1 gX12_token_X12_byteAt rfl rfl rfl (by decide +kernel) ⟨Nat.le_of_ble_eq_true rfl, Nat.le_of_ble_eq_true rfl⟩) (pre_V X hw _ ha_x_L_68 rfl (by decide) rfl) rfl rfl hl.1 rfl (lv_room (Nat.le_of_ble_eq_true rfl)) dX12_token_99 ⟨Nat.le_of_ble_eq_true rfl, Nat.le_of_ble_eq_true rfl⟩) 0 0 (Nat.le_of_ble_eq_true rfl) (Nat.le_of_ble_eq_true rfl) (fun rr_75 S_76 H locs hp hw hfr hnw => ?_)
              obtain ⟨e2, hp⟩ := hp
              subst e2
              obtain ⟨f_77, f_78, f_79⟩ := hp
              refine lv_bipush (v := 97) X.1 X.2.1 dX12_token_102 (by decide) ?_
              refine lv_bipush (v := 122) X.1 X.2.1 dX12_token_104 (by decide) ?_
              refine k_i (rm := { frames := 1, cells := 0, slots := 0, locals := 48 }) (av := [.int (rr_75), .int 97, .int 122]) X hw (va_runS (As := [.int (rr_75), .int 97, .int 122]) (rest := []) (cfix X) (k_X12_within l G cy κ T_67 _ (rr_75) (rr_75.toInt) (97) (97) (122) (122) hO_T_67.1 rfl ti_97 ti_122) (cwS 3 X.2.2.2.1 gX12_token_X12_within rfl rfl rfl (by decide +kernel) ⟨Nat.le_of_ble_eq_true rfl, Nat.le_of_ble_eq_true rfl⟩) (pre_S X hw _) rfl rfl hl.1 rfl (lv_room (Nat.le_of_ble_eq_true rfl)) dX12_token_106 ⟨Nat.le_of_ble_eq_true rfl, Nat.le_of_ble_eq_true rfl⟩) 0 0 (Nat.le_of_ble_eq_true rfl) (Nat.le_of_ble_eq_true rfl) (fun rr_80 S_81 H locs hp hw hfr hnw => ?_)
              obtain ⟨e2, hp⟩ := hp
              subst e2
              rcases hp with ⟨f_82, er_83⟩ | ⟨f_82, er_83⟩ <;> subst er_83
              · have z_b_84 := trivial
                refine lv_if_eq (tgt := 125) X.1 X.2.1 dX12_token_109 (by decide) (fun c_85 => absurd c_85 (by decide)) (fun c_85 => ?_)
                refine lv_aload_n X.1 X.2.1 dX12_token_112 rfl (lv_at hl 1 rfl) ?_
                refine lv_dup X.1 X.2.1 dX12_token_113 rfl ?_
                refine r_getI (g := 1233) (x := v_70) X hw ha_x_L_68 rfl 33 ev_70 (by decide) rfl inn_X12_token_12 (by decide) (X.2.2.2.1 (.fieldLink RX12 214 "SilkMillModel" "to" "I") (by decide +kernel)) rfl (gv_1233 _ _) dX12_token_114 ?_
                refine lv_iconst (v := 1) X.1 X.2.1 dX12_token_117 (by decide) ?_
                refine lv_iadd X.1 X.2.1 dX12_token_118 ?_
                refine lv_topi (fun v_86 ev_86 => ?_)
                have z_87 : v_86.toInt = v_70.toInt + 1 := z_add ev_86 rfl ti_1 (by omega) (by omega)
                refine r_putI (v := v_86) X hw ha_x_L_68 rfl 33 1233 tyX12 (by decide) rfl inn_X12_token_12 tyX12_ok nmX12 (by decide) (X.2.2.2.1 (.fieldLink RX12 214 "SilkMillModel" "to" "I") (by decide +kernel)) rfl (Or.inl rfl) rfl rfl (Nat.le_of_ble_eq_true rfl) (st_1233 _ _) dX12_token_119 (fun H locs hw => ?_)
                obtain ⟨S_88, eS_88⟩ : ∃ T, T = sI T_67 1233 x (v_86) := ⟨_, rfl⟩
                rw [← eS_88] at hw
                have hO_89 : Ok MK S S_88 := hO_T_67.sI eS_88 (by decide +kernel) (uI_12_1233 hO_T_67.1 ha_x_L_68 (by omega) (by omega))
                have h_90 : pI S_88 1233 x = v_86 := tI_sIs eS_88
                refine lv_goto (tgt := 94) X.1 X.2.1 dX12_token_122 (by decide) ?_
                have pz_91 : (pI S_88 1233 x).toInt = (v_70.toInt + 1) := (congrArg Int32.toInt h_90).trans z_87
                have t_92 : At S_88 x 12 := tAt_sI eS_88 ha_x_L_68
                have t_93 : pI S_88 1228 x = v_10 := tI_sI eS_88 rfl ik_69
                exact ih_L_66 _ (by omega) _ _ _ _  rfl hw t_92 hO_89 t_93 (lv_sub hl [0, 1] rfl)
              · have z_b_94 := trivial
                refine lv_if_eq (tgt := 125) X.1 X.2.1 dX12_token_109 (by decide) (fun c_95 => ?_) (fun c_95 => absurd c_95 (by decide))
                refine lv_aload_n X.1 X.2.1 dX12_token_125 rfl (lv_at hl 1 rfl) ?_
                refine lv_aload_n X.1 X.2.1 dX12_token_126 rfl (lv_at hl 1 rfl) ?_
                refine r_getI (g := 1233) (x := v_70) X hw ha_x_L_68 rfl 33 ev_70 (by decide) rfl inn_X12_token_12 (by decide) (X.2.2.2.1 (.fieldLink RX12 214 "SilkMillModel" "to" "I") (by decide +kernel)) rfl (gv_1233 _ _) dX12_token_127 ?_
                refine lv_aload_n X.1 X.2.1 dX12_token_130 rfl (lv_at hl 1 rfl) ?_
                obtain ⟨v_96, ev_96⟩ : ∃ v, pI T_67 1232 x = v := ⟨_, rfl⟩
                have rg_97 := gI_12_1232 hO_T_67.1 ha_x_L_68; rw [ev_96] at rg_97
                have pz_98 : (pI T_67 1232 x).toInt = v_96.toInt := by rw [ev_96]
                refine r_getI (g := 1232) (x := v_96) X hw ha_x_L_68 rfl 32 ev_96 (by decide) rfl inn_X12_token_12 (by decide) (X.2.2.2.1 (.fieldLink RX12 217 "SilkMillModel" "from" "I") (by decide +kernel)) rfl (gv_1232 _ _) dX12_token_131 ?_
                refine lv_isub X.1 X.2.1 dX12_token_134 ?_
                refine lv_topi (fun v_99 ev_99 => ?_)
                have z_100 : v_99.toInt = v_70.toInt - v_96.toInt := z_sub ev_99 rfl rfl (by omega) (by omega)
                refine lv_bipush (v := 8) X.1 X.2.1 dX12_token_135 (by decide) ?_
                refine lv_icmp_le (tgt := 144) X.1 X.2.1 dX12_token_137 (by decide) (fun c_101 => ?_) (fun c_101 => ?_)
                · have z_b_102 := trivial
                  have k_103 : (v_70.toInt - v_96.toInt) ≤ 8 := z_le z_100 ti_8 c_101
                  refine lv_iconst (v := 1) X.1 X.2.1 dX12_token_144 (by decide) ?_
                  refine r_putI (v := 1) X hw ha_x_L_68 rfl 31 1231 tyX12 (by decide) rfl inn_X12_token_12 tyX12_ok nmX12 (by decide) (X.2.2.2.1 (.fieldLink RX12 223 "SilkMillModel" "kind" "I") (by decide +kernel)) rfl (Or.inl rfl) rfl rfl (Nat.le_of_ble_eq_true rfl) (st_1231 _ _) dX12_token_145 (fun H locs hw => ?_)
                  obtain ⟨S_104, eS_104⟩ : ∃ T, T = sI T_67 1231 x (1) := ⟨_, rfl⟩
                  rw [← eS_104] at hw
                  have hO_105 : Ok MK S S_104 := hO_T_67.sI eS_104 (by decide +kernel) (uI_12_1231 hO_T_67.1 ha_x_L_68)
                  have h_106 : pI S_104 1231 x = 1 := tI_sIs eS_104
                  refine lv_goto (tgt := 308) X.1 X.2.1 dX12_token_148 (by decide) ?_
                  rw [hQQ]
                  exact ret_v X hw hr hlocks (Nat.le_of_ble_eq_true rfl) (Nat.le_of_ble_eq_true rfl) ⟨hO_105, trivial⟩ dX12_token_308
                · have z_b_107 := trivial
                  have k_108 : (v_70.toInt - v_96.toInt) > 8 := z_nle z_100 ti_8 c_101
                  refine lv_iconst (v := 4) X.1 X.2.1 dX12_token_140 (by decide) ?_
                  refine lv_goto (tgt := 145) X.1 X.2.1 dX12_token_141 (by decide) ?_
                  refine r_putI (v := 4) X hw ha_x_L_68 rfl 31 1231 tyX12 (by decide) rfl inn_X12_token_12 tyX12_ok nmX12 (by decide) (X.2.2.2.1 (.fieldLink RX12 223 "SilkMillModel" "kind" "I") (by decide +kernel)) rfl (Or.inl rfl) rfl rfl (Nat.le_of_ble_eq_true rfl) (st_1231 _ _) dX12_token_145 (fun H locs hw => ?_)
                  obtain ⟨S_109, eS_109⟩ : ∃ T, T = sI T_67 1231 x (4) := ⟨_, rfl⟩
                  rw [← eS_109] at hw
                  have hO_110 : Ok MK S S_109 := hO_T_67.sI eS_109 (by decide +kernel) (uI_12_1231 hO_T_67.1 ha_x_L_68)
                  have h_111 : pI S_109 1231 x = 4 := tI_sIs eS_109
                  refine lv_goto (tgt := 308) X.1 X.2.1 dX12_token_148 (by decide) ?_
                  rw [hQQ]
                  exact ret_v X hw hr hlocks (Nat.le_of_ble_eq_true rfl) (Nat.le_of_ble_eq_true rfl) ⟨hO_110, trivial⟩ dX12_token_308
            have pz_112 : (pI S_46 1233 x).toInt = v_15.toInt := (congrArg Int32.toInt h_48).trans rfl
            exact L_66 _ _ _ _ _  rfl hw t_49 hO_47 t_56 (lv_sub hl [0, 1] rfl)
          · have z_b_113 := trivial
            refine lv_if_eq (tgt := 151) X.1 X.2.1 dX12_token_91 (by decide) (fun c_114 => ?_) (fun c_114 => absurd c_114 (by decide))
            refine lv_iload_n X.1 X.2.1 dX12_token_151 rfl (lv_at hl 0 rfl) ?_
            refine lv_bipush (v := 48) X.1 X.2.1 dX12_token_152 (by decide) ?_
            refine lv_bipush (v := 57) X.1 X.2.1 dX12_token_154 (by decide) ?_
            refine k_i (rm := { frames := 1, cells := 0, slots := 0, locals := 48 }) (av := [.int (rr_51), .int 48, .int 57]) X hw (va_runS (As := [.int (rr_51), .int 48, .int 57]) (rest := []) (cfix X) (k_X12_within l G cy κ S_46 _ (rr_51) (rr_51.toInt) (48) (48) (57) (57) hO_47.1 rfl ti_48 ti_57) (cwS 3 X.2.2.2.1 gX12_token_X12_within rfl rfl rfl (by decide +kernel) ⟨Nat.le_of_ble_eq_true rfl, Nat.le_of_ble_eq_true rfl⟩) (pre_S X hw _) rfl rfl hl.1 rfl (lv_room (Nat.le_of_ble_eq_true rfl)) dX12_token_156 ⟨Nat.le_of_ble_eq_true rfl, Nat.le_of_ble_eq_true rfl⟩) 0 0 (Nat.le_of_ble_eq_true rfl) (Nat.le_of_ble_eq_true rfl) (fun rr_115 S_116 H locs hp hw hfr hnw => ?_)
            obtain ⟨e2, hp⟩ := hp
            subst e2
            rcases hp with ⟨f_117, er_118⟩ | ⟨f_117, er_118⟩ <;> subst er_118
            · have z_b_119 := trivial
              refine lv_if_eq (tgt := 259) X.1 X.2.1 dX12_token_159 (by decide) (fun c_120 => absurd c_120 (by decide)) (fun c_120 => ?_)
              refine lv_aload_n X.1 X.2.1 dX12_token_162 rfl (lv_at hl 1 rfl) ?_
              refine lv_iconst (v := 0) X.1 X.2.1 dX12_token_163 (by decide) ?_
              refine r_putI (v := 0) X hw t_49 rfl 34 1234 tyX12 (by decide) rfl inn_X12_token_12 tyX12_ok nmX12 (by decide) (X.2.2.2.1 (.fieldLink RX12 226 "SilkMillModel" "value" "I") (by decide +kernel)) rfl (Or.inl rfl) rfl rfl (Nat.le_of_ble_eq_true rfl) (st_1234 _ _) dX12_token_164 (fun H locs hw => ?_)
              obtain ⟨S_121, eS_121⟩ : ∃ T, T = sI S_46 1234 x (0) := ⟨_, rfl⟩
              rw [← eS_121] at hw
              have hO_122 : Ok MK S S_121 := hO_47.sI eS_121 (by decide +kernel) (uI_12_1234 hO_47.1 t_49)
              have h_123 : pI S_121 1234 x = 0 := tI_sIs eS_121
              have t_127 : pI S_121 1228 x = v_10 := tI_sI eS_121 rfl t_56
              have L_124 : ∀ (n : Nat) (T_125 : PS) (H : Heap) (locs : List Loc) (ls : Array Slot) , ((400 - (pI T_125 1233 x).toInt).toNat = n) → (Wd G cy (AS S s.heap.size) s.heap T_125 H locs) → (At T_125 x 12) → (Ok MK S T_125) → (pI T_125 1228 x = v_10) → (lv_has ls 2 [(1, .int (rr_51)), (0, .ref x)]) → W p l e ({ frames := 2, cells := 0, slots := 0, locals := 96 }) s m [.ref x].toArray below meth c H locs 0 0 QQ (F0 m 167 ls []) := by
                intro n
                induction n using Nat.strongRecOn with
                | ind n ih_L_124 =>
                intro T_125 H locs ls  hn hw ha_x_L_126 hO_T_125 ik_128 hl
                obtain ⟨v_129, ev_129⟩ : ∃ v, pI T_125 1233 x = v := ⟨_, rfl⟩
                have rg_130 := gI_12_1233 hO_T_125.1 ha_x_L_126; rw [ev_129] at rg_130
                have pz_131 : (pI T_125 1233 x).toInt = v_129.toInt := by rw [ev_129]
                have pz_132 : (pI T_125 1233 x).toInt = v_129.toInt := (congrArg Int32.toInt ev_129).trans rfl
                have pz_133 : (pI T_125 1228 x).toInt = v_10.toInt := (congrArg Int32.toInt ik_128).trans rfl
                refine lv_aload_n X.1 X.2.1 dX12_token_167 rfl (lv_at hl 1 rfl) ?_
                refine lv_aload_n X.1 X.2.1 dX12_token_168 rfl (lv_at hl 1 rfl) ?_
                refine r_getI (g := 1233) (x := v_129) X hw ha_x_L_126 rfl 33 ev_129 (by decide) rfl inn_X12_token_12 (by decide) (X.2.2.2.1 (.fieldLink RX12 214 "SilkMillModel" "to" "I") (by decide +kernel)) rfl (gv_1233 _ _) dX12_token_169 ?_
                refine k_i (rm := { frames := 1, cells := 0, slots := 0, locals := 48 }) (av := [.ref x, .int (v_129)]) X hw (va_runV (As := [.int (v_129)]) (rest := []) (cfix X) (k_X12_byteAt l G cy κ T_125 _ x (v_129) (v_129.toInt) hO_T_125.1 ha_x_L_126 rfl (by first | assumption | omega)) (cwV 1 X.2.2.2.1 gX12_token_X12_byteAt rfl rfl rfl (by decide +kernel) ⟨Nat.le_of_ble_eq_true rfl, Nat.le_of_ble_eq_true rfl⟩) (pre_V X hw _ ha_x_L_126 rfl (by decide) rfl) rfl rfl hl.1 rfl (lv_room (Nat.le_of_ble_eq_true rfl)) dX12_token_172 ⟨Nat.le_of_ble_eq_true rfl, Nat.le_of_ble_eq_true rfl⟩) 0 0 (Nat.le_of_ble_eq_true rfl) (Nat.le_of_ble_eq_true rfl) (fun rr_134 S_135 H locs hp hw hfr hnw => ?_)
                obtain ⟨e2, hp⟩ := hp
                subst e2
                obtain ⟨f_136, f_137, f_138⟩ := hp
                refine lv_bipush (v := 48) X.1 X.2.1 dX12_token_175 (by decide) ?_
                refine lv_bipush (v := 57) X.1 X.2.1 dX12_token_177 (by decide) ?_
                refine k_i (rm := { frames := 1, cells := 0, slots := 0, locals := 48 }) (av := [.int (rr_134), .int 48, .int 57]) X hw (va_runS (As := [.int (rr_134), .int 48, .int 57]) (rest := []) (cfix X) (k_X12_within l G cy κ T_125 _ (rr_134) (rr_134.toInt) (48) (48) (57) (57) hO_T_125.1 rfl ti_48 ti_57) (cwS 3 X.2.2.2.1 gX12_token_X12_within rfl rfl rfl (by decide +kernel) ⟨Nat.le_of_ble_eq_true rfl, Nat.le_of_ble_eq_true rfl⟩) (pre_S X hw _) rfl rfl hl.1 rfl (lv_room (Nat.le_of_ble_eq_true rfl)) dX12_token_179 ⟨Nat.le_of_ble_eq_true rfl, Nat.le_of_ble_eq_true rfl⟩) 0 0 (Nat.le_of_ble_eq_true rfl) (Nat.le_of_ble_eq_true rfl) (fun rr_139 S_140 H locs hp hw hfr hnw => ?_)
                obtain ⟨e2, hp⟩ := hp
                subst e2
                rcases hp with ⟨f_141, er_142⟩ | ⟨f_141, er_142⟩ <;> subst er_142
                · have z_b_143 := trivial
                  refine lv_if_eq (tgt := 234) X.1 X.2.1 dX12_token_182 (by decide) (fun c_144 => absurd c_144 (by decide)) (fun c_144 => ?_)
                  refine lv_aload_n X.1 X.2.1 dX12_token_185 rfl (lv_at hl 1 rfl) ?_
                  refine r_getI (g := 1233) (x := v_129) X hw ha_x_L_126 rfl 33 ev_129 (by decide) rfl inn_X12_token_12 (by decide) (X.2.2.2.1 (.fieldLink RX12 214 "SilkMillModel" "to" "I") (by decide +kernel)) rfl (gv_1233 _ _) dX12_token_186 ?_
                  refine lv_aload_n X.1 X.2.1 dX12_token_189 rfl (lv_at hl 1 rfl) ?_
                  obtain ⟨v_145, ev_145⟩ : ∃ v, pI T_125 1232 x = v := ⟨_, rfl⟩
                  have rg_146 := gI_12_1232 hO_T_125.1 ha_x_L_126; rw [ev_145] at rg_146
                  have pz_147 : (pI T_125 1232 x).toInt = v_145.toInt := by rw [ev_145]
                  refine r_getI (g := 1232) (x := v_145) X hw ha_x_L_126 rfl 32 ev_145 (by decide) rfl inn_X12_token_12 (by decide) (X.2.2.2.1 (.fieldLink RX12 217 "SilkMillModel" "from" "I") (by decide +kernel)) rfl (gv_1232 _ _) dX12_token_190 ?_
                  refine lv_isub X.1 X.2.1 dX12_token_193 ?_
                  refine lv_topi (fun v_148 ev_148 => ?_)
                  have z_149 : v_148.toInt = v_129.toInt - v_145.toInt := z_sub ev_148 rfl rfl (by omega) (by omega)
                  refine lv_iconst (v := 4) X.1 X.2.1 dX12_token_194 (by decide) ?_
                  refine lv_icmp_ge (tgt := 221) X.1 X.2.1 dX12_token_195 (by decide) (fun c_150 => ?_) (fun c_150 => ?_)
                  · have z_b_151 := trivial
                    have k_152 : (v_129.toInt - v_145.toInt) ≥ 4 := z_le ti_4 z_149 c_150
                    refine lv_aload_n X.1 X.2.1 dX12_token_221 rfl (lv_at hl 1 rfl) ?_
                    refine lv_dup X.1 X.2.1 dX12_token_222 rfl ?_
                    refine r_getI (g := 1233) (x := v_129) X hw ha_x_L_126 rfl 33 ev_129 (by decide) rfl inn_X12_token_12 (by decide) (X.2.2.2.1 (.fieldLink RX12 214 "SilkMillModel" "to" "I") (by decide +kernel)) rfl (gv_1233 _ _) dX12_token_223 ?_
                    refine lv_iconst (v := 1) X.1 X.2.1 dX12_token_226 (by decide) ?_
                    refine lv_iadd X.1 X.2.1 dX12_token_227 ?_
                    refine lv_topi (fun v_153 ev_153 => ?_)
                    have z_154 : v_153.toInt = v_129.toInt + 1 := z_add ev_153 rfl ti_1 (by omega) (by omega)
                    refine r_putI (v := v_153) X hw ha_x_L_126 rfl 33 1233 tyX12 (by decide) rfl inn_X12_token_12 tyX12_ok nmX12 (by decide) (X.2.2.2.1 (.fieldLink RX12 214 "SilkMillModel" "to" "I") (by decide +kernel)) rfl (Or.inl rfl) rfl rfl (Nat.le_of_ble_eq_true rfl) (st_1233 _ _) dX12_token_228 (fun H locs hw => ?_)
                    obtain ⟨S_155, eS_155⟩ : ∃ T, T = sI T_125 1233 x (v_153) := ⟨_, rfl⟩
                    rw [← eS_155] at hw
                    have hO_156 : Ok MK S S_155 := hO_T_125.sI eS_155 (by decide +kernel) (uI_12_1233 hO_T_125.1 ha_x_L_126 (by omega) (by omega))
                    have h_157 : pI S_155 1233 x = v_153 := tI_sIs eS_155
                    refine lv_goto (tgt := 167) X.1 X.2.1 dX12_token_231 (by decide) ?_
                    have pz_158 : (pI S_155 1233 x).toInt = (v_129.toInt + 1) := (congrArg Int32.toInt h_157).trans z_154
                    have t_159 : At S_155 x 12 := tAt_sI eS_155 ha_x_L_126
                    have t_160 : pI S_155 1228 x = v_10 := tI_sI eS_155 rfl ik_128
                    exact ih_L_124 _ (by omega) _ _ _ _  rfl hw t_159 hO_156 t_160 (lv_sub hl [0, 1] rfl)
                  · have z_b_161 := trivial
                    have k_162 : (v_129.toInt - v_145.toInt) < 4 := z_nle ti_4 z_149 c_150
                    refine lv_aload_n X.1 X.2.1 dX12_token_198 rfl (lv_at hl 1 rfl) ?_
                    refine lv_bipush (v := 10) X.1 X.2.1 dX12_token_199 (by decide) ?_
                    refine lv_aload_n X.1 X.2.1 dX12_token_201 rfl (lv_at hl 1 rfl) ?_
                    obtain ⟨v_163, ev_163⟩ : ∃ v, pI T_125 1234 x = v := ⟨_, rfl⟩
                    have rg_165 := And.intro (z_lo v_163) (z_hi v_163)
                    have pz_166 : (pI T_125 1234 x).toInt = v_163.toInt := by rw [ev_163]
                    refine r_getI (g := 1234) (x := v_163) X hw ha_x_L_126 rfl 34 ev_163 (by decide) rfl inn_X12_token_12 (by decide) (X.2.2.2.1 (.fieldLink RX12 226 "SilkMillModel" "value" "I") (by decide +kernel)) rfl (gv_1234 _ _) dX12_token_202 ?_
                    refine lv_imul X.1 X.2.1 dX12_token_205 ?_
                    refine lv_topi (fun v_167 ev_167 => ?_)
                    have rg_168 := And.intro (z_lo v_167) (z_hi v_167)
                    refine lv_aload_n X.1 X.2.1 dX12_token_206 rfl (lv_at hl 1 rfl) ?_
                    refine lv_aload_n X.1 X.2.1 dX12_token_207 rfl (lv_at hl 1 rfl) ?_
                    refine r_getI (g := 1233) (x := v_129) X hw ha_x_L_126 rfl 33 ev_129 (by decide) rfl inn_X12_token_12 (by decide) (X.2.2.2.1 (.fieldLink RX12 214 "SilkMillModel" "to" "I") (by decide +kernel)) rfl (gv_1233 _ _) dX12_token_208 ?_
                    refine k_i (rm := { frames := 1, cells := 0, slots := 0, locals := 48 }) (av := [.ref x, .int (v_129)]) X hw (va_runV (As := [.int (v_129)]) (rest := [.int (v_167), .ref x]) (cfix X) (k_X12_byteAt l G cy κ T_125 _ x (v_129) (v_129.toInt) hO_T_125.1 ha_x_L_126 rfl (by first | assumption | omega)) (cwV 1 X.2.2.2.1 gX12_token_X12_byteAt rfl rfl rfl (by decide +kernel) ⟨Nat.le_of_ble_eq_true rfl, Nat.le_of_ble_eq_true rfl⟩) (pre_V X hw _ ha_x_L_126 rfl (by decide) rfl) rfl rfl hl.1 rfl (lv_room (Nat.le_of_ble_eq_true rfl)) dX12_token_211 ⟨Nat.le_of_ble_eq_true rfl, Nat.le_of_ble_eq_true rfl⟩) 0 0 (Nat.le_of_ble_eq_true rfl) (Nat.le_of_ble_eq_true rfl) (fun rr_169 S_170 H locs hp hw hfr hnw => ?_)
                    obtain ⟨e2, hp⟩ := hp
                    subst e2
                    obtain ⟨f_171, f_172, f_173⟩ := hp
                    refine lv_iadd X.1 X.2.1 dX12_token_214 ?_
                    refine lv_topi (fun v_174 ev_174 => ?_)
                    have rg_175 := And.intro (z_lo v_174) (z_hi v_174)
                    refine lv_bipush (v := 48) X.1 X.2.1 dX12_token_215 (by decide) ?_
                    refine lv_isub X.1 X.2.1 dX12_token_217 ?_
                    refine lv_topi (fun v_176 ev_176 => ?_)
                    have rg_177 := And.intro (z_lo v_176) (z_hi v_176)
                    refine r_putI (v := v_176) X hw ha_x_L_126 rfl 34 1234 tyX12 (by decide) rfl inn_X12_token_12 tyX12_ok nmX12 (by decide) (X.2.2.2.1 (.fieldLink RX12 226 "SilkMillModel" "value" "I") (by decide +kernel)) rfl (Or.inl rfl) rfl rfl (Nat.le_of_ble_eq_true rfl) (st_1234 _ _) dX12_token_218 (fun H locs hw => ?_)
                    obtain ⟨S_178, eS_178⟩ : ∃ T, T = sI T_125 1234 x (v_176) := ⟨_, rfl⟩
                    rw [← eS_178] at hw
                    have hO_179 : Ok MK S S_178 := hO_T_125.sI eS_178 (by decide +kernel) (uI_12_1234 hO_T_125.1 ha_x_L_126)
                    have h_180 : pI S_178 1234 x = v_176 := tI_sIs eS_178
                    refine lv_aload_n X.1 X.2.1 dX12_token_221 rfl (lv_at hl 1 rfl) ?_
                    refine lv_dup X.1 X.2.1 dX12_token_222 rfl ?_
                    have t_181 : At S_178 x 12 := tAt_sI eS_178 ha_x_L_126
                    have t_182 : pI S_178 1233 x = v_129 := tI_sI eS_178 rfl ev_129
                    refine r_getI (g := 1233) (x := v_129) X hw t_181 rfl 33 t_182 (by decide) rfl inn_X12_token_12 (by decide) (X.2.2.2.1 (.fieldLink RX12 214 "SilkMillModel" "to" "I") (by decide +kernel)) rfl (gv_1233 _ _) dX12_token_223 ?_
                    refine lv_iconst (v := 1) X.1 X.2.1 dX12_token_226 (by decide) ?_
                    refine lv_iadd X.1 X.2.1 dX12_token_227 ?_
                    refine lv_topi (fun v_183 ev_183 => ?_)
                    have z_184 : v_183.toInt = v_129.toInt + 1 := z_add ev_183 rfl ti_1 (by omega) (by omega)
                    refine r_putI (v := v_183) X hw t_181 rfl 33 1233 tyX12 (by decide) rfl inn_X12_token_12 tyX12_ok nmX12 (by decide) (X.2.2.2.1 (.fieldLink RX12 214 "SilkMillModel" "to" "I") (by decide +kernel)) rfl (Or.inl rfl) rfl rfl (Nat.le_of_ble_eq_true rfl) (st_1233 _ _) dX12_token_228 (fun H locs hw => ?_)
                    obtain ⟨S_185, eS_185⟩ : ∃ T, T = sI S_178 1233 x (v_183) := ⟨_, rfl⟩
                    rw [← eS_185] at hw
                    have hO_186 : Ok MK S S_185 := hO_179.sI eS_185 (by decide +kernel) (uI_12_1233 hO_179.1 t_181 (by omega) (by omega))
                    have h_187 : pI S_185 1233 x = v_183 := tI_sIs eS_185
                    refine lv_goto (tgt := 167) X.1 X.2.1 dX12_token_231 (by decide) ?_
                    have pz_188 : (pI S_185 1233 x).toInt = (v_129.toInt + 1) := (congrArg Int32.toInt h_187).trans z_184
                    have t_189 : At S_185 x 12 := tAt_sI eS_185 t_181
                    have t_190 : pI S_178 1228 x = v_10 := tI_sI eS_178 rfl ik_128
                    have t_191 : pI S_185 1228 x = v_10 := tI_sI eS_185 rfl t_190
                    exact ih_L_124 _ (by omega) _ _ _ _  rfl hw t_189 hO_186 t_191 (lv_sub hl [0, 1] rfl)
                · have z_b_192 := trivial
                  refine lv_if_eq (tgt := 234) X.1 X.2.1 dX12_token_182 (by decide) (fun c_193 => ?_) (fun c_193 => absurd c_193 (by decide))
                  refine lv_aload_n X.1 X.2.1 dX12_token_234 rfl (lv_at hl 1 rfl) ?_
                  refine lv_aload_n X.1 X.2.1 dX12_token_235 rfl (lv_at hl 1 rfl) ?_
                  refine r_getI (g := 1233) (x := v_129) X hw ha_x_L_126 rfl 33 ev_129 (by decide) rfl inn_X12_token_12 (by decide) (X.2.2.2.1 (.fieldLink RX12 214 "SilkMillModel" "to" "I") (by decide +kernel)) rfl (gv_1233 _ _) dX12_token_236 ?_
                  refine lv_aload_n X.1 X.2.1 dX12_token_239 rfl (lv_at hl 1 rfl) ?_
                  obtain ⟨v_194, ev_194⟩ : ∃ v, pI T_125 1232 x = v := ⟨_, rfl⟩
                  have rg_195 := gI_12_1232 hO_T_125.1 ha_x_L_126; rw [ev_194] at rg_195
                  have pz_196 : (pI T_125 1232 x).toInt = v_194.toInt := by rw [ev_194]
                  refine r_getI (g := 1232) (x := v_194) X hw ha_x_L_126 rfl 32 ev_194 (by decide) rfl inn_X12_token_12 (by decide) (X.2.2.2.1 (.fieldLink RX12 217 "SilkMillModel" "from" "I") (by decide +kernel)) rfl (gv_1232 _ _) dX12_token_240 ?_
                  refine lv_isub X.1 X.2.1 dX12_token_243 ?_
                  refine lv_topi (fun v_197 ev_197 => ?_)
                  have z_198 : v_197.toInt = v_129.toInt - v_194.toInt := z_sub ev_197 rfl rfl (by omega) (by omega)
                  refine lv_iconst (v := 4) X.1 X.2.1 dX12_token_244 (by decide) ?_
                  refine lv_icmp_le (tgt := 252) X.1 X.2.1 dX12_token_245 (by decide) (fun c_199 => ?_) (fun c_199 => ?_)
                  · have z_b_200 := trivial
                    have k_201 : (v_129.toInt - v_194.toInt) ≤ 4 := z_le z_198 ti_4 c_199
                    refine lv_iconst (v := 2) X.1 X.2.1 dX12_token_252 (by decide) ?_
                    refine r_putI (v := 2) X hw ha_x_L_126 rfl 31 1231 tyX12 (by decide) rfl inn_X12_token_12 tyX12_ok nmX12 (by decide) (X.2.2.2.1 (.fieldLink RX12 223 "SilkMillModel" "kind" "I") (by decide +kernel)) rfl (Or.inl rfl) rfl rfl (Nat.le_of_ble_eq_true rfl) (st_1231 _ _) dX12_token_253 (fun H locs hw => ?_)
                    obtain ⟨S_202, eS_202⟩ : ∃ T, T = sI T_125 1231 x (2) := ⟨_, rfl⟩
                    rw [← eS_202] at hw
                    have hO_203 : Ok MK S S_202 := hO_T_125.sI eS_202 (by decide +kernel) (uI_12_1231 hO_T_125.1 ha_x_L_126)
                    have h_204 : pI S_202 1231 x = 2 := tI_sIs eS_202
                    refine lv_goto (tgt := 308) X.1 X.2.1 dX12_token_256 (by decide) ?_
                    rw [hQQ]
                    exact ret_v X hw hr hlocks (Nat.le_of_ble_eq_true rfl) (Nat.le_of_ble_eq_true rfl) ⟨hO_203, trivial⟩ dX12_token_308
                  · have z_b_205 := trivial
                    have k_206 : (v_129.toInt - v_194.toInt) > 4 := z_nle z_198 ti_4 c_199
                    refine lv_iconst (v := 4) X.1 X.2.1 dX12_token_248 (by decide) ?_
                    refine lv_goto (tgt := 253) X.1 X.2.1 dX12_token_249 (by decide) ?_
                    refine r_putI (v := 4) X hw ha_x_L_126 rfl 31 1231 tyX12 (by decide) rfl inn_X12_token_12 tyX12_ok nmX12 (by decide) (X.2.2.2.1 (.fieldLink RX12 223 "SilkMillModel" "kind" "I") (by decide +kernel)) rfl (Or.inl rfl) rfl rfl (Nat.le_of_ble_eq_true rfl) (st_1231 _ _) dX12_token_253 (fun H locs hw => ?_)
                    obtain ⟨S_207, eS_207⟩ : ∃ T, T = sI T_125 1231 x (4) := ⟨_, rfl⟩
                    rw [← eS_207] at hw
                    have hO_208 : Ok MK S S_207 := hO_T_125.sI eS_207 (by decide +kernel) (uI_12_1231 hO_T_125.1 ha_x_L_126)
                    have h_209 : pI S_207 1231 x = 4 := tI_sIs eS_207
                    refine lv_goto (tgt := 308) X.1 X.2.1 dX12_token_256 (by decide) ?_
                    rw [hQQ]
                    exact ret_v X hw hr hlocks (Nat.le_of_ble_eq_true rfl) (Nat.le_of_ble_eq_true rfl) ⟨hO_208, trivial⟩ dX12_token_308
              have t_210 : pI S_121 1233 x = v_15 := tI_sI eS_121 rfl h_48
              have pz_211 : (pI S_121 1233 x).toInt = v_15.toInt := (congrArg Int32.toInt t_210).trans rfl
              have t_212 : At S_121 x 12 := tAt_sI eS_121 t_49
              exact L_124 _ _ _ _ _  rfl hw t_212 hO_122 t_127 (lv_sub hl [0, 1] rfl)
            · have z_b_213 := trivial
              refine lv_if_eq (tgt := 259) X.1 X.2.1 dX12_token_159 (by decide) (fun c_214 => ?_) (fun c_214 => absurd c_214 (by decide))
              refine lv_aload_n X.1 X.2.1 dX12_token_259 rfl (lv_at hl 1 rfl) ?_
              refine lv_dup X.1 X.2.1 dX12_token_260 rfl ?_
              refine r_getI (g := 1233) (x := v_15) X hw t_49 rfl 33 h_48 (by decide) rfl inn_X12_token_12 (by decide) (X.2.2.2.1 (.fieldLink RX12 214 "SilkMillModel" "to" "I") (by decide +kernel)) rfl (gv_1233 _ _) dX12_token_261 ?_
              refine lv_iconst (v := 1) X.1 X.2.1 dX12_token_264 (by decide) ?_
              refine lv_iadd X.1 X.2.1 dX12_token_265 ?_
              refine lv_topi (fun v_215 ev_215 => ?_)
              have z_216 : v_215.toInt = v_15.toInt + 1 := z_add ev_215 rfl ti_1 (by omega) (by omega)
              refine r_putI (v := v_215) X hw t_49 rfl 33 1233 tyX12 (by decide) rfl inn_X12_token_12 tyX12_ok nmX12 (by decide) (X.2.2.2.1 (.fieldLink RX12 214 "SilkMillModel" "to" "I") (by decide +kernel)) rfl (Or.inl rfl) rfl rfl (Nat.le_of_ble_eq_true rfl) (st_1233 _ _) dX12_token_266 (fun H locs hw => ?_)
              obtain ⟨S_217, eS_217⟩ : ∃ T, T = sI S_46 1233 x (v_215) := ⟨_, rfl⟩
              rw [← eS_217] at hw
              have hO_218 : Ok MK S S_217 := hO_47.sI eS_217 (by decide +kernel) (uI_12_1233 hO_47.1 t_49 (by omega) (by omega))
              have h_219 : pI S_217 1233 x = v_215 := tI_sIs eS_217
              refine lv_aload_n X.1 X.2.1 dX12_token_269 rfl (lv_at hl 1 rfl) ?_
              refine lv_iload_n X.1 X.2.1 dX12_token_270 rfl (lv_at hl 0 rfl) ?_
              refine lv_bipush (v := 60) X.1 X.2.1 dX12_token_271 (by decide) ?_
              refine lv_icmp_eq (tgt := 300) X.1 X.2.1 dX12_token_273 (by decide) (fun c_220 => ?_) (fun c_220 => ?_)
              · have z_b_221 := trivial
                have k_222 : rr_51.toInt = 60 := z_eq rfl ti_60 c_220
                refine lv_iconst (v := 3) X.1 X.2.1 dX12_token_300 (by decide) ?_
                refine lv_goto (tgt := 305) X.1 X.2.1 dX12_token_301 (by decide) ?_
                have t_223 : At S_217 x 12 := tAt_sI eS_217 t_49
                refine r_putI (v := 3) X hw t_223 rfl 31 1231 tyX12 (by decide) rfl inn_X12_token_12 tyX12_ok nmX12 (by decide) (X.2.2.2.1 (.fieldLink RX12 223 "SilkMillModel" "kind" "I") (by decide +kernel)) rfl (Or.inl rfl) rfl rfl (Nat.le_of_ble_eq_true rfl) (st_1231 _ _) dX12_token_305 (fun H locs hw => ?_)
                obtain ⟨S_224, eS_224⟩ : ∃ T, T = sI S_217 1231 x (3) := ⟨_, rfl⟩
                rw [← eS_224] at hw
                have hO_225 : Ok MK S S_224 := hO_218.sI eS_224 (by decide +kernel) (uI_12_1231 hO_218.1 t_223)
                have h_226 : pI S_224 1231 x = 3 := tI_sIs eS_224
                rw [hQQ]
                exact ret_v X hw hr hlocks (Nat.le_of_ble_eq_true rfl) (Nat.le_of_ble_eq_true rfl) ⟨hO_225, trivial⟩ dX12_token_308
              · have z_b_227 := trivial
                have k_228 : rr_51.toInt ≠ 60 := z_ne rfl ti_60 c_220
                refine lv_iload_n X.1 X.2.1 dX12_token_276 rfl (lv_at hl 0 rfl) ?_
                refine lv_bipush (v := 61) X.1 X.2.1 dX12_token_277 (by decide) ?_
                refine lv_icmp_eq (tgt := 300) X.1 X.2.1 dX12_token_279 (by decide) (fun c_229 => ?_) (fun c_229 => ?_)
                · have z_b_230 := trivial
                  have k_231 : rr_51.toInt = 61 := z_eq rfl ti_61 c_229
                  refine lv_iconst (v := 3) X.1 X.2.1 dX12_token_300 (by decide) ?_
                  refine lv_goto (tgt := 305) X.1 X.2.1 dX12_token_301 (by decide) ?_
                  have t_232 : At S_217 x 12 := tAt_sI eS_217 t_49
                  refine r_putI (v := 3) X hw t_232 rfl 31 1231 tyX12 (by decide) rfl inn_X12_token_12 tyX12_ok nmX12 (by decide) (X.2.2.2.1 (.fieldLink RX12 223 "SilkMillModel" "kind" "I") (by decide +kernel)) rfl (Or.inl rfl) rfl rfl (Nat.le_of_ble_eq_true rfl) (st_1231 _ _) dX12_token_305 (fun H locs hw => ?_)
                  obtain ⟨S_233, eS_233⟩ : ∃ T, T = sI S_217 1231 x (3) := ⟨_, rfl⟩
                  rw [← eS_233] at hw
                  have hO_234 : Ok MK S S_233 := hO_218.sI eS_233 (by decide +kernel) (uI_12_1231 hO_218.1 t_232)
                  have h_235 : pI S_233 1231 x = 3 := tI_sIs eS_233
                  rw [hQQ]
                  exact ret_v X hw hr hlocks (Nat.le_of_ble_eq_true rfl) (Nat.le_of_ble_eq_true rfl) ⟨hO_234, trivial⟩ dX12_token_308
                · have z_b_236 := trivial
                  have k_237 : rr_51.toInt ≠ 61 := z_ne rfl ti_61 c_229
                  refine lv_iload_n X.1 X.2.1 dX12_token_282 rfl (lv_at hl 0 rfl) ?_
                  refine lv_bipush (v := 62) X.1 X.2.1 dX12_token_283 (by decide) ?_
                  refine lv_icmp_eq (tgt := 300) X.1 X.2.1 dX12_token_285 (by decide) (fun c_238 => ?_) (fun c_238 => ?_)
                  · have z_b_239 := trivial
                    have k_240 : rr_51.toInt = 62 := z_eq rfl ti_62 c_238
                    refine lv_iconst (v := 3) X.1 X.2.1 dX12_token_300 (by decide) ?_
                    refine lv_goto (tgt := 305) X.1 X.2.1 dX12_token_301 (by decide) ?_
                    have t_241 : At S_217 x 12 := tAt_sI eS_217 t_49
                    refine r_putI (v := 3) X hw t_241 rfl 31 1231 tyX12 (by decide) rfl inn_X12_token_12 tyX12_ok nmX12 (by decide) (X.2.2.2.1 (.fieldLink RX12 223 "SilkMillModel" "kind" "I") (by decide +kernel)) rfl (Or.inl rfl) rfl rfl (Nat.le_of_ble_eq_true rfl) (st_1231 _ _) dX12_token_305 (fun H locs hw => ?_)
                    obtain ⟨S_242, eS_242⟩ : ∃ T, T = sI S_217 1231 x (3) := ⟨_, rfl⟩
                    rw [← eS_242] at hw
                    have hO_243 : Ok MK S S_242 := hO_218.sI eS_242 (by decide +kernel) (uI_12_1231 hO_218.1 t_241)
                    have h_244 : pI S_242 1231 x = 3 := tI_sIs eS_242
                    rw [hQQ]
                    exact ret_v X hw hr hlocks (Nat.le_of_ble_eq_true rfl) (Nat.le_of_ble_eq_true rfl) ⟨hO_243, trivial⟩ dX12_token_308
                  · have z_b_245 := trivial
                    have k_246 : rr_51.toInt ≠ 62 := z_ne rfl ti_62 c_238
                    refine lv_iload_n X.1 X.2.1 dX12_token_288 rfl (lv_at hl 0 rfl) ?_
                    refine lv_bipush (v := 58) X.1 X.2.1 dX12_token_289 (by decide) ?_
                    refine lv_icmp_eq (tgt := 300) X.1 X.2.1 dX12_token_291 (by decide) (fun c_247 => ?_) (fun c_247 => ?_)
                    · have z_b_248 := trivial
                      have k_249 : rr_51.toInt = 58 := z_eq rfl ti_58 c_247
                      refine lv_iconst (v := 3) X.1 X.2.1 dX12_token_300 (by decide) ?_
                      refine lv_goto (tgt := 305) X.1 X.2.1 dX12_token_301 (by decide) ?_
                      have t_250 : At S_217 x 12 := tAt_sI eS_217 t_49
                      refine r_putI (v := 3) X hw t_250 rfl 31 1231 tyX12 (by decide) rfl inn_X12_token_12 tyX12_ok nmX12 (by decide) (X.2.2.2.1 (.fieldLink RX12 223 "SilkMillModel" "kind" "I") (by decide +kernel)) rfl (Or.inl rfl) rfl rfl (Nat.le_of_ble_eq_true rfl) (st_1231 _ _) dX12_token_305 (fun H locs hw => ?_)
                      obtain ⟨S_251, eS_251⟩ : ∃ T, T = sI S_217 1231 x (3) := ⟨_, rfl⟩
                      rw [← eS_251] at hw
                      have hO_252 : Ok MK S S_251 := hO_218.sI eS_251 (by decide +kernel) (uI_12_1231 hO_218.1 t_250)
                      have h_253 : pI S_251 1231 x = 3 := tI_sIs eS_251
                      rw [hQQ]
                      exact ret_v X hw hr hlocks (Nat.le_of_ble_eq_true rfl) (Nat.le_of_ble_eq_true rfl) ⟨hO_252, trivial⟩ dX12_token_308
                    · have z_b_254 := trivial
                      have k_255 : rr_51.toInt ≠ 58 := z_ne rfl ti_58 c_247
                      refine lv_iload_n X.1 X.2.1 dX12_token_294 rfl (lv_at hl 0 rfl) ?_
                      refine lv_bipush (v := 59) X.1 X.2.1 dX12_token_295 (by decide) ?_
                      refine lv_icmp_ne (tgt := 304) X.1 X.2.1 dX12_token_297 (by decide) (fun c_256 => ?_) (fun c_256 => ?_)
                      · have z_b_257 := trivial
                        have k_258 : rr_51.toInt ≠ 59 := z_ne rfl ti_59 c_256
                        refine lv_iconst (v := 4) X.1 X.2.1 dX12_token_304 (by decide) ?_
                        have t_259 : At S_217 x 12 := tAt_sI eS_217 t_49
                        refine r_putI (v := 4) X hw t_259 rfl 31 1231 tyX12 (by decide) rfl inn_X12_token_12 tyX12_ok nmX12 (by decide) (X.2.2.2.1 (.fieldLink RX12 223 "SilkMillModel" "kind" "I") (by decide +kernel)) rfl (Or.inl rfl) rfl rfl (Nat.le_of_ble_eq_true rfl) (st_1231 _ _) dX12_token_305 (fun H locs hw => ?_)
                        obtain ⟨S_260, eS_260⟩ : ∃ T, T = sI S_217 1231 x (4) := ⟨_, rfl⟩
                        rw [← eS_260] at hw
                        have hO_261 : Ok MK S S_260 := hO_218.sI eS_260 (by decide +kernel) (uI_12_1231 hO_218.1 t_259)
                        have h_262 : pI S_260 1231 x = 4 := tI_sIs eS_260
                        rw [hQQ]
                        exact ret_v X hw hr hlocks (Nat.le_of_ble_eq_true rfl) (Nat.le_of_ble_eq_true rfl) ⟨hO_261, trivial⟩ dX12_token_308
                      · have z_b_263 := trivial
                        have k_264 : rr_51.toInt = 59 := z_eq rfl ti_59 c_256
                        refine lv_iconst (v := 3) X.1 X.2.1 dX12_token_300 (by decide) ?_
                        refine lv_goto (tgt := 305) X.1 X.2.1 dX12_token_301 (by decide) ?_
                        have t_265 : At S_217 x 12 := tAt_sI eS_217 t_49
                        refine r_putI (v := 3) X hw t_265 rfl 31 1231 tyX12 (by decide) rfl inn_X12_token_12 tyX12_ok nmX12 (by decide) (X.2.2.2.1 (.fieldLink RX12 223 "SilkMillModel" "kind" "I") (by decide +kernel)) rfl (Or.inl rfl) rfl rfl (Nat.le_of_ble_eq_true rfl) (st_1231 _ _) dX12_token_305 (fun H locs hw => ?_)
                        obtain ⟨S_266, eS_266⟩ : ∃ T, T = sI S_217 1231 x (3) := ⟨_, rfl⟩
                        rw [← eS_266] at hw
                        have hO_267 : Ok MK S S_266 := hO_218.sI eS_266 (by decide +kernel) (uI_12_1231 hO_218.1 t_265)
                        have h_268 : pI S_266 1231 x = 3 := tI_sIs eS_266
                        rw [hQQ]
                        exact ret_v X hw hr hlocks (Nat.le_of_ble_eq_true rfl) (Nat.le_of_ble_eq_true rfl) ⟨hO_267, trivial⟩ dX12_token_308
        · have z_b_269 := trivial
          have k_270 : v_15.toInt ≥ v_10.toInt := z_nlt rfl rfl c_57
          refine lv_aload_n X.1 X.2.1 dX12_token_75 rfl (lv_at hl 1 rfl) ?_
          refine lv_iconst (v := 0) X.1 X.2.1 dX12_token_76 (by decide) ?_
          refine r_putI (v := 0) X hw t_49 rfl 31 1231 tyX12 (by decide) rfl inn_X12_token_12 tyX12_ok nmX12 (by decide) (X.2.2.2.1 (.fieldLink RX12 223 "SilkMillModel" "kind" "I") (by decide +kernel)) rfl (Or.inl rfl) rfl rfl (Nat.le_of_ble_eq_true rfl) (st_1231 _ _) dX12_token_77 (fun H locs hw => ?_)
          obtain ⟨S_271, eS_271⟩ : ∃ T, T = sI S_46 1231 x (0) := ⟨_, rfl⟩
          rw [← eS_271] at hw
          have hO_272 : Ok MK S S_271 := hO_47.sI eS_271 (by decide +kernel) (uI_12_1231 hO_47.1 t_49)
          have h_273 : pI S_271 1231 x = 0 := tI_sIs eS_271
          refine lv_goto (tgt := 308) X.1 X.2.1 dX12_token_80 (by decide) ?_
          rw [hQQ]
          exact ret_v X hw hr hlocks (Nat.le_of_ble_eq_true rfl) (Nat.le_of_ble_eq_true rfl) ⟨hO_272, trivial⟩ dX12_token_308
      · have z_b_274 := trivial
        have k_275 : rr_38.toInt = 10 := z_eq rfl ti_10 c_43
        refine lv_aload_n X.1 X.2.1 dX12_token_34 rfl (lv_at hl 0 rfl) ?_
        refine lv_dup X.1 X.2.1 dX12_token_35 rfl ?_
        refine r_getI (g := 1232) (x := v_15) X hw ha_x_L_9 rfl 32 ev_15 (by decide) rfl inn_X12_token_12 (by decide) (X.2.2.2.1 (.fieldLink RX12 217 "SilkMillModel" "from" "I") (by decide +kernel)) rfl (gv_1232 _ _) dX12_token_36 ?_
        refine lv_iconst (v := 1) X.1 X.2.1 dX12_token_39 (by decide) ?_
        refine lv_iadd X.1 X.2.1 dX12_token_40 ?_
        refine lv_topi (fun v_276 ev_276 => ?_)
        have z_277 : v_276.toInt = v_15.toInt + 1 := z_add ev_276 rfl ti_1 (by omega) (by omega)
        refine r_putI (v := v_276) X hw ha_x_L_9 rfl 32 1232 tyX12 (by decide) rfl inn_X12_token_12 tyX12_ok nmX12 (by decide) (X.2.2.2.1 (.fieldLink RX12 217 "SilkMillModel" "from" "I") (by decide +kernel)) rfl (Or.inl rfl) rfl rfl (Nat.le_of_ble_eq_true rfl) (st_1232 _ _) dX12_token_41 (fun H locs hw => ?_)
        obtain ⟨S_278, eS_278⟩ : ∃ T, T = sI T_8 1232 x (v_276) := ⟨_, rfl⟩
        rw [← eS_278] at hw
        have hO_279 : Ok MK S S_278 := hO_T_8.sI eS_278 (by decide +kernel) (uI_12_1232 hO_T_8.1 ha_x_L_9 (by omega) (by omega))
        have h_280 : pI S_278 1232 x = v_276 := tI_sIs eS_278
        refine lv_goto (tgt := 8) X.1 X.2.1 dX12_token_44 (by decide) ?_
        have pz_281 : (pI S_278 1232 x).toInt = (v_15.toInt + 1) := (congrArg Int32.toInt h_280).trans z_277
        have t_282 : At S_278 x 12 := tAt_sI eS_278 ha_x_L_9
        have t_283 : pI S_278 1228 x = v_10 := tI_sI eS_278 rfl ik_14
        exact ih_L_7 _ (by omega) _ _ _ _  rfl hw t_282 hO_279 t_283 (lv_sub hl [0] rfl)
  have pz_284 : (pI S_4 1232 x).toInt = v_1.toInt := (congrArg Int32.toInt h_6).trans rfl
  exact L_7 _ _ _ _ _  rfl hw t_12 hO_5 ev_10 (lv_sub hl [0] rfl)
set_option maxHeartbeats 4000000 in
set_option maxRecDepth 100000 in
theorem k_X12_is (l : Launch) (G : va_G) (cy : Nat → ClassId) (κ : Nat → Nat) (S : PS) (sz : Nat) (x : Nat) (i : Nat) (hG : GX S) (ha_x : At S x 12) (hi_i : i < 26) : Ci l yX12_is wsX12_is ({ frames := 5, cells := 0, slots := 0, locals := 240 }) G cy κ S sz [.ref x, .ref (κ (100 + i))] (fun (r : Int32) (S9 : PS) => S = S9 ∧ (((True) ∧ r = 1) ∨ ((True) ∧ r = 0))) := by
  refine ent_m (cc := cX12_is) (maxL := 4) (ret := (some .boolean)) (by decide) rfl (Nat.le_of_ble_eq_true rfl) ?_
  intro p e s m below meth c ls X hr hlocks hin hw hl hsz
  subst hsz
  have X : Cx p c cX12_is 4 s [.ref x, .ref (κ (100 + i))].toArray wsX12_is RX12 m G cy κ (AS S s.heap.size) := X
  have hl : lv_has ls 4 [(0, .ref x), (1, .ref (κ (100 + i)))] := hl
  generalize hQQ : MQ below _ _ _ _ _ _ = QQ
  replace hQQ := hQQ.symm
  refine lv_aload_n X.1 X.2.1 dX12_is_0 rfl (lv_at hl 0 rfl) ?_
  obtain ⟨v_1, ev_1⟩ : ∃ v, pI S 1230 x = v := ⟨_, rfl⟩
  have rg_3 := And.intro (z_lo v_1) (z_hi v_1)
  have pz_4 : (pI S 1230 x).toInt = v_1.toInt := by rw [ev_1]
  refine r_getI (g := 1230) (x := v_1) X hw ha_x rfl 30 ev_1 (by decide) rfl inn_X12_is_12 (by decide) (X.2.2.2.1 (.fieldLink RX12 229 "SilkMillModel" "faultKind" "I") (by decide +kernel)) rfl (gv_1230 _ _) dX12_is_1 ?_
  refine lv_if_ne (tgt := 27) X.1 X.2.1 dX12_is_4 (by decide) (fun c_5 => ?_) (fun c_5 => ?_)
  · have z_b_6 := trivial
    have k_7 : v_1.toInt ≠ 0 := z_ne rfl ti_0 c_5
    refine lv_iconst (v := 0) X.1 X.2.1 dX12_is_27 (by decide) ?_
    refine lv_istore_n (lv' := [(2, .int 0), (0, .ref x), (1, .ref (κ (100 + i)))]) X.1 X.2.1 dX12_is_28 rfl hl (by decide) rfl (fun ls hl => ?_)
    refine lv_iconst (v := 0) X.1 X.2.1 dX12_is_29 (by decide) ?_
    refine lv_istore_n (lv' := [(3, .int 0), (2, .int 0), (0, .ref x), (1, .ref (κ (100 + i)))]) X.1 X.2.1 dX12_is_30 rfl hl (by decide) rfl (fun ls hl => ?_)
    have L_8 : ∀ (n : Nat) (H : Heap) (locs : List Loc) (ls : Array Slot) (i2_9 : Int32) (i2_9_z : Int) (i3_10 : Int32) (i3_10_z : Int), ((64 - i3_10_z).toNat = n) → (Wd G cy (AS S s.heap.size) s.heap S H locs) → (i2_9.toInt = i2_9_z) → (0 ≤ i2_9_z ∧ i2_9_z ≤ 1) → (i3_10.toInt = i3_10_z) → (0 ≤ i3_10_z ∧ i3_10_z ≤ 64) → (lv_has ls 4 [(2, .int (i2_9)), (3, .int (i3_10)), (0, .ref x), (1, .ref (κ (100 + i)))]) → W p l e ({ frames := 5, cells := 0, slots := 0, locals := 240 }) s m [.ref x, .ref (κ (100 + i))].toArray below meth c H locs 0 0 QQ (F0 m 31 ls []) := by
      intro n
      induction n using Nat.strongRecOn with
      | ind n ih_L_8 =>
      intro H locs ls i2_9 i2_9_z i3_10 i3_10_z hn hw hz_i2_9 hr_i2_9 hz_i3_10 hr_i3_10 hl
      have rg_11 : (-2147483648) ≤ i2_9_z ∧ i2_9_z ≤ 2147483647 := by rw [← hz_i2_9]; exact ⟨z_lo _, z_hi _⟩
      have rg_12 : (-2147483648) ≤ i3_10_z ∧ i3_10_z ≤ 2147483647 := by rw [← hz_i3_10]; exact ⟨z_lo _, z_hi _⟩
      refine lv_iload_n X.1 X.2.1 dX12_is_31 rfl (lv_at hl 1 rfl) ?_
      refine lv_aload_n X.1 X.2.1 dX12_is_32 rfl (lv_at hl 3 rfl) ?_
      refine k_i (rm := { frames := 2, cells := 0, slots := 0, locals := 96 }) (av := [.ref (κ (100 + i))]) X hw (va_runV (As := []) (rest := [.int (i3_10)]) (cfix X) (k_J0_length_8abf5 l G cy κ S _ i hG hi_i) (cwV 0 X.2.2.2.1 gX12_is_J0_length_8abf5 rfl rfl rfl (by decide +kernel) ⟨Nat.le_of_ble_eq_true rfl, Nat.le_of_ble_eq_true rfl⟩) (pre_VS X hw _ i hi_i) rfl rfl hl.1 rfl (lv_room (Nat.le_of_ble_eq_true rfl)) dX12_is_33 ⟨Nat.le_of_ble_eq_true rfl, Nat.le_of_ble_eq_true rfl⟩) 0 0 (Nat.le_of_ble_eq_true rfl) (Nat.le_of_ble_eq_true rfl) (fun rr_13 S_14 H locs hp hw hfr hnw => ?_)
      obtain ⟨e2, hp⟩ := hp
      subst e2
      obtain ⟨f_15, f_16⟩ := hp
      refine lv_icmp_ge (tgt := 73) X.1 X.2.1 dX12_is_36 (by decide) (fun c_17 => ?_) (fun c_17 => ?_)
      · have z_b_18 := trivial
        have k_19 : i3_10_z ≥ rr_13.toInt := z_le rfl hz_i3_10 c_17
        refine lv_iload_n X.1 X.2.1 dX12_is_73 rfl (lv_at hl 0 rfl) ?_
        have hb01 : i2_9 = 0 ∨ i2_9 = 1 := z_01 hz_i2_9 (by omega) (by omega)
        rw [hQQ]
        exact ret_z X hw hr hlocks (Nat.le_of_ble_eq_true rfl) (Nat.le_of_ble_eq_true rfl) (by assumption) ⟨rfl, (by rcases hb01 with h | h; exact Or.inr ⟨trivial, h⟩; exact Or.inl ⟨trivial, h⟩)⟩ dX12_is_74
      · have z_b_20 := trivial
        have k_21 : i3_10_z < rr_13.toInt := z_nle rfl hz_i3_10 c_17
        refine lv_iload_n X.1 X.2.1 dX12_is_39 rfl (lv_at hl 0 rfl) ?_
        refine lv_if_eq (tgt := 73) X.1 X.2.1 dX12_is_40 (by decide) (fun c_22 => ?_) (fun c_22 => ?_)
        · have z_b_23 := trivial
          have k_24 : i2_9_z = 0 := z_eq hz_i2_9 ti_0 c_22
          refine lv_iload_n X.1 X.2.1 dX12_is_73 rfl (lv_at hl 0 rfl) ?_
          have hb01 : i2_9 = 0 ∨ i2_9 = 1 := z_01 hz_i2_9 (by omega) (by omega)
          rw [hQQ]
          exact ret_z X hw hr hlocks (Nat.le_of_ble_eq_true rfl) (Nat.le_of_ble_eq_true rfl) (by assumption) ⟨rfl, (by rcases hb01 with h | h; exact Or.inr ⟨trivial, h⟩; exact Or.inl ⟨trivial, h⟩)⟩ dX12_is_74
        · have z_b_25 := trivial
          have k_26 : i2_9_z ≠ 0 := z_ne hz_i2_9 ti_0 c_22
          refine lv_aload_n X.1 X.2.1 dX12_is_43 rfl (lv_at hl 2 rfl) ?_
          refine lv_aload_n X.1 X.2.1 dX12_is_44 rfl (lv_at hl 2 rfl) ?_
          obtain ⟨v_27, ev_27⟩ : ∃ v, pI S 1232 x = v := ⟨_, rfl⟩
          have rg_28 := gI_12_1232 hG ha_x; rw [ev_27] at rg_28
          have pz_29 : (pI S 1232 x).toInt = v_27.toInt := by rw [ev_27]
          refine r_getI (g := 1232) (x := v_27) X hw ha_x rfl 32 ev_27 (by decide) rfl inn_X12_is_12 (by decide) (X.2.2.2.1 (.fieldLink RX12 217 "SilkMillModel" "from" "I") (by decide +kernel)) rfl (gv_1232 _ _) dX12_is_45 ?_
          refine lv_iload_n X.1 X.2.1 dX12_is_48 rfl (lv_at hl 1 rfl) ?_
          refine lv_iadd X.1 X.2.1 dX12_is_49 ?_
          refine lv_topi (fun v_30 ev_30 => ?_)
          have z_31 : v_30.toInt = v_27.toInt + i3_10_z := z_add ev_30 rfl hz_i3_10 (by omega) (by omega)
          refine k_i (rm := { frames := 1, cells := 0, slots := 0, locals := 48 }) (av := [.ref x, .int (v_30)]) X hw (va_runV (As := [.int (v_30)]) (rest := []) (cfix X) (k_X12_byteAt l G cy κ S _ x (v_30) ((v_27.toInt + i3_10_z)) hG ha_x z_31 (by first | assumption | omega)) (cwV 1 X.2.2.2.1 gX12_is_X12_byteAt rfl rfl rfl (by decide +kernel) ⟨Nat.le_of_ble_eq_true rfl, Nat.le_of_ble_eq_true rfl⟩) (pre_V X hw _ ha_x rfl (by decide) rfl) rfl rfl hl.1 rfl (lv_room (Nat.le_of_ble_eq_true rfl)) dX12_is_50 ⟨Nat.le_of_ble_eq_true rfl, Nat.le_of_ble_eq_true rfl⟩) 0 0 (Nat.le_of_ble_eq_true rfl) (Nat.le_of_ble_eq_true rfl) (fun rr_32 S_33 H locs hp hw hfr hnw => ?_)
          obtain ⟨e2, hp⟩ := hp
          subst e2
          obtain ⟨f_34, f_35, f_36⟩ := hp
          refine lv_aload_n X.1 X.2.1 dX12_is_53 rfl (lv_at hl 3 rfl) ?_
          refine lv_iload_n X.1 X.2.1 dX12_is_54 rfl (lv_at hl 1 rfl) ?_
          refine k_i (rm := { frames := 4, cells := 0, slots := 0, locals := 192 }) (av := [.ref (κ (100 + i)), .int (i3_10)]) X hw (va_runV (As := [.int (i3_10)]) (rest := [.int (rr_32)]) (cfix X) (k_J0_charAt_5068e l G cy κ S _ i (i3_10) (i3_10_z) hG hi_i hz_i3_10 (by first | assumption | omega) (by first | assumption | omega)) (cwV 1 X.2.2.2.1 gX12_is_J0_charAt_5068e rfl rfl rfl (by decide +kernel) ⟨Nat.le_of_ble_eq_true rfl, Nat.le_of_ble_eq_true rfl⟩) (pre_VS X hw _ i hi_i) rfl rfl hl.1 rfl (lv_room (Nat.le_of_ble_eq_true rfl)) dX12_is_55 ⟨Nat.le_of_ble_eq_true rfl, Nat.le_of_ble_eq_true rfl⟩) 0 0 (Nat.le_of_ble_eq_true rfl) (Nat.le_of_ble_eq_true rfl) (fun rr_37 S_38 H locs hp hw hfr hnw => ?_)
          obtain ⟨e2, hp⟩ := hp
          subst e2
          obtain ⟨f_39, f_40⟩ := hp
          refine lv_icmp_ne (tgt := 65) X.1 X.2.1 dX12_is_58 (by decide) (fun c_41 => ?_) (fun c_41 => ?_)
          · have z_b_42 := trivial
            have k_43 : rr_32.toInt ≠ rr_37.toInt := z_ne rfl rfl c_41
            refine lv_iconst (v := 0) X.1 X.2.1 dX12_is_65 (by decide) ?_
            refine lv_istore_n (lv' := [(2, .int 0), (3, .int (i3_10)), (0, .ref x), (1, .ref (κ (100 + i)))]) X.1 X.2.1 dX12_is_66 rfl hl (by decide) rfl (fun ls hl => ?_)
            obtain ⟨x_44, ex_44⟩ : ∃ y : Int32, y = i3_10 + 1 := ⟨_, rfl⟩
            have z_45 : x_44.toInt = i3_10_z + 1 := z_add ex_44 hz_i3_10 ti_1 (by omega) (by omega)
            refine lv_iinc (v := x_44) (lv' := [(3, .int (x_44)), (2, .int 0), (0, .ref x), (1, .ref (κ (100 + i)))]) X.1 X.2.1 dX12_is_67 hl (k := 1) rfl (by rw [ex_44]; rfl) (by decide) rfl (fun ls hl => ?_)
            refine lv_goto (tgt := 31) X.1 X.2.1 dX12_is_70 (by decide) ?_
            exact ih_L_8 _ (by omega) _ _ _ (0) (0) (x_44) (x_44.toInt) rfl hw ti_0 (by omega) rfl (by omega) (lv_sub hl [1, 0, 2, 3] rfl)
          · have z_b_46 := trivial
            have k_47 : rr_32.toInt = rr_37.toInt := z_eq rfl rfl c_41
            refine lv_iconst (v := 1) X.1 X.2.1 dX12_is_61 (by decide) ?_
            refine lv_goto (tgt := 66) X.1 X.2.1 dX12_is_62 (by decide) ?_
            refine lv_istore_n (lv' := [(2, .int 1), (3, .int (i3_10)), (0, .ref x), (1, .ref (κ (100 + i)))]) X.1 X.2.1 dX12_is_66 rfl hl (by decide) rfl (fun ls hl => ?_)
            obtain ⟨x_48, ex_48⟩ : ∃ y : Int32, y = i3_10 + 1 := ⟨_, rfl⟩
            have z_49 : x_48.toInt = i3_10_z + 1 := z_add ex_48 hz_i3_10 ti_1 (by omega) (by omega)
            refine lv_iinc (v := x_48) (lv' := [(3, .int (x_48)), (2, .int 1), (0, .ref x), (1, .ref (κ (100 + i)))]) X.1 X.2.1 dX12_is_67 hl (k := 1) rfl (by rw [ex_48]; rfl) (by decide) rfl (fun ls hl => ?_)
            refine lv_goto (tgt := 31) X.1 X.2.1 dX12_is_70 (by decide) ?_
            exact ih_L_8 _ (by omega) _ _ _ (1) (1) (x_48) (x_48.toInt) rfl hw ti_1 (by omega) rfl (by omega) (lv_sub hl [1, 0, 2, 3] rfl)
    exact L_8 _ _ _ _ (0) (0) (0) (0) rfl hw ti_0 (by omega) ti_0 (by omega) (lv_sub hl [1, 0, 2, 3] rfl)
  · have z_b_50 := trivial
    have k_51 : v_1.toInt = 0 := z_eq rfl ti_0 c_5
    refine lv_aload_n X.1 X.2.1 dX12_is_7 rfl (lv_at hl 0 rfl) ?_
    obtain ⟨v_52, ev_52⟩ : ∃ v, pI S 1233 x = v := ⟨_, rfl⟩
    have rg_53 := gI_12_1233 hG ha_x; rw [ev_52] at rg_53
    have pz_54 : (pI S 1233 x).toInt = v_52.toInt := by rw [ev_52]
    refine r_getI (g := 1233) (x := v_52) X hw ha_x rfl 33 ev_52 (by decide) rfl inn_X12_is_12 (by decide) (X.2.2.2.1 (.fieldLink RX12 214 "SilkMillModel" "to" "I") (by decide +kernel)) rfl (gv_1233 _ _) dX12_is_8 ?_
    refine lv_aload_n X.1 X.2.1 dX12_is_11 rfl (lv_at hl 0 rfl) ?_
    obtain ⟨v_55, ev_55⟩ : ∃ v, pI S 1232 x = v := ⟨_, rfl⟩
    have rg_56 := gI_12_1232 hG ha_x; rw [ev_55] at rg_56
    have pz_57 : (pI S 1232 x).toInt = v_55.toInt := by rw [ev_55]
    refine r_getI (g := 1232) (x := v_55) X hw ha_x rfl 32 ev_55 (by decide) rfl inn_X12_is_12 (by decide) (X.2.2.2.1 (.fieldLink RX12 217 "SilkMillModel" "from" "I") (by decide +kernel)) rfl (gv_1232 _ _) dX12_is_12 ?_
    refine lv_isub X.1 X.2.1 dX12_is_15 ?_
    refine lv_topi (fun v_58 ev_58 => ?_)
    have z_59 : v_58.toInt = v_52.toInt - v_55.toInt := z_sub ev_58 rfl rfl (by omega) (by omega)
    refine lv_aload_n X.1 X.2.1 dX12_is_16 rfl (lv_at hl 1 rfl) ?_
    refine k_i (rm := { frames := 2, cells := 0, slots := 0, locals := 96 }) (av := [.ref (κ (100 + i))]) X hw (va_runV (As := []) (rest := [.int (v_58)]) (cfix X) (k_J0_length_8abf5 l G cy κ S _ i hG hi_i) (cwV 0 X.2.2.2.1 gX12_is_J0_length_8abf5 rfl rfl rfl (by decide +kernel) ⟨Nat.le_of_ble_eq_true rfl, Nat.le_of_ble_eq_true rfl⟩) (pre_VS X hw _ i hi_i) rfl rfl hl.1 rfl (lv_room (Nat.le_of_ble_eq_true rfl)) dX12_is_17 ⟨Nat.le_of_ble_eq_true rfl, Nat.le_of_ble_eq_true rfl⟩) 0 0 (Nat.le_of_ble_eq_true rfl) (Nat.le_of_ble_eq_true rfl) (fun rr_60 S_61 H locs hp hw hfr hnw => ?_)
    obtain ⟨e2, hp⟩ := hp
    subst e2
    obtain ⟨f_62, f_63⟩ := hp
    refine lv_icmp_ne (tgt := 27) X.1 X.2.1 dX12_is_20 (by decide) (fun c_64 => ?_) (fun c_64 => ?_)
    · have z_b_65 := trivial
      have k_66 : (v_52.toInt - v_55.toInt) ≠ rr_60.toInt := z_ne z_59 rfl c_64
      refine lv_iconst (v := 0) X.1 X.2.1 dX12_is_27 (by decide) ?_
      refine lv_istore_n (lv' := [(2, .int 0), (0, .ref x), (1, .ref (κ (100 + i)))]) X.1 X.2.1 dX12_is_28 rfl hl (by decide) rfl (fun ls hl => ?_)
      refine lv_iconst (v := 0) X.1 X.2.1 dX12_is_29 (by decide) ?_
      refine lv_istore_n (lv' := [(3, .int 0), (2, .int 0), (0, .ref x), (1, .ref (κ (100 + i)))]) X.1 X.2.1 dX12_is_30 rfl hl (by decide) rfl (fun ls hl => ?_)
      have L_67 : ∀ (n : Nat) (H : Heap) (locs : List Loc) (ls : Array Slot) (i2_68 : Int32) (i2_68_z : Int) (i3_69 : Int32) (i3_69_z : Int), ((64 - i3_69_z).toNat = n) → (Wd G cy (AS S s.heap.size) s.heap S H locs) → (i2_68.toInt = i2_68_z) → (0 ≤ i2_68_z ∧ i2_68_z ≤ 1) → (i3_69.toInt = i3_69_z) → (0 ≤ i3_69_z ∧ i3_69_z ≤ 64) → (lv_has ls 4 [(2, .int (i2_68)), (3, .int (i3_69)), (0, .ref x), (1, .ref (κ (100 + i)))]) → W p l e ({ frames := 5, cells := 0, slots := 0, locals := 240 }) s m [.ref x, .ref (κ (100 + i))].toArray below meth c H locs 0 0 QQ (F0 m 31 ls []) := by
        intro n
        induction n using Nat.strongRecOn with
        | ind n ih_L_67 =>
        intro H locs ls i2_68 i2_68_z i3_69 i3_69_z hn hw hz_i2_68 hr_i2_68 hz_i3_69 hr_i3_69 hl
        have rg_70 : (-2147483648) ≤ i2_68_z ∧ i2_68_z ≤ 2147483647 := by rw [← hz_i2_68]; exact ⟨z_lo _, z_hi _⟩
        have rg_71 : (-2147483648) ≤ i3_69_z ∧ i3_69_z ≤ 2147483647 := by rw [← hz_i3_69]; exact ⟨z_lo _, z_hi _⟩
        refine lv_iload_n X.1 X.2.1 dX12_is_31 rfl (lv_at hl 1 rfl) ?_
        refine lv_aload_n X.1 X.2.1 dX12_is_32 rfl (lv_at hl 3 rfl) ?_
        refine k_i (rm := { frames := 2, cells := 0, slots := 0, locals := 96 }) (av := [.ref (κ (100 + i))]) X hw (va_runV (As := []) (rest := [.int (i3_69)]) (cfix X) (k_J0_length_8abf5 l G cy κ S _ i hG hi_i) (cwV 0 X.2.2.2.1 gX12_is_J0_length_8abf5 rfl rfl rfl (by decide +kernel) ⟨Nat.le_of_ble_eq_true rfl, Nat.le_of_ble_eq_true rfl⟩) (pre_VS X hw _ i hi_i) rfl rfl hl.1 rfl (lv_room (Nat.le_of_ble_eq_true rfl)) dX12_is_33 ⟨Nat.le_of_ble_eq_true rfl, Nat.le_of_ble_eq_true rfl⟩) 0 0 (Nat.le_of_ble_eq_true rfl) (Nat.le_of_ble_eq_true rfl) (fun rr_72 S_73 H locs hp hw hfr hnw => ?_)
        obtain ⟨e2, hp⟩ := hp
        subst e2
        obtain ⟨f_74, f_75⟩ := hp
        refine lv_icmp_ge (tgt := 73) X.1 X.2.1 dX12_is_36 (by decide) (fun c_76 => ?_) (fun c_76 => ?_)
        · have z_b_77 := trivial
          have k_78 : i3_69_z ≥ rr_72.toInt := z_le rfl hz_i3_69 c_76
          refine lv_iload_n X.1 X.2.1 dX12_is_73 rfl (lv_at hl 0 rfl) ?_
          have hb01 : i2_68 = 0 ∨ i2_68 = 1 := z_01 hz_i2_68 (by omega) (by omega)
          rw [hQQ]
          exact ret_z X hw hr hlocks (Nat.le_of_ble_eq_true rfl) (Nat.le_of_ble_eq_true rfl) (by assumption) ⟨rfl, (by rcases hb01 with h | h; exact Or.inr ⟨trivial, h⟩; exact Or.inl ⟨trivial, h⟩)⟩ dX12_is_74
        · have z_b_79 := trivial
          have k_80 : i3_69_z < rr_72.toInt := z_nle rfl hz_i3_69 c_76
          refine lv_iload_n X.1 X.2.1 dX12_is_39 rfl (lv_at hl 0 rfl) ?_
          refine lv_if_eq (tgt := 73) X.1 X.2.1 dX12_is_40 (by decide) (fun c_81 => ?_) (fun c_81 => ?_)
          · have z_b_82 := trivial
            have k_83 : i2_68_z = 0 := z_eq hz_i2_68 ti_0 c_81
            refine lv_iload_n X.1 X.2.1 dX12_is_73 rfl (lv_at hl 0 rfl) ?_
            have hb01 : i2_68 = 0 ∨ i2_68 = 1 := z_01 hz_i2_68 (by omega) (by omega)
            rw [hQQ]
            exact ret_z X hw hr hlocks (Nat.le_of_ble_eq_true rfl) (Nat.le_of_ble_eq_true rfl) (by assumption) ⟨rfl, (by rcases hb01 with h | h; exact Or.inr ⟨trivial, h⟩; exact Or.inl ⟨trivial, h⟩)⟩ dX12_is_74
          · have z_b_84 := trivial
            have k_85 : i2_68_z ≠ 0 := z_ne hz_i2_68 ti_0 c_81
            refine lv_aload_n X.1 X.2.1 dX12_is_43 rfl (lv_at hl 2 rfl) ?_
            refine lv_aload_n X.1 X.2.1 dX12_is_44 rfl (lv_at hl 2 rfl) ?_
            refine r_getI (g := 1232) (x := v_55) X hw ha_x rfl 32 ev_55 (by decide) rfl inn_X12_is_12 (by decide) (X.2.2.2.1 (.fieldLink RX12 217 "SilkMillModel" "from" "I") (by decide +kernel)) rfl (gv_1232 _ _) dX12_is_45 ?_
            refine lv_iload_n X.1 X.2.1 dX12_is_48 rfl (lv_at hl 1 rfl) ?_
            refine lv_iadd X.1 X.2.1 dX12_is_49 ?_
            refine lv_topi (fun v_86 ev_86 => ?_)
            have z_87 : v_86.toInt = v_55.toInt + i3_69_z := z_add ev_86 rfl hz_i3_69 (by omega) (by omega)
            refine k_i (rm := { frames := 1, cells := 0, slots := 0, locals := 48 }) (av := [.ref x, .int (v_86)]) X hw (va_runV (As := [.int (v_86)]) (rest := []) (cfix X) (k_X12_byteAt l G cy κ S _ x (v_86) ((v_55.toInt + i3_69_z)) hG ha_x z_87 (by first | assumption | omega)) (cwV 1 X.2.2.2.1 gX12_is_X12_byteAt rfl rfl rfl (by decide +kernel) ⟨Nat.le_of_ble_eq_true rfl, Nat.le_of_ble_eq_true rfl⟩) (pre_V X hw _ ha_x rfl (by decide) rfl) rfl rfl hl.1 rfl (lv_room (Nat.le_of_ble_eq_true rfl)) dX12_is_50 ⟨Nat.le_of_ble_eq_true rfl, Nat.le_of_ble_eq_true rfl⟩) 0 0 (Nat.le_of_ble_eq_true rfl) (Nat.le_of_ble_eq_true rfl) (fun rr_88 S_89 H locs hp hw hfr hnw => ?_)
            obtain ⟨e2, hp⟩ := hp
            subst e2
            obtain ⟨f_90, f_91, f_92⟩ := hp
            refine lv_aload_n X.1 X.2.1 dX12_is_53 rfl (lv_at hl 3 rfl) ?_
            refine lv_iload_n X.1 X.2.1 dX12_is_54 rfl (lv_at hl 1 rfl) ?_
            refine k_i (rm := { frames := 4, cells := 0, slots := 0, locals := 192 }) (av := [.ref (κ (100 + i)), .int (i3_69)]) X hw (va_runV (As := [.int (i3_69)]) (rest := [.int (rr_88)]) (cfix X) (k_J0_charAt_5068e l G cy κ S _ i (i3_69) (i3_69_z) hG hi_i hz_i3_69 (by first | assumption | omega) (by first | assumption | omega)) (cwV 1 X.2.2.2.1 gX12_is_J0_charAt_5068e rfl rfl rfl (by decide +kernel) ⟨Nat.le_of_ble_eq_true rfl, Nat.le_of_ble_eq_true rfl⟩) (pre_VS X hw _ i hi_i) rfl rfl hl.1 rfl (lv_room (Nat.le_of_ble_eq_true rfl)) dX12_is_55 ⟨Nat.le_of_ble_eq_true rfl, Nat.le_of_ble_eq_true rfl⟩) 0 0 (Nat.le_of_ble_eq_true rfl) (Nat.le_of_ble_eq_true rfl) (fun rr_93 S_94 H locs hp hw hfr hnw => ?_)
            obtain ⟨e2, hp⟩ := hp
            subst e2
            obtain ⟨f_95, f_96⟩ := hp
            refine lv_icmp_ne (tgt := 65) X.1 X.2.1 dX12_is_58 (by decide) (fun c_97 => ?_) (fun c_97 => ?_)
            · have z_b_98 := trivial
              have k_99 : rr_88.toInt ≠ rr_93.toInt := z_ne rfl rfl c_97
              refine lv_iconst (v := 0) X.1 X.2.1 dX12_is_65 (by decide) ?_
              refine lv_istore_n (lv' := [(2, .int 0), (3, .int (i3_69)), (0, .ref x), (1, .ref (κ (100 + i)))]) X.1 X.2.1 dX12_is_66 rfl hl (by decide) rfl (fun ls hl => ?_)
              obtain ⟨x_100, ex_100⟩ : ∃ y : Int32, y = i3_69 + 1 := ⟨_, rfl⟩
              have z_101 : x_100.toInt = i3_69_z + 1 := z_add ex_100 hz_i3_69 ti_1 (by omega) (by omega)
              refine lv_iinc (v := x_100) (lv' := [(3, .int (x_100)), (2, .int 0), (0, .ref x), (1, .ref (κ (100 + i)))]) X.1 X.2.1 dX12_is_67 hl (k := 1) rfl (by rw [ex_100]; rfl) (by decide) rfl (fun ls hl => ?_)
              refine lv_goto (tgt := 31) X.1 X.2.1 dX12_is_70 (by decide) ?_
              exact ih_L_67 _ (by omega) _ _ _ (0) (0) (x_100) (x_100.toInt) rfl hw ti_0 (by omega) rfl (by omega) (lv_sub hl [1, 0, 2, 3] rfl)
            · have z_b_102 := trivial
              have k_103 : rr_88.toInt = rr_93.toInt := z_eq rfl rfl c_97
              refine lv_iconst (v := 1) X.1 X.2.1 dX12_is_61 (by decide) ?_
              refine lv_goto (tgt := 66) X.1 X.2.1 dX12_is_62 (by decide) ?_
              refine lv_istore_n (lv' := [(2, .int 1), (3, .int (i3_69)), (0, .ref x), (1, .ref (κ (100 + i)))]) X.1 X.2.1 dX12_is_66 rfl hl (by decide) rfl (fun ls hl => ?_)
              obtain ⟨x_104, ex_104⟩ : ∃ y : Int32, y = i3_69 + 1 := ⟨_, rfl⟩
              have z_105 : x_104.toInt = i3_69_z + 1 := z_add ex_104 hz_i3_69 ti_1 (by omega) (by omega)
              refine lv_iinc (v := x_104) (lv' := [(3, .int (x_104)), (2, .int 1), (0, .ref x), (1, .ref (κ (100 + i)))]) X.1 X.2.1 dX12_is_67 hl (k := 1) rfl (by rw [ex_104]; rfl) (by decide) rfl (fun ls hl => ?_)
              refine lv_goto (tgt := 31) X.1 X.2.1 dX12_is_70 (by decide) ?_
              exact ih_L_67 _ (by omega) _ _ _ (1) (1) (x_104) (x_104.toInt) rfl hw ti_1 (by omega) rfl (by omega) (lv_sub hl [1, 0, 2, 3] rfl)
      exact L_67 _ _ _ _ (0) (0) (0) (0) rfl hw ti_0 (by omega) ti_0 (by omega) (lv_sub hl [1, 0, 2, 3] rfl)
    · have z_b_106 := trivial
      have k_107 : (v_52.toInt - v_55.toInt) = rr_60.toInt := z_eq z_59 rfl c_64
      refine lv_iconst (v := 1) X.1 X.2.1 dX12_is_23 (by decide) ?_
      refine lv_goto (tgt := 28) X.1 X.2.1 dX12_is_24 (by decide) ?_
      refine lv_istore_n (lv' := [(2, .int 1), (0, .ref x), (1, .ref (κ (100 + i)))]) X.1 X.2.1 dX12_is_28 rfl hl (by decide) rfl (fun ls hl => ?_)
      refine lv_iconst (v := 0) X.1 X.2.1 dX12_is_29 (by decide) ?_
      refine lv_istore_n (lv' := [(3, .int 0), (2, .int 1), (0, .ref x), (1, .ref (κ (100 + i)))]) X.1 X.2.1 dX12_is_30 rfl hl (by decide) rfl (fun ls hl => ?_)
      have L_108 : ∀ (n : Nat) (H : Heap) (locs : List Loc) (ls : Array Slot) (i2_109 : Int32) (i2_109_z : Int) (i3_110 : Int32) (i3_110_z : Int), ((64 - i3_110_z).toNat = n) → (Wd G cy (AS S s.heap.size) s.heap S H locs) → (i2_109.toInt = i2_109_z) → (0 ≤ i2_109_z ∧ i2_109_z ≤ 1) → (i3_110.toInt = i3_110_z) → (0 ≤ i3_110_z ∧ i3_110_z ≤ 64) → (lv_has ls 4 [(2, .int (i2_109)), (3, .int (i3_110)), (0, .ref x), (1, .ref (κ (100 + i)))]) → W p l e ({ frames := 5, cells := 0, slots := 0, locals := 240 }) s m [.ref x, .ref (κ (100 + i))].toArray below meth c H locs 0 0 QQ (F0 m 31 ls []) := by
        intro n
        induction n using Nat.strongRecOn with
        | ind n ih_L_108 =>
        intro H locs ls i2_109 i2_109_z i3_110 i3_110_z hn hw hz_i2_109 hr_i2_109 hz_i3_110 hr_i3_110 hl
        have rg_111 : (-2147483648) ≤ i2_109_z ∧ i2_109_z ≤ 2147483647 := by rw [← hz_i2_109]; exact ⟨z_lo _, z_hi _⟩
        have rg_112 : (-2147483648) ≤ i3_110_z ∧ i3_110_z ≤ 2147483647 := by rw [← hz_i3_110]; exact ⟨z_lo _, z_hi _⟩
        refine lv_iload_n X.1 X.2.1 dX12_is_31 rfl (lv_at hl 1 rfl) ?_
        refine lv_aload_n X.1 X.2.1 dX12_is_32 rfl (lv_at hl 3 rfl) ?_
        refine k_i (rm := { frames := 2, cells := 0, slots := 0, locals := 96 }) (av := [.ref (κ (100 + i))]) X hw (va_runV (As := []) (rest := [.int (i3_110)]) (cfix X) (k_J0_length_8abf5 l G cy κ S _ i hG hi_i) (cwV 0 X.2.2.2.1 gX12_is_J0_length_8abf5 rfl rfl rfl (by decide +kernel) ⟨Nat.le_of_ble_eq_true rfl, Nat.le_of_ble_eq_true rfl⟩) (pre_VS X hw _ i hi_i) rfl rfl hl.1 rfl (lv_room (Nat.le_of_ble_eq_true rfl)) dX12_is_33 ⟨Nat.le_of_ble_eq_true rfl, Nat.le_of_ble_eq_true rfl⟩) 0 0 (Nat.le_of_ble_eq_true rfl) (Nat.le_of_ble_eq_true rfl) (fun rr_113 S_114 H locs hp hw hfr hnw => ?_)
        obtain ⟨e2, hp⟩ := hp
        subst e2
        obtain ⟨f_115, f_116⟩ := hp
        refine lv_icmp_ge (tgt := 73) X.1 X.2.1 dX12_is_36 (by decide) (fun c_117 => ?_) (fun c_117 => ?_)
        · have z_b_118 := trivial
          have k_119 : i3_110_z ≥ rr_113.toInt := z_le rfl hz_i3_110 c_117
          refine lv_iload_n X.1 X.2.1 dX12_is_73 rfl (lv_at hl 0 rfl) ?_
          have hb01 : i2_109 = 0 ∨ i2_109 = 1 := z_01 hz_i2_109 (by omega) (by omega)
          rw [hQQ]
          exact ret_z X hw hr hlocks (Nat.le_of_ble_eq_true rfl) (Nat.le_of_ble_eq_true rfl) (by assumption) ⟨rfl, (by rcases hb01 with h | h; exact Or.inr ⟨trivial, h⟩; exact Or.inl ⟨trivial, h⟩)⟩ dX12_is_74
        · have z_b_120 := trivial
          have k_121 : i3_110_z < rr_113.toInt := z_nle rfl hz_i3_110 c_117
          refine lv_iload_n X.1 X.2.1 dX12_is_39 rfl (lv_at hl 0 rfl) ?_
          refine lv_if_eq (tgt := 73) X.1 X.2.1 dX12_is_40 (by decide) (fun c_122 => ?_) (fun c_122 => ?_)
          · have z_b_123 := trivial
            have k_124 : i2_109_z = 0 := z_eq hz_i2_109 ti_0 c_122
            refine lv_iload_n X.1 X.2.1 dX12_is_73 rfl (lv_at hl 0 rfl) ?_
            have hb01 : i2_109 = 0 ∨ i2_109 = 1 := z_01 hz_i2_109 (by omega) (by omega)
            rw [hQQ]
            exact ret_z X hw hr hlocks (Nat.le_of_ble_eq_true rfl) (Nat.le_of_ble_eq_true rfl) (by assumption) ⟨rfl, (by rcases hb01 with h | h; exact Or.inr ⟨trivial, h⟩; exact Or.inl ⟨trivial, h⟩)⟩ dX12_is_74
          · have z_b_125 := trivial
            have k_126 : i2_109_z ≠ 0 := z_ne hz_i2_109 ti_0 c_122
            refine lv_aload_n X.1 X.2.1 dX12_is_43 rfl (lv_at hl 2 rfl) ?_
            refine lv_aload_n X.1 X.2.1 dX12_is_44 rfl (lv_at hl 2 rfl) ?_
            refine r_getI (g := 1232) (x := v_55) X hw ha_x rfl 32 ev_55 (by decide) rfl inn_X12_is_12 (by decide) (X.2.2.2.1 (.fieldLink RX12 217 "SilkMillModel" "from" "I") (by decide +kernel)) rfl (gv_1232 _ _) dX12_is_45 ?_
            refine lv_iload_n X.1 X.2.1 dX12_is_48 rfl (lv_at hl 1 rfl) ?_
            refine lv_iadd X.1 X.2.1 dX12_is_49 ?_
            refine lv_topi (fun v_127 ev_127 => ?_)
            have z_128 : v_127.toInt = v_55.toInt + i3_110_z := z_add ev_127 rfl hz_i3_110 (by omega) (by omega)
            refine k_i (rm := { frames := 1, cells := 0, slots := 0, locals := 48 }) (av := [.ref x, .int (v_127)]) X hw (va_runV (As := [.int (v_127)]) (rest := []) (cfix X) (k_X12_byteAt l G cy κ S _ x (v_127) ((v_55.toInt + i3_110_z)) hG ha_x z_128 (by first | assumption | omega)) (cwV 1 X.2.2.2.1 gX12_is_X12_byteAt rfl rfl rfl (by decide +kernel) ⟨Nat.le_of_ble_eq_true rfl, Nat.le_of_ble_eq_true rfl⟩) (pre_V X hw _ ha_x rfl (by decide) rfl) rfl rfl hl.1 rfl (lv_room (Nat.le_of_ble_eq_true rfl)) dX12_is_50 ⟨Nat.le_of_ble_eq_true rfl, Nat.le_of_ble_eq_true rfl⟩) 0 0 (Nat.le_of_ble_eq_true rfl) (Nat.le_of_ble_eq_true rfl) (fun rr_129 S_130 H locs hp hw hfr hnw => ?_)
            obtain ⟨e2, hp⟩ := hp
            subst e2
            obtain ⟨f_131, f_132, f_133⟩ := hp
            refine lv_aload_n X.1 X.2.1 dX12_is_53 rfl (lv_at hl 3 rfl) ?_
            refine lv_iload_n X.1 X.2.1 dX12_is_54 rfl (lv_at hl 1 rfl) ?_
            refine k_i (rm := { frames := 4, cells := 0, slots := 0, locals := 192 }) (av := [.ref (κ (100 + i)), .int (i3_110)]) X hw (va_runV (As := [.int (i3_110)]) (rest := [.int (rr_129)]) (cfix X) (k_J0_charAt_5068e l G cy κ S _ i (i3_110) (i3_110_z) hG hi_i hz_i3_110 (by first | assumption | omega) (by first | assumption | omega)) (cwV 1 X.2.2.2.1 gX12_is_J0_charAt_5068e rfl rfl rfl (by decide +kernel) ⟨Nat.le_of_ble_eq_true rfl, Nat.le_of_ble_eq_true rfl⟩) (pre_VS X hw _ i hi_i) rfl rfl hl.1 rfl (lv_room (Nat.le_of_ble_eq_true rfl)) dX12_is_55 ⟨Nat.le_of_ble_eq_true rfl, Nat.le_of_ble_eq_true rfl⟩) 0 0 (Nat.le_of_ble_eq_true rfl) (Nat.le_of_ble_eq_true rfl) (fun rr_134 S_135 H locs hp hw hfr hnw => ?_)
            obtain ⟨e2, hp⟩ := hp
            subst e2
            obtain ⟨f_136, f_137⟩ := hp
            refine lv_icmp_ne (tgt := 65) X.1 X.2.1 dX12_is_58 (by decide) (fun c_138 => ?_) (fun c_138 => ?_)
            · have z_b_139 := trivial
              have k_140 : rr_129.toInt ≠ rr_134.toInt := z_ne rfl rfl c_138
              refine lv_iconst (v := 0) X.1 X.2.1 dX12_is_65 (by decide) ?_
              refine lv_istore_n (lv' := [(2, .int 0), (3, .int (i3_110)), (0, .ref x), (1, .ref (κ (100 + i)))]) X.1 X.2.1 dX12_is_66 rfl hl (by decide) rfl (fun ls hl => ?_)
              obtain ⟨x_141, ex_141⟩ : ∃ y : Int32, y = i3_110 + 1 := ⟨_, rfl⟩
              have z_142 : x_141.toInt = i3_110_z + 1 := z_add ex_141 hz_i3_110 ti_1 (by omega) (by omega)
              refine lv_iinc (v := x_141) (lv' := [(3, .int (x_141)), (2, .int 0), (0, .ref x), (1, .ref (κ (100 + i)))]) X.1 X.2.1 dX12_is_67 hl (k := 1) rfl (by rw [ex_141]; rfl) (by decide) rfl (fun ls hl => ?_)
              refine lv_goto (tgt := 31) X.1 X.2.1 dX12_is_70 (by decide) ?_
              exact ih_L_108 _ (by omega) _ _ _ (0) (0) (x_141) (x_141.toInt) rfl hw ti_0 (by omega) rfl (by omega) (lv_sub hl [1, 0, 2, 3] rfl)
            · have z_b_143 := trivial
              have k_144 : rr_129.toInt = rr_134.toInt := z_eq rfl rfl c_138
              refine lv_iconst (v := 1) X.1 X.2.1 dX12_is_61 (by decide) ?_
              refine lv_goto (tgt := 66) X.1 X.2.1 dX12_is_62 (by decide) ?_
              refine lv_istore_n (lv' := [(2, .int 1), (3, .int (i3_110)), (0, .ref x), (1, .ref (κ (100 + i)))]) X.1 X.2.1 dX12_is_66 rfl hl (by decide) rfl (fun ls hl => ?_)
              obtain ⟨x_145, ex_145⟩ : ∃ y : Int32, y = i3_110 + 1 := ⟨_, rfl⟩
              have z_146 : x_145.toInt = i3_110_z + 1 := z_add ex_145 hz_i3_110 ti_1 (by omega) (by omega)
              refine lv_iinc (v := x_145) (lv' := [(3, .int (x_145)), (2, .int 1), (0, .ref x), (1, .ref (κ (100 + i)))]) X.1 X.2.1 dX12_is_67 hl (k := 1) rfl (by rw [ex_145]; rfl) (by decide) rfl (fun ls hl => ?_)
              refine lv_goto (tgt := 31) X.1 X.2.1 dX12_is_70 (by decide) ?_
              exact ih_L_108 _ (by omega) _ _ _ (1) (1) (x_145) (x_145.toInt) rfl hw ti_1 (by omega) rfl (by omega) (lv_sub hl [1, 0, 2, 3] rfl)
      exact L_108 _ _ _ _ (1) (1) (0) (0) rfl hw ti_1 (by omega) ti_0 (by omega) (lv_sub hl [1, 0, 2, 3] rfl)
set_option maxHeartbeats 4000000 in
set_option maxRecDepth 100000 in
theorem k_X12_wrong (l : Launch) (G : va_G) (cy : Nat → ClassId) (κ : Nat → Nat) (S : PS) (sz : Nat) (x : Nat) (a1 : Int32) (a1_z : Int) (hG : GX S) (ha_x : At S x 12) (hz_a1 : a1.toInt = a1_z) : Ci l yX12_wrong wsX12_wrong ({ frames := 1, cells := 0, slots := 0, locals := 48 }) G cy κ S sz [.ref x, .int (a1)] (fun (r : Int32) (S9 : PS) => Ok MK S S9 ∧ (((False) ∧ r = 1) ∨ ((True) ∧ r = 0))) := by
  refine ent_m (cc := cX12_wrong) (maxL := 2) (ret := (some .boolean)) (by decide) rfl (Nat.le_of_ble_eq_true rfl) ?_
  intro p e s m below meth c ls X hr hlocks hin hw hl hsz
  subst hsz
  have X : Cx p c cX12_wrong 2 s [.ref x, .int (a1)].toArray wsX12_wrong RX12 m G cy κ (AS S s.heap.size) := X
  have hl : lv_has ls 2 [(0, .ref x), (1, .int (a1))] := hl
  have rg_a1 : (-2147483648) ≤ a1_z ∧ a1_z ≤ 2147483647 := by rw [← hz_a1]; exact ⟨z_lo _, z_hi _⟩
  have hO : Ok MK S S := Ok.rf hG
  refine lv_aload_n X.1 X.2.1 dX12_wrong_0 rfl (lv_at hl 0 rfl) ?_
  obtain ⟨v_1, ev_1⟩ : ∃ v, pI S 1230 x = v := ⟨_, rfl⟩
  have rg_3 := And.intro (z_lo v_1) (z_hi v_1)
  refine r_getI (g := 1230) (x := v_1) X hw ha_x rfl 30 ev_1 (by decide) rfl inn_X12_wrong_12 (by decide) (X.2.2.2.1 (.fieldLink RX12 229 "SilkMillModel" "faultKind" "I") (by decide +kernel)) rfl (gv_1230 _ _) dX12_wrong_1 ?_
  refine lv_if_ne (tgt := 20) X.1 X.2.1 dX12_wrong_4 (by decide) (fun c_4 => ?_) (fun c_4 => ?_)
  · have z_b_5 := trivial
    have k_6 : v_1.toInt ≠ 0 := z_ne rfl ti_0 c_4
    refine lv_iconst (v := 0) X.1 X.2.1 dX12_wrong_20 (by decide) ?_
    exact ret_z X hw hr hlocks (Nat.le_of_ble_eq_true rfl) (Nat.le_of_ble_eq_true rfl) (by decide) ⟨hO, Or.inr ⟨trivial, rfl⟩⟩ dX12_wrong_21
  · have z_b_7 := trivial
    have k_8 : v_1.toInt = 0 := z_eq rfl ti_0 c_4
    refine lv_aload_n X.1 X.2.1 dX12_wrong_7 rfl (lv_at hl 0 rfl) ?_
    refine lv_iload_n X.1 X.2.1 dX12_wrong_8 rfl (lv_at hl 1 rfl) ?_
    refine r_putI (v := a1) X hw ha_x rfl 30 1230 tyX12 (by decide) rfl inn_X12_wrong_12 tyX12_ok nmX12 (by decide) (X.2.2.2.1 (.fieldLink RX12 229 "SilkMillModel" "faultKind" "I") (by decide +kernel)) rfl (Or.inl rfl) rfl rfl (Nat.le_of_ble_eq_true rfl) (st_1230 _ _) dX12_wrong_9 (fun H locs hw => ?_)
    obtain ⟨S_9, eS_9⟩ : ∃ T, T = sI S 1230 x (a1) := ⟨_, rfl⟩
    rw [← eS_9] at hw
    have hO_10 : Ok MK S S_9 := hO.sI eS_9 (by decide +kernel) (uI_12_1230 hO.1 ha_x)
    have h_11 : pI S_9 1230 x = a1 := tI_sIs eS_9
    refine lv_aload_n X.1 X.2.1 dX12_wrong_12 rfl (lv_at hl 0 rfl) ?_
    refine lv_aload_n X.1 X.2.1 dX12_wrong_13 rfl (lv_at hl 0 rfl) ?_
    have t_12 : At S_9 x 12 := tAt_sI eS_9 ha_x
    obtain ⟨v_13, ev_13⟩ : ∃ v, pI S_9 1232 x = v := ⟨_, rfl⟩
    have rg_14 := gI_12_1232 hO_10.1 t_12; rw [ev_13] at rg_14
    refine r_getI (g := 1232) (x := v_13) X hw t_12 rfl 32 ev_13 (by decide) rfl inn_X12_wrong_12 (by decide) (X.2.2.2.1 (.fieldLink RX12 217 "SilkMillModel" "from" "I") (by decide +kernel)) rfl (gv_1232 _ _) dX12_wrong_14 ?_
    refine r_putI (v := v_13) X hw t_12 rfl 29 1229 tyX12 (by decide) rfl inn_X12_wrong_12 tyX12_ok nmX12 (by decide) (X.2.2.2.1 (.fieldLink RX12 86 "SilkMillModel" "faultPlace" "I") (by decide +kernel)) rfl (Or.inl rfl) rfl rfl (Nat.le_of_ble_eq_true rfl) (st_1229 _ _) dX12_wrong_17 (fun H locs hw => ?_)
    obtain ⟨S_15, eS_15⟩ : ∃ T, T = sI S_9 1229 x (v_13) := ⟨_, rfl⟩
    rw [← eS_15] at hw
    have hO_16 : Ok MK S S_15 := hO_10.sI eS_15 (by decide +kernel) (uI_12_1229 hO_10.1 t_12)
    have h_17 : pI S_15 1229 x = v_13 := tI_sIs eS_15
    refine lv_iconst (v := 0) X.1 X.2.1 dX12_wrong_20 (by decide) ?_
    exact ret_z X hw hr hlocks (Nat.le_of_ble_eq_true rfl) (Nat.le_of_ble_eq_true rfl) (by decide) ⟨hO_16, Or.inr ⟨trivial, rfl⟩⟩ dX12_wrong_21
set_option maxHeartbeats 4000000 in
set_option maxRecDepth 100000 in
theorem k_X12_must (l : Launch) (G : va_G) (cy : Nat → ClassId) (κ : Nat → Nat) (S : PS) (sz : Nat) (x : Nat) (i : Nat) (hG : GX S) (ha_x : At S x 12) (hi_i : i < 26) : Ci l yX12_must wsX12_must ({ frames := 6, cells := 0, slots := 0, locals := 288 }) G cy κ S sz [.ref x, .ref (κ (100 + i))] (fun (r : Int32) (S9 : PS) => Ok MK S S9 ∧ (((True) ∧ r = 1) ∨ ((True) ∧ r = 0))) := by
  refine ent_m (cc := cX12_must) (maxL := 2) (ret := (some .boolean)) (by decide) rfl (Nat.le_of_ble_eq_true rfl) ?_
  intro p e s m below meth c ls X hr hlocks hin hw hl hsz
  subst hsz
  have X : Cx p c cX12_must 2 s [.ref x, .ref (κ (100 + i))].toArray wsX12_must RX12 m G cy κ (AS S s.heap.size) := X
  have hl : lv_has ls 2 [(0, .ref x), (1, .ref (κ (100 + i)))] := hl
  have hO : Ok MK S S := Ok.rf hG
  refine lv_aload_n X.1 X.2.1 dX12_must_0 rfl (lv_at hl 0 rfl) ?_
  refine lv_aload_n X.1 X.2.1 dX12_must_1 rfl (lv_at hl 1 rfl) ?_
  refine k_i (rm := { frames := 5, cells := 0, slots := 0, locals := 240 }) (av := [.ref x, .ref (κ (100 + i))]) X hw (va_runV (As := [.ref (κ (100 + i))]) (rest := []) (cfix X) (k_X12_is l G cy κ S _ x i hO.1 ha_x hi_i) (cwV 1 X.2.2.2.1 gX12_must_X12_is rfl rfl rfl (by decide +kernel) ⟨Nat.le_of_ble_eq_true rfl, Nat.le_of_ble_eq_true rfl⟩) (pre_V X hw _ ha_x rfl (by decide) rfl) rfl rfl hl.1 rfl (lv_room (Nat.le_of_ble_eq_true rfl)) dX12_must_2 ⟨Nat.le_of_ble_eq_true rfl, Nat.le_of_ble_eq_true rfl⟩) 0 0 (Nat.le_of_ble_eq_true rfl) (Nat.le_of_ble_eq_true rfl) (fun rr_1 S_2 H locs hp hw hfr hnw => ?_)
  obtain ⟨e2, hp⟩ := hp
  subst e2
  rcases hp with ⟨f_3, er_4⟩ | ⟨f_3, er_4⟩ <;> subst er_4
  · have z_b_5 := trivial
    refine lv_if_ne (tgt := 14) X.1 X.2.1 dX12_must_5 (by decide) (fun c_6 => ?_) (fun c_6 => absurd c_6 (by decide))
    refine lv_aload_n X.1 X.2.1 dX12_must_14 rfl (lv_at hl 0 rfl) ?_
    refine k_v (rm := { frames := 2, cells := 0, slots := 0, locals := 96 }) (av := [.ref x]) X hw (va_runV (As := []) (rest := []) (cfix X) (k_X12_token l G cy κ S _ x hO.1 ha_x) (cwV 0 X.2.2.2.1 gX12_must_X12_token rfl rfl rfl (by decide +kernel) ⟨Nat.le_of_ble_eq_true rfl, Nat.le_of_ble_eq_true rfl⟩) (pre_V X hw _ ha_x rfl (by decide) rfl) rfl rfl hl.1 rfl (lv_room (Nat.le_of_ble_eq_true rfl)) dX12_must_15 ⟨Nat.le_of_ble_eq_true rfl, Nat.le_of_ble_eq_true rfl⟩) 0 0 (Nat.le_of_ble_eq_true rfl) (Nat.le_of_ble_eq_true rfl) (fun S_8 H locs hp hw hfr hnw => ?_)
    obtain ⟨hk_9, hp⟩ := hp
    have hO_10 : Ok MK S S_8 := hO.call hk_9 (by decide +kernel)
    refine lv_iconst (v := 1) X.1 X.2.1 dX12_must_18 (by decide) ?_
    exact ret_z X hw hr hlocks (Nat.le_of_ble_eq_true rfl) (Nat.le_of_ble_eq_true rfl) (by decide) ⟨hO_10, Or.inl ⟨trivial, rfl⟩⟩ dX12_must_19
  · have z_b_11 := trivial
    refine lv_if_ne (tgt := 14) X.1 X.2.1 dX12_must_5 (by decide) (fun c_12 => absurd c_12 (by decide)) (fun c_12 => ?_)
    refine lv_aload_n X.1 X.2.1 dX12_must_8 rfl (lv_at hl 0 rfl) ?_
    refine lv_iconst (v := 1) X.1 X.2.1 dX12_must_9 (by decide) ?_
    refine k_i (rm := { frames := 1, cells := 0, slots := 0, locals := 48 }) (av := [.ref x, .int 1]) X hw (va_runV (As := [.int 1]) (rest := []) (cfix X) (k_X12_wrong l G cy κ S _ x (1) (1) hO.1 ha_x ti_1) (cwV 1 X.2.2.2.1 gX12_must_X12_wrong rfl rfl rfl (by decide +kernel) ⟨Nat.le_of_ble_eq_true rfl, Nat.le_of_ble_eq_true rfl⟩) (pre_V X hw _ ha_x rfl (by decide) rfl) rfl rfl hl.1 rfl (lv_room (Nat.le_of_ble_eq_true rfl)) dX12_must_10 ⟨Nat.le_of_ble_eq_true rfl, Nat.le_of_ble_eq_true rfl⟩) 0 0 (Nat.le_of_ble_eq_true rfl) (Nat.le_of_ble_eq_true rfl) (fun rr_13 S_14 H locs hp hw hfr hnw => ?_)
    obtain ⟨hk_15, hp⟩ := hp
    have hO_16 : Ok MK S S_14 := hO.call hk_15 (by decide +kernel)
    rcases hp with ⟨f_17, er_18⟩ | ⟨f_17, er_18⟩ <;> subst er_18
    · have z_b_19 := trivial
      exact ret_z X hw hr hlocks (Nat.le_of_ble_eq_true rfl) (Nat.le_of_ble_eq_true rfl) (by decide) ⟨hO_16, Or.inl ⟨trivial, rfl⟩⟩ dX12_must_13
    · have z_b_20 := trivial
      exact ret_z X hw hr hlocks (Nat.le_of_ble_eq_true rfl) (Nat.le_of_ble_eq_true rfl) (by decide) ⟨hO_16, Or.inr ⟨trivial, rfl⟩⟩ dX12_must_13
set_option maxHeartbeats 4000000 in
set_option maxRecDepth 100000 in
theorem k_X12_which (l : Launch) (G : va_G) (cy : Nat → ClassId) (κ : Nat → Nat) (S : PS) (sz : Nat) (x : Nat) (i : Nat) (hG : GX S) (ha_x : At S x 12) (hi_i : i < 26) : Ci l yX12_which wsX12_which ({ frames := 5, cells := 0, slots := 0, locals := 240 }) G cy κ S sz [.ref x, .ref (κ (100 + i))] (fun (r : Int32) (S9 : PS) => S = S9 ∧ (True)) := by
  refine ent_m (cc := cX12_which) (maxL := 7) (ret := (some .int)) (by decide) rfl (Nat.le_of_ble_eq_true rfl) ?_
  intro p e s m below meth c ls X hr hlocks hin hw hl hsz
  subst hsz
  have X : Cx p c cX12_which 7 s [.ref x, .ref (κ (100 + i))].toArray wsX12_which RX12 m G cy κ (AS S s.heap.size) := X
  have hl : lv_has ls 7 [(0, .ref x), (1, .ref (κ (100 + i)))] := hl
  generalize hQQ : MQ below _ _ _ _ _ _ = QQ
  replace hQQ := hQQ.symm
  refine lv_iconst (v := 0) X.1 X.2.1 dX12_which_0 (by decide) ?_
  refine lv_istore_n (lv' := [(2, .int 0), (0, .ref x), (1, .ref (κ (100 + i)))]) X.1 X.2.1 dX12_which_1 rfl hl (by decide) rfl (fun ls hl => ?_)
  refine lv_iconst (v := 0) X.1 X.2.1 dX12_which_2 (by decide) ?_
  refine lv_istore_n (lv' := [(3, .int 0), (2, .int 0), (0, .ref x), (1, .ref (κ (100 + i)))]) X.1 X.2.1 dX12_which_3 rfl hl (by decide) rfl (fun ls hl => ?_)
  refine lv_iconst (v := 0) X.1 X.2.1 dX12_which_4 (by decide) ?_
  refine lv_istore (lv' := [(4, .int 0), (3, .int 0), (2, .int 0), (0, .ref x), (1, .ref (κ (100 + i)))]) X.1 X.2.1 dX12_which_5 hl (by decide) rfl (fun ls hl => ?_)
  have L_1 : ∀ (n : Nat) (H : Heap) (locs : List Loc) (ls : Array Slot) (i2_2 : Int32) (i2_2_z : Int) (i3_3 : Int32) (i3_3_z : Int) (i4_4 : Int32) (i4_4_z : Int), ((64 - i4_4_z).toNat = n) → (Wd G cy (AS S s.heap.size) s.heap S H locs) → (i2_2.toInt = i2_2_z) → (0 ≤ i2_2_z ∧ i2_2_z ≤ 64) → (i3_3.toInt = i3_3_z) → (0 ≤ i3_3_z ∧ i3_3_z ≤ 64) → (i4_4.toInt = i4_4_z) → (0 ≤ i4_4_z ∧ i4_4_z ≤ 64) → (i3_3_z ≤ i4_4_z) → (i2_2_z ≤ i4_4_z) → (lv_has ls 7 [(2, .int (i2_2)), (3, .int (i3_3)), (4, .int (i4_4)), (0, .ref x), (1, .ref (κ (100 + i)))]) → W p l e ({ frames := 5, cells := 0, slots := 0, locals := 240 }) s m [.ref x, .ref (κ (100 + i))].toArray below meth c H locs 0 0 QQ (F0 m 7 ls []) := by
    intro n
    induction n using Nat.strongRecOn with
    | ind n ih_L_1 =>
    intro H locs ls i2_2 i2_2_z i3_3 i3_3_z i4_4 i4_4_z hn hw hz_i2_2 hr_i2_2 hz_i3_3 hr_i3_3 hz_i4_4 hr_i4_4 iv_5 iv_6 hl
    have rg_7 : (-2147483648) ≤ i2_2_z ∧ i2_2_z ≤ 2147483647 := by rw [← hz_i2_2]; exact ⟨z_lo _, z_hi _⟩
    have rg_8 : (-2147483648) ≤ i3_3_z ∧ i3_3_z ≤ 2147483647 := by rw [← hz_i3_3]; exact ⟨z_lo _, z_hi _⟩
    have rg_9 : (-2147483648) ≤ i4_4_z ∧ i4_4_z ≤ 2147483647 := by rw [← hz_i4_4]; exact ⟨z_lo _, z_hi _⟩
    refine lv_iload X.1 X.2.1 dX12_which_7 (lv_at hl 2 rfl) ?_
    refine lv_aload_n X.1 X.2.1 dX12_which_9 rfl (lv_at hl 4 rfl) ?_
    refine k_i (rm := { frames := 2, cells := 0, slots := 0, locals := 96 }) (av := [.ref (κ (100 + i))]) X hw (va_runV (As := []) (rest := [.int (i4_4)]) (cfix X) (k_J0_length_8abf5 l G cy κ S _ i hG hi_i) (cwV 0 X.2.2.2.1 gX12_which_J0_length_8abf5 rfl rfl rfl (by decide +kernel) ⟨Nat.le_of_ble_eq_true rfl, Nat.le_of_ble_eq_true rfl⟩) (pre_VS X hw _ i hi_i) rfl rfl hl.1 rfl (lv_room (Nat.le_of_ble_eq_true rfl)) dX12_which_10 ⟨Nat.le_of_ble_eq_true rfl, Nat.le_of_ble_eq_true rfl⟩) 0 0 (Nat.le_of_ble_eq_true rfl) (Nat.le_of_ble_eq_true rfl) (fun rr_10 S_11 H locs hp hw hfr hnw => ?_)
    obtain ⟨e2, hp⟩ := hp
    subst e2
    obtain ⟨f_12, f_13⟩ := hp
    refine lv_icmp_ge (tgt := 141) X.1 X.2.1 dX12_which_13 (by decide) (fun c_14 => ?_) (fun c_14 => ?_)
    · have z_b_15 := trivial
      have k_16 : i4_4_z ≥ rr_10.toInt := z_le rfl hz_i4_4 c_14
      refine lv_iconst (v := (-1)) X.1 X.2.1 dX12_which_141 (by decide) ?_
      rw [hQQ]
      exact ret_i X hw hr hlocks (Nat.le_of_ble_eq_true rfl) (Nat.le_of_ble_eq_true rfl) ⟨rfl, trivial⟩ dX12_which_142
    · have z_b_17 := trivial
      have k_18 : i4_4_z < rr_10.toInt := z_nle rfl hz_i4_4 c_14
      refine lv_aload_n X.1 X.2.1 dX12_which_16 rfl (lv_at hl 4 rfl) ?_
      refine lv_iload X.1 X.2.1 dX12_which_17 (lv_at hl 2 rfl) ?_
      refine k_i (rm := { frames := 4, cells := 0, slots := 0, locals := 192 }) (av := [.ref (κ (100 + i)), .int (i4_4)]) X hw (va_runV (As := [.int (i4_4)]) (rest := []) (cfix X) (k_J0_charAt_5068e l G cy κ S _ i (i4_4) (i4_4_z) hG hi_i hz_i4_4 (by first | assumption | omega) (by first | assumption | omega)) (cwV 1 X.2.2.2.1 gX12_which_J0_charAt_5068e rfl rfl rfl (by decide +kernel) ⟨Nat.le_of_ble_eq_true rfl, Nat.le_of_ble_eq_true rfl⟩) (pre_VS X hw _ i hi_i) rfl rfl hl.1 rfl (lv_room (Nat.le_of_ble_eq_true rfl)) dX12_which_19 ⟨Nat.le_of_ble_eq_true rfl, Nat.le_of_ble_eq_true rfl⟩) 0 0 (Nat.le_of_ble_eq_true rfl) (Nat.le_of_ble_eq_true rfl) (fun rr_19 S_20 H locs hp hw hfr hnw => ?_)
      obtain ⟨e2, hp⟩ := hp
      subst e2
      obtain ⟨f_21, f_22⟩ := hp
      refine lv_bipush (v := 32) X.1 X.2.1 dX12_which_22 (by decide) ?_
      refine lv_icmp_eq (tgt := 30) X.1 X.2.1 dX12_which_24 (by decide) (fun c_23 => ?_) (fun c_23 => ?_)
      · have z_b_24 := trivial
        have k_25 : rr_19.toInt = 32 := z_eq rfl ti_32 c_23
        refine lv_aload_n X.1 X.2.1 dX12_which_30 rfl (lv_at hl 3 rfl) ?_
        obtain ⟨v_26, ev_26⟩ : ∃ v, pI S 1231 x = v := ⟨_, rfl⟩
        have rg_28 := And.intro (z_lo v_26) (z_hi v_26)
        have pz_29 : (pI S 1231 x).toInt = v_26.toInt := by rw [ev_26]
        refine r_getI (g := 1231) (x := v_26) X hw ha_x rfl 31 ev_26 (by decide) rfl inn_X12_which_12 (by decide) (X.2.2.2.1 (.fieldLink RX12 223 "SilkMillModel" "kind" "I") (by decide +kernel)) rfl (gv_1231 _ _) dX12_which_31 ?_
        refine lv_iconst (v := 1) X.1 X.2.1 dX12_which_34 (by decide) ?_
        refine lv_icmp_ne (tgt := 65) X.1 X.2.1 dX12_which_35 (by decide) (fun c_30 => ?_) (fun c_30 => ?_)
        · have z_b_31 := trivial
          have k_32 : v_26.toInt ≠ 1 := z_ne rfl ti_1 c_30
          refine lv_iconst (v := 0) X.1 X.2.1 dX12_which_65 (by decide) ?_
          refine lv_istore (lv' := [(5, .int 0), (2, .int (i2_2)), (3, .int (i3_3)), (4, .int (i4_4)), (0, .ref x), (1, .ref (κ (100 + i)))]) X.1 X.2.1 dX12_which_66 hl (by decide) rfl (fun ls hl => ?_)
          refine lv_iconst (v := 0) X.1 X.2.1 dX12_which_68 (by decide) ?_
          refine lv_istore (lv' := [(6, .int 0), (5, .int 0), (2, .int (i2_2)), (3, .int (i3_3)), (4, .int (i4_4)), (0, .ref x), (1, .ref (κ (100 + i)))]) X.1 X.2.1 dX12_which_69 hl (by decide) rfl (fun ls hl => ?_)
          have L_33 : ∀ (n : Nat) (H : Heap) (locs : List Loc) (ls : Array Slot) (i5_34 : Int32) (i5_34_z : Int) (i6_35 : Int32) (i6_35_z : Int), ((64 - i6_35_z).toNat = n) → (Wd G cy (AS S s.heap.size) s.heap S H locs) → (i5_34.toInt = i5_34_z) → (0 ≤ i5_34_z ∧ i5_34_z ≤ 1) → (i6_35.toInt = i6_35_z) → (0 ≤ i6_35_z ∧ i6_35_z ≤ 64) → (lv_has ls 7 [(5, .int (i5_34)), (6, .int (i6_35)), (2, .int (i2_2)), (3, .int (i3_3)), (4, .int (i4_4)), (0, .ref x), (1, .ref (κ (100 + i)))]) → W p l e ({ frames := 5, cells := 0, slots := 0, locals := 240 }) s m [.ref x, .ref (κ (100 + i))].toArray below meth c H locs 0 0 QQ (F0 m 71 ls []) := by
            intro n
            induction n using Nat.strongRecOn with
            | ind n ih_L_33 =>
            intro H locs ls i5_34 i5_34_z i6_35 i6_35_z hn hw hz_i5_34 hr_i5_34 hz_i6_35 hr_i6_35 hl
            have rg_36 : (-2147483648) ≤ i5_34_z ∧ i5_34_z ≤ 2147483647 := by rw [← hz_i5_34]; exact ⟨z_lo _, z_hi _⟩
            have rg_37 : (-2147483648) ≤ i6_35_z ∧ i6_35_z ≤ 2147483647 := by rw [← hz_i6_35]; exact ⟨z_lo _, z_hi _⟩
            refine lv_iload X.1 X.2.1 dX12_which_71 (lv_at hl 1 rfl) ?_
            refine lv_iload X.1 X.2.1 dX12_which_73 (lv_at hl 4 rfl) ?_
            refine lv_iload_n X.1 X.2.1 dX12_which_75 rfl (lv_at hl 3 rfl) ?_
            refine lv_isub X.1 X.2.1 dX12_which_76 ?_
            refine lv_topi (fun v_38 ev_38 => ?_)
            have z_39 : v_38.toInt = i4_4_z - i3_3_z := z_sub ev_38 hz_i4_4 hz_i3_3 (by omega) (by omega)
            refine lv_icmp_ge (tgt := 120) X.1 X.2.1 dX12_which_77 (by decide) (fun c_40 => ?_) (fun c_40 => ?_)
            · have z_b_41 := trivial
              have k_42 : i6_35_z ≥ (i4_4_z - i3_3_z) := z_le z_39 hz_i6_35 c_40
              refine lv_iload X.1 X.2.1 dX12_which_120 (lv_at hl 0 rfl) ?_
              refine lv_if_eq (tgt := 127) X.1 X.2.1 dX12_which_122 (by decide) (fun c_43 => ?_) (fun c_43 => ?_)
              · have z_b_44 := trivial
                have k_45 : i5_34_z = 0 := z_eq hz_i5_34 ti_0 c_43
                obtain ⟨x_46, ex_46⟩ : ∃ y : Int32, y = i2_2 + 1 := ⟨_, rfl⟩
                have z_47 : x_46.toInt = i2_2_z + 1 := z_add ex_46 hz_i2_2 ti_1 (by omega) (by omega)
                refine lv_iinc (v := x_46) (lv' := [(2, .int (x_46)), (5, .int (i5_34)), (6, .int (i6_35)), (3, .int (i3_3)), (4, .int (i4_4)), (0, .ref x), (1, .ref (κ (100 + i)))]) X.1 X.2.1 dX12_which_127 hl (k := 2) rfl (by rw [ex_46]; rfl) (by decide) rfl (fun ls hl => ?_)
                refine lv_iload X.1 X.2.1 dX12_which_130 (lv_at hl 4 rfl) ?_
                refine lv_iconst (v := 1) X.1 X.2.1 dX12_which_132 (by decide) ?_
                refine lv_iadd X.1 X.2.1 dX12_which_133 ?_
                refine lv_topi (fun v_48 ev_48 => ?_)
                have z_49 : v_48.toInt = i4_4_z + 1 := z_add ev_48 hz_i4_4 ti_1 (by omega) (by omega)
                refine lv_istore_n (lv' := [(3, .int (v_48)), (2, .int (x_46)), (5, .int (i5_34)), (6, .int (i6_35)), (4, .int (i4_4)), (0, .ref x), (1, .ref (κ (100 + i)))]) X.1 X.2.1 dX12_which_134 rfl hl (by decide) rfl (fun ls hl => ?_)
                obtain ⟨x_50, ex_50⟩ : ∃ y : Int32, y = i4_4 + 1 := ⟨_, rfl⟩
                have z_51 : x_50.toInt = i4_4_z + 1 := z_add ex_50 hz_i4_4 ti_1 (by omega) (by omega)
                refine lv_iinc (v := x_50) (lv' := [(4, .int (x_50)), (3, .int (v_48)), (2, .int (x_46)), (5, .int (i5_34)), (6, .int (i6_35)), (0, .ref x), (1, .ref (κ (100 + i)))]) X.1 X.2.1 dX12_which_135 hl (k := 4) rfl (by rw [ex_50]; rfl) (by decide) rfl (fun ls hl => ?_)
                refine lv_goto (tgt := 7) X.1 X.2.1 dX12_which_138 (by decide) ?_
                exact ih_L_1 _ (by omega) _ _ _ (x_46) (x_46.toInt) (v_48) ((i4_4_z + 1)) (x_50) (x_50.toInt) rfl hw rfl (by omega) z_49 (by omega) rfl (by omega) (by omega) (by omega) (lv_sub hl [2, 1, 0, 5, 6] rfl)
              · have z_b_52 := trivial
                have k_53 : i5_34_z ≠ 0 := z_ne hz_i5_34 ti_0 c_43
                refine lv_iload_n X.1 X.2.1 dX12_which_125 rfl (lv_at hl 2 rfl) ?_
                rw [hQQ]
                exact ret_i X hw hr hlocks (Nat.le_of_ble_eq_true rfl) (Nat.le_of_ble_eq_true rfl) ⟨rfl, trivial⟩ dX12_which_126
            · have z_b_54 := trivial
              have k_55 : i6_35_z < (i4_4_z - i3_3_z) := z_nle z_39 hz_i6_35 c_40
              refine lv_iload X.1 X.2.1 dX12_which_80 (lv_at hl 0 rfl) ?_
              refine lv_if_eq (tgt := 120) X.1 X.2.1 dX12_which_82 (by decide) (fun c_56 => ?_) (fun c_56 => ?_)
              · have z_b_57 := trivial
                have k_58 : i5_34_z = 0 := z_eq hz_i5_34 ti_0 c_56
                refine lv_iload X.1 X.2.1 dX12_which_120 (lv_at hl 0 rfl) ?_
                refine lv_if_eq (tgt := 127) X.1 X.2.1 dX12_which_122 (by decide) (fun c_59 => ?_) (fun c_59 => ?_)
                · have z_b_60 := trivial
                  have k_61 : i5_34_z = 0 := z_eq hz_i5_34 ti_0 c_59
                  obtain ⟨x_62, ex_62⟩ : ∃ y : Int32, y = i2_2 + 1 := ⟨_, rfl⟩
                  have z_63 : x_62.toInt = i2_2_z + 1 := z_add ex_62 hz_i2_2 ti_1 (by omega) (by omega)
                  refine lv_iinc (v := x_62) (lv' := [(2, .int (x_62)), (5, .int (i5_34)), (6, .int (i6_35)), (3, .int (i3_3)), (4, .int (i4_4)), (0, .ref x), (1, .ref (κ (100 + i)))]) X.1 X.2.1 dX12_which_127 hl (k := 2) rfl (by rw [ex_62]; rfl) (by decide) rfl (fun ls hl => ?_)
                  refine lv_iload X.1 X.2.1 dX12_which_130 (lv_at hl 4 rfl) ?_
                  refine lv_iconst (v := 1) X.1 X.2.1 dX12_which_132 (by decide) ?_
                  refine lv_iadd X.1 X.2.1 dX12_which_133 ?_
                  refine lv_topi (fun v_64 ev_64 => ?_)
                  have z_65 : v_64.toInt = i4_4_z + 1 := z_add ev_64 hz_i4_4 ti_1 (by omega) (by omega)
                  refine lv_istore_n (lv' := [(3, .int (v_64)), (2, .int (x_62)), (5, .int (i5_34)), (6, .int (i6_35)), (4, .int (i4_4)), (0, .ref x), (1, .ref (κ (100 + i)))]) X.1 X.2.1 dX12_which_134 rfl hl (by decide) rfl (fun ls hl => ?_)
                  obtain ⟨x_66, ex_66⟩ : ∃ y : Int32, y = i4_4 + 1 := ⟨_, rfl⟩
                  have z_67 : x_66.toInt = i4_4_z + 1 := z_add ex_66 hz_i4_4 ti_1 (by omega) (by omega)
                  refine lv_iinc (v := x_66) (lv' := [(4, .int (x_66)), (3, .int (v_64)), (2, .int (x_62)), (5, .int (i5_34)), (6, .int (i6_35)), (0, .ref x), (1, .ref (κ (100 + i)))]) X.1 X.2.1 dX12_which_135 hl (k := 4) rfl (by rw [ex_66]; rfl) (by decide) rfl (fun ls hl => ?_)
                  refine lv_goto (tgt := 7) X.1 X.2.1 dX12_which_138 (by decide) ?_
                  exact ih_L_1 _ (by omega) _ _ _ (x_62) (x_62.toInt) (v_64) ((i4_4_z + 1)) (x_66) (x_66.toInt) rfl hw rfl (by omega) z_65 (by omega) rfl (by omega) (by omega) (by omega) (lv_sub hl [2, 1, 0, 5, 6] rfl)
                · have z_b_68 := trivial
                  have k_69 : i5_34_z ≠ 0 := z_ne hz_i5_34 ti_0 c_59
                  refine lv_iload_n X.1 X.2.1 dX12_which_125 rfl (lv_at hl 2 rfl) ?_
                  rw [hQQ]
                  exact ret_i X hw hr hlocks (Nat.le_of_ble_eq_true rfl) (Nat.le_of_ble_eq_true rfl) ⟨rfl, trivial⟩ dX12_which_126
              · have z_b_70 := trivial
                have k_71 : i5_34_z ≠ 0 := z_ne hz_i5_34 ti_0 c_56
                refine lv_aload_n X.1 X.2.1 dX12_which_85 rfl (lv_at hl 5 rfl) ?_
                refine lv_aload_n X.1 X.2.1 dX12_which_86 rfl (lv_at hl 5 rfl) ?_
                obtain ⟨v_72, ev_72⟩ : ∃ v, pI S 1232 x = v := ⟨_, rfl⟩
                have rg_73 := gI_12_1232 hG ha_x; rw [ev_72] at rg_73
                have pz_74 : (pI S 1232 x).toInt = v_72.toInt := by rw [ev_72]
                refine r_getI (g := 1232) (x := v_72) X hw ha_x rfl 32 ev_72 (by decide) rfl inn_X12_which_12 (by decide) (X.2.2.2.1 (.fieldLink RX12 217 "SilkMillModel" "from" "I") (by decide +kernel)) rfl (gv_1232 _ _) dX12_which_87 ?_
                refine lv_iload X.1 X.2.1 dX12_which_90 (lv_at hl 1 rfl) ?_
                refine lv_iadd X.1 X.2.1 dX12_which_92 ?_
                refine lv_topi (fun v_75 ev_75 => ?_)
                have z_76 : v_75.toInt = v_72.toInt + i6_35_z := z_add ev_75 rfl hz_i6_35 (by omega) (by omega)
                refine k_i (rm := { frames := 1, cells := 0, slots := 0, locals := 48 }) (av := [.ref x, .int (v_75)]) X hw (va_runV (As := [.int (v_75)]) (rest := []) (cfix X) (k_X12_byteAt l G cy κ S _ x (v_75) ((v_72.toInt + i6_35_z)) hG ha_x z_76 (by first | assumption | omega)) (cwV 1 X.2.2.2.1 gX12_which_X12_byteAt rfl rfl rfl (by decide +kernel) ⟨Nat.le_of_ble_eq_true rfl, Nat.le_of_ble_eq_true rfl⟩) (pre_V X hw _ ha_x rfl (by decide) rfl) rfl rfl hl.1 rfl (lv_room (Nat.le_of_ble_eq_true rfl)) dX12_which_93 ⟨Nat.le_of_ble_eq_true rfl, Nat.le_of_ble_eq_true rfl⟩) 0 0 (Nat.le_of_ble_eq_true rfl) (Nat.le_of_ble_eq_true rfl) (fun rr_77 S_78 H locs hp hw hfr hnw => ?_)
                obtain ⟨e2, hp⟩ := hp
                subst e2
                obtain ⟨f_79, f_80, f_81⟩ := hp
                refine lv_aload_n X.1 X.2.1 dX12_which_96 rfl (lv_at hl 6 rfl) ?_
                refine lv_iload_n X.1 X.2.1 dX12_which_97 rfl (lv_at hl 3 rfl) ?_
                refine lv_iload X.1 X.2.1 dX12_which_98 (lv_at hl 1 rfl) ?_
                refine lv_iadd X.1 X.2.1 dX12_which_100 ?_
                refine lv_topi (fun v_82 ev_82 => ?_)
                have z_83 : v_82.toInt = i3_3_z + i6_35_z := z_add ev_82 hz_i3_3 hz_i6_35 (by omega) (by omega)
                refine k_i (rm := { frames := 4, cells := 0, slots := 0, locals := 192 }) (av := [.ref (κ (100 + i)), .int (v_82)]) X hw (va_runV (As := [.int (v_82)]) (rest := [.int (rr_77)]) (cfix X) (k_J0_charAt_5068e l G cy κ S _ i (v_82) ((i3_3_z + i6_35_z)) hG hi_i z_83 (by first | assumption | omega) (by first | assumption | omega)) (cwV 1 X.2.2.2.1 gX12_which_J0_charAt_5068e rfl rfl rfl (by decide +kernel) ⟨Nat.le_of_ble_eq_true rfl, Nat.le_of_ble_eq_true rfl⟩) (pre_VS X hw _ i hi_i) rfl rfl hl.1 rfl (lv_room (Nat.le_of_ble_eq_true rfl)) dX12_which_101 ⟨Nat.le_of_ble_eq_true rfl, Nat.le_of_ble_eq_true rfl⟩) 0 0 (Nat.le_of_ble_eq_true rfl) (Nat.le_of_ble_eq_true rfl) (fun rr_84 S_85 H locs hp hw hfr hnw => ?_)
                obtain ⟨e2, hp⟩ := hp
                subst e2
                obtain ⟨f_86, f_87⟩ := hp
                refine lv_icmp_ne (tgt := 111) X.1 X.2.1 dX12_which_104 (by decide) (fun c_88 => ?_) (fun c_88 => ?_)
                · have z_b_89 := trivial
                  have k_90 : rr_77.toInt ≠ rr_84.toInt := z_ne rfl rfl c_88
                  refine lv_iconst (v := 0) X.1 X.2.1 dX12_which_111 (by decide) ?_
                  refine lv_istore (lv' := [(5, .int 0), (6, .int (i6_35)), (2, .int (i2_2)), (3, .int (i3_3)), (4, .int (i4_4)), (0, .ref x), (1, .ref (κ (100 + i)))]) X.1 X.2.1 dX12_which_112 hl (by decide) rfl (fun ls hl => ?_)
                  obtain ⟨x_91, ex_91⟩ : ∃ y : Int32, y = i6_35 + 1 := ⟨_, rfl⟩
                  have z_92 : x_91.toInt = i6_35_z + 1 := z_add ex_91 hz_i6_35 ti_1 (by omega) (by omega)
                  refine lv_iinc (v := x_91) (lv' := [(6, .int (x_91)), (5, .int 0), (2, .int (i2_2)), (3, .int (i3_3)), (4, .int (i4_4)), (0, .ref x), (1, .ref (κ (100 + i)))]) X.1 X.2.1 dX12_which_114 hl (k := 1) rfl (by rw [ex_91]; rfl) (by decide) rfl (fun ls hl => ?_)
                  refine lv_goto (tgt := 71) X.1 X.2.1 dX12_which_117 (by decide) ?_
                  exact ih_L_33 _ (by omega) _ _ _ (0) (0) (x_91) (x_91.toInt) rfl hw ti_0 (by omega) rfl (by omega) (lv_sub hl [1, 0, 2, 3, 4, 5, 6] rfl)
                · have z_b_93 := trivial
                  have k_94 : rr_77.toInt = rr_84.toInt := z_eq rfl rfl c_88
                  refine lv_iconst (v := 1) X.1 X.2.1 dX12_which_107 (by decide) ?_
                  refine lv_goto (tgt := 112) X.1 X.2.1 dX12_which_108 (by decide) ?_
                  refine lv_istore (lv' := [(5, .int 1), (6, .int (i6_35)), (2, .int (i2_2)), (3, .int (i3_3)), (4, .int (i4_4)), (0, .ref x), (1, .ref (κ (100 + i)))]) X.1 X.2.1 dX12_which_112 hl (by decide) rfl (fun ls hl => ?_)
                  obtain ⟨x_95, ex_95⟩ : ∃ y : Int32, y = i6_35 + 1 := ⟨_, rfl⟩
                  have z_96 : x_95.toInt = i6_35_z + 1 := z_add ex_95 hz_i6_35 ti_1 (by omega) (by omega)
                  refine lv_iinc (v := x_95) (lv' := [(6, .int (x_95)), (5, .int 1), (2, .int (i2_2)), (3, .int (i3_3)), (4, .int (i4_4)), (0, .ref x), (1, .ref (κ (100 + i)))]) X.1 X.2.1 dX12_which_114 hl (k := 1) rfl (by rw [ex_95]; rfl) (by decide) rfl (fun ls hl => ?_)
                  refine lv_goto (tgt := 71) X.1 X.2.1 dX12_which_117 (by decide) ?_
                  exact ih_L_33 _ (by omega) _ _ _ (1) (1) (x_95) (x_95.toInt) rfl hw ti_1 (by omega) rfl (by omega) (lv_sub hl [1, 0, 2, 3, 4, 5, 6] rfl)
          exact L_33 _ _ _ _ (0) (0) (0) (0) rfl hw ti_0 (by omega) ti_0 (by omega) (lv_sub hl [1, 0, 2, 3, 4, 5, 6] rfl)
        · have z_b_97 := trivial
          have k_98 : v_26.toInt = 1 := z_eq rfl ti_1 c_30
          refine lv_aload_n X.1 X.2.1 dX12_which_38 rfl (lv_at hl 3 rfl) ?_
          obtain ⟨v_99, ev_99⟩ : ∃ v, pI S 1230 x = v := ⟨_, rfl⟩
          have rg_101 := And.intro (z_lo v_99) (z_hi v_99)
          have pz_102 : (pI S 1230 x).toInt = v_99.toInt := by rw [ev_99]
          refine r_getI (g := 1230) (x := v_99) X hw ha_x rfl 30 ev_99 (by decide) rfl inn_X12_which_12 (by decide) (X.2.2.2.1 (.fieldLink RX12 229 "SilkMillModel" "faultKind" "I") (by decide +kernel)) rfl (gv_1230 _ _) dX12_which_39 ?_
          refine lv_if_ne (tgt := 65) X.1 X.2.1 dX12_which_42 (by decide) (fun c_103 => ?_) (fun c_103 => ?_)
          · have z_b_104 := trivial
            have k_105 : v_99.toInt ≠ 0 := z_ne rfl ti_0 c_103
            refine lv_iconst (v := 0) X.1 X.2.1 dX12_which_65 (by decide) ?_
            refine lv_istore (lv' := [(5, .int 0), (2, .int (i2_2)), (3, .int (i3_3)), (4, .int (i4_4)), (0, .ref x), (1, .ref (κ (100 + i)))]) X.1 X.2.1 dX12_which_66 hl (by decide) rfl (fun ls hl => ?_)
            refine lv_iconst (v := 0) X.1 X.2.1 dX12_which_68 (by decide) ?_
            refine lv_istore (lv' := [(6, .int 0), (5, .int 0), (2, .int (i2_2)), (3, .int (i3_3)), (4, .int (i4_4)), (0, .ref x), (1, .ref (κ (100 + i)))]) X.1 X.2.1 dX12_which_69 hl (by decide) rfl (fun ls hl => ?_)
            have L_106 : ∀ (n : Nat) (H : Heap) (locs : List Loc) (ls : Array Slot) (i5_107 : Int32) (i5_107_z : Int) (i6_108 : Int32) (i6_108_z : Int), ((64 - i6_108_z).toNat = n) → (Wd G cy (AS S s.heap.size) s.heap S H locs) → (i5_107.toInt = i5_107_z) → (0 ≤ i5_107_z ∧ i5_107_z ≤ 1) → (i6_108.toInt = i6_108_z) → (0 ≤ i6_108_z ∧ i6_108_z ≤ 64) → (lv_has ls 7 [(5, .int (i5_107)), (6, .int (i6_108)), (2, .int (i2_2)), (3, .int (i3_3)), (4, .int (i4_4)), (0, .ref x), (1, .ref (κ (100 + i)))]) → W p l e ({ frames := 5, cells := 0, slots := 0, locals := 240 }) s m [.ref x, .ref (κ (100 + i))].toArray below meth c H locs 0 0 QQ (F0 m 71 ls []) := by
              intro n
              induction n using Nat.strongRecOn with
              | ind n ih_L_106 =>
              intro H locs ls i5_107 i5_107_z i6_108 i6_108_z hn hw hz_i5_107 hr_i5_107 hz_i6_108 hr_i6_108 hl
              have rg_109 : (-2147483648) ≤ i5_107_z ∧ i5_107_z ≤ 2147483647 := by rw [← hz_i5_107]; exact ⟨z_lo _, z_hi _⟩
              have rg_110 : (-2147483648) ≤ i6_108_z ∧ i6_108_z ≤ 2147483647 := by rw [← hz_i6_108]; exact ⟨z_lo _, z_hi _⟩
              refine lv_iload X.1 X.2.1 dX12_which_71 (lv_at hl 1 rfl) ?_
              refine lv_iload X.1 X.2.1 dX12_which_73 (lv_at hl 4 rfl) ?_
              refine lv_iload_n X.1 X.2.1 dX12_which_75 rfl (lv_at hl 3 rfl) ?_
              refine lv_isub X.1 X.2.1 dX12_which_76 ?_
              refine lv_topi (fun v_111 ev_111 => ?_)
              have z_112 : v_111.toInt = i4_4_z - i3_3_z := z_sub ev_111 hz_i4_4 hz_i3_3 (by omega) (by omega)
              refine lv_icmp_ge (tgt := 120) X.1 X.2.1 dX12_which_77 (by decide) (fun c_113 => ?_) (fun c_113 => ?_)
              · have z_b_114 := trivial
                have k_115 : i6_108_z ≥ (i4_4_z - i3_3_z) := z_le z_112 hz_i6_108 c_113
                refine lv_iload X.1 X.2.1 dX12_which_120 (lv_at hl 0 rfl) ?_
                refine lv_if_eq (tgt := 127) X.1 X.2.1 dX12_which_122 (by decide) (fun c_116 => ?_) (fun c_116 => ?_)
                · have z_b_117 := trivial
                  have k_118 : i5_107_z = 0 := z_eq hz_i5_107 ti_0 c_116
                  obtain ⟨x_119, ex_119⟩ : ∃ y : Int32, y = i2_2 + 1 := ⟨_, rfl⟩
                  have z_120 : x_119.toInt = i2_2_z + 1 := z_add ex_119 hz_i2_2 ti_1 (by omega) (by omega)
                  refine lv_iinc (v := x_119) (lv' := [(2, .int (x_119)), (5, .int (i5_107)), (6, .int (i6_108)), (3, .int (i3_3)), (4, .int (i4_4)), (0, .ref x), (1, .ref (κ (100 + i)))]) X.1 X.2.1 dX12_which_127 hl (k := 2) rfl (by rw [ex_119]; rfl) (by decide) rfl (fun ls hl => ?_)
                  refine lv_iload X.1 X.2.1 dX12_which_130 (lv_at hl 4 rfl) ?_
                  refine lv_iconst (v := 1) X.1 X.2.1 dX12_which_132 (by decide) ?_
                  refine lv_iadd X.1 X.2.1 dX12_which_133 ?_
                  refine lv_topi (fun v_121 ev_121 => ?_)
                  have z_122 : v_121.toInt = i4_4_z + 1 := z_add ev_121 hz_i4_4 ti_1 (by omega) (by omega)
                  refine lv_istore_n (lv' := [(3, .int (v_121)), (2, .int (x_119)), (5, .int (i5_107)), (6, .int (i6_108)), (4, .int (i4_4)), (0, .ref x), (1, .ref (κ (100 + i)))]) X.1 X.2.1 dX12_which_134 rfl hl (by decide) rfl (fun ls hl => ?_)
                  obtain ⟨x_123, ex_123⟩ : ∃ y : Int32, y = i4_4 + 1 := ⟨_, rfl⟩
                  have z_124 : x_123.toInt = i4_4_z + 1 := z_add ex_123 hz_i4_4 ti_1 (by omega) (by omega)
                  refine lv_iinc (v := x_123) (lv' := [(4, .int (x_123)), (3, .int (v_121)), (2, .int (x_119)), (5, .int (i5_107)), (6, .int (i6_108)), (0, .ref x), (1, .ref (κ (100 + i)))]) X.1 X.2.1 dX12_which_135 hl (k := 4) rfl (by rw [ex_123]; rfl) (by decide) rfl (fun ls hl => ?_)
                  refine lv_goto (tgt := 7) X.1 X.2.1 dX12_which_138 (by decide) ?_
                  exact ih_L_1 _ (by omega) _ _ _ (x_119) (x_119.toInt) (v_121) ((i4_4_z + 1)) (x_123) (x_123.toInt) rfl hw rfl (by omega) z_122 (by omega) rfl (by omega) (by omega) (by omega) (lv_sub hl [2, 1, 0, 5, 6] rfl)
                · have z_b_125 := trivial
                  have k_126 : i5_107_z ≠ 0 := z_ne hz_i5_107 ti_0 c_116
                  refine lv_iload_n X.1 X.2.1 dX12_which_125 rfl (lv_at hl 2 rfl) ?_
                  rw [hQQ]
                  exact ret_i X hw hr hlocks (Nat.le_of_ble_eq_true rfl) (Nat.le_of_ble_eq_true rfl) ⟨rfl, trivial⟩ dX12_which_126
              · have z_b_127 := trivial
                have k_128 : i6_108_z < (i4_4_z - i3_3_z) := z_nle z_112 hz_i6_108 c_113
                refine lv_iload X.1 X.2.1 dX12_which_80 (lv_at hl 0 rfl) ?_
                refine lv_if_eq (tgt := 120) X.1 X.2.1 dX12_which_82 (by decide) (fun c_129 => ?_) (fun c_129 => ?_)
                · have z_b_130 := trivial
                  have k_131 : i5_107_z = 0 := z_eq hz_i5_107 ti_0 c_129
                  refine lv_iload X.1 X.2.1 dX12_which_120 (lv_at hl 0 rfl) ?_
                  refine lv_if_eq (tgt := 127) X.1 X.2.1 dX12_which_122 (by decide) (fun c_132 => ?_) (fun c_132 => ?_)
                  · have z_b_133 := trivial
                    have k_134 : i5_107_z = 0 := z_eq hz_i5_107 ti_0 c_132
                    obtain ⟨x_135, ex_135⟩ : ∃ y : Int32, y = i2_2 + 1 := ⟨_, rfl⟩
                    have z_136 : x_135.toInt = i2_2_z + 1 := z_add ex_135 hz_i2_2 ti_1 (by omega) (by omega)
                    refine lv_iinc (v := x_135) (lv' := [(2, .int (x_135)), (5, .int (i5_107)), (6, .int (i6_108)), (3, .int (i3_3)), (4, .int (i4_4)), (0, .ref x), (1, .ref (κ (100 + i)))]) X.1 X.2.1 dX12_which_127 hl (k := 2) rfl (by rw [ex_135]; rfl) (by decide) rfl (fun ls hl => ?_)
                    refine lv_iload X.1 X.2.1 dX12_which_130 (lv_at hl 4 rfl) ?_
                    refine lv_iconst (v := 1) X.1 X.2.1 dX12_which_132 (by decide) ?_
                    refine lv_iadd X.1 X.2.1 dX12_which_133 ?_
                    refine lv_topi (fun v_137 ev_137 => ?_)
                    have z_138 : v_137.toInt = i4_4_z + 1 := z_add ev_137 hz_i4_4 ti_1 (by omega) (by omega)
                    refine lv_istore_n (lv' := [(3, .int (v_137)), (2, .int (x_135)), (5, .int (i5_107)), (6, .int (i6_108)), (4, .int (i4_4)), (0, .ref x), (1, .ref (κ (100 + i)))]) X.1 X.2.1 dX12_which_134 rfl hl (by decide) rfl (fun ls hl => ?_)
                    obtain ⟨x_139, ex_139⟩ : ∃ y : Int32, y = i4_4 + 1 := ⟨_, rfl⟩
                    have z_140 : x_139.toInt = i4_4_z + 1 := z_add ex_139 hz_i4_4 ti_1 (by omega) (by omega)
                    refine lv_iinc (v := x_139) (lv' := [(4, .int (x_139)), (3, .int (v_137)), (2, .int (x_135)), (5, .int (i5_107)), (6, .int (i6_108)), (0, .ref x), (1, .ref (κ (100 + i)))]) X.1 X.2.1 dX12_which_135 hl (k := 4) rfl (by rw [ex_139]; rfl) (by decide) rfl (fun ls hl => ?_)
                    refine lv_goto (tgt := 7) X.1 X.2.1 dX12_which_138 (by decide) ?_
                    exact ih_L_1 _ (by omega) _ _ _ (x_135) (x_135.toInt) (v_137) ((i4_4_z + 1)) (x_139) (x_139.toInt) rfl hw rfl (by omega) z_138 (by omega) rfl (by omega) (by omega) (by omega) (lv_sub hl [2, 1, 0, 5, 6] rfl)
                  · have z_b_141 := trivial
                    have k_142 : i5_107_z ≠ 0 := z_ne hz_i5_107 ti_0 c_132
                    refine lv_iload_n X.1 X.2.1 dX12_which_125 rfl (lv_at hl 2 rfl) ?_
                    rw [hQQ]
                    exact ret_i X hw hr hlocks (Nat.le_of_ble_eq_true rfl) (Nat.le_of_ble_eq_true rfl) ⟨rfl, trivial⟩ dX12_which_126
                · have z_b_143 := trivial
                  have k_144 : i5_107_z ≠ 0 := z_ne hz_i5_107 ti_0 c_129
                  refine lv_aload_n X.1 X.2.1 dX12_which_85 rfl (lv_at hl 5 rfl) ?_
                  refine lv_aload_n X.1 X.2.1 dX12_which_86 rfl (lv_at hl 5 rfl) ?_
                  obtain ⟨v_145, ev_145⟩ : ∃ v, pI S 1232 x = v := ⟨_, rfl⟩
                  have rg_146 := gI_12_1232 hG ha_x; rw [ev_145] at rg_146
                  have pz_147 : (pI S 1232 x).toInt = v_145.toInt := by rw [ev_145]
                  refine r_getI (g := 1232) (x := v_145) X hw ha_x rfl 32 ev_145 (by decide) rfl inn_X12_which_12 (by decide) (X.2.2.2.1 (.fieldLink RX12 217 "SilkMillModel" "from" "I") (by decide +kernel)) rfl (gv_1232 _ _) dX12_which_87 ?_
                  refine lv_iload X.1 X.2.1 dX12_which_90 (lv_at hl 1 rfl) ?_
                  refine lv_iadd X.1 X.2.1 dX12_which_92 ?_
                  refine lv_topi (fun v_148 ev_148 => ?_)
                  have z_149 : v_148.toInt = v_145.toInt + i6_108_z := z_add ev_148 rfl hz_i6_108 (by omega) (by omega)
                  refine k_i (rm := { frames := 1, cells := 0, slots := 0, locals := 48 }) (av := [.ref x, .int (v_148)]) X hw (va_runV (As := [.int (v_148)]) (rest := []) (cfix X) (k_X12_byteAt l G cy κ S _ x (v_148) ((v_145.toInt + i6_108_z)) hG ha_x z_149 (by first | assumption | omega)) (cwV 1 X.2.2.2.1 gX12_which_X12_byteAt rfl rfl rfl (by decide +kernel) ⟨Nat.le_of_ble_eq_true rfl, Nat.le_of_ble_eq_true rfl⟩) (pre_V X hw _ ha_x rfl (by decide) rfl) rfl rfl hl.1 rfl (lv_room (Nat.le_of_ble_eq_true rfl)) dX12_which_93 ⟨Nat.le_of_ble_eq_true rfl, Nat.le_of_ble_eq_true rfl⟩) 0 0 (Nat.le_of_ble_eq_true rfl) (Nat.le_of_ble_eq_true rfl) (fun rr_150 S_151 H locs hp hw hfr hnw => ?_)
                  obtain ⟨e2, hp⟩ := hp
                  subst e2
                  obtain ⟨f_152, f_153, f_154⟩ := hp
                  refine lv_aload_n X.1 X.2.1 dX12_which_96 rfl (lv_at hl 6 rfl) ?_
                  refine lv_iload_n X.1 X.2.1 dX12_which_97 rfl (lv_at hl 3 rfl) ?_
                  refine lv_iload X.1 X.2.1 dX12_which_98 (lv_at hl 1 rfl) ?_
                  refine lv_iadd X.1 X.2.1 dX12_which_100 ?_
                  refine lv_topi (fun v_155 ev_155 => ?_)
                  have z_156 : v_155.toInt = i3_3_z + i6_108_z := z_add ev_155 hz_i3_3 hz_i6_108 (by omega) (by omega)
                  refine k_i (rm := { frames := 4, cells := 0, slots := 0, locals := 192 }) (av := [.ref (κ (100 + i)), .int (v_155)]) X hw (va_runV (As := [.int (v_155)]) (rest := [.int (rr_150)]) (cfix X) (k_J0_charAt_5068e l G cy κ S _ i (v_155) ((i3_3_z + i6_108_z)) hG hi_i z_156 (by first | assumption | omega) (by first | assumption | omega)) (cwV 1 X.2.2.2.1 gX12_which_J0_charAt_5068e rfl rfl rfl (by decide +kernel) ⟨Nat.le_of_ble_eq_true rfl, Nat.le_of_ble_eq_true rfl⟩) (pre_VS X hw _ i hi_i) rfl rfl hl.1 rfl (lv_room (Nat.le_of_ble_eq_true rfl)) dX12_which_101 ⟨Nat.le_of_ble_eq_true rfl, Nat.le_of_ble_eq_true rfl⟩) 0 0 (Nat.le_of_ble_eq_true rfl) (Nat.le_of_ble_eq_true rfl) (fun rr_157 S_158 H locs hp hw hfr hnw => ?_)
                  obtain ⟨e2, hp⟩ := hp
                  subst e2
                  obtain ⟨f_159, f_160⟩ := hp
                  refine lv_icmp_ne (tgt := 111) X.1 X.2.1 dX12_which_104 (by decide) (fun c_161 => ?_) (fun c_161 => ?_)
                  · have z_b_162 := trivial
                    have k_163 : rr_150.toInt ≠ rr_157.toInt := z_ne rfl rfl c_161
                    refine lv_iconst (v := 0) X.1 X.2.1 dX12_which_111 (by decide) ?_
                    refine lv_istore (lv' := [(5, .int 0), (6, .int (i6_108)), (2, .int (i2_2)), (3, .int (i3_3)), (4, .int (i4_4)), (0, .ref x), (1, .ref (κ (100 + i)))]) X.1 X.2.1 dX12_which_112 hl (by decide) rfl (fun ls hl => ?_)
                    obtain ⟨x_164, ex_164⟩ : ∃ y : Int32, y = i6_108 + 1 := ⟨_, rfl⟩
                    have z_165 : x_164.toInt = i6_108_z + 1 := z_add ex_164 hz_i6_108 ti_1 (by omega) (by omega)
                    refine lv_iinc (v := x_164) (lv' := [(6, .int (x_164)), (5, .int 0), (2, .int (i2_2)), (3, .int (i3_3)), (4, .int (i4_4)), (0, .ref x), (1, .ref (κ (100 + i)))]) X.1 X.2.1 dX12_which_114 hl (k := 1) rfl (by rw [ex_164]; rfl) (by decide) rfl (fun ls hl => ?_)
                    refine lv_goto (tgt := 71) X.1 X.2.1 dX12_which_117 (by decide) ?_
                    exact ih_L_106 _ (by omega) _ _ _ (0) (0) (x_164) (x_164.toInt) rfl hw ti_0 (by omega) rfl (by omega) (lv_sub hl [1, 0, 2, 3, 4, 5, 6] rfl)
                  · have z_b_166 := trivial
                    have k_167 : rr_150.toInt = rr_157.toInt := z_eq rfl rfl c_161
                    refine lv_iconst (v := 1) X.1 X.2.1 dX12_which_107 (by decide) ?_
                    refine lv_goto (tgt := 112) X.1 X.2.1 dX12_which_108 (by decide) ?_
                    refine lv_istore (lv' := [(5, .int 1), (6, .int (i6_108)), (2, .int (i2_2)), (3, .int (i3_3)), (4, .int (i4_4)), (0, .ref x), (1, .ref (κ (100 + i)))]) X.1 X.2.1 dX12_which_112 hl (by decide) rfl (fun ls hl => ?_)
                    obtain ⟨x_168, ex_168⟩ : ∃ y : Int32, y = i6_108 + 1 := ⟨_, rfl⟩
                    have z_169 : x_168.toInt = i6_108_z + 1 := z_add ex_168 hz_i6_108 ti_1 (by omega) (by omega)
                    refine lv_iinc (v := x_168) (lv' := [(6, .int (x_168)), (5, .int 1), (2, .int (i2_2)), (3, .int (i3_3)), (4, .int (i4_4)), (0, .ref x), (1, .ref (κ (100 + i)))]) X.1 X.2.1 dX12_which_114 hl (k := 1) rfl (by rw [ex_168]; rfl) (by decide) rfl (fun ls hl => ?_)
                    refine lv_goto (tgt := 71) X.1 X.2.1 dX12_which_117 (by decide) ?_
                    exact ih_L_106 _ (by omega) _ _ _ (1) (1) (x_168) (x_168.toInt) rfl hw ti_1 (by omega) rfl (by omega) (lv_sub hl [1, 0, 2, 3, 4, 5, 6] rfl)
            exact L_106 _ _ _ _ (0) (0) (0) (0) rfl hw ti_0 (by omega) ti_0 (by omega) (lv_sub hl [1, 0, 2, 3, 4, 5, 6] rfl)
          · have z_b_170 := trivial
            have k_171 : v_99.toInt = 0 := z_eq rfl ti_0 c_103
            refine lv_aload_n X.1 X.2.1 dX12_which_45 rfl (lv_at hl 3 rfl) ?_
            obtain ⟨v_172, ev_172⟩ : ∃ v, pI S 1233 x = v := ⟨_, rfl⟩
            have rg_173 := gI_12_1233 hG ha_x; rw [ev_172] at rg_173
            have pz_174 : (pI S 1233 x).toInt = v_172.toInt := by rw [ev_172]
            refine r_getI (g := 1233) (x := v_172) X hw ha_x rfl 33 ev_172 (by decide) rfl inn_X12_which_12 (by decide) (X.2.2.2.1 (.fieldLink RX12 214 "SilkMillModel" "to" "I") (by decide +kernel)) rfl (gv_1233 _ _) dX12_which_46 ?_
            refine lv_aload_n X.1 X.2.1 dX12_which_49 rfl (lv_at hl 3 rfl) ?_
            obtain ⟨v_175, ev_175⟩ : ∃ v, pI S 1232 x = v := ⟨_, rfl⟩
            have rg_176 := gI_12_1232 hG ha_x; rw [ev_175] at rg_176
            have pz_177 : (pI S 1232 x).toInt = v_175.toInt := by rw [ev_175]
            refine r_getI (g := 1232) (x := v_175) X hw ha_x rfl 32 ev_175 (by decide) rfl inn_X12_which_12 (by decide) (X.2.2.2.1 (.fieldLink RX12 217 "SilkMillModel" "from" "I") (by decide +kernel)) rfl (gv_1232 _ _) dX12_which_50 ?_
            refine lv_isub X.1 X.2.1 dX12_which_53 ?_
            refine lv_topi (fun v_178 ev_178 => ?_)
            have z_179 : v_178.toInt = v_172.toInt - v_175.toInt := z_sub ev_178 rfl rfl (by omega) (by omega)
            refine lv_iload X.1 X.2.1 dX12_which_54 (lv_at hl 2 rfl) ?_
            refine lv_iload_n X.1 X.2.1 dX12_which_56 rfl (lv_at hl 1 rfl) ?_
            refine lv_isub X.1 X.2.1 dX12_which_57 ?_
            refine lv_topi (fun v_180 ev_180 => ?_)
            have z_181 : v_180.toInt = i4_4_z - i3_3_z := z_sub ev_180 hz_i4_4 hz_i3_3 (by omega) (by omega)
            refine lv_icmp_ne (tgt := 65) X.1 X.2.1 dX12_which_58 (by decide) (fun c_182 => ?_) (fun c_182 => ?_)
            · have z_b_183 := trivial
              have k_184 : (v_172.toInt - v_175.toInt) ≠ (i4_4_z - i3_3_z) := z_ne z_179 z_181 c_182
              refine lv_iconst (v := 0) X.1 X.2.1 dX12_which_65 (by decide) ?_
              refine lv_istore (lv' := [(5, .int 0), (2, .int (i2_2)), (3, .int (i3_3)), (4, .int (i4_4)), (0, .ref x), (1, .ref (κ (100 + i)))]) X.1 X.2.1 dX12_which_66 hl (by decide) rfl (fun ls hl => ?_)
              refine lv_iconst (v := 0) X.1 X.2.1 dX12_which_68 (by decide) ?_
              refine lv_istore (lv' := [(6, .int 0), (5, .int 0), (2, .int (i2_2)), (3, .int (i3_3)), (4, .int (i4_4)), (0, .ref x), (1, .ref (κ (100 + i)))]) X.1 X.2.1 dX12_which_69 hl (by decide) rfl (fun ls hl => ?_)
              have L_185 : ∀ (n : Nat) (H : Heap) (locs : List Loc) (ls : Array Slot) (i5_186 : Int32) (i5_186_z : Int) (i6_187 : Int32) (i6_187_z : Int), ((64 - i6_187_z).toNat = n) → (Wd G cy (AS S s.heap.size) s.heap S H locs) → (i5_186.toInt = i5_186_z) → (0 ≤ i5_186_z ∧ i5_186_z ≤ 1) → (i6_187.toInt = i6_187_z) → (0 ≤ i6_187_z ∧ i6_187_z ≤ 64) → (lv_has ls 7 [(5, .int (i5_186)), (6, .int (i6_187)), (2, .int (i2_2)), (3, .int (i3_3)), (4, .int (i4_4)), (0, .ref x), (1, .ref (κ (100 + i)))]) → W p l e ({ frames := 5, cells := 0, slots := 0, locals := 240 }) s m [.ref x, .ref (κ (100 + i))].toArray below meth c H locs 0 0 QQ (F0 m 71 ls []) := by
                intro n
                induction n using Nat.strongRecOn with
                | ind n ih_L_185 =>
                intro H locs ls i5_186 i5_186_z i6_187 i6_187_z hn hw hz_i5_186 hr_i5_186 hz_i6_187 hr_i6_187 hl
                have rg_188 : (-2147483648) ≤ i5_186_z ∧ i5_186_z ≤ 2147483647 := by rw [← hz_i5_186]; exact ⟨z_lo _, z_hi _⟩
                have rg_189 : (-2147483648) ≤ i6_187_z ∧ i6_187_z ≤ 2147483647 := by rw [← hz_i6_187]; exact ⟨z_lo _, z_hi _⟩
                refine lv_iload X.1 X.2.1 dX12_which_71 (lv_at hl 1 rfl) ?_
                refine lv_iload X.1 X.2.1 dX12_which_73 (lv_at hl 4 rfl) ?_
                refine lv_iload_n X.1 X.2.1 dX12_which_75 rfl (lv_at hl 3 rfl) ?_
                refine lv_isub X.1 X.2.1 dX12_which_76 ?_
                refine lv_topi (fun v_190 ev_190 => ?_)
                have z_191 : v_190.toInt = i4_4_z - i3_3_z := z_sub ev_190 hz_i4_4 hz_i3_3 (by omega) (by omega)
                refine lv_icmp_ge (tgt := 120) X.1 X.2.1 dX12_which_77 (by decide) (fun c_192 => ?_) (fun c_192 => ?_)
                · have z_b_193 := trivial
                  have k_194 : i6_187_z ≥ (i4_4_z - i3_3_z) := z_le z_191 hz_i6_187 c_192
                  refine lv_iload X.1 X.2.1 dX12_which_120 (lv_at hl 0 rfl) ?_
                  refine lv_if_eq (tgt := 127) X.1 X.2.1 dX12_which_122 (by decide) (fun c_195 => ?_) (fun c_195 => ?_)
                  · have z_b_196 := trivial
                    have k_197 : i5_186_z = 0 := z_eq hz_i5_186 ti_0 c_195
                    obtain ⟨x_198, ex_198⟩ : ∃ y : Int32, y = i2_2 + 1 := ⟨_, rfl⟩
                    have z_199 : x_198.toInt = i2_2_z + 1 := z_add ex_198 hz_i2_2 ti_1 (by omega) (by omega)
                    refine lv_iinc (v := x_198) (lv' := [(2, .int (x_198)), (5, .int (i5_186)), (6, .int (i6_187)), (3, .int (i3_3)), (4, .int (i4_4)), (0, .ref x), (1, .ref (κ (100 + i)))]) X.1 X.2.1 dX12_which_127 hl (k := 2) rfl (by rw [ex_198]; rfl) (by decide) rfl (fun ls hl => ?_)
                    refine lv_iload X.1 X.2.1 dX12_which_130 (lv_at hl 4 rfl) ?_
                    refine lv_iconst (v := 1) X.1 X.2.1 dX12_which_132 (by decide) ?_
                    refine lv_iadd X.1 X.2.1 dX12_which_133 ?_
                    refine lv_topi (fun v_200 ev_200 => ?_)
                    have z_201 : v_200.toInt = i4_4_z + 1 := z_add ev_200 hz_i4_4 ti_1 (by omega) (by omega)
                    refine lv_istore_n (lv' := [(3, .int (v_200)), (2, .int (x_198)), (5, .int (i5_186)), (6, .int (i6_187)), (4, .int (i4_4)), (0, .ref x), (1, .ref (κ (100 + i)))]) X.1 X.2.1 dX12_which_134 rfl hl (by decide) rfl (fun ls hl => ?_)
                    obtain ⟨x_202, ex_202⟩ : ∃ y : Int32, y = i4_4 + 1 := ⟨_, rfl⟩
                    have z_203 : x_202.toInt = i4_4_z + 1 := z_add ex_202 hz_i4_4 ti_1 (by omega) (by omega)
                    refine lv_iinc (v := x_202) (lv' := [(4, .int (x_202)), (3, .int (v_200)), (2, .int (x_198)), (5, .int (i5_186)), (6, .int (i6_187)), (0, .ref x), (1, .ref (κ (100 + i)))]) X.1 X.2.1 dX12_which_135 hl (k := 4) rfl (by rw [ex_202]; rfl) (by decide) rfl (fun ls hl => ?_)
                    refine lv_goto (tgt := 7) X.1 X.2.1 dX12_which_138 (by decide) ?_
                    exact ih_L_1 _ (by omega) _ _ _ (x_198) (x_198.toInt) (v_200) ((i4_4_z + 1)) (x_202) (x_202.toInt) rfl hw rfl (by omega) z_201 (by omega) rfl (by omega) (by omega) (by omega) (lv_sub hl [2, 1, 0, 5, 6] rfl)
                  · have z_b_204 := trivial
                    have k_205 : i5_186_z ≠ 0 := z_ne hz_i5_186 ti_0 c_195
                    refine lv_iload_n X.1 X.2.1 dX12_which_125 rfl (lv_at hl 2 rfl) ?_
                    rw [hQQ]
                    exact ret_i X hw hr hlocks (Nat.le_of_ble_eq_true rfl) (Nat.le_of_ble_eq_true rfl) ⟨rfl, trivial⟩ dX12_which_126
                · have z_b_206 := trivial
                  have k_207 : i6_187_z < (i4_4_z - i3_3_z) := z_nle z_191 hz_i6_187 c_192
                  refine lv_iload X.1 X.2.1 dX12_which_80 (lv_at hl 0 rfl) ?_
                  refine lv_if_eq (tgt := 120) X.1 X.2.1 dX12_which_82 (by decide) (fun c_208 => ?_) (fun c_208 => ?_)
                  · have z_b_209 := trivial
                    have k_210 : i5_186_z = 0 := z_eq hz_i5_186 ti_0 c_208
                    refine lv_iload X.1 X.2.1 dX12_which_120 (lv_at hl 0 rfl) ?_
                    refine lv_if_eq (tgt := 127) X.1 X.2.1 dX12_which_122 (by decide) (fun c_211 => ?_) (fun c_211 => ?_)
                    · have z_b_212 := trivial
                      have k_213 : i5_186_z = 0 := z_eq hz_i5_186 ti_0 c_211
                      obtain ⟨x_214, ex_214⟩ : ∃ y : Int32, y = i2_2 + 1 := ⟨_, rfl⟩
                      have z_215 : x_214.toInt = i2_2_z + 1 := z_add ex_214 hz_i2_2 ti_1 (by omega) (by omega)
                      refine lv_iinc (v := x_214) (lv' := [(2, .int (x_214)), (5, .int (i5_186)), (6, .int (i6_187)), (3, .int (i3_3)), (4, .int (i4_4)), (0, .ref x), (1, .ref (κ (100 + i)))]) X.1 X.2.1 dX12_which_127 hl (k := 2) rfl (by rw [ex_214]; rfl) (by decide) rfl (fun ls hl => ?_)
                      refine lv_iload X.1 X.2.1 dX12_which_130 (lv_at hl 4 rfl) ?_
                      refine lv_iconst (v := 1) X.1 X.2.1 dX12_which_132 (by decide) ?_
                      refine lv_iadd X.1 X.2.1 dX12_which_133 ?_
                      refine lv_topi (fun v_216 ev_216 => ?_)
                      have z_217 : v_216.toInt = i4_4_z + 1 := z_add ev_216 hz_i4_4 ti_1 (by omega) (by omega)
                      refine lv_istore_n (lv' := [(3, .int (v_216)), (2, .int (x_214)), (5, .int (i5_186)), (6, .int (i6_187)), (4, .int (i4_4)), (0, .ref x), (1, .ref (κ (100 + i)))]) X.1 X.2.1 dX12_which_134 rfl hl (by decide) rfl (fun ls hl => ?_)
                      obtain ⟨x_218, ex_218⟩ : ∃ y : Int32, y = i4_4 + 1 := ⟨_, rfl⟩
                      have z_219 : x_218.toInt = i4_4_z + 1 := z_add ex_218 hz_i4_4 ti_1 (by omega) (by omega)
                      refine lv_iinc (v := x_218) (lv' := [(4, .int (x_218)), (3, .int (v_216)), (2, .int (x_214)), (5, .int (i5_186)), (6, .int (i6_187)), (0, .ref x), (1, .ref (κ (100 + i)))]) X.1 X.2.1 dX12_which_135 hl (k := 4) rfl (by rw [ex_218]; rfl) (by decide) rfl (fun ls hl => ?_)
                      refine lv_goto (tgt := 7) X.1 X.2.1 dX12_which_138 (by decide) ?_
                      exact ih_L_1 _ (by omega) _ _ _ (x_214) (x_214.toInt) (v_216) ((i4_4_z + 1)) (x_218) (x_218.toInt) rfl hw rfl (by omega) z_217 (by omega) rfl (by omega) (by omega) (by omega) (lv_sub hl [2, 1, 0, 5, 6] rfl)
                    · have z_b_220 := trivial
                      have k_221 : i5_186_z ≠ 0 := z_ne hz_i5_186 ti_0 c_211
                      refine lv_iload_n X.1 X.2.1 dX12_which_125 rfl (lv_at hl 2 rfl) ?_
                      rw [hQQ]
                      exact ret_i X hw hr hlocks (Nat.le_of_ble_eq_true rfl) (Nat.le_of_ble_eq_true rfl) ⟨rfl, trivial⟩ dX12_which_126
                  · have z_b_222 := trivial
                    have k_223 : i5_186_z ≠ 0 := z_ne hz_i5_186 ti_0 c_208
                    refine lv_aload_n X.1 X.2.1 dX12_which_85 rfl (lv_at hl 5 rfl) ?_
                    refine lv_aload_n X.1 X.2.1 dX12_which_86 rfl (lv_at hl 5 rfl) ?_
                    refine r_getI (g := 1232) (x := v_175) X hw ha_x rfl 32 ev_175 (by decide) rfl inn_X12_which_12 (by decide) (X.2.2.2.1 (.fieldLink RX12 217 "SilkMillModel" "from" "I") (by decide +kernel)) rfl (gv_1232 _ _) dX12_which_87 ?_
                    refine lv_iload X.1 X.2.1 dX12_which_90 (lv_at hl 1 rfl) ?_
                    refine lv_iadd X.1 X.2.1 dX12_which_92 ?_
                    refine lv_topi (fun v_224 ev_224 => ?_)
                    have z_225 : v_224.toInt = v_175.toInt + i6_187_z := z_add ev_224 rfl hz_i6_187 (by omega) (by omega)
                    refine k_i (rm := { frames := 1, cells := 0, slots := 0, locals := 48 }) (av := [.ref x, .int (v_224)]) X hw (va_runV (As := [.int (v_224)]) (rest := []) (cfix X) (k_X12_byteAt l G cy κ S _ x (v_224) ((v_175.toInt + i6_187_z)) hG ha_x z_225 (by first | assumption | omega)) (cwV 1 X.2.2.2.1 gX12_which_X12_byteAt rfl rfl rfl (by decide +kernel) ⟨Nat.le_of_ble_eq_true rfl, Nat.le_of_ble_eq_true rfl⟩) (pre_V X hw _ ha_x rfl (by decide) rfl) rfl rfl hl.1 rfl (lv_room (Nat.le_of_ble_eq_true rfl)) dX12_which_93 ⟨Nat.le_of_ble_eq_true rfl, Nat.le_of_ble_eq_true rfl⟩) 0 0 (Nat.le_of_ble_eq_true rfl) (Nat.le_of_ble_eq_true rfl) (fun rr_226 S_227 H locs hp hw hfr hnw => ?_)
                    obtain ⟨e2, hp⟩ := hp
                    subst e2
                    obtain ⟨f_228, f_229, f_230⟩ := hp
                    refine lv_aload_n X.1 X.2.1 dX12_which_96 rfl (lv_at hl 6 rfl) ?_
                    refine lv_iload_n X.1 X.2.1 dX12_which_97 rfl (lv_at hl 3 rfl) ?_
                    refine lv_iload X.1 X.2.1 dX12_which_98 (lv_at hl 1 rfl) ?_
                    refine lv_iadd X.1 X.2.1 dX12_which_100 ?_
                    refine lv_topi (fun v_231 ev_231 => ?_)
                    have z_232 : v_231.toInt = i3_3_z + i6_187_z := z_add ev_231 hz_i3_3 hz_i6_187 (by omega) (by omega)
                    refine k_i (rm := { frames := 4, cells := 0, slots := 0, locals := 192 }) (av := [.ref (κ (100 + i)), .int (v_231)]) X hw (va_runV (As := [.int (v_231)]) (rest := [.int (rr_226)]) (cfix X) (k_J0_charAt_5068e l G cy κ S _ i (v_231) ((i3_3_z + i6_187_z)) hG hi_i z_232 (by first | assumption | omega) (by first | assumption | omega)) (cwV 1 X.2.2.2.1 gX12_which_J0_charAt_5068e rfl rfl rfl (by decide +kernel) ⟨Nat.le_of_ble_eq_true rfl, Nat.le_of_ble_eq_true rfl⟩) (pre_VS X hw _ i hi_i) rfl rfl hl.1 rfl (lv_room (Nat.le_of_ble_eq_true rfl)) dX12_which_101 ⟨Nat.le_of_ble_eq_true rfl, Nat.le_of_ble_eq_true rfl⟩) 0 0 (Nat.le_of_ble_eq_true rfl) (Nat.le_of_ble_eq_true rfl) (fun rr_233 S_234 H locs hp hw hfr hnw => ?_)
                    obtain ⟨e2, hp⟩ := hp
                    subst e2
                    obtain ⟨f_235, f_236⟩ := hp
                    refine lv_icmp_ne (tgt := 111) X.1 X.2.1 dX12_which_104 (by decide) (fun c_237 => ?_) (fun c_237 => ?_)
                    · have z_b_238 := trivial
                      have k_239 : rr_226.toInt ≠ rr_233.toInt := z_ne rfl rfl c_237
                      refine lv_iconst (v := 0) X.1 X.2.1 dX12_which_111 (by decide) ?_
                      refine lv_istore (lv' := [(5, .int 0), (6, .int (i6_187)), (2, .int (i2_2)), (3, .int (i3_3)), (4, .int (i4_4)), (0, .ref x), (1, .ref (κ (100 + i)))]) X.1 X.2.1 dX12_which_112 hl (by decide) rfl (fun ls hl => ?_)
                      obtain ⟨x_240, ex_240⟩ : ∃ y : Int32, y = i6_187 + 1 := ⟨_, rfl⟩
                      have z_241 : x_240.toInt = i6_187_z + 1 := z_add ex_240 hz_i6_187 ti_1 (by omega) (by omega)
                      refine lv_iinc (v := x_240) (lv' := [(6, .int (x_240)), (5, .int 0), (2, .int (i2_2)), (3, .int (i3_3)), (4, .int (i4_4)), (0, .ref x), (1, .ref (κ (100 + i)))]) X.1 X.2.1 dX12_which_114 hl (k := 1) rfl (by rw [ex_240]; rfl) (by decide) rfl (fun ls hl => ?_)
                      refine lv_goto (tgt := 71) X.1 X.2.1 dX12_which_117 (by decide) ?_
                      exact ih_L_185 _ (by omega) _ _ _ (0) (0) (x_240) (x_240.toInt) rfl hw ti_0 (by omega) rfl (by omega) (lv_sub hl [1, 0, 2, 3, 4, 5, 6] rfl)
                    · have z_b_242 := trivial
                      have k_243 : rr_226.toInt = rr_233.toInt := z_eq rfl rfl c_237
                      refine lv_iconst (v := 1) X.1 X.2.1 dX12_which_107 (by decide) ?_
                      refine lv_goto (tgt := 112) X.1 X.2.1 dX12_which_108 (by decide) ?_
                      refine lv_istore (lv' := [(5, .int 1), (6, .int (i6_187)), (2, .int (i2_2)), (3, .int (i3_3)), (4, .int (i4_4)), (0, .ref x), (1, .ref (κ (100 + i)))]) X.1 X.2.1 dX12_which_112 hl (by decide) rfl (fun ls hl => ?_)
                      obtain ⟨x_244, ex_244⟩ : ∃ y : Int32, y = i6_187 + 1 := ⟨_, rfl⟩
                      have z_245 : x_244.toInt = i6_187_z + 1 := z_add ex_244 hz_i6_187 ti_1 (by omega) (by omega)
                      refine lv_iinc (v := x_244) (lv' := [(6, .int (x_244)), (5, .int 1), (2, .int (i2_2)), (3, .int (i3_3)), (4, .int (i4_4)), (0, .ref x), (1, .ref (κ (100 + i)))]) X.1 X.2.1 dX12_which_114 hl (k := 1) rfl (by rw [ex_244]; rfl) (by decide) rfl (fun ls hl => ?_)
                      refine lv_goto (tgt := 71) X.1 X.2.1 dX12_which_117 (by decide) ?_
                      exact ih_L_185 _ (by omega) _ _ _ (1) (1) (x_244) (x_244.toInt) rfl hw ti_1 (by omega) rfl (by omega) (lv_sub hl [1, 0, 2, 3, 4, 5, 6] rfl)
              exact L_185 _ _ _ _ (0) (0) (0) (0) rfl hw ti_0 (by omega) ti_0 (by omega) (lv_sub hl [1, 0, 2, 3, 4, 5, 6] rfl)
            · have z_b_246 := trivial
              have k_247 : (v_172.toInt - v_175.toInt) = (i4_4_z - i3_3_z) := z_eq z_179 z_181 c_182
              refine lv_iconst (v := 1) X.1 X.2.1 dX12_which_61 (by decide) ?_
              refine lv_goto (tgt := 66) X.1 X.2.1 dX12_which_62 (by decide) ?_
              refine lv_istore (lv' := [(5, .int 1), (2, .int (i2_2)), (3, .int (i3_3)), (4, .int (i4_4)), (0, .ref x), (1, .ref (κ (100 + i)))]) X.1 X.2.1 dX12_which_66 hl (by decide) rfl (fun ls hl => ?_)
              refine lv_iconst (v := 0) X.1 X.2.1 dX12_which_68 (by decide) ?_
              refine lv_istore (lv' := [(6, .int 0), (5, .int 1), (2, .int (i2_2)), (3, .int (i3_3)), (4, .int (i4_4)), (0, .ref x), (1, .ref (κ (100 + i)))]) X.1 X.2.1 dX12_which_69 hl (by decide) rfl (fun ls hl => ?_)
              have L_248 : ∀ (n : Nat) (H : Heap) (locs : List Loc) (ls : Array Slot) (i5_249 : Int32) (i5_249_z : Int) (i6_250 : Int32) (i6_250_z : Int), ((64 - i6_250_z).toNat = n) → (Wd G cy (AS S s.heap.size) s.heap S H locs) → (i5_249.toInt = i5_249_z) → (0 ≤ i5_249_z ∧ i5_249_z ≤ 1) → (i6_250.toInt = i6_250_z) → (0 ≤ i6_250_z ∧ i6_250_z ≤ 64) → (lv_has ls 7 [(5, .int (i5_249)), (6, .int (i6_250)), (2, .int (i2_2)), (3, .int (i3_3)), (4, .int (i4_4)), (0, .ref x), (1, .ref (κ (100 + i)))]) → W p l e ({ frames := 5, cells := 0, slots := 0, locals := 240 }) s m [.ref x, .ref (κ (100 + i))].toArray below meth c H locs 0 0 QQ (F0 m 71 ls []) := by
                intro n
                induction n using Nat.strongRecOn with
                | ind n ih_L_248 =>
                intro H locs ls i5_249 i5_249_z i6_250 i6_250_z hn hw hz_i5_249 hr_i5_249 hz_i6_250 hr_i6_250 hl
                have rg_251 : (-2147483648) ≤ i5_249_z ∧ i5_249_z ≤ 2147483647 := by rw [← hz_i5_249]; exact ⟨z_lo _, z_hi _⟩
                have rg_252 : (-2147483648) ≤ i6_250_z ∧ i6_250_z ≤ 2147483647 := by rw [← hz_i6_250]; exact ⟨z_lo _, z_hi _⟩
                refine lv_iload X.1 X.2.1 dX12_which_71 (lv_at hl 1 rfl) ?_
                refine lv_iload X.1 X.2.1 dX12_which_73 (lv_at hl 4 rfl) ?_
                refine lv_iload_n X.1 X.2.1 dX12_which_75 rfl (lv_at hl 3 rfl) ?_
                refine lv_isub X.1 X.2.1 dX12_which_76 ?_
                refine lv_topi (fun v_253 ev_253 => ?_)
                have z_254 : v_253.toInt = i4_4_z - i3_3_z := z_sub ev_253 hz_i4_4 hz_i3_3 (by omega) (by omega)
                refine lv_icmp_ge (tgt := 120) X.1 X.2.1 dX12_which_77 (by decide) (fun c_255 => ?_) (fun c_255 => ?_)
                · have z_b_256 := trivial
                  have k_257 : i6_250_z ≥ (i4_4_z - i3_3_z) := z_le z_254 hz_i6_250 c_255
                  refine lv_iload X.1 X.2.1 dX12_which_120 (lv_at hl 0 rfl) ?_
                  refine lv_if_eq (tgt := 127) X.1 X.2.1 dX12_which_122 (by decide) (fun c_258 => ?_) (fun c_258 => ?_)
                  · have z_b_259 := trivial
                    have k_260 : i5_249_z = 0 := z_eq hz_i5_249 ti_0 c_258
                    obtain ⟨x_261, ex_261⟩ : ∃ y : Int32, y = i2_2 + 1 := ⟨_, rfl⟩
                    have z_262 : x_261.toInt = i2_2_z + 1 := z_add ex_261 hz_i2_2 ti_1 (by omega) (by omega)
                    refine lv_iinc (v := x_261) (lv' := [(2, .int (x_261)), (5, .int (i5_249)), (6, .int (i6_250)), (3, .int (i3_3)), (4, .int (i4_4)), (0, .ref x), (1, .ref (κ (100 + i)))]) X.1 X.2.1 dX12_which_127 hl (k := 2) rfl (by rw [ex_261]; rfl) (by decide) rfl (fun ls hl => ?_)
                    refine lv_iload X.1 X.2.1 dX12_which_130 (lv_at hl 4 rfl) ?_
                    refine lv_iconst (v := 1) X.1 X.2.1 dX12_which_132 (by decide) ?_
                    refine lv_iadd X.1 X.2.1 dX12_which_133 ?_
                    refine lv_topi (fun v_263 ev_263 => ?_)
                    have z_264 : v_263.toInt = i4_4_z + 1 := z_add ev_263 hz_i4_4 ti_1 (by omega) (by omega)
                    refine lv_istore_n (lv' := [(3, .int (v_263)), (2, .int (x_261)), (5, .int (i5_249)), (6, .int (i6_250)), (4, .int (i4_4)), (0, .ref x), (1, .ref (κ (100 + i)))]) X.1 X.2.1 dX12_which_134 rfl hl (by decide) rfl (fun ls hl => ?_)
                    obtain ⟨x_265, ex_265⟩ : ∃ y : Int32, y = i4_4 + 1 := ⟨_, rfl⟩
                    have z_266 : x_265.toInt = i4_4_z + 1 := z_add ex_265 hz_i4_4 ti_1 (by omega) (by omega)
                    refine lv_iinc (v := x_265) (lv' := [(4, .int (x_265)), (3, .int (v_263)), (2, .int (x_261)), (5, .int (i5_249)), (6, .int (i6_250)), (0, .ref x), (1, .ref (κ (100 + i)))]) X.1 X.2.1 dX12_which_135 hl (k := 4) rfl (by rw [ex_265]; rfl) (by decide) rfl (fun ls hl => ?_)
                    refine lv_goto (tgt := 7) X.1 X.2.1 dX12_which_138 (by decide) ?_
                    exact ih_L_1 _ (by omega) _ _ _ (x_261) (x_261.toInt) (v_263) ((i4_4_z + 1)) (x_265) (x_265.toInt) rfl hw rfl (by omega) z_264 (by omega) rfl (by omega) (by omega) (by omega) (lv_sub hl [2, 1, 0, 5, 6] rfl)
                  · have z_b_267 := trivial
                    have k_268 : i5_249_z ≠ 0 := z_ne hz_i5_249 ti_0 c_258
                    refine lv_iload_n X.1 X.2.1 dX12_which_125 rfl (lv_at hl 2 rfl) ?_
                    rw [hQQ]
                    exact ret_i X hw hr hlocks (Nat.le_of_ble_eq_true rfl) (Nat.le_of_ble_eq_true rfl) ⟨rfl, trivial⟩ dX12_which_126
                · have z_b_269 := trivial
                  have k_270 : i6_250_z < (i4_4_z - i3_3_z) := z_nle z_254 hz_i6_250 c_255
                  refine lv_iload X.1 X.2.1 dX12_which_80 (lv_at hl 0 rfl) ?_
                  refine lv_if_eq (tgt := 120) X.1 X.2.1 dX12_which_82 (by decide) (fun c_271 => ?_) (fun c_271 => ?_)
                  · have z_b_272 := trivial
                    have k_273 : i5_249_z = 0 := z_eq hz_i5_249 ti_0 c_271
                    refine lv_iload X.1 X.2.1 dX12_which_120 (lv_at hl 0 rfl) ?_
                    refine lv_if_eq (tgt := 127) X.1 X.2.1 dX12_which_122 (by decide) (fun c_274 => ?_) (fun c_274 => ?_)
                    · have z_b_275 := trivial
                      have k_276 : i5_249_z = 0 := z_eq hz_i5_249 ti_0 c_274
                      obtain ⟨x_277, ex_277⟩ : ∃ y : Int32, y = i2_2 + 1 := ⟨_, rfl⟩
                      have z_278 : x_277.toInt = i2_2_z + 1 := z_add ex_277 hz_i2_2 ti_1 (by omega) (by omega)
                      refine lv_iinc (v := x_277) (lv' := [(2, .int (x_277)), (5, .int (i5_249)), (6, .int (i6_250)), (3, .int (i3_3)), (4, .int (i4_4)), (0, .ref x), (1, .ref (κ (100 + i)))]) X.1 X.2.1 dX12_which_127 hl (k := 2) rfl (by rw [ex_277]; rfl) (by decide) rfl (fun ls hl => ?_)
                      refine lv_iload X.1 X.2.1 dX12_which_130 (lv_at hl 4 rfl) ?_
                      refine lv_iconst (v := 1) X.1 X.2.1 dX12_which_132 (by decide) ?_
                      refine lv_iadd X.1 X.2.1 dX12_which_133 ?_
                      refine lv_topi (fun v_279 ev_279 => ?_)
                      have z_280 : v_279.toInt = i4_4_z + 1 := z_add ev_279 hz_i4_4 ti_1 (by omega) (by omega)
                      refine lv_istore_n (lv' := [(3, .int (v_279)), (2, .int (x_277)), (5, .int (i5_249)), (6, .int (i6_250)), (4, .int (i4_4)), (0, .ref x), (1, .ref (κ (100 + i)))]) X.1 X.2.1 dX12_which_134 rfl hl (by decide) rfl (fun ls hl => ?_)
                      obtain ⟨x_281, ex_281⟩ : ∃ y : Int32, y = i4_4 + 1 := ⟨_, rfl⟩
                      have z_282 : x_281.toInt = i4_4_z + 1 := z_add ex_281 hz_i4_4 ti_1 (by omega) (by omega)
                      refine lv_iinc (v := x_281) (lv' := [(4, .int (x_281)), (3, .int (v_279)), (2, .int (x_277)), (5, .int (i5_249)), (6, .int (i6_250)), (0, .ref x), (1, .ref (κ (100 + i)))]) X.1 X.2.1 dX12_which_135 hl (k := 4) rfl (by rw [ex_281]; rfl) (by decide) rfl (fun ls hl => ?_)
                      refine lv_goto (tgt := 7) X.1 X.2.1 dX12_which_138 (by decide) ?_
                      exact ih_L_1 _ (by omega) _ _ _ (x_277) (x_277.toInt) (v_279) ((i4_4_z + 1)) (x_281) (x_281.toInt) rfl hw rfl (by omega) z_280 (by omega) rfl (by omega) (by omega) (by omega) (lv_sub hl [2, 1, 0, 5, 6] rfl)
                    · have z_b_283 := trivial
                      have k_284 : i5_249_z ≠ 0 := z_ne hz_i5_249 ti_0 c_274
                      refine lv_iload_n X.1 X.2.1 dX12_which_125 rfl (lv_at hl 2 rfl) ?_
                      rw [hQQ]
                      exact ret_i X hw hr hlocks (Nat.le_of_ble_eq_true rfl) (Nat.le_of_ble_eq_true rfl) ⟨rfl, trivial⟩ dX12_which_126
                  · have z_b_285 := trivial
                    have k_286 : i5_249_z ≠ 0 := z_ne hz_i5_249 ti_0 c_271
                    refine lv_aload_n X.1 X.2.1 dX12_which_85 rfl (lv_at hl 5 rfl) ?_
                    refine lv_aload_n X.1 X.2.1 dX12_which_86 rfl (lv_at hl 5 rfl) ?_
                    refine r_getI (g := 1232) (x := v_175) X hw ha_x rfl 32 ev_175 (by decide) rfl inn_X12_which_12 (by decide) (X.2.2.2.1 (.fieldLink RX12 217 "SilkMillModel" "from" "I") (by decide +kernel)) rfl (gv_1232 _ _) dX12_which_87 ?_
                    refine lv_iload X.1 X.2.1 dX12_which_90 (lv_at hl 1 rfl) ?_
                    refine lv_iadd X.1 X.2.1 dX12_which_92 ?_
                    refine lv_topi (fun v_287 ev_287 => ?_)
                    have z_288 : v_287.toInt = v_175.toInt + i6_250_z := z_add ev_287 rfl hz_i6_250 (by omega) (by omega)
                    refine k_i (rm := { frames := 1, cells := 0, slots := 0, locals := 48 }) (av := [.ref x, .int (v_287)]) X hw (va_runV (As := [.int (v_287)]) (rest := []) (cfix X) (k_X12_byteAt l G cy κ S _ x (v_287) ((v_175.toInt + i6_250_z)) hG ha_x z_288 (by first | assumption | omega)) (cwV 1 X.2.2.2.1 gX12_which_X12_byteAt rfl rfl rfl (by decide +kernel) ⟨Nat.le_of_ble_eq_true rfl, Nat.le_of_ble_eq_true rfl⟩) (pre_V X hw _ ha_x rfl (by decide) rfl) rfl rfl hl.1 rfl (lv_room (Nat.le_of_ble_eq_true rfl)) dX12_which_93 ⟨Nat.le_of_ble_eq_true rfl, Nat.le_of_ble_eq_true rfl⟩) 0 0 (Nat.le_of_ble_eq_true rfl) (Nat.le_of_ble_eq_true rfl) (fun rr_289 S_290 H locs hp hw hfr hnw => ?_)
                    obtain ⟨e2, hp⟩ := hp
                    subst e2
                    obtain ⟨f_291, f_292, f_293⟩ := hp
                    refine lv_aload_n X.1 X.2.1 dX12_which_96 rfl (lv_at hl 6 rfl) ?_
                    refine lv_iload_n X.1 X.2.1 dX12_which_97 rfl (lv_at hl 3 rfl) ?_
                    refine lv_iload X.1 X.2.1 dX12_which_98 (lv_at hl 1 rfl) ?_
                    refine lv_iadd X.1 X.2.1 dX12_which_100 ?_
                    refine lv_topi (fun v_294 ev_294 => ?_)
                    have z_295 : v_294.toInt = i3_3_z + i6_250_z := z_add ev_294 hz_i3_3 hz_i6_250 (by omega) (by omega)
                    refine k_i (rm := { frames := 4, cells := 0, slots := 0, locals := 192 }) (av := [.ref (κ (100 + i)), .int (v_294)]) X hw (va_runV (As := [.int (v_294)]) (rest := [.int (rr_289)]) (cfix X) (k_J0_charAt_5068e l G cy κ S _ i (v_294) ((i3_3_z + i6_250_z)) hG hi_i z_295 (by first | assumption | omega) (by first | assumption | omega)) (cwV 1 X.2.2.2.1 gX12_which_J0_charAt_5068e rfl rfl rfl (by decide +kernel) ⟨Nat.le_of_ble_eq_true rfl, Nat.le_of_ble_eq_true rfl⟩) (pre_VS X hw _ i hi_i) rfl rfl hl.1 rfl (lv_room (Nat.le_of_ble_eq_true rfl)) dX12_which_101 ⟨Nat.le_of_ble_eq_true rfl, Nat.le_of_ble_eq_true rfl⟩) 0 0 (Nat.le_of_ble_eq_true rfl) (Nat.le_of_ble_eq_true rfl) (fun rr_296 S_297 H locs hp hw hfr hnw => ?_)
                    obtain ⟨e2, hp⟩ := hp
                    subst e2
                    obtain ⟨f_298, f_299⟩ := hp
                    refine lv_icmp_ne (tgt := 111) X.1 X.2.1 dX12_which_104 (by decide) (fun c_300 => ?_) (fun c_300 => ?_)
                    · have z_b_301 := trivial
                      have k_302 : rr_289.toInt ≠ rr_296.toInt := z_ne rfl rfl c_300
                      refine lv_iconst (v := 0) X.1 X.2.1 dX12_which_111 (by decide) ?_
                      refine lv_istore (lv' := [(5, .int 0), (6, .int (i6_250)), (2, .int (i2_2)), (3, .int (i3_3)), (4, .int (i4_4)), (0, .ref x), (1, .ref (κ (100 + i)))]) X.1 X.2.1 dX12_which_112 hl (by decide) rfl (fun ls hl => ?_)
                      obtain ⟨x_303, ex_303⟩ : ∃ y : Int32, y = i6_250 + 1 := ⟨_, rfl⟩
                      have z_304 : x_303.toInt = i6_250_z + 1 := z_add ex_303 hz_i6_250 ti_1 (by omega) (by omega)
                      refine lv_iinc (v := x_303) (lv' := [(6, .int (x_303)), (5, .int 0), (2, .int (i2_2)), (3, .int (i3_3)), (4, .int (i4_4)), (0, .ref x), (1, .ref (κ (100 + i)))]) X.1 X.2.1 dX12_which_114 hl (k := 1) rfl (by rw [ex_303]; rfl) (by decide) rfl (fun ls hl => ?_)
                      refine lv_goto (tgt := 71) X.1 X.2.1 dX12_which_117 (by decide) ?_
                      exact ih_L_248 _ (by omega) _ _ _ (0) (0) (x_303) (x_303.toInt) rfl hw ti_0 (by omega) rfl (by omega) (lv_sub hl [1, 0, 2, 3, 4, 5, 6] rfl)
                    · have z_b_305 := trivial
                      have k_306 : rr_289.toInt = rr_296.toInt := z_eq rfl rfl c_300
                      refine lv_iconst (v := 1) X.1 X.2.1 dX12_which_107 (by decide) ?_
                      refine lv_goto (tgt := 112) X.1 X.2.1 dX12_which_108 (by decide) ?_
                      refine lv_istore (lv' := [(5, .int 1), (6, .int (i6_250)), (2, .int (i2_2)), (3, .int (i3_3)), (4, .int (i4_4)), (0, .ref x), (1, .ref (κ (100 + i)))]) X.1 X.2.1 dX12_which_112 hl (by decide) rfl (fun ls hl => ?_)
                      obtain ⟨x_307, ex_307⟩ : ∃ y : Int32, y = i6_250 + 1 := ⟨_, rfl⟩
                      have z_308 : x_307.toInt = i6_250_z + 1 := z_add ex_307 hz_i6_250 ti_1 (by omega) (by omega)
                      refine lv_iinc (v := x_307) (lv' := [(6, .int (x_307)), (5, .int 1), (2, .int (i2_2)), (3, .int (i3_3)), (4, .int (i4_4)), (0, .ref x), (1, .ref (κ (100 + i)))]) X.1 X.2.1 dX12_which_114 hl (k := 1) rfl (by rw [ex_307]; rfl) (by decide) rfl (fun ls hl => ?_)
                      refine lv_goto (tgt := 71) X.1 X.2.1 dX12_which_117 (by decide) ?_
                      exact ih_L_248 _ (by omega) _ _ _ (1) (1) (x_307) (x_307.toInt) rfl hw ti_1 (by omega) rfl (by omega) (lv_sub hl [1, 0, 2, 3, 4, 5, 6] rfl)
              exact L_248 _ _ _ _ (1) (1) (0) (0) rfl hw ti_1 (by omega) ti_0 (by omega) (lv_sub hl [1, 0, 2, 3, 4, 5, 6] rfl)
      · have z_b_309 := trivial
        have k_310 : rr_19.toInt ≠ 32 := z_ne rfl ti_32 c_23
        refine lv_goto (tgt := 135) X.1 X.2.1 dX12_which_27 (by decide) ?_
        obtain ⟨x_311, ex_311⟩ : ∃ y : Int32, y = i4_4 + 1 := ⟨_, rfl⟩
        have z_312 : x_311.toInt = i4_4_z + 1 := z_add ex_311 hz_i4_4 ti_1 (by omega) (by omega)
        refine lv_iinc (v := x_311) (lv' := [(4, .int (x_311)), (2, .int (i2_2)), (3, .int (i3_3)), (0, .ref x), (1, .ref (κ (100 + i)))]) X.1 X.2.1 dX12_which_135 hl (k := 2) rfl (by rw [ex_311]; rfl) (by decide) rfl (fun ls hl => ?_)
        refine lv_goto (tgt := 7) X.1 X.2.1 dX12_which_138 (by decide) ?_
        exact ih_L_1 _ (by omega) _ _ _ (i2_2) (i2_2_z) (i3_3) (i3_3_z) (x_311) (x_311.toInt) rfl hw hz_i2_2 (by omega) hz_i3_3 (by omega) rfl (by omega) (by omega) (by omega) (lv_sub hl [1, 2, 0, 3, 4] rfl)
  exact L_1 _ _ _ _ (0) (0) (0) (0) (0) (0) rfl hw ti_0 (by omega) ti_0 (by omega) ti_0 (by omega) (by omega) (by omega) (lv_sub hl [2, 1, 0, 3, 4] rfl)
set_option maxHeartbeats 4000000 in
set_option maxRecDepth 100000 in
theorem k_X12_number (l : Launch) (G : va_G) (cy : Nat → ClassId) (κ : Nat → Nat) (S : PS) (sz : Nat) (x : Nat) (hG : GX S) (ha_x : At S x 12) : Ci l yX12_number wsX12_number ({ frames := 3, cells := 0, slots := 0, locals := 144 }) G cy κ S sz [.ref x] (fun (r : Int32) (S9 : PS) => Ok MK S S9 ∧ (True)) := by
  refine ent_m (cc := cX12_number) (maxL := 2) (ret := (some .int)) (by decide) rfl (Nat.le_of_ble_eq_true rfl) ?_
  intro p e s m below meth c ls X hr hlocks hin hw hl hsz
  subst hsz
  have X : Cx p c cX12_number 2 s [.ref x].toArray wsX12_number RX12 m G cy κ (AS S s.heap.size) := X
  have hl : lv_has ls 2 [(0, .ref x)] := hl
  have hO : Ok MK S S := Ok.rf hG
  refine lv_aload_n X.1 X.2.1 dX12_number_0 rfl (lv_at hl 0 rfl) ?_
  obtain ⟨v_1, ev_1⟩ : ∃ v, pI S 1231 x = v := ⟨_, rfl⟩
  have rg_3 := And.intro (z_lo v_1) (z_hi v_1)
  refine r_getI (g := 1231) (x := v_1) X hw ha_x rfl 31 ev_1 (by decide) rfl inn_X12_number_12 (by decide) (X.2.2.2.1 (.fieldLink RX12 223 "SilkMillModel" "kind" "I") (by decide +kernel)) rfl (gv_1231 _ _) dX12_number_1 ?_
  refine lv_iconst (v := 2) X.1 X.2.1 dX12_number_4 (by decide) ?_
  refine lv_icmp_eq (tgt := 16) X.1 X.2.1 dX12_number_5 (by decide) (fun c_4 => ?_) (fun c_4 => ?_)
  · have z_b_5 := trivial
    have k_6 : v_1.toInt = 2 := z_eq rfl ti_2 c_4
    refine lv_aload_n X.1 X.2.1 dX12_number_16 rfl (lv_at hl 0 rfl) ?_
    obtain ⟨v_7, ev_7⟩ : ∃ v, pI S 1234 x = v := ⟨_, rfl⟩
    have rg_9 := And.intro (z_lo v_7) (z_hi v_7)
    refine r_getI (g := 1234) (x := v_7) X hw ha_x rfl 34 ev_7 (by decide) rfl inn_X12_number_12 (by decide) (X.2.2.2.1 (.fieldLink RX12 226 "SilkMillModel" "value" "I") (by decide +kernel)) rfl (gv_1234 _ _) dX12_number_17 ?_
    refine lv_istore_n (lv' := [(1, .int (v_7)), (0, .ref x)]) X.1 X.2.1 dX12_number_20 rfl hl (by decide) rfl (fun ls hl => ?_)
    refine lv_aload_n X.1 X.2.1 dX12_number_21 rfl (lv_at hl 1 rfl) ?_
    refine k_v (rm := { frames := 2, cells := 0, slots := 0, locals := 96 }) (av := [.ref x]) X hw (va_runV (As := []) (rest := []) (cfix X) (k_X12_token l G cy κ S _ x hO.1 ha_x) (cwV 0 X.2.2.2.1 gX12_number_X12_token rfl rfl rfl (by decide +kernel) ⟨Nat.le_of_ble_eq_true rfl, Nat.le_of_ble_eq_true rfl⟩) (pre_V X hw _ ha_x rfl (by decide) rfl) rfl rfl hl.1 rfl (lv_room (Nat.le_of_ble_eq_true rfl)) dX12_number_22 ⟨Nat.le_of_ble_eq_true rfl, Nat.le_of_ble_eq_true rfl⟩) 0 0 (Nat.le_of_ble_eq_true rfl) (Nat.le_of_ble_eq_true rfl) (fun S_11 H locs hp hw hfr hnw => ?_)
    obtain ⟨hk_12, hp⟩ := hp
    have hO_13 : Ok MK S S_11 := hO.call hk_12 (by decide +kernel)
    refine lv_iload_n X.1 X.2.1 dX12_number_25 rfl (lv_at hl 0 rfl) ?_
    exact ret_i X hw hr hlocks (Nat.le_of_ble_eq_true rfl) (Nat.le_of_ble_eq_true rfl) ⟨hO_13, trivial⟩ dX12_number_26
  · have z_b_14 := trivial
    have k_15 : v_1.toInt ≠ 2 := z_ne rfl ti_2 c_4
    refine lv_aload_n X.1 X.2.1 dX12_number_8 rfl (lv_at hl 0 rfl) ?_
    refine lv_iconst (v := 1) X.1 X.2.1 dX12_number_9 (by decide) ?_
    refine k_i (rm := { frames := 1, cells := 0, slots := 0, locals := 48 }) (av := [.ref x, .int 1]) X hw (va_runV (As := [.int 1]) (rest := []) (cfix X) (k_X12_wrong l G cy κ S _ x (1) (1) hO.1 ha_x ti_1) (cwV 1 X.2.2.2.1 gX12_number_X12_wrong rfl rfl rfl (by decide +kernel) ⟨Nat.le_of_ble_eq_true rfl, Nat.le_of_ble_eq_true rfl⟩) (pre_V X hw _ ha_x rfl (by decide) rfl) rfl rfl hl.1 rfl (lv_room (Nat.le_of_ble_eq_true rfl)) dX12_number_10 ⟨Nat.le_of_ble_eq_true rfl, Nat.le_of_ble_eq_true rfl⟩) 0 0 (Nat.le_of_ble_eq_true rfl) (Nat.le_of_ble_eq_true rfl) (fun rr_16 S_17 H locs hp hw hfr hnw => ?_)
    obtain ⟨hk_18, hp⟩ := hp
    have hO_19 : Ok MK S S_17 := hO.call hk_18 (by decide +kernel)
    rcases hp with ⟨f_20, er_21⟩ | ⟨f_20, er_21⟩ <;> subst er_21
    · have z_b_22 := trivial
      refine lv_istore_n (lv' := [(1, .int 1), (0, .ref x)]) X.1 X.2.1 dX12_number_13 rfl hl (by decide) rfl (fun ls hl => ?_)
      refine lv_iconst (v := 0) X.1 X.2.1 dX12_number_14 (by decide) ?_
      exact ret_i X hw hr hlocks (Nat.le_of_ble_eq_true rfl) (Nat.le_of_ble_eq_true rfl) ⟨hO_19, trivial⟩ dX12_number_15
    · have z_b_23 := trivial
      refine lv_istore_n (lv' := [(1, .int 0), (0, .ref x)]) X.1 X.2.1 dX12_number_13 rfl hl (by decide) rfl (fun ls hl => ?_)
      refine lv_iconst (v := 0) X.1 X.2.1 dX12_number_14 (by decide) ?_
      exact ret_i X hw hr hlocks (Nat.le_of_ble_eq_true rfl) (Nat.le_of_ble_eq_true rfl) ⟨hO_19, trivial⟩ dX12_number_15
