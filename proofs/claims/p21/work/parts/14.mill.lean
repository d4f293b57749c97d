def MLT : List Nat := [3, 4, 5, 6, 101, 102, 103, 203, 204, 205, 206, 207, 300, 301, 304, 404, 405, 406, 407, 408, 500, 502, 600, 707, 708, 709, 802, 803, 804, 805, 806, 902, 903, 904, 1001, 1002, 1004, 1005, 1006, 1110, 303, 409, 1106, 10014, 10016, 10017, 10019, 10034, 10074, 10094, 10114, 10134, 10154, 10174, 10194, 11614, 11634, 11674, 11694, 11714, 11734, 11754, 11774, 1000, 10013]
def MLD : List Nat := [3, 4, 5, 6, 101, 102, 103, 203, 204, 205, 206, 207, 300, 301, 304, 404, 405, 406, 407, 408, 500, 502, 600, 707, 708, 709, 802, 803, 804, 805, 806, 902, 903, 904, 1001, 1002, 1004, 1005, 1006, 1110, 303, 409, 1106, 10014, 10016, 10017, 10019, 10034, 10074, 10094, 10114, 10134, 10154, 10174, 10194, 11614, 11634, 11674, 11694, 11714, 11734, 11754, 11774, 801]
theorem dX10_append_0 : decode cX10_append 0 = .ok (.aload_n 0, 1) := by decide +kernel
theorem dX10_append_1 : decode cX10_append 1 = .ok (.getfield 19, 3) := by decide +kernel
theorem dX10_append_4 : decode cX10_append 4 = .ok (.iconst 4, 1) := by decide +kernel
theorem dX10_append_5 : decode cX10_append 5 = .ok (.iadd, 1) := by decide +kernel
theorem dX10_append_6 : decode cX10_append 6 = .ok (.sipush 400, 3) := by decide +kernel
theorem dX10_append_9 : decode cX10_append 9 = .ok (.if_icmp .gt 72, 3) := by decide +kernel
theorem dX10_append_12 : decode cX10_append 12 = .ok (.aload_n 0, 1) := by decide +kernel
theorem dX10_append_13 : decode cX10_append 13 = .ok (.getfield 15, 3) := by decide +kernel
theorem dX10_append_16 : decode cX10_append 16 = .ok (.aload_n 0, 1) := by decide +kernel
theorem dX10_append_17 : decode cX10_append 17 = .ok (.getfield 19, 3) := by decide +kernel
theorem dX10_append_20 : decode cX10_append 20 = .ok (.iload_n 1, 1) := by decide +kernel
theorem dX10_append_21 : decode cX10_append 21 = .ok (.bipush 24, 2) := by decide +kernel
theorem dX10_append_23 : decode cX10_append 23 = .ok (.iushr, 1) := by decide +kernel
theorem dX10_append_24 : decode cX10_append 24 = .ok (.i2b, 1) := by decide +kernel
theorem dX10_append_25 : decode cX10_append 25 = .ok (.bastore, 1) := by decide +kernel
theorem dX10_append_26 : decode cX10_append 26 = .ok (.aload_n 0, 1) := by decide +kernel
theorem dX10_append_27 : decode cX10_append 27 = .ok (.getfield 15, 3) := by decide +kernel
theorem dX10_append_30 : decode cX10_append 30 = .ok (.aload_n 0, 1) := by decide +kernel
theorem dX10_append_31 : decode cX10_append 31 = .ok (.getfield 19, 3) := by decide +kernel
theorem dX10_append_34 : decode cX10_append 34 = .ok (.iconst 1, 1) := by decide +kernel
theorem dX10_append_35 : decode cX10_append 35 = .ok (.iadd, 1) := by decide +kernel
theorem dX10_append_36 : decode cX10_append 36 = .ok (.iload_n 1, 1) := by decide +kernel
theorem dX10_append_37 : decode cX10_append 37 = .ok (.bipush 16, 2) := by decide +kernel
theorem dX10_append_39 : decode cX10_append 39 = .ok (.iushr, 1) := by decide +kernel
theorem dX10_append_40 : decode cX10_append 40 = .ok (.i2b, 1) := by decide +kernel
theorem dX10_append_41 : decode cX10_append 41 = .ok (.bastore, 1) := by decide +kernel
theorem dX10_append_42 : decode cX10_append 42 = .ok (.aload_n 0, 1) := by decide +kernel
theorem dX10_append_43 : decode cX10_append 43 = .ok (.getfield 15, 3) := by decide +kernel
theorem dX10_append_46 : decode cX10_append 46 = .ok (.aload_n 0, 1) := by decide +kernel
theorem dX10_append_47 : decode cX10_append 47 = .ok (.getfield 19, 3) := by decide +kernel
theorem dX10_append_50 : decode cX10_append 50 = .ok (.iconst 2, 1) := by decide +kernel
theorem dX10_append_51 : decode cX10_append 51 = .ok (.iadd, 1) := by decide +kernel
theorem dX10_append_52 : decode cX10_append 52 = .ok (.iload_n 1, 1) := by decide +kernel
theorem dX10_append_53 : decode cX10_append 53 = .ok (.bipush 8, 2) := by decide +kernel
theorem dX10_append_55 : decode cX10_append 55 = .ok (.iushr, 1) := by decide +kernel
theorem dX10_append_56 : decode cX10_append 56 = .ok (.i2b, 1) := by decide +kernel
theorem dX10_append_57 : decode cX10_append 57 = .ok (.bastore, 1) := by decide +kernel
theorem dX10_append_58 : decode cX10_append 58 = .ok (.aload_n 0, 1) := by decide +kernel
theorem dX10_append_59 : decode cX10_append 59 = .ok (.getfield 15, 3) := by decide +kernel
theorem dX10_append_62 : decode cX10_append 62 = .ok (.aload_n 0, 1) := by decide +kernel
theorem dX10_append_63 : decode cX10_append 63 = .ok (.getfield 19, 3) := by decide +kernel
theorem dX10_append_66 : decode cX10_append 66 = .ok (.iconst 3, 1) := by decide +kernel
theorem dX10_append_67 : decode cX10_append 67 = .ok (.iadd, 1) := by decide +kernel
theorem dX10_append_68 : decode cX10_append 68 = .ok (.iload_n 1, 1) := by decide +kernel
theorem dX10_append_69 : decode cX10_append 69 = .ok (.i2b, 1) := by decide +kernel
theorem dX10_append_70 : decode cX10_append 70 = .ok (.bastore, 1) := by decide +kernel
theorem dX10_append_71 : decode cX10_append 71 = .ok (.aload_n 0, 1) := by decide +kernel
theorem dX10_append_72 : decode cX10_append 72 = .ok (.dup, 1) := by decide +kernel
theorem dX10_append_73 : decode cX10_append 73 = .ok (.getfield 19, 3) := by decide +kernel
theorem dX10_append_76 : decode cX10_append 76 = .ok (.iconst 4, 1) := by decide +kernel
theorem dX10_append_77 : decode cX10_append 77 = .ok (.iadd, 1) := by decide +kernel
theorem dX10_append_78 : decode cX10_append 78 = .ok (.putfield 19, 3) := by decide +kernel
theorem dX10_append_81 : decode cX10_append 81 = .ok (.return_, 1) := by decide +kernel
theorem dX10_forgetFault_0 : decode cX10_forgetFault 0 = .ok (.aload_n 0, 1) := by decide +kernel
theorem dX10_forgetFault_1 : decode cX10_forgetFault 1 = .ok (.iconst 0, 1) := by decide +kernel
theorem dX10_forgetFault_2 : decode cX10_forgetFault 2 = .ok (.putfield 22, 3) := by decide +kernel
theorem dX10_forgetFault_5 : decode cX10_forgetFault 5 = .ok (.aload_n 0, 1) := by decide +kernel
theorem dX10_forgetFault_6 : decode cX10_forgetFault 6 = .ok (.iconst (-1), 1) := by decide +kernel
theorem dX10_forgetFault_7 : decode cX10_forgetFault 7 = .ok (.putfield 9, 3) := by decide +kernel
theorem dX10_forgetFault_10 : decode cX10_forgetFault 10 = .ok (.return_, 1) := by decide +kernel
theorem dX10_fail_0 : decode cX10_fail 0 = .ok (.aload_n 0, 1) := by decide +kernel
theorem dX10_fail_1 : decode cX10_fail 1 = .ok (.iload_n 1, 1) := by decide +kernel
theorem dX10_fail_2 : decode cX10_fail 2 = .ok (.putfield 22, 3) := by decide +kernel
theorem dX10_fail_5 : decode cX10_fail 5 = .ok (.aload_n 0, 1) := by decide +kernel
theorem dX10_fail_6 : decode cX10_fail 6 = .ok (.aload_n 0, 1) := by decide +kernel
theorem dX10_fail_7 : decode cX10_fail 7 = .ok (.getfield 79, 3) := by decide +kernel
theorem dX10_fail_10 : decode cX10_fail 10 = .ok (.putfield 9, 3) := by decide +kernel
theorem dX10_fail_13 : decode cX10_fail 13 = .ok (.iconst 0, 1) := by decide +kernel
theorem dX10_fail_14 : decode cX10_fail 14 = .ok (.ireturn, 1) := by decide +kernel
set_option maxRecDepth 20000 in
theorem ggX10_numberAtHand_X10_byteAt : GoodIn wsX10_numberAtHand wsX10_byteAt := goodIn_h _ [7, 0, 0, 0, 0, 0, 0, 0, 0, 0] [0, 1, 2, 3, 4, 5, 6, 7, 8, 9] (by decide +kernel) (by decide +kernel)
set_option maxRecDepth 20000 in
theorem gX10_numberAtHand_X10_byteAt : GoodIn wsX10_numberAtHand (wsV RX10 82 RX10 yX10_byteAt wsX10_byteAt) := goodIn_app (goodIn_of _ (by decide +kernel)) ggX10_numberAtHand_X10_byteAt
theorem dX10_numberAtHand_0 : decode cX10_numberAtHand 0 = .ok (.iconst 0, 1) := by decide +kernel
theorem dX10_numberAtHand_1 : decode cX10_numberAtHand 1 = .ok (.istore_n 1, 1) := by decide +kernel
theorem dX10_numberAtHand_2 : decode cX10_numberAtHand 2 = .ok (.aload_n 0, 1) := by decide +kernel
theorem dX10_numberAtHand_3 : decode cX10_numberAtHand 3 = .ok (.getfield 79, 3) := by decide +kernel
theorem dX10_numberAtHand_6 : decode cX10_numberAtHand 6 = .ok (.istore_n 2, 1) := by decide +kernel
theorem dX10_numberAtHand_7 : decode cX10_numberAtHand 7 = .ok (.iload_n 2, 1) := by decide +kernel
theorem dX10_numberAtHand_8 : decode cX10_numberAtHand 8 = .ok (.aload_n 0, 1) := by decide +kernel
theorem dX10_numberAtHand_9 : decode cX10_numberAtHand 9 = .ok (.getfield 31, 3) := by decide +kernel
theorem dX10_numberAtHand_12 : decode cX10_numberAtHand 12 = .ok (.if_icmp .ge 23, 3) := by decide +kernel
theorem dX10_numberAtHand_15 : decode cX10_numberAtHand 15 = .ok (.iload_n 1, 1) := by decide +kernel
theorem dX10_numberAtHand_16 : decode cX10_numberAtHand 16 = .ok (.bipush 10, 2) := by decide +kernel
theorem dX10_numberAtHand_18 : decode cX10_numberAtHand 18 = .ok (.imul, 1) := by decide +kernel
theorem dX10_numberAtHand_19 : decode cX10_numberAtHand 19 = .ok (.aload_n 0, 1) := by decide +kernel
theorem dX10_numberAtHand_20 : decode cX10_numberAtHand 20 = .ok (.iload_n 2, 1) := by decide +kernel
theorem dX10_numberAtHand_21 : decode cX10_numberAtHand 21 = .ok (.invokevirtual 82, 3) := by decide +kernel
theorem dX10_numberAtHand_24 : decode cX10_numberAtHand 24 = .ok (.iadd, 1) := by decide +kernel
theorem dX10_numberAtHand_25 : decode cX10_numberAtHand 25 = .ok (.bipush 48, 2) := by decide +kernel
theorem dX10_numberAtHand_27 : decode cX10_numberAtHand 27 = .ok (.isub, 1) := by decide +kernel
theorem dX10_numberAtHand_28 : decode cX10_numberAtHand 28 = .ok (.istore_n 1, 1) := by decide +kernel
theorem dX10_numberAtHand_29 : decode cX10_numberAtHand 29 = .ok (.iinc 2 1, 3) := by decide +kernel
theorem dX10_numberAtHand_32 : decode cX10_numberAtHand 32 = .ok (.goto (-25), 3) := by decide +kernel
theorem dX10_numberAtHand_35 : decode cX10_numberAtHand 35 = .ok (.iload_n 1, 1) := by decide +kernel
theorem dX10_numberAtHand_36 : decode cX10_numberAtHand 36 = .ok (.ireturn, 1) := by decide +kernel
set_option maxRecDepth 20000 in
theorem ggX10_isSign_X10_byteAt : GoodIn wsX10_isSign wsX10_byteAt := goodIn_h _ [7, 0, 0, 0, 0, 0, 0, 0, 0, 0] [0, 1, 2, 3, 4, 5, 6, 7, 8, 9] (by decide +kernel) (by decide +kernel)
set_option maxRecDepth 20000 in
theorem gX10_isSign_X10_byteAt : GoodIn wsX10_isSign (wsV RX10 82 RX10 yX10_byteAt wsX10_byteAt) := goodIn_app (goodIn_of _ (by decide +kernel)) ggX10_isSign_X10_byteAt
theorem dX10_isSign_0 : decode cX10_isSign 0 = .ok (.aload_n 0, 1) := by decide +kernel
theorem dX10_isSign_1 : decode cX10_isSign 1 = .ok (.getfield 37, 3) := by decide +kernel
theorem dX10_isSign_4 : decode cX10_isSign 4 = .ok (.iconst 3, 1) := by decide +kernel
theorem dX10_isSign_5 : decode cX10_isSign 5 = .ok (.if_icmp .ne 19, 3) := by decide +kernel
theorem dX10_isSign_8 : decode cX10_isSign 8 = .ok (.aload_n 0, 1) := by decide +kernel
theorem dX10_isSign_9 : decode cX10_isSign 9 = .ok (.aload_n 0, 1) := by decide +kernel
theorem dX10_isSign_10 : decode cX10_isSign 10 = .ok (.getfield 79, 3) := by decide +kernel
theorem dX10_isSign_13 : decode cX10_isSign 13 = .ok (.invokevirtual 82, 3) := by decide +kernel
theorem dX10_isSign_16 : decode cX10_isSign 16 = .ok (.iload_n 1, 1) := by decide +kernel
theorem dX10_isSign_17 : decode cX10_isSign 17 = .ok (.if_icmp .ne 7, 3) := by decide +kernel
theorem dX10_isSign_20 : decode cX10_isSign 20 = .ok (.iconst 1, 1) := by decide +kernel
theorem dX10_isSign_21 : decode cX10_isSign 21 = .ok (.goto 4, 3) := by decide +kernel
theorem dX10_isSign_24 : decode cX10_isSign 24 = .ok (.iconst 0, 1) := by decide +kernel
theorem dX10_isSign_25 : decode cX10_isSign 25 = .ok (.ireturn, 1) := by decide +kernel
set_option maxRecDepth 20000 in
theorem ggX10_advance_X10_byteAt : GoodIn wsX10_advance wsX10_byteAt := goodIn_h _ [3, 5, 0, 12, 0, 0, 0, 0, 0, 0] [1, 0, 2, 3, 4, 5, 6, 7, 8, 9] (by decide +kernel) (by decide +kernel)
set_option maxRecDepth 20000 in
theorem gX10_advance_X10_byteAt : GoodIn wsX10_advance (wsV RX10 82 RX10 yX10_byteAt wsX10_byteAt) := goodIn_app (goodIn_of _ (by decide +kernel)) ggX10_advance_X10_byteAt
set_option maxRecDepth 20000 in
theorem ggX10_advance_X10_isBlank : GoodIn wsX10_advance wsX10_isBlank := goodIn_h _ [13] [0] (by decide +kernel) (by decide +kernel)
set_option maxRecDepth 20000 in
theorem gX10_advance_X10_isBlank : GoodIn wsX10_advance (va_wsS RX10 132 yX10_isBlank wsX10_isBlank) := goodIn_app (goodIn_of _ (by decide +kernel)) ggX10_advance_X10_isBlank
set_option maxRecDepth 20000 in
theorem ggX10_advance_X10_isLetter : GoodIn wsX10_advance wsX10_isLetter := goodIn_h _ [16] [0] (by decide +kernel) (by decide +kernel)
set_option maxRecDepth 20000 in
theorem gX10_advance_X10_isLetter : GoodIn wsX10_advance (va_wsS RX10 135 yX10_isLetter wsX10_isLetter) := goodIn_app (goodIn_of _ (by decide +kernel)) ggX10_advance_X10_isLetter
set_option maxRecDepth 20000 in
theorem ggX10_advance_X10_isDigit : GoodIn wsX10_advance wsX10_isDigit := goodIn_h _ [19] [0] (by decide +kernel) (by decide +kernel)
set_option maxRecDepth 20000 in
theorem gX10_advance_X10_isDigit : GoodIn wsX10_advance (va_wsS RX10 138 yX10_isDigit wsX10_isDigit) := goodIn_app (goodIn_of _ (by decide +kernel)) ggX10_advance_X10_isDigit
set_option maxRecDepth 20000 in
theorem ggX10_advance_X10_isSignByte : GoodIn wsX10_advance wsX10_isSignByte := goodIn_h _ [22] [0] (by decide +kernel) (by decide +kernel)
set_option maxRecDepth 20000 in
theorem gX10_advance_X10_isSignByte : GoodIn wsX10_advance (va_wsS RX10 141 yX10_isSignByte wsX10_isSignByte) := goodIn_app (goodIn_of _ (by decide +kernel)) ggX10_advance_X10_isSignByte
theorem dX10_advance_0 : decode cX10_advance 0 = .ok (.aload_n 0, 1) := by decide +kernel
theorem dX10_advance_1 : decode cX10_advance 1 = .ok (.aload_n 0, 1) := by decide +kernel
theorem dX10_advance_2 : decode cX10_advance 2 = .ok (.getfield 31, 3) := by decide +kernel
theorem dX10_advance_5 : decode cX10_advance 5 = .ok (.putfield 79, 3) := by decide +kernel
theorem dX10_advance_8 : decode cX10_advance 8 = .ok (.aload_n 0, 1) := by decide +kernel
theorem dX10_advance_9 : decode cX10_advance 9 = .ok (.getfield 79, 3) := by decide +kernel
theorem dX10_advance_12 : decode cX10_advance 12 = .ok (.aload_n 0, 1) := by decide +kernel
theorem dX10_advance_13 : decode cX10_advance 13 = .ok (.getfield 19, 3) := by decide +kernel
theorem dX10_advance_16 : decode cX10_advance 16 = .ok (.if_icmp .ge 30, 3) := by decide +kernel
theorem dX10_advance_19 : decode cX10_advance 19 = .ok (.aload_n 0, 1) := by decide +kernel
theorem dX10_advance_20 : decode cX10_advance 20 = .ok (.aload_n 0, 1) := by decide +kernel
theorem dX10_advance_21 : decode cX10_advance 21 = .ok (.getfield 79, 3) := by decide +kernel
theorem dX10_advance_24 : decode cX10_advance 24 = .ok (.invokevirtual 82, 3) := by decide +kernel
theorem dX10_advance_27 : decode cX10_advance 27 = .ok (.invokestatic 132, 3) := by decide +kernel
theorem dX10_advance_30 : decode cX10_advance 30 = .ok (.ifCond .eq 16, 3) := by decide +kernel
theorem dX10_advance_33 : decode cX10_advance 33 = .ok (.aload_n 0, 1) := by decide +kernel
theorem dX10_advance_34 : decode cX10_advance 34 = .ok (.dup, 1) := by decide +kernel
theorem dX10_advance_35 : decode cX10_advance 35 = .ok (.getfield 79, 3) := by decide +kernel
theorem dX10_advance_38 : decode cX10_advance 38 = .ok (.iconst 1, 1) := by decide +kernel
theorem dX10_advance_39 : decode cX10_advance 39 = .ok (.iadd, 1) := by decide +kernel
theorem dX10_advance_40 : decode cX10_advance 40 = .ok (.putfield 79, 3) := by decide +kernel
theorem dX10_advance_43 : decode cX10_advance 43 = .ok (.goto (-35), 3) := by decide +kernel
theorem dX10_advance_46 : decode cX10_advance 46 = .ok (.aload_n 0, 1) := by decide +kernel
theorem dX10_advance_47 : decode cX10_advance 47 = .ok (.aload_n 0, 1) := by decide +kernel
theorem dX10_advance_48 : decode cX10_advance 48 = .ok (.getfield 79, 3) := by decide +kernel
theorem dX10_advance_51 : decode cX10_advance 51 = .ok (.putfield 31, 3) := by decide +kernel
theorem dX10_advance_54 : decode cX10_advance 54 = .ok (.aload_n 0, 1) := by decide +kernel
theorem dX10_advance_55 : decode cX10_advance 55 = .ok (.getfield 79, 3) := by decide +kernel
theorem dX10_advance_58 : decode cX10_advance 58 = .ok (.aload_n 0, 1) := by decide +kernel
theorem dX10_advance_59 : decode cX10_advance 59 = .ok (.getfield 19, 3) := by decide +kernel
theorem dX10_advance_62 : decode cX10_advance 62 = .ok (.if_icmp .lt 11, 3) := by decide +kernel
theorem dX10_advance_65 : decode cX10_advance 65 = .ok (.aload_n 0, 1) := by decide +kernel
theorem dX10_advance_66 : decode cX10_advance 66 = .ok (.iconst 0, 1) := by decide +kernel
theorem dX10_advance_67 : decode cX10_advance 67 = .ok (.putfield 37, 3) := by decide +kernel
theorem dX10_advance_70 : decode cX10_advance 70 = .ok (.goto 191, 3) := by decide +kernel
theorem dX10_advance_73 : decode cX10_advance 73 = .ok (.aload_n 0, 1) := by decide +kernel
theorem dX10_advance_74 : decode cX10_advance 74 = .ok (.aload_n 0, 1) := by decide +kernel
theorem dX10_advance_75 : decode cX10_advance 75 = .ok (.getfield 79, 3) := by decide +kernel
theorem dX10_advance_78 : decode cX10_advance 78 = .ok (.invokevirtual 82, 3) := by decide +kernel
theorem dX10_advance_81 : decode cX10_advance 81 = .ok (.invokestatic 135, 3) := by decide +kernel
theorem dX10_advance_84 : decode cX10_advance 84 = .ok (.ifCond .eq 67, 3) := by decide +kernel
theorem dX10_advance_87 : decode cX10_advance 87 = .ok (.aload_n 0, 1) := by decide +kernel
theorem dX10_advance_88 : decode cX10_advance 88 = .ok (.getfield 31, 3) := by decide +kernel
theorem dX10_advance_91 : decode cX10_advance 91 = .ok (.aload_n 0, 1) := by decide +kernel
theorem dX10_advance_92 : decode cX10_advance 92 = .ok (.getfield 19, 3) := by decide +kernel
theorem dX10_advance_95 : decode cX10_advance 95 = .ok (.if_icmp .ge 30, 3) := by decide +kernel
theorem dX10_advance_98 : decode cX10_advance 98 = .ok (.aload_n 0, 1) := by decide +kernel
theorem dX10_advance_99 : decode cX10_advance 99 = .ok (.aload_n 0, 1) := by decide +kernel
theorem dX10_advance_100 : decode cX10_advance 100 = .ok (.getfield 31, 3) := by decide +kernel
theorem dX10_advance_103 : decode cX10_advance 103 = .ok (.invokevirtual 82, 3) := by decide +kernel
theorem dX10_advance_106 : decode cX10_advance 106 = .ok (.invokestatic 135, 3) := by decide +kernel
theorem dX10_advance_109 : decode cX10_advance 109 = .ok (.ifCond .eq 16, 3) := by decide +kernel
theorem dX10_advance_112 : decode cX10_advance 112 = .ok (.aload_n 0, 1) := by decide +kernel
theorem dX10_advance_113 : decode cX10_advance 113 = .ok (.dup, 1) := by decide +kernel
theorem dX10_advance_114 : decode cX10_advance 114 = .ok (.getfield 31, 3) := by decide +kernel
theorem dX10_advance_117 : decode cX10_advance 117 = .ok (.iconst 1, 1) := by decide +kernel
theorem dX10_advance_118 : decode cX10_advance 118 = .ok (.iadd, 1) := by decide +kernel
theorem dX10_advance_119 : decode cX10_advance 119 = .ok (.putfield 31, 3) := by decide +kernel
theorem dX10_advance_122 : decode cX10_advance 122 = .ok (.goto (-35), 3) := by decide +kernel
theorem dX10_advance_125 : decode cX10_advance 125 = .ok (.aload_n 0, 1) := by decide +kernel
theorem dX10_advance_126 : decode cX10_advance 126 = .ok (.aload_n 0, 1) := by decide +kernel
theorem dX10_advance_127 : decode cX10_advance 127 = .ok (.getfield 31, 3) := by decide +kernel
theorem dX10_advance_130 : decode cX10_advance 130 = .ok (.aload_n 0, 1) := by decide +kernel
theorem dX10_advance_131 : decode cX10_advance 131 = .ok (.getfield 79, 3) := by decide +kernel
theorem dX10_advance_134 : decode cX10_advance 134 = .ok (.isub, 1) := by decide +kernel
theorem dX10_advance_135 : decode cX10_advance 135 = .ok (.bipush 8, 2) := by decide +kernel
theorem dX10_advance_137 : decode cX10_advance 137 = .ok (.if_icmp .gt 7, 3) := by decide +kernel
theorem dX10_advance_140 : decode cX10_advance 140 = .ok (.iconst 1, 1) := by decide +kernel
theorem dX10_advance_141 : decode cX10_advance 141 = .ok (.goto 4, 3) := by decide +kernel
theorem dX10_advance_144 : decode cX10_advance 144 = .ok (.iconst 4, 1) := by decide +kernel
theorem dX10_advance_145 : decode cX10_advance 145 = .ok (.putfield 37, 3) := by decide +kernel
theorem dX10_advance_148 : decode cX10_advance 148 = .ok (.goto 113, 3) := by decide +kernel
theorem dX10_advance_151 : decode cX10_advance 151 = .ok (.aload_n 0, 1) := by decide +kernel
theorem dX10_advance_152 : decode cX10_advance 152 = .ok (.aload_n 0, 1) := by decide +kernel
theorem dX10_advance_153 : decode cX10_advance 153 = .ok (.getfield 79, 3) := by decide +kernel
theorem dX10_advance_156 : decode cX10_advance 156 = .ok (.invokevirtual 82, 3) := by decide +kernel
theorem dX10_advance_159 : decode cX10_advance 159 = .ok (.invokestatic 138, 3) := by decide +kernel
theorem dX10_advance_162 : decode cX10_advance 162 = .ok (.ifCond .eq 66, 3) := by decide +kernel
theorem dX10_advance_165 : decode cX10_advance 165 = .ok (.aload_n 0, 1) := by decide +kernel
theorem dX10_advance_166 : decode cX10_advance 166 = .ok (.getfield 31, 3) := by decide +kernel
theorem dX10_advance_169 : decode cX10_advance 169 = .ok (.aload_n 0, 1) := by decide +kernel
theorem dX10_advance_170 : decode cX10_advance 170 = .ok (.getfield 19, 3) := by decide +kernel
theorem dX10_advance_173 : decode cX10_advance 173 = .ok (.if_icmp .ge 30, 3) := by decide +kernel
theorem dX10_advance_176 : decode cX10_advance 176 = .ok (.aload_n 0, 1) := by decide +kernel
theorem dX10_advance_177 : decode cX10_advance 177 = .ok (.aload_n 0, 1) := by decide +kernel
theorem dX10_advance_178 : decode cX10_advance 178 = .ok (.getfield 31, 3) := by decide +kernel
theorem dX10_advance_181 : decode cX10_advance 181 = .ok (.invokevirtual 82, 3) := by decide +kernel
theorem dX10_advance_184 : decode cX10_advance 184 = .ok (.invokestatic 138, 3) := by decide +kernel
theorem dX10_advance_187 : decode cX10_advance 187 = .ok (.ifCond .eq 16, 3) := by decide +kernel
theorem dX10_advance_190 : decode cX10_advance 190 = .ok (.aload_n 0, 1) := by decide +kernel
theorem dX10_advance_191 : decode cX10_advance 191 = .ok (.dup, 1) := by decide +kernel
theorem dX10_advance_192 : decode cX10_advance 192 = .ok (.getfield 31, 3) := by decide +kernel
theorem dX10_advance_195 : decode cX10_advance 195 = .ok (.iconst 1, 1) := by decide +kernel
theorem dX10_advance_196 : decode cX10_advance 196 = .ok (.iadd, 1) := by decide +kernel
theorem dX10_advance_197 : decode cX10_advance 197 = .ok (.putfield 31, 3) := by decide +kernel
theorem dX10_advance_200 : decode cX10_advance 200 = .ok (.goto (-35), 3) := by decide +kernel
theorem dX10_advance_203 : decode cX10_advance 203 = .ok (.aload_n 0, 1) := by decide +kernel
theorem dX10_advance_204 : decode cX10_advance 204 = .ok (.aload_n 0, 1) := by decide +kernel
theorem dX10_advance_205 : decode cX10_advance 205 = .ok (.getfield 31, 3) := by decide +kernel
theorem dX10_advance_208 : decode cX10_advance 208 = .ok (.aload_n 0, 1) := by decide +kernel
theorem dX10_advance_209 : decode cX10_advance 209 = .ok (.getfield 79, 3) := by decide +kernel
theorem dX10_advance_212 : decode cX10_advance 212 = .ok (.isub, 1) := by decide +kernel
theorem dX10_advance_213 : decode cX10_advance 213 = .ok (.iconst 4, 1) := by decide +kernel
theorem dX10_advance_214 : decode cX10_advance 214 = .ok (.if_icmp .gt 7, 3) := by decide +kernel
theorem dX10_advance_217 : decode cX10_advance 217 = .ok (.iconst 2, 1) := by decide +kernel
theorem dX10_advance_218 : decode cX10_advance 218 = .ok (.goto 4, 3) := by decide +kernel
theorem dX10_advance_221 : decode cX10_advance 221 = .ok (.iconst 4, 1) := by decide +kernel
theorem dX10_advance_222 : decode cX10_advance 222 = .ok (.putfield 37, 3) := by decide +kernel
theorem dX10_advance_225 : decode cX10_advance 225 = .ok (.goto 36, 3) := by decide +kernel
theorem dX10_advance_228 : decode cX10_advance 228 = .ok (.aload_n 0, 1) := by decide +kernel
theorem dX10_advance_229 : decode cX10_advance 229 = .ok (.dup, 1) := by decide +kernel
theorem dX10_advance_230 : decode cX10_advance 230 = .ok (.getfield 31, 3) := by decide +kernel
theorem dX10_advance_233 : decode cX10_advance 233 = .ok (.iconst 1, 1) := by decide +kernel
theorem dX10_advance_234 : decode cX10_advance 234 = .ok (.iadd, 1) := by decide +kernel
theorem dX10_advance_235 : decode cX10_advance 235 = .ok (.putfield 31, 3) := by decide +kernel
theorem dX10_advance_238 : decode cX10_advance 238 = .ok (.aload_n 0, 1) := by decide +kernel
theorem dX10_advance_239 : decode cX10_advance 239 = .ok (.aload_n 0, 1) := by decide +kernel
theorem dX10_advance_240 : decode cX10_advance 240 = .ok (.aload_n 0, 1) := by decide +kernel
theorem dX10_advance_241 : decode cX10_advance 241 = .ok (.getfield 79, 3) := by decide +kernel
theorem dX10_advance_244 : decode cX10_advance 244 = .ok (.invokevirtual 82, 3) := by decide +kernel
theorem dX10_advance_247 : decode cX10_advance 247 = .ok (.invokestatic 141, 3) := by decide +kernel
theorem dX10_advance_250 : decode cX10_advance 250 = .ok (.ifCond .eq 7, 3) := by decide +kernel
theorem dX10_advance_253 : decode cX10_advance 253 = .ok (.iconst 3, 1) := by decide +kernel
theorem dX10_advance_254 : decode cX10_advance 254 = .ok (.goto 4, 3) := by decide +kernel
theorem dX10_advance_257 : decode cX10_advance 257 = .ok (.iconst 4, 1) := by decide +kernel
theorem dX10_advance_258 : decode cX10_advance 258 = .ok (.putfield 37, 3) := by decide +kernel
theorem dX10_advance_261 : decode cX10_advance 261 = .ok (.return_, 1) := by decide +kernel
theorem dX10_byteAt_0 : decode cX10_byteAt 0 = .ok (.iload_n 1, 1) := by decide +kernel
theorem dX10_byteAt_1 : decode cX10_byteAt 1 = .ok (.ifCond .lt 18, 3) := by decide +kernel
theorem dX10_byteAt_4 : decode cX10_byteAt 4 = .ok (.iload_n 1, 1) := by decide +kernel
theorem dX10_byteAt_5 : decode cX10_byteAt 5 = .ok (.aload_n 0, 1) := by decide +kernel
theorem dX10_byteAt_6 : decode cX10_byteAt 6 = .ok (.getfield 19, 3) := by decide +kernel
theorem dX10_byteAt_9 : decode cX10_byteAt 9 = .ok (.if_icmp .ge 10, 3) := by decide +kernel
theorem dX10_byteAt_12 : decode cX10_byteAt 12 = .ok (.iload_n 1, 1) := by decide +kernel
theorem dX10_byteAt_13 : decode cX10_byteAt 13 = .ok (.sipush 400, 3) := by decide +kernel
theorem dX10_byteAt_16 : decode cX10_byteAt 16 = .ok (.if_icmp .lt 7, 3) := by decide +kernel
theorem dX10_byteAt_19 : decode cX10_byteAt 19 = .ok (.iconst 0, 1) := by decide +kernel
theorem dX10_byteAt_20 : decode cX10_byteAt 20 = .ok (.goto 9, 3) := by decide +kernel
theorem dX10_byteAt_23 : decode cX10_byteAt 23 = .ok (.aload_n 0, 1) := by decide +kernel
theorem dX10_byteAt_24 : decode cX10_byteAt 24 = .ok (.getfield 15, 3) := by decide +kernel
theorem dX10_byteAt_27 : decode cX10_byteAt 27 = .ok (.iload_n 1, 1) := by decide +kernel
theorem dX10_byteAt_28 : decode cX10_byteAt 28 = .ok (.baload, 1) := by decide +kernel
theorem dX10_byteAt_29 : decode cX10_byteAt 29 = .ok (.ireturn, 1) := by decide +kernel
theorem dX10_isBlank_0 : decode cX10_isBlank 0 = .ok (.iload_n 0, 1) := by decide +kernel
theorem dX10_isBlank_1 : decode cX10_isBlank 1 = .ok (.bipush 32, 2) := by decide +kernel
theorem dX10_isBlank_3 : decode cX10_isBlank 3 = .ok (.if_icmp .eq 9, 3) := by decide +kernel
theorem dX10_isBlank_6 : decode cX10_isBlank 6 = .ok (.iload_n 0, 1) := by decide +kernel
theorem dX10_isBlank_7 : decode cX10_isBlank 7 = .ok (.bipush 10, 2) := by decide +kernel
theorem dX10_isBlank_9 : decode cX10_isBlank 9 = .ok (.if_icmp .ne 7, 3) := by decide +kernel
theorem dX10_isBlank_12 : decode cX10_isBlank 12 = .ok (.iconst 1, 1) := by decide +kernel
theorem dX10_isBlank_13 : decode cX10_isBlank 13 = .ok (.goto 4, 3) := by decide +kernel
theorem dX10_isBlank_16 : decode cX10_isBlank 16 = .ok (.iconst 0, 1) := by decide +kernel
theorem dX10_isBlank_17 : decode cX10_isBlank 17 = .ok (.ireturn, 1) := by decide +kernel
theorem dX10_isLetter_0 : decode cX10_isLetter 0 = .ok (.iload_n 0, 1) := by decide +kernel
theorem dX10_isLetter_1 : decode cX10_isLetter 1 = .ok (.bipush 97, 2) := by decide +kernel
theorem dX10_isLetter_3 : decode cX10_isLetter 3 = .ok (.if_icmp .lt 13, 3) := by decide +kernel
theorem dX10_isLetter_6 : decode cX10_isLetter 6 = .ok (.iload_n 0, 1) := by decide +kernel
theorem dX10_isLetter_7 : decode cX10_isLetter 7 = .ok (.bipush 122, 2) := by decide +kernel
theorem dX10_isLetter_9 : decode cX10_isLetter 9 = .ok (.if_icmp .gt 7, 3) := by decide +kernel
theorem dX10_isLetter_12 : decode cX10_isLetter 12 = .ok (.iconst 1, 1) := by decide +kernel
theorem dX10_isLetter_13 : decode cX10_isLetter 13 = .ok (.goto 4, 3) := by decide +kernel
theorem dX10_isLetter_16 : decode cX10_isLetter 16 = .ok (.iconst 0, 1) := by decide +kernel
theorem dX10_isLetter_17 : decode cX10_isLetter 17 = .ok (.ireturn, 1) := by decide +kernel
theorem dX10_isDigit_0 : decode cX10_isDigit 0 = .ok (.iload_n 0, 1) := by decide +kernel
theorem dX10_isDigit_1 : decode cX10_isDigit 1 = .ok (.bipush 48, 2) := by decide +kernel
theorem dX10_isDigit_3 : decode cX10_isDigit 3 = .ok (.if_icmp .lt 13, 3) := by decide +kernel
theorem dX10_isDigit_6 : decode cX10_isDigit 6 = .ok (.iload_n 0, 1) := by decide +kernel
theorem dX10_isDigit_7 : decode cX10_isDigit 7 = .ok (.bipush 57, 2) := by decide +kernel
theorem dX10_isDigit_9 : decode cX10_isDigit 9 = .ok (.if_icmp .gt 7, 3) := by decide +kernel
theorem dX10_isDigit_12 : decode cX10_isDigit 12 = .ok (.iconst 1, 1) := by decide +kernel
theorem dX10_isDigit_13 : decode cX10_isDigit 13 = .ok (.goto 4, 3) := by decide +kernel
theorem dX10_isDigit_16 : decode cX10_isDigit 16 = .ok (.iconst 0, 1) := by decide +kernel
theorem dX10_isDigit_17 : decode cX10_isDigit 17 = .ok (.ireturn, 1) := by decide +kernel
theorem dX10_isSignByte_0 : decode cX10_isSignByte 0 = .ok (.iload_n 0, 1) := by decide +kernel
theorem dX10_isSignByte_1 : decode cX10_isSignByte 1 = .ok (.bipush 60, 2) := by decide +kernel
theorem dX10_isSignByte_3 : decode cX10_isSignByte 3 = .ok (.if_icmp .eq 27, 3) := by decide +kernel
theorem dX10_isSignByte_6 : decode cX10_isSignByte 6 = .ok (.iload_n 0, 1) := by decide +kernel
theorem dX10_isSignByte_7 : decode cX10_isSignByte 7 = .ok (.bipush 61, 2) := by decide +kernel
theorem dX10_isSignByte_9 : decode cX10_isSignByte 9 = .ok (.if_icmp .eq 21, 3) := by decide +kernel
theorem dX10_isSignByte_12 : decode cX10_isSignByte 12 = .ok (.iload_n 0, 1) := by decide +kernel
theorem dX10_isSignByte_13 : decode cX10_isSignByte 13 = .ok (.bipush 62, 2) := by decide +kernel
theorem dX10_isSignByte_15 : decode cX10_isSignByte 15 = .ok (.if_icmp .eq 15, 3) := by decide +kernel
theorem dX10_isSignByte_18 : decode cX10_isSignByte 18 = .ok (.iload_n 0, 1) := by decide +kernel
theorem dX10_isSignByte_19 : decode cX10_isSignByte 19 = .ok (.bipush 58, 2) := by decide +kernel
theorem dX10_isSignByte_21 : decode cX10_isSignByte 21 = .ok (.if_icmp .eq 9, 3) := by decide +kernel
theorem dX10_isSignByte_24 : decode cX10_isSignByte 24 = .ok (.iload_n 0, 1) := by decide +kernel
theorem dX10_isSignByte_25 : decode cX10_isSignByte 25 = .ok (.bipush 59, 2) := by decide +kernel
theorem dX10_isSignByte_27 : decode cX10_isSignByte 27 = .ok (.if_icmp .ne 7, 3) := by decide +kernel
theorem dX10_isSignByte_30 : decode cX10_isSignByte 30 = .ok (.iconst 1, 1) := by decide +kernel
theorem dX10_isSignByte_31 : decode cX10_isSignByte 31 = .ok (.goto 4, 3) := by decide +kernel
theorem dX10_isSignByte_34 : decode cX10_isSignByte 34 = .ok (.iconst 0, 1) := by decide +kernel
theorem dX10_isSignByte_35 : decode cX10_isSignByte 35 = .ok (.ireturn, 1) := by decide +kernel
set_option maxRecDepth 20000 in
theorem ggX11_cocoon_X11_cocoonAt : GoodIn wsX11_cocoon wsX11_cocoonAt := goodIn_h _ [9, 0, 0, 0, 27, 0, 0, 0, 0, 0, 0, 0, 0, 0, 0, 0] [0, 1, 2, 3, 4, 5, 6, 7, 8, 9, 10, 11, 12, 13, 14, 15] (by decide +kernel) (by decide +kernel)
set_option maxRecDepth 20000 in
theorem gX11_cocoon_X11_cocoonAt : GoodIn wsX11_cocoon (wsV RX11 74 RX11 yX11_cocoonAt wsX11_cocoonAt) := goodIn_app (goodIn_of _ (by decide +kernel)) ggX11_cocoon_X11_cocoonAt
set_option maxRecDepth 20000 in
theorem ggX11_cocoon_X0_finenessAt : GoodIn wsX11_cocoon wsX0_finenessAt := goodIn_h _ [17, 0, 0, 10, 0, 0, 0, 0, 0, 0, 0, 0, 0] [0, 1, 2, 3, 4, 5, 6, 7, 8, 9, 10, 11, 12] (by decide +kernel) (by decide +kernel)
set_option maxRecDepth 20000 in
theorem gX11_cocoon_X0_finenessAt : GoodIn wsX11_cocoon (wsV RX11 87 RX0 yX0_finenessAt wsX0_finenessAt) := goodIn_app (goodIn_of _ (by decide +kernel)) ggX11_cocoon_X0_finenessAt
set_option maxRecDepth 20000 in
theorem ggX11_cocoon_X0_silkBetween : GoodIn wsX11_cocoon wsX0_silkBetween := goodIn_h _ [14, 0, 0, 0, 0, 0, 3, 0, 5, 0, 0, 0, 0, 0, 0, 0, 0, 0] [6, 7, 0, 1, 2, 3, 4, 5, 8, 9, 10, 11, 12, 13, 14, 15, 16, 17] (by decide +kernel) (by decide +kernel)
set_option maxRecDepth 20000 in
theorem gX11_cocoon_X0_silkBetween : GoodIn wsX11_cocoon (wsV RX11 91 RX0 yX0_silkBetween wsX0_silkBetween) := goodIn_app (goodIn_of _ (by decide +kernel)) ggX11_cocoon_X0_silkBetween
set_option maxRecDepth 20000 in
theorem ggX11_cocoon_X0_isInPot : GoodIn wsX11_cocoon wsX0_isInPot := goodIn_h _ [28, 0, 0, 0, 0, 0, 0, 0, 0, 0, 0, 0] [0, 1, 2, 3, 4, 5, 6, 7, 8, 9, 10, 11] (by decide +kernel) (by decide +kernel)
set_option maxRecDepth 20000 in
theorem gX11_cocoon_X0_isInPot : GoodIn wsX11_cocoon (wsV RX11 95 RX0 yX0_isInPot wsX0_isInPot) := goodIn_app (goodIn_of _ (by decide +kernel)) ggX11_cocoon_X0_isInPot
theorem dX11_cocoon_0 : decode cX11_cocoon 0 = .ok (.aload_n 0, 1) := by decide +kernel
theorem dX11_cocoon_1 : decode cX11_cocoon 1 = .ok (.iload_n 1, 1) := by decide +kernel
theorem dX11_cocoon_2 : decode cX11_cocoon 2 = .ok (.iload_n 2, 1) := by decide +kernel
theorem dX11_cocoon_3 : decode cX11_cocoon 3 = .ok (.invokevirtual 74, 3) := by decide +kernel
theorem dX11_cocoon_6 : decode cX11_cocoon 6 = .ok (.astore 4, 2) := by decide +kernel
theorem dX11_cocoon_8 : decode cX11_cocoon 8 = .ok (.aload 4, 2) := by decide +kernel
theorem dX11_cocoon_10 : decode cX11_cocoon 10 = .ok (.ifnonnull 5, 3) := by decide +kernel
theorem dX11_cocoon_13 : decode cX11_cocoon 13 = .ok (.iconst (-1), 1) := by decide +kernel
theorem dX11_cocoon_14 : decode cX11_cocoon 14 = .ok (.ireturn, 1) := by decide +kernel
theorem dX11_cocoon_15 : decode cX11_cocoon 15 = .ok (.iload_n 3, 1) := by decide +kernel
theorem dX11_cocoon_16 : decode cX11_cocoon 16 = .ok (.tableswitch 115 0 6 #[44, 50, 56, 62, 73, 85, 97], 44) := by decide +kernel
theorem dX11_cocoon_60 : decode cX11_cocoon 60 = .ok (.aload 4, 2) := by decide +kernel
theorem dX11_cocoon_62 : decode cX11_cocoon 62 = .ok (.getfield 78, 3) := by decide +kernel
theorem dX11_cocoon_65 : decode cX11_cocoon 65 = .ok (.ireturn, 1) := by decide +kernel
theorem dX11_cocoon_66 : decode cX11_cocoon 66 = .ok (.aload 4, 2) := by decide +kernel
theorem dX11_cocoon_68 : decode cX11_cocoon 68 = .ok (.getfield 81, 3) := by decide +kernel
theorem dX11_cocoon_71 : decode cX11_cocoon 71 = .ok (.ireturn, 1) := by decide +kernel
theorem dX11_cocoon_72 : decode cX11_cocoon 72 = .ok (.aload 4, 2) := by decide +kernel
theorem dX11_cocoon_74 : decode cX11_cocoon 74 = .ok (.getfield 84, 3) := by decide +kernel
theorem dX11_cocoon_77 : decode cX11_cocoon 77 = .ok (.ireturn, 1) := by decide +kernel
theorem dX11_cocoon_78 : decode cX11_cocoon 78 = .ok (.aload 4, 2) := by decide +kernel
theorem dX11_cocoon_80 : decode cX11_cocoon 80 = .ok (.aload 4, 2) := by decide +kernel
theorem dX11_cocoon_82 : decode cX11_cocoon 82 = .ok (.getfield 84, 3) := by decide +kernel
theorem dX11_cocoon_85 : decode cX11_cocoon 85 = .ok (.invokevirtual 87, 3) := by decide +kernel
theorem dX11_cocoon_88 : decode cX11_cocoon 88 = .ok (.ireturn, 1) := by decide +kernel
theorem dX11_cocoon_89 : decode cX11_cocoon 89 = .ok (.aload 4, 2) := by decide +kernel
theorem dX11_cocoon_91 : decode cX11_cocoon 91 = .ok (.iconst 0, 1) := by decide +kernel
theorem dX11_cocoon_92 : decode cX11_cocoon 92 = .ok (.aload 4, 2) := by decide +kernel
theorem dX11_cocoon_94 : decode cX11_cocoon 94 = .ok (.getfield 78, 3) := by decide +kernel
theorem dX11_cocoon_97 : decode cX11_cocoon 97 = .ok (.invokevirtual 91, 3) := by decide +kernel
theorem dX11_cocoon_100 : decode cX11_cocoon 100 = .ok (.ireturn, 1) := by decide +kernel
theorem dX11_cocoon_101 : decode cX11_cocoon 101 = .ok (.aload 4, 2) := by decide +kernel
theorem dX11_cocoon_103 : decode cX11_cocoon 103 = .ok (.iconst 0, 1) := by decide +kernel
theorem dX11_cocoon_104 : decode cX11_cocoon 104 = .ok (.aload 4, 2) := by decide +kernel
theorem dX11_cocoon_106 : decode cX11_cocoon 106 = .ok (.getfield 84, 3) := by decide +kernel
theorem dX11_cocoon_109 : decode cX11_cocoon 109 = .ok (.invokevirtual 91, 3) := by decide +kernel
theorem dX11_cocoon_112 : decode cX11_cocoon 112 = .ok (.ireturn, 1) := by decide +kernel
theorem dX11_cocoon_113 : decode cX11_cocoon 113 = .ok (.aload 4, 2) := by decide +kernel
theorem dX11_cocoon_115 : decode cX11_cocoon 115 = .ok (.invokevirtual 95, 3) := by decide +kernel
theorem dX11_cocoon_118 : decode cX11_cocoon 118 = .ok (.ifCond .eq 11, 3) := by decide +kernel
theorem dX11_cocoon_121 : decode cX11_cocoon 121 = .ok (.aload 4, 2) := by decide +kernel
theorem dX11_cocoon_123 : decode cX11_cocoon 123 = .ok (.getfield 99, 3) := by decide +kernel
theorem dX11_cocoon_126 : decode cX11_cocoon 126 = .ok (.goto 4, 3) := by decide +kernel
theorem dX11_cocoon_129 : decode cX11_cocoon 129 = .ok (.iconst (-1), 1) := by decide +kernel
theorem dX11_cocoon_130 : decode cX11_cocoon 130 = .ok (.ireturn, 1) := by decide +kernel
theorem dX11_cocoon_131 : decode cX11_cocoon 131 = .ok (.iconst (-1), 1) := by decide +kernel
theorem dX11_cocoon_132 : decode cX11_cocoon 132 = .ok (.ireturn, 1) := by decide +kernel
set_option maxRecDepth 20000 in
theorem ggX11_test_X11_listIdle : GoodIn wsX11_test wsX11_listIdle := goodIn_h _ [1, 0, 7, 0, 0, 0, 0, 0, 0, 0, 0, 17, 0, 0, 0, 0, 0, 0, 0, 0, 0, 0, 0, 0, 0, 0, 0, 0, 0, 0, 0, 0, 0] [3, 4, 1, 5, 6, 7, 2, 8, 0, 9, 10, 23, 24, 25, 26, 27, 28, 29, 30, 31, 32, 11, 12, 13, 14, 15, 16, 17, 18, 19, 20, 21, 22] (by decide +kernel) (by decide +kernel)
set_option maxRecDepth 20000 in
theorem gX11_test_X11_listIdle : GoodIn wsX11_test (wsV RX11 109 RX11 yX11_listIdle wsX11_listIdle) := goodIn_app (goodIn_of _ (by decide +kernel)) ggX11_test_X11_listIdle
set_option maxRecDepth 20000 in
theorem ggX11_test_X11_next : GoodIn wsX11_test wsX11_next := goodIn_h _ [21, 0] [0, 1] (by decide +kernel) (by decide +kernel)
set_option maxRecDepth 20000 in
theorem gX11_test_X11_next : GoodIn wsX11_test (va_wsS RX11 112 yX11_next wsX11_next) := goodIn_app (goodIn_of _ (by decide +kernel)) ggX11_test_X11_next
set_option maxRecDepth 20000 in
theorem ggX11_test_X11_cocoonAt : GoodIn wsX11_test wsX11_cocoonAt := goodIn_h _ [1, 14, 0, 0, 17, 0, 0, 0, 0, 0, 0, 0, 0, 0, 0, 0] [1, 0, 2, 3, 4, 5, 6, 7, 8, 9, 10, 11, 12, 13, 14, 15] (by decide +kernel) (by decide +kernel)
set_option maxRecDepth 20000 in
theorem gX11_test_X11_cocoonAt : GoodIn wsX11_test (wsV RX11 74 RX11 yX11_cocoonAt wsX11_cocoonAt) := goodIn_app (goodIn_of _ (by decide +kernel)) ggX11_test_X11_cocoonAt
set_option maxRecDepth 20000 in
theorem ggX11_test_X0_breaksAnywhere : GoodIn wsX11_test wsX0_breaksAnywhere := goodIn_h _ [10, 9, 0, 0, 3, 0, 0, 0, 0, 0, 0, 0, 0, 0, 12, 0, 0, 0, 0, 0, 0, 0, 0, 0] [5, 6, 7, 8, 9, 4, 10, 11, 12, 13, 1, 0, 2, 3, 14, 15, 16, 17, 18, 19, 20, 21, 22, 23] (by decide +kernel) (by decide +kernel)
set_option maxRecDepth 20000 in
theorem gX11_test_X0_breaksAnywhere : GoodIn wsX11_test (wsV RX11 115 RX0 yX0_breaksAnywhere wsX0_breaksAnywhere) := goodIn_app (goodIn_of _ (by decide +kernel)) ggX11_test_X0_breaksAnywhere
theorem dX11_test_0 : decode cX11_test 0 = .ok (.iload_n 1, 1) := by decide +kernel
theorem dX11_test_1 : decode cX11_test 1 = .ok (.ifCond .lt 15, 3) := by decide +kernel
theorem dX11_test_4 : decode cX11_test 4 = .ok (.iload_n 1, 1) := by decide +kernel
theorem dX11_test_5 : decode cX11_test 5 = .ok (.aload_n 0, 1) := by decide +kernel
theorem dX11_test_6 : decode cX11_test 6 = .ok (.getfield 63, 3) := by decide +kernel
theorem dX11_test_9 : decode cX11_test 9 = .ok (.if_icmp .ge 7, 3) := by decide +kernel
theorem dX11_test_12 : decode cX11_test 12 = .ok (.iload_n 3, 1) := by decide +kernel
theorem dX11_test_13 : decode cX11_test 13 = .ok (.ifCond .ge 5, 3) := by decide +kernel
theorem dX11_test_16 : decode cX11_test 16 = .ok (.iconst (-1), 1) := by decide +kernel
theorem dX11_test_17 : decode cX11_test 17 = .ok (.ireturn, 1) := by decide +kernel
theorem dX11_test_18 : decode cX11_test 18 = .ok (.aload_n 0, 1) := by decide +kernel
theorem dX11_test_19 : decode cX11_test 19 = .ok (.iload_n 1, 1) := by decide +kernel
theorem dX11_test_20 : decode cX11_test 20 = .ok (.invokevirtual 109, 3) := by decide +kernel
theorem dX11_test_23 : decode cX11_test 23 = .ok (.istore 4, 2) := by decide +kernel
theorem dX11_test_25 : decode cX11_test 25 = .ok (.iload_n 3, 1) := by decide +kernel
theorem dX11_test_26 : decode cX11_test 26 = .ok (.iload 4, 2) := by decide +kernel
theorem dX11_test_28 : decode cX11_test 28 = .ok (.if_icmp .le 5, 3) := by decide +kernel
theorem dX11_test_31 : decode cX11_test 31 = .ok (.iconst (-1), 1) := by decide +kernel
theorem dX11_test_32 : decode cX11_test 32 = .ok (.ireturn, 1) := by decide +kernel
theorem dX11_test_33 : decode cX11_test 33 = .ok (.iconst 0, 1) := by decide +kernel
theorem dX11_test_34 : decode cX11_test 34 = .ok (.istore 5, 2) := by decide +kernel
theorem dX11_test_36 : decode cX11_test 36 = .ok (.iload_n 2, 1) := by decide +kernel
theorem dX11_test_37 : decode cX11_test 37 = .ok (.istore 6, 2) := by decide +kernel
theorem dX11_test_39 : decode cX11_test 39 = .ok (.iconst 0, 1) := by decide +kernel
theorem dX11_test_40 : decode cX11_test 40 = .ok (.istore 7, 2) := by decide +kernel
theorem dX11_test_42 : decode cX11_test 42 = .ok (.iload 7, 2) := by decide +kernel
theorem dX11_test_44 : decode cX11_test 44 = .ok (.iload_n 3, 1) := by decide +kernel
theorem dX11_test_45 : decode cX11_test 45 = .ok (.if_icmp .ge 86, 3) := by decide +kernel
theorem dX11_test_48 : decode cX11_test 48 = .ok (.iload 4, 2) := by decide +kernel
theorem dX11_test_50 : decode cX11_test 50 = .ok (.ifCond .le 81, 3) := by decide +kernel
theorem dX11_test_53 : decode cX11_test 53 = .ok (.iload 6, 2) := by decide +kernel
theorem dX11_test_55 : decode cX11_test 55 = .ok (.invokestatic 112, 3) := by decide +kernel
theorem dX11_test_58 : decode cX11_test 58 = .ok (.istore 6, 2) := by decide +kernel
theorem dX11_test_60 : decode cX11_test 60 = .ok (.iload 6, 2) := by decide +kernel
theorem dX11_test_62 : decode cX11_test 62 = .ok (.bipush 16, 2) := by decide +kernel
theorem dX11_test_64 : decode cX11_test 64 = .ok (.iushr, 1) := by decide +kernel
theorem dX11_test_65 : decode cX11_test 65 = .ok (.iload 4, 2) := by decide +kernel
theorem dX11_test_67 : decode cX11_test 67 = .ok (.irem, 1) := by decide +kernel
theorem dX11_test_68 : decode cX11_test 68 = .ok (.istore 8, 2) := by decide +kernel
theorem dX11_test_70 : decode cX11_test 70 = .ok (.aload_n 0, 1) := by decide +kernel
theorem dX11_test_71 : decode cX11_test 71 = .ok (.iload_n 1, 1) := by decide +kernel
theorem dX11_test_72 : decode cX11_test 72 = .ok (.aload_n 0, 1) := by decide +kernel
theorem dX11_test_73 : decode cX11_test 73 = .ok (.getfield 59, 3) := by decide +kernel
theorem dX11_test_76 : decode cX11_test 76 = .ok (.iload 8, 2) := by decide +kernel
theorem dX11_test_78 : decode cX11_test 78 = .ok (.iaload, 1) := by decide +kernel
theorem dX11_test_79 : decode cX11_test 79 = .ok (.invokevirtual 74, 3) := by decide +kernel
theorem dX11_test_82 : decode cX11_test 82 = .ok (.astore 9, 2) := by decide +kernel
theorem dX11_test_84 : decode cX11_test 84 = .ok (.aload 9, 2) := by decide +kernel
theorem dX11_test_86 : decode cX11_test 86 = .ok (.ifnull 14, 3) := by decide +kernel
theorem dX11_test_89 : decode cX11_test 89 = .ok (.aload 9, 2) := by decide +kernel
theorem dX11_test_91 : decode cX11_test 91 = .ok (.invokevirtual 115, 3) := by decide +kernel
theorem dX11_test_94 : decode cX11_test 94 = .ok (.ifCond .eq 6, 3) := by decide +kernel
theorem dX11_test_97 : decode cX11_test 97 = .ok (.iinc 5 1, 3) := by decide +kernel
theorem dX11_test_100 : decode cX11_test 100 = .ok (.iinc 4 (-1), 3) := by decide +kernel
theorem dX11_test_103 : decode cX11_test 103 = .ok (.aload_n 0, 1) := by decide +kernel
theorem dX11_test_104 : decode cX11_test 104 = .ok (.getfield 59, 3) := by decide +kernel
theorem dX11_test_107 : decode cX11_test 107 = .ok (.iload 8, 2) := by decide +kernel
theorem dX11_test_109 : decode cX11_test 109 = .ok (.iconst 1, 1) := by decide +kernel
theorem dX11_test_110 : decode cX11_test 110 = .ok (.iadd, 1) := by decide +kernel
theorem dX11_test_111 : decode cX11_test 111 = .ok (.aload_n 0, 1) := by decide +kernel
theorem dX11_test_112 : decode cX11_test 112 = .ok (.getfield 59, 3) := by decide +kernel
theorem dX11_test_115 : decode cX11_test 115 = .ok (.iload 8, 2) := by decide +kernel
theorem dX11_test_117 : decode cX11_test 117 = .ok (.iload 4, 2) := by decide +kernel
theorem dX11_test_119 : decode cX11_test 119 = .ok (.iload 8, 2) := by decide +kernel
theorem dX11_test_121 : decode cX11_test 121 = .ok (.isub, 1) := by decide +kernel
theorem dX11_test_122 : decode cX11_test 122 = .ok (.invokestatic 118, 3) := by decide +kernel
theorem dX11_test_125 : decode cX11_test 125 = .ok (.iinc 7 1, 3) := by decide +kernel
theorem dX11_test_128 : decode cX11_test 128 = .ok (.goto (-86), 3) := by decide +kernel
theorem dX11_test_131 : decode cX11_test 131 = .ok (.iload 5, 2) := by decide +kernel
theorem dX11_test_133 : decode cX11_test 133 = .ok (.ireturn, 1) := by decide +kernel
set_option maxRecDepth 20000 in
theorem ggX11_target_X11_potAt : GoodIn wsX11_target wsX11_potAt := goodIn_h _ [6, 0, 0, 18, 0, 0, 0, 0, 0, 0, 0, 0, 0, 0, 0] [0, 1, 2, 3, 4, 5, 6, 7, 8, 9, 10, 11, 12, 13, 14] (by decide +kernel) (by decide +kernel)
set_option maxRecDepth 20000 in
theorem gX11_target_X11_potAt : GoodIn wsX11_target (wsV RX11 134 RX11 yX11_potAt wsX11_potAt) := goodIn_app (goodIn_of _ (by decide +kernel)) ggX11_target_X11_potAt
set_option maxRecDepth 20000 in
theorem ggX11_target_X11_isTarget : GoodIn wsX11_target wsX11_isTarget := goodIn_h _ [5, 5, 0, 0, 0] [1, 2, 3, 0, 4] (by decide +kernel) (by decide +kernel)
set_option maxRecDepth 20000 in
theorem gX11_target_X11_isTarget : GoodIn wsX11_target (va_wsS RX11 127 yX11_isTarget wsX11_isTarget) := goodIn_app (goodIn_of _ (by decide +kernel)) ggX11_target_X11_isTarget
theorem dX11_target_0 : decode cX11_target 0 = .ok (.aload_n 0, 1) := by decide +kernel
theorem dX11_target_1 : decode cX11_target 1 = .ok (.iload_n 1, 1) := by decide +kernel
theorem dX11_target_2 : decode cX11_target 2 = .ok (.invokevirtual 134, 3) := by decide +kernel
theorem dX11_target_5 : decode cX11_target 5 = .ok (.astore_n 3, 1) := by decide +kernel
theorem dX11_target_6 : decode cX11_target 6 = .ok (.aload_n 3, 1) := by decide +kernel
theorem dX11_target_7 : decode cX11_target 7 = .ok (.ifnull 10, 3) := by decide +kernel
theorem dX11_target_10 : decode cX11_target 10 = .ok (.iload_n 2, 1) := by decide +kernel
theorem dX11_target_11 : decode cX11_target 11 = .ok (.invokestatic 127, 3) := by decide +kernel
theorem dX11_target_14 : decode cX11_target 14 = .ok (.ifCond .ne 5, 3) := by decide +kernel
theorem dX11_target_17 : decode cX11_target 17 = .ok (.iconst 0, 1) := by decide +kernel
theorem dX11_target_18 : decode cX11_target 18 = .ok (.ireturn, 1) := by decide +kernel
theorem dX11_target_19 : decode cX11_target 19 = .ok (.aload_n 3, 1) := by decide +kernel
theorem dX11_target_20 : decode cX11_target 20 = .ok (.iload_n 2, 1) := by decide +kernel
theorem dX11_target_21 : decode cX11_target 21 = .ok (.putfield 138, 3) := by decide +kernel
theorem dX11_target_24 : decode cX11_target 24 = .ok (.iconst 1, 1) := by decide +kernel
theorem dX11_target_25 : decode cX11_target 25 = .ok (.ireturn, 1) := by decide +kernel
set_option maxRecDepth 20000 in
theorem ggX11_feed_X10_append : GoodIn wsX11_feed wsX10_append := goodIn_h _ [7, 0, 0, 12, 0, 0, 0, 0, 0, 0] [0, 1, 2, 3, 4, 5, 6, 7, 8, 9] (by decide +kernel) (by decide +kernel)
set_option maxRecDepth 20000 in
theorem gX11_feed_X10_append : GoodIn wsX11_feed (wsV RX11 148 RX10 yX10_append wsX10_append) := goodIn_app (goodIn_of _ (by decide +kernel)) ggX11_feed_X10_append
theorem dX11_feed_0 : decode cX11_feed 0 = .ok (.aload_n 0, 1) := by decide +kernel
theorem dX11_feed_1 : decode cX11_feed 1 = .ok (.getfield 28, 3) := by decide +kernel
theorem dX11_feed_4 : decode cX11_feed 4 = .ok (.getfield 145, 3) := by decide +kernel
theorem dX11_feed_7 : decode cX11_feed 7 = .ok (.bipush 20, 2) := by decide +kernel
theorem dX11_feed_9 : decode cX11_feed 9 = .ok (.iadd, 1) := by decide +kernel
theorem dX11_feed_10 : decode cX11_feed 10 = .ok (.sipush 400, 3) := by decide +kernel
theorem dX11_feed_13 : decode cX11_feed 13 = .ok (.if_icmp .le 5, 3) := by decide +kernel
theorem dX11_feed_16 : decode cX11_feed 16 = .ok (.iconst (-1), 1) := by decide +kernel
theorem dX11_feed_17 : decode cX11_feed 17 = .ok (.ireturn, 1) := by decide +kernel
theorem dX11_feed_18 : decode cX11_feed 18 = .ok (.aload_n 0, 1) := by decide +kernel
theorem dX11_feed_19 : decode cX11_feed 19 = .ok (.getfield 28, 3) := by decide +kernel
theorem dX11_feed_22 : decode cX11_feed 22 = .ok (.iload_n 1, 1) := by decide +kernel
theorem dX11_feed_23 : decode cX11_feed 23 = .ok (.invokevirtual 148, 3) := by decide +kernel
theorem dX11_feed_26 : decode cX11_feed 26 = .ok (.aload_n 0, 1) := by decide +kernel
theorem dX11_feed_27 : decode cX11_feed 27 = .ok (.getfield 28, 3) := by decide +kernel
theorem dX11_feed_30 : decode cX11_feed 30 = .ok (.iload_n 2, 1) := by decide +kernel
theorem dX11_feed_31 : decode cX11_feed 31 = .ok (.invokevirtual 148, 3) := by decide +kernel
theorem dX11_feed_34 : decode cX11_feed 34 = .ok (.aload_n 0, 1) := by decide +kernel
theorem dX11_feed_35 : decode cX11_feed 35 = .ok (.getfield 28, 3) := by decide +kernel
theorem dX11_feed_38 : decode cX11_feed 38 = .ok (.iload_n 3, 1) := by decide +kernel
theorem dX11_feed_39 : decode cX11_feed 39 = .ok (.invokevirtual 148, 3) := by decide +kernel
theorem dX11_feed_42 : decode cX11_feed 42 = .ok (.aload_n 0, 1) := by decide +kernel
theorem dX11_feed_43 : decode cX11_feed 43 = .ok (.getfield 28, 3) := by decide +kernel
theorem dX11_feed_46 : decode cX11_feed 46 = .ok (.iload 4, 2) := by decide +kernel
theorem dX11_feed_48 : decode cX11_feed 48 = .ok (.invokevirtual 148, 3) := by decide +kernel
theorem dX11_feed_51 : decode cX11_feed 51 = .ok (.aload_n 0, 1) := by decide +kernel
theorem dX11_feed_52 : decode cX11_feed 52 = .ok (.getfield 28, 3) := by decide +kernel
theorem dX11_feed_55 : decode cX11_feed 55 = .ok (.iload 5, 2) := by decide +kernel
theorem dX11_feed_57 : decode cX11_feed 57 = .ok (.invokevirtual 148, 3) := by decide +kernel
theorem dX11_feed_60 : decode cX11_feed 60 = .ok (.aload_n 0, 1) := by decide +kernel
theorem dX11_feed_61 : decode cX11_feed 61 = .ok (.getfield 28, 3) := by decide +kernel
theorem dX11_feed_64 : decode cX11_feed 64 = .ok (.getfield 145, 3) := by decide +kernel
theorem dX11_feed_67 : decode cX11_feed 67 = .ok (.ireturn, 1) := by decide +kernel
theorem dX11_end_0 : decode cX11_end 0 = .ok (.iload_n 1, 1) := by decide +kernel
theorem dX11_end_1 : decode cX11_end 1 = .ok (.ifCond .lt 14, 3) := by decide +kernel
theorem dX11_end_4 : decode cX11_end 4 = .ok (.iload_n 1, 1) := by decide +kernel
theorem dX11_end_5 : decode cX11_end 5 = .ok (.aload_n 0, 1) := by decide +kernel
theorem dX11_end_6 : decode cX11_end 6 = .ok (.getfield 28, 3) := by decide +kernel
theorem dX11_end_9 : decode cX11_end 9 = .ok (.getfield 145, 3) := by decide +kernel
theorem dX11_end_12 : decode cX11_end 12 = .ok (.if_icmp .le 5, 3) := by decide +kernel
theorem dX11_end_15 : decode cX11_end 15 = .ok (.iconst (-1), 1) := by decide +kernel
theorem dX11_end_16 : decode cX11_end 16 = .ok (.ireturn, 1) := by decide +kernel
theorem dX11_end_17 : decode cX11_end 17 = .ok (.aload_n 0, 1) := by decide +kernel
theorem dX11_end_18 : decode cX11_end 18 = .ok (.getfield 28, 3) := by decide +kernel
theorem dX11_end_21 : decode cX11_end 21 = .ok (.iload_n 1, 1) := by decide +kernel
theorem dX11_end_22 : decode cX11_end 22 = .ok (.putfield 145, 3) := by decide +kernel
theorem dX11_end_25 : decode cX11_end 25 = .ok (.iload_n 1, 1) := by decide +kernel
theorem dX11_end_26 : decode cX11_end 26 = .ok (.ireturn, 1) := by decide +kernel
theorem dX11_place_0 : decode cX11_place 0 = .ok (.aload_n 0, 1) := by decide +kernel
theorem dX11_place_1 : decode cX11_place 1 = .ok (.getfield 28, 3) := by decide +kernel
theorem dX11_place_4 : decode cX11_place 4 = .ok (.getfield 166, 3) := by decide +kernel
theorem dX11_place_7 : decode cX11_place 7 = .ok (.ireturn, 1) := by decide +kernel
set_option maxRecDepth 20000 in
theorem ggX11_about_X11_potAt : GoodIn wsX11_about wsX11_potAt := goodIn_h _ [18, 0, 0, 55, 0, 0, 0, 0, 0, 0, 0, 0, 0, 0, 0] [0, 1, 2, 3, 4, 5, 6, 7, 8, 9, 10, 11, 12, 13, 14] (by decide +kernel) (by decide +kernel)
set_option maxRecDepth 20000 in
theorem gX11_about_X11_potAt : GoodIn wsX11_about (wsV RX11 134 RX11 yX11_potAt wsX11_potAt) := goodIn_app (goodIn_of _ (by decide +kernel)) ggX11_about_X11_potAt
set_option maxRecDepth 20000 in
theorem ggX11_about_X5_sumOfFineness : GoodIn wsX11_about wsX5_sumOfFineness := goodIn_h _ [24, 0, 0, 0, 0, 0, 0, 0, 0, 0, 0, 0, 0, 0, 0, 0, 0, 0, 0, 0, 0, 12, 0, 0, 28, 0, 0, 0, 0, 0, 0, 0, 0, 0] [1, 2, 3, 4, 5, 6, 0, 7, 8, 9, 10, 11, 12, 13, 14, 15, 16, 17, 18, 19, 20, 21, 22, 23, 24, 25, 26, 27, 28, 29, 30, 31, 32, 33] (by decide +kernel) (by decide +kernel)
set_option maxRecDepth 20000 in
theorem gX11_about_X5_sumOfFineness : GoodIn wsX11_about (wsV RX11 201 RX5 yX5_sumOfFineness wsX5_sumOfFineness) := goodIn_app (goodIn_of _ (by decide +kernel)) ggX11_about_X5_sumOfFineness
theorem dX11_about_0 : decode cX11_about 0 = .ok (.aload_n 0, 1) := by decide +kernel
theorem dX11_about_1 : decode cX11_about 1 = .ok (.iload_n 1, 1) := by decide +kernel
theorem dX11_about_2 : decode cX11_about 2 = .ok (.invokevirtual 134, 3) := by decide +kernel
theorem dX11_about_5 : decode cX11_about 5 = .ok (.astore_n 3, 1) := by decide +kernel
theorem dX11_about_6 : decode cX11_about 6 = .ok (.aload_n 3, 1) := by decide +kernel
theorem dX11_about_7 : decode cX11_about 7 = .ok (.ifnonnull 5, 3) := by decide +kernel
theorem dX11_about_10 : decode cX11_about 10 = .ok (.iconst (-1), 1) := by decide +kernel
theorem dX11_about_11 : decode cX11_about 11 = .ok (.ireturn, 1) := by decide +kernel
theorem dX11_about_12 : decode cX11_about 12 = .ok (.iload_n 2, 1) := by decide +kernel
theorem dX11_about_13 : decode cX11_about 13 = .ok (.tableswitch 132 0 10 #[59, 67, 75, 83, 91, 96, 101, 109, 114, 119, 127], 59) := by decide +kernel
theorem dX11_about_72 : decode cX11_about 72 = .ok (.aload_n 3, 1) := by decide +kernel
theorem dX11_about_73 : decode cX11_about 73 = .ok (.getfield 173, 3) := by decide +kernel
theorem dX11_about_76 : decode cX11_about 76 = .ok (.getfield 177, 3) := by decide +kernel
theorem dX11_about_79 : decode cX11_about 79 = .ok (.ireturn, 1) := by decide +kernel
theorem dX11_about_80 : decode cX11_about 80 = .ok (.aload_n 3, 1) := by decide +kernel
theorem dX11_about_81 : decode cX11_about 81 = .ok (.getfield 180, 3) := by decide +kernel
theorem dX11_about_84 : decode cX11_about 84 = .ok (.getfield 177, 3) := by decide +kernel
theorem dX11_about_87 : decode cX11_about 87 = .ok (.ireturn, 1) := by decide +kernel
theorem dX11_about_88 : decode cX11_about 88 = .ok (.aload_n 3, 1) := by decide +kernel
theorem dX11_about_89 : decode cX11_about 89 = .ok (.getfield 183, 3) := by decide +kernel
theorem dX11_about_92 : decode cX11_about 92 = .ok (.getfield 177, 3) := by decide +kernel
theorem dX11_about_95 : decode cX11_about 95 = .ok (.ireturn, 1) := by decide +kernel
theorem dX11_about_96 : decode cX11_about 96 = .ok (.aload_n 3, 1) := by decide +kernel
theorem dX11_about_97 : decode cX11_about 97 = .ok (.getfield 186, 3) := by decide +kernel
theorem dX11_about_100 : decode cX11_about 100 = .ok (.getfield 190, 3) := by decide +kernel
theorem dX11_about_103 : decode cX11_about 103 = .ok (.ireturn, 1) := by decide +kernel
theorem dX11_about_104 : decode cX11_about 104 = .ok (.aload_n 3, 1) := by decide +kernel
theorem dX11_about_105 : decode cX11_about 105 = .ok (.getfield 195, 3) := by decide +kernel
theorem dX11_about_108 : decode cX11_about 108 = .ok (.ireturn, 1) := by decide +kernel
theorem dX11_about_109 : decode cX11_about 109 = .ok (.aload_n 3, 1) := by decide +kernel
theorem dX11_about_110 : decode cX11_about 110 = .ok (.getfield 198, 3) := by decide +kernel
theorem dX11_about_113 : decode cX11_about 113 = .ok (.ireturn, 1) := by decide +kernel
theorem dX11_about_114 : decode cX11_about 114 = .ok (.aload_n 3, 1) := by decide +kernel
theorem dX11_about_115 : decode cX11_about 115 = .ok (.getfield 180, 3) := by decide +kernel
theorem dX11_about_118 : decode cX11_about 118 = .ok (.invokevirtual 201, 3) := by decide +kernel
theorem dX11_about_121 : decode cX11_about 121 = .ok (.ireturn, 1) := by decide +kernel
theorem dX11_about_122 : decode cX11_about 122 = .ok (.aload_n 3, 1) := by decide +kernel
theorem dX11_about_123 : decode cX11_about 123 = .ok (.getfield 205, 3) := by decide +kernel
theorem dX11_about_126 : decode cX11_about 126 = .ok (.ireturn, 1) := by decide +kernel
theorem dX11_about_127 : decode cX11_about 127 = .ok (.aload_n 3, 1) := by decide +kernel
theorem dX11_about_128 : decode cX11_about 128 = .ok (.getfield 208, 3) := by decide +kernel
theorem dX11_about_131 : decode cX11_about 131 = .ok (.ireturn, 1) := by decide +kernel
theorem dX11_about_132 : decode cX11_about 132 = .ok (.aload_n 3, 1) := by decide +kernel
theorem dX11_about_133 : decode cX11_about 133 = .ok (.getfield 162, 3) := by decide +kernel
theorem dX11_about_136 : decode cX11_about 136 = .ok (.getfield 165, 3) := by decide +kernel
theorem dX11_about_139 : decode cX11_about 139 = .ok (.ireturn, 1) := by decide +kernel
theorem dX11_about_140 : decode cX11_about 140 = .ok (.aload_n 3, 1) := by decide +kernel
theorem dX11_about_141 : decode cX11_about 141 = .ok (.getfield 138, 3) := by decide +kernel
theorem dX11_about_144 : decode cX11_about 144 = .ok (.ireturn, 1) := by decide +kernel
theorem dX11_about_145 : decode cX11_about 145 = .ok (.iconst (-1), 1) := by decide +kernel
theorem dX11_about_146 : decode cX11_about 146 = .ok (.ireturn, 1) := by decide +kernel
set_option maxRecDepth 20000 in
theorem ggX11_skein_X8_skeinAt : GoodIn wsX11_skein wsX8_skeinAt := goodIn_h _ [18, 0, 0, 42, 0, 0, 0, 0, 0, 0, 0, 0, 0, 0, 0, 0] [0, 1, 2, 3, 4, 5, 6, 7, 8, 9, 10, 11, 12, 13, 14, 15] (by decide +kernel) (by decide +kernel)
set_option maxRecDepth 20000 in
theorem gX11_skein_X8_skeinAt : GoodIn wsX11_skein (wsV RX11 231 RX8 yX8_skeinAt wsX8_skeinAt) := goodIn_app (goodIn_of _ (by decide +kernel)) ggX11_skein_X8_skeinAt
set_option maxRecDepth 20000 in
theorem ggX11_skein_X8_priceOf : GoodIn wsX11_skein wsX8_priceOf := goodIn_h _ [24, 0, 0, 0, 0, 0, 0, 0, 12, 0, 0, 0, 0, 0, 0, 0, 0, 0, 0, 0, 0, 0, 0, 0, 0, 0, 0, 0, 0, 0, 0, 0, 0, 0, 0, 0, 0, 0, 0, 0] [0, 1, 2, 3, 4, 5, 6, 7, 8, 9, 10, 11, 12, 13, 14, 15, 16, 17, 18, 19, 20, 21, 22, 23, 24, 25, 26, 27, 28, 29, 30, 31, 32, 33, 34, 35, 36, 37, 38, 39] (by decide +kernel) (by decide +kernel)
set_option maxRecDepth 20000 in
theorem gX11_skein_X8_priceOf : GoodIn wsX11_skein (wsV RX11 264 RX8 yX8_priceOf wsX8_priceOf) := goodIn_app (goodIn_of _ (by decide +kernel)) ggX11_skein_X8_priceOf
theorem dX11_skein_0 : decode cX11_skein 0 = .ok (.aload_n 0, 1) := by decide +kernel
theorem dX11_skein_1 : decode cX11_skein 1 = .ok (.getfield 42, 3) := by decide +kernel
theorem dX11_skein_4 : decode cX11_skein 4 = .ok (.iload_n 1, 1) := by decide +kernel
theorem dX11_skein_5 : decode cX11_skein 5 = .ok (.invokevirtual 231, 3) := by decide +kernel
theorem dX11_skein_8 : decode cX11_skein 8 = .ok (.astore_n 3, 1) := by decide +kernel
theorem dX11_skein_9 : decode cX11_skein 9 = .ok (.aload_n 3, 1) := by decide +kernel
theorem dX11_skein_10 : decode cX11_skein 10 = .ok (.ifnonnull 5, 3) := by decide +kernel
theorem dX11_skein_13 : decode cX11_skein 13 = .ok (.iconst (-1), 1) := by decide +kernel
theorem dX11_skein_14 : decode cX11_skein 14 = .ok (.ireturn, 1) := by decide +kernel
theorem dX11_skein_15 : decode cX11_skein 15 = .ok (.iload_n 2, 1) := by decide +kernel
theorem dX11_skein_16 : decode cX11_skein 16 = .ok (.tableswitch 145 0 11 #[64, 69, 74, 82, 90, 95, 100, 105, 113, 118, 131, 140], 64) := by decide +kernel
theorem dX11_skein_80 : decode cX11_skein 80 = .ok (.aload_n 3, 1) := by decide +kernel
theorem dX11_skein_81 : decode cX11_skein 81 = .ok (.getfield 235, 3) := by decide +kernel
theorem dX11_skein_84 : decode cX11_skein 84 = .ok (.ireturn, 1) := by decide +kernel
theorem dX11_skein_85 : decode cX11_skein 85 = .ok (.aload_n 3, 1) := by decide +kernel
theorem dX11_skein_86 : decode cX11_skein 86 = .ok (.getfield 238, 3) := by decide +kernel
theorem dX11_skein_89 : decode cX11_skein 89 = .ok (.ireturn, 1) := by decide +kernel
theorem dX11_skein_90 : decode cX11_skein 90 = .ok (.aload_n 3, 1) := by decide +kernel
theorem dX11_skein_91 : decode cX11_skein 91 = .ok (.getfield 241, 3) := by decide +kernel
theorem dX11_skein_94 : decode cX11_skein 94 = .ok (.getfield 190, 3) := by decide +kernel
theorem dX11_skein_97 : decode cX11_skein 97 = .ok (.ireturn, 1) := by decide +kernel
theorem dX11_skein_98 : decode cX11_skein 98 = .ok (.aload_n 3, 1) := by decide +kernel
theorem dX11_skein_99 : decode cX11_skein 99 = .ok (.getfield 241, 3) := by decide +kernel
theorem dX11_skein_102 : decode cX11_skein 102 = .ok (.getfield 242, 3) := by decide +kernel
theorem dX11_skein_105 : decode cX11_skein 105 = .ok (.ireturn, 1) := by decide +kernel
theorem dX11_skein_106 : decode cX11_skein 106 = .ok (.aload_n 3, 1) := by decide +kernel
theorem dX11_skein_107 : decode cX11_skein 107 = .ok (.getfield 245, 3) := by decide +kernel
theorem dX11_skein_110 : decode cX11_skein 110 = .ok (.ireturn, 1) := by decide +kernel
theorem dX11_skein_111 : decode cX11_skein 111 = .ok (.aload_n 3, 1) := by decide +kernel
theorem dX11_skein_112 : decode cX11_skein 112 = .ok (.getfield 248, 3) := by decide +kernel
theorem dX11_skein_115 : decode cX11_skein 115 = .ok (.ireturn, 1) := by decide +kernel
theorem dX11_skein_116 : decode cX11_skein 116 = .ok (.aload_n 3, 1) := by decide +kernel
theorem dX11_skein_117 : decode cX11_skein 117 = .ok (.getfield 251, 3) := by decide +kernel
theorem dX11_skein_120 : decode cX11_skein 120 = .ok (.ireturn, 1) := by decide +kernel
theorem dX11_skein_121 : decode cX11_skein 121 = .ok (.aload_n 3, 1) := by decide +kernel
theorem dX11_skein_122 : decode cX11_skein 122 = .ok (.getfield 241, 3) := by decide +kernel
theorem dX11_skein_125 : decode cX11_skein 125 = .ok (.getfield 254, 3) := by decide +kernel
theorem dX11_skein_128 : decode cX11_skein 128 = .ok (.ireturn, 1) := by decide +kernel
theorem dX11_skein_129 : decode cX11_skein 129 = .ok (.aload_n 3, 1) := by decide +kernel
theorem dX11_skein_130 : decode cX11_skein 130 = .ok (.getfield 257, 3) := by decide +kernel
theorem dX11_skein_133 : decode cX11_skein 133 = .ok (.ireturn, 1) := by decide +kernel
theorem dX11_skein_134 : decode cX11_skein 134 = .ok (.aload_n 3, 1) := by decide +kernel
theorem dX11_skein_135 : decode cX11_skein 135 = .ok (.getfield 260, 3) := by decide +kernel
theorem dX11_skein_138 : decode cX11_skein 138 = .ok (.ifCond .eq 7, 3) := by decide +kernel
theorem dX11_skein_141 : decode cX11_skein 141 = .ok (.iconst 1, 1) := by decide +kernel
theorem dX11_skein_142 : decode cX11_skein 142 = .ok (.goto 4, 3) := by decide +kernel
theorem dX11_skein_145 : decode cX11_skein 145 = .ok (.iconst 0, 1) := by decide +kernel
theorem dX11_skein_146 : decode cX11_skein 146 = .ok (.ireturn, 1) := by decide +kernel
theorem dX11_skein_147 : decode cX11_skein 147 = .ok (.aload_n 0, 1) := by decide +kernel
theorem dX11_skein_148 : decode cX11_skein 148 = .ok (.getfield 42, 3) := by decide +kernel
theorem dX11_skein_151 : decode cX11_skein 151 = .ok (.aload_n 3, 1) := by decide +kernel
theorem dX11_skein_152 : decode cX11_skein 152 = .ok (.invokevirtual 264, 3) := by decide +kernel
theorem dX11_skein_155 : decode cX11_skein 155 = .ok (.ireturn, 1) := by decide +kernel
theorem dX11_skein_156 : decode cX11_skein 156 = .ok (.aload_n 3, 1) := by decide +kernel
theorem dX11_skein_157 : decode cX11_skein 157 = .ok (.getfield 268, 3) := by decide +kernel
theorem dX11_skein_160 : decode cX11_skein 160 = .ok (.ireturn, 1) := by decide +kernel
theorem dX11_skein_161 : decode cX11_skein 161 = .ok (.iconst (-1), 1) := by decide +kernel
theorem dX11_skein_162 : decode cX11_skein 162 = .ok (.ireturn, 1) := by decide +kernel
set_option maxRecDepth 20000 in
theorem ggX11_metre_X8_skeinAt : GoodIn wsX11_metre wsX8_skeinAt := goodIn_h _ [10, 0, 0, 31, 0, 0, 0, 0, 0, 0, 0, 0, 0, 0, 0, 0] [0, 1, 2, 3, 4, 5, 6, 7, 8, 9, 10, 11, 12, 13, 14, 15] (by decide +kernel) (by decide +kernel)
set_option maxRecDepth 20000 in
theorem gX11_metre_X8_skeinAt : GoodIn wsX11_metre (wsV RX11 231 RX8 yX8_skeinAt wsX8_skeinAt) := goodIn_app (goodIn_of _ (by decide +kernel)) ggX11_metre_X8_skeinAt
theorem dX11_metre_0 : decode cX11_metre 0 = .ok (.aload_n 0, 1) := by decide +kernel
theorem dX11_metre_1 : decode cX11_metre 1 = .ok (.getfield 42, 3) := by decide +kernel
theorem dX11_metre_4 : decode cX11_metre 4 = .ok (.iload_n 1, 1) := by decide +kernel
theorem dX11_metre_5 : decode cX11_metre 5 = .ok (.invokevirtual 231, 3) := by decide +kernel
theorem dX11_metre_8 : decode cX11_metre 8 = .ok (.astore 4, 2) := by decide +kernel
theorem dX11_metre_10 : decode cX11_metre 10 = .ok (.aload 4, 2) := by decide +kernel
theorem dX11_metre_12 : decode cX11_metre 12 = .ok (.ifnull 19, 3) := by decide +kernel
theorem dX11_metre_15 : decode cX11_metre 15 = .ok (.iload_n 2, 1) := by decide +kernel
theorem dX11_metre_16 : decode cX11_metre 16 = .ok (.ifCond .lt 15, 3) := by decide +kernel
theorem dX11_metre_19 : decode cX11_metre 19 = .ok (.iload_n 2, 1) := by decide +kernel
theorem dX11_metre_20 : decode cX11_metre 20 = .ok (.aload 4, 2) := by decide +kernel
theorem dX11_metre_22 : decode cX11_metre 22 = .ok (.getfield 241, 3) := by decide +kernel
theorem dX11_metre_25 : decode cX11_metre 25 = .ok (.getfield 190, 3) := by decide +kernel
theorem dX11_metre_28 : decode cX11_metre 28 = .ok (.if_icmp .lt 5, 3) := by decide +kernel
theorem dX11_metre_31 : decode cX11_metre 31 = .ok (.iconst (-1), 1) := by decide +kernel
theorem dX11_metre_32 : decode cX11_metre 32 = .ok (.ireturn, 1) := by decide +kernel
theorem dX11_metre_33 : decode cX11_metre 33 = .ok (.iload_n 3, 1) := by decide +kernel
theorem dX11_metre_34 : decode cX11_metre 34 = .ok (.lookupswitch 48 #[(0, 26), (1, 37)], 26) := by decide +kernel
theorem dX11_metre_60 : decode cX11_metre 60 = .ok (.aload 4, 2) := by decide +kernel
theorem dX11_metre_62 : decode cX11_metre 62 = .ok (.getfield 241, 3) := by decide +kernel
theorem dX11_metre_65 : decode cX11_metre 65 = .ok (.getfield 269, 3) := by decide +kernel
theorem dX11_metre_68 : decode cX11_metre 68 = .ok (.iload_n 2, 1) := by decide +kernel
theorem dX11_metre_69 : decode cX11_metre 69 = .ok (.iaload, 1) := by decide +kernel
theorem dX11_metre_70 : decode cX11_metre 70 = .ok (.ireturn, 1) := by decide +kernel
theorem dX11_metre_71 : decode cX11_metre 71 = .ok (.aload 4, 2) := by decide +kernel
theorem dX11_metre_73 : decode cX11_metre 73 = .ok (.getfield 241, 3) := by decide +kernel
theorem dX11_metre_76 : decode cX11_metre 76 = .ok (.getfield 272, 3) := by decide +kernel
theorem dX11_metre_79 : decode cX11_metre 79 = .ok (.iload_n 2, 1) := by decide +kernel
theorem dX11_metre_80 : decode cX11_metre 80 = .ok (.iaload, 1) := by decide +kernel
theorem dX11_metre_81 : decode cX11_metre 81 = .ok (.ireturn, 1) := by decide +kernel
theorem dX11_metre_82 : decode cX11_metre 82 = .ok (.iconst (-1), 1) := by decide +kernel
theorem dX11_metre_83 : decode cX11_metre 83 = .ok (.ireturn, 1) := by decide +kernel
set_option maxRecDepth 20000 in
theorem ggX11_piece_X8_skeinAt : GoodIn wsX11_piece wsX8_skeinAt := goodIn_h _ [12, 0, 0, 31, 0, 0, 0, 0, 0, 0, 0, 0, 0, 0, 0, 0] [0, 1, 2, 3, 4, 5, 6, 7, 8, 9, 10, 11, 12, 13, 14, 15] (by decide +kernel) (by decide +kernel)
set_option maxRecDepth 20000 in
theorem gX11_piece_X8_skeinAt : GoodIn wsX11_piece (wsV RX11 231 RX8 yX8_skeinAt wsX8_skeinAt) := goodIn_app (goodIn_of _ (by decide +kernel)) ggX11_piece_X8_skeinAt
theorem dX11_piece_0 : decode cX11_piece 0 = .ok (.aload_n 0, 1) := by decide +kernel
theorem dX11_piece_1 : decode cX11_piece 1 = .ok (.getfield 42, 3) := by decide +kernel
theorem dX11_piece_4 : decode cX11_piece 4 = .ok (.iload_n 1, 1) := by decide +kernel
theorem dX11_piece_5 : decode cX11_piece 5 = .ok (.invokevirtual 231, 3) := by decide +kernel
theorem dX11_piece_8 : decode cX11_piece 8 = .ok (.astore 4, 2) := by decide +kernel
theorem dX11_piece_10 : decode cX11_piece 10 = .ok (.aload 4, 2) := by decide +kernel
theorem dX11_piece_12 : decode cX11_piece 12 = .ok (.ifnull 19, 3) := by decide +kernel
theorem dX11_piece_15 : decode cX11_piece 15 = .ok (.iload_n 2, 1) := by decide +kernel
theorem dX11_piece_16 : decode cX11_piece 16 = .ok (.ifCond .lt 15, 3) := by decide +kernel
theorem dX11_piece_19 : decode cX11_piece 19 = .ok (.iload_n 2, 1) := by decide +kernel
theorem dX11_piece_20 : decode cX11_piece 20 = .ok (.aload 4, 2) := by decide +kernel
theorem dX11_piece_22 : decode cX11_piece 22 = .ok (.getfield 241, 3) := by decide +kernel
theorem dX11_piece_25 : decode cX11_piece 25 = .ok (.getfield 254, 3) := by decide +kernel
theorem dX11_piece_28 : decode cX11_piece 28 = .ok (.if_icmp .lt 5, 3) := by decide +kernel
theorem dX11_piece_31 : decode cX11_piece 31 = .ok (.iconst (-1), 1) := by decide +kernel
theorem dX11_piece_32 : decode cX11_piece 32 = .ok (.ireturn, 1) := by decide +kernel
theorem dX11_piece_33 : decode cX11_piece 33 = .ok (.iload_n 3, 1) := by decide +kernel
theorem dX11_piece_34 : decode cX11_piece 34 = .ok (.tableswitch 95 0 4 #[34, 48, 62, 73, 84], 34) := by decide +kernel
theorem dX11_piece_68 : decode cX11_piece 68 = .ok (.aload 4, 2) := by decide +kernel
theorem dX11_piece_70 : decode cX11_piece 70 = .ok (.getfield 241, 3) := by decide +kernel
theorem dX11_piece_73 : decode cX11_piece 73 = .ok (.getfield 275, 3) := by decide +kernel
theorem dX11_piece_76 : decode cX11_piece 76 = .ok (.iload_n 2, 1) := by decide +kernel
theorem dX11_piece_77 : decode cX11_piece 77 = .ok (.iaload, 1) := by decide +kernel
theorem dX11_piece_78 : decode cX11_piece 78 = .ok (.bipush 100, 2) := by decide +kernel
theorem dX11_piece_80 : decode cX11_piece 80 = .ok (.idiv, 1) := by decide +kernel
theorem dX11_piece_81 : decode cX11_piece 81 = .ok (.ireturn, 1) := by decide +kernel
theorem dX11_piece_82 : decode cX11_piece 82 = .ok (.aload 4, 2) := by decide +kernel
theorem dX11_piece_84 : decode cX11_piece 84 = .ok (.getfield 241, 3) := by decide +kernel
theorem dX11_piece_87 : decode cX11_piece 87 = .ok (.getfield 275, 3) := by decide +kernel
theorem dX11_piece_90 : decode cX11_piece 90 = .ok (.iload_n 2, 1) := by decide +kernel
theorem dX11_piece_91 : decode cX11_piece 91 = .ok (.iaload, 1) := by decide +kernel
theorem dX11_piece_92 : decode cX11_piece 92 = .ok (.bipush 100, 2) := by decide +kernel
theorem dX11_piece_94 : decode cX11_piece 94 = .ok (.irem, 1) := by decide +kernel
theorem dX11_piece_95 : decode cX11_piece 95 = .ok (.ireturn, 1) := by decide +kernel
theorem dX11_piece_96 : decode cX11_piece 96 = .ok (.aload 4, 2) := by decide +kernel
theorem dX11_piece_98 : decode cX11_piece 98 = .ok (.getfield 241, 3) := by decide +kernel
theorem dX11_piece_101 : decode cX11_piece 101 = .ok (.getfield 278, 3) := by decide +kernel
theorem dX11_piece_104 : decode cX11_piece 104 = .ok (.iload_n 2, 1) := by decide +kernel
theorem dX11_piece_105 : decode cX11_piece 105 = .ok (.iaload, 1) := by decide +kernel
theorem dX11_piece_106 : decode cX11_piece 106 = .ok (.ireturn, 1) := by decide +kernel
theorem dX11_piece_107 : decode cX11_piece 107 = .ok (.aload 4, 2) := by decide +kernel
theorem dX11_piece_109 : decode cX11_piece 109 = .ok (.getfield 241, 3) := by decide +kernel
theorem dX11_piece_112 : decode cX11_piece 112 = .ok (.getfield 281, 3) := by decide +kernel
theorem dX11_piece_115 : decode cX11_piece 115 = .ok (.iload_n 2, 1) := by decide +kernel
theorem dX11_piece_116 : decode cX11_piece 116 = .ok (.iaload, 1) := by decide +kernel
theorem dX11_piece_117 : decode cX11_piece 117 = .ok (.ireturn, 1) := by decide +kernel
theorem dX11_piece_118 : decode cX11_piece 118 = .ok (.aload 4, 2) := by decide +kernel
theorem dX11_piece_120 : decode cX11_piece 120 = .ok (.getfield 241, 3) := by decide +kernel
theorem dX11_piece_123 : decode cX11_piece 123 = .ok (.getfield 284, 3) := by decide +kernel
theorem dX11_piece_126 : decode cX11_piece 126 = .ok (.iload_n 2, 1) := by decide +kernel
theorem dX11_piece_127 : decode cX11_piece 127 = .ok (.iaload, 1) := by decide +kernel
theorem dX11_piece_128 : decode cX11_piece 128 = .ok (.ireturn, 1) := by decide +kernel
theorem dX11_piece_129 : decode cX11_piece 129 = .ok (.iconst (-1), 1) := by decide +kernel
theorem dX11_piece_130 : decode cX11_piece 130 = .ok (.ireturn, 1) := by decide +kernel
set_option maxRecDepth 20000 in
theorem ggX11_grade_X8_skeinAt : GoodIn wsX11_grade wsX8_skeinAt := goodIn_h _ [10, 0, 0, 77, 0, 0, 0, 0, 0, 0, 0, 0, 0, 0, 0, 0] [0, 1, 2, 3, 4, 5, 6, 7, 8, 9, 10, 11, 12, 13, 14, 15] (by decide +kernel) (by decide +kernel)
set_option maxRecDepth 20000 in
theorem gX11_grade_X8_skeinAt : GoodIn wsX11_grade (wsV RX11 231 RX8 yX8_skeinAt wsX8_skeinAt) := goodIn_app (goodIn_of _ (by decide +kernel)) ggX11_grade_X8_skeinAt
set_option maxRecDepth 20000 in
theorem ggX11_grade_X11_isWithin : GoodIn wsX11_grade wsX11_isWithin := goodIn_h _ [16] [0] (by decide +kernel) (by decide +kernel)
set_option maxRecDepth 20000 in
theorem gX11_grade_X11_isWithin : GoodIn wsX11_grade (va_wsS RX11 67 yX11_isWithin wsX11_isWithin) := goodIn_app (goodIn_of _ (by decide +kernel)) ggX11_grade_X11_isWithin
set_option maxRecDepth 20000 in
theorem ggX11_grade_X1_drawFrom : GoodIn wsX11_grade wsX1_drawFrom := goodIn_h _ [15, 4, 0, 0, 0, 0, 0, 0, 0, 0, 0, 0, 0, 0, 0, 0, 0, 0, 0, 0, 0, 0, 0, 0, 0, 0, 0, 0, 0, 0, 0, 0, 0, 0, 0, 0, 16, 0, 0, 0, 0, 0, 0, 0, 0, 0, 0, 0, 0, 0, 0, 0, 0, 0, 0, 13, 0, 0, 0] [2, 3, 4, 5, 6, 7, 8, 9, 10, 11, 12, 13, 14, 15, 16, 17, 18, 0, 19, 20, 21, 22, 23, 1, 24, 25, 26, 27, 28, 29, 30, 31, 32, 33, 34, 35, 55, 56, 57, 58, 36, 37, 38, 39, 40, 41, 42, 43, 44, 45, 46, 47, 48, 49, 50, 51, 52, 53, 54] (by decide +kernel) (by decide +kernel)
set_option maxRecDepth 20000 in
theorem gX11_grade_X1_drawFrom : GoodIn wsX11_grade (wsV RX11 287 RX1 yX1_drawFrom wsX1_drawFrom) := goodIn_app (goodIn_of _ (by decide +kernel)) ggX11_grade_X1_drawFrom
set_option maxRecDepth 20000 in
theorem ggX11_grade_X1_gradeOfOff : GoodIn wsX11_grade wsX1_gradeOfOff := goodIn_h _ [23, 34, 44, 0, 0, 0] [1, 0, 2, 3, 4, 5] (by decide +kernel) (by decide +kernel)
set_option maxRecDepth 20000 in
theorem gX11_grade_X1_gradeOfOff : GoodIn wsX11_grade (wsV RX11 291 RX1 yX1_gradeOfOff wsX1_gradeOfOff) := goodIn_app (goodIn_of _ (by decide +kernel)) ggX11_grade_X1_gradeOfOff
theorem dX11_grade_0 : decode cX11_grade 0 = .ok (.aload_n 0, 1) := by decide +kernel
theorem dX11_grade_1 : decode cX11_grade 1 = .ok (.getfield 42, 3) := by decide +kernel
theorem dX11_grade_4 : decode cX11_grade 4 = .ok (.iload_n 1, 1) := by decide +kernel
theorem dX11_grade_5 : decode cX11_grade 5 = .ok (.invokevirtual 231, 3) := by decide +kernel
theorem dX11_grade_8 : decode cX11_grade 8 = .ok (.astore 4, 2) := by decide +kernel
theorem dX11_grade_10 : decode cX11_grade 10 = .ok (.aload 4, 2) := by decide +kernel
theorem dX11_grade_12 : decode cX11_grade 12 = .ok (.ifnull 24, 3) := by decide +kernel
theorem dX11_grade_15 : decode cX11_grade 15 = .ok (.iload_n 3, 1) := by decide +kernel
theorem dX11_grade_16 : decode cX11_grade 16 = .ok (.iconst 1, 1) := by decide +kernel
theorem dX11_grade_17 : decode cX11_grade 17 = .ok (.iconst 5, 1) := by decide +kernel
theorem dX11_grade_18 : decode cX11_grade 18 = .ok (.invokestatic 67, 3) := by decide +kernel
theorem dX11_grade_21 : decode cX11_grade 21 = .ok (.ifCond .eq 15, 3) := by decide +kernel
theorem dX11_grade_24 : decode cX11_grade 24 = .ok (.iload_n 3, 1) := by decide +kernel
theorem dX11_grade_25 : decode cX11_grade 25 = .ok (.aload 4, 2) := by decide +kernel
theorem dX11_grade_27 : decode cX11_grade 27 = .ok (.getfield 241, 3) := by decide +kernel
theorem dX11_grade_30 : decode cX11_grade 30 = .ok (.getfield 190, 3) := by decide +kernel
theorem dX11_grade_33 : decode cX11_grade 33 = .ok (.if_icmp .le 5, 3) := by decide +kernel
theorem dX11_grade_36 : decode cX11_grade 36 = .ok (.iconst (-1), 1) := by decide +kernel
theorem dX11_grade_37 : decode cX11_grade 37 = .ok (.ireturn, 1) := by decide +kernel
theorem dX11_grade_38 : decode cX11_grade 38 = .ok (.aload_n 0, 1) := by decide +kernel
theorem dX11_grade_39 : decode cX11_grade 39 = .ok (.getfield 49, 3) := by decide +kernel
theorem dX11_grade_42 : decode cX11_grade 42 = .ok (.aload 4, 2) := by decide +kernel
theorem dX11_grade_44 : decode cX11_grade 44 = .ok (.iload_n 2, 1) := by decide +kernel
theorem dX11_grade_45 : decode cX11_grade 45 = .ok (.iload_n 3, 1) := by decide +kernel
theorem dX11_grade_46 : decode cX11_grade 46 = .ok (.invokevirtual 287, 3) := by decide +kernel
theorem dX11_grade_49 : decode cX11_grade 49 = .ok (.aload 4, 2) := by decide +kernel
theorem dX11_grade_51 : decode cX11_grade 51 = .ok (.aload_n 0, 1) := by decide +kernel
theorem dX11_grade_52 : decode cX11_grade 52 = .ok (.getfield 49, 3) := by decide +kernel
theorem dX11_grade_55 : decode cX11_grade 55 = .ok (.invokevirtual 291, 3) := by decide +kernel
theorem dX11_grade_58 : decode cX11_grade 58 = .ok (.putfield 257, 3) := by decide +kernel
theorem dX11_grade_61 : decode cX11_grade 61 = .ok (.aload 4, 2) := by decide +kernel
theorem dX11_grade_63 : decode cX11_grade 63 = .ok (.getfield 257, 3) := by decide +kernel
theorem dX11_grade_66 : decode cX11_grade 66 = .ok (.ireturn, 1) := by decide +kernel
theorem dX11_drawn_0 : decode cX11_drawn 0 = .ok (.aload_n 0, 1) := by decide +kernel
theorem dX11_drawn_1 : decode cX11_drawn 1 = .ok (.getfield 49, 3) := by decide +kernel
theorem dX11_drawn_4 : decode cX11_drawn 4 = .ok (.getfield 294, 3) := by decide +kernel
theorem dX11_drawn_7 : decode cX11_drawn 7 = .ok (.ifCond .eq 7, 3) := by decide +kernel
theorem dX11_drawn_10 : decode cX11_drawn 10 = .ok (.iload_n 1, 1) := by decide +kernel
theorem dX11_drawn_11 : decode cX11_drawn 11 = .ok (.ifCond .ge 5, 3) := by decide +kernel
theorem dX11_drawn_14 : decode cX11_drawn 14 = .ok (.iconst (-1), 1) := by decide +kernel
theorem dX11_drawn_15 : decode cX11_drawn 15 = .ok (.ireturn, 1) := by decide +kernel
theorem dX11_drawn_16 : decode cX11_drawn 16 = .ok (.iload_n 1, 1) := by decide +kernel
theorem dX11_drawn_17 : decode cX11_drawn 17 = .ok (.ifCond .ne 11, 3) := by decide +kernel
theorem dX11_drawn_20 : decode cX11_drawn 20 = .ok (.aload_n 0, 1) := by decide +kernel
theorem dX11_drawn_21 : decode cX11_drawn 21 = .ok (.getfield 49, 3) := by decide +kernel
theorem dX11_drawn_24 : decode cX11_drawn 24 = .ok (.getfield 295, 3) := by decide +kernel
theorem dX11_drawn_27 : decode cX11_drawn 27 = .ok (.ireturn, 1) := by decide +kernel
theorem dX11_drawn_28 : decode cX11_drawn 28 = .ok (.iload_n 1, 1) := by decide +kernel
theorem dX11_drawn_29 : decode cX11_drawn 29 = .ok (.iconst 1, 1) := by decide +kernel
theorem dX11_drawn_30 : decode cX11_drawn 30 = .ok (.if_icmp .ne 11, 3) := by decide +kernel
theorem dX11_drawn_33 : decode cX11_drawn 33 = .ok (.aload_n 0, 1) := by decide +kernel
theorem dX11_drawn_34 : decode cX11_drawn 34 = .ok (.getfield 49, 3) := by decide +kernel
theorem dX11_drawn_37 : decode cX11_drawn 37 = .ok (.getfield 298, 3) := by decide +kernel
theorem dX11_drawn_40 : decode cX11_drawn 40 = .ok (.ireturn, 1) := by decide +kernel
theorem dX11_drawn_41 : decode cX11_drawn 41 = .ok (.iload_n 1, 1) := by decide +kernel
theorem dX11_drawn_42 : decode cX11_drawn 42 = .ok (.iconst 2, 1) := by decide +kernel
theorem dX11_drawn_43 : decode cX11_drawn 43 = .ok (.isub, 1) := by decide +kernel
theorem dX11_drawn_44 : decode cX11_drawn 44 = .ok (.aload_n 0, 1) := by decide +kernel
theorem dX11_drawn_45 : decode cX11_drawn 45 = .ok (.getfield 49, 3) := by decide +kernel
theorem dX11_drawn_48 : decode cX11_drawn 48 = .ok (.getfield 294, 3) := by decide +kernel
theorem dX11_drawn_51 : decode cX11_drawn 51 = .ok (.if_icmp .ge 17, 3) := by decide +kernel
theorem dX11_drawn_54 : decode cX11_drawn 54 = .ok (.aload_n 0, 1) := by decide +kernel
theorem dX11_drawn_55 : decode cX11_drawn 55 = .ok (.getfield 49, 3) := by decide +kernel
theorem dX11_drawn_58 : decode cX11_drawn 58 = .ok (.getfield 301, 3) := by decide +kernel
theorem dX11_drawn_61 : decode cX11_drawn 61 = .ok (.iload_n 1, 1) := by decide +kernel
theorem dX11_drawn_62 : decode cX11_drawn 62 = .ok (.iconst 2, 1) := by decide +kernel
theorem dX11_drawn_63 : decode cX11_drawn 63 = .ok (.isub, 1) := by decide +kernel
theorem dX11_drawn_64 : decode cX11_drawn 64 = .ok (.iaload, 1) := by decide +kernel
theorem dX11_drawn_65 : decode cX11_drawn 65 = .ok (.goto 4, 3) := by decide +kernel
theorem dX11_drawn_68 : decode cX11_drawn 68 = .ok (.iconst (-1), 1) := by decide +kernel
theorem dX11_drawn_69 : decode cX11_drawn 69 = .ok (.ireturn, 1) := by decide +kernel
set_option maxRecDepth 20000 in
theorem ggX11_shelve_X11_shelfAt : GoodIn wsX11_shelve wsX11_shelfAt := goodIn_h _ [7, 0, 37, 0, 0, 0, 0, 0, 0, 0, 0, 0, 0, 0] [0, 1, 2, 3, 4, 5, 6, 7, 8, 9, 10, 11, 12, 13] (by decide +kernel) (by decide +kernel)
set_option maxRecDepth 20000 in
theorem gX11_shelve_X11_shelfAt : GoodIn wsX11_shelve (wsV RX11 303 RX11 yX11_shelfAt wsX11_shelfAt) := goodIn_app (goodIn_of _ (by decide +kernel)) ggX11_shelve_X11_shelfAt
set_option maxRecDepth 20000 in
theorem ggX11_shelve_X11_cocoonAt : GoodIn wsX11_shelve wsX11_cocoonAt := goodIn_h _ [12, 0, 0, 0, 30, 0, 0, 0, 0, 0, 0, 0, 0, 0, 0, 0] [0, 1, 2, 3, 4, 5, 6, 7, 8, 9, 10, 11, 12, 13, 14, 15] (by decide +kernel) (by decide +kernel)
set_option maxRecDepth 20000 in
theorem gX11_shelve_X11_cocoonAt : GoodIn wsX11_shelve (wsV RX11 74 RX11 yX11_cocoonAt wsX11_cocoonAt) := goodIn_app (goodIn_of _ (by decide +kernel)) ggX11_shelve_X11_cocoonAt
set_option maxRecDepth 20000 in
theorem ggX11_shelve_X3_putCocoon : GoodIn wsX11_shelve wsX3_putCocoon := goodIn_h _ [20, 0, 0, 0, 17, 0, 0, 0, 0, 12, 0, 0, 0, 0, 0, 0, 0, 0, 0] [0, 1, 2, 3, 9, 10, 11, 12, 13, 14, 15, 16, 17, 18, 4, 5, 6, 7, 8] (by decide +kernel) (by decide +kernel)
set_option maxRecDepth 20000 in
theorem gX11_shelve_X3_putCocoon : GoodIn wsX11_shelve (wsV RX11 310 RX3 yX3_putCocoon wsX3_putCocoon) := goodIn_app (goodIn_of _ (by decide +kernel)) ggX11_shelve_X3_putCocoon
set_option maxRecDepth 20000 in
theorem ggX11_shelve_X3_putNumber : GoodIn wsX11_shelve wsX3_putNumber := goodIn_h _ [23, 3, 0, 12, 0, 0, 0, 0] [1, 2, 0, 3, 4, 5, 6, 7] (by decide +kernel) (by decide +kernel)
set_option maxRecDepth 20000 in
theorem gX11_shelve_X3_putNumber : GoodIn wsX11_shelve (wsV RX11 314 RX3 yX3_putNumber wsX3_putNumber) := goodIn_app (goodIn_of _ (by decide +kernel)) ggX11_shelve_X3_putNumber
set_option maxRecDepth 20000 in
theorem ggX11_shelve_X3_putWord : GoodIn wsX11_shelve wsX3_putWord := goodIn_h _ [6, 16, 8, 0, 0, 0, 0, 0, 0, 0, 0, 0, 0, 0, 0, 0] [2, 3, 4, 1, 5, 0, 6, 7, 8, 9, 10, 11, 12, 13, 14, 15] (by decide +kernel) (by decide +kernel)
set_option maxRecDepth 20000 in
theorem gX11_shelve_X3_putWord : GoodIn wsX11_shelve (wsV RX11 317 RX3 yX3_putWord wsX3_putWord) := goodIn_app (goodIn_of _ (by decide +kernel)) ggX11_shelve_X3_putWord
theorem dX11_shelve_0 : decode cX11_shelve 0 = .ok (.aload_n 0, 1) := by decide +kernel
theorem dX11_shelve_1 : decode cX11_shelve 1 = .ok (.iload_n 1, 1) := by decide +kernel
theorem dX11_shelve_2 : decode cX11_shelve 2 = .ok (.invokevirtual 303, 3) := by decide +kernel
theorem dX11_shelve_5 : decode cX11_shelve 5 = .ok (.astore 5, 2) := by decide +kernel
theorem dX11_shelve_7 : decode cX11_shelve 7 = .ok (.aload 5, 2) := by decide +kernel
theorem dX11_shelve_9 : decode cX11_shelve 9 = .ok (.ifnull 12, 3) := by decide +kernel
theorem dX11_shelve_12 : decode cX11_shelve 12 = .ok (.aload 5, 2) := by decide +kernel
theorem dX11_shelve_14 : decode cX11_shelve 14 = .ok (.getfield 307, 3) := by decide +kernel
theorem dX11_shelve_17 : decode cX11_shelve 17 = .ok (.iconst (-1), 1) := by decide +kernel
theorem dX11_shelve_18 : decode cX11_shelve 18 = .ok (.if_icmp .eq 5, 3) := by decide +kernel
theorem dX11_shelve_21 : decode cX11_shelve 21 = .ok (.iconst 0, 1) := by decide +kernel
theorem dX11_shelve_22 : decode cX11_shelve 22 = .ok (.ireturn, 1) := by decide +kernel
theorem dX11_shelve_23 : decode cX11_shelve 23 = .ok (.iload_n 2, 1) := by decide +kernel
theorem dX11_shelve_24 : decode cX11_shelve 24 = .ok (.tableswitch 69 0 2 #[28, 45, 56], 28) := by decide +kernel
theorem dX11_shelve_52 : decode cX11_shelve 52 = .ok (.aload 5, 2) := by decide +kernel
theorem dX11_shelve_54 : decode cX11_shelve 54 = .ok (.aload_n 0, 1) := by decide +kernel
theorem dX11_shelve_55 : decode cX11_shelve 55 = .ok (.iload_n 3, 1) := by decide +kernel
theorem dX11_shelve_56 : decode cX11_shelve 56 = .ok (.iload 4, 2) := by decide +kernel
theorem dX11_shelve_58 : decode cX11_shelve 58 = .ok (.invokevirtual 74, 3) := by decide +kernel
theorem dX11_shelve_61 : decode cX11_shelve 61 = .ok (.invokevirtual 310, 3) := by decide +kernel
theorem dX11_shelve_64 : decode cX11_shelve 64 = .ok (.istore 6, 2) := by decide +kernel
theorem dX11_shelve_66 : decode cX11_shelve 66 = .ok (.goto 30, 3) := by decide +kernel
theorem dX11_shelve_69 : decode cX11_shelve 69 = .ok (.aload 5, 2) := by decide +kernel
theorem dX11_shelve_71 : decode cX11_shelve 71 = .ok (.iload_n 3, 1) := by decide +kernel
theorem dX11_shelve_72 : decode cX11_shelve 72 = .ok (.invokevirtual 314, 3) := by decide +kernel
theorem dX11_shelve_75 : decode cX11_shelve 75 = .ok (.istore 6, 2) := by decide +kernel
theorem dX11_shelve_77 : decode cX11_shelve 77 = .ok (.goto 19, 3) := by decide +kernel
theorem dX11_shelve_80 : decode cX11_shelve 80 = .ok (.aload 5, 2) := by decide +kernel
theorem dX11_shelve_82 : decode cX11_shelve 82 = .ok (.iload_n 3, 1) := by decide +kernel
theorem dX11_shelve_83 : decode cX11_shelve 83 = .ok (.iload 4, 2) := by decide +kernel
theorem dX11_shelve_85 : decode cX11_shelve 85 = .ok (.invokevirtual 317, 3) := by decide +kernel
theorem dX11_shelve_88 : decode cX11_shelve 88 = .ok (.istore 6, 2) := by decide +kernel
theorem dX11_shelve_90 : decode cX11_shelve 90 = .ok (.goto 6, 3) := by decide +kernel
theorem dX11_shelve_93 : decode cX11_shelve 93 = .ok (.iconst 0, 1) := by decide +kernel
theorem dX11_shelve_94 : decode cX11_shelve 94 = .ok (.istore 6, 2) := by decide +kernel
theorem dX11_shelve_96 : decode cX11_shelve 96 = .ok (.iload 6, 2) := by decide +kernel
theorem dX11_shelve_98 : decode cX11_shelve 98 = .ok (.ifCond .eq 13, 3) := by decide +kernel
theorem dX11_shelve_101 : decode cX11_shelve 101 = .ok (.aload_n 0, 1) := by decide +kernel
theorem dX11_shelve_102 : decode cX11_shelve 102 = .ok (.dup, 1) := by decide +kernel
theorem dX11_shelve_103 : decode cX11_shelve 103 = .ok (.getfield 321, 3) := by decide +kernel
theorem dX11_shelve_106 : decode cX11_shelve 106 = .ok (.iconst 1, 1) := by decide +kernel
theorem dX11_shelve_107 : decode cX11_shelve 107 = .ok (.iadd, 1) := by decide +kernel
theorem dX11_shelve_108 : decode cX11_shelve 108 = .ok (.putfield 321, 3) := by decide +kernel
theorem dX11_shelve_111 : decode cX11_shelve 111 = .ok (.iload 6, 2) := by decide +kernel
theorem dX11_shelve_113 : decode cX11_shelve 113 = .ok (.ireturn, 1) := by decide +kernel
set_option maxRecDepth 20000 in
theorem ggX11_take_X11_shelfAt : GoodIn wsX11_take wsX11_shelfAt := goodIn_h _ [8, 0, 34, 0, 0, 0, 0, 0, 0, 0, 0, 0, 0, 0] [0, 1, 2, 3, 4, 5, 6, 7, 8, 9, 10, 11, 12, 13] (by decide +kernel) (by decide +kernel)
set_option maxRecDepth 20000 in
theorem gX11_take_X11_shelfAt : GoodIn wsX11_take (wsV RX11 303 RX11 yX11_shelfAt wsX11_shelfAt) := goodIn_app (goodIn_of _ (by decide +kernel)) ggX11_take_X11_shelfAt
set_option maxRecDepth 20000 in
theorem ggX11_take_X11_isWithin : GoodIn wsX11_take wsX11_isWithin := goodIn_h _ [12] [0] (by decide +kernel) (by decide +kernel)
set_option maxRecDepth 20000 in
theorem gX11_take_X11_isWithin : GoodIn wsX11_take (va_wsS RX11 67 yX11_isWithin wsX11_isWithin) := goodIn_app (goodIn_of _ (by decide +kernel)) ggX11_take_X11_isWithin
set_option maxRecDepth 20000 in
theorem ggX11_take_X3_giveUp : GoodIn wsX11_take wsX3_giveUp := goodIn_h _ [16, 0, 0, 0, 0, 0, 0, 0, 0, 0, 0, 0, 0, 0, 0, 0, 0, 0, 0, 0, 0, 0, 0, 0, 0, 0, 0, 0, 12, 0, 0, 0, 0, 0, 0, 0, 0, 0] [1, 2, 3, 4, 5, 6, 0, 7, 8, 9, 10, 11, 12, 13, 14, 15, 16, 17, 18, 19, 20, 21, 22, 23, 24, 25, 26, 27, 28, 29, 30, 31, 32, 33, 34, 35, 36, 37] (by decide +kernel) (by decide +kernel)
set_option maxRecDepth 20000 in
theorem gX11_take_X3_giveUp : GoodIn wsX11_take (wsV RX11 327 RX3 yX3_giveUp wsX3_giveUp) := goodIn_app (goodIn_of _ (by decide +kernel)) ggX11_take_X3_giveUp
theorem dX11_take_0 : decode cX11_take 0 = .ok (.aload_n 0, 1) := by decide +kernel
theorem dX11_take_1 : decode cX11_take 1 = .ok (.iload_n 1, 1) := by decide +kernel
theorem dX11_take_2 : decode cX11_take 2 = .ok (.invokevirtual 303, 3) := by decide +kernel
theorem dX11_take_5 : decode cX11_take 5 = .ok (.astore_n 3, 1) := by decide +kernel
theorem dX11_take_6 : decode cX11_take 6 = .ok (.aload_n 3, 1) := by decide +kernel
theorem dX11_take_7 : decode cX11_take 7 = .ok (.ifnull 12, 3) := by decide +kernel
theorem dX11_take_10 : decode cX11_take 10 = .ok (.iload_n 2, 1) := by decide +kernel
theorem dX11_take_11 : decode cX11_take 11 = .ok (.iconst 0, 1) := by decide +kernel
theorem dX11_take_12 : decode cX11_take 12 = .ok (.iconst 2, 1) := by decide +kernel
theorem dX11_take_13 : decode cX11_take 13 = .ok (.invokestatic 67, 3) := by decide +kernel
theorem dX11_take_16 : decode cX11_take 16 = .ok (.ifCond .ne 5, 3) := by decide +kernel
theorem dX11_take_19 : decode cX11_take 19 = .ok (.iconst (-1), 1) := by decide +kernel
theorem dX11_take_20 : decode cX11_take 20 = .ok (.ireturn, 1) := by decide +kernel
theorem dX11_take_21 : decode cX11_take 21 = .ok (.aload_n 3, 1) := by decide +kernel
theorem dX11_take_22 : decode cX11_take 22 = .ok (.getfield 307, 3) := by decide +kernel
theorem dX11_take_25 : decode cX11_take 25 = .ok (.iconst (-1), 1) := by decide +kernel
theorem dX11_take_26 : decode cX11_take 26 = .ok (.if_icmp .ne 6, 3) := by decide +kernel
theorem dX11_take_29 : decode cX11_take 29 = .ok (.bipush (-2), 2) := by decide +kernel
theorem dX11_take_31 : decode cX11_take 31 = .ok (.ireturn, 1) := by decide +kernel
theorem dX11_take_32 : decode cX11_take 32 = .ok (.aload_n 3, 1) := by decide +kernel
theorem dX11_take_33 : decode cX11_take 33 = .ok (.getfield 307, 3) := by decide +kernel
theorem dX11_take_36 : decode cX11_take 36 = .ok (.iload_n 2, 1) := by decide +kernel
theorem dX11_take_37 : decode cX11_take 37 = .ok (.if_icmp .eq 6, 3) := by decide +kernel
theorem dX11_take_40 : decode cX11_take 40 = .ok (.bipush (-3), 2) := by decide +kernel
theorem dX11_take_42 : decode cX11_take 42 = .ok (.ireturn, 1) := by decide +kernel
theorem dX11_take_43 : decode cX11_take 43 = .ok (.iload_n 2, 1) := by decide +kernel
theorem dX11_take_44 : decode cX11_take 44 = .ok (.iconst 2, 1) := by decide +kernel
theorem dX11_take_45 : decode cX11_take 45 = .ok (.if_icmp .ne 13, 3) := by decide +kernel
theorem dX11_take_48 : decode cX11_take 48 = .ok (.aload_n 3, 1) := by decide +kernel
theorem dX11_take_49 : decode cX11_take 49 = .ok (.getfield 324, 3) := by decide +kernel
theorem dX11_take_52 : decode cX11_take 52 = .ok (.ifCond .ne 6, 3) := by decide +kernel
theorem dX11_take_55 : decode cX11_take 55 = .ok (.bipush (-4), 2) := by decide +kernel
theorem dX11_take_57 : decode cX11_take 57 = .ok (.ireturn, 1) := by decide +kernel
theorem dX11_take_58 : decode cX11_take 58 = .ok (.aload_n 0, 1) := by decide +kernel
theorem dX11_take_59 : decode cX11_take 59 = .ok (.dup, 1) := by decide +kernel
theorem dX11_take_60 : decode cX11_take 60 = .ok (.getfield 321, 3) := by decide +kernel
theorem dX11_take_63 : decode cX11_take 63 = .ok (.iconst 1, 1) := by decide +kernel
theorem dX11_take_64 : decode cX11_take 64 = .ok (.isub, 1) := by decide +kernel
theorem dX11_take_65 : decode cX11_take 65 = .ok (.putfield 321, 3) := by decide +kernel
theorem dX11_take_68 : decode cX11_take 68 = .ok (.aload_n 3, 1) := by decide +kernel
theorem dX11_take_69 : decode cX11_take 69 = .ok (.invokevirtual 327, 3) := by decide +kernel
theorem dX11_take_72 : decode cX11_take 72 = .ok (.ireturn, 1) := by decide +kernel
set_option maxRecDepth 20000 in
theorem ggX11_copy_X11_shelfAt : GoodIn wsX11_copy wsX11_shelfAt := goodIn_h _ [11, 0, 15, 0, 0, 0, 0, 0, 0, 0, 0, 0, 0, 0] [0, 1, 2, 3, 4, 5, 6, 7, 8, 9, 10, 11, 12, 13] (by decide +kernel) (by decide +kernel)
set_option maxRecDepth 20000 in
theorem gX11_copy_X11_shelfAt : GoodIn wsX11_copy (wsV RX11 303 RX11 yX11_shelfAt wsX11_shelfAt) := goodIn_app (goodIn_of _ (by decide +kernel)) ggX11_copy_X11_shelfAt
set_option maxRecDepth 20000 in
theorem ggX11_copy_X3_hasRow : GoodIn wsX11_copy wsX3_hasRow := goodIn_h _ [17, 0, 0, 3, 0, 0, 0, 0] [0, 1, 2, 3, 4, 5, 6, 7] (by decide +kernel) (by decide +kernel)
set_option maxRecDepth 20000 in
theorem gX11_copy_X3_hasRow : GoodIn wsX11_copy (wsV RX11 330 RX3 yX3_hasRow wsX3_hasRow) := goodIn_app (goodIn_of _ (by decide +kernel)) ggX11_copy_X3_hasRow
set_option maxRecDepth 20000 in
theorem ggX11_copy_X11_isStretch : GoodIn wsX11_copy wsX11_isStretch := goodIn_h _ [22] [0] (by decide +kernel) (by decide +kernel)
set_option maxRecDepth 20000 in
theorem gX11_copy_X11_isStretch : GoodIn wsX11_copy (va_wsS RX11 333 yX11_isStretch wsX11_isStretch) := goodIn_app (goodIn_of _ (by decide +kernel)) ggX11_copy_X11_isStretch
theorem dX11_copy_0 : decode cX11_copy 0 = .ok (.aload_n 0, 1) := by decide +kernel
theorem dX11_copy_1 : decode cX11_copy 1 = .ok (.iload_n 1, 1) := by decide +kernel
theorem dX11_copy_2 : decode cX11_copy 2 = .ok (.invokevirtual 303, 3) := by decide +kernel
theorem dX11_copy_5 : decode cX11_copy 5 = .ok (.astore 6, 2) := by decide +kernel
theorem dX11_copy_7 : decode cX11_copy 7 = .ok (.aload_n 0, 1) := by decide +kernel
theorem dX11_copy_8 : decode cX11_copy 8 = .ok (.iload_n 3, 1) := by decide +kernel
theorem dX11_copy_9 : decode cX11_copy 9 = .ok (.invokevirtual 303, 3) := by decide +kernel
theorem dX11_copy_12 : decode cX11_copy 12 = .ok (.astore 7, 2) := by decide +kernel
theorem dX11_copy_14 : decode cX11_copy 14 = .ok (.aload 6, 2) := by decide +kernel
theorem dX11_copy_16 : decode cX11_copy 16 = .ok (.ifnull 24, 3) := by decide +kernel
theorem dX11_copy_19 : decode cX11_copy 19 = .ok (.aload 7, 2) := by decide +kernel
theorem dX11_copy_21 : decode cX11_copy 21 = .ok (.ifnull 19, 3) := by decide +kernel
theorem dX11_copy_24 : decode cX11_copy 24 = .ok (.aload 6, 2) := by decide +kernel
theorem dX11_copy_26 : decode cX11_copy 26 = .ok (.invokevirtual 330, 3) := by decide +kernel
theorem dX11_copy_29 : decode cX11_copy 29 = .ok (.ifCond .eq 11, 3) := by decide +kernel
theorem dX11_copy_32 : decode cX11_copy 32 = .ok (.aload 7, 2) := by decide +kernel
theorem dX11_copy_34 : decode cX11_copy 34 = .ok (.invokevirtual 330, 3) := by decide +kernel
theorem dX11_copy_37 : decode cX11_copy 37 = .ok (.ifCond .ne 5, 3) := by decide +kernel
theorem dX11_copy_40 : decode cX11_copy 40 = .ok (.iconst 0, 1) := by decide +kernel
theorem dX11_copy_41 : decode cX11_copy 41 = .ok (.ireturn, 1) := by decide +kernel
theorem dX11_copy_42 : decode cX11_copy 42 = .ok (.iload_n 2, 1) := by decide +kernel
theorem dX11_copy_43 : decode cX11_copy 43 = .ok (.iload 5, 2) := by decide +kernel
theorem dX11_copy_45 : decode cX11_copy 45 = .ok (.aload 6, 2) := by decide +kernel
theorem dX11_copy_47 : decode cX11_copy 47 = .ok (.getfield 324, 3) := by decide +kernel
theorem dX11_copy_50 : decode cX11_copy 50 = .ok (.invokestatic 333, 3) := by decide +kernel
theorem dX11_copy_53 : decode cX11_copy 53 = .ok (.ifCond .eq 18, 3) := by decide +kernel
theorem dX11_copy_56 : decode cX11_copy 56 = .ok (.iload 4, 2) := by decide +kernel
theorem dX11_copy_58 : decode cX11_copy 58 = .ok (.iload 5, 2) := by decide +kernel
theorem dX11_copy_60 : decode cX11_copy 60 = .ok (.aload 7, 2) := by decide +kernel
theorem dX11_copy_62 : decode cX11_copy 62 = .ok (.getfield 324, 3) := by decide +kernel
theorem dX11_copy_65 : decode cX11_copy 65 = .ok (.invokestatic 333, 3) := by decide +kernel
theorem dX11_copy_68 : decode cX11_copy 68 = .ok (.ifCond .ne 5, 3) := by decide +kernel
theorem dX11_copy_71 : decode cX11_copy 71 = .ok (.iconst 0, 1) := by decide +kernel
theorem dX11_copy_72 : decode cX11_copy 72 = .ok (.ireturn, 1) := by decide +kernel
theorem dX11_copy_73 : decode cX11_copy 73 = .ok (.aload 6, 2) := by decide +kernel
theorem dX11_copy_75 : decode cX11_copy 75 = .ok (.getfield 336, 3) := by decide +kernel
theorem dX11_copy_78 : decode cX11_copy 78 = .ok (.iload_n 2, 1) := by decide +kernel
theorem dX11_copy_79 : decode cX11_copy 79 = .ok (.aload 7, 2) := by decide +kernel
theorem dX11_copy_81 : decode cX11_copy 81 = .ok (.getfield 336, 3) := by decide +kernel
theorem dX11_copy_84 : decode cX11_copy 84 = .ok (.iload 4, 2) := by decide +kernel
theorem dX11_copy_86 : decode cX11_copy 86 = .ok (.iload 5, 2) := by decide +kernel
theorem dX11_copy_88 : decode cX11_copy 88 = .ok (.invokestatic 118, 3) := by decide +kernel
theorem dX11_copy_91 : decode cX11_copy 91 = .ok (.iconst 1, 1) := by decide +kernel
theorem dX11_copy_92 : decode cX11_copy 92 = .ok (.ireturn, 1) := by decide +kernel
set_option maxRecDepth 20000 in
theorem ggX11_number_X11_shelfAt : GoodIn wsX11_number wsX11_shelfAt := goodIn_h _ [7, 0, 12, 0, 0, 0, 0, 0, 0, 0, 0, 0, 0, 0] [0, 1, 2, 3, 4, 5, 6, 7, 8, 9, 10, 11, 12, 13] (by decide +kernel) (by decide +kernel)
set_option maxRecDepth 20000 in
theorem gX11_number_X11_shelfAt : GoodIn wsX11_number (wsV RX11 303 RX11 yX11_shelfAt wsX11_shelfAt) := goodIn_app (goodIn_of _ (by decide +kernel)) ggX11_number_X11_shelfAt
set_option maxRecDepth 20000 in
theorem ggX11_number_X3_hasRow : GoodIn wsX11_number wsX3_hasRow := goodIn_h _ [13, 0, 0, 0, 0, 0, 0, 0] [0, 1, 2, 3, 4, 5, 6, 7] (by decide +kernel) (by decide +kernel)
set_option maxRecDepth 20000 in
theorem gX11_number_X3_hasRow : GoodIn wsX11_number (wsV RX11 330 RX3 yX3_hasRow wsX3_hasRow) := goodIn_app (goodIn_of _ (by decide +kernel)) ggX11_number_X3_hasRow
theorem dX11_number_0 : decode cX11_number 0 = .ok (.aload_n 0, 1) := by decide +kernel
theorem dX11_number_1 : decode cX11_number 1 = .ok (.iload_n 1, 1) := by decide +kernel
theorem dX11_number_2 : decode cX11_number 2 = .ok (.invokevirtual 303, 3) := by decide +kernel
theorem dX11_number_5 : decode cX11_number 5 = .ok (.astore_n 3, 1) := by decide +kernel
theorem dX11_number_6 : decode cX11_number 6 = .ok (.aload_n 3, 1) := by decide +kernel
theorem dX11_number_7 : decode cX11_number 7 = .ok (.ifnull 22, 3) := by decide +kernel
theorem dX11_number_10 : decode cX11_number 10 = .ok (.aload_n 3, 1) := by decide +kernel
theorem dX11_number_11 : decode cX11_number 11 = .ok (.invokevirtual 330, 3) := by decide +kernel
theorem dX11_number_14 : decode cX11_number 14 = .ok (.ifCond .eq 15, 3) := by decide +kernel
theorem dX11_number_17 : decode cX11_number 17 = .ok (.iload_n 2, 1) := by decide +kernel
theorem dX11_number_18 : decode cX11_number 18 = .ok (.ifCond .lt 11, 3) := by decide +kernel
theorem dX11_number_21 : decode cX11_number 21 = .ok (.iload_n 2, 1) := by decide +kernel
theorem dX11_number_22 : decode cX11_number 22 = .ok (.aload_n 3, 1) := by decide +kernel
theorem dX11_number_23 : decode cX11_number 23 = .ok (.getfield 324, 3) := by decide +kernel
theorem dX11_number_26 : decode cX11_number 26 = .ok (.if_icmp .lt 5, 3) := by decide +kernel
theorem dX11_number_29 : decode cX11_number 29 = .ok (.iconst (-1), 1) := by decide +kernel
theorem dX11_number_30 : decode cX11_number 30 = .ok (.ireturn, 1) := by decide +kernel
theorem dX11_number_31 : decode cX11_number 31 = .ok (.aload_n 3, 1) := by decide +kernel
theorem dX11_number_32 : decode cX11_number 32 = .ok (.getfield 336, 3) := by decide +kernel
theorem dX11_number_35 : decode cX11_number 35 = .ok (.iload_n 2, 1) := by decide +kernel
theorem dX11_number_36 : decode cX11_number 36 = .ok (.iaload, 1) := by decide +kernel
theorem dX11_number_37 : decode cX11_number 37 = .ok (.ireturn, 1) := by decide +kernel
set_option maxRecDepth 20000 in
theorem ggX11_price_X11_isWithin : GoodIn wsX11_price wsX11_isWithin := goodIn_h _ [6] [0] (by decide +kernel) (by decide +kernel)
set_option maxRecDepth 20000 in
theorem gX11_price_X11_isWithin : GoodIn wsX11_price (va_wsS RX11 67 yX11_isWithin wsX11_isWithin) := goodIn_app (goodIn_of _ (by decide +kernel)) ggX11_price_X11_isWithin
theorem dX11_price_0 : decode cX11_price 0 = .ok (.iload_n 1, 1) := by decide +kernel
theorem dX11_price_1 : decode cX11_price 1 = .ok (.iconst 0, 1) := by decide +kernel
theorem dX11_price_2 : decode cX11_price 2 = .ok (.iconst 3, 1) := by decide +kernel
theorem dX11_price_3 : decode cX11_price 3 = .ok (.invokestatic 67, 3) := by decide +kernel
theorem dX11_price_6 : decode cX11_price 6 = .ok (.ifCond .eq 14, 3) := by decide +kernel
theorem dX11_price_9 : decode cX11_price 9 = .ok (.iload_n 2, 1) := by decide +kernel
theorem dX11_price_10 : decode cX11_price 10 = .ok (.iconst 0, 1) := by decide +kernel
theorem dX11_price_11 : decode cX11_price 11 = .ok (.sipush 1000, 3) := by decide +kernel
theorem dX11_price_14 : decode cX11_price 14 = .ok (.invokestatic 67, 3) := by decide +kernel
theorem dX11_price_17 : decode cX11_price 17 = .ok (.ifCond .ne 5, 3) := by decide +kernel
theorem dX11_price_20 : decode cX11_price 20 = .ok (.iconst 0, 1) := by decide +kernel
theorem dX11_price_21 : decode cX11_price 21 = .ok (.ireturn, 1) := by decide +kernel
theorem dX11_price_22 : decode cX11_price 22 = .ok (.aload_n 0, 1) := by decide +kernel
theorem dX11_price_23 : decode cX11_price 23 = .ok (.getfield 42, 3) := by decide +kernel
theorem dX11_price_26 : decode cX11_price 26 = .ok (.getfield 339, 3) := by decide +kernel
theorem dX11_price_29 : decode cX11_price 29 = .ok (.iload_n 1, 1) := by decide +kernel
theorem dX11_price_30 : decode cX11_price 30 = .ok (.iload_n 2, 1) := by decide +kernel
theorem dX11_price_31 : decode cX11_price 31 = .ok (.iastore, 1) := by decide +kernel
theorem dX11_price_32 : decode cX11_price 32 = .ok (.iconst 1, 1) := by decide +kernel
theorem dX11_price_33 : decode cX11_price 33 = .ok (.ireturn, 1) := by decide +kernel
set_option maxRecDepth 20000 in
theorem ggX11_mix_X8_mixFor : GoodIn wsX11_mix wsX8_mixFor := goodIn_h _ [5, 0, 0, 0, 0, 0, 0, 0, 0, 0, 0, 0, 0, 0, 0, 0, 0, 0, 0, 0, 0, 0, 0, 0, 0, 0, 0, 0, 0, 0, 0, 0, 0, 0, 0, 0, 0, 0, 0, 0, 0, 0, 0, 0, 0, 0, 0, 0, 0, 0, 0, 0, 0, 0, 0, 0, 0, 12, 0, 0, 0, 0, 0, 0, 0, 0, 0, 0, 0, 0, 0, 0, 0, 0, 0, 0, 0, 0, 0, 0, 0, 0, 0, 0, 0, 0, 0, 0, 0, 0, 0, 0, 0, 0, 0, 0, 0] [1, 2, 3, 4, 5, 6, 7, 8, 9, 10, 11, 12, 13, 14, 15, 16, 17, 18, 19, 20, 21, 22, 0, 23, 24, 25, 26, 27, 28, 29, 30, 31, 32, 33, 34, 35, 36, 37, 38, 39, 40, 41, 42, 43, 44, 45, 46, 47, 48, 49, 50, 51, 52, 53, 54, 55, 56, 57, 58, 59, 60, 61, 62, 63, 64, 65, 66, 67, 68, 69, 70, 71, 72, 73, 74, 75, 76, 77, 78, 79, 80, 81, 82, 83, 84, 85, 86, 87, 88, 89, 90, 91, 92, 93, 94, 95, 96] (by decide +kernel) (by decide +kernel)
set_option maxRecDepth 20000 in
theorem gX11_mix_X8_mixFor : GoodIn wsX11_mix (wsV RX11 342 RX8 yX8_mixFor wsX8_mixFor) := goodIn_app (goodIn_of _ (by decide +kernel)) ggX11_mix_X8_mixFor
theorem dX11_mix_0 : decode cX11_mix 0 = .ok (.iload_n 1, 1) := by decide +kernel
theorem dX11_mix_1 : decode cX11_mix 1 = .ok (.iconst 1, 1) := by decide +kernel
theorem dX11_mix_2 : decode cX11_mix 2 = .ok (.if_icmp .ge 7, 3) := by decide +kernel
theorem dX11_mix_5 : decode cX11_mix 5 = .ok (.iconst (-1), 1) := by decide +kernel
theorem dX11_mix_6 : decode cX11_mix 6 = .ok (.goto 15, 3) := by decide +kernel
theorem dX11_mix_9 : decode cX11_mix 9 = .ok (.aload_n 0, 1) := by decide +kernel
theorem dX11_mix_10 : decode cX11_mix 10 = .ok (.getfield 42, 3) := by decide +kernel
theorem dX11_mix_13 : decode cX11_mix 13 = .ok (.iload_n 1, 1) := by decide +kernel
theorem dX11_mix_14 : decode cX11_mix 14 = .ok (.iload_n 2, 1) := by decide +kernel
theorem dX11_mix_15 : decode cX11_mix 15 = .ok (.iload_n 3, 1) := by decide +kernel
theorem dX11_mix_16 : decode cX11_mix 16 = .ok (.iload 4, 2) := by decide +kernel
theorem dX11_mix_18 : decode cX11_mix 18 = .ok (.invokevirtual 342, 3) := by decide +kernel
theorem dX11_mix_21 : decode cX11_mix 21 = .ok (.ireturn, 1) := by decide +kernel
set_option maxRecDepth 20000 in
theorem ggX11_mixed_X8_skeinAt : GoodIn wsX11_mixed wsX8_skeinAt := goodIn_h _ [7, 0, 0, 22, 0, 0, 0, 0, 0, 0, 0, 0, 0, 0, 0, 0] [0, 1, 2, 3, 4, 5, 6, 7, 8, 9, 10, 11, 12, 13, 14, 15] (by decide +kernel) (by decide +kernel)
set_option maxRecDepth 20000 in
theorem gX11_mixed_X8_skeinAt : GoodIn wsX11_mixed (wsV RX11 231 RX8 yX8_skeinAt wsX8_skeinAt) := goodIn_app (goodIn_of _ (by decide +kernel)) ggX11_mixed_X8_skeinAt
theorem dX11_mixed_0 : decode cX11_mixed 0 = .ok (.aload_n 0, 1) := by decide +kernel
theorem dX11_mixed_1 : decode cX11_mixed 1 = .ok (.getfield 42, 3) := by decide +kernel
theorem dX11_mixed_4 : decode cX11_mixed 4 = .ok (.iload_n 1, 1) := by decide +kernel
theorem dX11_mixed_5 : decode cX11_mixed 5 = .ok (.invokevirtual 231, 3) := by decide +kernel
theorem dX11_mixed_8 : decode cX11_mixed 8 = .ok (.astore_n 2, 1) := by decide +kernel
theorem dX11_mixed_9 : decode cX11_mixed 9 = .ok (.aload_n 2, 1) := by decide +kernel
theorem dX11_mixed_10 : decode cX11_mixed 10 = .ok (.ifnull 14, 3) := by decide +kernel
theorem dX11_mixed_13 : decode cX11_mixed 13 = .ok (.aload_n 2, 1) := by decide +kernel
theorem dX11_mixed_14 : decode cX11_mixed 14 = .ok (.getfield 346, 3) := by decide +kernel
theorem dX11_mixed_17 : decode cX11_mixed 17 = .ok (.ifCond .eq 7, 3) := by decide +kernel
theorem dX11_mixed_20 : decode cX11_mixed 20 = .ok (.iconst 1, 1) := by decide +kernel
theorem dX11_mixed_21 : decode cX11_mixed 21 = .ok (.goto 4, 3) := by decide +kernel
theorem dX11_mixed_24 : decode cX11_mixed 24 = .ok (.iconst 0, 1) := by decide +kernel
theorem dX11_mixed_25 : decode cX11_mixed 25 = .ok (.ireturn, 1) := by decide +kernel
theorem dX11_day_0 : decode cX11_day 0 = .ok (.aload_n 0, 1) := by decide +kernel
theorem dX11_day_1 : decode cX11_day 1 = .ok (.getfield 42, 3) := by decide +kernel
theorem dX11_day_4 : decode cX11_day 4 = .ok (.dup, 1) := by decide +kernel
theorem dX11_day_5 : decode cX11_day 5 = .ok (.getfield 349, 3) := by decide +kernel
theorem dX11_day_8 : decode cX11_day 8 = .ok (.iconst 1, 1) := by decide +kernel
theorem dX11_day_9 : decode cX11_day 9 = .ok (.iadd, 1) := by decide +kernel
theorem dX11_day_10 : decode cX11_day 10 = .ok (.putfield 349, 3) := by decide +kernel
theorem dX11_day_13 : decode cX11_day 13 = .ok (.aload_n 0, 1) := by decide +kernel
theorem dX11_day_14 : decode cX11_day 14 = .ok (.getfield 42, 3) := by decide +kernel
theorem dX11_day_17 : decode cX11_day 17 = .ok (.getfield 349, 3) := by decide +kernel
theorem dX11_day_20 : decode cX11_day 20 = .ok (.ireturn, 1) := by decide +kernel
set_option maxRecDepth 20000 in
theorem ggX11_fault_X8_skeinAt : GoodIn wsX11_fault wsX8_skeinAt := goodIn_h _ [6, 0, 0, 25, 0, 0, 0, 0, 0, 0, 0, 0, 0, 0, 0, 0] [0, 1, 2, 3, 4, 5, 6, 7, 8, 9, 10, 11, 12, 13, 14, 15] (by decide +kernel) (by decide +kernel)
set_option maxRecDepth 20000 in
theorem gX11_fault_X8_skeinAt : GoodIn wsX11_fault (wsV RX11 231 RX8 yX8_skeinAt wsX8_skeinAt) := goodIn_app (goodIn_of _ (by decide +kernel)) ggX11_fault_X8_skeinAt
set_option maxRecDepth 20000 in
theorem ggX11_fault_X11_isWithin : GoodIn wsX11_fault wsX11_isWithin := goodIn_h _ [12] [0] (by decide +kernel) (by decide +kernel)
set_option maxRecDepth 20000 in
theorem gX11_fault_X11_isWithin : GoodIn wsX11_fault (va_wsS RX11 67 yX11_isWithin wsX11_isWithin) := goodIn_app (goodIn_of _ (by decide +kernel)) ggX11_fault_X11_isWithin
set_option maxRecDepth 20000 in
theorem ggX11_fault_X8_tellFault : GoodIn wsX11_fault wsX8_tellFault := goodIn_h _ [16, 0, 0, 0, 0, 0, 12, 0, 0, 0, 0, 0, 0, 0, 0, 0, 0, 0, 0] [0, 1, 2, 3, 4, 5, 6, 7, 8, 9, 10, 11, 12, 13, 14, 15, 16, 17, 18] (by decide +kernel) (by decide +kernel)
set_option maxRecDepth 20000 in
theorem gX11_fault_X8_tellFault : GoodIn wsX11_fault (wsV RX11 352 RX8 yX8_tellFault wsX8_tellFault) := goodIn_app (goodIn_of _ (by decide +kernel)) ggX11_fault_X8_tellFault
theorem dX11_fault_0 : decode cX11_fault 0 = .ok (.aload_n 0, 1) := by decide +kernel
theorem dX11_fault_1 : decode cX11_fault 1 = .ok (.getfield 42, 3) := by decide +kernel
theorem dX11_fault_4 : decode cX11_fault 4 = .ok (.iload_n 1, 1) := by decide +kernel
theorem dX11_fault_5 : decode cX11_fault 5 = .ok (.invokevirtual 231, 3) := by decide +kernel
theorem dX11_fault_8 : decode cX11_fault 8 = .ok (.ifnull 30, 3) := by decide +kernel
theorem dX11_fault_11 : decode cX11_fault 11 = .ok (.iload_n 2, 1) := by decide +kernel
theorem dX11_fault_12 : decode cX11_fault 12 = .ok (.iconst 1, 1) := by decide +kernel
theorem dX11_fault_13 : decode cX11_fault 13 = .ok (.sipush 10000, 3) := by decide +kernel
theorem dX11_fault_16 : decode cX11_fault 16 = .ok (.invokestatic 67, 3) := by decide +kernel
theorem dX11_fault_19 : decode cX11_fault 19 = .ok (.ifCond .eq 19, 3) := by decide +kernel
theorem dX11_fault_22 : decode cX11_fault 22 = .ok (.aload_n 0, 1) := by decide +kernel
theorem dX11_fault_23 : decode cX11_fault 23 = .ok (.getfield 42, 3) := by decide +kernel
theorem dX11_fault_26 : decode cX11_fault 26 = .ok (.iload_n 1, 1) := by decide +kernel
theorem dX11_fault_27 : decode cX11_fault 27 = .ok (.iload_n 2, 1) := by decide +kernel
theorem dX11_fault_28 : decode cX11_fault 28 = .ok (.invokevirtual 352, 3) := by decide +kernel
theorem dX11_fault_31 : decode cX11_fault 31 = .ok (.ifCond .eq 7, 3) := by decide +kernel
theorem dX11_fault_34 : decode cX11_fault 34 = .ok (.iconst 1, 1) := by decide +kernel
theorem dX11_fault_35 : decode cX11_fault 35 = .ok (.goto 4, 3) := by decide +kernel
theorem dX11_fault_38 : decode cX11_fault 38 = .ok (.iconst 0, 1) := by decide +kernel
theorem dX11_fault_39 : decode cX11_fault 39 = .ok (.ireturn, 1) := by decide +kernel
set_option maxRecDepth 20000 in
theorem ggX11_pay_X11_potAt : GoodIn wsX11_pay wsX11_potAt := goodIn_h _ [7, 0, 0, 33, 0, 0, 0, 0, 0, 0, 0, 0, 0, 0, 0] [0, 1, 2, 3, 4, 5, 6, 7, 8, 9, 10, 11, 12, 13, 14] (by decide +kernel) (by decide +kernel)
set_option maxRecDepth 20000 in
theorem gX11_pay_X11_potAt : GoodIn wsX11_pay (wsV RX11 134 RX11 yX11_potAt wsX11_potAt) := goodIn_app (goodIn_of _ (by decide +kernel)) ggX11_pay_X11_potAt
set_option maxRecDepth 20000 in
theorem ggX11_pay_X11_isWithin : GoodIn wsX11_pay wsX11_isWithin := goodIn_h _ [12] [0] (by decide +kernel) (by decide +kernel)
set_option maxRecDepth 20000 in
theorem gX11_pay_X11_isWithin : GoodIn wsX11_pay (va_wsS RX11 67 yX11_isWithin wsX11_isWithin) := goodIn_app (goodIn_of _ (by decide +kernel)) ggX11_pay_X11_isWithin
set_option maxRecDepth 20000 in
theorem ggX11_pay_X8_payFor : GoodIn wsX11_pay wsX8_payFor := goodIn_h _ [6, 4, 0, 3, 0, 0, 0, 0, 0, 0, 0, 0, 0, 0, 0, 0, 0, 0, 0, 0, 0, 0, 0, 0, 0, 0, 0, 0, 0, 0, 12, 0, 0, 0, 0, 0, 0, 0, 0, 0, 0, 0, 0, 0, 0, 0, 0, 0, 0, 0, 0, 0, 0, 0, 0, 0, 0, 0, 0, 0, 0, 0] [4, 5, 6, 7, 8, 9, 10, 11, 12, 3, 13, 14, 15, 16, 17, 18, 19, 20, 21, 22, 23, 24, 25, 26, 27, 28, 29, 1, 0, 2, 30, 31, 32, 33, 34, 35, 36, 37, 38, 39, 40, 41, 42, 43, 44, 45, 46, 47, 48, 49, 50, 51, 52, 53, 54, 55, 56, 57, 58, 59, 60, 61] (by decide +kernel) (by decide +kernel)
set_option maxRecDepth 20000 in
theorem gX11_pay_X8_payFor : GoodIn wsX11_pay (wsV RX11 355 RX8 yX8_payFor wsX8_payFor) := goodIn_app (goodIn_of _ (by decide +kernel)) ggX11_pay_X8_payFor
theorem dX11_pay_0 : decode cX11_pay 0 = .ok (.aload_n 0, 1) := by decide +kernel
theorem dX11_pay_1 : decode cX11_pay 1 = .ok (.iload_n 1, 1) := by decide +kernel
theorem dX11_pay_2 : decode cX11_pay 2 = .ok (.invokevirtual 134, 3) := by decide +kernel
theorem dX11_pay_5 : decode cX11_pay 5 = .ok (.ifnull 33, 3) := by decide +kernel
theorem dX11_pay_8 : decode cX11_pay 8 = .ok (.iload_n 2, 1) := by decide +kernel
theorem dX11_pay_9 : decode cX11_pay 9 = .ok (.iconst 0, 1) := by decide +kernel
theorem dX11_pay_10 : decode cX11_pay 10 = .ok (.aload_n 0, 1) := by decide +kernel
theorem dX11_pay_11 : decode cX11_pay 11 = .ok (.getfield 42, 3) := by decide +kernel
theorem dX11_pay_14 : decode cX11_pay 14 = .ok (.getfield 349, 3) := by decide +kernel
theorem dX11_pay_17 : decode cX11_pay 17 = .ok (.invokestatic 67, 3) := by decide +kernel
theorem dX11_pay_20 : decode cX11_pay 20 = .ok (.ifCond .eq 18, 3) := by decide +kernel
theorem dX11_pay_23 : decode cX11_pay 23 = .ok (.iload_n 3, 1) := by decide +kernel
theorem dX11_pay_24 : decode cX11_pay 24 = .ok (.iconst 0, 1) := by decide +kernel
theorem dX11_pay_25 : decode cX11_pay 25 = .ok (.aload_n 0, 1) := by decide +kernel
theorem dX11_pay_26 : decode cX11_pay 26 = .ok (.getfield 42, 3) := by decide +kernel
theorem dX11_pay_29 : decode cX11_pay 29 = .ok (.getfield 349, 3) := by decide +kernel
theorem dX11_pay_32 : decode cX11_pay 32 = .ok (.invokestatic 67, 3) := by decide +kernel
theorem dX11_pay_35 : decode cX11_pay 35 = .ok (.ifCond .ne 5, 3) := by decide +kernel
theorem dX11_pay_38 : decode cX11_pay 38 = .ok (.iconst 0, 1) := by decide +kernel
theorem dX11_pay_39 : decode cX11_pay 39 = .ok (.ireturn, 1) := by decide +kernel
theorem dX11_pay_40 : decode cX11_pay 40 = .ok (.aload_n 0, 1) := by decide +kernel
theorem dX11_pay_41 : decode cX11_pay 41 = .ok (.getfield 42, 3) := by decide +kernel
theorem dX11_pay_44 : decode cX11_pay 44 = .ok (.iload_n 1, 1) := by decide +kernel
theorem dX11_pay_45 : decode cX11_pay 45 = .ok (.iload_n 2, 1) := by decide +kernel
theorem dX11_pay_46 : decode cX11_pay 46 = .ok (.iload_n 3, 1) := by decide +kernel
theorem dX11_pay_47 : decode cX11_pay 47 = .ok (.invokevirtual 355, 3) := by decide +kernel
theorem dX11_pay_50 : decode cX11_pay 50 = .ok (.ireturn, 1) := by decide +kernel
set_option maxRecDepth 20000 in
theorem ggX11_count_X11_silkThatGrows : GoodIn wsX11_count wsX11_silkThatGrows := goodIn_h _ [2, 14, 0, 0, 0, 0, 0, 0, 0, 0, 0, 0, 0, 0, 0, 0, 0, 0, 0, 0, 0, 0, 20, 0, 0, 0, 0, 0, 0, 0, 0, 0, 0, 0, 0, 0, 0, 0, 0, 0, 0, 0, 0] [2, 0, 3, 4, 5, 6, 7, 1, 8, 9, 10, 11, 12, 13, 14, 15, 16, 17, 18, 19, 20, 21, 22, 23, 24, 25, 26, 27, 28, 29, 30, 31, 32, 33, 34, 35, 36, 37, 38, 39, 40, 41, 42] (by decide +kernel) (by decide +kernel)
set_option maxRecDepth 20000 in
theorem gX11_count_X11_silkThatGrows : GoodIn wsX11_count (wsV RX11 371 RX11 yX11_silkThatGrows wsX11_silkThatGrows) := goodIn_app (goodIn_of _ (by decide +kernel)) ggX11_count_X11_silkThatGrows
theorem dX11_count_0 : decode cX11_count 0 = .ok (.iload_n 1, 1) := by decide +kernel
theorem dX11_count_1 : decode cX11_count 1 = .ok (.tableswitch 147 0 11 #[63, 68, 73, 81, 89, 97, 105, 113, 121, 126, 134, 142], 63) := by decide +kernel
theorem dX11_count_64 : decode cX11_count 64 = .ok (.aload_n 0, 1) := by decide +kernel
theorem dX11_count_65 : decode cX11_count 65 = .ok (.getfield 63, 3) := by decide +kernel
theorem dX11_count_68 : decode cX11_count 68 = .ok (.ireturn, 1) := by decide +kernel
theorem dX11_count_69 : decode cX11_count 69 = .ok (.aload_n 0, 1) := by decide +kernel
theorem dX11_count_70 : decode cX11_count 70 = .ok (.getfield 124, 3) := by decide +kernel
theorem dX11_count_73 : decode cX11_count 73 = .ok (.ireturn, 1) := by decide +kernel
theorem dX11_count_74 : decode cX11_count 74 = .ok (.aload_n 0, 1) := by decide +kernel
theorem dX11_count_75 : decode cX11_count 75 = .ok (.getfield 42, 3) := by decide +kernel
theorem dX11_count_78 : decode cX11_count 78 = .ok (.getfield 359, 3) := by decide +kernel
theorem dX11_count_81 : decode cX11_count 81 = .ok (.ireturn, 1) := by decide +kernel
theorem dX11_count_82 : decode cX11_count 82 = .ok (.aload_n 0, 1) := by decide +kernel
theorem dX11_count_83 : decode cX11_count 83 = .ok (.getfield 42, 3) := by decide +kernel
theorem dX11_count_86 : decode cX11_count 86 = .ok (.getfield 349, 3) := by decide +kernel
theorem dX11_count_89 : decode cX11_count 89 = .ok (.ireturn, 1) := by decide +kernel
theorem dX11_count_90 : decode cX11_count 90 = .ok (.aload_n 0, 1) := by decide +kernel
theorem dX11_count_91 : decode cX11_count 91 = .ok (.getfield 28, 3) := by decide +kernel
theorem dX11_count_94 : decode cX11_count 94 = .ok (.getfield 145, 3) := by decide +kernel
theorem dX11_count_97 : decode cX11_count 97 = .ok (.ireturn, 1) := by decide +kernel
theorem dX11_count_98 : decode cX11_count 98 = .ok (.aload_n 0, 1) := by decide +kernel
theorem dX11_count_99 : decode cX11_count 99 = .ok (.getfield 42, 3) := by decide +kernel
theorem dX11_count_102 : decode cX11_count 102 = .ok (.getfield 362, 3) := by decide +kernel
theorem dX11_count_105 : decode cX11_count 105 = .ok (.ireturn, 1) := by decide +kernel
theorem dX11_count_106 : decode cX11_count 106 = .ok (.aload_n 0, 1) := by decide +kernel
theorem dX11_count_107 : decode cX11_count 107 = .ok (.getfield 42, 3) := by decide +kernel
theorem dX11_count_110 : decode cX11_count 110 = .ok (.getfield 365, 3) := by decide +kernel
theorem dX11_count_113 : decode cX11_count 113 = .ok (.ireturn, 1) := by decide +kernel
theorem dX11_count_114 : decode cX11_count 114 = .ok (.aload_n 0, 1) := by decide +kernel
theorem dX11_count_115 : decode cX11_count 115 = .ok (.getfield 42, 3) := by decide +kernel
theorem dX11_count_118 : decode cX11_count 118 = .ok (.getfield 368, 3) := by decide +kernel
theorem dX11_count_121 : decode cX11_count 121 = .ok (.ireturn, 1) := by decide +kernel
theorem dX11_count_122 : decode cX11_count 122 = .ok (.aload_n 0, 1) := by decide +kernel
theorem dX11_count_123 : decode cX11_count 123 = .ok (.invokevirtual 371, 3) := by decide +kernel
theorem dX11_count_126 : decode cX11_count 126 = .ok (.ireturn, 1) := by decide +kernel
theorem dX11_count_127 : decode cX11_count 127 = .ok (.aload_n 0, 1) := by decide +kernel
theorem dX11_count_128 : decode cX11_count 128 = .ok (.getfield 42, 3) := by decide +kernel
theorem dX11_count_131 : decode cX11_count 131 = .ok (.getfield 374, 3) := by decide +kernel
theorem dX11_count_134 : decode cX11_count 134 = .ok (.ireturn, 1) := by decide +kernel
theorem dX11_count_135 : decode cX11_count 135 = .ok (.aload_n 0, 1) := by decide +kernel
theorem dX11_count_136 : decode cX11_count 136 = .ok (.getfield 42, 3) := by decide +kernel
theorem dX11_count_139 : decode cX11_count 139 = .ok (.getfield 377, 3) := by decide +kernel
theorem dX11_count_142 : decode cX11_count 142 = .ok (.ireturn, 1) := by decide +kernel
theorem dX11_count_143 : decode cX11_count 143 = .ok (.aload_n 0, 1) := by decide +kernel
theorem dX11_count_144 : decode cX11_count 144 = .ok (.getfield 321, 3) := by decide +kernel
theorem dX11_count_147 : decode cX11_count 147 = .ok (.ireturn, 1) := by decide +kernel
theorem dX11_count_148 : decode cX11_count 148 = .ok (.iconst (-1), 1) := by decide +kernel
theorem dX11_count_149 : decode cX11_count 149 = .ok (.ireturn, 1) := by decide +kernel
theorem dX11_cocoonAt_0 : decode cX11_cocoonAt 0 = .ok (.iload_n 1, 1) := by decide +kernel
theorem dX11_cocoonAt_1 : decode cX11_cocoonAt 1 = .ok (.ifCond .lt 25, 3) := by decide +kernel
theorem dX11_cocoonAt_4 : decode cX11_cocoonAt 4 = .ok (.iload_n 1, 1) := by decide +kernel
theorem dX11_cocoonAt_5 : decode cX11_cocoonAt 5 = .ok (.aload_n 0, 1) := by decide +kernel
theorem dX11_cocoonAt_6 : decode cX11_cocoonAt 6 = .ok (.getfield 63, 3) := by decide +kernel
theorem dX11_cocoonAt_9 : decode cX11_cocoonAt 9 = .ok (.if_icmp .ge 17, 3) := by decide +kernel
theorem dX11_cocoonAt_12 : decode cX11_cocoonAt 12 = .ok (.iload_n 2, 1) := by decide +kernel
theorem dX11_cocoonAt_13 : decode cX11_cocoonAt 13 = .ok (.ifCond .lt 13, 3) := by decide +kernel
theorem dX11_cocoonAt_16 : decode cX11_cocoonAt 16 = .ok (.iload_n 2, 1) := by decide +kernel
theorem dX11_cocoonAt_17 : decode cX11_cocoonAt 17 = .ok (.aload_n 0, 1) := by decide +kernel
theorem dX11_cocoonAt_18 : decode cX11_cocoonAt 18 = .ok (.getfield 15, 3) := by decide +kernel
theorem dX11_cocoonAt_21 : decode cX11_cocoonAt 21 = .ok (.iload_n 1, 1) := by decide +kernel
theorem dX11_cocoonAt_22 : decode cX11_cocoonAt 22 = .ok (.iaload, 1) := by decide +kernel
theorem dX11_cocoonAt_23 : decode cX11_cocoonAt 23 = .ok (.if_icmp .lt 5, 3) := by decide +kernel
theorem dX11_cocoonAt_26 : decode cX11_cocoonAt 26 = .ok (.aconst_null, 1) := by decide +kernel
theorem dX11_cocoonAt_27 : decode cX11_cocoonAt 27 = .ok (.areturn, 1) := by decide +kernel
theorem dX11_cocoonAt_28 : decode cX11_cocoonAt 28 = .ok (.aload_n 0, 1) := by decide +kernel
theorem dX11_cocoonAt_29 : decode cX11_cocoonAt 29 = .ok (.getfield 11, 3) := by decide +kernel
theorem dX11_cocoonAt_32 : decode cX11_cocoonAt 32 = .ok (.iload_n 1, 1) := by decide +kernel
theorem dX11_cocoonAt_33 : decode cX11_cocoonAt 33 = .ok (.bipush 60, 2) := by decide +kernel
theorem dX11_cocoonAt_35 : decode cX11_cocoonAt 35 = .ok (.imul, 1) := by decide +kernel
theorem dX11_cocoonAt_36 : decode cX11_cocoonAt 36 = .ok (.iload_n 2, 1) := by decide +kernel
theorem dX11_cocoonAt_37 : decode cX11_cocoonAt 37 = .ok (.iadd, 1) := by decide +kernel
theorem dX11_cocoonAt_38 : decode cX11_cocoonAt 38 = .ok (.aaload, 1) := by decide +kernel
theorem dX11_cocoonAt_39 : decode cX11_cocoonAt 39 = .ok (.areturn, 1) := by decide +kernel
theorem dX11_potAt_0 : decode cX11_potAt 0 = .ok (.iload_n 1, 1) := by decide +kernel
theorem dX11_potAt_1 : decode cX11_potAt 1 = .ok (.ifCond .lt 11, 3) := by decide +kernel
theorem dX11_potAt_4 : decode cX11_potAt 4 = .ok (.iload_n 1, 1) := by decide +kernel
theorem dX11_potAt_5 : decode cX11_potAt 5 = .ok (.aload_n 0, 1) := by decide +kernel
theorem dX11_potAt_6 : decode cX11_potAt 6 = .ok (.getfield 124, 3) := by decide +kernel
theorem dX11_potAt_9 : decode cX11_potAt 9 = .ok (.if_icmp .lt 7, 3) := by decide +kernel
theorem dX11_potAt_12 : decode cX11_potAt 12 = .ok (.aconst_null, 1) := by decide +kernel
theorem dX11_potAt_13 : decode cX11_potAt 13 = .ok (.goto 9, 3) := by decide +kernel
theorem dX11_potAt_16 : decode cX11_potAt 16 = .ok (.aload_n 0, 1) := by decide +kernel
theorem dX11_potAt_17 : decode cX11_potAt 17 = .ok (.getfield 21, 3) := by decide +kernel
theorem dX11_potAt_20 : decode cX11_potAt 20 = .ok (.iload_n 1, 1) := by decide +kernel
theorem dX11_potAt_21 : decode cX11_potAt 21 = .ok (.aaload, 1) := by decide +kernel
theorem dX11_potAt_22 : decode cX11_potAt 22 = .ok (.areturn, 1) := by decide +kernel
theorem dX11_shelfAt_0 : decode cX11_shelfAt 0 = .ok (.iload_n 1, 1) := by decide +kernel
theorem dX11_shelfAt_1 : decode cX11_shelfAt 1 = .ok (.ifCond .lt 9, 3) := by decide +kernel
theorem dX11_shelfAt_4 : decode cX11_shelfAt 4 = .ok (.iload_n 1, 1) := by decide +kernel
theorem dX11_shelfAt_5 : decode cX11_shelfAt 5 = .ok (.bipush 16, 2) := by decide +kernel
theorem dX11_shelfAt_7 : decode cX11_shelfAt 7 = .ok (.if_icmp .lt 7, 3) := by decide +kernel
theorem dX11_shelfAt_10 : decode cX11_shelfAt 10 = .ok (.aconst_null, 1) := by decide +kernel
theorem dX11_shelfAt_11 : decode cX11_shelfAt 11 = .ok (.goto 9, 3) := by decide +kernel
theorem dX11_shelfAt_14 : decode cX11_shelfAt 14 = .ok (.aload_n 0, 1) := by decide +kernel
theorem dX11_shelfAt_15 : decode cX11_shelfAt 15 = .ok (.getfield 55, 3) := by decide +kernel
theorem dX11_shelfAt_18 : decode cX11_shelfAt 18 = .ok (.iload_n 1, 1) := by decide +kernel
theorem dX11_shelfAt_19 : decode cX11_shelfAt 19 = .ok (.aaload, 1) := by decide +kernel
theorem dX11_shelfAt_20 : decode cX11_shelfAt 20 = .ok (.areturn, 1) := by decide +kernel
set_option maxRecDepth 20000 in
theorem ggX11_listIdle_X11_cocoonAt : GoodIn wsX11_listIdle wsX11_cocoonAt := goodIn_h _ [7, 0, 0, 0, 10, 0, 0, 0, 0, 0, 0, 0, 0, 0, 0, 0] [0, 1, 2, 3, 4, 5, 6, 7, 8, 9, 10, 11, 12, 13, 14, 15] (by decide +kernel) (by decide +kernel)
set_option maxRecDepth 20000 in
theorem gX11_listIdle_X11_cocoonAt : GoodIn wsX11_listIdle (wsV RX11 74 RX11 yX11_cocoonAt wsX11_cocoonAt) := goodIn_app (goodIn_of _ (by decide +kernel)) ggX11_listIdle_X11_cocoonAt
theorem dX11_listIdle_0 : decode cX11_listIdle 0 = .ok (.iconst 0, 1) := by decide +kernel
theorem dX11_listIdle_1 : decode cX11_listIdle 1 = .ok (.istore_n 2, 1) := by decide +kernel
theorem dX11_listIdle_2 : decode cX11_listIdle 2 = .ok (.iconst 0, 1) := by decide +kernel
theorem dX11_listIdle_3 : decode cX11_listIdle 3 = .ok (.istore_n 3, 1) := by decide +kernel
theorem dX11_listIdle_4 : decode cX11_listIdle 4 = .ok (.iload_n 3, 1) := by decide +kernel
theorem dX11_listIdle_5 : decode cX11_listIdle 5 = .ok (.bipush 60, 2) := by decide +kernel
theorem dX11_listIdle_7 : decode cX11_listIdle 7 = .ok (.if_icmp .ge 40, 3) := by decide +kernel
theorem dX11_listIdle_10 : decode cX11_listIdle 10 = .ok (.aload_n 0, 1) := by decide +kernel
theorem dX11_listIdle_11 : decode cX11_listIdle 11 = .ok (.iload_n 1, 1) := by decide +kernel
theorem dX11_listIdle_12 : decode cX11_listIdle 12 = .ok (.iload_n 3, 1) := by decide +kernel
theorem dX11_listIdle_13 : decode cX11_listIdle 13 = .ok (.invokevirtual 74, 3) := by decide +kernel
theorem dX11_listIdle_16 : decode cX11_listIdle 16 = .ok (.astore 4, 2) := by decide +kernel
theorem dX11_listIdle_18 : decode cX11_listIdle 18 = .ok (.aload 4, 2) := by decide +kernel
theorem dX11_listIdle_20 : decode cX11_listIdle 20 = .ok (.ifnull 21, 3) := by decide +kernel
theorem dX11_listIdle_23 : decode cX11_listIdle 23 = .ok (.aload 4, 2) := by decide +kernel
theorem dX11_listIdle_25 : decode cX11_listIdle 25 = .ok (.getfield 81, 3) := by decide +kernel
theorem dX11_listIdle_28 : decode cX11_listIdle 28 = .ok (.ifCond .ne 13, 3) := by decide +kernel
theorem dX11_listIdle_31 : decode cX11_listIdle 31 = .ok (.aload_n 0, 1) := by decide +kernel
theorem dX11_listIdle_32 : decode cX11_listIdle 32 = .ok (.getfield 59, 3) := by decide +kernel
theorem dX11_listIdle_35 : decode cX11_listIdle 35 = .ok (.iload_n 2, 1) := by decide +kernel
theorem dX11_listIdle_36 : decode cX11_listIdle 36 = .ok (.iload_n 3, 1) := by decide +kernel
theorem dX11_listIdle_37 : decode cX11_listIdle 37 = .ok (.iastore, 1) := by decide +kernel
theorem dX11_listIdle_38 : decode cX11_listIdle 38 = .ok (.iinc 2 1, 3) := by decide +kernel
theorem dX11_listIdle_41 : decode cX11_listIdle 41 = .ok (.iinc 3 1, 3) := by decide +kernel
theorem dX11_listIdle_44 : decode cX11_listIdle 44 = .ok (.goto (-40), 3) := by decide +kernel
theorem dX11_listIdle_47 : decode cX11_listIdle 47 = .ok (.iload_n 2, 1) := by decide +kernel
theorem dX11_listIdle_48 : decode cX11_listIdle 48 = .ok (.ireturn, 1) := by decide +kernel
set_option maxRecDepth 20000 in
theorem ggX11_silkThatGrows_X11_potAt : GoodIn wsX11_silkThatGrows wsX11_potAt := goodIn_h _ [1, 6, 0, 0, 0, 0, 0, 0, 0, 0, 0, 0, 0, 0, 0] [1, 0, 2, 3, 4, 5, 6, 7, 8, 9, 10, 11, 12, 13, 14] (by decide +kernel) (by decide +kernel)
set_option maxRecDepth 20000 in
theorem gX11_silkThatGrows_X11_potAt : GoodIn wsX11_silkThatGrows (wsV RX11 134 RX11 yX11_potAt wsX11_potAt) := goodIn_app (goodIn_of _ (by decide +kernel)) ggX11_silkThatGrows_X11_potAt
theorem dX11_silkThatGrows_0 : decode cX11_silkThatGrows 0 = .ok (.iconst 0, 1) := by decide +kernel
theorem dX11_silkThatGrows_1 : decode cX11_silkThatGrows 1 = .ok (.istore_n 1, 1) := by decide +kernel
theorem dX11_silkThatGrows_2 : decode cX11_silkThatGrows 2 = .ok (.iconst 0, 1) := by decide +kernel
theorem dX11_silkThatGrows_3 : decode cX11_silkThatGrows 3 = .ok (.istore_n 2, 1) := by decide +kernel
theorem dX11_silkThatGrows_4 : decode cX11_silkThatGrows 4 = .ok (.iload_n 2, 1) := by decide +kernel
theorem dX11_silkThatGrows_5 : decode cX11_silkThatGrows 5 = .ok (.aload_n 0, 1) := by decide +kernel
theorem dX11_silkThatGrows_6 : decode cX11_silkThatGrows 6 = .ok (.getfield 124, 3) := by decide +kernel
theorem dX11_silkThatGrows_9 : decode cX11_silkThatGrows 9 = .ok (.if_icmp .ge 33, 3) := by decide +kernel
theorem dX11_silkThatGrows_12 : decode cX11_silkThatGrows 12 = .ok (.aload_n 0, 1) := by decide +kernel
theorem dX11_silkThatGrows_13 : decode cX11_silkThatGrows 13 = .ok (.iload_n 2, 1) := by decide +kernel
theorem dX11_silkThatGrows_14 : decode cX11_silkThatGrows 14 = .ok (.invokevirtual 134, 3) := by decide +kernel
theorem dX11_silkThatGrows_17 : decode cX11_silkThatGrows 17 = .ok (.astore_n 3, 1) := by decide +kernel
theorem dX11_silkThatGrows_18 : decode cX11_silkThatGrows 18 = .ok (.iload_n 1, 1) := by decide +kernel
theorem dX11_silkThatGrows_19 : decode cX11_silkThatGrows 19 = .ok (.aload_n 3, 1) := by decide +kernel
theorem dX11_silkThatGrows_20 : decode cX11_silkThatGrows 20 = .ok (.ifnonnull 7, 3) := by decide +kernel
theorem dX11_silkThatGrows_23 : decode cX11_silkThatGrows 23 = .ok (.iconst 0, 1) := by decide +kernel
theorem dX11_silkThatGrows_24 : decode cX11_silkThatGrows 24 = .ok (.goto 10, 3) := by decide +kernel
theorem dX11_silkThatGrows_27 : decode cX11_silkThatGrows 27 = .ok (.aload_n 3, 1) := by decide +kernel
theorem dX11_silkThatGrows_28 : decode cX11_silkThatGrows 28 = .ok (.getfield 186, 3) := by decide +kernel
theorem dX11_silkThatGrows_31 : decode cX11_silkThatGrows 31 = .ok (.getfield 242, 3) := by decide +kernel
theorem dX11_silkThatGrows_34 : decode cX11_silkThatGrows 34 = .ok (.iadd, 1) := by decide +kernel
theorem dX11_silkThatGrows_35 : decode cX11_silkThatGrows 35 = .ok (.istore_n 1, 1) := by decide +kernel
theorem dX11_silkThatGrows_36 : decode cX11_silkThatGrows 36 = .ok (.iinc 2 1, 3) := by decide +kernel
theorem dX11_silkThatGrows_39 : decode cX11_silkThatGrows 39 = .ok (.goto (-35), 3) := by decide +kernel
theorem dX11_silkThatGrows_42 : decode cX11_silkThatGrows 42 = .ok (.iload_n 1, 1) := by decide +kernel
theorem dX11_silkThatGrows_43 : decode cX11_silkThatGrows 43 = .ok (.ireturn, 1) := by decide +kernel
theorem inn_X10_advance_10 : ∀ w ∈ u_ws RX10 TX10 7, w ∈ wsX10_advance := fun w h => List.mem_cons_of_mem _ (List.mem_append_right _ h)
theorem inn_X10_append_10 : ∀ w ∈ u_ws RX10 TX10 7, w ∈ wsX10_append := fun w h => List.mem_cons_of_mem _ (List.mem_append_right _ h)
theorem inn_X10_byteAt_10 : ∀ w ∈ u_ws RX10 TX10 7, w ∈ wsX10_byteAt := fun w h => List.mem_cons_of_mem _ (List.mem_append_right _ h)
theorem inn_X10_fail_10 : ∀ w ∈ u_ws RX10 TX10 7, w ∈ wsX10_fail := fun w h => List.mem_cons_of_mem _ (List.mem_append_right _ h)
theorem inn_X10_forgetFault_10 : ∀ w ∈ u_ws RX10 TX10 7, w ∈ wsX10_forgetFault := fun w h => List.mem_cons_of_mem _ (List.mem_append_right _ h)
theorem inn_X10_isSign_10 : ∀ w ∈ u_ws RX10 TX10 7, w ∈ wsX10_isSign := fun w h => List.mem_cons_of_mem _ (List.mem_append_right _ h)
theorem inn_X10_numberAtHand_10 : ∀ w ∈ u_ws RX10 TX10 7, w ∈ wsX10_numberAtHand := fun w h => List.mem_cons_of_mem _ (List.mem_append_right _ h)
theorem inn_X11_about_4 : ∀ w ∈ u_ws RX4 TX4 12, w ∈ wsX11_about := fun w h => List.mem_cons_of_mem _ (List.mem_append_left _ (List.mem_append_left _ (List.mem_append_left _ (List.mem_append_left _ (List.mem_append_left _ (List.mem_append_right _ h))))))
theorem inn_X11_about_5 : ∀ w ∈ u_ws RX5 TX5 3, w ∈ wsX11_about := fun w h => List.mem_cons_of_mem _ (List.mem_append_left _ (List.mem_append_left _ (List.mem_append_left _ (List.mem_append_left _ (List.mem_append_right _ h)))))
theorem inn_X11_about_6 : ∀ w ∈ u_ws RX6 TX6 7, w ∈ wsX11_about := fun w h => List.mem_cons_of_mem _ (List.mem_append_left _ (List.mem_append_left _ (List.mem_append_right _ h)))
theorem inn_X11_about_9 : ∀ w ∈ u_ws RX9 TX9 9, w ∈ wsX11_about := fun w h => List.mem_cons_of_mem _ (List.mem_append_left _ (List.mem_append_left _ (List.mem_append_left _ (List.mem_append_right _ h))))
theorem inn_X11_cocoon_0 : ∀ w ∈ u_ws RX0 TX0 10, w ∈ wsX11_cocoon := fun w h => List.mem_cons_of_mem _ (List.mem_append_left _ (List.mem_append_right _ h))
theorem inn_X11_cocoonAt_11 : ∀ w ∈ u_ws RX11 TX11 12, w ∈ wsX11_cocoonAt := fun w h => List.mem_cons_of_mem _ (List.mem_append_right _ h)
theorem inn_X11_copy_3 : ∀ w ∈ u_ws RX3 TX3 5, w ∈ wsX11_copy := fun w h => List.mem_cons_of_mem _ (List.mem_append_left _ (List.mem_append_right _ h))
theorem inn_X11_count_10 : ∀ w ∈ u_ws RX10 TX10 7, w ∈ wsX11_count := fun w h => List.mem_cons_of_mem _ (List.mem_append_left _ (List.mem_append_left _ (List.mem_append_right _ h)))
theorem inn_X11_count_11 : ∀ w ∈ u_ws RX11 TX11 12, w ∈ wsX11_count := fun w h => List.mem_cons_of_mem _ (List.mem_append_left _ (List.mem_append_left _ (List.mem_append_left _ (List.mem_append_left _ (List.mem_append_right _ h)))))
theorem inn_X11_count_8 : ∀ w ∈ u_ws RX8 TX8 13, w ∈ wsX11_count := fun w h => List.mem_cons_of_mem _ (List.mem_append_left _ (List.mem_append_left _ (List.mem_append_left _ (List.mem_append_right _ h))))
theorem inn_X11_day_11 : ∀ w ∈ u_ws RX11 TX11 12, w ∈ wsX11_day := fun w h => List.mem_cons_of_mem _ (List.mem_append_left _ (List.mem_append_right _ h))
theorem inn_X11_day_8 : ∀ w ∈ u_ws RX8 TX8 13, w ∈ wsX11_day := fun w h => List.mem_cons_of_mem _ (List.mem_append_right _ h)
theorem inn_X11_drawn_1 : ∀ w ∈ u_ws RX1 TX1 4, w ∈ wsX11_drawn := fun w h => List.mem_cons_of_mem _ (List.mem_append_right _ h)
theorem inn_X11_drawn_11 : ∀ w ∈ u_ws RX11 TX11 12, w ∈ wsX11_drawn := fun w h => List.mem_cons_of_mem _ (List.mem_append_left _ (List.mem_append_right _ h))
theorem inn_X11_end_10 : ∀ w ∈ u_ws RX10 TX10 7, w ∈ wsX11_end := fun w h => List.mem_cons_of_mem _ (List.mem_append_right _ h)
theorem inn_X11_end_11 : ∀ w ∈ u_ws RX11 TX11 12, w ∈ wsX11_end := fun w h => List.mem_cons_of_mem _ (List.mem_append_left _ (List.mem_append_right _ h))
theorem inn_X11_fault_11 : ∀ w ∈ u_ws RX11 TX11 12, w ∈ wsX11_fault := fun w h => List.mem_cons_of_mem _ (List.mem_append_left _ (List.mem_append_right _ h))
theorem inn_X11_feed_10 : ∀ w ∈ u_ws RX10 TX10 7, w ∈ wsX11_feed := fun w h => List.mem_cons_of_mem _ (List.mem_append_right _ h)
theorem inn_X11_feed_11 : ∀ w ∈ u_ws RX11 TX11 12, w ∈ wsX11_feed := fun w h => List.mem_cons_of_mem _ (List.mem_append_left _ (List.mem_append_right _ h))
theorem inn_X11_grade_11 : ∀ w ∈ u_ws RX11 TX11 12, w ∈ wsX11_grade := fun w h => List.mem_cons_of_mem _ (List.mem_append_left _ (List.mem_append_left _ (List.mem_append_left _ (List.mem_append_left _ (List.mem_append_right _ h)))))
theorem inn_X11_grade_7 : ∀ w ∈ u_ws RX7 TX7 10, w ∈ wsX11_grade := fun w h => List.mem_cons_of_mem _ (List.mem_append_left _ (List.mem_append_left _ (List.mem_append_left _ (List.mem_append_right _ h))))
theorem inn_X11_grade_9 : ∀ w ∈ u_ws RX9 TX9 9, w ∈ wsX11_grade := fun w h => List.mem_cons_of_mem _ (List.mem_append_left _ (List.mem_append_left _ (List.mem_append_right _ h)))
theorem inn_X11_listIdle_0 : ∀ w ∈ u_ws RX0 TX0 10, w ∈ wsX11_listIdle := fun w h => List.mem_cons_of_mem _ (List.mem_append_left _ (List.mem_append_right _ h))
theorem inn_X11_listIdle_11 : ∀ w ∈ u_ws RX11 TX11 12, w ∈ wsX11_listIdle := fun w h => List.mem_cons_of_mem _ (List.mem_append_right _ h)
theorem inn_X11_metre_11 : ∀ w ∈ u_ws RX11 TX11 12, w ∈ wsX11_metre := fun w h => List.mem_cons_of_mem _ (List.mem_append_left _ (List.mem_append_left _ (List.mem_append_left _ (List.mem_append_right _ h))))
theorem inn_X11_metre_7 : ∀ w ∈ u_ws RX7 TX7 10, w ∈ wsX11_metre := fun w h => List.mem_cons_of_mem _ (List.mem_append_left _ (List.mem_append_left _ (List.mem_append_right _ h)))
theorem inn_X11_metre_9 : ∀ w ∈ u_ws RX9 TX9 9, w ∈ wsX11_metre := fun w h => List.mem_cons_of_mem _ (List.mem_append_left _ (List.mem_append_right _ h))
theorem inn_X11_mix_11 : ∀ w ∈ u_ws RX11 TX11 12, w ∈ wsX11_mix := fun w h => List.mem_cons_of_mem _ (List.mem_append_left _ (List.mem_append_left _ (List.mem_append_left _ (List.mem_append_left _ (List.mem_append_right _ h)))))
theorem inn_X11_mixed_11 : ∀ w ∈ u_ws RX11 TX11 12, w ∈ wsX11_mixed := fun w h => List.mem_cons_of_mem _ (List.mem_append_left _ (List.mem_append_left _ (List.mem_append_right _ h)))
theorem inn_X11_mixed_7 : ∀ w ∈ u_ws RX7 TX7 10, w ∈ wsX11_mixed := fun w h => List.mem_cons_of_mem _ (List.mem_append_left _ (List.mem_append_right _ h))
theorem inn_X11_number_3 : ∀ w ∈ u_ws RX3 TX3 5, w ∈ wsX11_number := fun w h => List.mem_cons_of_mem _ (List.mem_append_left _ (List.mem_append_right _ h))
theorem inn_X11_pay_11 : ∀ w ∈ u_ws RX11 TX11 12, w ∈ wsX11_pay := fun w h => List.mem_cons_of_mem _ (List.mem_append_left _ (List.mem_append_left _ (List.mem_append_left _ (List.mem_append_right _ h))))
theorem inn_X11_pay_8 : ∀ w ∈ u_ws RX8 TX8 13, w ∈ wsX11_pay := fun w h => List.mem_cons_of_mem _ (List.mem_append_left _ (List.mem_append_left _ (List.mem_append_right _ h)))
theorem inn_X11_piece_11 : ∀ w ∈ u_ws RX11 TX11 12, w ∈ wsX11_piece := fun w h => List.mem_cons_of_mem _ (List.mem_append_left _ (List.mem_append_left _ (List.mem_append_left _ (List.mem_append_right _ h))))
theorem inn_X11_piece_7 : ∀ w ∈ u_ws RX7 TX7 10, w ∈ wsX11_piece := fun w h => List.mem_cons_of_mem _ (List.mem_append_left _ (List.mem_append_left _ (List.mem_append_right _ h)))
theorem inn_X11_piece_9 : ∀ w ∈ u_ws RX9 TX9 9, w ∈ wsX11_piece := fun w h => List.mem_cons_of_mem _ (List.mem_append_left _ (List.mem_append_right _ h))
theorem inn_X11_place_10 : ∀ w ∈ u_ws RX10 TX10 7, w ∈ wsX11_place := fun w h => List.mem_cons_of_mem _ (List.mem_append_right _ h)
theorem inn_X11_place_11 : ∀ w ∈ u_ws RX11 TX11 12, w ∈ wsX11_place := fun w h => List.mem_cons_of_mem _ (List.mem_append_left _ (List.mem_append_right _ h))
theorem inn_X11_potAt_11 : ∀ w ∈ u_ws RX11 TX11 12, w ∈ wsX11_potAt := fun w h => List.mem_cons_of_mem _ (List.mem_append_right _ h)
theorem inn_X11_price_11 : ∀ w ∈ u_ws RX11 TX11 12, w ∈ wsX11_price := fun w h => List.mem_cons_of_mem _ (List.mem_append_left _ (List.mem_append_right _ h))
theorem inn_X11_price_8 : ∀ w ∈ u_ws RX8 TX8 13, w ∈ wsX11_price := fun w h => List.mem_cons_of_mem _ (List.mem_append_right _ h)
theorem inn_X11_shelfAt_11 : ∀ w ∈ u_ws RX11 TX11 12, w ∈ wsX11_shelfAt := fun w h => List.mem_cons_of_mem _ (List.mem_append_right _ h)
theorem inn_X11_shelve_11 : ∀ w ∈ u_ws RX11 TX11 12, w ∈ wsX11_shelve := fun w h => List.mem_cons_of_mem _ (List.mem_append_left _ (List.mem_append_right _ h))
theorem inn_X11_shelve_3 : ∀ w ∈ u_ws RX3 TX3 5, w ∈ wsX11_shelve := fun w h => List.mem_cons_of_mem _ (List.mem_append_left _ (List.mem_append_left _ (List.mem_append_right _ h)))
theorem inn_X11_silkThatGrows_11 : ∀ w ∈ u_ws RX11 TX11 12, w ∈ wsX11_silkThatGrows := fun w h => List.mem_cons_of_mem _ (List.mem_append_left _ (List.mem_append_left _ (List.mem_append_right _ h)))
theorem inn_X11_silkThatGrows_4 : ∀ w ∈ u_ws RX4 TX4 12, w ∈ wsX11_silkThatGrows := fun w h => List.mem_cons_of_mem _ (List.mem_append_left _ (List.mem_append_right _ h))
theorem inn_X11_silkThatGrows_9 : ∀ w ∈ u_ws RX9 TX9 9, w ∈ wsX11_silkThatGrows := fun w h => List.mem_cons_of_mem _ (List.mem_append_right _ h)
theorem inn_X11_skein_11 : ∀ w ∈ u_ws RX11 TX11 12, w ∈ wsX11_skein := fun w h => List.mem_cons_of_mem _ (List.mem_append_left _ (List.mem_append_left _ (List.mem_append_left _ (List.mem_append_right _ h))))
theorem inn_X11_skein_7 : ∀ w ∈ u_ws RX7 TX7 10, w ∈ wsX11_skein := fun w h => List.mem_cons_of_mem _ (List.mem_append_left _ (List.mem_append_left _ (List.mem_append_right _ h)))
theorem inn_X11_skein_9 : ∀ w ∈ u_ws RX9 TX9 9, w ∈ wsX11_skein := fun w h => List.mem_cons_of_mem _ (List.mem_append_left _ (List.mem_append_right _ h))
theorem inn_X11_take_11 : ∀ w ∈ u_ws RX11 TX11 12, w ∈ wsX11_take := fun w h => List.mem_cons_of_mem _ (List.mem_append_left _ (List.mem_append_right _ h))
theorem inn_X11_take_3 : ∀ w ∈ u_ws RX3 TX3 5, w ∈ wsX11_take := fun w h => List.mem_cons_of_mem _ (List.mem_append_left _ (List.mem_append_left _ (List.mem_append_right _ h)))
theorem inn_X11_target_4 : ∀ w ∈ u_ws RX4 TX4 12, w ∈ wsX11_target := fun w h => List.mem_cons_of_mem _ (List.mem_append_left _ (List.mem_append_right _ h))
theorem inn_X11_test_11 : ∀ w ∈ u_ws RX11 TX11 12, w ∈ wsX11_test := fun w h => List.mem_cons_of_mem _ (List.mem_append_left _ (List.mem_append_right _ h))
set_option maxHeartbeats 4000000 in
set_option maxRecDepth 100000 in
theorem k_X11_cocoonAt (l : Launch) (G : va_G) (cy : Nat → ClassId) (κ : Nat → Nat) (S : PS) (sz : Nat) (x : Nat) (a1 : Int32) (a1_z : Int) (a2 : Int32) (a2_z : Int) (hG : GX S) (ha_x : At S x 11) (hz_a1 : a1.toInt = a1_z) (hz_a2 : a2.toInt = a2_z) : Cq l yX11_cocoonAt wsX11_cocoonAt ({ frames := 1, cells := 0, slots := 0, locals := 48 }) G cy κ S sz [.ref x, .int (a1), .int (a2)] (fun (r : Option Nat) (S9 : PS) => S = S9 ∧ (∀ q, r = some q → At S9 q 0)) := by
  refine ent_m (cc := cX11_cocoonAt) (maxL := 3) (ret := (some (.object "SilkMill$Cocoon"))) (by decide) rfl (Nat.le_of_ble_eq_true rfl) ?_
  intro p e s m below meth c ls X hr hlocks hin hw hl hsz
  subst hsz
  have X : Cx p c cX11_cocoonAt 3 s [.ref x, .int (a1), .int (a2)].toArray wsX11_cocoonAt RX11 m G cy κ (AS S s.heap.size) := X
  have hl : lv_has ls 3 [(0, .ref x), (1, .int (a1)), (2, .int (a2))] := hl
  have rg_a1 : (-2147483648) ≤ a1_z ∧ a1_z ≤ 2147483647 := by rw [← hz_a1]; exact ⟨z_lo _, z_hi _⟩
  have rg_a2 : (-2147483648) ≤ a2_z ∧ a2_z ≤ 2147483647 := by rw [← hz_a2]; exact ⟨z_lo _, z_hi _⟩
  refine lv_iload_n X.1 X.2.1 dX11_cocoonAt_0 rfl (lv_at hl 1 rfl) ?_
  refine lv_if_lt (tgt := 26) X.1 X.2.1 dX11_cocoonAt_1 (by decide) (fun c_1 => ?_) (fun c_1 => ?_)
  · have z_b_2 := trivial
    have k_3 : a1_z < 0 := z_lt hz_a1 ti_0 c_1
    refine lv_null X.1 X.2.1 dX11_cocoonAt_26 ?_
    exact ret_q none rfl X hw hr hlocks (Nat.le_of_ble_eq_true rfl) (Nat.le_of_ble_eq_true rfl) ⟨rfl, (fun q h => by cases h)⟩ dX11_cocoonAt_27
  · have z_b_4 := trivial
    have k_5 : a1_z ≥ 0 := z_nlt hz_a1 ti_0 c_1
    refine lv_iload_n X.1 X.2.1 dX11_cocoonAt_4 rfl (lv_at hl 1 rfl) ?_
    refine lv_aload_n X.1 X.2.1 dX11_cocoonAt_5 rfl (lv_at hl 0 rfl) ?_
    obtain ⟨v_6, ev_6⟩ : ∃ v, pI S 1102 x = v := ⟨_, rfl⟩
    have rg_7 := gI_11_1102 hG ha_x; rw [ev_6] at rg_7
    refine r_getI (g := 1102) (x := v_6) X hw ha_x rfl 2 ev_6 (by decide) rfl inn_X11_cocoonAt_11 (by decide) (X.2.2.2.1 (.fieldLink RX11 63 "SilkMill" "lots" "I") (by decide +kernel)) rfl (gv_1102 _ _) dX11_cocoonAt_6 ?_
    refine lv_icmp_ge (tgt := 26) X.1 X.2.1 dX11_cocoonAt_9 (by decide) (fun c_8 => ?_) (fun c_8 => ?_)
    · have z_b_9 := trivial
      have k_10 : a1_z ≥ v_6.toInt := z_le rfl hz_a1 c_8
      refine lv_null X.1 X.2.1 dX11_cocoonAt_26 ?_
      exact ret_q none rfl X hw hr hlocks (Nat.le_of_ble_eq_true rfl) (Nat.le_of_ble_eq_true rfl) ⟨rfl, (fun q h => by cases h)⟩ dX11_cocoonAt_27
    · have z_b_11 := trivial
      have k_12 : a1_z < v_6.toInt := z_nle rfl hz_a1 c_8
      refine lv_iload_n X.1 X.2.1 dX11_cocoonAt_12 rfl (lv_at hl 2 rfl) ?_
      refine lv_if_lt (tgt := 26) X.1 X.2.1 dX11_cocoonAt_13 (by decide) (fun c_13 => ?_) (fun c_13 => ?_)
      · have z_b_14 := trivial
        have k_15 : a2_z < 0 := z_lt hz_a2 ti_0 c_13
        refine lv_null X.1 X.2.1 dX11_cocoonAt_26 ?_
        exact ret_q none rfl X hw hr hlocks (Nat.le_of_ble_eq_true rfl) (Nat.le_of_ble_eq_true rfl) ⟨rfl, (fun q h => by cases h)⟩ dX11_cocoonAt_27
      · have z_b_16 := trivial
        have k_17 : a2_z ≥ 0 := z_nlt hz_a2 ti_0 c_13
        refine lv_iload_n X.1 X.2.1 dX11_cocoonAt_16 rfl (lv_at hl 2 rfl) ?_
        refine lv_aload_n X.1 X.2.1 dX11_cocoonAt_17 rfl (lv_at hl 0 rfl) ?_
        obtain ⟨q_18, h_19, h_20, h_21⟩ := gQ_11_1101 hG ha_x
        refine r_getR (g := 1101) X hw ha_x rfl 1 h_19 (by decide) rfl inn_X11_cocoonAt_11 (by decide) (X.2.2.2.1 (.fieldLink RX11 15 "SilkMill" "lotSizes" "[I") (by decide +kernel)) rfl (gv_1101 _ _) dX11_cocoonAt_18 ?_
        refine lv_iload_n X.1 X.2.1 dX11_cocoonAt_21 rfl (lv_at hl 1 rfl) ?_
        refine r_iald X hw h_20 rfl (by rw [h_21]; exact z_ix hz_a1 (by omega) (by omega)) dX11_cocoonAt_22 ?_
        refine lv_topi (fun v_22 ev_22 => ?_)
        have z_23 := gE_54 hG h_20 (Int32.toNatClampNeg (a1)); rw [← ev_22] at z_23
        have ev_22 := ev_22.symm
        refine lv_icmp_lt (tgt := 28) X.1 X.2.1 dX11_cocoonAt_23 (by decide) (fun c_24 => ?_) (fun c_24 => ?_)
        · have z_b_25 := trivial
          have k_26 : a2_z < v_22.toInt := z_lt hz_a2 rfl c_24
          refine lv_aload_n X.1 X.2.1 dX11_cocoonAt_28 rfl (lv_at hl 0 rfl) ?_
          obtain ⟨q_27, h_28, h_29, h_30⟩ := gQ_11_1100 hG ha_x
          refine r_getR (g := 1100) X hw ha_x rfl 0 h_28 (by decide) rfl inn_X11_cocoonAt_11 (by decide) (X.2.2.2.1 (.fieldLink RX11 11 "SilkMill" "cocoons" "[LSilkMill$Cocoon;") (by decide +kernel)) rfl (gv_1100 _ _) dX11_cocoonAt_29 ?_
          refine lv_iload_n X.1 X.2.1 dX11_cocoonAt_32 rfl (lv_at hl 1 rfl) ?_
          refine lv_bipush (v := 60) X.1 X.2.1 dX11_cocoonAt_33 (by decide) ?_
          refine lv_imul X.1 X.2.1 dX11_cocoonAt_35 ?_
          refine lv_topi (fun v_31 ev_31 => ?_)
          have z_32 : v_31.toInt = a1_z * 60 := z_mul ev_31 hz_a1 ti_60 (by omega) (by omega)
          refine lv_iload_n X.1 X.2.1 dX11_cocoonAt_36 rfl (lv_at hl 2 rfl) ?_
          refine lv_iadd X.1 X.2.1 dX11_cocoonAt_37 ?_
          refine lv_topi (fun v_33 ev_33 => ?_)
          have z_34 : v_33.toInt = v_31.toInt + a2_z := z_add ev_33 rfl hz_a2 (by omega) (by omega)
          refine r_aald X hw h_29 rfl (by decide) rfl (by rw [h_30]; exact z_ix rfl (by omega) (by omega)) dX11_cocoonAt_38 ?_
          rcases ho_35 : pB S q_27 (Int32.toNatClampNeg (v_33)) with _ | q_36
          · refine W.eq (g2 := F0 m 39 ls (.null :: [])) rfl ?_
            exact ret_q none rfl X hw hr hlocks (Nat.le_of_ble_eq_true rfl) (Nat.le_of_ble_eq_true rfl) ⟨rfl, (fun q h => by cases h)⟩ dX11_cocoonAt_39
          · refine W.eq (g2 := F0 m 39 ls (.ref q_36 :: [])) rfl ?_
            have ha_37 : At S q_36 0 := gEl_36 hG h_29 _ _ ho_35
            exact ret_q (some q_36) rfl X hw hr hlocks (Nat.le_of_ble_eq_true rfl) (Nat.le_of_ble_eq_true rfl) ⟨rfl, (fun q h => by cases h; exact ha_37)⟩ dX11_cocoonAt_39
        · have z_b_38 := trivial
          have k_39 : a2_z ≥ v_22.toInt := z_nlt hz_a2 rfl c_24
          refine lv_null X.1 X.2.1 dX11_cocoonAt_26 ?_
          exact ret_q none rfl X hw hr hlocks (Nat.le_of_ble_eq_true rfl) (Nat.le_of_ble_eq_true rfl) ⟨rfl, (fun q h => by cases h)⟩ dX11_cocoonAt_27
set_option maxHeartbeats 4000000 in
set_option maxRecDepth 100000 in
theorem k_X11_potAt (l : Launch) (G : va_G) (cy : Nat → ClassId) (κ : Nat → Nat) (S : PS) (sz : Nat) (x : Nat) (a1 : Int32) (a1_z : Int) (hG : GX S) (ha_x : At S x 11) (hz_a1 : a1.toInt = a1_z) : Cq l yX11_potAt wsX11_potAt ({ frames := 1, cells := 0, slots := 0, locals := 48 }) G cy κ S sz [.ref x, .int (a1)] (fun (r : Option Nat) (S9 : PS) => S = S9 ∧ ((∀ q, r = some q → At S9 q 4 ∧ 0 ≤ a1_z ∧ a1_z < (pI S 1104 x).toInt) ∧ (r = none → PN S x → ¬ (0 ≤ a1_z ∧ a1_z < (pI S 1104 x).toInt)))) := by
  refine ent_m (cc := cX11_potAt) (maxL := 2) (ret := (some (.object "SilkMill$Pot"))) (by decide) rfl (Nat.le_of_ble_eq_true rfl) ?_
  intro p e s m below meth c ls X hr hlocks hin hw hl hsz
  subst hsz
  have X : Cx p c cX11_potAt 2 s [.ref x, .int (a1)].toArray wsX11_potAt RX11 m G cy κ (AS S s.heap.size) := X
  have hl : lv_has ls 2 [(0, .ref x), (1, .int (a1))] := hl
  have rg_a1 : (-2147483648) ≤ a1_z ∧ a1_z ≤ 2147483647 := by rw [← hz_a1]; exact ⟨z_lo _, z_hi _⟩
  refine lv_iload_n X.1 X.2.1 dX11_potAt_0 rfl (lv_at hl 1 rfl) ?_
  refine lv_if_lt (tgt := 12) X.1 X.2.1 dX11_potAt_1 (by decide) (fun c_1 => ?_) (fun c_1 => ?_)
  · have z_b_2 := trivial
    have k_3 : a1_z < 0 := z_lt hz_a1 ti_0 c_1
    refine lv_null X.1 X.2.1 dX11_potAt_12 ?_
    refine lv_goto (tgt := 22) X.1 X.2.1 dX11_potAt_13 (by decide) ?_
    exact ret_q none rfl X hw hr hlocks (Nat.le_of_ble_eq_true rfl) (Nat.le_of_ble_eq_true rfl) ⟨rfl, ⟨fun q h => (by cases h), fun _ _ _ => by omega⟩⟩ dX11_potAt_22
  · have z_b_4 := trivial
    have k_5 : a1_z ≥ 0 := z_nlt hz_a1 ti_0 c_1
    refine lv_iload_n X.1 X.2.1 dX11_potAt_4 rfl (lv_at hl 1 rfl) ?_
    refine lv_aload_n X.1 X.2.1 dX11_potAt_5 rfl (lv_at hl 0 rfl) ?_
    obtain ⟨v_6, ev_6⟩ : ∃ v, pI S 1104 x = v := ⟨_, rfl⟩
    have rg_7 := gI_11_1104 hG ha_x; rw [ev_6] at rg_7
    have pz_8 : (pI S 1104 x).toInt = v_6.toInt := by rw [ev_6]
    refine r_getI (g := 1104) (x := v_6) X hw ha_x rfl 4 ev_6 (by decide) rfl inn_X11_potAt_11 (by decide) (X.2.2.2.1 (.fieldLink RX11 124 "SilkMill" "potsMade" "I") (by decide +kernel)) rfl (gv_1104 _ _) dX11_potAt_6 ?_
    refine lv_icmp_lt (tgt := 16) X.1 X.2.1 dX11_potAt_9 (by decide) (fun c_9 => ?_) (fun c_9 => ?_)
    · have z_b_10 := trivial
      have k_11 : a1_z < v_6.toInt := z_lt hz_a1 rfl c_9
      refine lv_aload_n X.1 X.2.1 dX11_potAt_16 rfl (lv_at hl 0 rfl) ?_
      obtain ⟨q_12, h_13, h_14, h_15⟩ := gQ_11_1103 hG ha_x
      refine r_getR (g := 1103) X hw ha_x rfl 3 h_13 (by decide) rfl inn_X11_potAt_11 (by decide) (X.2.2.2.1 (.fieldLink RX11 21 "SilkMill" "pots" "[LSilkMill$Pot;") (by decide +kernel)) rfl (gv_1103 _ _) dX11_potAt_17 ?_
      refine lv_iload_n X.1 X.2.1 dX11_potAt_20 rfl (lv_at hl 1 rfl) ?_
      refine r_aald X hw h_14 rfl (by decide) rfl (by rw [h_15]; exact z_ix hz_a1 (by omega) (by omega)) dX11_potAt_21 ?_
      rcases ho_16 : pB S q_12 (Int32.toNatClampNeg (a1)) with _ | q_17
      · refine W.eq (g2 := F0 m 22 ls (.null :: [])) rfl ?_
        exact ret_q none rfl X hw hr hlocks (Nat.le_of_ble_eq_true rfl) (Nat.le_of_ble_eq_true rfl) ⟨rfl, ⟨fun q h => (by cases h), fun _ hPN _ => hPN _ h_13 _ (by rw [z_nat hz_a1 (by omega)]; omega) ho_16⟩⟩ dX11_potAt_22
      · refine W.eq (g2 := F0 m 22 ls (.ref q_17 :: [])) rfl ?_
        have ha_18 : At S q_17 4 := gEl_18 hG h_14 _ _ ho_16
        exact ret_q (some q_17) rfl X hw hr hlocks (Nat.le_of_ble_eq_true rfl) (Nat.le_of_ble_eq_true rfl) ⟨rfl, ⟨fun q h => (by cases h; exact ⟨ha_18, by omega, by omega⟩), fun h => (by cases h)⟩⟩ dX11_potAt_22
    · have z_b_19 := trivial
      have k_20 : a1_z ≥ v_6.toInt := z_nlt hz_a1 rfl c_9
      refine lv_null X.1 X.2.1 dX11_potAt_12 ?_
      refine lv_goto (tgt := 22) X.1 X.2.1 dX11_potAt_13 (by decide) ?_
      exact ret_q none rfl X hw hr hlocks (Nat.le_of_ble_eq_true rfl) (Nat.le_of_ble_eq_true rfl) ⟨rfl, ⟨fun q h => (by cases h), fun _ _ _ => by omega⟩⟩ dX11_potAt_22
set_option maxHeartbeats 4000000 in
set_option maxRecDepth 100000 in
theorem k_X11_shelfAt (l : Launch) (G : va_G) (cy : Nat → ClassId) (κ : Nat → Nat) (S : PS) (sz : Nat) (x : Nat) (a1 : Int32) (a1_z : Int) (hG : GX S) (ha_x : At S x 11) (hz_a1 : a1.toInt = a1_z) : Cq l yX11_shelfAt wsX11_shelfAt ({ frames := 1, cells := 0, slots := 0, locals := 48 }) G cy κ S sz [.ref x, .int (a1)] (fun (r : Option Nat) (S9 : PS) => S = S9 ∧ (∀ q, r = some q → At S9 q 3)) := by
  refine ent_m (cc := cX11_shelfAt) (maxL := 2) (ret := (some (.object "SilkMill$Place"))) (by decide) rfl (Nat.le_of_ble_eq_true rfl) ?_
  intro p e s m below meth c ls X hr hlocks hin hw hl hsz
  subst hsz
  have X : Cx p c cX11_shelfAt 2 s [.ref x, .int (a1)].toArray wsX11_shelfAt RX11 m G cy κ (AS S s.heap.size) := X
  have hl : lv_has ls 2 [(0, .ref x), (1, .int (a1))] := hl
  have rg_a1 : (-2147483648) ≤ a1_z ∧ a1_z ≤ 2147483647 := by rw [← hz_a1]; exact ⟨z_lo _, z_hi _⟩
  refine lv_iload_n X.1 X.2.1 dX11_shelfAt_0 rfl (lv_at hl 1 rfl) ?_
  refine lv_if_lt (tgt := 10) X.1 X.2.1 dX11_shelfAt_1 (by decide) (fun c_1 => ?_) (fun c_1 => ?_)
  · have z_b_2 := trivial
    have k_3 : a1_z < 0 := z_lt hz_a1 ti_0 c_1
    refine lv_null X.1 X.2.1 dX11_shelfAt_10 ?_
    refine lv_goto (tgt := 20) X.1 X.2.1 dX11_shelfAt_11 (by decide) ?_
    exact ret_q none rfl X hw hr hlocks (Nat.le_of_ble_eq_true rfl) (Nat.le_of_ble_eq_true rfl) ⟨rfl, (fun q h => by cases h)⟩ dX11_shelfAt_20
  · have z_b_4 := trivial
    have k_5 : a1_z ≥ 0 := z_nlt hz_a1 ti_0 c_1
    refine lv_iload_n X.1 X.2.1 dX11_shelfAt_4 rfl (lv_at hl 1 rfl) ?_
    refine lv_bipush (v := 16) X.1 X.2.1 dX11_shelfAt_5 (by decide) ?_
    refine lv_icmp_lt (tgt := 14) X.1 X.2.1 dX11_shelfAt_7 (by decide) (fun c_6 => ?_) (fun c_6 => ?_)
    · have z_b_7 := trivial
      have k_8 : a1_z < 16 := z_lt hz_a1 ti_16 c_6
      refine lv_aload_n X.1 X.2.1 dX11_shelfAt_14 rfl (lv_at hl 0 rfl) ?_
      obtain ⟨q_9, h_10, h_11, h_12⟩ := gQ_11_1109 hG ha_x
      refine r_getR (g := 1109) X hw ha_x rfl 9 h_10 (by decide) rfl inn_X11_shelfAt_11 (by decide) (X.2.2.2.1 (.fieldLink RX11 55 "SilkMill" "shelf" "[LSilkMill$Place;") (by decide +kernel)) rfl (gv_1109 _ _) dX11_shelfAt_15 ?_
      refine lv_iload_n X.1 X.2.1 dX11_shelfAt_18 rfl (lv_at hl 1 rfl) ?_
      refine r_aald X hw h_11 rfl (by decide) rfl (by rw [h_12]; exact z_ix hz_a1 (by omega) (by omega)) dX11_shelfAt_19 ?_
      rcases ho_13 : pB S q_9 (Int32.toNatClampNeg (a1)) with _ | q_14
      · refine W.eq (g2 := F0 m 20 ls (.null :: [])) rfl ?_
        exact ret_q none rfl X hw hr hlocks (Nat.le_of_ble_eq_true rfl) (Nat.le_of_ble_eq_true rfl) ⟨rfl, (fun q h => by cases h)⟩ dX11_shelfAt_20
      · refine W.eq (g2 := F0 m 20 ls (.ref q_14 :: [])) rfl ?_
        have ha_15 : At S q_14 3 := gEl_17 hG h_11 _ _ ho_13
        exact ret_q (some q_14) rfl X hw hr hlocks (Nat.le_of_ble_eq_true rfl) (Nat.le_of_ble_eq_true rfl) ⟨rfl, (fun q h => by cases h; exact ha_15)⟩ dX11_shelfAt_20
    · have z_b_16 := trivial
      have k_17 : a1_z ≥ 16 := z_nlt hz_a1 ti_16 c_6
      refine lv_null X.1 X.2.1 dX11_shelfAt_10 ?_
      refine lv_goto (tgt := 20) X.1 X.2.1 dX11_shelfAt_11 (by decide) ?_
      exact ret_q none rfl X hw hr hlocks (Nat.le_of_ble_eq_true rfl) (Nat.le_of_ble_eq_true rfl) ⟨rfl, (fun q h => by cases h)⟩ dX11_shelfAt_20
set_option maxHeartbeats 4000000 in
set_option maxRecDepth 100000 in
theorem k_X11_silkThatGrows (l : Launch) (G : va_G) (cy : Nat → ClassId) (κ : Nat → Nat) (S : PS) (sz : Nat) (x : Nat) (hG : GX S) (ha_x : At S x 11) : Ci l yX11_silkThatGrows wsX11_silkThatGrows ({ frames := 2, cells := 0, slots := 0, locals := 96 }) G cy κ S sz [.ref x] (fun (r : Int32) (S9 : PS) => S = S9 ∧ (True)) := by
  refine ent_m (cc := cX11_silkThatGrows) (maxL := 4) (ret := (some .int)) (by decide) rfl (Nat.le_of_ble_eq_true rfl) ?_
  intro p e s m below meth c ls X hr hlocks hin hw hl hsz
  subst hsz
  have X : Cx p c cX11_silkThatGrows 4 s [.ref x].toArray wsX11_silkThatGrows RX11 m G cy κ (AS S s.heap.size) := X
  have hl : lv_has ls 4 [(0, .ref x)] := hl
  generalize hQQ : MQ below _ _ _ _ _ _ = QQ
  replace hQQ := hQQ.symm
  refine lv_iconst (v := 0) X.1 X.2.1 dX11_silkThatGrows_0 (by decide) ?_
  refine lv_istore_n (lv' := [(1, .int 0), (0, .ref x)]) X.1 X.2.1 dX11_silkThatGrows_1 rfl hl (by decide) rfl (fun ls hl => ?_)
  refine lv_iconst (v := 0) X.1 X.2.1 dX11_silkThatGrows_2 (by decide) ?_
  refine lv_istore_n (lv' := [(2, .int 0), (1, .int 0), (0, .ref x)]) X.1 X.2.1 dX11_silkThatGrows_3 rfl hl (by decide) rfl (fun ls hl => ?_)
  have L_1 : ∀ (n : Nat) (H : Heap) (locs : List Loc) (ls : Array Slot) (i1_2 : Int32) (i1_2_z : Int) (i2_3 : Int32) (i2_3_z : Int), ((4 - i2_3_z).toNat = n) → (Wd G cy (AS S s.heap.size) s.heap S H locs) → (i1_2.toInt = i1_2_z) → (i2_3.toInt = i2_3_z) → (0 ≤ i2_3_z ∧ i2_3_z ≤ 4) → (lv_has ls 4 [(1, .int (i1_2)), (2, .int (i2_3)), (0, .ref x)]) → W p l e ({ frames := 2, cells := 0, slots := 0, locals := 96 }) s m [.ref x].toArray below meth c H locs 0 0 QQ (F0 m 4 ls []) := by
    intro n
    induction n using Nat.strongRecOn with
    | ind n ih =>
    intro H locs ls i1_2 i1_2_z i2_3 i2_3_z hn hw hz_i1_2 hz_i2_3 hr_i2_3 hl
    have rg_4 : (-2147483648) ≤ i1_2_z ∧ i1_2_z ≤ 2147483647 := by rw [← hz_i1_2]; exact ⟨z_lo _, z_hi _⟩
    have rg_5 : (-2147483648) ≤ i2_3_z ∧ i2_3_z ≤ 2147483647 := by rw [← hz_i2_3]; exact ⟨z_lo _, z_hi _⟩
    refine lv_iload_n X.1 X.2.1 dX11_silkThatGrows_4 rfl (lv_at hl 1 rfl) ?_
    refine lv_aload_n X.1 X.2.1 dX11_silkThatGrows_5 rfl (lv_at hl 2 rfl) ?_
    obtain ⟨v_6, ev_6⟩ : ∃ v, pI S 1104 x = v := ⟨_, rfl⟩
    have rg_7 := gI_11_1104 hG ha_x; rw [ev_6] at rg_7
    have pz_8 : (pI S 1104 x).toInt = v_6.toInt := by rw [ev_6]
    refine r_getI (g := 1104) (x := v_6) X hw ha_x rfl 4 ev_6 (by decide) rfl inn_X11_silkThatGrows_11 (by decide) (X.2.2.2.1 (.fieldLink RX11 124 "SilkMill" "potsMade" "I") (by decide +kernel)) rfl (gv_1104 _ _) dX11_silkThatGrows_6 ?_
    refine lv_icmp_ge (tgt := 42) X.1 X.2.1 dX11_silkThatGrows_9 (by decide) (fun c_9 => ?_) (fun c_9 => ?_)
    · have z_b_10 := trivial
      have k_11 : i2_3_z ≥ v_6.toInt := z_le rfl hz_i2_3 c_9
      refine lv_iload_n X.1 X.2.1 dX11_silkThatGrows_42 rfl (lv_at hl 0 rfl) ?_
      rw [hQQ]
      exact ret_i X hw hr hlocks (Nat.le_of_ble_eq_true rfl) (Nat.le_of_ble_eq_true rfl) ⟨rfl, trivial⟩ dX11_silkThatGrows_43
    · have z_b_12 := trivial
      have k_13 : i2_3_z < v_6.toInt := z_nle rfl hz_i2_3 c_9
      refine lv_aload_n X.1 X.2.1 dX11_silkThatGrows_12 rfl (lv_at hl 2 rfl) ?_
      refine lv_iload_n X.1 X.2.1 dX11_silkThatGrows_13 rfl (lv_at hl 1 rfl) ?_
      refine k_q (rm := { frames := 1, cells := 0, slots := 0, locals := 48 }) (av := [.ref x, .int (i2_3)]) X hw (va_runV (As := [.int (i2_3)]) (rest := []) (cfix X) (k_X11_potAt l G cy κ S _ x (i2_3) (i2_3_z) hG ha_x hz_i2_3) (cwV 1 X.2.2.2.1 gX11_silkThatGrows_X11_potAt rfl rfl rfl (by decide +kernel) ⟨Nat.le_of_ble_eq_true rfl, Nat.le_of_ble_eq_true rfl⟩) (pre_V X hw _ ha_x rfl (by decide) rfl) rfl rfl hl.1 rfl (lv_room (Nat.le_of_ble_eq_true rfl)) dX11_silkThatGrows_14 ⟨Nat.le_of_ble_eq_true rfl, Nat.le_of_ble_eq_true rfl⟩) 0 0 (Nat.le_of_ble_eq_true rfl) (Nat.le_of_ble_eq_true rfl) (fun rr_14 S_15 H locs hp hw hfr hnw => ?_)
      obtain ⟨e2, hp⟩ := hp
      subst e2
      obtain ⟨hq_16, hnf_17⟩ := hp
      rcases rr_14 with _ | q_18
      · refine W.eq (g2 := F0 m 17 ls (.null :: [])) rfl ?_
        have nf_19 := hnf_17 rfl
        refine lv_astore_nN (lv' := [(3, .null), (1, .int (i1_2)), (2, .int (i2_3)), (0, .ref x)]) X.1 X.2.1 dX11_silkThatGrows_17 rfl hl (by decide) rfl (fun ls hl => ?_)
        refine lv_iload_n X.1 X.2.1 dX11_silkThatGrows_18 rfl (lv_at hl 1 rfl) ?_
        refine lv_aload_nN X.1 X.2.1 dX11_silkThatGrows_19 rfl (lv_at hl 0 rfl) ?_
        refine lv_ifnonnullN X.1 X.2.1 dX11_silkThatGrows_20 ?_
        refine lv_iconst (v := 0) X.1 X.2.1 dX11_silkThatGrows_23 (by decide) ?_
        refine lv_goto (tgt := 34) X.1 X.2.1 dX11_silkThatGrows_24 (by decide) ?_
        refine lv_iadd X.1 X.2.1 dX11_silkThatGrows_34 ?_
        refine lv_topi (fun v_20 ev_20 => ?_)
        have z_21 : v_20.toInt = i1_2_z + 0 := z_add ev_20 hz_i1_2 ti_0 (by omega) (by omega)
        refine lv_istore_n (lv' := [(1, .int (v_20)), (3, .null), (2, .int (i2_3)), (0, .ref x)]) X.1 X.2.1 dX11_silkThatGrows_35 rfl hl (by decide) rfl (fun ls hl => ?_)
        obtain ⟨x_22, ex_22⟩ : ∃ y : Int32, y = i2_3 + 1 := ⟨_, rfl⟩
        have z_23 : x_22.toInt = i2_3_z + 1 := z_add ex_22 hz_i2_3 ti_1 (by omega) (by omega)
        refine lv_iinc (v := x_22) (lv' := [(2, .int (x_22)), (1, .int (v_20)), (3, .null), (0, .ref x)]) X.1 X.2.1 dX11_silkThatGrows_36 hl (k := 2) rfl (by rw [ex_22]; rfl) (by decide) rfl (fun ls hl => ?_)
        refine lv_goto (tgt := 4) X.1 X.2.1 dX11_silkThatGrows_39 (by decide) ?_
        exact ih _ (by omega) _ _ _ (v_20) (v_20.toInt) (x_22) (x_22.toInt) rfl hw rfl rfl (by omega) (lv_sub hl [1, 0, 3] rfl)
      · refine W.eq (g2 := F0 m 17 ls (.ref q_18 :: [])) rfl ?_
        obtain ⟨ha_24, f_25, f_26⟩ := hq_16 _ rfl
        refine lv_astore_n (lv' := [(3, .ref q_18), (1, .int (i1_2)), (2, .int (i2_3)), (0, .ref x)]) X.1 X.2.1 dX11_silkThatGrows_17 rfl hl (by decide) rfl (fun ls hl => ?_)
        refine lv_iload_n X.1 X.2.1 dX11_silkThatGrows_18 rfl (lv_at hl 1 rfl) ?_
        refine lv_aload_n X.1 X.2.1 dX11_silkThatGrows_19 rfl (lv_at hl 0 rfl) ?_
        refine lv_ifnonnull (tgt := 27) X.1 X.2.1 dX11_silkThatGrows_20 (by decide) ?_
        refine lv_aload_n X.1 X.2.1 dX11_silkThatGrows_27 rfl (lv_at hl 0 rfl) ?_
        obtain ⟨q_27, h_28, h_29⟩ := gQ_4_403 hG ha_24
        refine r_getR (g := 403) X hw ha_24 rfl 3 h_28 (by decide) rfl inn_X11_silkThatGrows_4 (by decide) (X.2.2.2.1 (.fieldLink RX11 186 "SilkMill$Pot" "strand" "LSilkMill$Strand;") (by decide +kernel)) rfl (gv_403 _ _) dX11_silkThatGrows_28 ?_
        obtain ⟨v_31, ev_31⟩ : ∃ v, pI S 903 q_27 = v := ⟨_, rfl⟩
        have rg_33 := And.intro (z_lo v_31) (z_hi v_31)
        have pz_34 : (pI S 903 q_27).toInt = v_31.toInt := by rw [ev_31]
        refine r_getI (g := 903) (x := v_31) X hw h_29 rfl 3 ev_31 (by decide) rfl inn_X11_silkThatGrows_9 (by decide) (X.2.2.2.1 (.fieldLink RX11 242 "SilkMill$Strand" "silk" "I") (by decide +kernel)) rfl (gv_903 _ _) dX11_silkThatGrows_31 ?_
        refine lv_iadd X.1 X.2.1 dX11_silkThatGrows_34 ?_
        refine lv_topi (fun v_35 ev_35 => ?_)
        have rg_36 := And.intro (z_lo v_35) (z_hi v_35)
        refine lv_istore_n (lv' := [(1, .int (v_35)), (3, .ref q_18), (2, .int (i2_3)), (0, .ref x)]) X.1 X.2.1 dX11_silkThatGrows_35 rfl hl (by decide) rfl (fun ls hl => ?_)
        obtain ⟨x_37, ex_37⟩ : ∃ y : Int32, y = i2_3 + 1 := ⟨_, rfl⟩
        have z_38 : x_37.toInt = i2_3_z + 1 := z_add ex_37 hz_i2_3 ti_1 (by omega) (by omega)
        refine lv_iinc (v := x_37) (lv' := [(2, .int (x_37)), (1, .int (v_35)), (3, .ref q_18), (0, .ref x)]) X.1 X.2.1 dX11_silkThatGrows_36 hl (k := 2) rfl (by rw [ex_37]; rfl) (by decide) rfl (fun ls hl => ?_)
        refine lv_goto (tgt := 4) X.1 X.2.1 dX11_silkThatGrows_39 (by decide) ?_
        exact ih _ (by omega) _ _ _ (v_35) (v_35.toInt) (x_37) (x_37.toInt) rfl hw rfl rfl (by omega) (lv_sub hl [1, 0, 3] rfl)
  exact L_1 _ _ _ _ (0) (0) (0) (0) rfl hw ti_0 ti_0 (by omega) (lv_sub hl [1, 0, 2] rfl)
set_option maxHeartbeats 4000000 in
set_option maxRecDepth 100000 in
theorem k_X11_cocoon (l : Launch) (G : va_G) (cy : Nat → ClassId) (κ : Nat → Nat) (S : PS) (sz : Nat) (x : Nat) (a1 : Int32) (a1_z : Int) (a2 : Int32) (a2_z : Int) (a3 : Int32) (a3_z : Int) (hG : GX S) (ha_x : At S x 11) (hz_a1 : a1.toInt = a1_z) (hz_a2 : a2.toInt = a2_z) (hz_a3 : a3.toInt = a3_z) : Ci l yX11_cocoon wsX11_cocoon ({ frames := 3, cells := 0, slots := 0, locals := 144 }) G cy κ S sz [.ref x, .int (a1), .int (a2), .int (a3)] (fun (r : Int32) (S9 : PS) => S = S9 ∧ (True)) := by
  refine ent_m (cc := cX11_cocoon) (maxL := 5) (ret := (some .int)) (by decide) rfl (Nat.le_of_ble_eq_true rfl) ?_
  intro p e s m below meth c ls X hr hlocks hin hw hl hsz
  subst hsz
  have X : Cx p c cX11_cocoon 5 s [.ref x, .int (a1), .int (a2), .int (a3)].toArray wsX11_cocoon RX11 m G cy κ (AS S s.heap.size) := X
  have hl : lv_has ls 5 [(0, .ref x), (1, .int (a1)), (2, .int (a2)), (3, .int (a3))] := hl
  have rg_a1 : (-2147483648) ≤ a1_z ∧ a1_z ≤ 2147483647 := by rw [← hz_a1]; exact ⟨z_lo _, z_hi _⟩
  have rg_a2 : (-2147483648) ≤ a2_z ∧ a2_z ≤ 2147483647 := by rw [← hz_a2]; exact ⟨z_lo _, z_hi _⟩
  have rg_a3 : (-2147483648) ≤ a3_z ∧ a3_z ≤ 2147483647 := by rw [← hz_a3]; exact ⟨z_lo _, z_hi _⟩
  refine lv_aload_n X.1 X.2.1 dX11_cocoon_0 rfl (lv_at hl 0 rfl) ?_
  refine lv_iload_n X.1 X.2.1 dX11_cocoon_1 rfl (lv_at hl 1 rfl) ?_
  refine lv_iload_n X.1 X.2.1 dX11_cocoon_2 rfl (lv_at hl 2 rfl) ?_
  refine k_q (rm := { frames := 1, cells := 0, slots := 0, locals := 48 }) (av := [.ref x, .int (a1), .int (a2)]) X hw (va_runV (As := [.int (a1), .int (a2)]) (rest := []) (cfix X) (k_X11_cocoonAt l G cy κ S _ x (a1) (a1_z) (a2) (a2_z) hG ha_x hz_a1 hz_a2) (cwV 2 X.2.2.2.1 gX11_cocoon_X11_cocoonAt rfl rfl rfl (by decide +kernel) ⟨Nat.le_of_ble_eq_true rfl, Nat.le_of_ble_eq_true rfl⟩) (pre_V X hw _ ha_x rfl (by decide) rfl) rfl rfl hl.1 rfl (lv_room (Nat.le_of_ble_eq_true rfl)) dX11_cocoon_3 ⟨Nat.le_of_ble_eq_true rfl, Nat.le_of_ble_eq_true rfl⟩) 0 0 (Nat.le_of_ble_eq_true rfl) (Nat.le_of_ble_eq_true rfl) (fun rr_1 S_2 H locs hp hw hfr hnw => ?_)
  obtain ⟨e2, hp⟩ := hp
  subst e2
  have hq_3 := hp
  rcases rr_1 with _ | q_4
  · refine W.eq (g2 := F0 m 6 ls (.null :: [])) rfl ?_
    refine lv_astoreN (lv' := [(4, .null), (0, .ref x), (1, .int (a1)), (2, .int (a2)), (3, .int (a3))]) X.1 X.2.1 dX11_cocoon_6 hl (by decide) rfl (fun ls hl => ?_)
    refine lv_aloadN X.1 X.2.1 dX11_cocoon_8 (lv_at hl 0 rfl) ?_
    refine lv_ifnonnullN X.1 X.2.1 dX11_cocoon_10 ?_
    refine lv_iconst (v := (-1)) X.1 X.2.1 dX11_cocoon_13 (by decide) ?_
    exact ret_i X hw hr hlocks (Nat.le_of_ble_eq_true rfl) (Nat.le_of_ble_eq_true rfl) ⟨rfl, trivial⟩ dX11_cocoon_14
  · refine W.eq (g2 := F0 m 6 ls (.ref q_4 :: [])) rfl ?_
    have ha_5 : At S q_4 0 := hq_3 _ rfl
    refine lv_astore (lv' := [(4, .ref q_4), (0, .ref x), (1, .int (a1)), (2, .int (a2)), (3, .int (a3))]) X.1 X.2.1 dX11_cocoon_6 hl (by decide) rfl (fun ls hl => ?_)
    refine lv_aload X.1 X.2.1 dX11_cocoon_8 (lv_at hl 0 rfl) ?_
    refine lv_ifnonnull (tgt := 15) X.1 X.2.1 dX11_cocoon_10 (by decide) ?_
    refine lv_iload_n X.1 X.2.1 dX11_cocoon_15 rfl (lv_at hl 4 rfl) ?_
    by_cases w_6 : (a3).toInt < 0 ∨ 6 < (a3).toInt
    · refine lv_tableOut (tgt := 131) X.1 X.2.1 dX11_cocoon_16 w_6 (by decide) ?_
      refine lv_iconst (v := (-1)) X.1 X.2.1 dX11_cocoon_131 (by decide) ?_
      exact ret_i X hw hr hlocks (Nat.le_of_ble_eq_true rfl) (Nat.le_of_ble_eq_true rfl) ⟨rfl, trivial⟩ dX11_cocoon_132
    have w_6b : (a3).toInt = 0 ∨ (a3).toInt = 1 ∨ (a3).toInt = 2 ∨ (a3).toInt = 3 ∨ (a3).toInt = 4 ∨ (a3).toInt = 5 ∨ (a3).toInt = 6 := by omega
    rcases w_6b with w_6c | w_6c | w_6c | w_6c | w_6c | w_6c | w_6c
    · refine lv_tableIn (tgt := 60) X.1 X.2.1 dX11_cocoon_16 (by omega) (by omega) (by rw [w_6c]; rfl) (by decide) ?_
      refine lv_aload X.1 X.2.1 dX11_cocoon_60 (lv_at hl 0 rfl) ?_
      obtain ⟨v_7, ev_7⟩ : ∃ v, pI S 2 q_4 = v := ⟨_, rfl⟩
      have rg_8 := gI_0_2 hG ha_5; rw [ev_7] at rg_8
      refine r_getI (g := 2) (x := v_7) X hw ha_5 rfl 2 ev_7 (by decide) rfl inn_X11_cocoon_0 (by decide) (X.2.2.2.1 (.fieldLink RX11 78 "SilkMill$Cocoon" "length" "I") (by decide +kernel)) rfl (gv_2 _ _) dX11_cocoon_62 ?_
      exact ret_i X hw hr hlocks (Nat.le_of_ble_eq_true rfl) (Nat.le_of_ble_eq_true rfl) ⟨rfl, trivial⟩ dX11_cocoon_65
    · refine lv_tableIn (tgt := 66) X.1 X.2.1 dX11_cocoon_16 (by omega) (by omega) (by rw [w_6c]; rfl) (by decide) ?_
      refine lv_aload X.1 X.2.1 dX11_cocoon_66 (lv_at hl 0 rfl) ?_
      obtain ⟨v_9, ev_9⟩ : ∃ v, pI S 3 q_4 = v := ⟨_, rfl⟩
      have rg_11 := And.intro (z_lo v_9) (z_hi v_9)
      refine r_getI (g := 3) (x := v_9) X hw ha_5 rfl 3 ev_9 (by decide) rfl inn_X11_cocoon_0 (by decide) (X.2.2.2.1 (.fieldLink RX11 81 "SilkMill$Cocoon" "stand" "I") (by decide +kernel)) rfl (gv_3 _ _) dX11_cocoon_68 ?_
      exact ret_i X hw hr hlocks (Nat.le_of_ble_eq_true rfl) (Nat.le_of_ble_eq_true rfl) ⟨rfl, trivial⟩ dX11_cocoon_71
    · refine lv_tableIn (tgt := 72) X.1 X.2.1 dX11_cocoon_16 (by omega) (by omega) (by rw [w_6c]; rfl) (by decide) ?_
      refine lv_aload X.1 X.2.1 dX11_cocoon_72 (lv_at hl 0 rfl) ?_
      obtain ⟨v_12, ev_12⟩ : ∃ v, pI S 4 q_4 = v := ⟨_, rfl⟩
      have rg_14 := And.intro (z_lo v_12) (z_hi v_12)
      refine r_getI (g := 4) (x := v_12) X hw ha_5 rfl 4 ev_12 (by decide) rfl inn_X11_cocoon_0 (by decide) (X.2.2.2.1 (.fieldLink RX11 84 "SilkMill$Cocoon" "drawnTo" "I") (by decide +kernel)) rfl (gv_4 _ _) dX11_cocoon_74 ?_
      exact ret_i X hw hr hlocks (Nat.le_of_ble_eq_true rfl) (Nat.le_of_ble_eq_true rfl) ⟨rfl, trivial⟩ dX11_cocoon_77
    · refine lv_tableIn (tgt := 78) X.1 X.2.1 dX11_cocoon_16 (by omega) (by omega) (by rw [w_6c]; rfl) (by decide) ?_
      refine lv_aload X.1 X.2.1 dX11_cocoon_78 (lv_at hl 0 rfl) ?_
      refine lv_aload X.1 X.2.1 dX11_cocoon_80 (lv_at hl 0 rfl) ?_
      obtain ⟨v_15, ev_15⟩ : ∃ v, pI S 4 q_4 = v := ⟨_, rfl⟩
      have rg_17 := And.intro (z_lo v_15) (z_hi v_15)
      refine r_getI (g := 4) (x := v_15) X hw ha_5 rfl 4 ev_15 (by decide) rfl inn_X11_cocoon_0 (by decide) (X.2.2.2.1 (.fieldLink RX11 84 "SilkMill$Cocoon" "drawnTo" "I") (by decide +kernel)) rfl (gv_4 _ _) dX11_cocoon_82 ?_
      refine k_i (rm := { frames := 1, cells := 0, slots := 0, locals := 48 }) (av := [.ref q_4, .int (v_15)]) X hw (va_runV (As := [.int (v_15)]) (rest := []) (cfix X) (k_X0_finenessAt l G cy κ S _ q_4 (v_15) (v_15.toInt) hG ha_5 rfl) (cwV 1 X.2.2.2.1 gX11_cocoon_X0_finenessAt rfl rfl rfl (by decide +kernel) ⟨Nat.le_of_ble_eq_true rfl, Nat.le_of_ble_eq_true rfl⟩) (pre_V X hw _ ha_5 rfl (by decide) rfl) rfl rfl hl.1 rfl (lv_room (Nat.le_of_ble_eq_true rfl)) dX11_cocoon_85 ⟨Nat.le_of_ble_eq_true rfl, Nat.le_of_ble_eq_true rfl⟩) 0 0 (Nat.le_of_ble_eq_true rfl) (Nat.le_of_ble_eq_true rfl) (fun rr_18 S_19 H locs hp hw hfr hnw => ?_)
      obtain ⟨e2, hp⟩ := hp
      subst e2
      have rg_20 := And.intro (z_lo rr_18) (z_hi rr_18)
      exact ret_i X hw hr hlocks (Nat.le_of_ble_eq_true rfl) (Nat.le_of_ble_eq_true rfl) ⟨rfl, trivial⟩ dX11_cocoon_88
    · refine lv_tableIn (tgt := 89) X.1 X.2.1 dX11_cocoon_16 (by omega) (by omega) (by rw [w_6c]; rfl) (by decide) ?_
      refine lv_aload X.1 X.2.1 dX11_cocoon_89 (lv_at hl 0 rfl) ?_
      refine lv_iconst (v := 0) X.1 X.2.1 dX11_cocoon_91 (by decide) ?_
      refine lv_aload X.1 X.2.1 dX11_cocoon_92 (lv_at hl 0 rfl) ?_
      obtain ⟨v_21, ev_21⟩ : ∃ v, pI S 2 q_4 = v := ⟨_, rfl⟩
      have rg_22 := gI_0_2 hG ha_5; rw [ev_21] at rg_22
      refine r_getI (g := 2) (x := v_21) X hw ha_5 rfl 2 ev_21 (by decide) rfl inn_X11_cocoon_0 (by decide) (X.2.2.2.1 (.fieldLink RX11 78 "SilkMill$Cocoon" "length" "I") (by decide +kernel)) rfl (gv_2 _ _) dX11_cocoon_94 ?_
      refine k_i (rm := { frames := 2, cells := 0, slots := 0, locals := 96 }) (av := [.ref q_4, .int 0, .int (v_21)]) X hw (va_runV (As := [.int 0, .int (v_21)]) (rest := []) (cfix X) (k_X0_silkBetween l G cy κ S _ q_4 (0) (0) (v_21) (v_21.toInt) hG ha_5 ti_0 rfl) (cwV 2 X.2.2.2.1 gX11_cocoon_X0_silkBetween rfl rfl rfl (by decide +kernel) ⟨Nat.le_of_ble_eq_true rfl, Nat.le_of_ble_eq_true rfl⟩) (pre_V X hw _ ha_5 rfl (by decide) rfl) rfl rfl hl.1 rfl (lv_room (Nat.le_of_ble_eq_true rfl)) dX11_cocoon_97 ⟨Nat.le_of_ble_eq_true rfl, Nat.le_of_ble_eq_true rfl⟩) 0 0 (Nat.le_of_ble_eq_true rfl) (Nat.le_of_ble_eq_true rfl) (fun rr_23 S_24 H locs hp hw hfr hnw => ?_)
      obtain ⟨e2, hp⟩ := hp
      subst e2
      have rg_25 := And.intro (z_lo rr_23) (z_hi rr_23)
      exact ret_i X hw hr hlocks (Nat.le_of_ble_eq_true rfl) (Nat.le_of_ble_eq_true rfl) ⟨rfl, trivial⟩ dX11_cocoon_100
    · refine lv_tableIn (tgt := 101) X.1 X.2.1 dX11_cocoon_16 (by omega) (by omega) (by rw [w_6c]; rfl) (by decide) ?_
      refine lv_aload X.1 X.2.1 dX11_cocoon_101 (lv_at hl 0 rfl) ?_
      refine lv_iconst (v := 0) X.1 X.2.1 dX11_cocoon_103 (by decide) ?_
      refine lv_aload X.1 X.2.1 dX11_cocoon_104 (lv_at hl 0 rfl) ?_
      obtain ⟨v_26, ev_26⟩ : ∃ v, pI S 4 q_4 = v := ⟨_, rfl⟩
      have rg_28 := And.intro (z_lo v_26) (z_hi v_26)
      refine r_getI (g := 4) (x := v_26) X hw ha_5 rfl 4 ev_26 (by decide) rfl inn_X11_cocoon_0 (by decide) (X.2.2.2.1 (.fieldLink RX11 84 "SilkMill$Cocoon" "drawnTo" "I") (by decide +kernel)) rfl (gv_4 _ _) dX11_cocoon_106 ?_
      refine k_i (rm := { frames := 2, cells := 0, slots := 0, locals := 96 }) (av := [.ref q_4, .int 0, .int (v_26)]) X hw (va_runV (As := [.int 0, .int (v_26)]) (rest := []) (cfix X) (k_X0_silkBetween l G cy κ S _ q_4 (0) (0) (v_26) (v_26.toInt) hG ha_5 ti_0 rfl) (cwV 2 X.2.2.2.1 gX11_cocoon_X0_silkBetween rfl rfl rfl (by decide +kernel) ⟨Nat.le_of_ble_eq_true rfl, Nat.le_of_ble_eq_true rfl⟩) (pre_V X hw _ ha_5 rfl (by decide) rfl) rfl rfl hl.1 rfl (lv_room (Nat.le_of_ble_eq_true rfl)) dX11_cocoon_109 ⟨Nat.le_of_ble_eq_true rfl, Nat.le_of_ble_eq_true rfl⟩) 0 0 (Nat.le_of_ble_eq_true rfl) (Nat.le_of_ble_eq_true rfl) (fun rr_29 S_30 H locs hp hw hfr hnw => ?_)
      obtain ⟨e2, hp⟩ := hp
      subst e2
      have rg_31 := And.intro (z_lo rr_29) (z_hi rr_29)
      exact ret_i X hw hr hlocks (Nat.le_of_ble_eq_true rfl) (Nat.le_of_ble_eq_true rfl) ⟨rfl, trivial⟩ dX11_cocoon_112
    · refine lv_tableIn (tgt := 113) X.1 X.2.1 dX11_cocoon_16 (by omega) (by omega) (by rw [w_6c]; rfl) (by decide) ?_
      refine lv_aload X.1 X.2.1 dX11_cocoon_113 (lv_at hl 0 rfl) ?_
      refine k_i (rm := { frames := 1, cells := 0, slots := 0, locals := 48 }) (av := [.ref q_4]) X hw (va_runV (As := []) (rest := []) (cfix X) (k_X0_isInPot l G cy κ S _ q_4 hG ha_5) (cwV 0 X.2.2.2.1 gX11_cocoon_X0_isInPot rfl rfl rfl (by decide +kernel) ⟨Nat.le_of_ble_eq_true rfl, Nat.le_of_ble_eq_true rfl⟩) (pre_V X hw _ ha_5 rfl (by decide) rfl) rfl rfl hl.1 rfl (lv_room (Nat.le_of_ble_eq_true rfl)) dX11_cocoon_115 ⟨Nat.le_of_ble_eq_true rfl, Nat.le_of_ble_eq_true rfl⟩) 0 0 (Nat.le_of_ble_eq_true rfl) (Nat.le_of_ble_eq_true rfl) (fun rr_32 S_33 H locs hp hw hfr hnw => ?_)
      obtain ⟨e2, hp⟩ := hp
      subst e2
      rcases hp with ⟨f_34, er_35⟩ | ⟨f_34, er_35⟩ <;> subst er_35
      · have z_b_36 := trivial
        refine lv_if_eq (tgt := 129) X.1 X.2.1 dX11_cocoon_118 (by decide) (fun c_37 => absurd c_37 (by decide)) (fun c_37 => ?_)
        refine lv_aload X.1 X.2.1 dX11_cocoon_121 (lv_at hl 0 rfl) ?_
        obtain ⟨v_38, ev_38⟩ : ∃ v, pI S 5 q_4 = v := ⟨_, rfl⟩
        have rg_40 := And.intro (z_lo v_38) (z_hi v_38)
        refine r_getI (g := 5) (x := v_38) X hw ha_5 rfl 5 ev_38 (by decide) rfl inn_X11_cocoon_0 (by decide) (X.2.2.2.1 (.fieldLink RX11 99 "SilkMill$Cocoon" "potNumber" "I") (by decide +kernel)) rfl (gv_5 _ _) dX11_cocoon_123 ?_
        refine lv_goto (tgt := 130) X.1 X.2.1 dX11_cocoon_126 (by decide) ?_
        exact ret_i X hw hr hlocks (Nat.le_of_ble_eq_true rfl) (Nat.le_of_ble_eq_true rfl) ⟨rfl, trivial⟩ dX11_cocoon_130
      · have z_b_41 := trivial
        refine lv_if_eq (tgt := 129) X.1 X.2.1 dX11_cocoon_118 (by decide) (fun c_42 => ?_) (fun c_42 => absurd c_42 (by decide))
        refine lv_iconst (v := (-1)) X.1 X.2.1 dX11_cocoon_129 (by decide) ?_
        exact ret_i X hw hr hlocks (Nat.le_of_ble_eq_true rfl) (Nat.le_of_ble_eq_true rfl) ⟨rfl, trivial⟩ dX11_cocoon_130
set_option maxHeartbeats 4000000 in
set_option maxRecDepth 100000 in
theorem k_X11_end (l : Launch) (G : va_G) (cy : Nat → ClassId) (κ : Nat → Nat) (S : PS) (sz : Nat) (x : Nat) (a1 : Int32) (a1_z : Int) (hG : GX S) (ha_x : At S x 11) (hz_a1 : a1.toInt = a1_z) : Ci l yX11_end wsX11_end ({ frames := 1, cells := 0, slots := 0, locals := 48 }) G cy κ S sz [.ref x, .int (a1)] (fun (r : Int32) (S9 : PS) => Ok eEN S S9 ∧ (-2147483648 ≤ r.toInt ∧ r.toInt ≤ 2147483647 ∧ (∀ q0, pR S 1105 x = some q0 → ((0 ≤ a1_z ∧ a1_z ≤ (pI S 1000 q0).toInt ∧ r.toInt = a1_z ∧ (pI S9 1000 q0).toInt = a1_z) ∨ (¬ (0 ≤ a1_z ∧ a1_z ≤ (pI S 1000 q0).toInt) ∧ r.toInt = -1 ∧ (pI S9 1000 q0).toInt = (pI S 1000 q0).toInt))))) := by
  refine ent_m (cc := cX11_end) (maxL := 2) (ret := (some .int)) (by decide) rfl (Nat.le_of_ble_eq_true rfl) ?_
  intro p e s m below meth c ls X hr hlocks hin hw hl hsz
  subst hsz
  have X : Cx p c cX11_end 2 s [.ref x, .int (a1)].toArray wsX11_end RX11 m G cy κ (AS S s.heap.size) := X
  have hl : lv_has ls 2 [(0, .ref x), (1, .int (a1))] := hl
  have rg_a1 : (-2147483648) ≤ a1_z ∧ a1_z ≤ 2147483647 := by rw [← hz_a1]; exact ⟨z_lo _, z_hi _⟩
  have hO : Ok eEN S S := Ok.rf hG
  obtain ⟨q_1, h_2, h_3⟩ := gQ_11_1105 hO.1 ha_x
  obtain ⟨v_5, ev_5⟩ : ∃ v, pI S 1000 q_1 = v := ⟨_, rfl⟩
  have rg_6 := gI_10_1000 hO.1 h_3; rw [ev_5] at rg_6
  have pz_7 : (pI S 1000 q_1).toInt = v_5.toInt := by rw [ev_5]
  have pz_8 : (pI S 1000 q_1).toInt = v_5.toInt := (congrArg Int32.toInt ev_5).trans rfl
  refine lv_iload_n X.1 X.2.1 dX11_end_0 rfl (lv_at hl 1 rfl) ?_
  refine lv_if_lt (tgt := 15) X.1 X.2.1 dX11_end_1 (by decide) (fun c_9 => ?_) (fun c_9 => ?_)
  · have z_b_10 := trivial
    have k_11 : a1_z < 0 := z_lt hz_a1 ti_0 c_9
    refine lv_iconst (v := (-1)) X.1 X.2.1 dX11_end_15 (by decide) ?_
    have pz_12 : (pI S 1000 q_1).toInt = v_5.toInt := (congrArg Int32.toInt ev_5).trans rfl
    exact ret_i X hw hr hlocks (Nat.le_of_ble_eq_true rfl) (Nat.le_of_ble_eq_true rfl) ⟨hO, ⟨z_lo _, z_hi _, fun q0 hq0 => by rw [h_2] at hq0; cases hq0; have hzr := ti_m1; omega⟩⟩ dX11_end_16
  · have z_b_13 := trivial
    have k_14 : a1_z ≥ 0 := z_nlt hz_a1 ti_0 c_9
    refine lv_iload_n X.1 X.2.1 dX11_end_4 rfl (lv_at hl 1 rfl) ?_
    refine lv_aload_n X.1 X.2.1 dX11_end_5 rfl (lv_at hl 0 rfl) ?_
    refine r_getR (g := 1105) X hw ha_x rfl 5 h_2 (by decide) rfl inn_X11_end_11 (by decide) (X.2.2.2.1 (.fieldLink RX11 28 "SilkMill" "tape" "LSilkMill$Tape;") (by decide +kernel)) rfl (gv_1105 _ _) dX11_end_6 ?_
    refine r_getI (g := 1000) (x := v_5) X hw h_3 rfl 0 ev_5 (by decide) rfl inn_X11_end_10 (by decide) (X.2.2.2.1 (.fieldLink RX11 145 "SilkMill$Tape" "size" "I") (by decide +kernel)) rfl (gv_1000 _ _) dX11_end_9 ?_
    refine lv_icmp_le (tgt := 17) X.1 X.2.1 dX11_end_12 (by decide) (fun c_15 => ?_) (fun c_15 => ?_)
    · have z_b_16 := trivial
      have k_17 : a1_z ≤ v_5.toInt := z_le hz_a1 rfl c_15
      refine lv_aload_n X.1 X.2.1 dX11_end_17 rfl (lv_at hl 0 rfl) ?_
      refine r_getR (g := 1105) X hw ha_x rfl 5 h_2 (by decide) rfl inn_X11_end_11 (by decide) (X.2.2.2.1 (.fieldLink RX11 28 "SilkMill" "tape" "LSilkMill$Tape;") (by decide +kernel)) rfl (gv_1105 _ _) dX11_end_18 ?_
      refine lv_iload_n X.1 X.2.1 dX11_end_21 rfl (lv_at hl 1 rfl) ?_
      refine r_putI (v := a1) X hw h_3 rfl 0 1000 tyX10 (by decide) rfl inn_X11_end_10 tyX10_ok nmX10 (by decide) (X.2.2.2.1 (.fieldLink RX11 145 "SilkMill$Tape" "size" "I") (by decide +kernel)) rfl (Or.inl rfl) rfl rfl (Nat.le_of_ble_eq_true rfl) (st_1000 _ _) dX11_end_22 (fun H locs hw => ?_)
      obtain ⟨S_18, eS_18⟩ : ∃ T, T = sI S 1000 q_1 (a1) := ⟨_, rfl⟩
      rw [← eS_18] at hw
      have hO_19 : Ok eEN S S_18 := hO.sI eS_18 (by decide +kernel) (uI_10_1000 hO.1 h_3 (by omega) (by omega))
      have h_20 : pI S_18 1000 q_1 = a1 := tI_sIs eS_18
      refine lv_iload_n X.1 X.2.1 dX11_end_25 rfl (lv_at hl 1 rfl) ?_
      have pz_21 : (pI S_18 1000 q_1).toInt = a1_z := (congrArg Int32.toInt h_20).trans hz_a1
      exact ret_i X hw hr hlocks (Nat.le_of_ble_eq_true rfl) (Nat.le_of_ble_eq_true rfl) ⟨hO_19, ⟨z_lo _, z_hi _, fun q0 hq0 => by rw [h_2] at hq0; cases hq0; have hzr := hz_a1; omega⟩⟩ dX11_end_26
    · have z_b_22 := trivial
      have k_23 : a1_z > v_5.toInt := z_nle hz_a1 rfl c_15
      refine lv_iconst (v := (-1)) X.1 X.2.1 dX11_end_15 (by decide) ?_
      have pz_24 : (pI S 1000 q_1).toInt = v_5.toInt := (congrArg Int32.toInt ev_5).trans rfl
      exact ret_i X hw hr hlocks (Nat.le_of_ble_eq_true rfl) (Nat.le_of_ble_eq_true rfl) ⟨hO, ⟨z_lo _, z_hi _, fun q0 hq0 => by rw [h_2] at hq0; cases hq0; have hzr := ti_m1; omega⟩⟩ dX11_end_16
set_option maxHeartbeats 4000000 in
set_option maxRecDepth 100000 in
theorem k_X11_place (l : Launch) (G : va_G) (cy : Nat → ClassId) (κ : Nat → Nat) (S : PS) (sz : Nat) (x : Nat) (hG : GX S) (ha_x : At S x 11) : Ci l yX11_place wsX11_place ({ frames := 1, cells := 0, slots := 0, locals := 48 }) G cy κ S sz [.ref x] (fun (r : Int32) (S9 : PS) => S = S9 ∧ (True)) := by
  refine ent_m (cc := cX11_place) (maxL := 1) (ret := (some .int)) (by decide) rfl (Nat.le_of_ble_eq_true rfl) ?_
  intro p e s m below meth c ls X hr hlocks hin hw hl hsz
  subst hsz
  have X : Cx p c cX11_place 1 s [.ref x].toArray wsX11_place RX11 m G cy κ (AS S s.heap.size) := X
  have hl : lv_has ls 1 [(0, .ref x)] := hl
  refine lv_aload_n X.1 X.2.1 dX11_place_0 rfl (lv_at hl 0 rfl) ?_
  obtain ⟨q_1, h_2, h_3⟩ := gQ_11_1105 hG ha_x
  refine r_getR (g := 1105) X hw ha_x rfl 5 h_2 (by decide) rfl inn_X11_place_11 (by decide) (X.2.2.2.1 (.fieldLink RX11 28 "SilkMill" "tape" "LSilkMill$Tape;") (by decide +kernel)) rfl (gv_1105 _ _) dX11_place_1 ?_
  obtain ⟨v_5, ev_5⟩ : ∃ v, pI S 1002 q_1 = v := ⟨_, rfl⟩
  have rg_7 := And.intro (z_lo v_5) (z_hi v_5)
  refine r_getI (g := 1002) (x := v_5) X hw h_3 rfl 2 ev_5 (by decide) rfl inn_X11_place_10 (by decide) (X.2.2.2.1 (.fieldLink RX11 166 "SilkMill$Tape" "faultPlace" "I") (by decide +kernel)) rfl (gv_1002 _ _) dX11_place_4 ?_
  exact ret_i X hw hr hlocks (Nat.le_of_ble_eq_true rfl) (Nat.le_of_ble_eq_true rfl) ⟨rfl, trivial⟩ dX11_place_7
set_option maxHeartbeats 4000000 in
set_option maxRecDepth 100000 in
theorem k_X11_about (l : Launch) (G : va_G) (cy : Nat → ClassId) (κ : Nat → Nat) (S : PS) (sz : Nat) (x : Nat) (a1 : Int32) (a1_z : Int) (a2 : Int32) (a2_z : Int) (hG : GX S) (ha_x : At S x 11) (hz_a1 : a1.toInt = a1_z) (hz_a2 : a2.toInt = a2_z) : Ci l yX11_about wsX11_about ({ frames := 4, cells := 0, slots := 0, locals := 192 }) G cy κ S sz [.ref x, .int (a1), .int (a2)] (fun (r : Int32) (S9 : PS) => S = S9 ∧ (True)) := by
  refine ent_m (cc := cX11_about) (maxL := 4) (ret := (some .int)) (by decide) rfl (Nat.le_of_ble_eq_true rfl) ?_
  intro p e s m below meth c ls X hr hlocks hin hw hl hsz
  subst hsz
  have X : Cx p c cX11_about 4 s [.ref x, .int (a1), .int (a2)].toArray wsX11_about RX11 m G cy κ (AS S s.heap.size) := X
  have hl : lv_has ls 4 [(0, .ref x), (1, .int (a1)), (2, .int (a2))] := hl
  have rg_a1 : (-2147483648) ≤ a1_z ∧ a1_z ≤ 2147483647 := by rw [← hz_a1]; exact ⟨z_lo _, z_hi _⟩
  have rg_a2 : (-2147483648) ≤ a2_z ∧ a2_z ≤ 2147483647 := by rw [← hz_a2]; exact ⟨z_lo _, z_hi _⟩
  refine lv_aload_n X.1 X.2.1 dX11_about_0 rfl (lv_at hl 0 rfl) ?_
  refine lv_iload_n X.1 X.2.1 dX11_about_1 rfl (lv_at hl 1 rfl) ?_
  refine k_q (rm := { frames := 1, cells := 0, slots := 0, locals := 48 }) (av := [.ref x, .int (a1)]) X hw (va_runV (As := [.int (a1)]) (rest := []) (cfix X) (k_X11_potAt l G cy κ S _ x (a1) (a1_z) hG ha_x hz_a1) (cwV 1 X.2.2.2.1 gX11_about_X11_potAt rfl rfl rfl (by decide +kernel) ⟨Nat.le_of_ble_eq_true rfl, Nat.le_of_ble_eq_true rfl⟩) (pre_V X hw _ ha_x rfl (by decide) rfl) rfl rfl hl.1 rfl (lv_room (Nat.le_of_ble_eq_true rfl)) dX11_about_2 ⟨Nat.le_of_ble_eq_true rfl, Nat.le_of_ble_eq_true rfl⟩) 0 0 (Nat.le_of_ble_eq_true rfl) (Nat.le_of_ble_eq_true rfl) (fun rr_1 S_2 H locs hp hw hfr hnw => ?_)
  obtain ⟨e2, hp⟩ := hp
  subst e2
  obtain ⟨hq_3, hnf_4⟩ := hp
  rcases rr_1 with _ | q_5
  · refine W.eq (g2 := F0 m 5 ls (.null :: [])) rfl ?_
    have nf_6 := hnf_4 rfl
    refine lv_astore_nN (lv' := [(3, .null), (0, .ref x), (1, .int (a1)), (2, .int (a2))]) X.1 X.2.1 dX11_about_5 rfl hl (by decide) rfl (fun ls hl => ?_)
    refine lv_aload_nN X.1 X.2.1 dX11_about_6 rfl (lv_at hl 0 rfl) ?_
    refine lv_ifnonnullN X.1 X.2.1 dX11_about_7 ?_
    refine lv_iconst (v := (-1)) X.1 X.2.1 dX11_about_10 (by decide) ?_
    exact ret_i X hw hr hlocks (Nat.le_of_ble_eq_true rfl) (Nat.le_of_ble_eq_true rfl) ⟨rfl, trivial⟩ dX11_about_11
  · refine W.eq (g2 := F0 m 5 ls (.ref q_5 :: [])) rfl ?_
    obtain ⟨ha_7, f_8, f_9⟩ := hq_3 _ rfl
    refine lv_astore_n (lv' := [(3, .ref q_5), (0, .ref x), (1, .int (a1)), (2, .int (a2))]) X.1 X.2.1 dX11_about_5 rfl hl (by decide) rfl (fun ls hl => ?_)
    refine lv_aload_n X.1 X.2.1 dX11_about_6 rfl (lv_at hl 0 rfl) ?_
    refine lv_ifnonnull (tgt := 12) X.1 X.2.1 dX11_about_7 (by decide) ?_
    refine lv_iload_n X.1 X.2.1 dX11_about_12 rfl (lv_at hl 3 rfl) ?_
    by_cases w_10 : (a2).toInt < 0 ∨ 10 < (a2).toInt
    · refine lv_tableOut (tgt := 145) X.1 X.2.1 dX11_about_13 w_10 (by decide) ?_
      refine lv_iconst (v := (-1)) X.1 X.2.1 dX11_about_145 (by decide) ?_
      exact ret_i X hw hr hlocks (Nat.le_of_ble_eq_true rfl) (Nat.le_of_ble_eq_true rfl) ⟨rfl, trivial⟩ dX11_about_146
    have w_10b : (a2).toInt = 0 ∨ (a2).toInt = 1 ∨ (a2).toInt = 2 ∨ (a2).toInt = 3 ∨ (a2).toInt = 4 ∨ (a2).toInt = 5 ∨ (a2).toInt = 6 ∨ (a2).toInt = 7 ∨ (a2).toInt = 8 ∨ (a2).toInt = 9 ∨ (a2).toInt = 10 := by omega
    rcases w_10b with w_10c | w_10c | w_10c | w_10c | w_10c | w_10c | w_10c | w_10c | w_10c | w_10c | w_10c
    · refine lv_tableIn (tgt := 72) X.1 X.2.1 dX11_about_13 (by omega) (by omega) (by rw [w_10c]; rfl) (by decide) ?_
      refine lv_aload_n X.1 X.2.1 dX11_about_72 rfl (lv_at hl 0 rfl) ?_
      obtain ⟨q_11, h_12, h_13⟩ := gQ_4_400 hG ha_7
      refine r_getR (g := 400) X hw ha_7 rfl 0 h_12 (by decide) rfl inn_X11_about_4 (by decide) (X.2.2.2.1 (.fieldLink RX11 173 "SilkMill$Pot" "basket" "LSilkMill$Row;") (by decide +kernel)) rfl (gv_400 _ _) dX11_about_73 ?_
      obtain ⟨v_15, ev_15⟩ : ∃ v, pI S 500 q_11 = v := ⟨_, rfl⟩
      obtain ⟨q_17, n_18, h_19, h_20, h_21, h_22, h_23⟩ := gRowQ hG h_13
      have rg_16 := gRow_500 hG h_13 h_19 h_21; rw [ev_15] at rg_16
      have pz_24 : (pI S 500 q_11).toInt = v_15.toInt := by rw [ev_15]
      refine r_getI (g := 500) (x := v_15) X hw h_13 rfl 0 ev_15 (by decide) rfl inn_X11_about_5 (by decide) (X.2.2.2.1 (.fieldLink RX11 177 "SilkMill$Row" "size" "I") (by decide +kernel)) rfl (gv_500 _ _) dX11_about_76 ?_
      exact ret_i X hw hr hlocks (Nat.le_of_ble_eq_true rfl) (Nat.le_of_ble_eq_true rfl) ⟨rfl, trivial⟩ dX11_about_79
    · refine lv_tableIn (tgt := 80) X.1 X.2.1 dX11_about_13 (by omega) (by omega) (by rw [w_10c]; rfl) (by decide) ?_
      refine lv_aload_n X.1 X.2.1 dX11_about_80 rfl (lv_at hl 0 rfl) ?_
      obtain ⟨q_25, h_26, h_27⟩ := gQ_4_401 hG ha_7
      refine r_getR (g := 401) X hw ha_7 rfl 1 h_26 (by decide) rfl inn_X11_about_4 (by decide) (X.2.2.2.1 (.fieldLink RX11 180 "SilkMill$Pot" "ends" "LSilkMill$Row;") (by decide +kernel)) rfl (gv_401 _ _) dX11_about_81 ?_
      obtain ⟨v_29, ev_29⟩ : ∃ v, pI S 500 q_25 = v := ⟨_, rfl⟩
      obtain ⟨q_31, n_32, h_33, h_34, h_35, h_36, h_37⟩ := gRowQ hG h_27
      have rg_30 := gRow_500 hG h_27 h_33 h_35; rw [ev_29] at rg_30
      have pz_38 : (pI S 500 q_25).toInt = v_29.toInt := by rw [ev_29]
      refine r_getI (g := 500) (x := v_29) X hw h_27 rfl 0 ev_29 (by decide) rfl inn_X11_about_5 (by decide) (X.2.2.2.1 (.fieldLink RX11 177 "SilkMill$Row" "size" "I") (by decide +kernel)) rfl (gv_500 _ _) dX11_about_84 ?_
      exact ret_i X hw hr hlocks (Nat.le_of_ble_eq_true rfl) (Nat.le_of_ble_eq_true rfl) ⟨rfl, trivial⟩ dX11_about_87
    · refine lv_tableIn (tgt := 88) X.1 X.2.1 dX11_about_13 (by omega) (by omega) (by rw [w_10c]; rfl) (by decide) ?_
      refine lv_aload_n X.1 X.2.1 dX11_about_88 rfl (lv_at hl 0 rfl) ?_
      obtain ⟨q_39, h_40, h_41⟩ := gQ_4_402 hG ha_7
      refine r_getR (g := 402) X hw ha_7 rfl 2 h_40 (by decide) rfl inn_X11_about_4 (by decide) (X.2.2.2.1 (.fieldLink RX11 183 "SilkMill$Pot" "lost" "LSilkMill$Row;") (by decide +kernel)) rfl (gv_402 _ _) dX11_about_89 ?_
      obtain ⟨v_43, ev_43⟩ : ∃ v, pI S 500 q_39 = v := ⟨_, rfl⟩
      obtain ⟨q_45, n_46, h_47, h_48, h_49, h_50, h_51⟩ := gRowQ hG h_41
      have rg_44 := gRow_500 hG h_41 h_47 h_49; rw [ev_43] at rg_44
      have pz_52 : (pI S 500 q_39).toInt = v_43.toInt := by rw [ev_43]
      refine r_getI (g := 500) (x := v_43) X hw h_41 rfl 0 ev_43 (by decide) rfl inn_X11_about_5 (by decide) (X.2.2.2.1 (.fieldLink RX11 177 "SilkMill$Row" "size" "I") (by decide +kernel)) rfl (gv_500 _ _) dX11_about_92 ?_
      exact ret_i X hw hr hlocks (Nat.le_of_ble_eq_true rfl) (Nat.le_of_ble_eq_true rfl) ⟨rfl, trivial⟩ dX11_about_95
    · refine lv_tableIn (tgt := 96) X.1 X.2.1 dX11_about_13 (by omega) (by omega) (by rw [w_10c]; rfl) (by decide) ?_
      refine lv_aload_n X.1 X.2.1 dX11_about_96 rfl (lv_at hl 0 rfl) ?_
      obtain ⟨q_53, h_54, h_55⟩ := gQ_4_403 hG ha_7
      refine r_getR (g := 403) X hw ha_7 rfl 3 h_54 (by decide) rfl inn_X11_about_4 (by decide) (X.2.2.2.1 (.fieldLink RX11 186 "SilkMill$Pot" "strand" "LSilkMill$Strand;") (by decide +kernel)) rfl (gv_403 _ _) dX11_about_97 ?_
      obtain ⟨v_57, ev_57⟩ : ∃ v, pI S 902 q_53 = v := ⟨_, rfl⟩
      have rg_58 := gI_29_902 hG h_55; rw [ev_57] at rg_58
      have pz_59 : (pI S 902 q_53).toInt = v_57.toInt := by rw [ev_57]
      refine r_getI (g := 902) (x := v_57) X hw h_55 rfl 2 ev_57 (by decide) rfl inn_X11_about_9 (by decide) (X.2.2.2.1 (.fieldLink RX11 190 "SilkMill$Strand" "metres" "I") (by decide +kernel)) rfl (gv_902 _ _) dX11_about_100 ?_
      exact ret_i X hw hr hlocks (Nat.le_of_ble_eq_true rfl) (Nat.le_of_ble_eq_true rfl) ⟨rfl, trivial⟩ dX11_about_103
    · refine lv_tableIn (tgt := 104) X.1 X.2.1 dX11_about_13 (by omega) (by omega) (by rw [w_10c]; rfl) (by decide) ?_
      refine lv_aload_n X.1 X.2.1 dX11_about_104 rfl (lv_at hl 0 rfl) ?_
      obtain ⟨v_60, ev_60⟩ : ∃ v, pI S 405 q_5 = v := ⟨_, rfl⟩
      have rg_62 := And.intro (z_lo v_60) (z_hi v_60)
      have pz_63 : (pI S 405 q_5).toInt = v_60.toInt := by rw [ev_60]
      refine r_getI (g := 405) (x := v_60) X hw ha_7 rfl 5 ev_60 (by decide) rfl inn_X11_about_4 (by decide) (X.2.2.2.1 (.fieldLink RX11 195 "SilkMill$Pot" "stop" "I") (by decide +kernel)) rfl (gv_405 _ _) dX11_about_105 ?_
      exact ret_i X hw hr hlocks (Nat.le_of_ble_eq_true rfl) (Nat.le_of_ble_eq_true rfl) ⟨rfl, trivial⟩ dX11_about_108
    · refine lv_tableIn (tgt := 109) X.1 X.2.1 dX11_about_13 (by omega) (by omega) (by rw [w_10c]; rfl) (by decide) ?_
      refine lv_aload_n X.1 X.2.1 dX11_about_109 rfl (lv_at hl 0 rfl) ?_
      obtain ⟨v_64, ev_64⟩ : ∃ v, pI S 406 q_5 = v := ⟨_, rfl⟩
      have rg_66 := And.intro (z_lo v_64) (z_hi v_64)
      have pz_67 : (pI S 406 q_5).toInt = v_64.toInt := by rw [ev_64]
      refine r_getI (g := 406) (x := v_64) X hw ha_7 rfl 6 ev_64 (by decide) rfl inn_X11_about_4 (by decide) (X.2.2.2.1 (.fieldLink RX11 198 "SilkMill$Pot" "search" "I") (by decide +kernel)) rfl (gv_406 _ _) dX11_about_110 ?_
      exact ret_i X hw hr hlocks (Nat.le_of_ble_eq_true rfl) (Nat.le_of_ble_eq_true rfl) ⟨rfl, trivial⟩ dX11_about_113
    · refine lv_tableIn (tgt := 114) X.1 X.2.1 dX11_about_13 (by omega) (by omega) (by rw [w_10c]; rfl) (by decide) ?_
      refine lv_aload_n X.1 X.2.1 dX11_about_114 rfl (lv_at hl 0 rfl) ?_
      obtain ⟨q_68, h_69, h_70⟩ := gQ_4_401 hG ha_7
      refine r_getR (g := 401) X hw ha_7 rfl 1 h_69 (by decide) rfl inn_X11_about_4 (by decide) (X.2.2.2.1 (.fieldLink RX11 180 "SilkMill$Pot" "ends" "LSilkMill$Row;") (by decide +kernel)) rfl (gv_401 _ _) dX11_about_115 ?_
      refine k_i (rm := { frames := 3, cells := 0, slots := 0, locals := 144 }) (av := [.ref q_68]) X hw (va_runV (As := []) (rest := []) (cfix X) (k_X5_sumOfFineness l G cy κ S _ q_68 hG h_70) (cwV 0 X.2.2.2.1 gX11_about_X5_sumOfFineness rfl rfl rfl (by decide +kernel) ⟨Nat.le_of_ble_eq_true rfl, Nat.le_of_ble_eq_true rfl⟩) (pre_V X hw _ h_70 rfl (by decide) rfl) rfl rfl hl.1 rfl (lv_room (Nat.le_of_ble_eq_true rfl)) dX11_about_118 ⟨Nat.le_of_ble_eq_true rfl, Nat.le_of_ble_eq_true rfl⟩) 0 0 (Nat.le_of_ble_eq_true rfl) (Nat.le_of_ble_eq_true rfl) (fun rr_72 S_73 H locs hp hw hfr hnw => ?_)
      obtain ⟨e2, hp⟩ := hp
      subst e2
      have rg_74 := And.intro (z_lo rr_72) (z_hi rr_72)
      exact ret_i X hw hr hlocks (Nat.le_of_ble_eq_true rfl) (Nat.le_of_ble_eq_true rfl) ⟨rfl, trivial⟩ dX11_about_121
    · refine lv_tableIn (tgt := 122) X.1 X.2.1 dX11_about_13 (by omega) (by omega) (by rw [w_10c]; rfl) (by decide) ?_
      refine lv_aload_n X.1 X.2.1 dX11_about_122 rfl (lv_at hl 0 rfl) ?_
      obtain ⟨v_75, ev_75⟩ : ∃ v, pI S 407 q_5 = v := ⟨_, rfl⟩
      have rg_77 := And.intro (z_lo v_75) (z_hi v_75)
      have pz_78 : (pI S 407 q_5).toInt = v_75.toInt := by rw [ev_75]
      refine r_getI (g := 407) (x := v_75) X hw ha_7 rfl 7 ev_75 (by decide) rfl inn_X11_about_4 (by decide) (X.2.2.2.1 (.fieldLink RX11 205 "SilkMill$Pot" "metresEver" "I") (by decide +kernel)) rfl (gv_407 _ _) dX11_about_123 ?_
      exact ret_i X hw hr hlocks (Nat.le_of_ble_eq_true rfl) (Nat.le_of_ble_eq_true rfl) ⟨rfl, trivial⟩ dX11_about_126
    · refine lv_tableIn (tgt := 127) X.1 X.2.1 dX11_about_13 (by omega) (by omega) (by rw [w_10c]; rfl) (by decide) ?_
      refine lv_aload_n X.1 X.2.1 dX11_about_127 rfl (lv_at hl 0 rfl) ?_
      obtain ⟨v_79, ev_79⟩ : ∃ v, pI S 408 q_5 = v := ⟨_, rfl⟩
      have rg_81 := And.intro (z_lo v_79) (z_hi v_79)
      have pz_82 : (pI S 408 q_5).toInt = v_79.toInt := by rw [ev_79]
      refine r_getI (g := 408) (x := v_79) X hw ha_7 rfl 8 ev_79 (by decide) rfl inn_X11_about_4 (by decide) (X.2.2.2.1 (.fieldLink RX11 208 "SilkMill$Pot" "ticksEver" "I") (by decide +kernel)) rfl (gv_408 _ _) dX11_about_128 ?_
      exact ret_i X hw hr hlocks (Nat.le_of_ble_eq_true rfl) (Nat.le_of_ble_eq_true rfl) ⟨rfl, trivial⟩ dX11_about_131
    · refine lv_tableIn (tgt := 132) X.1 X.2.1 dX11_about_13 (by omega) (by omega) (by rw [w_10c]; rfl) (by decide) ?_
      refine lv_aload_n X.1 X.2.1 dX11_about_132 rfl (lv_at hl 0 rfl) ?_
      obtain ⟨q_83, h_84, h_85⟩ := gQ_4_409 hG ha_7
      refine r_getR (g := 409) X hw ha_7 rfl 9 h_84 (by decide) rfl inn_X11_about_4 (by decide) (X.2.2.2.1 (.fieldLink RX11 162 "SilkMill$Pot" "rules" "LSilkMill$Rules;") (by decide +kernel)) rfl (gv_409 _ _) dX11_about_133 ?_
      obtain ⟨v_87, ev_87⟩ : ∃ v, pI S 600 q_83 = v := ⟨_, rfl⟩
      have rg_88 := gI_6_600 hG h_85; rw [ev_87] at rg_88
      have pz_89 : (pI S 600 q_83).toInt = v_87.toInt := by rw [ev_87]
      refine r_getI (g := 600) (x := v_87) X hw h_85 rfl 0 ev_87 (by decide) rfl inn_X11_about_6 (by decide) (X.2.2.2.1 (.fieldLink RX11 165 "SilkMill$Rules" "size" "I") (by decide +kernel)) rfl (gv_600 _ _) dX11_about_136 ?_
      exact ret_i X hw hr hlocks (Nat.le_of_ble_eq_true rfl) (Nat.le_of_ble_eq_true rfl) ⟨rfl, trivial⟩ dX11_about_139
    · refine lv_tableIn (tgt := 140) X.1 X.2.1 dX11_about_13 (by omega) (by omega) (by rw [w_10c]; rfl) (by decide) ?_
      refine lv_aload_n X.1 X.2.1 dX11_about_140 rfl (lv_at hl 0 rfl) ?_
      obtain ⟨v_90, ev_90⟩ : ∃ v, pI S 404 q_5 = v := ⟨_, rfl⟩
      have rg_92 := And.intro (z_lo v_90) (z_hi v_90)
      have pz_93 : (pI S 404 q_5).toInt = v_90.toInt := by rw [ev_90]
      refine r_getI (g := 404) (x := v_90) X hw ha_7 rfl 4 ev_90 (by decide) rfl inn_X11_about_4 (by decide) (X.2.2.2.1 (.fieldLink RX11 138 "SilkMill$Pot" "aim" "I") (by decide +kernel)) rfl (gv_404 _ _) dX11_about_141 ?_
      exact ret_i X hw hr hlocks (Nat.le_of_ble_eq_true rfl) (Nat.le_of_ble_eq_true rfl) ⟨rfl, trivial⟩ dX11_about_144
set_option maxHeartbeats 4000000 in
set_option maxRecDepth 100000 in
theorem k_X11_skein (l : Launch) (G : va_G) (cy : Nat → ClassId) (κ : Nat → Nat) (S : PS) (sz : Nat) (x : Nat) (a1 : Int32) (a1_z : Int) (a2 : Int32) (a2_z : Int) (hG : GX S) (ha_x : At S x 11) (hz_a1 : a1.toInt = a1_z) (hz_a2 : a2.toInt = a2_z) : Ci l yX11_skein wsX11_skein ({ frames := 3, cells := 0, slots := 0, locals := 144 }) G cy κ S sz [.ref x, .int (a1), .int (a2)] (fun (r : Int32) (S9 : PS) => S = S9 ∧ (True)) := by
  refine ent_m (cc := cX11_skein) (maxL := 4) (ret := (some .int)) (by decide) rfl (Nat.le_of_ble_eq_true rfl) ?_
  intro p e s m below meth c ls X hr hlocks hin hw hl hsz
  subst hsz
  have X : Cx p c cX11_skein 4 s [.ref x, .int (a1), .int (a2)].toArray wsX11_skein RX11 m G cy κ (AS S s.heap.size) := X
  have hl : lv_has ls 4 [(0, .ref x), (1, .int (a1)), (2, .int (a2))] := hl
  have rg_a1 : (-2147483648) ≤ a1_z ∧ a1_z ≤ 2147483647 := by rw [← hz_a1]; exact ⟨z_lo _, z_hi _⟩
  have rg_a2 : (-2147483648) ≤ a2_z ∧ a2_z ≤ 2147483647 := by rw [← hz_a2]; exact ⟨z_lo _, z_hi _⟩
  refine lv_aload_n X.1 X.2.1 dX11_skein_0 rfl (lv_at hl 0 rfl) ?_
  obtain ⟨q_1, h_2, h_3⟩ := gQ_11_1107 hG ha_x
  refine r_getR (g := 1107) X hw ha_x rfl 7 h_2 (by decide) rfl inn_X11_skein_11 (by decide) (X.2.2.2.1 (.fieldLink RX11 42 "SilkMill" "store" "LSilkMill$Store;") (by decide +kernel)) rfl (gv_1107 _ _) dX11_skein_1 ?_
  refine lv_iload_n X.1 X.2.1 dX11_skein_4 rfl (lv_at hl 1 rfl) ?_
  refine k_q (rm := { frames := 1, cells := 0, slots := 0, locals := 48 }) (av := [.ref q_1, .int (a1)]) X hw (va_runV (As := [.int (a1)]) (rest := []) (cfix X) (k_X8_skeinAt l G cy κ S _ q_1 (a1) (a1_z) hG h_3 hz_a1) (cwV 1 X.2.2.2.1 gX11_skein_X8_skeinAt rfl rfl rfl (by decide +kernel) ⟨Nat.le_of_ble_eq_true rfl, Nat.le_of_ble_eq_true rfl⟩) (pre_V X hw _ h_3 rfl (by decide) rfl) rfl rfl hl.1 rfl (lv_room (Nat.le_of_ble_eq_true rfl)) dX11_skein_5 ⟨Nat.le_of_ble_eq_true rfl, Nat.le_of_ble_eq_true rfl⟩) 0 0 (Nat.le_of_ble_eq_true rfl) (Nat.le_of_ble_eq_true rfl) (fun rr_5 S_6 H locs hp hw hfr hnw => ?_)
  obtain ⟨e2, hp⟩ := hp
  subst e2
  have hq_7 := hp
  rcases rr_5 with _ | q_8
  · refine W.eq (g2 := F0 m 8 ls (.null :: [])) rfl ?_
    refine lv_astore_nN (lv' := [(3, .null), (0, .ref x), (1, .int (a1)), (2, .int (a2))]) X.1 X.2.1 dX11_skein_8 rfl hl (by decide) rfl (fun ls hl => ?_)
    refine lv_aload_nN X.1 X.2.1 dX11_skein_9 rfl (lv_at hl 0 rfl) ?_
    refine lv_ifnonnullN X.1 X.2.1 dX11_skein_10 ?_
    refine lv_iconst (v := (-1)) X.1 X.2.1 dX11_skein_13 (by decide) ?_
    exact ret_i X hw hr hlocks (Nat.le_of_ble_eq_true rfl) (Nat.le_of_ble_eq_true rfl) ⟨rfl, trivial⟩ dX11_skein_14
  · refine W.eq (g2 := F0 m 8 ls (.ref q_8 :: [])) rfl ?_
    obtain ⟨ha_9, f_10, f_11⟩ := hq_7 _ rfl
    refine lv_astore_n (lv' := [(3, .ref q_8), (0, .ref x), (1, .int (a1)), (2, .int (a2))]) X.1 X.2.1 dX11_skein_8 rfl hl (by decide) rfl (fun ls hl => ?_)
    refine lv_aload_n X.1 X.2.1 dX11_skein_9 rfl (lv_at hl 0 rfl) ?_
    refine lv_ifnonnull (tgt := 15) X.1 X.2.1 dX11_skein_10 (by decide) ?_
    refine lv_iload_n X.1 X.2.1 dX11_skein_15 rfl (lv_at hl 3 rfl) ?_
    by_cases w_12 : (a2).toInt < 0 ∨ 11 < (a2).toInt
    · refine lv_tableOut (tgt := 161) X.1 X.2.1 dX11_skein_16 w_12 (by decide) ?_
      refine lv_iconst (v := (-1)) X.1 X.2.1 dX11_skein_161 (by decide) ?_
      exact ret_i X hw hr hlocks (Nat.le_of_ble_eq_true rfl) (Nat.le_of_ble_eq_true rfl) ⟨rfl, trivial⟩ dX11_skein_162
    have w_12b : (a2).toInt = 0 ∨ (a2).toInt = 1 ∨ (a2).toInt = 2 ∨ (a2).toInt = 3 ∨ (a2).toInt = 4 ∨ (a2).toInt = 5 ∨ (a2).toInt = 6 ∨ (a2).toInt = 7 ∨ (a2).toInt = 8 ∨ (a2).toInt = 9 ∨ (a2).toInt = 10 ∨ (a2).toInt = 11 := by omega
    rcases w_12b with w_12c | w_12c | w_12c | w_12c | w_12c | w_12c | w_12c | w_12c | w_12c | w_12c | w_12c | w_12c
    · refine lv_tableIn (tgt := 80) X.1 X.2.1 dX11_skein_16 (by omega) (by omega) (by rw [w_12c]; rfl) (by decide) ?_
      refine lv_aload_n X.1 X.2.1 dX11_skein_80 rfl (lv_at hl 0 rfl) ?_
      obtain ⟨v_13, ev_13⟩ : ∃ v, pI S 700 q_8 = v := ⟨_, rfl⟩
      have rg_15 := And.intro (z_lo v_13) (z_hi v_13)
      have pz_16 : (pI S 700 q_8).toInt = v_13.toInt := by rw [ev_13]
      refine r_getI (g := 700) (x := v_13) X hw ha_9 rfl 0 ev_13 (by decide) rfl inn_X11_skein_7 (by decide) (X.2.2.2.1 (.fieldLink RX11 235 "SilkMill$Skein" "potNumber" "I") (by decide +kernel)) rfl (gv_700 _ _) dX11_skein_81 ?_
      exact ret_i X hw hr hlocks (Nat.le_of_ble_eq_true rfl) (Nat.le_of_ble_eq_true rfl) ⟨rfl, trivial⟩ dX11_skein_84
    · refine lv_tableIn (tgt := 85) X.1 X.2.1 dX11_skein_16 (by omega) (by omega) (by rw [w_12c]; rfl) (by decide) ?_
      refine lv_aload_n X.1 X.2.1 dX11_skein_85 rfl (lv_at hl 0 rfl) ?_
      obtain ⟨v_17, ev_17⟩ : ∃ v, pI S 702 q_8 = v := ⟨_, rfl⟩
      have rg_19 := And.intro (z_lo v_17) (z_hi v_17)
      have pz_20 : (pI S 702 q_8).toInt = v_17.toInt := by rw [ev_17]
      refine r_getI (g := 702) (x := v_17) X hw ha_9 rfl 2 ev_17 (by decide) rfl inn_X11_skein_7 (by decide) (X.2.2.2.1 (.fieldLink RX11 238 "SilkMill$Skein" "dayCut" "I") (by decide +kernel)) rfl (gv_702 _ _) dX11_skein_86 ?_
      exact ret_i X hw hr hlocks (Nat.le_of_ble_eq_true rfl) (Nat.le_of_ble_eq_true rfl) ⟨rfl, trivial⟩ dX11_skein_89
    · refine lv_tableIn (tgt := 90) X.1 X.2.1 dX11_skein_16 (by omega) (by omega) (by rw [w_12c]; rfl) (by decide) ?_
      refine lv_aload_n X.1 X.2.1 dX11_skein_90 rfl (lv_at hl 0 rfl) ?_
      obtain ⟨q_21, h_22, h_23⟩ := gQ_7_703 hG ha_9
      refine r_getR (g := 703) X hw ha_9 rfl 3 h_22 (by decide) rfl inn_X11_skein_7 (by decide) (X.2.2.2.1 (.fieldLink RX11 241 "SilkMill$Skein" "strand" "LSilkMill$Strand;") (by decide +kernel)) rfl (gv_703 _ _) dX11_skein_91 ?_
      obtain ⟨v_25, ev_25⟩ : ∃ v, pI S 902 q_21 = v := ⟨_, rfl⟩
      have rg_26 := gI_9_902 hG h_23; rw [ev_25] at rg_26
      have pz_27 : (pI S 902 q_21).toInt = v_25.toInt := by rw [ev_25]
      refine r_getI (g := 902) (x := v_25) X hw h_23 rfl 2 ev_25 (by decide) rfl inn_X11_skein_9 (by decide) (X.2.2.2.1 (.fieldLink RX11 190 "SilkMill$Strand" "metres" "I") (by decide +kernel)) rfl (gv_902 _ _) dX11_skein_94 ?_
      exact ret_i X hw hr hlocks (Nat.le_of_ble_eq_true rfl) (Nat.le_of_ble_eq_true rfl) ⟨rfl, trivial⟩ dX11_skein_97
    · refine lv_tableIn (tgt := 98) X.1 X.2.1 dX11_skein_16 (by omega) (by omega) (by rw [w_12c]; rfl) (by decide) ?_
      refine lv_aload_n X.1 X.2.1 dX11_skein_98 rfl (lv_at hl 0 rfl) ?_
      obtain ⟨q_28, h_29, h_30⟩ := gQ_7_703 hG ha_9
      refine r_getR (g := 703) X hw ha_9 rfl 3 h_29 (by decide) rfl inn_X11_skein_7 (by decide) (X.2.2.2.1 (.fieldLink RX11 241 "SilkMill$Skein" "strand" "LSilkMill$Strand;") (by decide +kernel)) rfl (gv_703 _ _) dX11_skein_99 ?_
      obtain ⟨v_32, ev_32⟩ : ∃ v, pI S 903 q_28 = v := ⟨_, rfl⟩
      have rg_34 := And.intro (z_lo v_32) (z_hi v_32)
      have pz_35 : (pI S 903 q_28).toInt = v_32.toInt := by rw [ev_32]
      refine r_getI (g := 903) (x := v_32) X hw h_30 rfl 3 ev_32 (by decide) rfl inn_X11_skein_9 (by decide) (X.2.2.2.1 (.fieldLink RX11 242 "SilkMill$Strand" "silk" "I") (by decide +kernel)) rfl (gv_903 _ _) dX11_skein_102 ?_
      exact ret_i X hw hr hlocks (Nat.le_of_ble_eq_true rfl) (Nat.le_of_ble_eq_true rfl) ⟨rfl, trivial⟩ dX11_skein_105
    · refine lv_tableIn (tgt := 106) X.1 X.2.1 dX11_skein_16 (by omega) (by omega) (by rw [w_12c]; rfl) (by decide) ?_
      refine lv_aload_n X.1 X.2.1 dX11_skein_106 rfl (lv_at hl 0 rfl) ?_
      obtain ⟨v_36, ev_36⟩ : ∃ v, pI S 704 q_8 = v := ⟨_, rfl⟩
      have rg_38 := And.intro (z_lo v_36) (z_hi v_36)
      have pz_39 : (pI S 704 q_8).toInt = v_36.toInt := by rw [ev_36]
      refine r_getI (g := 704) (x := v_36) X hw ha_9 rfl 4 ev_36 (by decide) rfl inn_X11_skein_7 (by decide) (X.2.2.2.1 (.fieldLink RX11 245 "SilkMill$Skein" "least" "I") (by decide +kernel)) rfl (gv_704 _ _) dX11_skein_107 ?_
      exact ret_i X hw hr hlocks (Nat.le_of_ble_eq_true rfl) (Nat.le_of_ble_eq_true rfl) ⟨rfl, trivial⟩ dX11_skein_110
    · refine lv_tableIn (tgt := 111) X.1 X.2.1 dX11_skein_16 (by omega) (by omega) (by rw [w_12c]; rfl) (by decide) ?_
      refine lv_aload_n X.1 X.2.1 dX11_skein_111 rfl (lv_at hl 0 rfl) ?_
      obtain ⟨v_40, ev_40⟩ : ∃ v, pI S 705 q_8 = v := ⟨_, rfl⟩
      have rg_42 := And.intro (z_lo v_40) (z_hi v_40)
      have pz_43 : (pI S 705 q_8).toInt = v_40.toInt := by rw [ev_40]
      refine r_getI (g := 705) (x := v_40) X hw ha_9 rfl 5 ev_40 (by decide) rfl inn_X11_skein_7 (by decide) (X.2.2.2.1 (.fieldLink RX11 248 "SilkMill$Skein" "greatest" "I") (by decide +kernel)) rfl (gv_705 _ _) dX11_skein_112 ?_
      exact ret_i X hw hr hlocks (Nat.le_of_ble_eq_true rfl) (Nat.le_of_ble_eq_true rfl) ⟨rfl, trivial⟩ dX11_skein_115
    · refine lv_tableIn (tgt := 116) X.1 X.2.1 dX11_skein_16 (by omega) (by omega) (by rw [w_12c]; rfl) (by decide) ?_
      refine lv_aload_n X.1 X.2.1 dX11_skein_116 rfl (lv_at hl 0 rfl) ?_
      obtain ⟨v_44, ev_44⟩ : ∃ v, pI S 706 q_8 = v := ⟨_, rfl⟩
      have rg_46 := And.intro (z_lo v_44) (z_hi v_44)
      have pz_47 : (pI S 706 q_8).toInt = v_44.toInt := by rw [ev_44]
      refine r_getI (g := 706) (x := v_44) X hw ha_9 rfl 6 ev_44 (by decide) rfl inn_X11_skein_7 (by decide) (X.2.2.2.1 (.fieldLink RX11 251 "SilkMill$Skein" "slips" "I") (by decide +kernel)) rfl (gv_706 _ _) dX11_skein_117 ?_
      exact ret_i X hw hr hlocks (Nat.le_of_ble_eq_true rfl) (Nat.le_of_ble_eq_true rfl) ⟨rfl, trivial⟩ dX11_skein_120
    · refine lv_tableIn (tgt := 121) X.1 X.2.1 dX11_skein_16 (by omega) (by omega) (by rw [w_12c]; rfl) (by decide) ?_
      refine lv_aload_n X.1 X.2.1 dX11_skein_121 rfl (lv_at hl 0 rfl) ?_
      obtain ⟨q_48, h_49, h_50⟩ := gQ_7_703 hG ha_9
      refine r_getR (g := 703) X hw ha_9 rfl 3 h_49 (by decide) rfl inn_X11_skein_7 (by decide) (X.2.2.2.1 (.fieldLink RX11 241 "SilkMill$Skein" "strand" "LSilkMill$Strand;") (by decide +kernel)) rfl (gv_703 _ _) dX11_skein_122 ?_
      obtain ⟨v_52, ev_52⟩ : ∃ v, pI S 904 q_48 = v := ⟨_, rfl⟩
      have rg_53 := gI_9_904 hG h_50; rw [ev_52] at rg_53
      have pz_54 : (pI S 904 q_48).toInt = v_52.toInt := by rw [ev_52]
      refine r_getI (g := 904) (x := v_52) X hw h_50 rfl 4 ev_52 (by decide) rfl inn_X11_skein_9 (by decide) (X.2.2.2.1 (.fieldLink RX11 254 "SilkMill$Strand" "pieces" "I") (by decide +kernel)) rfl (gv_904 _ _) dX11_skein_125 ?_
      exact ret_i X hw hr hlocks (Nat.le_of_ble_eq_true rfl) (Nat.le_of_ble_eq_true rfl) ⟨rfl, trivial⟩ dX11_skein_128
    · refine lv_tableIn (tgt := 129) X.1 X.2.1 dX11_skein_16 (by omega) (by omega) (by rw [w_12c]; rfl) (by decide) ?_
      refine lv_aload_n X.1 X.2.1 dX11_skein_129 rfl (lv_at hl 0 rfl) ?_
      obtain ⟨v_55, ev_55⟩ : ∃ v, pI S 707 q_8 = v := ⟨_, rfl⟩
      have rg_57 := And.intro (z_lo v_55) (z_hi v_55)
      have pz_58 : (pI S 707 q_8).toInt = v_55.toInt := by rw [ev_55]
      refine r_getI (g := 707) (x := v_55) X hw ha_9 rfl 7 ev_55 (by decide) rfl inn_X11_skein_7 (by decide) (X.2.2.2.1 (.fieldLink RX11 257 "SilkMill$Skein" "latestGrade" "I") (by decide +kernel)) rfl (gv_707 _ _) dX11_skein_130 ?_
      exact ret_i X hw hr hlocks (Nat.le_of_ble_eq_true rfl) (Nat.le_of_ble_eq_true rfl) ⟨rfl, trivial⟩ dX11_skein_133
    · refine lv_tableIn (tgt := 134) X.1 X.2.1 dX11_skein_16 (by omega) (by omega) (by rw [w_12c]; rfl) (by decide) ?_
      refine lv_aload_n X.1 X.2.1 dX11_skein_134 rfl (lv_at hl 0 rfl) ?_
      obtain ⟨v_59, ev_59⟩ : ∃ v, pI S 708 q_8 = v := ⟨_, rfl⟩
      have rg_61 := And.intro (z_lo v_59) (z_hi v_59)
      have pz_62 : (pI S 708 q_8).toInt = v_59.toInt := by rw [ev_59]
      refine r_getI (g := 708) (x := v_59) X hw ha_9 rfl 8 ev_59 (by decide) rfl inn_X11_skein_7 (by decide) (X.2.2.2.1 (.fieldLink RX11 260 "SilkMill$Skein" "sold" "Z") (by decide +kernel)) rfl (gv_708 _ _) dX11_skein_135 ?_
      refine lv_if_eq (tgt := 145) X.1 X.2.1 dX11_skein_138 (by decide) (fun c_63 => ?_) (fun c_63 => ?_)
      · have z_b_64 := trivial
        have k_65 : v_59.toInt = 0 := z_eq rfl ti_0 c_63
        refine lv_iconst (v := 0) X.1 X.2.1 dX11_skein_145 (by decide) ?_
        exact ret_i X hw hr hlocks (Nat.le_of_ble_eq_true rfl) (Nat.le_of_ble_eq_true rfl) ⟨rfl, trivial⟩ dX11_skein_146
      · have z_b_66 := trivial
        have k_67 : v_59.toInt ≠ 0 := z_ne rfl ti_0 c_63
        refine lv_iconst (v := 1) X.1 X.2.1 dX11_skein_141 (by decide) ?_
        refine lv_goto (tgt := 146) X.1 X.2.1 dX11_skein_142 (by decide) ?_
        exact ret_i X hw hr hlocks (Nat.le_of_ble_eq_true rfl) (Nat.le_of_ble_eq_true rfl) ⟨rfl, trivial⟩ dX11_skein_146
    · refine lv_tableIn (tgt := 147) X.1 X.2.1 dX11_skein_16 (by omega) (by omega) (by rw [w_12c]; rfl) (by decide) ?_
      refine lv_aload_n X.1 X.2.1 dX11_skein_147 rfl (lv_at hl 1 rfl) ?_
      refine r_getR (g := 1107) X hw ha_x rfl 7 h_2 (by decide) rfl inn_X11_skein_11 (by decide) (X.2.2.2.1 (.fieldLink RX11 42 "SilkMill" "store" "LSilkMill$Store;") (by decide +kernel)) rfl (gv_1107 _ _) dX11_skein_148 ?_
      refine lv_aload_n X.1 X.2.1 dX11_skein_151 rfl (lv_at hl 0 rfl) ?_
      refine k_i (rm := { frames := 2, cells := 0, slots := 0, locals := 96 }) (av := [.ref q_1, .ref q_8]) X hw (va_runV (As := [.ref q_8]) (rest := []) (cfix X) (k_X8_priceOf l G cy κ S _ q_1 q_8 hG h_3 ha_9) (cwV 1 X.2.2.2.1 gX11_skein_X8_priceOf rfl rfl rfl (by decide +kernel) ⟨Nat.le_of_ble_eq_true rfl, Nat.le_of_ble_eq_true rfl⟩) (pre_V X hw _ h_3 rfl (by decide) rfl) rfl rfl hl.1 rfl (lv_room (Nat.le_of_ble_eq_true rfl)) dX11_skein_152 ⟨Nat.le_of_ble_eq_true rfl, Nat.le_of_ble_eq_true rfl⟩) 0 0 (Nat.le_of_ble_eq_true rfl) (Nat.le_of_ble_eq_true rfl) (fun rr_68 S_69 H locs hp hw hfr hnw => ?_)
      obtain ⟨e2, hp⟩ := hp
      subst e2
      have rg_70 := And.intro (z_lo rr_68) (z_hi rr_68)
      exact ret_i X hw hr hlocks (Nat.le_of_ble_eq_true rfl) (Nat.le_of_ble_eq_true rfl) ⟨rfl, trivial⟩ dX11_skein_155
    · refine lv_tableIn (tgt := 156) X.1 X.2.1 dX11_skein_16 (by omega) (by omega) (by rw [w_12c]; rfl) (by decide) ?_
      refine lv_aload_n X.1 X.2.1 dX11_skein_156 rfl (lv_at hl 0 rfl) ?_
      obtain ⟨v_71, ev_71⟩ : ∃ v, pI S 701 q_8 = v := ⟨_, rfl⟩
      have rg_73 := And.intro (z_lo v_71) (z_hi v_71)
      have pz_74 : (pI S 701 q_8).toInt = v_71.toInt := by rw [ev_71]
      refine r_getI (g := 701) (x := v_71) X hw ha_9 rfl 1 ev_71 (by decide) rfl inn_X11_skein_7 (by decide) (X.2.2.2.1 (.fieldLink RX11 268 "SilkMill$Skein" "aim" "I") (by decide +kernel)) rfl (gv_701 _ _) dX11_skein_157 ?_
      exact ret_i X hw hr hlocks (Nat.le_of_ble_eq_true rfl) (Nat.le_of_ble_eq_true rfl) ⟨rfl, trivial⟩ dX11_skein_160
set_option maxHeartbeats 4000000 in
set_option maxRecDepth 100000 in
theorem k_X11_piece (l : Launch) (G : va_G) (cy : Nat → ClassId) (κ : Nat → Nat) (S : PS) (sz : Nat) (x : Nat) (a1 : Int32) (a1_z : Int) (a2 : Int32) (a2_z : Int) (a3 : Int32) (a3_z : Int) (hG : GX S) (ha_x : At S x 11) (hz_a1 : a1.toInt = a1_z) (hz_a2 : a2.toInt = a2_z) (hz_a3 : a3.toInt = a3_z) : Ci l yX11_piece wsX11_piece ({ frames := 2, cells := 0, slots := 0, locals := 96 }) G cy κ S sz [.ref x, .int (a1), .int (a2), .int (a3)] (fun (r : Int32) (S9 : PS) => S = S9 ∧ (True)) := by
  refine ent_m (cc := cX11_piece) (maxL := 5) (ret := (some .int)) (by decide) rfl (Nat.le_of_ble_eq_true rfl) ?_
  intro p e s m below meth c ls X hr hlocks hin hw hl hsz
  subst hsz
  have X : Cx p c cX11_piece 5 s [.ref x, .int (a1), .int (a2), .int (a3)].toArray wsX11_piece RX11 m G cy κ (AS S s.heap.size) := X
  have hl : lv_has ls 5 [(0, .ref x), (1, .int (a1)), (2, .int (a2)), (3, .int (a3))] := hl
  have rg_a1 : (-2147483648) ≤ a1_z ∧ a1_z ≤ 2147483647 := by rw [← hz_a1]; exact ⟨z_lo _, z_hi _⟩
  have rg_a2 : (-2147483648) ≤ a2_z ∧ a2_z ≤ 2147483647 := by rw [← hz_a2]; exact ⟨z_lo _, z_hi _⟩
  have rg_a3 : (-2147483648) ≤ a3_z ∧ a3_z ≤ 2147483647 := by rw [← hz_a3]; exact ⟨z_lo _, z_hi _⟩
  refine lv_aload_n X.1 X.2.1 dX11_piece_0 rfl (lv_at hl 0 rfl) ?_
  obtain ⟨q_1, h_2, h_3⟩ := gQ_11_1107 hG ha_x
  refine r_getR (g := 1107) X hw ha_x rfl 7 h_2 (by decide) rfl inn_X11_piece_11 (by decide) (X.2.2.2.1 (.fieldLink RX11 42 "SilkMill" "store" "LSilkMill$Store;") (by decide +kernel)) rfl (gv_1107 _ _) dX11_piece_1 ?_
  refine lv_iload_n X.1 X.2.1 dX11_piece_4 rfl (lv_at hl 1 rfl) ?_
  refine k_q (rm := { frames := 1, cells := 0, slots := 0, locals := 48 }) (av := [.ref q_1, .int (a1)]) X hw (va_runV (As := [.int (a1)]) (rest := []) (cfix X) (k_X8_skeinAt l G cy κ S _ q_1 (a1) (a1_z) hG h_3 hz_a1) (cwV 1 X.2.2.2.1 gX11_piece_X8_skeinAt rfl rfl rfl (by decide +kernel) ⟨Nat.le_of_ble_eq_true rfl, Nat.le_of_ble_eq_true rfl⟩) (pre_V X hw _ h_3 rfl (by decide) rfl) rfl rfl hl.1 rfl (lv_room (Nat.le_of_ble_eq_true rfl)) dX11_piece_5 ⟨Nat.le_of_ble_eq_true rfl, Nat.le_of_ble_eq_true rfl⟩) 0 0 (Nat.le_of_ble_eq_true rfl) (Nat.le_of_ble_eq_true rfl) (fun rr_5 S_6 H locs hp hw hfr hnw => ?_)
  obtain ⟨e2, hp⟩ := hp
  subst e2
  have hq_7 := hp
  rcases rr_5 with _ | q_8
  · refine W.eq (g2 := F0 m 8 ls (.null :: [])) rfl ?_
    refine lv_astoreN (lv' := [(4, .null), (0, .ref x), (1, .int (a1)), (2, .int (a2)), (3, .int (a3))]) X.1 X.2.1 dX11_piece_8 hl (by decide) rfl (fun ls hl => ?_)
    refine lv_aloadN X.1 X.2.1 dX11_piece_10 (lv_at hl 0 rfl) ?_
    refine lv_ifnullN (tgt := 31) X.1 X.2.1 dX11_piece_12 (by decide) ?_
    refine lv_iconst (v := (-1)) X.1 X.2.1 dX11_piece_31 (by decide) ?_
    exact ret_i X hw hr hlocks (Nat.le_of_ble_eq_true rfl) (Nat.le_of_ble_eq_true rfl) ⟨rfl, trivial⟩ dX11_piece_32
  · refine W.eq (g2 := F0 m 8 ls (.ref q_8 :: [])) rfl ?_
    obtain ⟨ha_9, f_10, f_11⟩ := hq_7 _ rfl
    refine lv_astore (lv' := [(4, .ref q_8), (0, .ref x), (1, .int (a1)), (2, .int (a2)), (3, .int (a3))]) X.1 X.2.1 dX11_piece_8 hl (by decide) rfl (fun ls hl => ?_)
    refine lv_aload X.1 X.2.1 dX11_piece_10 (lv_at hl 0 rfl) ?_
    refine lv_ifnull X.1 X.2.1 dX11_piece_12 ?_
    refine lv_iload_n X.1 X.2.1 dX11_piece_15 rfl (lv_at hl 3 rfl) ?_
    refine lv_if_lt (tgt := 31) X.1 X.2.1 dX11_piece_16 (by decide) (fun c_12 => ?_) (fun c_12 => ?_)
    · have z_b_13 := trivial
      have k_14 : a2_z < 0 := z_lt hz_a2 ti_0 c_12
      refine lv_iconst (v := (-1)) X.1 X.2.1 dX11_piece_31 (by decide) ?_
      exact ret_i X hw hr hlocks (Nat.le_of_ble_eq_true rfl) (Nat.le_of_ble_eq_true rfl) ⟨rfl, trivial⟩ dX11_piece_32
    · have z_b_15 := trivial
      have k_16 : a2_z ≥ 0 := z_nlt hz_a2 ti_0 c_12
      refine lv_iload_n X.1 X.2.1 dX11_piece_19 rfl (lv_at hl 3 rfl) ?_
      refine lv_aload X.1 X.2.1 dX11_piece_20 (lv_at hl 0 rfl) ?_
      obtain ⟨q_17, h_18, h_19⟩ := gQ_7_703 hG ha_9
      refine r_getR (g := 703) X hw ha_9 rfl 3 h_18 (by decide) rfl inn_X11_piece_7 (by decide) (X.2.2.2.1 (.fieldLink RX11 241 "SilkMill$Skein" "strand" "LSilkMill$Strand;") (by decide +kernel)) rfl (gv_703 _ _) dX11_piece_22 ?_
      obtain ⟨v_21, ev_21⟩ : ∃ v, pI S 904 q_17 = v := ⟨_, rfl⟩
      have rg_22 := gI_9_904 hG h_19; rw [ev_21] at rg_22
      have pz_23 : (pI S 904 q_17).toInt = v_21.toInt := by rw [ev_21]
      refine r_getI (g := 904) (x := v_21) X hw h_19 rfl 4 ev_21 (by decide) rfl inn_X11_piece_9 (by decide) (X.2.2.2.1 (.fieldLink RX11 254 "SilkMill$Strand" "pieces" "I") (by decide +kernel)) rfl (gv_904 _ _) dX11_piece_25 ?_
      refine lv_icmp_lt (tgt := 33) X.1 X.2.1 dX11_piece_28 (by decide) (fun c_24 => ?_) (fun c_24 => ?_)
      · have z_b_25 := trivial
        have k_26 : a2_z < v_21.toInt := z_lt hz_a2 rfl c_24
        refine lv_iload_n X.1 X.2.1 dX11_piece_33 rfl (lv_at hl 4 rfl) ?_
        by_cases w_27 : (a3).toInt < 0 ∨ 4 < (a3).toInt
        · refine lv_tableOut (tgt := 129) X.1 X.2.1 dX11_piece_34 w_27 (by decide) ?_
          refine lv_iconst (v := (-1)) X.1 X.2.1 dX11_piece_129 (by decide) ?_
          exact ret_i X hw hr hlocks (Nat.le_of_ble_eq_true rfl) (Nat.le_of_ble_eq_true rfl) ⟨rfl, trivial⟩ dX11_piece_130
        have w_27b : (a3).toInt = 0 ∨ (a3).toInt = 1 ∨ (a3).toInt = 2 ∨ (a3).toInt = 3 ∨ (a3).toInt = 4 := by omega
        rcases w_27b with w_27c | w_27c | w_27c | w_27c | w_27c
        · refine lv_tableIn (tgt := 68) X.1 X.2.1 dX11_piece_34 (by omega) (by omega) (by rw [w_27c]; rfl) (by decide) ?_
          refine lv_aload X.1 X.2.1 dX11_piece_68 (lv_at hl 0 rfl) ?_
          refine r_getR (g := 703) X hw ha_9 rfl 3 h_18 (by decide) rfl inn_X11_piece_7 (by decide) (X.2.2.2.1 (.fieldLink RX11 241 "SilkMill$Skein" "strand" "LSilkMill$Strand;") (by decide +kernel)) rfl (gv_703 _ _) dX11_piece_70 ?_
          obtain ⟨q_28, h_29, h_30, h_31, h_34⟩ := gC_9_905 hG h_19
          obtain ⟨n_32, h_33⟩ : ∃ n, pN S q_28 = n := ⟨_, rfl⟩
          rw [ev_21, h_33] at h_31
          rw [h_33] at h_34
          refine r_getR (g := 905) X hw h_19 rfl 5 h_29 (by decide) rfl inn_X11_piece_9 (by decide) (X.2.2.2.1 (.fieldLink RX11 275 "SilkMill$Strand" "codes" "[I") (by decide +kernel)) rfl (gv_905 _ _) dX11_piece_73 ?_
          refine lv_iload_n X.1 X.2.1 dX11_piece_76 rfl (lv_at hl 3 rfl) ?_
          refine r_iald X hw h_30 rfl (by rw [h_33]; exact z_ix hz_a2 (by omega) (by omega)) dX11_piece_77 ?_
          refine lv_topi (fun v_35 ev_35 => ?_)
          have rg_36 := And.intro (z_lo v_35) (z_hi v_35)
          have ev_35 := ev_35.symm
          refine lv_bipush (v := 100) X.1 X.2.1 dX11_piece_78 (by decide) ?_
          refine lv_idiv X.1 X.2.1 dX11_piece_80 (by decide) ?_
          refine lv_topi (fun v_37 ev_37 => ?_)
          have rg_38 := And.intro (z_lo v_37) (z_hi v_37)
          exact ret_i X hw hr hlocks (Nat.le_of_ble_eq_true rfl) (Nat.le_of_ble_eq_true rfl) ⟨rfl, trivial⟩ dX11_piece_81
        · refine lv_tableIn (tgt := 82) X.1 X.2.1 dX11_piece_34 (by omega) (by omega) (by rw [w_27c]; rfl) (by decide) ?_
          refine lv_aload X.1 X.2.1 dX11_piece_82 (lv_at hl 0 rfl) ?_
          refine r_getR (g := 703) X hw ha_9 rfl 3 h_18 (by decide) rfl inn_X11_piece_7 (by decide) (X.2.2.2.1 (.fieldLink RX11 241 "SilkMill$Skein" "strand" "LSilkMill$Strand;") (by decide +kernel)) rfl (gv_703 _ _) dX11_piece_84 ?_
          obtain ⟨q_39, h_40, h_41, h_42, h_45⟩ := gC_9_905 hG h_19
          obtain ⟨n_43, h_44⟩ : ∃ n, pN S q_39 = n := ⟨_, rfl⟩
          rw [ev_21, h_44] at h_42
          rw [h_44] at h_45
          refine r_getR (g := 905) X hw h_19 rfl 5 h_40 (by decide) rfl inn_X11_piece_9 (by decide) (X.2.2.2.1 (.fieldLink RX11 275 "SilkMill$Strand" "codes" "[I") (by decide +kernel)) rfl (gv_905 _ _) dX11_piece_87 ?_
          refine lv_iload_n X.1 X.2.1 dX11_piece_90 rfl (lv_at hl 3 rfl) ?_
          refine r_iald X hw h_41 rfl (by rw [h_44]; exact z_ix hz_a2 (by omega) (by omega)) dX11_piece_91 ?_
          refine lv_topi (fun v_46 ev_46 => ?_)
          have rg_47 := And.intro (z_lo v_46) (z_hi v_46)
          have ev_46 := ev_46.symm
          refine lv_bipush (v := 100) X.1 X.2.1 dX11_piece_92 (by decide) ?_
          refine lv_irem X.1 X.2.1 dX11_piece_94 (by decide) ?_
          refine lv_topi (fun v_48 ev_48 => ?_)
          have rg_49 := And.intro (z_lo v_48) (z_hi v_48)
          exact ret_i X hw hr hlocks (Nat.le_of_ble_eq_true rfl) (Nat.le_of_ble_eq_true rfl) ⟨rfl, trivial⟩ dX11_piece_95
        · refine lv_tableIn (tgt := 96) X.1 X.2.1 dX11_piece_34 (by omega) (by omega) (by rw [w_27c]; rfl) (by decide) ?_
          refine lv_aload X.1 X.2.1 dX11_piece_96 (lv_at hl 0 rfl) ?_
          refine r_getR (g := 703) X hw ha_9 rfl 3 h_18 (by decide) rfl inn_X11_piece_7 (by decide) (X.2.2.2.1 (.fieldLink RX11 241 "SilkMill$Skein" "strand" "LSilkMill$Strand;") (by decide +kernel)) rfl (gv_703 _ _) dX11_piece_98 ?_
          obtain ⟨q_50, h_51, h_52, h_53, h_56⟩ := gC_9_906 hG h_19
          obtain ⟨n_54, h_55⟩ : ∃ n, pN S q_50 = n := ⟨_, rfl⟩
          rw [ev_21, h_55] at h_53
          rw [h_55] at h_56
          refine r_getR (g := 906) X hw h_19 rfl 6 h_51 (by decide) rfl inn_X11_piece_9 (by decide) (X.2.2.2.1 (.fieldLink RX11 278 "SilkMill$Strand" "firsts" "[I") (by decide +kernel)) rfl (gv_906 _ _) dX11_piece_101 ?_
          refine lv_iload_n X.1 X.2.1 dX11_piece_104 rfl (lv_at hl 3 rfl) ?_
          refine r_iald X hw h_52 rfl (by rw [h_55]; exact z_ix hz_a2 (by omega) (by omega)) dX11_piece_105 ?_
          refine lv_topi (fun v_57 ev_57 => ?_)
          have rg_58 := And.intro (z_lo v_57) (z_hi v_57)
          have ev_57 := ev_57.symm
          exact ret_i X hw hr hlocks (Nat.le_of_ble_eq_true rfl) (Nat.le_of_ble_eq_true rfl) ⟨rfl, trivial⟩ dX11_piece_106
        · refine lv_tableIn (tgt := 107) X.1 X.2.1 dX11_piece_34 (by omega) (by omega) (by rw [w_27c]; rfl) (by decide) ?_
          refine lv_aload X.1 X.2.1 dX11_piece_107 (lv_at hl 0 rfl) ?_
          refine r_getR (g := 703) X hw ha_9 rfl 3 h_18 (by decide) rfl inn_X11_piece_7 (by decide) (X.2.2.2.1 (.fieldLink RX11 241 "SilkMill$Skein" "strand" "LSilkMill$Strand;") (by decide +kernel)) rfl (gv_703 _ _) dX11_piece_109 ?_
          obtain ⟨q_59, h_60, h_61, h_62, h_65⟩ := gC_9_907 hG h_19
          obtain ⟨n_63, h_64⟩ : ∃ n, pN S q_59 = n := ⟨_, rfl⟩
          rw [ev_21, h_64] at h_62
          rw [h_64] at h_65
          refine r_getR (g := 907) X hw h_19 rfl 7 h_60 (by decide) rfl inn_X11_piece_9 (by decide) (X.2.2.2.1 (.fieldLink RX11 281 "SilkMill$Strand" "lengths" "[I") (by decide +kernel)) rfl (gv_907 _ _) dX11_piece_112 ?_
          refine lv_iload_n X.1 X.2.1 dX11_piece_115 rfl (lv_at hl 3 rfl) ?_
          refine r_iald X hw h_61 rfl (by rw [h_64]; exact z_ix hz_a2 (by omega) (by omega)) dX11_piece_116 ?_
          refine lv_topi (fun v_66 ev_66 => ?_)
          have rg_67 := And.intro (z_lo v_66) (z_hi v_66)
          have ev_66 := ev_66.symm
          exact ret_i X hw hr hlocks (Nat.le_of_ble_eq_true rfl) (Nat.le_of_ble_eq_true rfl) ⟨rfl, trivial⟩ dX11_piece_117
        · refine lv_tableIn (tgt := 118) X.1 X.2.1 dX11_piece_34 (by omega) (by omega) (by rw [w_27c]; rfl) (by decide) ?_
          refine lv_aload X.1 X.2.1 dX11_piece_118 (lv_at hl 0 rfl) ?_
          refine r_getR (g := 703) X hw ha_9 rfl 3 h_18 (by decide) rfl inn_X11_piece_7 (by decide) (X.2.2.2.1 (.fieldLink RX11 241 "SilkMill$Skein" "strand" "LSilkMill$Strand;") (by decide +kernel)) rfl (gv_703 _ _) dX11_piece_120 ?_
          obtain ⟨q_68, h_69, h_70, h_71, h_74⟩ := gC_9_908 hG h_19
          obtain ⟨n_72, h_73⟩ : ∃ n, pN S q_68 = n := ⟨_, rfl⟩
          rw [ev_21, h_73] at h_71
          rw [h_73] at h_74
          refine r_getR (g := 908) X hw h_19 rfl 8 h_69 (by decide) rfl inn_X11_piece_9 (by decide) (X.2.2.2.1 (.fieldLink RX11 284 "SilkMill$Strand" "places" "[I") (by decide +kernel)) rfl (gv_908 _ _) dX11_piece_123 ?_
          refine lv_iload_n X.1 X.2.1 dX11_piece_126 rfl (lv_at hl 3 rfl) ?_
          refine r_iald X hw h_70 rfl (by rw [h_73]; exact z_ix hz_a2 (by omega) (by omega)) dX11_piece_127 ?_
          refine lv_topi (fun v_75 ev_75 => ?_)
          have rg_76 := And.intro (z_lo v_75) (z_hi v_75)
          have ev_75 := ev_75.symm
          exact ret_i X hw hr hlocks (Nat.le_of_ble_eq_true rfl) (Nat.le_of_ble_eq_true rfl) ⟨rfl, trivial⟩ dX11_piece_128
      · have z_b_77 := trivial
        have k_78 : a2_z ≥ v_21.toInt := z_nlt hz_a2 rfl c_24
        refine lv_iconst (v := (-1)) X.1 X.2.1 dX11_piece_31 (by decide) ?_
        exact ret_i X hw hr hlocks (Nat.le_of_ble_eq_true rfl) (Nat.le_of_ble_eq_true rfl) ⟨rfl, trivial⟩ dX11_piece_32
set_option maxHeartbeats 4000000 in
set_option maxRecDepth 100000 in
theorem k_X11_copy (l : Launch) (G : va_G) (cy : Nat → ClassId) (κ : Nat → Nat) (S : PS) (sz : Nat) (x : Nat) (a1 : Int32) (a1_z : Int) (a2 : Int32) (a2_z : Int) (a3 : Int32) (a3_z : Int) (a4 : Int32) (a4_z : Int) (a5 : Int32) (a5_z : Int) (hG : GX S) (ha_x : At S x 11) (hz_a1 : a1.toInt = a1_z) (hz_a2 : a2.toInt = a2_z) (hz_a3 : a3.toInt = a3_z) (hz_a4 : a4.toInt = a4_z) (hz_a5 : a5.toInt = a5_z) : Ci l yX11_copy wsX11_copy ({ frames := 2, cells := 0, slots := 0, locals := 96 }) G cy κ S sz [.ref x, .int (a1), .int (a2), .int (a3), .int (a4), .int (a5)] (fun (r : Int32) (S9 : PS) => Ok eWD S S9 ∧ (((True) ∧ r = 1) ∨ ((True) ∧ r = 0))) := by
  refine ent_m (cc := cX11_copy) (maxL := 8) (ret := (some .boolean)) (by decide) rfl (Nat.le_of_ble_eq_true rfl) ?_
  intro p e s m below meth c ls X hr hlocks hin hw hl hsz
  subst hsz
  have X : Cx p c cX11_copy 8 s [.ref x, .int (a1), .int (a2), .int (a3), .int (a4), .int (a5)].toArray wsX11_copy RX11 m G cy κ (AS S s.heap.size) := X
  have hl : lv_has ls 8 [(0, .ref x), (1, .int (a1)), (2, .int (a2)), (3, .int (a3)), (4, .int (a4)), (5, .int (a5))] := hl
  have rg_a1 : (-2147483648) ≤ a1_z ∧ a1_z ≤ 2147483647 := by rw [← hz_a1]; exact ⟨z_lo _, z_hi _⟩
  have rg_a2 : (-2147483648) ≤ a2_z ∧ a2_z ≤ 2147483647 := by rw [← hz_a2]; exact ⟨z_lo _, z_hi _⟩
  have rg_a3 : (-2147483648) ≤ a3_z ∧ a3_z ≤ 2147483647 := by rw [← hz_a3]; exact ⟨z_lo _, z_hi _⟩
  have rg_a4 : (-2147483648) ≤ a4_z ∧ a4_z ≤ 2147483647 := by rw [← hz_a4]; exact ⟨z_lo _, z_hi _⟩
  have rg_a5 : (-2147483648) ≤ a5_z ∧ a5_z ≤ 2147483647 := by rw [← hz_a5]; exact ⟨z_lo _, z_hi _⟩
  have hO : Ok eWD S S := Ok.rf hG
  refine lv_aload_n X.1 X.2.1 dX11_copy_0 rfl (lv_at hl 0 rfl) ?_
  refine lv_iload_n X.1 X.2.1 dX11_copy_1 rfl (lv_at hl 1 rfl) ?_
  refine k_q (rm := { frames := 1, cells := 0, slots := 0, locals := 48 }) (av := [.ref x, .int (a1)]) X hw (va_runV (As := [.int (a1)]) (rest := []) (cfix X) (k_X11_shelfAt l G cy κ S _ x (a1) (a1_z) hO.1 ha_x hz_a1) (cwV 1 X.2.2.2.1 gX11_copy_X11_shelfAt rfl rfl rfl (by decide +kernel) ⟨Nat.le_of_ble_eq_true rfl, Nat.le_of_ble_eq_true rfl⟩) (pre_V X hw _ ha_x rfl (by decide) rfl) rfl rfl hl.1 rfl (lv_room (Nat.le_of_ble_eq_true rfl)) dX11_copy_2 ⟨Nat.le_of_ble_eq_true rfl, Nat.le_of_ble_eq_true rfl⟩) 0 0 (Nat.le_of_ble_eq_true rfl) (Nat.le_of_ble_eq_true rfl) (fun rr_1 S_2 H locs hp hw hfr hnw => ?_)
  obtain ⟨e2, hp⟩ := hp
  subst e2
  have hq_3 := hp
  rcases rr_1 with _ | q_4
  · refine W.eq (g2 := F0 m 5 ls (.null :: [])) rfl ?_
    refine lv_astoreN (lv' := [(6, .null), (0, .ref x), (1, .int (a1)), (2, .int (a2)), (3, .int (a3)), (4, .int (a4)), (5, .int (a5))]) X.1 X.2.1 dX11_copy_5 hl (by decide) rfl (fun ls hl => ?_)
    refine lv_aload_n X.1 X.2.1 dX11_copy_7 rfl (lv_at hl 1 rfl) ?_
    refine lv_iload_n X.1 X.2.1 dX11_copy_8 rfl (lv_at hl 4 rfl) ?_
    refine k_q (rm := { frames := 1, cells := 0, slots := 0, locals := 48 }) (av := [.ref x, .int (a3)]) X hw (va_runV (As := [.int (a3)]) (rest := []) (cfix X) (k_X11_shelfAt l G cy κ S _ x (a3) (a3_z) hO.1 ha_x hz_a3) (cwV 1 X.2.2.2.1 gX11_copy_X11_shelfAt rfl rfl rfl (by decide +kernel) ⟨Nat.le_of_ble_eq_true rfl, Nat.le_of_ble_eq_true rfl⟩) (pre_V X hw _ ha_x rfl (by decide) rfl) rfl rfl hl.1 rfl (lv_room (Nat.le_of_ble_eq_true rfl)) dX11_copy_9 ⟨Nat.le_of_ble_eq_true rfl, Nat.le_of_ble_eq_true rfl⟩) 0 0 (Nat.le_of_ble_eq_true rfl) (Nat.le_of_ble_eq_true rfl) (fun rr_5 S_6 H locs hp hw hfr hnw => ?_)
    obtain ⟨e2, hp⟩ := hp
    subst e2
    have hq_7 := hp
    rcases rr_5 with _ | q_8
    · refine W.eq (g2 := F0 m 12 ls (.null :: [])) rfl ?_
      refine lv_astoreN (lv' := [(7, .null), (6, .null), (0, .ref x), (1, .int (a1)), (2, .int (a2)), (3, .int (a3)), (4, .int (a4)), (5, .int (a5))]) X.1 X.2.1 dX11_copy_12 hl (by decide) rfl (fun ls hl => ?_)
      refine lv_aloadN X.1 X.2.1 dX11_copy_14 (lv_at hl 1 rfl) ?_
      refine lv_ifnullN (tgt := 40) X.1 X.2.1 dX11_copy_16 (by decide) ?_
      refine lv_iconst (v := 0) X.1 X.2.1 dX11_copy_40 (by decide) ?_
      exact ret_z X hw hr hlocks (Nat.le_of_ble_eq_true rfl) (Nat.le_of_ble_eq_true rfl) (by decide) ⟨hO, Or.inr ⟨trivial, rfl⟩⟩ dX11_copy_41
    · refine W.eq (g2 := F0 m 12 ls (.ref q_8 :: [])) rfl ?_
      have ha_9 : At S q_8 3 := hq_7 _ rfl
      refine lv_astore (lv' := [(7, .ref q_8), (6, .null), (0, .ref x), (1, .int (a1)), (2, .int (a2)), (3, .int (a3)), (4, .int (a4)), (5, .int (a5))]) X.1 X.2.1 dX11_copy_12 hl (by decide) rfl (fun ls hl => ?_)
      refine lv_aloadN X.1 X.2.1 dX11_copy_14 (lv_at hl 1 rfl) ?_
      refine lv_ifnullN (tgt := 40) X.1 X.2.1 dX11_copy_16 (by decide) ?_
      refine lv_iconst (v := 0) X.1 X.2.1 dX11_copy_40 (by decide) ?_
      exact ret_z X hw hr hlocks (Nat.le_of_ble_eq_true rfl) (Nat.le_of_ble_eq_true rfl) (by decide) ⟨hO, Or.inr ⟨trivial, rfl⟩⟩ dX11_copy_41
  · refine W.eq (g2 := F0 m 5 ls (.ref q_4 :: [])) rfl ?_
    have ha_10 : At S q_4 3 := hq_3 _ rfl
    refine lv_astore (lv' := [(6, .ref q_4), (0, .ref x), (1, .int (a1)), (2, .int (a2)), (3, .int (a3)), (4, .int (a4)), (5, .int (a5))]) X.1 X.2.1 dX11_copy_5 hl (by decide) rfl (fun ls hl => ?_)
    refine lv_aload_n X.1 X.2.1 dX11_copy_7 rfl (lv_at hl 1 rfl) ?_
    refine lv_iload_n X.1 X.2.1 dX11_copy_8 rfl (lv_at hl 4 rfl) ?_
    refine k_q (rm := { frames := 1, cells := 0, slots := 0, locals := 48 }) (av := [.ref x, .int (a3)]) X hw (va_runV (As := [.int (a3)]) (rest := []) (cfix X) (k_X11_shelfAt l G cy κ S _ x (a3) (a3_z) hO.1 ha_x hz_a3) (cwV 1 X.2.2.2.1 gX11_copy_X11_shelfAt rfl rfl rfl (by decide +kernel) ⟨Nat.le_of_ble_eq_true rfl, Nat.le_of_ble_eq_true rfl⟩) (pre_V X hw _ ha_x rfl (by decide) rfl) rfl rfl hl.1 rfl (lv_room (Nat.le_of_ble_eq_true rfl)) dX11_copy_9 ⟨Nat.le_of_ble_eq_true rfl, Nat.le_of_ble_eq_true rfl⟩) 0 0 (Nat.le_of_ble_eq_true rfl) (Nat.le_of_ble_eq_true rfl) (fun rr_11 S_12 H locs hp hw hfr hnw => ?_)
    obtain ⟨e2, hp⟩ := hp
    subst e2
    have hq_13 := hp
    rcases rr_11 with _ | q_14
    · refine W.eq (g2 := F0 m 12 ls (.null :: [])) rfl ?_
      refine lv_astoreN (lv' := [(7, .null), (6, .ref q_4), (0, .ref x), (1, .int (a1)), (2, .int (a2)), (3, .int (a3)), (4, .int (a4)), (5, .int (a5))]) X.1 X.2.1 dX11_copy_12 hl (by decide) rfl (fun ls hl => ?_)
      refine lv_aload X.1 X.2.1 dX11_copy_14 (lv_at hl 1 rfl) ?_
      refine lv_ifnull X.1 X.2.1 dX11_copy_16 ?_
      refine lv_aloadN X.1 X.2.1 dX11_copy_19 (lv_at hl 0 rfl) ?_
      refine lv_ifnullN (tgt := 40) X.1 X.2.1 dX11_copy_21 (by decide) ?_
      refine lv_iconst (v := 0) X.1 X.2.1 dX11_copy_40 (by decide) ?_
      exact ret_z X hw hr hlocks (Nat.le_of_ble_eq_true rfl) (Nat.le_of_ble_eq_true rfl) (by decide) ⟨hO, Or.inr ⟨trivial, rfl⟩⟩ dX11_copy_41
    · refine W.eq (g2 := F0 m 12 ls (.ref q_14 :: [])) rfl ?_
      have ha_15 : At S q_14 3 := hq_13 _ rfl
      refine lv_astore (lv' := [(7, .ref q_14), (6, .ref q_4), (0, .ref x), (1, .int (a1)), (2, .int (a2)), (3, .int (a3)), (4, .int (a4)), (5, .int (a5))]) X.1 X.2.1 dX11_copy_12 hl (by decide) rfl (fun ls hl => ?_)
      refine lv_aload X.1 X.2.1 dX11_copy_14 (lv_at hl 1 rfl) ?_
      refine lv_ifnull X.1 X.2.1 dX11_copy_16 ?_
      refine lv_aload X.1 X.2.1 dX11_copy_19 (lv_at hl 0 rfl) ?_
      refine lv_ifnull X.1 X.2.1 dX11_copy_21 ?_
      refine lv_aload X.1 X.2.1 dX11_copy_24 (lv_at hl 1 rfl) ?_
      refine k_i (rm := { frames := 1, cells := 0, slots := 0, locals := 48 }) (av := [.ref q_4]) X hw (va_runV (As := []) (rest := []) (cfix X) (k_X3_hasRow l G cy κ S _ q_4 hO.1 ha_10) (cwV 0 X.2.2.2.1 gX11_copy_X3_hasRow rfl rfl rfl (by decide +kernel) ⟨Nat.le_of_ble_eq_true rfl, Nat.le_of_ble_eq_true rfl⟩) (pre_V X hw _ ha_10 rfl (by decide) rfl) rfl rfl hl.1 rfl (lv_room (Nat.le_of_ble_eq_true rfl)) dX11_copy_26 ⟨Nat.le_of_ble_eq_true rfl, Nat.le_of_ble_eq_true rfl⟩) 0 0 (Nat.le_of_ble_eq_true rfl) (Nat.le_of_ble_eq_true rfl) (fun rr_16 S_17 H locs hp hw hfr hnw => ?_)
      obtain ⟨e2, hp⟩ := hp
      subst e2
      rcases hp with ⟨f_18, er_19⟩ | ⟨f_18, er_19⟩ <;> subst er_19
      · have z_b_20 := trivial
        refine lv_if_eq (tgt := 40) X.1 X.2.1 dX11_copy_29 (by decide) (fun c_21 => absurd c_21 (by decide)) (fun c_21 => ?_)
        refine lv_aload X.1 X.2.1 dX11_copy_32 (lv_at hl 0 rfl) ?_
        refine k_i (rm := { frames := 1, cells := 0, slots := 0, locals := 48 }) (av := [.ref q_14]) X hw (va_runV (As := []) (rest := []) (cfix X) (k_X3_hasRow l G cy κ S _ q_14 hO.1 ha_15) (cwV 0 X.2.2.2.1 gX11_copy_X3_hasRow rfl rfl rfl (by decide +kernel) ⟨Nat.le_of_ble_eq_true rfl, Nat.le_of_ble_eq_true rfl⟩) (pre_V X hw _ ha_15 rfl (by decide) rfl) rfl rfl hl.1 rfl (lv_room (Nat.le_of_ble_eq_true rfl)) dX11_copy_34 ⟨Nat.le_of_ble_eq_true rfl, Nat.le_of_ble_eq_true rfl⟩) 0 0 (Nat.le_of_ble_eq_true rfl) (Nat.le_of_ble_eq_true rfl) (fun rr_22 S_23 H locs hp hw hfr hnw => ?_)
        obtain ⟨e2, hp⟩ := hp
        subst e2
        rcases hp with ⟨f_24, er_25⟩ | ⟨f_24, er_25⟩ <;> subst er_25
        · have z_b_26 := trivial
          refine lv_if_ne (tgt := 42) X.1 X.2.1 dX11_copy_37 (by decide) (fun c_27 => ?_) (fun c_27 => absurd c_27 (by decide))
          refine lv_iload_n X.1 X.2.1 dX11_copy_42 rfl (lv_at hl 4 rfl) ?_
          refine lv_iload X.1 X.2.1 dX11_copy_43 (lv_at hl 7 rfl) ?_
          refine lv_aload X.1 X.2.1 dX11_copy_45 (lv_at hl 1 rfl) ?_
          obtain ⟨v_28, ev_28⟩ : ∃ v, pI S 301 q_4 = v := ⟨_, rfl⟩
          have rg_29 := gI_3_301 hO.1 ha_10; rw [ev_28] at rg_29
          refine r_getI (g := 301) (x := v_28) X hw ha_10 rfl 1 ev_28 (by decide) rfl inn_X11_copy_3 (by decide) (X.2.2.2.1 (.fieldLink RX11 324 "SilkMill$Place" "wordSize" "I") (by decide +kernel)) rfl (gv_301 _ _) dX11_copy_47 ?_
          refine k_i (rm := { frames := 1, cells := 0, slots := 0, locals := 48 }) (av := [.int (a2), .int (a5), .int (v_28)]) X hw (va_runS (As := [.int (a2), .int (a5), .int (v_28)]) (rest := []) (cfix X) (k_X11_isStretch l G cy κ S _ (a2) (a2_z) (a5) (a5_z) (v_28) (v_28.toInt) hO.1 hz_a2 hz_a5 rfl (by omega)) (cwS 3 X.2.2.2.1 gX11_copy_X11_isStretch rfl rfl rfl (by decide +kernel) ⟨Nat.le_of_ble_eq_true rfl, Nat.le_of_ble_eq_true rfl⟩) (pre_S X hw _) rfl rfl hl.1 rfl (lv_room (Nat.le_of_ble_eq_true rfl)) dX11_copy_50 ⟨Nat.le_of_ble_eq_true rfl, Nat.le_of_ble_eq_true rfl⟩) 0 0 (Nat.le_of_ble_eq_true rfl) (Nat.le_of_ble_eq_true rfl) (fun rr_30 S_31 H locs hp hw hfr hnw => ?_)
          obtain ⟨e2, hp⟩ := hp
          subst e2
          rcases hp with ⟨f_32, er_33⟩ | ⟨f_32, er_33⟩ <;> subst er_33
          · have z_b_34 := trivial
            refine lv_if_eq (tgt := 71) X.1 X.2.1 dX11_copy_53 (by decide) (fun c_35 => absurd c_35 (by decide)) (fun c_35 => ?_)
            refine lv_iload X.1 X.2.1 dX11_copy_56 (lv_at hl 6 rfl) ?_
            refine lv_iload X.1 X.2.1 dX11_copy_58 (lv_at hl 7 rfl) ?_
            refine lv_aload X.1 X.2.1 dX11_copy_60 (lv_at hl 0 rfl) ?_
            obtain ⟨v_36, ev_36⟩ : ∃ v, pI S 301 q_14 = v := ⟨_, rfl⟩
            have rg_37 := gI_3_301 hO.1 ha_15; rw [ev_36] at rg_37
            refine r_getI (g := 301) (x := v_36) X hw ha_15 rfl 1 ev_36 (by decide) rfl inn_X11_copy_3 (by decide) (X.2.2.2.1 (.fieldLink RX11 324 "SilkMill$Place" "wordSize" "I") (by decide +kernel)) rfl (gv_301 _ _) dX11_copy_62 ?_
            refine k_i (rm := { frames := 1, cells := 0, slots := 0, locals := 48 }) (av := [.int (a4), .int (a5), .int (v_36)]) X hw (va_runS (As := [.int (a4), .int (a5), .int (v_36)]) (rest := []) (cfix X) (k_X11_isStretch l G cy κ S _ (a4) (a4_z) (a5) (a5_z) (v_36) (v_36.toInt) hO.1 hz_a4 hz_a5 rfl (by omega)) (cwS 3 X.2.2.2.1 gX11_copy_X11_isStretch rfl rfl rfl (by decide +kernel) ⟨Nat.le_of_ble_eq_true rfl, Nat.le_of_ble_eq_true rfl⟩) (pre_S X hw _) rfl rfl hl.1 rfl (lv_room (Nat.le_of_ble_eq_true rfl)) dX11_copy_65 ⟨Nat.le_of_ble_eq_true rfl, Nat.le_of_ble_eq_true rfl⟩) 0 0 (Nat.le_of_ble_eq_true rfl) (Nat.le_of_ble_eq_true rfl) (fun rr_38 S_39 H locs hp hw hfr hnw => ?_)
            obtain ⟨e2, hp⟩ := hp
            subst e2
            rcases hp with ⟨f_40, er_41⟩ | ⟨f_40, er_41⟩ <;> subst er_41
            · have z_b_42 := trivial
              refine lv_if_ne (tgt := 73) X.1 X.2.1 dX11_copy_68 (by decide) (fun c_43 => ?_) (fun c_43 => absurd c_43 (by decide))
              refine lv_aload X.1 X.2.1 dX11_copy_73 (lv_at hl 1 rfl) ?_
              obtain ⟨q_44, h_45, h_46, h_47⟩ := gQ_3_302 hO.1 ha_10
              refine r_getR (g := 302) X hw ha_10 rfl 2 h_45 (by decide) rfl inn_X11_copy_3 (by decide) (X.2.2.2.1 (.fieldLink RX11 336 "SilkMill$Place" "word" "[I") (by decide +kernel)) rfl (gv_302 _ _) dX11_copy_75 ?_
              refine lv_iload_n X.1 X.2.1 dX11_copy_78 rfl (lv_at hl 4 rfl) ?_
              refine lv_aload X.1 X.2.1 dX11_copy_79 (lv_at hl 0 rfl) ?_
              obtain ⟨q_48, h_49, h_50, h_51⟩ := gQ_3_302 hO.1 ha_15
              refine r_getR (g := 302) X hw ha_15 rfl 2 h_49 (by decide) rfl inn_X11_copy_3 (by decide) (X.2.2.2.1 (.fieldLink RX11 336 "SilkMill$Place" "word" "[I") (by decide +kernel)) rfl (gv_302 _ _) dX11_copy_81 ?_
              refine lv_iload X.1 X.2.1 dX11_copy_84 (lv_at hl 6 rfl) ?_
              refine lv_iload X.1 X.2.1 dX11_copy_86 (lv_at hl 7 rfl) ?_
              refine r_copyI X hw hl h_46 rfl h_50 rfl (X.2.2.2.1 (.methodLink RX11 118 arraycopyName) (by decide +kernel)) (X.2.2.2.1 (.native arraycopyName) (by decide +kernel)) (X.2.2.2.1 (.static arraycopyName) (by decide +kernel)) (X.2.2.2.1 (.initialized "java/lang/System") (by decide +kernel)) (by rw [h_47]; exact z_cp hz_a2 hz_a5 (by omega) (by omega) (by omega)) (by rw [h_51]; exact z_cp hz_a4 hz_a5 (by omega) (by omega) (by omega)) (z_nn hz_a2 (by omega)) (z_nn hz_a4 (by omega)) (z_nn hz_a5 (by omega)) (Nat.le_of_ble_eq_true rfl) (Nat.le_of_ble_eq_true rfl) dX11_copy_88 (fun H locs hw => ?_)
              obtain ⟨S_52, eS_52⟩ : ∃ T, T = sA S q_48 (va_cpy (pA S q_44) (pA S q_48) (Int32.toNatClampNeg (a2)) (Int32.toNatClampNeg (a4)) (Int32.toNatClampNeg (a5))) := ⟨_, rfl⟩
              rw [← eS_52] at hw
              have hO_53 : Ok eWD S S_52 := hO.sA eS_52 h_50 (by decide +kernel) (uA_114 hO.1 h_50)
              refine lv_iconst (v := 1) X.1 X.2.1 dX11_copy_91 (by decide) ?_
              exact ret_z X hw hr hlocks (Nat.le_of_ble_eq_true rfl) (Nat.le_of_ble_eq_true rfl) (by decide) ⟨hO_53, Or.inl ⟨trivial, rfl⟩⟩ dX11_copy_92
            · have z_b_54 := trivial
              refine lv_if_ne (tgt := 73) X.1 X.2.1 dX11_copy_68 (by decide) (fun c_55 => absurd c_55 (by decide)) (fun c_55 => ?_)
              refine lv_iconst (v := 0) X.1 X.2.1 dX11_copy_71 (by decide) ?_
              exact ret_z X hw hr hlocks (Nat.le_of_ble_eq_true rfl) (Nat.le_of_ble_eq_true rfl) (by decide) ⟨hO, Or.inr ⟨trivial, rfl⟩⟩ dX11_copy_72
          · have z_b_56 := trivial
            refine lv_if_eq (tgt := 71) X.1 X.2.1 dX11_copy_53 (by decide) (fun c_57 => ?_) (fun c_57 => absurd c_57 (by decide))
            refine lv_iconst (v := 0) X.1 X.2.1 dX11_copy_71 (by decide) ?_
            exact ret_z X hw hr hlocks (Nat.le_of_ble_eq_true rfl) (Nat.le_of_ble_eq_true rfl) (by decide) ⟨hO, Or.inr ⟨trivial, rfl⟩⟩ dX11_copy_72
        · have z_b_58 := trivial
          refine lv_if_ne (tgt := 42) X.1 X.2.1 dX11_copy_37 (by decide) (fun c_59 => absurd c_59 (by decide)) (fun c_59 => ?_)
          refine lv_iconst (v := 0) X.1 X.2.1 dX11_copy_40 (by decide) ?_
          exact ret_z X hw hr hlocks (Nat.le_of_ble_eq_true rfl) (Nat.le_of_ble_eq_true rfl) (by decide) ⟨hO, Or.inr ⟨trivial, rfl⟩⟩ dX11_copy_41
      · have z_b_60 := trivial
        refine lv_if_eq (tgt := 40) X.1 X.2.1 dX11_copy_29 (by decide) (fun c_61 => ?_) (fun c_61 => absurd c_61 (by decide))
        refine lv_iconst (v := 0) X.1 X.2.1 dX11_copy_40 (by decide) ?_
        exact ret_z X hw hr hlocks (Nat.le_of_ble_eq_true rfl) (Nat.le_of_ble_eq_true rfl) (by decide) ⟨hO, Or.inr ⟨trivial, rfl⟩⟩ dX11_copy_41
set_option maxHeartbeats 4000000 in
set_option maxRecDepth 100000 in
theorem k_X11_number (l : Launch) (G : va_G) (cy : Nat → ClassId) (κ : Nat → Nat) (S : PS) (sz : Nat) (x : Nat) (a1 : Int32) (a1_z : Int) (a2 : Int32) (a2_z : Int) (hG : GX S) (ha_x : At S x 11) (hz_a1 : a1.toInt = a1_z) (hz_a2 : a2.toInt = a2_z) : Ci l yX11_number wsX11_number ({ frames := 2, cells := 0, slots := 0, locals := 96 }) G cy κ S sz [.ref x, .int (a1), .int (a2)] (fun (r : Int32) (S9 : PS) => S = S9 ∧ (True)) := by
  refine ent_m (cc := cX11_number) (maxL := 4) (ret := (some .int)) (by decide) rfl (Nat.le_of_ble_eq_true rfl) ?_
  intro p e s m below meth c ls X hr hlocks hin hw hl hsz
  subst hsz
  have X : Cx p c cX11_number 4 s [.ref x, .int (a1), .int (a2)].toArray wsX11_number RX11 m G cy κ (AS S s.heap.size) := X
  have hl : lv_has ls 4 [(0, .ref x), (1, .int (a1)), (2, .int (a2))] := hl
  have rg_a1 : (-2147483648) ≤ a1_z ∧ a1_z ≤ 2147483647 := by rw [← hz_a1]; exact ⟨z_lo _, z_hi _⟩
  have rg_a2 : (-2147483648) ≤ a2_z ∧ a2_z ≤ 2147483647 := by rw [← hz_a2]; exact ⟨z_lo _, z_hi _⟩
  refine lv_aload_n X.1 X.2.1 dX11_number_0 rfl (lv_at hl 0 rfl) ?_
  refine lv_iload_n X.1 X.2.1 dX11_number_1 rfl (lv_at hl 1 rfl) ?_
  refine k_q (rm := { frames := 1, cells := 0, slots := 0, locals := 48 }) (av := [.ref x, .int (a1)]) X hw (va_runV (As := [.int (a1)]) (rest := []) (cfix X) (k_X11_shelfAt l G cy κ S _ x (a1) (a1_z) hG ha_x hz_a1) (cwV 1 X.2.2.2.1 gX11_number_X11_shelfAt rfl rfl rfl (by decide +kernel) ⟨Nat.le_of_ble_eq_true rfl, Nat.le_of_ble_eq_true rfl⟩) (pre_V X hw _ ha_x rfl (by decide) rfl) rfl rfl hl.1 rfl (lv_room (Nat.le_of_ble_eq_true rfl)) dX11_number_2 ⟨Nat.le_of_ble_eq_true rfl, Nat.le_of_ble_eq_true rfl⟩) 0 0 (Nat.le_of_ble_eq_true rfl) (Nat.le_of_ble_eq_true rfl) (fun rr_1 S_2 H locs hp hw hfr hnw => ?_)
  obtain ⟨e2, hp⟩ := hp
  subst e2
  have hq_3 := hp
  rcases rr_1 with _ | q_4
  · refine W.eq (g2 := F0 m 5 ls (.null :: [])) rfl ?_
    refine lv_astore_nN (lv' := [(3, .null), (0, .ref x), (1, .int (a1)), (2, .int (a2))]) X.1 X.2.1 dX11_number_5 rfl hl (by decide) rfl (fun ls hl => ?_)
    refine lv_aload_nN X.1 X.2.1 dX11_number_6 rfl (lv_at hl 0 rfl) ?_
    refine lv_ifnullN (tgt := 29) X.1 X.2.1 dX11_number_7 (by decide) ?_
    refine lv_iconst (v := (-1)) X.1 X.2.1 dX11_number_29 (by decide) ?_
    exact ret_i X hw hr hlocks (Nat.le_of_ble_eq_true rfl) (Nat.le_of_ble_eq_true rfl) ⟨rfl, trivial⟩ dX11_number_30
  · refine W.eq (g2 := F0 m 5 ls (.ref q_4 :: [])) rfl ?_
    have ha_5 : At S q_4 3 := hq_3 _ rfl
    refine lv_astore_n (lv' := [(3, .ref q_4), (0, .ref x), (1, .int (a1)), (2, .int (a2))]) X.1 X.2.1 dX11_number_5 rfl hl (by decide) rfl (fun ls hl => ?_)
    refine lv_aload_n X.1 X.2.1 dX11_number_6 rfl (lv_at hl 0 rfl) ?_
    refine lv_ifnull X.1 X.2.1 dX11_number_7 ?_
    refine lv_aload_n X.1 X.2.1 dX11_number_10 rfl (lv_at hl 0 rfl) ?_
    refine k_i (rm := { frames := 1, cells := 0, slots := 0, locals := 48 }) (av := [.ref q_4]) X hw (va_runV (As := []) (rest := []) (cfix X) (k_X3_hasRow l G cy κ S _ q_4 hG ha_5) (cwV 0 X.2.2.2.1 gX11_number_X3_hasRow rfl rfl rfl (by decide +kernel) ⟨Nat.le_of_ble_eq_true rfl, Nat.le_of_ble_eq_true rfl⟩) (pre_V X hw _ ha_5 rfl (by decide) rfl) rfl rfl hl.1 rfl (lv_room (Nat.le_of_ble_eq_true rfl)) dX11_number_11 ⟨Nat.le_of_ble_eq_true rfl, Nat.le_of_ble_eq_true rfl⟩) 0 0 (Nat.le_of_ble_eq_true rfl) (Nat.le_of_ble_eq_true rfl) (fun rr_6 S_7 H locs hp hw hfr hnw => ?_)
    obtain ⟨e2, hp⟩ := hp
    subst e2
    rcases hp with ⟨f_8, er_9⟩ | ⟨f_8, er_9⟩ <;> subst er_9
    · have z_b_10 := trivial
      refine lv_if_eq (tgt := 29) X.1 X.2.1 dX11_number_14 (by decide) (fun c_11 => absurd c_11 (by decide)) (fun c_11 => ?_)
      refine lv_iload_n X.1 X.2.1 dX11_number_17 rfl (lv_at hl 3 rfl) ?_
      refine lv_if_lt (tgt := 29) X.1 X.2.1 dX11_number_18 (by decide) (fun c_12 => ?_) (fun c_12 => ?_)
      · have z_b_13 := trivial
        have k_14 : a2_z < 0 := z_lt hz_a2 ti_0 c_12
        refine lv_iconst (v := (-1)) X.1 X.2.1 dX11_number_29 (by decide) ?_
        exact ret_i X hw hr hlocks (Nat.le_of_ble_eq_true rfl) (Nat.le_of_ble_eq_true rfl) ⟨rfl, trivial⟩ dX11_number_30
      · have z_b_15 := trivial
        have k_16 : a2_z ≥ 0 := z_nlt hz_a2 ti_0 c_12
        refine lv_iload_n X.1 X.2.1 dX11_number_21 rfl (lv_at hl 3 rfl) ?_
        refine lv_aload_n X.1 X.2.1 dX11_number_22 rfl (lv_at hl 0 rfl) ?_
        obtain ⟨v_17, ev_17⟩ : ∃ v, pI S 301 q_4 = v := ⟨_, rfl⟩
        have rg_18 := gI_3_301 hG ha_5; rw [ev_17] at rg_18
        refine r_getI (g := 301) (x := v_17) X hw ha_5 rfl 1 ev_17 (by decide) rfl inn_X11_number_3 (by decide) (X.2.2.2.1 (.fieldLink RX11 324 "SilkMill$Place" "wordSize" "I") (by decide +kernel)) rfl (gv_301 _ _) dX11_number_23 ?_
        refine lv_icmp_lt (tgt := 31) X.1 X.2.1 dX11_number_26 (by decide) (fun c_19 => ?_) (fun c_19 => ?_)
        · have z_b_20 := trivial
          have k_21 : a2_z < v_17.toInt := z_lt hz_a2 rfl c_19
          refine lv_aload_n X.1 X.2.1 dX11_number_31 rfl (lv_at hl 0 rfl) ?_
          obtain ⟨q_22, h_23, h_24, h_25⟩ := gQ_3_302 hG ha_5
          refine r_getR (g := 302) X hw ha_5 rfl 2 h_23 (by decide) rfl inn_X11_number_3 (by decide) (X.2.2.2.1 (.fieldLink RX11 336 "SilkMill$Place" "word" "[I") (by decide +kernel)) rfl (gv_302 _ _) dX11_number_32 ?_
          refine lv_iload_n X.1 X.2.1 dX11_number_35 rfl (lv_at hl 3 rfl) ?_
          refine r_iald X hw h_24 rfl (by rw [h_25]; exact z_ix hz_a2 (by omega) (by omega)) dX11_number_36 ?_
          refine lv_topi (fun v_26 ev_26 => ?_)
          have rg_27 := And.intro (z_lo v_26) (z_hi v_26)
          have ev_26 := ev_26.symm
          exact ret_i X hw hr hlocks (Nat.le_of_ble_eq_true rfl) (Nat.le_of_ble_eq_true rfl) ⟨rfl, trivial⟩ dX11_number_37
        · have z_b_28 := trivial
          have k_29 : a2_z ≥ v_17.toInt := z_nlt hz_a2 rfl c_19
          refine lv_iconst (v := (-1)) X.1 X.2.1 dX11_number_29 (by decide) ?_
          exact ret_i X hw hr hlocks (Nat.le_of_ble_eq_true rfl) (Nat.le_of_ble_eq_true rfl) ⟨rfl, trivial⟩ dX11_number_30
    · have z_b_30 := trivial
      refine lv_if_eq (tgt := 29) X.1 X.2.1 dX11_number_14 (by decide) (fun c_31 => ?_) (fun c_31 => absurd c_31 (by decide))
      refine lv_iconst (v := (-1)) X.1 X.2.1 dX11_number_29 (by decide) ?_
      exact ret_i X hw hr hlocks (Nat.le_of_ble_eq_true rfl) (Nat.le_of_ble_eq_true rfl) ⟨rfl, trivial⟩ dX11_number_30
set_option maxHeartbeats 4000000 in
set_option maxRecDepth 100000 in
theorem k_X11_price (l : Launch) (G : va_G) (cy : Nat → ClassId) (κ : Nat → Nat) (S : PS) (sz : Nat) (x : Nat) (a1 : Int32) (a1_z : Int) (a2 : Int32) (a2_z : Int) (hG : GX S) (ha_x : At S x 11) (hz_a1 : a1.toInt = a1_z) (hz_a2 : a2.toInt = a2_z) : Ci l yX11_price wsX11_price ({ frames := 2, cells := 0, slots := 0, locals := 96 }) G cy κ S sz [.ref x, .int (a1), .int (a2)] (fun (r : Int32) (S9 : PS) => Ok ePR S S9 ∧ (((0 ≤ a1_z ∧ a1_z ≤ 3 ∧ 0 ≤ a2_z ∧ a2_z ≤ 1000) ∧ r = 1) ∨ ((¬ (0 ≤ a1_z ∧ a1_z ≤ 3 ∧ 0 ≤ a2_z ∧ a2_z ≤ 1000)) ∧ r = 0))) := by
  refine ent_m (cc := cX11_price) (maxL := 3) (ret := (some .boolean)) (by decide) rfl (Nat.le_of_ble_eq_true rfl) ?_
  intro p e s m below meth c ls X hr hlocks hin hw hl hsz
  subst hsz
  have X : Cx p c cX11_price 3 s [.ref x, .int (a1), .int (a2)].toArray wsX11_price RX11 m G cy κ (AS S s.heap.size) := X
  have hl : lv_has ls 3 [(0, .ref x), (1, .int (a1)), (2, .int (a2))] := hl
  have rg_a1 : (-2147483648) ≤ a1_z ∧ a1_z ≤ 2147483647 := by rw [← hz_a1]; exact ⟨z_lo _, z_hi _⟩
  have rg_a2 : (-2147483648) ≤ a2_z ∧ a2_z ≤ 2147483647 := by rw [← hz_a2]; exact ⟨z_lo _, z_hi _⟩
  have hO : Ok ePR S S := Ok.rf hG
  refine lv_iload_n X.1 X.2.1 dX11_price_0 rfl (lv_at hl 1 rfl) ?_
  refine lv_iconst (v := 0) X.1 X.2.1 dX11_price_1 (by decide) ?_
  refine lv_iconst (v := 3) X.1 X.2.1 dX11_price_2 (by decide) ?_
  refine k_i (rm := { frames := 1, cells := 0, slots := 0, locals := 48 }) (av := [.int (a1), .int 0, .int 3]) X hw (va_runS (As := [.int (a1), .int 0, .int 3]) (rest := []) (cfix X) (k_X11_isWithin l G cy κ S _ (a1) (a1_z) (0) (0) (3) (3) hO.1 hz_a1 ti_0 ti_3) (cwS 3 X.2.2.2.1 gX11_price_X11_isWithin rfl rfl rfl (by decide +kernel) ⟨Nat.le_of_ble_eq_true rfl, Nat.le_of_ble_eq_true rfl⟩) (pre_S X hw _) rfl rfl hl.1 rfl (lv_room (Nat.le_of_ble_eq_true rfl)) dX11_price_3 ⟨Nat.le_of_ble_eq_true rfl, Nat.le_of_ble_eq_true rfl⟩) 0 0 (Nat.le_of_ble_eq_true rfl) (Nat.le_of_ble_eq_true rfl) (fun rr_1 S_2 H locs hp hw hfr hnw => ?_)
  obtain ⟨e2, hp⟩ := hp
  subst e2
  rcases hp with ⟨f_3, er_4⟩ | ⟨f_3, er_4⟩ <;> subst er_4
  · have z_b_5 := trivial
    refine lv_if_eq (tgt := 20) X.1 X.2.1 dX11_price_6 (by decide) (fun c_6 => absurd c_6 (by decide)) (fun c_6 => ?_)
    refine lv_iload_n X.1 X.2.1 dX11_price_9 rfl (lv_at hl 2 rfl) ?_
    refine lv_iconst (v := 0) X.1 X.2.1 dX11_price_10 (by decide) ?_
    refine lv_sipush (v := 1000) X.1 X.2.1 dX11_price_11 (by decide) ?_
    refine k_i (rm := { frames := 1, cells := 0, slots := 0, locals := 48 }) (av := [.int (a2), .int 0, .int 1000]) X hw (va_runS (As := [.int (a2), .int 0, .int 1000]) (rest := []) (cfix X) (k_X11_isWithin l G cy κ S _ (a2) (a2_z) (0) (0) (1000) (1000) hO.1 hz_a2 ti_0 ti_1000) (cwS 3 X.2.2.2.1 gX11_price_X11_isWithin rfl rfl rfl (by decide +kernel) ⟨Nat.le_of_ble_eq_true rfl, Nat.le_of_ble_eq_true rfl⟩) (pre_S X hw _) rfl rfl hl.1 rfl (lv_room (Nat.le_of_ble_eq_true rfl)) dX11_price_14 ⟨Nat.le_of_ble_eq_true rfl, Nat.le_of_ble_eq_true rfl⟩) 0 0 (Nat.le_of_ble_eq_true rfl) (Nat.le_of_ble_eq_true rfl) (fun rr_7 S_8 H locs hp hw hfr hnw => ?_)
    obtain ⟨e2, hp⟩ := hp
    subst e2
    rcases hp with ⟨f_9, er_10⟩ | ⟨f_9, er_10⟩ <;> subst er_10
    · have z_b_11 := trivial
      refine lv_if_ne (tgt := 22) X.1 X.2.1 dX11_price_17 (by decide) (fun c_12 => ?_) (fun c_12 => absurd c_12 (by decide))
      refine lv_aload_n X.1 X.2.1 dX11_price_22 rfl (lv_at hl 0 rfl) ?_
      obtain ⟨q_13, h_14, h_15⟩ := gQ_11_1107 hO.1 ha_x
      refine r_getR (g := 1107) X hw ha_x rfl 7 h_14 (by decide) rfl inn_X11_price_11 (by decide) (X.2.2.2.1 (.fieldLink RX11 42 "SilkMill" "store" "LSilkMill$Store;") (by decide +kernel)) rfl (gv_1107 _ _) dX11_price_23 ?_
      obtain ⟨q_17, h_18, h_19, h_20⟩ := gQ_8_807 hO.1 h_15
      refine r_getR (g := 807) X hw h_15 rfl 7 h_18 (by decide) rfl inn_X11_price_8 (by decide) (X.2.2.2.1 (.fieldLink RX11 339 "SilkMill$Store" "prices" "[I") (by decide +kernel)) rfl (gv_807 _ _) dX11_price_26 ?_
      refine lv_iload_n X.1 X.2.1 dX11_price_29 rfl (lv_at hl 1 rfl) ?_
      refine lv_iload_n X.1 X.2.1 dX11_price_30 rfl (lv_at hl 2 rfl) ?_
      refine r_iast X hw h_19 rfl (by rw [h_20]; exact z_ix hz_a1 (by omega) (by omega)) dX11_price_31 (fun H locs hw => ?_)
      obtain ⟨S_21, eS_21⟩ : ∃ T, T = sA S q_17 (upd (pA S q_17) (Int32.toNatClampNeg (a1)) (a2)) := ⟨_, rfl⟩
      rw [← eS_21] at hw
      have hO_22 : Ok ePR S S_21 := hO.sA eS_21 h_19 (by decide +kernel) (uA_154 hO.1 h_19)
      have h_23 : pA S_21 q_17 (Int32.toNatClampNeg (a1)) = a2 := tA_sAs eS_21
      refine lv_iconst (v := 1) X.1 X.2.1 dX11_price_32 (by decide) ?_
      exact ret_z X hw hr hlocks (Nat.le_of_ble_eq_true rfl) (Nat.le_of_ble_eq_true rfl) (by decide) ⟨hO_22, Or.inl ⟨by omega, rfl⟩⟩ dX11_price_33
    · have z_b_24 := trivial
      refine lv_if_ne (tgt := 22) X.1 X.2.1 dX11_price_17 (by decide) (fun c_25 => absurd c_25 (by decide)) (fun c_25 => ?_)
      refine lv_iconst (v := 0) X.1 X.2.1 dX11_price_20 (by decide) ?_
      exact ret_z X hw hr hlocks (Nat.le_of_ble_eq_true rfl) (Nat.le_of_ble_eq_true rfl) (by decide) ⟨hO, Or.inr ⟨by omega, rfl⟩⟩ dX11_price_21
  · have z_b_26 := trivial
    refine lv_if_eq (tgt := 20) X.1 X.2.1 dX11_price_6 (by decide) (fun c_27 => ?_) (fun c_27 => absurd c_27 (by decide))
    refine lv_iconst (v := 0) X.1 X.2.1 dX11_price_20 (by decide) ?_
    exact ret_z X hw hr hlocks (Nat.le_of_ble_eq_true rfl) (Nat.le_of_ble_eq_true rfl) (by decide) ⟨hO, Or.inr ⟨by omega, rfl⟩⟩ dX11_price_21
set_option maxHeartbeats 4000000 in
set_option maxRecDepth 100000 in
theorem k_X11_mix (l : Launch) (G : va_G) (cy : Nat → ClassId) (κ : Nat → Nat) (S : PS) (sz : Nat) (x : Nat) (a1 : Int32) (a1_z : Int) (a2 : Int32) (a2_z : Int) (a3 : Int32) (a3_z : Int) (a4 : Int32) (a4_z : Int) (hG : GX S) (ha_x : At S x 11) (hz_a1 : a1.toInt = a1_z) (hz_a2 : a2.toInt = a2_z) (hz_a3 : a3.toInt = a3_z) (hz_a4 : a4.toInt = a4_z) : Ci l yX11_mix wsX11_mix ({ frames := 18, cells := 0, slots := 0, locals := 864 }) G cy κ S sz [.ref x, .int (a1), .int (a2), .int (a3), .int (a4)] (fun (r : Int32) (S9 : PS) => Ok eMI S S9 ∧ (True)) := by
  refine ent_m (cc := cX11_mix) (maxL := 5) (ret := (some .int)) (by decide) rfl (Nat.le_of_ble_eq_true rfl) ?_
  intro p e s m below meth c ls X hr hlocks hin hw hl hsz
  subst hsz
  have X : Cx p c cX11_mix 5 s [.ref x, .int (a1), .int (a2), .int (a3), .int (a4)].toArray wsX11_mix RX11 m G cy κ (AS S s.heap.size) := X
  have hl : lv_has ls 5 [(0, .ref x), (1, .int (a1)), (2, .int (a2)), (3, .int (a3)), (4, .int (a4))] := hl
  have rg_a1 : (-2147483648) ≤ a1_z ∧ a1_z ≤ 2147483647 := by rw [← hz_a1]; exact ⟨z_lo _, z_hi _⟩
  have rg_a2 : (-2147483648) ≤ a2_z ∧ a2_z ≤ 2147483647 := by rw [← hz_a2]; exact ⟨z_lo _, z_hi _⟩
  have rg_a3 : (-2147483648) ≤ a3_z ∧ a3_z ≤ 2147483647 := by rw [← hz_a3]; exact ⟨z_lo _, z_hi _⟩
  have rg_a4 : (-2147483648) ≤ a4_z ∧ a4_z ≤ 2147483647 := by rw [← hz_a4]; exact ⟨z_lo _, z_hi _⟩
  have hO : Ok eMI S S := Ok.rf hG
  refine lv_iload_n X.1 X.2.1 dX11_mix_0 rfl (lv_at hl 1 rfl) ?_
  refine lv_iconst (v := 1) X.1 X.2.1 dX11_mix_1 (by decide) ?_
  refine lv_icmp_ge (tgt := 9) X.1 X.2.1 dX11_mix_2 (by decide) (fun c_1 => ?_) (fun c_1 => ?_)
  · have z_b_2 := trivial
    have k_3 : a1_z ≥ 1 := z_le ti_1 hz_a1 c_1
    refine lv_aload_n X.1 X.2.1 dX11_mix_9 rfl (lv_at hl 0 rfl) ?_
    obtain ⟨q_4, h_5, h_6⟩ := gQ_11_1107 hO.1 ha_x
    refine r_getR (g := 1107) X hw ha_x rfl 7 h_5 (by decide) rfl inn_X11_mix_11 (by decide) (X.2.2.2.1 (.fieldLink RX11 42 "SilkMill" "store" "LSilkMill$Store;") (by decide +kernel)) rfl (gv_1107 _ _) dX11_mix_10 ?_
    refine lv_iload_n X.1 X.2.1 dX11_mix_13 rfl (lv_at hl 1 rfl) ?_
    refine lv_iload_n X.1 X.2.1 dX11_mix_14 rfl (lv_at hl 2 rfl) ?_
    refine lv_iload_n X.1 X.2.1 dX11_mix_15 rfl (lv_at hl 3 rfl) ?_
    refine lv_iload X.1 X.2.1 dX11_mix_16 (lv_at hl 4 rfl) ?_
    refine k_i (rm := { frames := 17, cells := 0, slots := 0, locals := 816 }) (av := [.ref q_4, .int (a1), .int (a2), .int (a3), .int (a4)]) X hw (va_runV (As := [.int (a1), .int (a2), .int (a3), .int (a4)]) (rest := []) (cfix X) (k_X8_mixFor l G cy κ S _ q_4 (a1) (a1_z) (a2) (a2_z) (a3) (a3_z) (a4) (a4_z) hO.1 h_6 hz_a1 hz_a2 hz_a3 hz_a4) (cwV 4 X.2.2.2.1 gX11_mix_X8_mixFor rfl rfl rfl (by decide +kernel) ⟨Nat.le_of_ble_eq_true rfl, Nat.le_of_ble_eq_true rfl⟩) (pre_V X hw _ h_6 rfl (by decide) rfl) rfl rfl hl.1 rfl (lv_room (Nat.le_of_ble_eq_true rfl)) dX11_mix_18 ⟨Nat.le_of_ble_eq_true rfl, Nat.le_of_ble_eq_true rfl⟩) 0 0 (Nat.le_of_ble_eq_true rfl) (Nat.le_of_ble_eq_true rfl) (fun rr_8 S_9 H locs hp hw hfr hnw => ?_)
    obtain ⟨hk_10, hp⟩ := hp
    have hO_11 : Ok eMI S S_9 := hO.call hk_10 (by decide +kernel)
    have rg_12 := And.intro (z_lo rr_8) (z_hi rr_8)
    exact ret_i X hw hr hlocks (Nat.le_of_ble_eq_true rfl) (Nat.le_of_ble_eq_true rfl) ⟨hO_11, trivial⟩ dX11_mix_21
  · have z_b_13 := trivial
    have k_14 : a1_z < 1 := z_nle ti_1 hz_a1 c_1
    refine lv_iconst (v := (-1)) X.1 X.2.1 dX11_mix_5 (by decide) ?_
    refine lv_goto (tgt := 21) X.1 X.2.1 dX11_mix_6 (by decide) ?_
    exact ret_i X hw hr hlocks (Nat.le_of_ble_eq_true rfl) (Nat.le_of_ble_eq_true rfl) ⟨hO, trivial⟩ dX11_mix_21
set_option maxHeartbeats 4000000 in
set_option maxRecDepth 100000 in
theorem k_X11_mixed (l : Launch) (G : va_G) (cy : Nat → ClassId) (κ : Nat → Nat) (S : PS) (sz : Nat) (x : Nat) (a1 : Int32) (a1_z : Int) (hG : GX S) (ha_x : At S x 11) (hz_a1 : a1.toInt = a1_z) : Ci l yX11_mixed wsX11_mixed ({ frames := 2, cells := 0, slots := 0, locals := 96 }) G cy κ S sz [.ref x, .int (a1)] (fun (r : Int32) (S9 : PS) => S = S9 ∧ (((True) ∧ r = 1) ∨ ((True) ∧ r = 0))) := by
  refine ent_m (cc := cX11_mixed) (maxL := 3) (ret := (some .boolean)) (by decide) rfl (Nat.le_of_ble_eq_true rfl) ?_
  intro p e s m below meth c ls X hr hlocks hin hw hl hsz
  subst hsz
  have X : Cx p c cX11_mixed 3 s [.ref x, .int (a1)].toArray wsX11_mixed RX11 m G cy κ (AS S s.heap.size) := X
  have hl : lv_has ls 3 [(0, .ref x), (1, .int (a1))] := hl
  have rg_a1 : (-2147483648) ≤ a1_z ∧ a1_z ≤ 2147483647 := by rw [← hz_a1]; exact ⟨z_lo _, z_hi _⟩
  refine lv_aload_n X.1 X.2.1 dX11_mixed_0 rfl (lv_at hl 0 rfl) ?_
  obtain ⟨q_1, h_2, h_3⟩ := gQ_11_1107 hG ha_x
  refine r_getR (g := 1107) X hw ha_x rfl 7 h_2 (by decide) rfl inn_X11_mixed_11 (by decide) (X.2.2.2.1 (.fieldLink RX11 42 "SilkMill" "store" "LSilkMill$Store;") (by decide +kernel)) rfl (gv_1107 _ _) dX11_mixed_1 ?_
  refine lv_iload_n X.1 X.2.1 dX11_mixed_4 rfl (lv_at hl 1 rfl) ?_
  refine k_q (rm := { frames := 1, cells := 0, slots := 0, locals := 48 }) (av := [.ref q_1, .int (a1)]) X hw (va_runV (As := [.int (a1)]) (rest := []) (cfix X) (k_X8_skeinAt l G cy κ S _ q_1 (a1) (a1_z) hG h_3 hz_a1) (cwV 1 X.2.2.2.1 gX11_mixed_X8_skeinAt rfl rfl rfl (by decide +kernel) ⟨Nat.le_of_ble_eq_true rfl, Nat.le_of_ble_eq_true rfl⟩) (pre_V X hw _ h_3 rfl (by decide) rfl) rfl rfl hl.1 rfl (lv_room (Nat.le_of_ble_eq_true rfl)) dX11_mixed_5 ⟨Nat.le_of_ble_eq_true rfl, Nat.le_of_ble_eq_true rfl⟩) 0 0 (Nat.le_of_ble_eq_true rfl) (Nat.le_of_ble_eq_true rfl) (fun rr_5 S_6 H locs hp hw hfr hnw => ?_)
  obtain ⟨e2, hp⟩ := hp
  subst e2
  have hq_7 := hp
  rcases rr_5 with _ | q_8
  · refine W.eq (g2 := F0 m 8 ls (.null :: [])) rfl ?_
    refine lv_astore_nN (lv' := [(2, .null), (0, .ref x), (1, .int (a1))]) X.1 X.2.1 dX11_mixed_8 rfl hl (by decide) rfl (fun ls hl => ?_)
    refine lv_aload_nN X.1 X.2.1 dX11_mixed_9 rfl (lv_at hl 0 rfl) ?_
    refine lv_ifnullN (tgt := 24) X.1 X.2.1 dX11_mixed_10 (by decide) ?_
    refine lv_iconst (v := 0) X.1 X.2.1 dX11_mixed_24 (by decide) ?_
    exact ret_z X hw hr hlocks (Nat.le_of_ble_eq_true rfl) (Nat.le_of_ble_eq_true rfl) (by decide) ⟨rfl, Or.inr ⟨trivial, rfl⟩⟩ dX11_mixed_25
  · refine W.eq (g2 := F0 m 8 ls (.ref q_8 :: [])) rfl ?_
    obtain ⟨ha_9, f_10, f_11⟩ := hq_7 _ rfl
    refine lv_astore_n (lv' := [(2, .ref q_8), (0, .ref x), (1, .int (a1))]) X.1 X.2.1 dX11_mixed_8 rfl hl (by decide) rfl (fun ls hl => ?_)
    refine lv_aload_n X.1 X.2.1 dX11_mixed_9 rfl (lv_at hl 0 rfl) ?_
    refine lv_ifnull X.1 X.2.1 dX11_mixed_10 ?_
    refine lv_aload_n X.1 X.2.1 dX11_mixed_13 rfl (lv_at hl 0 rfl) ?_
    obtain ⟨v_12, ev_12⟩ : ∃ v, pI S 709 q_8 = v := ⟨_, rfl⟩
    have rg_14 := And.intro (z_lo v_12) (z_hi v_12)
    have pz_15 : (pI S 709 q_8).toInt = v_12.toInt := by rw [ev_12]
    refine r_getI (g := 709) (x := v_12) X hw ha_9 rfl 9 ev_12 (by decide) rfl inn_X11_mixed_7 (by decide) (X.2.2.2.1 (.fieldLink RX11 346 "SilkMill$Skein" "inLatestMix" "Z") (by decide +kernel)) rfl (gv_709 _ _) dX11_mixed_14 ?_
    refine lv_if_eq (tgt := 24) X.1 X.2.1 dX11_mixed_17 (by decide) (fun c_16 => ?_) (fun c_16 => ?_)
    · have z_b_17 := trivial
      have k_18 : v_12.toInt = 0 := z_eq rfl ti_0 c_16
      refine lv_iconst (v := 0) X.1 X.2.1 dX11_mixed_24 (by decide) ?_
      exact ret_z X hw hr hlocks (Nat.le_of_ble_eq_true rfl) (Nat.le_of_ble_eq_true rfl) (by decide) ⟨rfl, Or.inr ⟨trivial, rfl⟩⟩ dX11_mixed_25
    · have z_b_19 := trivial
      have k_20 : v_12.toInt ≠ 0 := z_ne rfl ti_0 c_16
      refine lv_iconst (v := 1) X.1 X.2.1 dX11_mixed_20 (by decide) ?_
      refine lv_goto (tgt := 25) X.1 X.2.1 dX11_mixed_21 (by decide) ?_
      exact ret_z X hw hr hlocks (Nat.le_of_ble_eq_true rfl) (Nat.le_of_ble_eq_true rfl) (by decide) ⟨rfl, Or.inl ⟨trivial, rfl⟩⟩ dX11_mixed_25
set_option maxHeartbeats 4000000 in
set_option maxRecDepth 100000 in
theorem k_X11_day (l : Launch) (G : va_G) (cy : Nat → ClassId) (κ : Nat → Nat) (S : PS) (sz : Nat) (x : Nat) (hG : GX S) (ha_x : At S x 11) : Ci l yX11_day wsX11_day ({ frames := 1, cells := 0, slots := 0, locals := 48 }) G cy κ S sz [.ref x] (fun (r : Int32) (S9 : PS) => Ok eDY S S9 ∧ (-2147483648 ≤ r.toInt ∧ r.toInt ≤ 2147483647 ∧ (∀ q0, pR S 1107 x = some q0 → r = pI S 801 q0 + 1 ∧ pI S9 801 q0 = pI S 801 q0 + 1 ∧ pR S9 1107 x = some q0))) := by
  refine ent_m (cc := cX11_day) (maxL := 1) (ret := (some .int)) (by decide) rfl (Nat.le_of_ble_eq_true rfl) ?_
  intro p e s m below meth c ls X hr hlocks hin hw hl hsz
  subst hsz
  have X : Cx p c cX11_day 1 s [.ref x].toArray wsX11_day RX11 m G cy κ (AS S s.heap.size) := X
  have hl : lv_has ls 1 [(0, .ref x)] := hl
  have hO : Ok eDY S S := Ok.rf hG
  obtain ⟨q_1, h_2, h_3⟩ := gQ_11_1107 hO.1 ha_x
  obtain ⟨v_5, ev_5⟩ : ∃ v, pI S 801 q_1 = v := ⟨_, rfl⟩
  have rg_7 := And.intro (z_lo v_5) (z_hi v_5)
  refine lv_aload_n X.1 X.2.1 dX11_day_0 rfl (lv_at hl 0 rfl) ?_
  refine r_getR (g := 1107) X hw ha_x rfl 7 h_2 (by decide) rfl inn_X11_day_11 (by decide) (X.2.2.2.1 (.fieldLink RX11 42 "SilkMill" "store" "LSilkMill$Store;") (by decide +kernel)) rfl (gv_1107 _ _) dX11_day_1 ?_
  refine lv_dup X.1 X.2.1 dX11_day_4 rfl ?_
  refine r_getI (g := 801) (x := v_5) X hw h_3 rfl 1 ev_5 (by decide) rfl inn_X11_day_8 (by decide) (X.2.2.2.1 (.fieldLink RX11 349 "SilkMill$Store" "today" "I") (by decide +kernel)) rfl (gv_801 _ _) dX11_day_5 ?_
  refine lv_iconst (v := 1) X.1 X.2.1 dX11_day_8 (by decide) ?_
  refine lv_iadd X.1 X.2.1 dX11_day_9 ?_
  refine lv_topi (fun v_8 ev_8 => ?_)
  have rg_9 := And.intro (z_lo v_8) (z_hi v_8)
  refine r_putI (v := v_8) X hw h_3 rfl 1 801 tyX8 (by decide) rfl inn_X11_day_8 tyX8_ok nmX8 (by decide) (X.2.2.2.1 (.fieldLink RX11 349 "SilkMill$Store" "today" "I") (by decide +kernel)) rfl (Or.inl rfl) rfl rfl (Nat.le_of_ble_eq_true rfl) (st_801 _ _) dX11_day_10 (fun H locs hw => ?_)
  obtain ⟨S_10, eS_10⟩ : ∃ T, T = sI S 801 q_1 (v_8) := ⟨_, rfl⟩
  rw [← eS_10] at hw
  have hO_11 : Ok eDY S S_10 := hO.sI eS_10 (by decide +kernel) (uI_8_801 hO.1 h_3)
  have h_12 : pI S_10 801 q_1 = v_8 := tI_sIs eS_10
  refine lv_aload_n X.1 X.2.1 dX11_day_13 rfl (lv_at hl 0 rfl) ?_
  have t_13 : At S_10 x 11 := tAt_sI eS_10 ha_x
  have t_14 : pR S_10 1107 x = some q_1 := tR_sI eS_10 h_2
  refine r_getR (g := 1107) X hw t_13 rfl 7 t_14 (by decide) rfl inn_X11_day_11 (by decide) (X.2.2.2.1 (.fieldLink RX11 42 "SilkMill" "store" "LSilkMill$Store;") (by decide +kernel)) rfl (gv_1107 _ _) dX11_day_14 ?_
  have t_15 : At S_10 q_1 8 := tAt_sI eS_10 h_3
  refine r_getI (g := 801) (x := v_8) X hw t_15 rfl 1 h_12 (by decide) rfl inn_X11_day_8 (by decide) (X.2.2.2.1 (.fieldLink RX11 349 "SilkMill$Store" "today" "I") (by decide +kernel)) rfl (gv_801 _ _) dX11_day_17 ?_
  exact ret_i X hw hr hlocks (Nat.le_of_ble_eq_true rfl) (Nat.le_of_ble_eq_true rfl) ⟨hO_11, ⟨z_lo _, z_hi _, fun q0 hq0 => by rw [h_2] at hq0; cases hq0; exact ⟨by rw [ev_5]; exact ev_8, by rw [h_12, ev_5]; exact ev_8, t_14⟩⟩⟩ dX11_day_20
set_option maxHeartbeats 4000000 in
set_option maxRecDepth 100000 in
theorem k_X11_pay (l : Launch) (G : va_G) (cy : Nat → ClassId) (κ : Nat → Nat) (S : PS) (sz : Nat) (x : Nat) (a1 : Int32) (a1_z : Int) (a2 : Int32) (a2_z : Int) (a3 : Int32) (a3_z : Int) (hG : GX S) (ha_x : At S x 11) (hz_a1 : a1.toInt = a1_z) (hz_a2 : a2.toInt = a2_z) (hz_a3 : a3.toInt = a3_z) : Ci l yX11_pay wsX11_pay ({ frames := 4, cells := 0, slots := 0, locals := 192 }) G cy κ S sz [.ref x, .int (a1), .int (a2), .int (a3)] (fun (r : Int32) (S9 : PS) => S = S9 ∧ (True)) := by
  refine ent_m (cc := cX11_pay) (maxL := 4) (ret := (some .int)) (by decide) rfl (Nat.le_of_ble_eq_true rfl) ?_
  intro p e s m below meth c ls X hr hlocks hin hw hl hsz
  subst hsz
  have X : Cx p c cX11_pay 4 s [.ref x, .int (a1), .int (a2), .int (a3)].toArray wsX11_pay RX11 m G cy κ (AS S s.heap.size) := X
  have hl : lv_has ls 4 [(0, .ref x), (1, .int (a1)), (2, .int (a2)), (3, .int (a3))] := hl
  have rg_a1 : (-2147483648) ≤ a1_z ∧ a1_z ≤ 2147483647 := by rw [← hz_a1]; exact ⟨z_lo _, z_hi _⟩
  have rg_a2 : (-2147483648) ≤ a2_z ∧ a2_z ≤ 2147483647 := by rw [← hz_a2]; exact ⟨z_lo _, z_hi _⟩
  have rg_a3 : (-2147483648) ≤ a3_z ∧ a3_z ≤ 2147483647 := by rw [← hz_a3]; exact ⟨z_lo _, z_hi _⟩
  refine lv_aload_n X.1 X.2.1 dX11_pay_0 rfl (lv_at hl 0 rfl) ?_
  refine lv_iload_n X.1 X.2.1 dX11_pay_1 rfl (lv_at hl 1 rfl) ?_
  refine k_q (rm := { frames := 1, cells := 0, slots := 0, locals := 48 }) (av := [.ref x, .int (a1)]) X hw (va_runV (As := [.int (a1)]) (rest := []) (cfix X) (k_X11_potAt l G cy κ S _ x (a1) (a1_z) hG ha_x hz_a1) (cwV 1 X.2.2.2.1 gX11_pay_X11_potAt rfl rfl rfl (by decide +kernel) ⟨Nat.le_of_ble_eq_true rfl, Nat.le_of_ble_eq_true rfl⟩) (pre_V X hw _ ha_x rfl (by decide) rfl) rfl rfl hl.1 rfl (lv_room (Nat.le_of_ble_eq_true rfl)) dX11_pay_2 ⟨Nat.le_of_ble_eq_true rfl, Nat.le_of_ble_eq_true rfl⟩) 0 0 (Nat.le_of_ble_eq_true rfl) (Nat.le_of_ble_eq_true rfl) (fun rr_1 S_2 H locs hp hw hfr hnw => ?_)
  obtain ⟨e2, hp⟩ := hp
  subst e2
  obtain ⟨hq_3, hnf_4⟩ := hp
  rcases rr_1 with _ | q_5
  · refine W.eq (g2 := F0 m 5 ls (.null :: [])) rfl ?_
    have nf_6 := hnf_4 rfl
    refine lv_ifnullN (tgt := 38) X.1 X.2.1 dX11_pay_5 (by decide) ?_
    refine lv_iconst (v := 0) X.1 X.2.1 dX11_pay_38 (by decide) ?_
    exact ret_i X hw hr hlocks (Nat.le_of_ble_eq_true rfl) (Nat.le_of_ble_eq_true rfl) ⟨rfl, trivial⟩ dX11_pay_39
  · refine W.eq (g2 := F0 m 5 ls (.ref q_5 :: [])) rfl ?_
    obtain ⟨ha_7, f_8, f_9⟩ := hq_3 _ rfl
    refine lv_ifnull X.1 X.2.1 dX11_pay_5 ?_
    refine lv_iload_n X.1 X.2.1 dX11_pay_8 rfl (lv_at hl 2 rfl) ?_
    refine lv_iconst (v := 0) X.1 X.2.1 dX11_pay_9 (by decide) ?_
    refine lv_aload_n X.1 X.2.1 dX11_pay_10 rfl (lv_at hl 0 rfl) ?_
    obtain ⟨q_10, h_11, h_12⟩ := gQ_11_1107 hG ha_x
    refine r_getR (g := 1107) X hw ha_x rfl 7 h_11 (by decide) rfl inn_X11_pay_11 (by decide) (X.2.2.2.1 (.fieldLink RX11 42 "SilkMill" "store" "LSilkMill$Store;") (by decide +kernel)) rfl (gv_1107 _ _) dX11_pay_11 ?_
    obtain ⟨v_14, ev_14⟩ : ∃ v, pI S 801 q_10 = v := ⟨_, rfl⟩
    have rg_16 := And.intro (z_lo v_14) (z_hi v_14)
    have pz_17 : (pI S 801 q_10).toInt = v_14.toInt := by rw [ev_14]
    refine r_getI (g := 801) (x := v_14) X hw h_12 rfl 1 ev_14 (by decide) rfl inn_X11_pay_8 (by decide) (X.2.2.2.1 (.fieldLink RX11 349 "SilkMill$Store" "today" "I") (by decide +kernel)) rfl (gv_801 _ _) dX11_pay_14 ?_
    refine k_i (rm := { frames := 1, cells := 0, slots := 0, locals := 48 }) (av := [.int (a2), .int 0, .int (v_14)]) X hw (va_runS (As := [.int (a2), .int 0, .int (v_14)]) (rest := []) (cfix X) (k_X11_isWithin l G cy κ S _ (a2) (a2_z) (0) (0) (v_14) (v_14.toInt) hG hz_a2 ti_0 rfl) (cwS 3 X.2.2.2.1 gX11_pay_X11_isWithin rfl rfl rfl (by decide +kernel) ⟨Nat.le_of_ble_eq_true rfl, Nat.le_of_ble_eq_true rfl⟩) (pre_S X hw _) rfl rfl hl.1 rfl (lv_room (Nat.le_of_ble_eq_true rfl)) dX11_pay_17 ⟨Nat.le_of_ble_eq_true rfl, Nat.le_of_ble_eq_true rfl⟩) 0 0 (Nat.le_of_ble_eq_true rfl) (Nat.le_of_ble_eq_true rfl) (fun rr_18 S_19 H locs hp hw hfr hnw => ?_)
    obtain ⟨e2, hp⟩ := hp
    subst e2
    rcases hp with ⟨f_20, er_21⟩ | ⟨f_20, er_21⟩ <;> subst er_21
    · have z_b_22 := trivial
      refine lv_if_eq (tgt := 38) X.1 X.2.1 dX11_pay_20 (by decide) (fun c_23 => absurd c_23 (by decide)) (fun c_23 => ?_)
      refine lv_iload_n X.1 X.2.1 dX11_pay_23 rfl (lv_at hl 3 rfl) ?_
      refine lv_iconst (v := 0) X.1 X.2.1 dX11_pay_24 (by decide) ?_
      refine lv_aload_n X.1 X.2.1 dX11_pay_25 rfl (lv_at hl 0 rfl) ?_
      refine r_getR (g := 1107) X hw ha_x rfl 7 h_11 (by decide) rfl inn_X11_pay_11 (by decide) (X.2.2.2.1 (.fieldLink RX11 42 "SilkMill" "store" "LSilkMill$Store;") (by decide +kernel)) rfl (gv_1107 _ _) dX11_pay_26 ?_
      refine r_getI (g := 801) (x := v_14) X hw h_12 rfl 1 ev_14 (by decide) rfl inn_X11_pay_8 (by decide) (X.2.2.2.1 (.fieldLink RX11 349 "SilkMill$Store" "today" "I") (by decide +kernel)) rfl (gv_801 _ _) dX11_pay_29 ?_
      refine k_i (rm := { frames := 1, cells := 0, slots := 0, locals := 48 }) (av := [.int (a3), .int 0, .int (v_14)]) X hw (va_runS (As := [.int (a3), .int 0, .int (v_14)]) (rest := []) (cfix X) (k_X11_isWithin l G cy κ S _ (a3) (a3_z) (0) (0) (v_14) (v_14.toInt) hG hz_a3 ti_0 rfl) (cwS 3 X.2.2.2.1 gX11_pay_X11_isWithin rfl rfl rfl (by decide +kernel) ⟨Nat.le_of_ble_eq_true rfl, Nat.le_of_ble_eq_true rfl⟩) (pre_S X hw _) rfl rfl hl.1 rfl (lv_room (Nat.le_of_ble_eq_true rfl)) dX11_pay_32 ⟨Nat.le_of_ble_eq_true rfl, Nat.le_of_ble_eq_true rfl⟩) 0 0 (Nat.le_of_ble_eq_true rfl) (Nat.le_of_ble_eq_true rfl) (fun rr_24 S_25 H locs hp hw hfr hnw => ?_)
      obtain ⟨e2, hp⟩ := hp
      subst e2
      rcases hp with ⟨f_26, er_27⟩ | ⟨f_26, er_27⟩ <;> subst er_27
      · have z_b_28 := trivial
        refine lv_if_ne (tgt := 40) X.1 X.2.1 dX11_pay_35 (by decide) (fun c_29 => ?_) (fun c_29 => absurd c_29 (by decide))
        refine lv_aload_n X.1 X.2.1 dX11_pay_40 rfl (lv_at hl 0 rfl) ?_
        refine r_getR (g := 1107) X hw ha_x rfl 7 h_11 (by decide) rfl inn_X11_pay_11 (by decide) (X.2.2.2.1 (.fieldLink RX11 42 "SilkMill" "store" "LSilkMill$Store;") (by decide +kernel)) rfl (gv_1107 _ _) dX11_pay_41 ?_
        refine lv_iload_n X.1 X.2.1 dX11_pay_44 rfl (lv_at hl 1 rfl) ?_
        refine lv_iload_n X.1 X.2.1 dX11_pay_45 rfl (lv_at hl 2 rfl) ?_
        refine lv_iload_n X.1 X.2.1 dX11_pay_46 rfl (lv_at hl 3 rfl) ?_
        refine k_i (rm := { frames := 3, cells := 0, slots := 0, locals := 144 }) (av := [.ref q_10, .int (a1), .int (a2), .int (a3)]) X hw (va_runV (As := [.int (a1), .int (a2), .int (a3)]) (rest := []) (cfix X) (k_X8_payFor l G cy κ S _ q_10 (a1) (a1_z) (a2) (a2_z) (a3) (a3_z) hG h_12 hz_a1 hz_a2 hz_a3) (cwV 3 X.2.2.2.1 gX11_pay_X8_payFor rfl rfl rfl (by decide +kernel) ⟨Nat.le_of_ble_eq_true rfl, Nat.le_of_ble_eq_true rfl⟩) (pre_V X hw _ h_12 rfl (by decide) rfl) rfl rfl hl.1 rfl (lv_room (Nat.le_of_ble_eq_true rfl)) dX11_pay_47 ⟨Nat.le_of_ble_eq_true rfl, Nat.le_of_ble_eq_true rfl⟩) 0 0 (Nat.le_of_ble_eq_true rfl) (Nat.le_of_ble_eq_true rfl) (fun rr_30 S_31 H locs hp hw hfr hnw => ?_)
        obtain ⟨e2, hp⟩ := hp
        subst e2
        have rg_32 := And.intro (z_lo rr_30) (z_hi rr_30)
        exact ret_i X hw hr hlocks (Nat.le_of_ble_eq_true rfl) (Nat.le_of_ble_eq_true rfl) ⟨rfl, trivial⟩ dX11_pay_50
      · have z_b_33 := trivial
        refine lv_if_ne (tgt := 40) X.1 X.2.1 dX11_pay_35 (by decide) (fun c_34 => absurd c_34 (by decide)) (fun c_34 => ?_)
        refine lv_iconst (v := 0) X.1 X.2.1 dX11_pay_38 (by decide) ?_
        exact ret_i X hw hr hlocks (Nat.le_of_ble_eq_true rfl) (Nat.le_of_ble_eq_true rfl) ⟨rfl, trivial⟩ dX11_pay_39
    · have z_b_35 := trivial
      refine lv_if_eq (tgt := 38) X.1 X.2.1 dX11_pay_20 (by decide) (fun c_36 => ?_) (fun c_36 => absurd c_36 (by decide))
      refine lv_iconst (v := 0) X.1 X.2.1 dX11_pay_38 (by decide) ?_
      exact ret_i X hw hr hlocks (Nat.le_of_ble_eq_true rfl) (Nat.le_of_ble_eq_true rfl) ⟨rfl, trivial⟩ dX11_pay_39
set_option maxHeartbeats 4000000 in
set_option maxRecDepth 100000 in
theorem k_X11_count (l : Launch) (G : va_G) (cy : Nat → ClassId) (κ : Nat → Nat) (S : PS) (sz : Nat) (x : Nat) (a1 : Int32) (a1_z : Int) (hG : GX S) (ha_x : At S x 11) (hz_a1 : a1.toInt = a1_z) : Ci l yX11_count wsX11_count ({ frames := 3, cells := 0, slots := 0, locals := 144 }) G cy κ S sz [.ref x, .int (a1)] (fun (r : Int32) (S9 : PS) => S = S9 ∧ (True)) := by
  refine ent_m (cc := cX11_count) (maxL := 2) (ret := (some .int)) (by decide) rfl (Nat.le_of_ble_eq_true rfl) ?_
  intro p e s m below meth c ls X hr hlocks hin hw hl hsz
  subst hsz
  have X : Cx p c cX11_count 2 s [.ref x, .int (a1)].toArray wsX11_count RX11 m G cy κ (AS S s.heap.size) := X
  have hl : lv_has ls 2 [(0, .ref x), (1, .int (a1))] := hl
  have rg_a1 : (-2147483648) ≤ a1_z ∧ a1_z ≤ 2147483647 := by rw [← hz_a1]; exact ⟨z_lo _, z_hi _⟩
  refine lv_iload_n X.1 X.2.1 dX11_count_0 rfl (lv_at hl 1 rfl) ?_
  by_cases w_1 : (a1).toInt < 0 ∨ 11 < (a1).toInt
  · refine lv_tableOut (tgt := 148) X.1 X.2.1 dX11_count_1 w_1 (by decide) ?_
    refine lv_iconst (v := (-1)) X.1 X.2.1 dX11_count_148 (by decide) ?_
    exact ret_i X hw hr hlocks (Nat.le_of_ble_eq_true rfl) (Nat.le_of_ble_eq_true rfl) ⟨rfl, trivial⟩ dX11_count_149
  have w_1b : (a1).toInt = 0 ∨ (a1).toInt = 1 ∨ (a1).toInt = 2 ∨ (a1).toInt = 3 ∨ (a1).toInt = 4 ∨ (a1).toInt = 5 ∨ (a1).toInt = 6 ∨ (a1).toInt = 7 ∨ (a1).toInt = 8 ∨ (a1).toInt = 9 ∨ (a1).toInt = 10 ∨ (a1).toInt = 11 := by omega
  rcases w_1b with w_1c | w_1c | w_1c | w_1c | w_1c | w_1c | w_1c | w_1c | w_1c | w_1c | w_1c | w_1c
  · refine lv_tableIn (tgt := 64) X.1 X.2.1 dX11_count_1 (by omega) (by omega) (by rw [w_1c]; rfl) (by decide) ?_
    refine lv_aload_n X.1 X.2.1 dX11_count_64 rfl (lv_at hl 0 rfl) ?_
    obtain ⟨v_2, ev_2⟩ : ∃ v, pI S 1102 x = v := ⟨_, rfl⟩
    have rg_3 := gI_11_1102 hG ha_x; rw [ev_2] at rg_3
    refine r_getI (g := 1102) (x := v_2) X hw ha_x rfl 2 ev_2 (by decide) rfl inn_X11_count_11 (by decide) (X.2.2.2.1 (.fieldLink RX11 63 "SilkMill" "lots" "I") (by decide +kernel)) rfl (gv_1102 _ _) dX11_count_65 ?_
    exact ret_i X hw hr hlocks (Nat.le_of_ble_eq_true rfl) (Nat.le_of_ble_eq_true rfl) ⟨rfl, trivial⟩ dX11_count_68
  · refine lv_tableIn (tgt := 69) X.1 X.2.1 dX11_count_1 (by omega) (by omega) (by rw [w_1c]; rfl) (by decide) ?_
    refine lv_aload_n X.1 X.2.1 dX11_count_69 rfl (lv_at hl 0 rfl) ?_
    obtain ⟨v_4, ev_4⟩ : ∃ v, pI S 1104 x = v := ⟨_, rfl⟩
    have rg_5 := gI_11_1104 hG ha_x; rw [ev_4] at rg_5
    refine r_getI (g := 1104) (x := v_4) X hw ha_x rfl 4 ev_4 (by decide) rfl inn_X11_count_11 (by decide) (X.2.2.2.1 (.fieldLink RX11 124 "SilkMill" "potsMade" "I") (by decide +kernel)) rfl (gv_1104 _ _) dX11_count_70 ?_
    exact ret_i X hw hr hlocks (Nat.le_of_ble_eq_true rfl) (Nat.le_of_ble_eq_true rfl) ⟨rfl, trivial⟩ dX11_count_73
  · refine lv_tableIn (tgt := 74) X.1 X.2.1 dX11_count_1 (by omega) (by omega) (by rw [w_1c]; rfl) (by decide) ?_
    refine lv_aload_n X.1 X.2.1 dX11_count_74 rfl (lv_at hl 0 rfl) ?_
    obtain ⟨q_6, h_7, h_8⟩ := gQ_11_1107 hG ha_x
    refine r_getR (g := 1107) X hw ha_x rfl 7 h_7 (by decide) rfl inn_X11_count_11 (by decide) (X.2.2.2.1 (.fieldLink RX11 42 "SilkMill" "store" "LSilkMill$Store;") (by decide +kernel)) rfl (gv_1107 _ _) dX11_count_75 ?_
    obtain ⟨v_10, ev_10⟩ : ∃ v, pI S 800 q_6 = v := ⟨_, rfl⟩
    have rg_11 := gI_8_800 hG h_8; rw [ev_10] at rg_11
    refine r_getI (g := 800) (x := v_10) X hw h_8 rfl 0 ev_10 (by decide) rfl inn_X11_count_8 (by decide) (X.2.2.2.1 (.fieldLink RX11 359 "SilkMill$Store" "kept" "I") (by decide +kernel)) rfl (gv_800 _ _) dX11_count_78 ?_
    exact ret_i X hw hr hlocks (Nat.le_of_ble_eq_true rfl) (Nat.le_of_ble_eq_true rfl) ⟨rfl, trivial⟩ dX11_count_81
  · refine lv_tableIn (tgt := 82) X.1 X.2.1 dX11_count_1 (by omega) (by omega) (by rw [w_1c]; rfl) (by decide) ?_
    refine lv_aload_n X.1 X.2.1 dX11_count_82 rfl (lv_at hl 0 rfl) ?_
    obtain ⟨q_12, h_13, h_14⟩ := gQ_11_1107 hG ha_x
    refine r_getR (g := 1107) X hw ha_x rfl 7 h_13 (by decide) rfl inn_X11_count_11 (by decide) (X.2.2.2.1 (.fieldLink RX11 42 "SilkMill" "store" "LSilkMill$Store;") (by decide +kernel)) rfl (gv_1107 _ _) dX11_count_83 ?_
    obtain ⟨v_16, ev_16⟩ : ∃ v, pI S 801 q_12 = v := ⟨_, rfl⟩
    have rg_18 := And.intro (z_lo v_16) (z_hi v_16)
    refine r_getI (g := 801) (x := v_16) X hw h_14 rfl 1 ev_16 (by decide) rfl inn_X11_count_8 (by decide) (X.2.2.2.1 (.fieldLink RX11 349 "SilkMill$Store" "today" "I") (by decide +kernel)) rfl (gv_801 _ _) dX11_count_86 ?_
    exact ret_i X hw hr hlocks (Nat.le_of_ble_eq_true rfl) (Nat.le_of_ble_eq_true rfl) ⟨rfl, trivial⟩ dX11_count_89
  · refine lv_tableIn (tgt := 90) X.1 X.2.1 dX11_count_1 (by omega) (by omega) (by rw [w_1c]; rfl) (by decide) ?_
    refine lv_aload_n X.1 X.2.1 dX11_count_90 rfl (lv_at hl 0 rfl) ?_
    obtain ⟨q_19, h_20, h_21⟩ := gQ_11_1105 hG ha_x
    refine r_getR (g := 1105) X hw ha_x rfl 5 h_20 (by decide) rfl inn_X11_count_11 (by decide) (X.2.2.2.1 (.fieldLink RX11 28 "SilkMill" "tape" "LSilkMill$Tape;") (by decide +kernel)) rfl (gv_1105 _ _) dX11_count_91 ?_
    obtain ⟨v_23, ev_23⟩ : ∃ v, pI S 1000 q_19 = v := ⟨_, rfl⟩
    have rg_24 := gI_10_1000 hG h_21; rw [ev_23] at rg_24
    refine r_getI (g := 1000) (x := v_23) X hw h_21 rfl 0 ev_23 (by decide) rfl inn_X11_count_10 (by decide) (X.2.2.2.1 (.fieldLink RX11 145 "SilkMill$Tape" "size" "I") (by decide +kernel)) rfl (gv_1000 _ _) dX11_count_94 ?_
    exact ret_i X hw hr hlocks (Nat.le_of_ble_eq_true rfl) (Nat.le_of_ble_eq_true rfl) ⟨rfl, trivial⟩ dX11_count_97
  · refine lv_tableIn (tgt := 98) X.1 X.2.1 dX11_count_1 (by omega) (by omega) (by rw [w_1c]; rfl) (by decide) ?_
    refine lv_aload_n X.1 X.2.1 dX11_count_98 rfl (lv_at hl 0 rfl) ?_
    obtain ⟨q_25, h_26, h_27⟩ := gQ_11_1107 hG ha_x
    refine r_getR (g := 1107) X hw ha_x rfl 7 h_26 (by decide) rfl inn_X11_count_11 (by decide) (X.2.2.2.1 (.fieldLink RX11 42 "SilkMill" "store" "LSilkMill$Store;") (by decide +kernel)) rfl (gv_1107 _ _) dX11_count_99 ?_
    obtain ⟨v_29, ev_29⟩ : ∃ v, pI S 806 q_25 = v := ⟨_, rfl⟩
    have rg_30 := gI_8_806 hG h_27; rw [ev_29] at rg_30
    refine r_getI (g := 806) (x := v_29) X hw h_27 rfl 6 ev_29 (by decide) rfl inn_X11_count_8 (by decide) (X.2.2.2.1 (.fieldLink RX11 362 "SilkMill$Store" "faults" "I") (by decide +kernel)) rfl (gv_806 _ _) dX11_count_102 ?_
    exact ret_i X hw hr hlocks (Nat.le_of_ble_eq_true rfl) (Nat.le_of_ble_eq_true rfl) ⟨rfl, trivial⟩ dX11_count_105
  · refine lv_tableIn (tgt := 106) X.1 X.2.1 dX11_count_1 (by omega) (by omega) (by rw [w_1c]; rfl) (by decide) ?_
    refine lv_aload_n X.1 X.2.1 dX11_count_106 rfl (lv_at hl 0 rfl) ?_
    obtain ⟨q_31, h_32, h_33⟩ := gQ_11_1107 hG ha_x
    refine r_getR (g := 1107) X hw ha_x rfl 7 h_32 (by decide) rfl inn_X11_count_11 (by decide) (X.2.2.2.1 (.fieldLink RX11 42 "SilkMill" "store" "LSilkMill$Store;") (by decide +kernel)) rfl (gv_1107 _ _) dX11_count_107 ?_
    obtain ⟨v_35, ev_35⟩ : ∃ v, pI S 802 q_31 = v := ⟨_, rfl⟩
    have rg_37 := And.intro (z_lo v_35) (z_hi v_35)
    refine r_getI (g := 802) (x := v_35) X hw h_33 rfl 2 ev_35 (by decide) rfl inn_X11_count_8 (by decide) (X.2.2.2.1 (.fieldLink RX11 365 "SilkMill$Store" "silkDrawn" "I") (by decide +kernel)) rfl (gv_802 _ _) dX11_count_110 ?_
    exact ret_i X hw hr hlocks (Nat.le_of_ble_eq_true rfl) (Nat.le_of_ble_eq_true rfl) ⟨rfl, trivial⟩ dX11_count_113
  · refine lv_tableIn (tgt := 114) X.1 X.2.1 dX11_count_1 (by omega) (by omega) (by rw [w_1c]; rfl) (by decide) ?_
    refine lv_aload_n X.1 X.2.1 dX11_count_114 rfl (lv_at hl 0 rfl) ?_
    obtain ⟨q_38, h_39, h_40⟩ := gQ_11_1107 hG ha_x
    refine r_getR (g := 1107) X hw ha_x rfl 7 h_39 (by decide) rfl inn_X11_count_11 (by decide) (X.2.2.2.1 (.fieldLink RX11 42 "SilkMill" "store" "LSilkMill$Store;") (by decide +kernel)) rfl (gv_1107 _ _) dX11_count_115 ?_
    obtain ⟨v_42, ev_42⟩ : ∃ v, pI S 803 q_38 = v := ⟨_, rfl⟩
    have rg_44 := And.intro (z_lo v_42) (z_hi v_42)
    refine r_getI (g := 803) (x := v_42) X hw h_40 rfl 3 ev_42 (by decide) rfl inn_X11_count_8 (by decide) (X.2.2.2.1 (.fieldLink RX11 368 "SilkMill$Store" "silkKept" "I") (by decide +kernel)) rfl (gv_803 _ _) dX11_count_118 ?_
    exact ret_i X hw hr hlocks (Nat.le_of_ble_eq_true rfl) (Nat.le_of_ble_eq_true rfl) ⟨rfl, trivial⟩ dX11_count_121
  · refine lv_tableIn (tgt := 122) X.1 X.2.1 dX11_count_1 (by omega) (by omega) (by rw [w_1c]; rfl) (by decide) ?_
    refine lv_aload_n X.1 X.2.1 dX11_count_122 rfl (lv_at hl 0 rfl) ?_
    refine k_i (rm := { frames := 2, cells := 0, slots := 0, locals := 96 }) (av := [.ref x]) X hw (va_runV (As := []) (rest := []) (cfix X) (k_X11_silkThatGrows l G cy κ S _ x hG ha_x) (cwV 0 X.2.2.2.1 gX11_count_X11_silkThatGrows rfl rfl rfl (by decide +kernel) ⟨Nat.le_of_ble_eq_true rfl, Nat.le_of_ble_eq_true rfl⟩) (pre_V X hw _ ha_x rfl (by decide) rfl) rfl rfl hl.1 rfl (lv_room (Nat.le_of_ble_eq_true rfl)) dX11_count_123 ⟨Nat.le_of_ble_eq_true rfl, Nat.le_of_ble_eq_true rfl⟩) 0 0 (Nat.le_of_ble_eq_true rfl) (Nat.le_of_ble_eq_true rfl) (fun rr_45 S_46 H locs hp hw hfr hnw => ?_)
    obtain ⟨e2, hp⟩ := hp
    subst e2
    have rg_47 := And.intro (z_lo rr_45) (z_hi rr_45)
    exact ret_i X hw hr hlocks (Nat.le_of_ble_eq_true rfl) (Nat.le_of_ble_eq_true rfl) ⟨rfl, trivial⟩ dX11_count_126
  · refine lv_tableIn (tgt := 127) X.1 X.2.1 dX11_count_1 (by omega) (by omega) (by rw [w_1c]; rfl) (by decide) ?_
    refine lv_aload_n X.1 X.2.1 dX11_count_127 rfl (lv_at hl 0 rfl) ?_
    obtain ⟨q_48, h_49, h_50⟩ := gQ_11_1107 hG ha_x
    refine r_getR (g := 1107) X hw ha_x rfl 7 h_49 (by decide) rfl inn_X11_count_11 (by decide) (X.2.2.2.1 (.fieldLink RX11 42 "SilkMill" "store" "LSilkMill$Store;") (by decide +kernel)) rfl (gv_1107 _ _) dX11_count_128 ?_
    obtain ⟨v_52, ev_52⟩ : ∃ v, pI S 805 q_48 = v := ⟨_, rfl⟩
    have rg_54 := And.intro (z_lo v_52) (z_hi v_52)
    refine r_getI (g := 805) (x := v_52) X hw h_50 rfl 5 ev_52 (by decide) rfl inn_X11_count_8 (by decide) (X.2.2.2.1 (.fieldLink RX11 374 "SilkMill$Store" "waste" "I") (by decide +kernel)) rfl (gv_805 _ _) dX11_count_131 ?_
    exact ret_i X hw hr hlocks (Nat.le_of_ble_eq_true rfl) (Nat.le_of_ble_eq_true rfl) ⟨rfl, trivial⟩ dX11_count_134
  · refine lv_tableIn (tgt := 135) X.1 X.2.1 dX11_count_1 (by omega) (by omega) (by rw [w_1c]; rfl) (by decide) ?_
    refine lv_aload_n X.1 X.2.1 dX11_count_135 rfl (lv_at hl 0 rfl) ?_
    obtain ⟨q_55, h_56, h_57⟩ := gQ_11_1107 hG ha_x
    refine r_getR (g := 1107) X hw ha_x rfl 7 h_56 (by decide) rfl inn_X11_count_11 (by decide) (X.2.2.2.1 (.fieldLink RX11 42 "SilkMill" "store" "LSilkMill$Store;") (by decide +kernel)) rfl (gv_1107 _ _) dX11_count_136 ?_
    obtain ⟨v_59, ev_59⟩ : ∃ v, pI S 804 q_55 = v := ⟨_, rfl⟩
    have rg_61 := And.intro (z_lo v_59) (z_hi v_59)
    refine r_getI (g := 804) (x := v_59) X hw h_57 rfl 4 ev_59 (by decide) rfl inn_X11_count_8 (by decide) (X.2.2.2.1 (.fieldLink RX11 377 "SilkMill$Store" "silkThrown" "I") (by decide +kernel)) rfl (gv_804 _ _) dX11_count_139 ?_
    exact ret_i X hw hr hlocks (Nat.le_of_ble_eq_true rfl) (Nat.le_of_ble_eq_true rfl) ⟨rfl, trivial⟩ dX11_count_142
  · refine lv_tableIn (tgt := 143) X.1 X.2.1 dX11_count_1 (by omega) (by omega) (by rw [w_1c]; rfl) (by decide) ?_
    refine lv_aload_n X.1 X.2.1 dX11_count_143 rfl (lv_at hl 0 rfl) ?_
    obtain ⟨v_62, ev_62⟩ : ∃ v, pI S 1110 x = v := ⟨_, rfl⟩
    have rg_64 := And.intro (z_lo v_62) (z_hi v_62)
    refine r_getI (g := 1110) (x := v_62) X hw ha_x rfl 10 ev_62 (by decide) rfl inn_X11_count_11 (by decide) (X.2.2.2.1 (.fieldLink RX11 321 "SilkMill" "shelved" "I") (by decide +kernel)) rfl (gv_1110 _ _) dX11_count_144 ?_
    exact ret_i X hw hr hlocks (Nat.le_of_ble_eq_true rfl) (Nat.le_of_ble_eq_true rfl) ⟨rfl, trivial⟩ dX11_count_147
