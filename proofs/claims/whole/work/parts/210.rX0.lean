theorem dX0_init_0 : decode cX0_init 0 = .ok (.aload_n 0, 1) := by decide +kernel
theorem dX0_init_1 : decode cX0_init 1 = .ok (.invokespecial 3, 3) := by decide +kernel
theorem dX0_init_4 : decode cX0_init 4 = .ok (.aload_n 0, 1) := by decide +kernel
theorem dX0_init_5 : decode cX0_init 5 = .ok (.bipush 8, 2) := by decide +kernel
theorem dX0_init_7 : decode cX0_init 7 = .ok (.newarray .int, 2) := by decide +kernel
theorem dX0_init_9 : decode cX0_init 9 = .ok (.putfield 9, 3) := by decide +kernel
theorem dX0_init_12 : decode cX0_init 12 = .ok (.return_, 1) := by decide +kernel
set_option maxRecDepth 20000 in
theorem ggX0_judgeText_X0_judgeTest : GoodIn wsX0_judgeText wsX0_judgeTest := goodIn_r _ [7, 1, 8, 9, 10, 11, 12, 13, 14, 15, 16, 17, 18, 6, 19, 20, 21, 22, 23, 24, 25, 26, 27, 28, 29, 30, 31, 32, 33] rfl (by decide +kernel)
set_option maxRecDepth 20000 in
theorem gX0_judgeText_X0_judgeTest : GoodIn wsX0_judgeText (wsV RX0 24 RX0 yX0_judgeTest wsX0_judgeTest) := goodIn_app (goodIn_of _ (by decide +kernel)) ggX0_judgeText_X0_judgeTest
set_option maxRecDepth 20000 in
theorem ggX0_judgeText_X3_byteAt : GoodIn wsX0_judgeText wsX3_byteAt := goodIn_r _ [13, 14, 15, 32, 33] rfl (by decide +kernel)
set_option maxRecDepth 20000 in
theorem gX0_judgeText_X3_byteAt : GoodIn wsX0_judgeText (wsV RX0 28 RX3 yX3_byteAt wsX3_byteAt) := goodIn_app (goodIn_of _ (by decide +kernel)) ggX0_judgeText_X3_byteAt
theorem dX0_judgeText_0 : decode cX0_judgeText 0 = .ok (.iconst 0, 1) := by decide +kernel
theorem dX0_judgeText_1 : decode cX0_judgeText 1 = .ok (.istore_n 2, 1) := by decide +kernel
theorem dX0_judgeText_2 : decode cX0_judgeText 2 = .ok (.iconst 1, 1) := by decide +kernel
theorem dX0_judgeText_3 : decode cX0_judgeText 3 = .ok (.istore_n 3, 1) := by decide +kernel
theorem dX0_judgeText_4 : decode cX0_judgeText 4 = .ok (.aload_n 0, 1) := by decide +kernel
theorem dX0_judgeText_5 : decode cX0_judgeText 5 = .ok (.iconst 0, 1) := by decide +kernel
theorem dX0_judgeText_6 : decode cX0_judgeText 6 = .ok (.putfield 15, 3) := by decide +kernel
theorem dX0_judgeText_9 : decode cX0_judgeText 9 = .ok (.iconst 0, 1) := by decide +kernel
theorem dX0_judgeText_10 : decode cX0_judgeText 10 = .ok (.istore 4, 2) := by decide +kernel
theorem dX0_judgeText_12 : decode cX0_judgeText 12 = .ok (.iload 4, 2) := by decide +kernel
theorem dX0_judgeText_14 : decode cX0_judgeText 14 = .ok (.aload_n 1, 1) := by decide +kernel
theorem dX0_judgeText_15 : decode cX0_judgeText 15 = .ok (.getfield 19, 3) := by decide +kernel
theorem dX0_judgeText_18 : decode cX0_judgeText 18 = .ok (.if_icmp .gt 115, 3) := by decide +kernel
theorem dX0_judgeText_21 : decode cX0_judgeText 21 = .ok (.aload_n 0, 1) := by decide +kernel
theorem dX0_judgeText_22 : decode cX0_judgeText 22 = .ok (.aload_n 1, 1) := by decide +kernel
theorem dX0_judgeText_23 : decode cX0_judgeText 23 = .ok (.invokevirtual 24, 3) := by decide +kernel
theorem dX0_judgeText_26 : decode cX0_judgeText 26 = .ok (.istore 5, 2) := by decide +kernel
theorem dX0_judgeText_28 : decode cX0_judgeText 28 = .ok (.iload 5, 2) := by decide +kernel
theorem dX0_judgeText_30 : decode cX0_judgeText 30 = .ok (.iconst (-1), 1) := by decide +kernel
theorem dX0_judgeText_31 : decode cX0_judgeText 31 = .ok (.if_icmp .ne 5, 3) := by decide +kernel
theorem dX0_judgeText_34 : decode cX0_judgeText 34 = .ok (.iconst (-1), 1) := by decide +kernel
theorem dX0_judgeText_35 : decode cX0_judgeText 35 = .ok (.ireturn, 1) := by decide +kernel
theorem dX0_judgeText_36 : decode cX0_judgeText 36 = .ok (.iload_n 3, 1) := by decide +kernel
theorem dX0_judgeText_37 : decode cX0_judgeText 37 = .ok (.ifCond .eq 13, 3) := by decide +kernel
theorem dX0_judgeText_40 : decode cX0_judgeText 40 = .ok (.iload 5, 2) := by decide +kernel
theorem dX0_judgeText_42 : decode cX0_judgeText 42 = .ok (.iconst 1, 1) := by decide +kernel
theorem dX0_judgeText_43 : decode cX0_judgeText 43 = .ok (.if_icmp .ne 7, 3) := by decide +kernel
theorem dX0_judgeText_46 : decode cX0_judgeText 46 = .ok (.iconst 1, 1) := by decide +kernel
theorem dX0_judgeText_47 : decode cX0_judgeText 47 = .ok (.goto 4, 3) := by decide +kernel
theorem dX0_judgeText_50 : decode cX0_judgeText 50 = .ok (.iconst 0, 1) := by decide +kernel
theorem dX0_judgeText_51 : decode cX0_judgeText 51 = .ok (.istore_n 3, 1) := by decide +kernel
theorem dX0_judgeText_52 : decode cX0_judgeText 52 = .ok (.aload_n 1, 1) := by decide +kernel
theorem dX0_judgeText_53 : decode cX0_judgeText 53 = .ok (.aload_n 0, 1) := by decide +kernel
theorem dX0_judgeText_54 : decode cX0_judgeText 54 = .ok (.getfield 15, 3) := by decide +kernel
theorem dX0_judgeText_57 : decode cX0_judgeText 57 = .ok (.invokevirtual 28, 3) := by decide +kernel
theorem dX0_judgeText_60 : decode cX0_judgeText 60 = .ok (.istore 6, 2) := by decide +kernel
theorem dX0_judgeText_62 : decode cX0_judgeText 62 = .ok (.aload_n 0, 1) := by decide +kernel
theorem dX0_judgeText_63 : decode cX0_judgeText 63 = .ok (.dup, 1) := by decide +kernel
theorem dX0_judgeText_64 : decode cX0_judgeText 64 = .ok (.getfield 15, 3) := by decide +kernel
theorem dX0_judgeText_67 : decode cX0_judgeText 67 = .ok (.iconst 1, 1) := by decide +kernel
theorem dX0_judgeText_68 : decode cX0_judgeText 68 = .ok (.iadd, 1) := by decide +kernel
theorem dX0_judgeText_69 : decode cX0_judgeText 69 = .ok (.putfield 15, 3) := by decide +kernel
theorem dX0_judgeText_72 : decode cX0_judgeText 72 = .ok (.iload 6, 2) := by decide +kernel
theorem dX0_judgeText_74 : decode cX0_judgeText 74 = .ok (.bipush 38, 2) := by decide +kernel
theorem dX0_judgeText_76 : decode cX0_judgeText 76 = .ok (.if_icmp .eq 19, 3) := by decide +kernel
theorem dX0_judgeText_79 : decode cX0_judgeText 79 = .ok (.iload_n 2, 1) := by decide +kernel
theorem dX0_judgeText_80 : decode cX0_judgeText 80 = .ok (.ifCond .ne 7, 3) := by decide +kernel
theorem dX0_judgeText_83 : decode cX0_judgeText 83 = .ok (.iload_n 3, 1) := by decide +kernel
theorem dX0_judgeText_84 : decode cX0_judgeText 84 = .ok (.ifCond .eq 7, 3) := by decide +kernel
theorem dX0_judgeText_87 : decode cX0_judgeText 87 = .ok (.iconst 1, 1) := by decide +kernel
theorem dX0_judgeText_88 : decode cX0_judgeText 88 = .ok (.goto 4, 3) := by decide +kernel
theorem dX0_judgeText_91 : decode cX0_judgeText 91 = .ok (.iconst 0, 1) := by decide +kernel
theorem dX0_judgeText_92 : decode cX0_judgeText 92 = .ok (.istore_n 2, 1) := by decide +kernel
theorem dX0_judgeText_93 : decode cX0_judgeText 93 = .ok (.iconst 1, 1) := by decide +kernel
theorem dX0_judgeText_94 : decode cX0_judgeText 94 = .ok (.istore_n 3, 1) := by decide +kernel
theorem dX0_judgeText_95 : decode cX0_judgeText 95 = .ok (.iload 6, 2) := by decide +kernel
theorem dX0_judgeText_97 : decode cX0_judgeText 97 = .ok (.iconst (-1), 1) := by decide +kernel
theorem dX0_judgeText_98 : decode cX0_judgeText 98 = .ok (.if_icmp .ne 13, 3) := by decide +kernel
theorem dX0_judgeText_101 : decode cX0_judgeText 101 = .ok (.iload_n 2, 1) := by decide +kernel
theorem dX0_judgeText_102 : decode cX0_judgeText 102 = .ok (.ifCond .eq 7, 3) := by decide +kernel
theorem dX0_judgeText_105 : decode cX0_judgeText 105 = .ok (.iconst 1, 1) := by decide +kernel
theorem dX0_judgeText_106 : decode cX0_judgeText 106 = .ok (.goto 4, 3) := by decide +kernel
theorem dX0_judgeText_109 : decode cX0_judgeText 109 = .ok (.iconst 0, 1) := by decide +kernel
theorem dX0_judgeText_110 : decode cX0_judgeText 110 = .ok (.ireturn, 1) := by decide +kernel
theorem dX0_judgeText_111 : decode cX0_judgeText 111 = .ok (.iload 6, 2) := by decide +kernel
theorem dX0_judgeText_113 : decode cX0_judgeText 113 = .ok (.bipush 38, 2) := by decide +kernel
theorem dX0_judgeText_115 : decode cX0_judgeText 115 = .ok (.if_icmp .eq 12, 3) := by decide +kernel
theorem dX0_judgeText_118 : decode cX0_judgeText 118 = .ok (.iload 6, 2) := by decide +kernel
theorem dX0_judgeText_120 : decode cX0_judgeText 120 = .ok (.bipush 124, 2) := by decide +kernel
theorem dX0_judgeText_122 : decode cX0_judgeText 122 = .ok (.if_icmp .eq 5, 3) := by decide +kernel
theorem dX0_judgeText_125 : decode cX0_judgeText 125 = .ok (.iconst (-1), 1) := by decide +kernel
theorem dX0_judgeText_126 : decode cX0_judgeText 126 = .ok (.ireturn, 1) := by decide +kernel
theorem dX0_judgeText_127 : decode cX0_judgeText 127 = .ok (.iinc 4 1, 3) := by decide +kernel
theorem dX0_judgeText_130 : decode cX0_judgeText 130 = .ok (.goto (-118), 3) := by decide +kernel
theorem dX0_judgeText_133 : decode cX0_judgeText 133 = .ok (.iconst (-1), 1) := by decide +kernel
theorem dX0_judgeText_134 : decode cX0_judgeText 134 = .ok (.ireturn, 1) := by decide +kernel
set_option maxRecDepth 20000 in
theorem ggX0_judgeTest_X3_byteAt : GoodIn wsX0_judgeTest wsX3_byteAt := goodIn_r _ [7, 8, 9, 27, 28] rfl (by decide +kernel)
set_option maxRecDepth 20000 in
theorem gX0_judgeTest_X3_byteAt : GoodIn wsX0_judgeTest (wsV RX0 28 RX3 yX3_byteAt wsX3_byteAt) := goodIn_app (goodIn_of _ (by decide +kernel)) ggX0_judgeTest_X3_byteAt
set_option maxRecDepth 20000 in
theorem ggX0_judgeTest_X0_takeNumber : GoodIn wsX0_judgeTest wsX0_takeNumber := goodIn_r _ [14, 1, 15, 16, 17, 18, 3, 4, 5, 6, 7, 8, 9, 25, 26, 27, 28] rfl (by decide +kernel)
set_option maxRecDepth 20000 in
theorem gX0_judgeTest_X0_takeNumber : GoodIn wsX0_judgeTest (wsV RX0 32 RX0 yX0_takeNumber wsX0_takeNumber) := goodIn_app (goodIn_of _ (by decide +kernel)) ggX0_judgeTest_X0_takeNumber
set_option maxRecDepth 20000 in
theorem ggX0_judgeTest_X0_isKind : GoodIn wsX0_judgeTest wsX0_isKind := goodIn_r _ [21] rfl (by decide +kernel)
set_option maxRecDepth 20000 in
theorem gX0_judgeTest_X0_isKind : GoodIn wsX0_judgeTest (va_wsS RX0 35 yX0_isKind wsX0_isKind) := goodIn_app (goodIn_of _ (by decide +kernel)) ggX0_judgeTest_X0_isKind
set_option maxRecDepth 20000 in
theorem ggX0_judgeTest_X0_holds : GoodIn wsX0_judgeTest wsX0_holds := goodIn_r _ [24] rfl (by decide +kernel)
set_option maxRecDepth 20000 in
theorem gX0_judgeTest_X0_holds : GoodIn wsX0_judgeTest (va_wsS RX0 39 yX0_holds wsX0_holds) := goodIn_app (goodIn_of _ (by decide +kernel)) ggX0_judgeTest_X0_holds
theorem dX0_judgeTest_0 : decode cX0_judgeTest 0 = .ok (.aload_n 1, 1) := by decide +kernel
theorem dX0_judgeTest_1 : decode cX0_judgeTest 1 = .ok (.aload_n 0, 1) := by decide +kernel
theorem dX0_judgeTest_2 : decode cX0_judgeTest 2 = .ok (.getfield 15, 3) := by decide +kernel
theorem dX0_judgeTest_5 : decode cX0_judgeTest 5 = .ok (.invokevirtual 28, 3) := by decide +kernel
theorem dX0_judgeTest_8 : decode cX0_judgeTest 8 = .ok (.bipush 33, 2) := by decide +kernel
theorem dX0_judgeTest_10 : decode cX0_judgeTest 10 = .ok (.if_icmp .ne 7, 3) := by decide +kernel
theorem dX0_judgeTest_13 : decode cX0_judgeTest 13 = .ok (.iconst 1, 1) := by decide +kernel
theorem dX0_judgeTest_14 : decode cX0_judgeTest 14 = .ok (.goto 4, 3) := by decide +kernel
theorem dX0_judgeTest_17 : decode cX0_judgeTest 17 = .ok (.iconst 0, 1) := by decide +kernel
theorem dX0_judgeTest_18 : decode cX0_judgeTest 18 = .ok (.istore_n 2, 1) := by decide +kernel
theorem dX0_judgeTest_19 : decode cX0_judgeTest 19 = .ok (.iload_n 2, 1) := by decide +kernel
theorem dX0_judgeTest_20 : decode cX0_judgeTest 20 = .ok (.ifCond .eq 13, 3) := by decide +kernel
theorem dX0_judgeTest_23 : decode cX0_judgeTest 23 = .ok (.aload_n 0, 1) := by decide +kernel
theorem dX0_judgeTest_24 : decode cX0_judgeTest 24 = .ok (.dup, 1) := by decide +kernel
theorem dX0_judgeTest_25 : decode cX0_judgeTest 25 = .ok (.getfield 15, 3) := by decide +kernel
theorem dX0_judgeTest_28 : decode cX0_judgeTest 28 = .ok (.iconst 1, 1) := by decide +kernel
theorem dX0_judgeTest_29 : decode cX0_judgeTest 29 = .ok (.iadd, 1) := by decide +kernel
theorem dX0_judgeTest_30 : decode cX0_judgeTest 30 = .ok (.putfield 15, 3) := by decide +kernel
theorem dX0_judgeTest_33 : decode cX0_judgeTest 33 = .ok (.aload_n 1, 1) := by decide +kernel
theorem dX0_judgeTest_34 : decode cX0_judgeTest 34 = .ok (.aload_n 0, 1) := by decide +kernel
theorem dX0_judgeTest_35 : decode cX0_judgeTest 35 = .ok (.getfield 15, 3) := by decide +kernel
theorem dX0_judgeTest_38 : decode cX0_judgeTest 38 = .ok (.invokevirtual 28, 3) := by decide +kernel
theorem dX0_judgeTest_41 : decode cX0_judgeTest 41 = .ok (.bipush 97, 2) := by decide +kernel
theorem dX0_judgeTest_43 : decode cX0_judgeTest 43 = .ok (.isub, 1) := by decide +kernel
theorem dX0_judgeTest_44 : decode cX0_judgeTest 44 = .ok (.istore_n 3, 1) := by decide +kernel
theorem dX0_judgeTest_45 : decode cX0_judgeTest 45 = .ok (.aload_n 1, 1) := by decide +kernel
theorem dX0_judgeTest_46 : decode cX0_judgeTest 46 = .ok (.aload_n 0, 1) := by decide +kernel
theorem dX0_judgeTest_47 : decode cX0_judgeTest 47 = .ok (.getfield 15, 3) := by decide +kernel
theorem dX0_judgeTest_50 : decode cX0_judgeTest 50 = .ok (.iconst 1, 1) := by decide +kernel
theorem dX0_judgeTest_51 : decode cX0_judgeTest 51 = .ok (.iadd, 1) := by decide +kernel
theorem dX0_judgeTest_52 : decode cX0_judgeTest 52 = .ok (.invokevirtual 28, 3) := by decide +kernel
theorem dX0_judgeTest_55 : decode cX0_judgeTest 55 = .ok (.istore 4, 2) := by decide +kernel
theorem dX0_judgeTest_57 : decode cX0_judgeTest 57 = .ok (.aload_n 0, 1) := by decide +kernel
theorem dX0_judgeTest_58 : decode cX0_judgeTest 58 = .ok (.dup, 1) := by decide +kernel
theorem dX0_judgeTest_59 : decode cX0_judgeTest 59 = .ok (.getfield 15, 3) := by decide +kernel
theorem dX0_judgeTest_62 : decode cX0_judgeTest 62 = .ok (.iconst 2, 1) := by decide +kernel
theorem dX0_judgeTest_63 : decode cX0_judgeTest 63 = .ok (.iadd, 1) := by decide +kernel
theorem dX0_judgeTest_64 : decode cX0_judgeTest 64 = .ok (.putfield 15, 3) := by decide +kernel
theorem dX0_judgeTest_67 : decode cX0_judgeTest 67 = .ok (.aload_n 0, 1) := by decide +kernel
theorem dX0_judgeTest_68 : decode cX0_judgeTest 68 = .ok (.aload_n 1, 1) := by decide +kernel
theorem dX0_judgeTest_69 : decode cX0_judgeTest 69 = .ok (.invokevirtual 32, 3) := by decide +kernel
theorem dX0_judgeTest_72 : decode cX0_judgeTest 72 = .ok (.istore 5, 2) := by decide +kernel
theorem dX0_judgeTest_74 : decode cX0_judgeTest 74 = .ok (.iload_n 3, 1) := by decide +kernel
theorem dX0_judgeTest_75 : decode cX0_judgeTest 75 = .ok (.ifCond .lt 23, 3) := by decide +kernel
theorem dX0_judgeTest_78 : decode cX0_judgeTest 78 = .ok (.iload_n 3, 1) := by decide +kernel
theorem dX0_judgeTest_79 : decode cX0_judgeTest 79 = .ok (.bipush 8, 2) := by decide +kernel
theorem dX0_judgeTest_81 : decode cX0_judgeTest 81 = .ok (.if_icmp .ge 17, 3) := by decide +kernel
theorem dX0_judgeTest_84 : decode cX0_judgeTest 84 = .ok (.iload 4, 2) := by decide +kernel
theorem dX0_judgeTest_86 : decode cX0_judgeTest 86 = .ok (.invokestatic 35, 3) := by decide +kernel
theorem dX0_judgeTest_89 : decode cX0_judgeTest 89 = .ok (.ifCond .eq 9, 3) := by decide +kernel
theorem dX0_judgeTest_92 : decode cX0_judgeTest 92 = .ok (.iload 5, 2) := by decide +kernel
theorem dX0_judgeTest_94 : decode cX0_judgeTest 94 = .ok (.iconst (-1), 1) := by decide +kernel
theorem dX0_judgeTest_95 : decode cX0_judgeTest 95 = .ok (.if_icmp .ne 5, 3) := by decide +kernel
theorem dX0_judgeTest_98 : decode cX0_judgeTest 98 = .ok (.iconst (-1), 1) := by decide +kernel
theorem dX0_judgeTest_99 : decode cX0_judgeTest 99 = .ok (.ireturn, 1) := by decide +kernel
theorem dX0_judgeTest_100 : decode cX0_judgeTest 100 = .ok (.aload_n 0, 1) := by decide +kernel
theorem dX0_judgeTest_101 : decode cX0_judgeTest 101 = .ok (.getfield 9, 3) := by decide +kernel
theorem dX0_judgeTest_104 : decode cX0_judgeTest 104 = .ok (.iload_n 3, 1) := by decide +kernel
theorem dX0_judgeTest_105 : decode cX0_judgeTest 105 = .ok (.iaload, 1) := by decide +kernel
theorem dX0_judgeTest_106 : decode cX0_judgeTest 106 = .ok (.iload 4, 2) := by decide +kernel
theorem dX0_judgeTest_108 : decode cX0_judgeTest 108 = .ok (.iload 5, 2) := by decide +kernel
theorem dX0_judgeTest_110 : decode cX0_judgeTest 110 = .ok (.invokestatic 39, 3) := by decide +kernel
theorem dX0_judgeTest_113 : decode cX0_judgeTest 113 = .ok (.iload_n 2, 1) := by decide +kernel
theorem dX0_judgeTest_114 : decode cX0_judgeTest 114 = .ok (.if_icmp .eq 7, 3) := by decide +kernel
theorem dX0_judgeTest_117 : decode cX0_judgeTest 117 = .ok (.iconst 1, 1) := by decide +kernel
theorem dX0_judgeTest_118 : decode cX0_judgeTest 118 = .ok (.goto 4, 3) := by decide +kernel
theorem dX0_judgeTest_121 : decode cX0_judgeTest 121 = .ok (.iconst 0, 1) := by decide +kernel
theorem dX0_judgeTest_122 : decode cX0_judgeTest 122 = .ok (.ireturn, 1) := by decide +kernel
set_option maxRecDepth 20000 in
theorem ggX0_takeNumber_X3_byteAt : GoodIn wsX0_takeNumber wsX3_byteAt := goodIn_r _ [10, 11, 12, 15, 16] rfl (by decide +kernel)
set_option maxRecDepth 20000 in
theorem gX0_takeNumber_X3_byteAt : GoodIn wsX0_takeNumber (wsV RX0 28 RX3 yX3_byteAt wsX3_byteAt) := goodIn_app (goodIn_of _ (by decide +kernel)) ggX0_takeNumber_X3_byteAt
theorem dX0_takeNumber_0 : decode cX0_takeNumber 0 = .ok (.iconst (-1), 1) := by decide +kernel
theorem dX0_takeNumber_1 : decode cX0_takeNumber 1 = .ok (.istore_n 2, 1) := by decide +kernel
theorem dX0_takeNumber_2 : decode cX0_takeNumber 2 = .ok (.iconst 0, 1) := by decide +kernel
theorem dX0_takeNumber_3 : decode cX0_takeNumber 3 = .ok (.istore_n 3, 1) := by decide +kernel
theorem dX0_takeNumber_4 : decode cX0_takeNumber 4 = .ok (.iload_n 3, 1) := by decide +kernel
theorem dX0_takeNumber_5 : decode cX0_takeNumber 5 = .ok (.bipush 6, 2) := by decide +kernel
theorem dX0_takeNumber_7 : decode cX0_takeNumber 7 = .ok (.if_icmp .ge 58, 3) := by decide +kernel
theorem dX0_takeNumber_10 : decode cX0_takeNumber 10 = .ok (.aload_n 1, 1) := by decide +kernel
theorem dX0_takeNumber_11 : decode cX0_takeNumber 11 = .ok (.aload_n 0, 1) := by decide +kernel
theorem dX0_takeNumber_12 : decode cX0_takeNumber 12 = .ok (.getfield 15, 3) := by decide +kernel
theorem dX0_takeNumber_15 : decode cX0_takeNumber 15 = .ok (.invokevirtual 28, 3) := by decide +kernel
theorem dX0_takeNumber_18 : decode cX0_takeNumber 18 = .ok (.bipush 48, 2) := by decide +kernel
theorem dX0_takeNumber_20 : decode cX0_takeNumber 20 = .ok (.isub, 1) := by decide +kernel
theorem dX0_takeNumber_21 : decode cX0_takeNumber 21 = .ok (.istore 4, 2) := by decide +kernel
theorem dX0_takeNumber_23 : decode cX0_takeNumber 23 = .ok (.iload 4, 2) := by decide +kernel
theorem dX0_takeNumber_25 : decode cX0_takeNumber 25 = .ok (.ifCond .lt 10, 3) := by decide +kernel
theorem dX0_takeNumber_28 : decode cX0_takeNumber 28 = .ok (.iload 4, 2) := by decide +kernel
theorem dX0_takeNumber_30 : decode cX0_takeNumber 30 = .ok (.bipush 9, 2) := by decide +kernel
theorem dX0_takeNumber_32 : decode cX0_takeNumber 32 = .ok (.if_icmp .le 5, 3) := by decide +kernel
theorem dX0_takeNumber_35 : decode cX0_takeNumber 35 = .ok (.iload_n 2, 1) := by decide +kernel
theorem dX0_takeNumber_36 : decode cX0_takeNumber 36 = .ok (.ireturn, 1) := by decide +kernel
theorem dX0_takeNumber_37 : decode cX0_takeNumber 37 = .ok (.iconst 0, 1) := by decide +kernel
theorem dX0_takeNumber_38 : decode cX0_takeNumber 38 = .ok (.iload_n 2, 1) := by decide +kernel
theorem dX0_takeNumber_39 : decode cX0_takeNumber 39 = .ok (.invokestatic 43, 3) := by decide +kernel
theorem dX0_takeNumber_42 : decode cX0_takeNumber 42 = .ok (.bipush 10, 2) := by decide +kernel
theorem dX0_takeNumber_44 : decode cX0_takeNumber 44 = .ok (.imul, 1) := by decide +kernel
theorem dX0_takeNumber_45 : decode cX0_takeNumber 45 = .ok (.iload 4, 2) := by decide +kernel
theorem dX0_takeNumber_47 : decode cX0_takeNumber 47 = .ok (.iadd, 1) := by decide +kernel
theorem dX0_takeNumber_48 : decode cX0_takeNumber 48 = .ok (.istore_n 2, 1) := by decide +kernel
theorem dX0_takeNumber_49 : decode cX0_takeNumber 49 = .ok (.aload_n 0, 1) := by decide +kernel
theorem dX0_takeNumber_50 : decode cX0_takeNumber 50 = .ok (.dup, 1) := by decide +kernel
theorem dX0_takeNumber_51 : decode cX0_takeNumber 51 = .ok (.getfield 15, 3) := by decide +kernel
theorem dX0_takeNumber_54 : decode cX0_takeNumber 54 = .ok (.iconst 1, 1) := by decide +kernel
theorem dX0_takeNumber_55 : decode cX0_takeNumber 55 = .ok (.iadd, 1) := by decide +kernel
theorem dX0_takeNumber_56 : decode cX0_takeNumber 56 = .ok (.putfield 15, 3) := by decide +kernel
theorem dX0_takeNumber_59 : decode cX0_takeNumber 59 = .ok (.iinc 3 1, 3) := by decide +kernel
theorem dX0_takeNumber_62 : decode cX0_takeNumber 62 = .ok (.goto (-58), 3) := by decide +kernel
theorem dX0_takeNumber_65 : decode cX0_takeNumber 65 = .ok (.iload_n 2, 1) := by decide +kernel
theorem dX0_takeNumber_66 : decode cX0_takeNumber 66 = .ok (.ireturn, 1) := by decide +kernel
theorem dX0_isKind_0 : decode cX0_isKind 0 = .ok (.iload_n 0, 1) := by decide +kernel
theorem dX0_isKind_1 : decode cX0_isKind 1 = .ok (.bipush 60, 2) := by decide +kernel
theorem dX0_isKind_3 : decode cX0_isKind 3 = .ok (.if_icmp .eq 21, 3) := by decide +kernel
theorem dX0_isKind_6 : decode cX0_isKind 6 = .ok (.iload_n 0, 1) := by decide +kernel
theorem dX0_isKind_7 : decode cX0_isKind 7 = .ok (.bipush 61, 2) := by decide +kernel
theorem dX0_isKind_9 : decode cX0_isKind 9 = .ok (.if_icmp .eq 15, 3) := by decide +kernel
theorem dX0_isKind_12 : decode cX0_isKind 12 = .ok (.iload_n 0, 1) := by decide +kernel
theorem dX0_isKind_13 : decode cX0_isKind 13 = .ok (.bipush 62, 2) := by decide +kernel
theorem dX0_isKind_15 : decode cX0_isKind 15 = .ok (.if_icmp .eq 9, 3) := by decide +kernel
theorem dX0_isKind_18 : decode cX0_isKind 18 = .ok (.iload_n 0, 1) := by decide +kernel
theorem dX0_isKind_19 : decode cX0_isKind 19 = .ok (.bipush 35, 2) := by decide +kernel
theorem dX0_isKind_21 : decode cX0_isKind 21 = .ok (.if_icmp .ne 7, 3) := by decide +kernel
theorem dX0_isKind_24 : decode cX0_isKind 24 = .ok (.iconst 1, 1) := by decide +kernel
theorem dX0_isKind_25 : decode cX0_isKind 25 = .ok (.goto 4, 3) := by decide +kernel
theorem dX0_isKind_28 : decode cX0_isKind 28 = .ok (.iconst 0, 1) := by decide +kernel
theorem dX0_isKind_29 : decode cX0_isKind 29 = .ok (.ireturn, 1) := by decide +kernel
theorem dX0_holds_0 : decode cX0_holds 0 = .ok (.iload_n 1, 1) := by decide +kernel
theorem dX0_holds_1 : decode cX0_holds 1 = .ok (.tableswitch 60 60 62 #[27, 38, 49], 27) := by decide +kernel
theorem dX0_holds_28 : decode cX0_holds 28 = .ok (.iload_n 0, 1) := by decide +kernel
theorem dX0_holds_29 : decode cX0_holds 29 = .ok (.iload_n 2, 1) := by decide +kernel
theorem dX0_holds_30 : decode cX0_holds 30 = .ok (.if_icmp .ge 7, 3) := by decide +kernel
theorem dX0_holds_33 : decode cX0_holds 33 = .ok (.iconst 1, 1) := by decide +kernel
theorem dX0_holds_34 : decode cX0_holds 34 = .ok (.goto 4, 3) := by decide +kernel
theorem dX0_holds_37 : decode cX0_holds 37 = .ok (.iconst 0, 1) := by decide +kernel
theorem dX0_holds_38 : decode cX0_holds 38 = .ok (.ireturn, 1) := by decide +kernel
theorem dX0_holds_39 : decode cX0_holds 39 = .ok (.iload_n 0, 1) := by decide +kernel
theorem dX0_holds_40 : decode cX0_holds 40 = .ok (.iload_n 2, 1) := by decide +kernel
theorem dX0_holds_41 : decode cX0_holds 41 = .ok (.if_icmp .ne 7, 3) := by decide +kernel
theorem dX0_holds_44 : decode cX0_holds 44 = .ok (.iconst 1, 1) := by decide +kernel
theorem dX0_holds_45 : decode cX0_holds 45 = .ok (.goto 4, 3) := by decide +kernel
theorem dX0_holds_48 : decode cX0_holds 48 = .ok (.iconst 0, 1) := by decide +kernel
theorem dX0_holds_49 : decode cX0_holds 49 = .ok (.ireturn, 1) := by decide +kernel
theorem dX0_holds_50 : decode cX0_holds 50 = .ok (.iload_n 0, 1) := by decide +kernel
theorem dX0_holds_51 : decode cX0_holds 51 = .ok (.iload_n 2, 1) := by decide +kernel
theorem dX0_holds_52 : decode cX0_holds 52 = .ok (.if_icmp .le 7, 3) := by decide +kernel
theorem dX0_holds_55 : decode cX0_holds 55 = .ok (.iconst 1, 1) := by decide +kernel
theorem dX0_holds_56 : decode cX0_holds 56 = .ok (.goto 4, 3) := by decide +kernel
theorem dX0_holds_59 : decode cX0_holds 59 = .ok (.iconst 0, 1) := by decide +kernel
theorem dX0_holds_60 : decode cX0_holds 60 = .ok (.ireturn, 1) := by decide +kernel
theorem dX0_holds_61 : decode cX0_holds 61 = .ok (.iload_n 2, 1) := by decide +kernel
theorem dX0_holds_62 : decode cX0_holds 62 = .ok (.ifCond .ne 15, 3) := by decide +kernel
theorem dX0_holds_65 : decode cX0_holds 65 = .ok (.iload_n 0, 1) := by decide +kernel
theorem dX0_holds_66 : decode cX0_holds 66 = .ok (.ifCond .ne 7, 3) := by decide +kernel
theorem dX0_holds_69 : decode cX0_holds 69 = .ok (.iconst 1, 1) := by decide +kernel
theorem dX0_holds_70 : decode cX0_holds 70 = .ok (.goto 18, 3) := by decide +kernel
theorem dX0_holds_73 : decode cX0_holds 73 = .ok (.iconst 0, 1) := by decide +kernel
theorem dX0_holds_74 : decode cX0_holds 74 = .ok (.goto 14, 3) := by decide +kernel
theorem dX0_holds_77 : decode cX0_holds 77 = .ok (.iload_n 0, 1) := by decide +kernel
theorem dX0_holds_78 : decode cX0_holds 78 = .ok (.iload_n 2, 1) := by decide +kernel
theorem dX0_holds_79 : decode cX0_holds 79 = .ok (.irem, 1) := by decide +kernel
theorem dX0_holds_80 : decode cX0_holds 80 = .ok (.ifCond .ne 7, 3) := by decide +kernel
theorem dX0_holds_83 : decode cX0_holds 83 = .ok (.iconst 1, 1) := by decide +kernel
theorem dX0_holds_84 : decode cX0_holds 84 = .ok (.goto 4, 3) := by decide +kernel
theorem dX0_holds_87 : decode cX0_holds 87 = .ok (.iconst 0, 1) := by decide +kernel
theorem dX0_holds_88 : decode cX0_holds 88 = .ok (.ireturn, 1) := by decide +kernel
