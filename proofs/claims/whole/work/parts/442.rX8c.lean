-- needs:
theorem dX8_sealNow_24 : decode cX8_sealNow 24 = .ok (.invokevirtual 138, 3) := by decide +kernel
theorem dX8_sealNow_27 : decode cX8_sealNow 27 = .ok (.aload_n 0, 1) := by decide +kernel
theorem dX8_sealNow_28 : decode cX8_sealNow 28 = .ok (.invokevirtual 142, 3) := by decide +kernel
theorem dX8_sealNow_31 : decode cX8_sealNow 31 = .ok (.iconst 0, 1) := by decide +kernel
theorem dX8_sealNow_32 : decode cX8_sealNow 32 = .ok (.istore_n 1, 1) := by decide +kernel
theorem dX8_sealNow_33 : decode cX8_sealNow 33 = .ok (.iload_n 1, 1) := by decide +kernel
theorem dX8_sealNow_34 : decode cX8_sealNow 34 = .ok (.bipush 32, 2) := by decide +kernel
theorem dX8_sealNow_36 : decode cX8_sealNow 36 = .ok (.if_icmp .ge 21, 3) := by decide +kernel
theorem dX8_sealNow_39 : decode cX8_sealNow 39 = .ok (.aload_n 0, 1) := by decide +kernel
theorem dX8_sealNow_40 : decode cX8_sealNow 40 = .ok (.getfield 31, 3) := by decide +kernel
theorem dX8_sealNow_43 : decode cX8_sealNow 43 = .ok (.iload_n 1, 1) := by decide +kernel
theorem dX8_sealNow_44 : decode cX8_sealNow 44 = .ok (.aload_n 0, 1) := by decide +kernel
theorem dX8_sealNow_45 : decode cX8_sealNow 45 = .ok (.getfield 28, 3) := by decide +kernel
theorem dX8_sealNow_48 : decode cX8_sealNow 48 = .ok (.iload_n 1, 1) := by decide +kernel
theorem dX8_sealNow_49 : decode cX8_sealNow 49 = .ok (.iaload, 1) := by decide +kernel
theorem dX8_sealNow_50 : decode cX8_sealNow 50 = .ok (.iastore, 1) := by decide +kernel
theorem dX8_sealNow_51 : decode cX8_sealNow 51 = .ok (.iinc 1 1, 3) := by decide +kernel
theorem dX8_sealNow_54 : decode cX8_sealNow 54 = .ok (.goto (-21), 3) := by decide +kernel
theorem dX8_sealNow_57 : decode cX8_sealNow 57 = .ok (.aload_n 0, 1) := by decide +kernel
theorem dX8_sealNow_58 : decode cX8_sealNow 58 = .ok (.bipush 32, 2) := by decide +kernel
theorem dX8_sealNow_60 : decode cX8_sealNow 60 = .ok (.putfield 132, 3) := by decide +kernel
theorem dX8_sealNow_63 : decode cX8_sealNow 63 = .ok (.aload_n 0, 1) := by decide +kernel
theorem dX8_sealNow_64 : decode cX8_sealNow 64 = .ok (.bipush 54, 2) := by decide +kernel
theorem dX8_sealNow_66 : decode cX8_sealNow 66 = .ok (.invokevirtual 145, 3) := by decide +kernel
theorem dX8_sealNow_69 : decode cX8_sealNow 69 = .ok (.aload_n 0, 1) := by decide +kernel
theorem dX8_sealNow_70 : decode cX8_sealNow 70 = .ok (.aload_n 0, 1) := by decide +kernel
theorem dX8_sealNow_71 : decode cX8_sealNow 71 = .ok (.getfield 34, 3) := by decide +kernel
theorem dX8_sealNow_74 : decode cX8_sealNow 74 = .ok (.iconst 0, 1) := by decide +kernel
theorem dX8_sealNow_75 : decode cX8_sealNow 75 = .ok (.aload_n 0, 1) := by decide +kernel
theorem dX8_sealNow_76 : decode cX8_sealNow 76 = .ok (.getfield 135, 3) := by decide +kernel
theorem dX8_sealNow_79 : decode cX8_sealNow 79 = .ok (.invokevirtual 138, 3) := by decide +kernel
theorem dX8_sealNow_82 : decode cX8_sealNow 82 = .ok (.aload_n 0, 1) := by decide +kernel
theorem dX8_sealNow_83 : decode cX8_sealNow 83 = .ok (.invokevirtual 142, 3) := by decide +kernel
theorem dX8_sealNow_86 : decode cX8_sealNow 86 = .ok (.aload_n 0, 1) := by decide +kernel
theorem dX8_sealNow_87 : decode cX8_sealNow 87 = .ok (.bipush 92, 2) := by decide +kernel
theorem dX8_sealNow_89 : decode cX8_sealNow 89 = .ok (.invokevirtual 145, 3) := by decide +kernel
theorem dX8_sealNow_92 : decode cX8_sealNow 92 = .ok (.aload_n 0, 1) := by decide +kernel
theorem dX8_sealNow_93 : decode cX8_sealNow 93 = .ok (.aload_n 0, 1) := by decide +kernel
theorem dX8_sealNow_94 : decode cX8_sealNow 94 = .ok (.getfield 28, 3) := by decide +kernel
theorem dX8_sealNow_97 : decode cX8_sealNow 97 = .ok (.iconst 0, 1) := by decide +kernel
theorem dX8_sealNow_98 : decode cX8_sealNow 98 = .ok (.bipush 32, 2) := by decide +kernel
theorem dX8_sealNow_100 : decode cX8_sealNow 100 = .ok (.invokevirtual 138, 3) := by decide +kernel
theorem dX8_sealNow_103 : decode cX8_sealNow 103 = .ok (.aload_n 0, 1) := by decide +kernel
theorem dX8_sealNow_104 : decode cX8_sealNow 104 = .ok (.invokevirtual 142, 3) := by decide +kernel
theorem dX8_sealNow_107 : decode cX8_sealNow 107 = .ok (.aload_n 0, 1) := by decide +kernel
theorem dX8_sealNow_108 : decode cX8_sealNow 108 = .ok (.getfield 28, 3) := by decide +kernel
theorem dX8_sealNow_111 : decode cX8_sealNow 111 = .ok (.aload_n 0, 1) := by decide +kernel
theorem dX8_sealNow_112 : decode cX8_sealNow 112 = .ok (.getfield 37, 3) := by decide +kernel
theorem dX8_sealNow_115 : decode cX8_sealNow 115 = .ok (.iconst 0, 1) := by decide +kernel
theorem dX8_sealNow_116 : decode cX8_sealNow 116 = .ok (.invokestatic 149, 3) := by decide +kernel
theorem dX8_sealNow_119 : decode cX8_sealNow 119 = .ok (.return_, 1) := by decide +kernel
theorem dX8_copyTo_0 : decode cX8_copyTo 0 = .ok (.iconst 0, 1) := by decide +kernel
theorem dX8_copyTo_1 : decode cX8_copyTo 1 = .ok (.istore_n 3, 1) := by decide +kernel
theorem dX8_copyTo_2 : decode cX8_copyTo 2 = .ok (.iload_n 3, 1) := by decide +kernel
theorem dX8_copyTo_3 : decode cX8_copyTo 3 = .ok (.bipush 32, 2) := by decide +kernel
theorem dX8_copyTo_5 : decode cX8_copyTo 5 = .ok (.if_icmp .ge 17, 3) := by decide +kernel
theorem dX8_copyTo_8 : decode cX8_copyTo 8 = .ok (.aload_n 1, 1) := by decide +kernel
theorem dX8_copyTo_9 : decode cX8_copyTo 9 = .ok (.iload_n 2, 1) := by decide +kernel
theorem dX8_copyTo_10 : decode cX8_copyTo 10 = .ok (.iload_n 3, 1) := by decide +kernel
theorem dX8_copyTo_11 : decode cX8_copyTo 11 = .ok (.iadd, 1) := by decide +kernel
theorem dX8_copyTo_12 : decode cX8_copyTo 12 = .ok (.aload_n 0, 1) := by decide +kernel
theorem dX8_copyTo_13 : decode cX8_copyTo 13 = .ok (.iload_n 3, 1) := by decide +kernel
theorem dX8_copyTo_14 : decode cX8_copyTo 14 = .ok (.iaload, 1) := by decide +kernel
theorem dX8_copyTo_15 : decode cX8_copyTo 15 = .ok (.iastore, 1) := by decide +kernel
theorem dX8_copyTo_16 : decode cX8_copyTo 16 = .ok (.iinc 3 1, 3) := by decide +kernel
theorem dX8_copyTo_19 : decode cX8_copyTo 19 = .ok (.goto (-17), 3) := by decide +kernel
theorem dX8_copyTo_22 : decode cX8_copyTo 22 = .ok (.return_, 1) := by decide +kernel
set_option maxRecDepth 20000 in
theorem ggX8_is_X8_within : GoodIn wsX8_is wsX8_within := goodIn_r _ [4] rfl (by decide +kernel)
set_option maxRecDepth 20000 in
theorem gX8_is_X8_within : GoodIn wsX8_is (va_wsS RX8 153 yX8_within wsX8_within) := goodIn_app (goodIn_of _ (by decide +kernel)) ggX8_is_X8_within
theorem dX8_is_0 : decode cX8_is 0 = .ok (.iload_n 0, 1) := by decide +kernel
theorem dX8_is_1 : decode cX8_is 1 = .ok (.iconst 0, 1) := by decide +kernel
theorem dX8_is_2 : decode cX8_is 2 = .ok (.bipush 7, 2) := by decide +kernel
theorem dX8_is_4 : decode cX8_is 4 = .ok (.invokestatic 153, 3) := by decide +kernel
theorem dX8_is_7 : decode cX8_is 7 = .ok (.ireturn, 1) := by decide +kernel
set_option maxRecDepth 20000 in
theorem ggX8_add__X8_is : GoodIn wsX8_add_ wsX8_is := goodIn_r _ [8, 9, 10, 7, 11] rfl (by decide +kernel)
set_option maxRecDepth 20000 in
theorem gX8_add__X8_is : GoodIn wsX8_add_ (va_wsS RX8 157 yX8_is wsX8_is) := goodIn_app (goodIn_of _ (by decide +kernel)) ggX8_add__X8_is
set_option maxRecDepth 20000 in
theorem ggX8_add__X8_within : GoodIn wsX8_add_ wsX8_within := goodIn_r _ [11] rfl (by decide +kernel)
set_option maxRecDepth 20000 in
theorem gX8_add__X8_within : GoodIn wsX8_add_ (va_wsS RX8 153 yX8_within wsX8_within) := goodIn_app (goodIn_of _ (by decide +kernel)) ggX8_add__X8_within
theorem dX8_add__0 : decode cX8_add_ 0 = .ok (.aload_n 0, 1) := by decide +kernel
theorem dX8_add__1 : decode cX8_add_ 1 = .ok (.iconst 0, 1) := by decide +kernel
theorem dX8_add__2 : decode cX8_add_ 2 = .ok (.putfield 112, 3) := by decide +kernel
theorem dX8_add__5 : decode cX8_add_ 5 = .ok (.iload_n 1, 1) := by decide +kernel
theorem dX8_add__6 : decode cX8_add_ 6 = .ok (.invokestatic 157, 3) := by decide +kernel
theorem dX8_add__9 : decode cX8_add_ 9 = .ok (.ifCond .eq 13, 3) := by decide +kernel
theorem dX8_add__12 : decode cX8_add_ 12 = .ok (.iload_n 2, 1) := by decide +kernel
theorem dX8_add__13 : decode cX8_add_ 13 = .ok (.iconst 1, 1) := by decide +kernel
theorem dX8_add__14 : decode cX8_add_ 14 = .ok (.bipush 8, 2) := by decide +kernel
theorem dX8_add__16 : decode cX8_add_ 16 = .ok (.invokestatic 153, 3) := by decide +kernel
theorem dX8_add__19 : decode cX8_add_ 19 = .ok (.ifCond .ne 6, 3) := by decide +kernel
theorem dX8_add__22 : decode cX8_add_ 22 = .ok (.bipush (-2), 2) := by decide +kernel
theorem dX8_add__24 : decode cX8_add_ 24 = .ok (.ireturn, 1) := by decide +kernel
theorem dX8_add__25 : decode cX8_add_ 25 = .ok (.aload_n 0, 1) := by decide +kernel
theorem dX8_add__26 : decode cX8_add_ 26 = .ok (.getfield 49, 3) := by decide +kernel
theorem dX8_add__29 : decode cX8_add_ 29 = .ok (.iload_n 1, 1) := by decide +kernel
theorem dX8_add__30 : decode cX8_add_ 30 = .ok (.iaload, 1) := by decide +kernel
theorem dX8_add__31 : decode cX8_add_ 31 = .ok (.iload_n 2, 1) := by decide +kernel
theorem dX8_add__32 : decode cX8_add_ 32 = .ok (.iadd, 1) := by decide +kernel
theorem dX8_add__33 : decode cX8_add_ 33 = .ok (.bipush 100, 2) := by decide +kernel
theorem dX8_add__35 : decode cX8_add_ 35 = .ok (.if_icmp .le 6, 3) := by decide +kernel
theorem dX8_add__38 : decode cX8_add_ 38 = .ok (.bipush (-3), 2) := by decide +kernel
theorem dX8_add__40 : decode cX8_add_ 40 = .ok (.ireturn, 1) := by decide +kernel
theorem dX8_add__41 : decode cX8_add_ 41 = .ok (.iconst 0, 1) := by decide +kernel
theorem dX8_add__42 : decode cX8_add_ 42 = .ok (.istore 5, 2) := by decide +kernel
theorem dX8_add__44 : decode cX8_add_ 44 = .ok (.iload 5, 2) := by decide +kernel
theorem dX8_add__46 : decode cX8_add_ 46 = .ok (.iload_n 2, 1) := by decide +kernel
theorem dX8_add__47 : decode cX8_add_ 47 = .ok (.if_icmp .ge 47, 3) := by decide +kernel
theorem dX8_add__50 : decode cX8_add_ 50 = .ok (.aload_n 0, 1) := by decide +kernel
theorem dX8_add__51 : decode cX8_add_ 51 = .ok (.getfield 46, 3) := by decide +kernel
theorem dX8_add__54 : decode cX8_add_ 54 = .ok (.bipush 100, 2) := by decide +kernel
theorem dX8_add__56 : decode cX8_add_ 56 = .ok (.iload_n 1, 1) := by decide +kernel
theorem dX8_add__57 : decode cX8_add_ 57 = .ok (.imul, 1) := by decide +kernel
theorem dX8_add__58 : decode cX8_add_ 58 = .ok (.aload_n 0, 1) := by decide +kernel
theorem dX8_add__59 : decode cX8_add_ 59 = .ok (.getfield 49, 3) := by decide +kernel
theorem dX8_add__62 : decode cX8_add_ 62 = .ok (.iload_n 1, 1) := by decide +kernel
theorem dX8_add__63 : decode cX8_add_ 63 = .ok (.iaload, 1) := by decide +kernel
theorem dX8_add__64 : decode cX8_add_ 64 = .ok (.iadd, 1) := by decide +kernel
theorem dX8_add__65 : decode cX8_add_ 65 = .ok (.lload_n 3, 1) := by decide +kernel
theorem dX8_add__66 : decode cX8_add_ 66 = .ok (.bipush 8, 2) := by decide +kernel
theorem dX8_add__68 : decode cX8_add_ 68 = .ok (.iload 5, 2) := by decide +kernel
theorem dX8_add__70 : decode cX8_add_ 70 = .ok (.imul, 1) := by decide +kernel
theorem dX8_add__71 : decode cX8_add_ 71 = .ok (.lshr, 1) := by decide +kernel
theorem dX8_add__72 : decode cX8_add_ 72 = .ok (.ldc2_w 161, 3) := by decide +kernel
theorem dX8_add__75 : decode cX8_add_ 75 = .ok (.land, 1) := by decide +kernel
theorem dX8_add__76 : decode cX8_add_ 76 = .ok (.l2i, 1) := by decide +kernel
theorem dX8_add__77 : decode cX8_add_ 77 = .ok (.iastore, 1) := by decide +kernel
theorem dX8_add__78 : decode cX8_add_ 78 = .ok (.aload_n 0, 1) := by decide +kernel
theorem dX8_add__79 : decode cX8_add_ 79 = .ok (.getfield 49, 3) := by decide +kernel
theorem dX8_add__82 : decode cX8_add_ 82 = .ok (.iload_n 1, 1) := by decide +kernel
theorem dX8_add__83 : decode cX8_add_ 83 = .ok (.dup2, 1) := by decide +kernel
theorem dX8_add__84 : decode cX8_add_ 84 = .ok (.iaload, 1) := by decide +kernel
theorem dX8_add__85 : decode cX8_add_ 85 = .ok (.iconst 1, 1) := by decide +kernel
theorem dX8_add__86 : decode cX8_add_ 86 = .ok (.iadd, 1) := by decide +kernel
theorem dX8_add__87 : decode cX8_add_ 87 = .ok (.iastore, 1) := by decide +kernel
theorem dX8_add__88 : decode cX8_add_ 88 = .ok (.iinc 5 1, 3) := by decide +kernel
theorem dX8_add__91 : decode cX8_add_ 91 = .ok (.goto (-47), 3) := by decide +kernel
theorem dX8_add__94 : decode cX8_add_ 94 = .ok (.aload_n 0, 1) := by decide +kernel
theorem dX8_add__95 : decode cX8_add_ 95 = .ok (.getfield 49, 3) := by decide +kernel
theorem dX8_add__98 : decode cX8_add_ 98 = .ok (.iload_n 1, 1) := by decide +kernel
theorem dX8_add__99 : decode cX8_add_ 99 = .ok (.iaload, 1) := by decide +kernel
theorem dX8_add__100 : decode cX8_add_ 100 = .ok (.ireturn, 1) := by decide +kernel
set_option maxRecDepth 20000 in
theorem ggX8_clear_X8_is : GoodIn wsX8_clear wsX8_is := goodIn_r _ [6, 7, 8, 5, 9] rfl (by decide +kernel)
set_option maxRecDepth 20000 in
theorem gX8_clear_X8_is : GoodIn wsX8_clear (va_wsS RX8 157 yX8_is wsX8_is) := goodIn_app (goodIn_of _ (by decide +kernel)) ggX8_clear_X8_is
theorem dX8_clear_0 : decode cX8_clear 0 = .ok (.aload_n 0, 1) := by decide +kernel
theorem dX8_clear_1 : decode cX8_clear 1 = .ok (.iconst 0, 1) := by decide +kernel
theorem dX8_clear_2 : decode cX8_clear 2 = .ok (.putfield 112, 3) := by decide +kernel
theorem dX8_clear_5 : decode cX8_clear 5 = .ok (.iload_n 1, 1) := by decide +kernel
theorem dX8_clear_6 : decode cX8_clear 6 = .ok (.invokestatic 157, 3) := by decide +kernel
theorem dX8_clear_9 : decode cX8_clear 9 = .ok (.ifCond .ne 6, 3) := by decide +kernel
theorem dX8_clear_12 : decode cX8_clear 12 = .ok (.bipush (-2), 2) := by decide +kernel
theorem dX8_clear_14 : decode cX8_clear 14 = .ok (.ireturn, 1) := by decide +kernel
theorem dX8_clear_15 : decode cX8_clear 15 = .ok (.aload_n 0, 1) := by decide +kernel
theorem dX8_clear_16 : decode cX8_clear 16 = .ok (.getfield 49, 3) := by decide +kernel
theorem dX8_clear_19 : decode cX8_clear 19 = .ok (.iload_n 1, 1) := by decide +kernel
theorem dX8_clear_20 : decode cX8_clear 20 = .ok (.iaload, 1) := by decide +kernel
theorem dX8_clear_21 : decode cX8_clear 21 = .ok (.istore_n 2, 1) := by decide +kernel
theorem dX8_clear_22 : decode cX8_clear 22 = .ok (.aload_n 0, 1) := by decide +kernel
theorem dX8_clear_23 : decode cX8_clear 23 = .ok (.getfield 49, 3) := by decide +kernel
theorem dX8_clear_26 : decode cX8_clear 26 = .ok (.iload_n 1, 1) := by decide +kernel
theorem dX8_clear_27 : decode cX8_clear 27 = .ok (.iconst 0, 1) := by decide +kernel
theorem dX8_clear_28 : decode cX8_clear 28 = .ok (.iastore, 1) := by decide +kernel
theorem dX8_clear_29 : decode cX8_clear 29 = .ok (.iload_n 2, 1) := by decide +kernel
theorem dX8_clear_30 : decode cX8_clear 30 = .ok (.ireturn, 1) := by decide +kernel
set_option maxRecDepth 20000 in
theorem ggX8_at_X8_is : GoodIn wsX8_at wsX8_is := goodIn_r _ [7, 8, 9, 6, 10] rfl (by decide +kernel)
set_option maxRecDepth 20000 in
theorem gX8_at_X8_is : GoodIn wsX8_at (va_wsS RX8 157 yX8_is wsX8_is) := goodIn_app (goodIn_of _ (by decide +kernel)) ggX8_at_X8_is
set_option maxRecDepth 20000 in
theorem ggX8_at_X8_within : GoodIn wsX8_at wsX8_within := goodIn_r _ [10] rfl (by decide +kernel)
set_option maxRecDepth 20000 in
theorem gX8_at_X8_within : GoodIn wsX8_at (va_wsS RX8 153 yX8_within wsX8_within) := goodIn_app (goodIn_of _ (by decide +kernel)) ggX8_at_X8_within
theorem dX8_at_0 : decode cX8_at 0 = .ok (.aload_n 0, 1) := by decide +kernel
theorem dX8_at_1 : decode cX8_at 1 = .ok (.iconst 0, 1) := by decide +kernel
theorem dX8_at_2 : decode cX8_at 2 = .ok (.putfield 112, 3) := by decide +kernel
theorem dX8_at_5 : decode cX8_at 5 = .ok (.iload_n 1, 1) := by decide +kernel
theorem dX8_at_6 : decode cX8_at 6 = .ok (.invokestatic 157, 3) := by decide +kernel
theorem dX8_at_9 : decode cX8_at 9 = .ok (.ifCond .ne 8, 3) := by decide +kernel
theorem dX8_at_12 : decode cX8_at 12 = .ok (.bipush (-2), 2) := by decide +kernel
theorem dX8_at_14 : decode cX8_at 14 = .ok (.goto 34, 3) := by decide +kernel
theorem dX8_at_17 : decode cX8_at 17 = .ok (.iload_n 2, 1) := by decide +kernel
theorem dX8_at_18 : decode cX8_at 18 = .ok (.iconst 0, 1) := by decide +kernel
theorem dX8_at_19 : decode cX8_at 19 = .ok (.aload_n 0, 1) := by decide +kernel
theorem dX8_at_20 : decode cX8_at 20 = .ok (.getfield 49, 3) := by decide +kernel
theorem dX8_at_23 : decode cX8_at 23 = .ok (.iload_n 1, 1) := by decide +kernel
theorem dX8_at_24 : decode cX8_at 24 = .ok (.iaload, 1) := by decide +kernel
theorem dX8_at_25 : decode cX8_at 25 = .ok (.iconst 1, 1) := by decide +kernel
theorem dX8_at_26 : decode cX8_at 26 = .ok (.isub, 1) := by decide +kernel
theorem dX8_at_27 : decode cX8_at 27 = .ok (.invokestatic 153, 3) := by decide +kernel
theorem dX8_at_30 : decode cX8_at 30 = .ok (.ifCond .eq 17, 3) := by decide +kernel
theorem dX8_at_33 : decode cX8_at 33 = .ok (.aload_n 0, 1) := by decide +kernel
theorem dX8_at_34 : decode cX8_at 34 = .ok (.getfield 46, 3) := by decide +kernel
theorem dX8_at_37 : decode cX8_at 37 = .ok (.bipush 100, 2) := by decide +kernel
theorem dX8_at_39 : decode cX8_at 39 = .ok (.iload_n 1, 1) := by decide +kernel
theorem dX8_at_40 : decode cX8_at 40 = .ok (.imul, 1) := by decide +kernel
theorem dX8_at_41 : decode cX8_at 41 = .ok (.iload_n 2, 1) := by decide +kernel
theorem dX8_at_42 : decode cX8_at 42 = .ok (.iadd, 1) := by decide +kernel
theorem dX8_at_43 : decode cX8_at 43 = .ok (.iaload, 1) := by decide +kernel
theorem dX8_at_44 : decode cX8_at 44 = .ok (.goto 4, 3) := by decide +kernel
theorem dX8_at_47 : decode cX8_at 47 = .ok (.iconst (-1), 1) := by decide +kernel
theorem dX8_at_48 : decode cX8_at 48 = .ok (.ireturn, 1) := by decide +kernel
set_option maxRecDepth 20000 in
theorem ggX8_hash_X8_is : GoodIn wsX8_hash wsX8_is := goodIn_r _ [9, 10, 11, 8, 12] rfl (by decide +kernel)
set_option maxRecDepth 20000 in
theorem gX8_hash_X8_is : GoodIn wsX8_hash (va_wsS RX8 157 yX8_is wsX8_is) := goodIn_app (goodIn_of _ (by decide +kernel)) ggX8_hash_X8_is
set_option maxRecDepth 20000 in
theorem ggX8_hash_X8_take : GoodIn wsX8_hash wsX8_take := goodIn_r _ [16, 17, 2, 37, 38, 39, 40, 41, 42, 43, 44, 45, 46, 47, 48, 49, 50, 51, 52, 53, 54, 55, 56, 57, 58, 59, 60, 61, 62, 63, 64, 65, 66, 67, 68, 69, 70, 71, 72, 73, 74, 75, 76, 77, 78] rfl (by decide +kernel)
set_option maxRecDepth 20000 in
theorem gX8_hash_X8_take : GoodIn wsX8_hash (wsV RX8 138 RX8 yX8_take wsX8_take) := goodIn_app (goodIn_of _ (by decide +kernel)) ggX8_hash_X8_take
set_option maxRecDepth 20000 in
theorem ggX8_hash_X8_hashNow : GoodIn wsX8_hash wsX8_hashNow := goodIn_r _ [21, 2, 17, 22, 23, 24, 5, 25, 26, 27, 8, 28, 29, 30, 31, 32, 33, 37, 38, 39, 40, 41, 42, 43, 44, 45, 46, 47, 48, 49, 50, 51, 52, 53, 54, 55, 56, 57, 58, 59, 60, 61, 62, 63, 64, 65, 66, 67, 68, 69, 70, 71, 72, 73, 74, 75, 76, 77, 78] rfl (by decide +kernel)
set_option maxRecDepth 20000 in
theorem gX8_hash_X8_hashNow : GoodIn wsX8_hash (wsV RX8 142 RX8 yX8_hashNow wsX8_hashNow) := goodIn_app (goodIn_of _ (by decide +kernel)) ggX8_hash_X8_hashNow
set_option maxRecDepth 20000 in
theorem ggX8_hash_X8_copyTo : GoodIn wsX8_hash wsX8_copyTo := goodIn_r _ [36] rfl (by decide +kernel)
set_option maxRecDepth 20000 in
theorem gX8_hash_X8_copyTo : GoodIn wsX8_hash (va_wsS RX8 149 yX8_copyTo wsX8_copyTo) := goodIn_app (goodIn_of _ (by decide +kernel)) ggX8_hash_X8_copyTo
theorem dX8_hash_0 : decode cX8_hash 0 = .ok (.aload_n 0, 1) := by decide +kernel
theorem dX8_hash_1 : decode cX8_hash 1 = .ok (.iconst 0, 1) := by decide +kernel
theorem dX8_hash_2 : decode cX8_hash 2 = .ok (.putfield 112, 3) := by decide +kernel
theorem dX8_hash_5 : decode cX8_hash 5 = .ok (.iload_n 1, 1) := by decide +kernel
theorem dX8_hash_6 : decode cX8_hash 6 = .ok (.invokestatic 157, 3) := by decide +kernel
theorem dX8_hash_9 : decode cX8_hash 9 = .ok (.ifCond .eq 10, 3) := by decide +kernel
theorem dX8_hash_12 : decode cX8_hash 12 = .ok (.iload_n 2, 1) := by decide +kernel
theorem dX8_hash_13 : decode cX8_hash 13 = .ok (.invokestatic 157, 3) := by decide +kernel
theorem dX8_hash_16 : decode cX8_hash 16 = .ok (.ifCond .ne 6, 3) := by decide +kernel
theorem dX8_hash_19 : decode cX8_hash 19 = .ok (.bipush (-2), 2) := by decide +kernel
theorem dX8_hash_21 : decode cX8_hash 21 = .ok (.ireturn, 1) := by decide +kernel
theorem dX8_hash_22 : decode cX8_hash 22 = .ok (.aload_n 0, 1) := by decide +kernel
theorem dX8_hash_23 : decode cX8_hash 23 = .ok (.iconst 0, 1) := by decide +kernel
theorem dX8_hash_24 : decode cX8_hash 24 = .ok (.putfield 126, 3) := by decide +kernel
theorem dX8_hash_27 : decode cX8_hash 27 = .ok (.aload_n 0, 1) := by decide +kernel
theorem dX8_hash_28 : decode cX8_hash 28 = .ok (.aload_n 0, 1) := by decide +kernel
theorem dX8_hash_29 : decode cX8_hash 29 = .ok (.getfield 46, 3) := by decide +kernel
theorem dX8_hash_32 : decode cX8_hash 32 = .ok (.bipush 100, 2) := by decide +kernel
theorem dX8_hash_34 : decode cX8_hash 34 = .ok (.iload_n 2, 1) := by decide +kernel
theorem dX8_hash_35 : decode cX8_hash 35 = .ok (.imul, 1) := by decide +kernel
theorem dX8_hash_36 : decode cX8_hash 36 = .ok (.aload_n 0, 1) := by decide +kernel
theorem dX8_hash_37 : decode cX8_hash 37 = .ok (.getfield 49, 3) := by decide +kernel
theorem dX8_hash_40 : decode cX8_hash 40 = .ok (.iload_n 2, 1) := by decide +kernel
theorem dX8_hash_41 : decode cX8_hash 41 = .ok (.iaload, 1) := by decide +kernel
theorem dX8_hash_42 : decode cX8_hash 42 = .ok (.invokevirtual 138, 3) := by decide +kernel
theorem dX8_hash_45 : decode cX8_hash 45 = .ok (.aload_n 0, 1) := by decide +kernel
theorem dX8_hash_46 : decode cX8_hash 46 = .ok (.invokevirtual 142, 3) := by decide +kernel
theorem dX8_hash_49 : decode cX8_hash 49 = .ok (.aload_n 0, 1) := by decide +kernel
theorem dX8_hash_50 : decode cX8_hash 50 = .ok (.getfield 28, 3) := by decide +kernel
theorem dX8_hash_53 : decode cX8_hash 53 = .ok (.aload_n 0, 1) := by decide +kernel
theorem dX8_hash_54 : decode cX8_hash 54 = .ok (.getfield 46, 3) := by decide +kernel
theorem dX8_hash_57 : decode cX8_hash 57 = .ok (.bipush 100, 2) := by decide +kernel
theorem dX8_hash_59 : decode cX8_hash 59 = .ok (.iload_n 1, 1) := by decide +kernel
theorem dX8_hash_60 : decode cX8_hash 60 = .ok (.imul, 1) := by decide +kernel
theorem dX8_hash_61 : decode cX8_hash 61 = .ok (.invokestatic 149, 3) := by decide +kernel
theorem dX8_hash_64 : decode cX8_hash 64 = .ok (.aload_n 0, 1) := by decide +kernel
theorem dX8_hash_65 : decode cX8_hash 65 = .ok (.getfield 49, 3) := by decide +kernel
theorem dX8_hash_68 : decode cX8_hash 68 = .ok (.iload_n 1, 1) := by decide +kernel
theorem dX8_hash_69 : decode cX8_hash 69 = .ok (.bipush 32, 2) := by decide +kernel
theorem dX8_hash_71 : decode cX8_hash 71 = .ok (.iastore, 1) := by decide +kernel
theorem dX8_hash_72 : decode cX8_hash 72 = .ok (.bipush 32, 2) := by decide +kernel
theorem dX8_hash_74 : decode cX8_hash 74 = .ok (.ireturn, 1) := by decide +kernel
set_option maxRecDepth 20000 in
theorem ggX8_seal_X8_is : GoodIn wsX8_seal wsX8_is := goodIn_r _ [8, 9, 10, 7, 11] rfl (by decide +kernel)
set_option maxRecDepth 20000 in
theorem gX8_seal_X8_is : GoodIn wsX8_seal (va_wsS RX8 157 yX8_is wsX8_is) := goodIn_app (goodIn_of _ (by decide +kernel)) ggX8_seal_X8_is
set_option maxRecDepth 20000 in
theorem ggX8_seal_X8_keyIs : GoodIn wsX8_seal wsX8_keyIs := goodIn_r _ [15, 16, 17, 18, 58, 59, 60, 61, 62, 63, 64, 65, 66, 67, 68, 69, 70, 71, 72, 73, 74, 75, 76, 77, 78, 79, 80, 81, 82, 83, 84, 85, 86, 87, 88, 89, 90, 91, 92, 93, 94, 95, 96, 97, 98, 99] rfl (by decide +kernel)
set_option maxRecDepth 20000 in
theorem gX8_seal_X8_keyIs : GoodIn wsX8_seal (wsV RX8 163 RX8 yX8_keyIs wsX8_keyIs) := goodIn_app (goodIn_of _ (by decide +kernel)) ggX8_seal_X8_keyIs
set_option maxRecDepth 20000 in
theorem ggX8_seal_X8_add : GoodIn wsX8_seal wsX8_add := goodIn_r _ [22, 23, 18, 58, 59, 60, 61, 62, 63, 64, 65, 66, 67, 68, 69, 70, 71, 72, 73, 74, 75, 76, 77, 78, 79, 80, 81, 82, 83, 84, 85, 86, 87, 88, 89, 90, 91, 92, 93, 94, 95, 96, 97, 98, 99] rfl (by decide +kernel)
set_option maxRecDepth 20000 in
theorem gX8_seal_X8_add : GoodIn wsX8_seal (wsV RX8 166 RX8 yX8_add wsX8_add) := goodIn_app (goodIn_of _ (by decide +kernel)) ggX8_seal_X8_add
set_option maxRecDepth 20000 in
theorem ggX8_seal_X8_sealNow : GoodIn wsX8_seal wsX8_sealNow := goodIn_r _ [27, 17, 28, 16, 29, 23, 18, 4, 30, 31, 32, 7, 33, 34, 35, 36, 37, 38, 39, 40, 41, 42, 43, 44, 45, 46, 47, 48, 49, 50, 51, 52, 53, 54, 55, 56, 57, 58, 59, 60, 61, 62, 63, 64, 65, 66, 67, 68, 69, 70, 71, 72, 73, 74, 75, 76, 77, 78, 79, 80, 81, 82, 83, 84, 85, 86, 87, 88, 89, 90, 91, 92, 93, 94, 95, 96, 97, 98, 99] rfl (by decide +kernel)
set_option maxRecDepth 20000 in
theorem gX8_seal_X8_sealNow : GoodIn wsX8_seal (wsV RX8 169 RX8 yX8_sealNow wsX8_sealNow) := goodIn_app (goodIn_of _ (by decide +kernel)) ggX8_seal_X8_sealNow
set_option maxRecDepth 20000 in
theorem ggX8_seal_X8_copyTo : GoodIn wsX8_seal wsX8_copyTo := goodIn_r _ [57] rfl (by decide +kernel)
set_option maxRecDepth 20000 in
theorem gX8_seal_X8_copyTo : GoodIn wsX8_seal (va_wsS RX8 149 yX8_copyTo wsX8_copyTo) := goodIn_app (goodIn_of _ (by decide +kernel)) ggX8_seal_X8_copyTo
theorem dX8_seal_0 : decode cX8_seal 0 = .ok (.aload_n 0, 1) := by decide +kernel
theorem dX8_seal_1 : decode cX8_seal 1 = .ok (.iconst 0, 1) := by decide +kernel
theorem dX8_seal_2 : decode cX8_seal 2 = .ok (.putfield 112, 3) := by decide +kernel
theorem dX8_seal_5 : decode cX8_seal 5 = .ok (.iload_n 1, 1) := by decide +kernel
theorem dX8_seal_6 : decode cX8_seal 6 = .ok (.invokestatic 157, 3) := by decide +kernel
theorem dX8_seal_9 : decode cX8_seal 9 = .ok (.ifCond .eq 17, 3) := by decide +kernel
theorem dX8_seal_12 : decode cX8_seal 12 = .ok (.iload_n 2, 1) := by decide +kernel
theorem dX8_seal_13 : decode cX8_seal 13 = .ok (.invokestatic 157, 3) := by decide +kernel
theorem dX8_seal_16 : decode cX8_seal 16 = .ok (.ifCond .eq 10, 3) := by decide +kernel
theorem dX8_seal_19 : decode cX8_seal 19 = .ok (.iload_n 3, 1) := by decide +kernel
theorem dX8_seal_20 : decode cX8_seal 20 = .ok (.invokestatic 157, 3) := by decide +kernel
theorem dX8_seal_23 : decode cX8_seal 23 = .ok (.ifCond .ne 6, 3) := by decide +kernel
theorem dX8_seal_26 : decode cX8_seal 26 = .ok (.bipush (-2), 2) := by decide +kernel
theorem dX8_seal_28 : decode cX8_seal 28 = .ok (.ireturn, 1) := by decide +kernel
theorem dX8_seal_29 : decode cX8_seal 29 = .ok (.aload_n 0, 1) := by decide +kernel
theorem dX8_seal_30 : decode cX8_seal 30 = .ok (.aload_n 0, 1) := by decide +kernel
theorem dX8_seal_31 : decode cX8_seal 31 = .ok (.getfield 46, 3) := by decide +kernel
theorem dX8_seal_34 : decode cX8_seal 34 = .ok (.bipush 100, 2) := by decide +kernel
theorem dX8_seal_36 : decode cX8_seal 36 = .ok (.iload_n 2, 1) := by decide +kernel
theorem dX8_seal_37 : decode cX8_seal 37 = .ok (.imul, 1) := by decide +kernel
theorem dX8_seal_38 : decode cX8_seal 38 = .ok (.aload_n 0, 1) := by decide +kernel
theorem dX8_seal_39 : decode cX8_seal 39 = .ok (.getfield 49, 3) := by decide +kernel
theorem dX8_seal_42 : decode cX8_seal 42 = .ok (.iload_n 2, 1) := by decide +kernel
theorem dX8_seal_43 : decode cX8_seal 43 = .ok (.iaload, 1) := by decide +kernel
theorem dX8_seal_44 : decode cX8_seal 44 = .ok (.invokevirtual 163, 3) := by decide +kernel
theorem dX8_seal_47 : decode cX8_seal 47 = .ok (.aload_n 0, 1) := by decide +kernel
theorem dX8_seal_48 : decode cX8_seal 48 = .ok (.aload_n 0, 1) := by decide +kernel
theorem dX8_seal_49 : decode cX8_seal 49 = .ok (.getfield 46, 3) := by decide +kernel
theorem dX8_seal_52 : decode cX8_seal 52 = .ok (.bipush 100, 2) := by decide +kernel
theorem dX8_seal_54 : decode cX8_seal 54 = .ok (.iload_n 3, 1) := by decide +kernel
theorem dX8_seal_55 : decode cX8_seal 55 = .ok (.imul, 1) := by decide +kernel
theorem dX8_seal_56 : decode cX8_seal 56 = .ok (.aload_n 0, 1) := by decide +kernel
theorem dX8_seal_57 : decode cX8_seal 57 = .ok (.getfield 49, 3) := by decide +kernel
theorem dX8_seal_60 : decode cX8_seal 60 = .ok (.iload_n 3, 1) := by decide +kernel
theorem dX8_seal_61 : decode cX8_seal 61 = .ok (.iaload, 1) := by decide +kernel
theorem dX8_seal_62 : decode cX8_seal 62 = .ok (.invokevirtual 166, 3) := by decide +kernel
theorem dX8_seal_65 : decode cX8_seal 65 = .ok (.aload_n 0, 1) := by decide +kernel
theorem dX8_seal_66 : decode cX8_seal 66 = .ok (.invokevirtual 169, 3) := by decide +kernel
theorem dX8_seal_69 : decode cX8_seal 69 = .ok (.aload_n 0, 1) := by decide +kernel
theorem dX8_seal_70 : decode cX8_seal 70 = .ok (.getfield 37, 3) := by decide +kernel
theorem dX8_seal_73 : decode cX8_seal 73 = .ok (.aload_n 0, 1) := by decide +kernel
theorem dX8_seal_74 : decode cX8_seal 74 = .ok (.getfield 46, 3) := by decide +kernel
theorem dX8_seal_77 : decode cX8_seal 77 = .ok (.bipush 100, 2) := by decide +kernel
theorem dX8_seal_79 : decode cX8_seal 79 = .ok (.iload_n 1, 1) := by decide +kernel
theorem dX8_seal_80 : decode cX8_seal 80 = .ok (.imul, 1) := by decide +kernel
theorem dX8_seal_81 : decode cX8_seal 81 = .ok (.invokestatic 149, 3) := by decide +kernel
theorem dX8_seal_84 : decode cX8_seal 84 = .ok (.aload_n 0, 1) := by decide +kernel
theorem dX8_seal_85 : decode cX8_seal 85 = .ok (.getfield 49, 3) := by decide +kernel
theorem dX8_seal_88 : decode cX8_seal 88 = .ok (.iload_n 1, 1) := by decide +kernel
theorem dX8_seal_89 : decode cX8_seal 89 = .ok (.bipush 32, 2) := by decide +kernel
theorem dX8_seal_91 : decode cX8_seal 91 = .ok (.iastore, 1) := by decide +kernel
theorem dX8_seal_92 : decode cX8_seal 92 = .ok (.bipush 32, 2) := by decide +kernel
theorem dX8_seal_94 : decode cX8_seal 94 = .ok (.ireturn, 1) := by decide +kernel
set_option maxRecDepth 20000 in
theorem ggX8_isToken_X8_is : GoodIn wsX8_isToken wsX8_is := goodIn_r _ [5, 6, 7, 4, 8] rfl (by decide +kernel)
set_option maxRecDepth 20000 in
theorem gX8_isToken_X8_is : GoodIn wsX8_isToken (va_wsS RX8 157 yX8_is wsX8_is) := goodIn_app (goodIn_of _ (by decide +kernel)) ggX8_isToken_X8_is
theorem dX8_isToken_0 : decode cX8_isToken 0 = .ok (.iload_n 1, 1) := by decide +kernel
theorem dX8_isToken_1 : decode cX8_isToken 1 = .ok (.invokestatic 157, 3) := by decide +kernel
theorem dX8_isToken_4 : decode cX8_isToken 4 = .ok (.ifCond .eq 16, 3) := by decide +kernel
theorem dX8_isToken_7 : decode cX8_isToken 7 = .ok (.aload_n 0, 1) := by decide +kernel
theorem dX8_isToken_8 : decode cX8_isToken 8 = .ok (.getfield 59, 3) := by decide +kernel
theorem dX8_isToken_11 : decode cX8_isToken 11 = .ok (.iload_n 1, 1) := by decide +kernel
theorem dX8_isToken_12 : decode cX8_isToken 12 = .ok (.baload, 1) := by decide +kernel
theorem dX8_isToken_13 : decode cX8_isToken 13 = .ok (.ifCond .eq 7, 3) := by decide +kernel
theorem dX8_isToken_16 : decode cX8_isToken 16 = .ok (.iconst 1, 1) := by decide +kernel
theorem dX8_isToken_17 : decode cX8_isToken 17 = .ok (.goto 4, 3) := by decide +kernel
theorem dX8_isToken_20 : decode cX8_isToken 20 = .ok (.iconst 0, 1) := by decide +kernel
theorem dX8_isToken_21 : decode cX8_isToken 21 = .ok (.ireturn, 1) := by decide +kernel
set_option maxRecDepth 20000 in
theorem ggX8_isText_X8_within : GoodIn wsX8_isText wsX8_within := goodIn_r _ [5] rfl (by decide +kernel)
set_option maxRecDepth 20000 in
theorem gX8_isText_X8_within : GoodIn wsX8_isText (va_wsS RX8 153 yX8_within wsX8_within) := goodIn_app (goodIn_of _ (by decide +kernel)) ggX8_isText_X8_within
theorem dX8_isText_0 : decode cX8_isText 0 = .ok (.aload_n 0, 1) := by decide +kernel
theorem dX8_isText_1 : decode cX8_isText 1 = .ok (.getfield 49, 3) := by decide +kernel
theorem dX8_isText_4 : decode cX8_isText 4 = .ok (.iload_n 1, 1) := by decide +kernel
theorem dX8_isText_5 : decode cX8_isText 5 = .ok (.iaload, 1) := by decide +kernel
theorem dX8_isText_6 : decode cX8_isText 6 = .ok (.iconst 1, 1) := by decide +kernel
theorem dX8_isText_7 : decode cX8_isText 7 = .ok (.bipush 60, 2) := by decide +kernel
theorem dX8_isText_9 : decode cX8_isText 9 = .ok (.invokestatic 153, 3) := by decide +kernel
theorem dX8_isText_12 : decode cX8_isText 12 = .ok (.ireturn, 1) := by decide +kernel
set_option maxRecDepth 20000 in
theorem ggX8_make_X8_is : GoodIn wsX8_make wsX8_is := goodIn_r _ [13, 14, 15, 12, 16] rfl (by decide +kernel)
set_option maxRecDepth 20000 in
theorem gX8_make_X8_is : GoodIn wsX8_make (va_wsS RX8 157 yX8_is wsX8_is) := goodIn_app (goodIn_of _ (by decide +kernel)) ggX8_make_X8_is
set_option maxRecDepth 20000 in
theorem ggX8_make_X8_isText : GoodIn wsX8_make wsX8_isText := goodIn_r _ [20, 3, 14, 15, 12, 16, 67, 68, 69, 70, 71, 72, 73, 74, 75, 76, 77, 78, 79, 80, 81, 82, 83, 84, 85, 86, 87, 88, 89, 90, 91, 92, 93, 94, 95, 96, 97, 98, 99, 100, 101, 102, 103, 104, 105, 106, 107, 108] rfl (by decide +kernel)
set_option maxRecDepth 20000 in
theorem gX8_make_X8_isText : GoodIn wsX8_make (wsV RX8 172 RX8 yX8_isText wsX8_isText) := goodIn_app (goodIn_of _ (by decide +kernel)) ggX8_make_X8_isText
set_option maxRecDepth 20000 in
theorem ggX8_make_X8_keyIs : GoodIn wsX8_make wsX8_keyIs := goodIn_r _ [24, 25, 26, 27, 67, 68, 69, 70, 71, 72, 73, 74, 75, 76, 77, 78, 79, 80, 81, 82, 83, 84, 85, 86, 87, 88, 89, 90, 91, 92, 93, 94, 95, 96, 97, 98, 99, 100, 101, 102, 103, 104, 105, 106, 107, 108] rfl (by decide +kernel)
set_option maxRecDepth 20000 in
theorem gX8_make_X8_keyIs : GoodIn wsX8_make (wsV RX8 163 RX8 yX8_keyIs wsX8_keyIs) := goodIn_app (goodIn_of _ (by decide +kernel)) ggX8_make_X8_keyIs
set_option maxRecDepth 20000 in
theorem ggX8_make_X8_add : GoodIn wsX8_make wsX8_add := goodIn_r _ [31, 32, 27, 67, 68, 69, 70, 71, 72, 73, 74, 75, 76, 77, 78, 79, 80, 81, 82, 83, 84, 85, 86, 87, 88, 89, 90, 91, 92, 93, 94, 95, 96, 97, 98, 99, 100, 101, 102, 103, 104, 105, 106, 107, 108] rfl (by decide +kernel)
set_option maxRecDepth 20000 in
theorem gX8_make_X8_add : GoodIn wsX8_make (wsV RX8 166 RX8 yX8_add wsX8_add) := goodIn_app (goodIn_of _ (by decide +kernel)) ggX8_make_X8_add
set_option maxRecDepth 20000 in
theorem ggX8_make_X8_sealNow : GoodIn wsX8_make wsX8_sealNow := goodIn_r _ [36, 26, 37, 25, 38, 32, 27, 4, 39, 40, 41, 12, 42, 43, 44, 45, 46, 47, 48, 49, 50, 51, 52, 53, 54, 55, 56, 57, 58, 59, 60, 61, 62, 63, 64, 65, 66, 67, 68, 69, 70, 71, 72, 73, 74, 75, 76, 77, 78, 79, 80, 81, 82, 83, 84, 85, 86, 87, 88, 89, 90, 91, 92, 93, 94, 95, 96, 97, 98, 99, 100, 101, 102, 103, 104, 105, 106, 107, 108] rfl (by decide +kernel)
set_option maxRecDepth 20000 in
theorem gX8_make_X8_sealNow : GoodIn wsX8_make (wsV RX8 169 RX8 yX8_sealNow wsX8_sealNow) := goodIn_app (goodIn_of _ (by decide +kernel)) ggX8_make_X8_sealNow
set_option maxRecDepth 20000 in
theorem ggX8_make_X8_copyTo : GoodIn wsX8_make wsX8_copyTo := goodIn_r _ [66] rfl (by decide +kernel)
set_option maxRecDepth 20000 in
theorem gX8_make_X8_copyTo : GoodIn wsX8_make (va_wsS RX8 149 yX8_copyTo wsX8_copyTo) := goodIn_app (goodIn_of _ (by decide +kernel)) ggX8_make_X8_copyTo
theorem dX8_make_0 : decode cX8_make 0 = .ok (.aload_n 0, 1) := by decide +kernel
theorem dX8_make_1 : decode cX8_make 1 = .ok (.iconst 0, 1) := by decide +kernel
theorem dX8_make_2 : decode cX8_make 2 = .ok (.putfield 112, 3) := by decide +kernel
theorem dX8_make_5 : decode cX8_make 5 = .ok (.iload_n 1, 1) := by decide +kernel
theorem dX8_make_6 : decode cX8_make 6 = .ok (.invokestatic 157, 3) := by decide +kernel
theorem dX8_make_9 : decode cX8_make 9 = .ok (.ifCond .eq 17, 3) := by decide +kernel
theorem dX8_make_12 : decode cX8_make 12 = .ok (.iload_n 2, 1) := by decide +kernel
theorem dX8_make_13 : decode cX8_make 13 = .ok (.invokestatic 157, 3) := by decide +kernel
theorem dX8_make_16 : decode cX8_make 16 = .ok (.ifCond .eq 10, 3) := by decide +kernel
theorem dX8_make_19 : decode cX8_make 19 = .ok (.iload_n 3, 1) := by decide +kernel
theorem dX8_make_20 : decode cX8_make 20 = .ok (.invokestatic 157, 3) := by decide +kernel
theorem dX8_make_23 : decode cX8_make 23 = .ok (.ifCond .ne 6, 3) := by decide +kernel
theorem dX8_make_26 : decode cX8_make 26 = .ok (.bipush (-2), 2) := by decide +kernel
theorem dX8_make_28 : decode cX8_make 28 = .ok (.ireturn, 1) := by decide +kernel
theorem dX8_make_29 : decode cX8_make 29 = .ok (.aload_n 0, 1) := by decide +kernel
theorem dX8_make_30 : decode cX8_make 30 = .ok (.iload_n 3, 1) := by decide +kernel
theorem dX8_make_31 : decode cX8_make 31 = .ok (.invokevirtual 172, 3) := by decide +kernel
theorem dX8_make_34 : decode cX8_make 34 = .ok (.ifCond .ne 6, 3) := by decide +kernel
theorem dX8_make_37 : decode cX8_make 37 = .ok (.bipush (-3), 2) := by decide +kernel
theorem dX8_make_39 : decode cX8_make 39 = .ok (.ireturn, 1) := by decide +kernel
theorem dX8_make_40 : decode cX8_make 40 = .ok (.aload_n 0, 1) := by decide +kernel
theorem dX8_make_41 : decode cX8_make 41 = .ok (.aload_n 0, 1) := by decide +kernel
theorem dX8_make_42 : decode cX8_make 42 = .ok (.getfield 46, 3) := by decide +kernel
theorem dX8_make_45 : decode cX8_make 45 = .ok (.bipush 100, 2) := by decide +kernel
theorem dX8_make_47 : decode cX8_make 47 = .ok (.iload_n 2, 1) := by decide +kernel
theorem dX8_make_48 : decode cX8_make 48 = .ok (.imul, 1) := by decide +kernel
theorem dX8_make_49 : decode cX8_make 49 = .ok (.aload_n 0, 1) := by decide +kernel
theorem dX8_make_50 : decode cX8_make 50 = .ok (.getfield 49, 3) := by decide +kernel
theorem dX8_make_53 : decode cX8_make 53 = .ok (.iload_n 2, 1) := by decide +kernel
theorem dX8_make_54 : decode cX8_make 54 = .ok (.iaload, 1) := by decide +kernel
theorem dX8_make_55 : decode cX8_make 55 = .ok (.invokevirtual 163, 3) := by decide +kernel
theorem dX8_make_58 : decode cX8_make 58 = .ok (.aload_n 0, 1) := by decide +kernel
theorem dX8_make_59 : decode cX8_make 59 = .ok (.aload_n 0, 1) := by decide +kernel
theorem dX8_make_60 : decode cX8_make 60 = .ok (.getfield 46, 3) := by decide +kernel
theorem dX8_make_63 : decode cX8_make 63 = .ok (.bipush 100, 2) := by decide +kernel
theorem dX8_make_65 : decode cX8_make 65 = .ok (.iload_n 3, 1) := by decide +kernel
theorem dX8_make_66 : decode cX8_make 66 = .ok (.imul, 1) := by decide +kernel
theorem dX8_make_67 : decode cX8_make 67 = .ok (.aload_n 0, 1) := by decide +kernel
theorem dX8_make_68 : decode cX8_make 68 = .ok (.getfield 49, 3) := by decide +kernel
theorem dX8_make_71 : decode cX8_make 71 = .ok (.iload_n 3, 1) := by decide +kernel
theorem dX8_make_72 : decode cX8_make 72 = .ok (.iaload, 1) := by decide +kernel
theorem dX8_make_73 : decode cX8_make 73 = .ok (.invokevirtual 166, 3) := by decide +kernel
theorem dX8_make_76 : decode cX8_make 76 = .ok (.aload_n 0, 1) := by decide +kernel
theorem dX8_make_77 : decode cX8_make 77 = .ok (.invokevirtual 169, 3) := by decide +kernel
theorem dX8_make_80 : decode cX8_make 80 = .ok (.aload_n 0, 1) := by decide +kernel
theorem dX8_make_81 : decode cX8_make 81 = .ok (.getfield 37, 3) := by decide +kernel
theorem dX8_make_84 : decode cX8_make 84 = .ok (.aload_n 0, 1) := by decide +kernel
theorem dX8_make_85 : decode cX8_make 85 = .ok (.getfield 84, 3) := by decide +kernel
theorem dX8_make_88 : decode cX8_make 88 = .ok (.bipush 32, 2) := by decide +kernel
theorem dX8_make_90 : decode cX8_make 90 = .ok (.iload_n 1, 1) := by decide +kernel
theorem dX8_make_91 : decode cX8_make 91 = .ok (.imul, 1) := by decide +kernel
theorem dX8_make_92 : decode cX8_make 92 = .ok (.invokestatic 149, 3) := by decide +kernel
theorem dX8_make_95 : decode cX8_make 95 = .ok (.aload_n 0, 1) := by decide +kernel
theorem dX8_make_96 : decode cX8_make 96 = .ok (.getfield 59, 3) := by decide +kernel
theorem dX8_make_99 : decode cX8_make 99 = .ok (.iload_n 1, 1) := by decide +kernel
theorem dX8_make_100 : decode cX8_make 100 = .ok (.iconst 1, 1) := by decide +kernel
theorem dX8_make_101 : decode cX8_make 101 = .ok (.bastore, 1) := by decide +kernel
theorem dX8_make_102 : decode cX8_make 102 = .ok (.aload_n 0, 1) := by decide +kernel
theorem dX8_make_103 : decode cX8_make 103 = .ok (.getfield 69, 3) := by decide +kernel
theorem dX8_make_106 : decode cX8_make 106 = .ok (.iload_n 1, 1) := by decide +kernel
theorem dX8_make_107 : decode cX8_make 107 = .ok (.iconst 0, 1) := by decide +kernel
theorem dX8_make_108 : decode cX8_make 108 = .ok (.iastore, 1) := by decide +kernel
theorem dX8_make_109 : decode cX8_make 109 = .ok (.aload_n 0, 1) := by decide +kernel
theorem dX8_make_110 : decode cX8_make 110 = .ok (.getfield 63, 3) := by decide +kernel
theorem dX8_make_113 : decode cX8_make 113 = .ok (.iload_n 1, 1) := by decide +kernel
theorem dX8_make_114 : decode cX8_make 114 = .ok (.aload_n 0, 1) := by decide +kernel
theorem dX8_make_115 : decode cX8_make 115 = .ok (.getfield 49, 3) := by decide +kernel
theorem dX8_make_118 : decode cX8_make 118 = .ok (.iload_n 3, 1) := by decide +kernel
theorem dX8_make_119 : decode cX8_make 119 = .ok (.iaload, 1) := by decide +kernel
theorem dX8_make_120 : decode cX8_make 120 = .ok (.iastore, 1) := by decide +kernel
theorem dX8_make_121 : decode cX8_make 121 = .ok (.iconst 0, 1) := by decide +kernel
theorem dX8_make_122 : decode cX8_make 122 = .ok (.istore 4, 2) := by decide +kernel
theorem dX8_make_124 : decode cX8_make 124 = .ok (.iload 4, 2) := by decide +kernel
theorem dX8_make_126 : decode cX8_make 126 = .ok (.aload_n 0, 1) := by decide +kernel
theorem dX8_make_127 : decode cX8_make 127 = .ok (.getfield 63, 3) := by decide +kernel
theorem dX8_make_130 : decode cX8_make 130 = .ok (.iload_n 1, 1) := by decide +kernel
theorem dX8_make_131 : decode cX8_make 131 = .ok (.iaload, 1) := by decide +kernel
theorem dX8_make_132 : decode cX8_make 132 = .ok (.if_icmp .ge 33, 3) := by decide +kernel
theorem dX8_make_135 : decode cX8_make 135 = .ok (.aload_n 0, 1) := by decide +kernel
theorem dX8_make_136 : decode cX8_make 136 = .ok (.getfield 66, 3) := by decide +kernel
theorem dX8_make_139 : decode cX8_make 139 = .ok (.bipush 60, 2) := by decide +kernel
theorem dX8_make_141 : decode cX8_make 141 = .ok (.iload_n 1, 1) := by decide +kernel
theorem dX8_make_142 : decode cX8_make 142 = .ok (.imul, 1) := by decide +kernel
theorem dX8_make_143 : decode cX8_make 143 = .ok (.iload 4, 2) := by decide +kernel
theorem dX8_make_145 : decode cX8_make 145 = .ok (.iadd, 1) := by decide +kernel
theorem dX8_make_146 : decode cX8_make 146 = .ok (.aload_n 0, 1) := by decide +kernel
theorem dX8_make_147 : decode cX8_make 147 = .ok (.getfield 46, 3) := by decide +kernel
theorem dX8_make_150 : decode cX8_make 150 = .ok (.bipush 100, 2) := by decide +kernel
theorem dX8_make_152 : decode cX8_make 152 = .ok (.iload_n 3, 1) := by decide +kernel
theorem dX8_make_153 : decode cX8_make 153 = .ok (.imul, 1) := by decide +kernel
theorem dX8_make_154 : decode cX8_make 154 = .ok (.iload 4, 2) := by decide +kernel
theorem dX8_make_156 : decode cX8_make 156 = .ok (.iadd, 1) := by decide +kernel
theorem dX8_make_157 : decode cX8_make 157 = .ok (.iaload, 1) := by decide +kernel
theorem dX8_make_158 : decode cX8_make 158 = .ok (.iastore, 1) := by decide +kernel
theorem dX8_make_159 : decode cX8_make 159 = .ok (.iinc 4 1, 3) := by decide +kernel
theorem dX8_make_162 : decode cX8_make 162 = .ok (.goto (-38), 3) := by decide +kernel
theorem dX8_make_165 : decode cX8_make 165 = .ok (.iconst 0, 1) := by decide +kernel
theorem dX8_make_166 : decode cX8_make 166 = .ok (.ireturn, 1) := by decide +kernel
theorem dX8_place_0 : decode cX8_place 0 = .ok (.bipush 10, 2) := by decide +kernel
theorem dX8_place_2 : decode cX8_place 2 = .ok (.iload_n 1, 1) := by decide +kernel
theorem dX8_place_3 : decode cX8_place 3 = .ok (.imul, 1) := by decide +kernel
theorem dX8_place_4 : decode cX8_place 4 = .ok (.aload_n 0, 1) := by decide +kernel
theorem dX8_place_5 : decode cX8_place 5 = .ok (.getfield 69, 3) := by decide +kernel
theorem dX8_place_8 : decode cX8_place 8 = .ok (.iload_n 1, 1) := by decide +kernel
theorem dX8_place_9 : decode cX8_place 9 = .ok (.iaload, 1) := by decide +kernel
theorem dX8_place_10 : decode cX8_place 10 = .ok (.iadd, 1) := by decide +kernel
