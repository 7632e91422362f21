set_option maxRecDepth 20000 in
theorem ggX5_init_X3_init : GoodIn wsX5_init wsX3_init := goodIn_r _ [11, 12, 2, 3, 13, 14, 15, 16, 17, 18, 19, 20] rfl (by decide +kernel)
set_option maxRecDepth 20000 in
theorem gX5_init_X3_init : GoodIn wsX5_init (wsX3_init) := ggX5_init_X3_init
theorem dX5_init_0 : decode cX5_init 0 = .ok (.aload_n 0, 1) := by decide +kernel
theorem dX5_init_1 : decode cX5_init 1 = .ok (.invokespecial 3, 3) := by decide +kernel
theorem dX5_init_4 : decode cX5_init 4 = .ok (.aload_n 0, 1) := by decide +kernel
theorem dX5_init_5 : decode cX5_init 5 = .ok (.new 9, 3) := by decide +kernel
theorem dX5_init_8 : decode cX5_init 8 = .ok (.dup, 1) := by decide +kernel
theorem dX5_init_9 : decode cX5_init 9 = .ok (.sipush 1200, 3) := by decide +kernel
theorem dX5_init_12 : decode cX5_init 12 = .ok (.invokespecial 11, 3) := by decide +kernel
theorem dX5_init_15 : decode cX5_init 15 = .ok (.putfield 14, 3) := by decide +kernel
theorem dX5_init_18 : decode cX5_init 18 = .ok (.aload_n 0, 1) := by decide +kernel
theorem dX5_init_19 : decode cX5_init 19 = .ok (.iconst (-1), 1) := by decide +kernel
theorem dX5_init_20 : decode cX5_init 20 = .ok (.putfield 20, 3) := by decide +kernel
theorem dX5_init_23 : decode cX5_init 23 = .ok (.return_, 1) := by decide +kernel
set_option maxRecDepth 20000 in
theorem ggX5_readToken_X5_takeMark : GoodIn wsX5_readToken wsX5_takeMark := goodIn_r _ [14, 8, 1, 15, 16, 17, 18, 19, 20, 21, 22, 23, 13, 24, 2, 3, 25, 26, 27, 28, 29, 57, 58, 59, 60, 66, 67] rfl (by decide +kernel)
set_option maxRecDepth 20000 in
theorem gX5_readToken_X5_takeMark : GoodIn wsX5_readToken (wsV RX5 39 RX5 yX5_takeMark wsX5_takeMark) := goodIn_app (goodIn_of _ (by decide +kernel)) ggX5_readToken_X5_takeMark
set_option maxRecDepth 20000 in
theorem ggX5_readToken_X5_takeBytes : GoodIn wsX5_readToken wsX5_takeBytes := goodIn_r _ [33, 8, 1, 9, 15, 16, 17, 18, 19, 20, 21, 22, 23, 13, 24, 2, 3, 25, 26, 27, 28, 29, 34, 35, 36, 37, 38, 39, 40, 41, 42, 43, 44, 45, 57, 58, 59, 60, 66, 67] rfl (by decide +kernel)
set_option maxRecDepth 20000 in
theorem gX5_readToken_X5_takeBytes : GoodIn wsX5_readToken (wsV RX5 46 RX5 yX5_takeBytes wsX5_takeBytes) := goodIn_app (goodIn_of _ (by decide +kernel)) ggX5_readToken_X5_takeBytes
set_option maxRecDepth 20000 in
theorem ggX5_readToken_X5_takeLimits : GoodIn wsX5_readToken wsX5_takeLimits := goodIn_r _ [49, 8, 1, 50, 5, 25, 26, 27, 18, 28, 20, 29, 51, 52, 53, 13, 54, 55, 56, 10, 11, 12, 14, 15, 16, 17, 19, 21, 22, 23, 24, 2, 3, 30, 31, 32, 33, 9, 34, 35, 36, 37, 38, 39, 40, 41, 42, 43, 44, 45, 57, 58, 59, 60, 61, 62, 63, 64, 65, 66, 67, 68, 69] rfl (by decide +kernel)
set_option maxRecDepth 20000 in
theorem gX5_readToken_X5_takeLimits : GoodIn wsX5_readToken (wsV RX5 50 RX5 yX5_takeLimits wsX5_takeLimits) := goodIn_app (goodIn_of _ (by decide +kernel)) ggX5_readToken_X5_takeLimits
set_option maxRecDepth 20000 in
theorem ggX5_readToken_X5_stopAt : GoodIn wsX5_readToken wsX5_stopAt := goodIn_r _ [24, 2, 1, 3, 57, 58, 59, 60] rfl (by decide +kernel)
set_option maxRecDepth 20000 in
theorem gX5_readToken_X5_stopAt : GoodIn wsX5_readToken (wsV RX5 60 RX5 yX5_stopAt wsX5_stopAt) := goodIn_app (goodIn_of _ (by decide +kernel)) ggX5_readToken_X5_stopAt
theorem dX5_readToken_0 : decode cX5_readToken 0 = .ok (.aload_n 0, 1) := by decide +kernel
theorem dX5_readToken_1 : decode cX5_readToken 1 = .ok (.iconst 0, 1) := by decide +kernel
theorem dX5_readToken_2 : decode cX5_readToken 2 = .ok (.putfield 24, 3) := by decide +kernel
theorem dX5_readToken_5 : decode cX5_readToken 5 = .ok (.aload_n 0, 1) := by decide +kernel
theorem dX5_readToken_6 : decode cX5_readToken 6 = .ok (.iconst 0, 1) := by decide +kernel
theorem dX5_readToken_7 : decode cX5_readToken 7 = .ok (.putfield 27, 3) := by decide +kernel
theorem dX5_readToken_10 : decode cX5_readToken 10 = .ok (.aload_n 0, 1) := by decide +kernel
theorem dX5_readToken_11 : decode cX5_readToken 11 = .ok (.iconst (-1), 1) := by decide +kernel
theorem dX5_readToken_12 : decode cX5_readToken 12 = .ok (.putfield 20, 3) := by decide +kernel
theorem dX5_readToken_15 : decode cX5_readToken 15 = .ok (.aload_n 1, 1) := by decide +kernel
theorem dX5_readToken_16 : decode cX5_readToken 16 = .ok (.iconst 1, 1) := by decide +kernel
theorem dX5_readToken_17 : decode cX5_readToken 17 = .ok (.putfield 30, 3) := by decide +kernel
theorem dX5_readToken_20 : decode cX5_readToken 20 = .ok (.aload_n 1, 1) := by decide +kernel
theorem dX5_readToken_21 : decode cX5_readToken 21 = .ok (.iconst 0, 1) := by decide +kernel
theorem dX5_readToken_22 : decode cX5_readToken 22 = .ok (.putfield 36, 3) := by decide +kernel
theorem dX5_readToken_25 : decode cX5_readToken 25 = .ok (.aload_n 0, 1) := by decide +kernel
theorem dX5_readToken_26 : decode cX5_readToken 26 = .ok (.iconst 2, 1) := by decide +kernel
theorem dX5_readToken_27 : decode cX5_readToken 27 = .ok (.invokevirtual 39, 3) := by decide +kernel
theorem dX5_readToken_30 : decode cX5_readToken 30 = .ok (.ifCond .eq 99, 3) := by decide +kernel
theorem dX5_readToken_33 : decode cX5_readToken 33 = .ok (.aload_n 0, 1) := by decide +kernel
theorem dX5_readToken_34 : decode cX5_readToken 34 = .ok (.iconst 2, 1) := by decide +kernel
theorem dX5_readToken_35 : decode cX5_readToken 35 = .ok (.invokevirtual 39, 3) := by decide +kernel
theorem dX5_readToken_38 : decode cX5_readToken 38 = .ok (.ifCond .eq 91, 3) := by decide +kernel
theorem dX5_readToken_41 : decode cX5_readToken 41 = .ok (.aload_n 0, 1) := by decide +kernel
theorem dX5_readToken_42 : decode cX5_readToken 42 = .ok (.aload_n 1, 1) := by decide +kernel
theorem dX5_readToken_43 : decode cX5_readToken 43 = .ok (.getfield 43, 3) := by decide +kernel
theorem dX5_readToken_46 : decode cX5_readToken 46 = .ok (.iconst 1, 1) := by decide +kernel
theorem dX5_readToken_47 : decode cX5_readToken 47 = .ok (.bipush 60, 2) := by decide +kernel
theorem dX5_readToken_49 : decode cX5_readToken 49 = .ok (.invokevirtual 46, 3) := by decide +kernel
theorem dX5_readToken_52 : decode cX5_readToken 52 = .ok (.ifCond .eq 77, 3) := by decide +kernel
theorem dX5_readToken_55 : decode cX5_readToken 55 = .ok (.aload_n 0, 1) := by decide +kernel
theorem dX5_readToken_56 : decode cX5_readToken 56 = .ok (.iconst 0, 1) := by decide +kernel
theorem dX5_readToken_57 : decode cX5_readToken 57 = .ok (.invokevirtual 39, 3) := by decide +kernel
theorem dX5_readToken_60 : decode cX5_readToken 60 = .ok (.ifCond .eq 69, 3) := by decide +kernel
theorem dX5_readToken_63 : decode cX5_readToken 63 = .ok (.aload_n 0, 1) := by decide +kernel
theorem dX5_readToken_64 : decode cX5_readToken 64 = .ok (.aload_n 1, 1) := by decide +kernel
theorem dX5_readToken_65 : decode cX5_readToken 65 = .ok (.invokevirtual 50, 3) := by decide +kernel
theorem dX5_readToken_68 : decode cX5_readToken 68 = .ok (.ifCond .eq 61, 3) := by decide +kernel
theorem dX5_readToken_71 : decode cX5_readToken 71 = .ok (.aload_n 0, 1) := by decide +kernel
theorem dX5_readToken_72 : decode cX5_readToken 72 = .ok (.iconst 0, 1) := by decide +kernel
theorem dX5_readToken_73 : decode cX5_readToken 73 = .ok (.invokevirtual 39, 3) := by decide +kernel
theorem dX5_readToken_76 : decode cX5_readToken 76 = .ok (.ifCond .eq 53, 3) := by decide +kernel
theorem dX5_readToken_79 : decode cX5_readToken 79 = .ok (.aload_n 0, 1) := by decide +kernel
theorem dX5_readToken_80 : decode cX5_readToken 80 = .ok (.bipush 6, 2) := by decide +kernel
theorem dX5_readToken_82 : decode cX5_readToken 82 = .ok (.invokevirtual 39, 3) := by decide +kernel
theorem dX5_readToken_85 : decode cX5_readToken 85 = .ok (.ifCond .eq 44, 3) := by decide +kernel
theorem dX5_readToken_88 : decode cX5_readToken 88 = .ok (.aload_n 0, 1) := by decide +kernel
theorem dX5_readToken_89 : decode cX5_readToken 89 = .ok (.aload_n 1, 1) := by decide +kernel
theorem dX5_readToken_90 : decode cX5_readToken 90 = .ok (.getfield 54, 3) := by decide +kernel
theorem dX5_readToken_93 : decode cX5_readToken 93 = .ok (.bipush 32, 2) := by decide +kernel
theorem dX5_readToken_95 : decode cX5_readToken 95 = .ok (.bipush 32, 2) := by decide +kernel
theorem dX5_readToken_97 : decode cX5_readToken 97 = .ok (.invokevirtual 46, 3) := by decide +kernel
theorem dX5_readToken_100 : decode cX5_readToken 100 = .ok (.ifCond .eq 29, 3) := by decide +kernel
theorem dX5_readToken_103 : decode cX5_readToken 103 = .ok (.aload_n 0, 1) := by decide +kernel
theorem dX5_readToken_104 : decode cX5_readToken 104 = .ok (.getfield 24, 3) := by decide +kernel
theorem dX5_readToken_107 : decode cX5_readToken 107 = .ok (.aload_n 0, 1) := by decide +kernel
theorem dX5_readToken_108 : decode cX5_readToken 108 = .ok (.getfield 14, 3) := by decide +kernel
theorem dX5_readToken_111 : decode cX5_readToken 111 = .ok (.getfield 57, 3) := by decide +kernel
theorem dX5_readToken_114 : decode cX5_readToken 114 = .ok (.if_icmp .eq 11, 3) := by decide +kernel
theorem dX5_readToken_117 : decode cX5_readToken 117 = .ok (.aload_n 0, 1) := by decide +kernel
theorem dX5_readToken_118 : decode cX5_readToken 118 = .ok (.iconst 5, 1) := by decide +kernel
theorem dX5_readToken_119 : decode cX5_readToken 119 = .ok (.invokevirtual 60, 3) := by decide +kernel
theorem dX5_readToken_122 : decode cX5_readToken 122 = .ok (.ifCond .eq 7, 3) := by decide +kernel
theorem dX5_readToken_125 : decode cX5_readToken 125 = .ok (.iconst 1, 1) := by decide +kernel
theorem dX5_readToken_126 : decode cX5_readToken 126 = .ok (.goto 4, 3) := by decide +kernel
theorem dX5_readToken_129 : decode cX5_readToken 129 = .ok (.iconst 0, 1) := by decide +kernel
theorem dX5_readToken_130 : decode cX5_readToken 130 = .ok (.ireturn, 1) := by decide +kernel
set_option maxRecDepth 20000 in
theorem ggX5_takeLimits_X3_byteAt : GoodIn wsX5_takeLimits wsX3_byteAt := goodIn_r _ [9, 10, 11, 59, 60] rfl (by decide +kernel)
set_option maxRecDepth 20000 in
theorem gX5_takeLimits_X3_byteAt : GoodIn wsX5_takeLimits (wsV RX5 63 RX3 yX3_byteAt wsX3_byteAt) := goodIn_app (goodIn_of _ (by decide +kernel)) ggX5_takeLimits_X3_byteAt
set_option maxRecDepth 20000 in
theorem ggX5_takeLimits_X5_takeLimit : GoodIn wsX5_takeLimits wsX5_takeLimit := goodIn_r _ [16, 17, 18, 1, 2, 19, 20, 21, 15, 22, 23, 24, 25, 8, 26, 10, 27, 28, 29, 30, 31, 32, 5, 6, 7, 9, 11, 33, 34, 35, 36, 37, 38, 39, 40, 41, 42, 43, 44, 45, 46, 47, 48, 49, 61, 62, 50, 51, 52, 53, 59, 60] rfl (by decide +kernel)
set_option maxRecDepth 20000 in
theorem gX5_takeLimits_X5_takeLimit : GoodIn wsX5_takeLimits (wsV RX5 71 RX5 yX5_takeLimit wsX5_takeLimit) := goodIn_app (goodIn_of _ (by decide +kernel)) ggX5_takeLimits_X5_takeLimit
set_option maxRecDepth 20000 in
theorem ggX5_takeLimits_X5_stopAt : GoodIn wsX5_takeLimits wsX5_stopAt := goodIn_r _ [30, 31, 2, 32, 50, 51, 52, 53] rfl (by decide +kernel)
set_option maxRecDepth 20000 in
theorem gX5_takeLimits_X5_stopAt : GoodIn wsX5_takeLimits (wsV RX5 60 RX5 yX5_stopAt wsX5_stopAt) := goodIn_app (goodIn_of _ (by decide +kernel)) ggX5_takeLimits_X5_stopAt
theorem dX5_takeLimits_0 : decode cX5_takeLimits 0 = .ok (.iconst 0, 1) := by decide +kernel
theorem dX5_takeLimits_1 : decode cX5_takeLimits 1 = .ok (.istore_n 2, 1) := by decide +kernel
theorem dX5_takeLimits_2 : decode cX5_takeLimits 2 = .ok (.iload_n 2, 1) := by decide +kernel
theorem dX5_takeLimits_3 : decode cX5_takeLimits 3 = .ok (.bipush 10, 2) := by decide +kernel
theorem dX5_takeLimits_5 : decode cX5_takeLimits 5 = .ok (.if_icmp .ge 51, 3) := by decide +kernel
theorem dX5_takeLimits_8 : decode cX5_takeLimits 8 = .ok (.aload_n 0, 1) := by decide +kernel
theorem dX5_takeLimits_9 : decode cX5_takeLimits 9 = .ok (.getfield 14, 3) := by decide +kernel
theorem dX5_takeLimits_12 : decode cX5_takeLimits 12 = .ok (.aload_n 0, 1) := by decide +kernel
theorem dX5_takeLimits_13 : decode cX5_takeLimits 13 = .ok (.getfield 24, 3) := by decide +kernel
theorem dX5_takeLimits_16 : decode cX5_takeLimits 16 = .ok (.invokevirtual 63, 3) := by decide +kernel
theorem dX5_takeLimits_19 : decode cX5_takeLimits 19 = .ok (.iconst 2, 1) := by decide +kernel
theorem dX5_takeLimits_20 : decode cX5_takeLimits 20 = .ok (.if_icmp .eq 5, 3) := by decide +kernel
theorem dX5_takeLimits_23 : decode cX5_takeLimits 23 = .ok (.iconst 1, 1) := by decide +kernel
theorem dX5_takeLimits_24 : decode cX5_takeLimits 24 = .ok (.ireturn, 1) := by decide +kernel
theorem dX5_takeLimits_25 : decode cX5_takeLimits 25 = .ok (.aload_n 0, 1) := by decide +kernel
theorem dX5_takeLimits_26 : decode cX5_takeLimits 26 = .ok (.aload_n 1, 1) := by decide +kernel
theorem dX5_takeLimits_27 : decode cX5_takeLimits 27 = .ok (.getfield 67, 3) := by decide +kernel
theorem dX5_takeLimits_30 : decode cX5_takeLimits 30 = .ok (.iload_n 2, 1) := by decide +kernel
theorem dX5_takeLimits_31 : decode cX5_takeLimits 31 = .ok (.aaload, 1) := by decide +kernel
theorem dX5_takeLimits_32 : decode cX5_takeLimits 32 = .ok (.invokevirtual 71, 3) := by decide +kernel
theorem dX5_takeLimits_35 : decode cX5_takeLimits 35 = .ok (.ifCond .ne 5, 3) := by decide +kernel
theorem dX5_takeLimits_38 : decode cX5_takeLimits 38 = .ok (.iconst 0, 1) := by decide +kernel
theorem dX5_takeLimits_39 : decode cX5_takeLimits 39 = .ok (.ireturn, 1) := by decide +kernel
theorem dX5_takeLimits_40 : decode cX5_takeLimits 40 = .ok (.aload_n 1, 1) := by decide +kernel
theorem dX5_takeLimits_41 : decode cX5_takeLimits 41 = .ok (.dup, 1) := by decide +kernel
theorem dX5_takeLimits_42 : decode cX5_takeLimits 42 = .ok (.getfield 36, 3) := by decide +kernel
theorem dX5_takeLimits_45 : decode cX5_takeLimits 45 = .ok (.iconst 1, 1) := by decide +kernel
theorem dX5_takeLimits_46 : decode cX5_takeLimits 46 = .ok (.iadd, 1) := by decide +kernel
theorem dX5_takeLimits_47 : decode cX5_takeLimits 47 = .ok (.putfield 36, 3) := by decide +kernel
theorem dX5_takeLimits_50 : decode cX5_takeLimits 50 = .ok (.iinc 2 1, 3) := by decide +kernel
theorem dX5_takeLimits_53 : decode cX5_takeLimits 53 = .ok (.goto (-51), 3) := by decide +kernel
theorem dX5_takeLimits_56 : decode cX5_takeLimits 56 = .ok (.aload_n 0, 1) := by decide +kernel
theorem dX5_takeLimits_57 : decode cX5_takeLimits 57 = .ok (.getfield 14, 3) := by decide +kernel
theorem dX5_takeLimits_60 : decode cX5_takeLimits 60 = .ok (.aload_n 0, 1) := by decide +kernel
theorem dX5_takeLimits_61 : decode cX5_takeLimits 61 = .ok (.getfield 24, 3) := by decide +kernel
theorem dX5_takeLimits_64 : decode cX5_takeLimits 64 = .ok (.invokevirtual 63, 3) := by decide +kernel
theorem dX5_takeLimits_67 : decode cX5_takeLimits 67 = .ok (.iconst 2, 1) := by decide +kernel
theorem dX5_takeLimits_68 : decode cX5_takeLimits 68 = .ok (.if_icmp .ne 11, 3) := by decide +kernel
theorem dX5_takeLimits_71 : decode cX5_takeLimits 71 = .ok (.aload_n 0, 1) := by decide +kernel
theorem dX5_takeLimits_72 : decode cX5_takeLimits 72 = .ok (.iconst 4, 1) := by decide +kernel
theorem dX5_takeLimits_73 : decode cX5_takeLimits 73 = .ok (.invokevirtual 60, 3) := by decide +kernel
theorem dX5_takeLimits_76 : decode cX5_takeLimits 76 = .ok (.ifCond .eq 7, 3) := by decide +kernel
theorem dX5_takeLimits_79 : decode cX5_takeLimits 79 = .ok (.iconst 1, 1) := by decide +kernel
theorem dX5_takeLimits_80 : decode cX5_takeLimits 80 = .ok (.goto 4, 3) := by decide +kernel
theorem dX5_takeLimits_83 : decode cX5_takeLimits 83 = .ok (.iconst 0, 1) := by decide +kernel
theorem dX5_takeLimits_84 : decode cX5_takeLimits 84 = .ok (.ireturn, 1) := by decide +kernel
set_option maxRecDepth 20000 in
theorem ggX5_takeLimit_X5_takeMark : GoodIn wsX5_takeLimit wsX5_takeMark := goodIn_r _ [9, 3, 4, 10, 11, 12, 13, 14, 15, 16, 17, 18, 8, 19, 20, 21, 22, 23, 24, 25, 26, 46, 47, 48, 49, 50, 51] rfl (by decide +kernel)
set_option maxRecDepth 20000 in
theorem gX5_takeLimit_X5_takeMark : GoodIn wsX5_takeLimit (wsV RX5 39 RX5 yX5_takeMark wsX5_takeMark) := goodIn_app (goodIn_of _ (by decide +kernel)) ggX5_takeLimit_X5_takeMark
set_option maxRecDepth 20000 in
theorem ggX5_takeLimit_X5_takeBytes : GoodIn wsX5_takeLimit wsX5_takeBytes := goodIn_r _ [30, 3, 4, 31, 10, 11, 12, 13, 14, 15, 16, 17, 18, 8, 19, 20, 21, 22, 23, 24, 25, 26, 32, 33, 34, 35, 36, 37, 38, 39, 40, 41, 42, 43, 46, 47, 48, 49, 50, 51] rfl (by decide +kernel)
set_option maxRecDepth 20000 in
theorem gX5_takeLimit_X5_takeBytes : GoodIn wsX5_takeLimit (wsV RX5 46 RX5 yX5_takeBytes wsX5_takeBytes) := goodIn_app (goodIn_of _ (by decide +kernel)) ggX5_takeLimit_X5_takeBytes
set_option maxRecDepth 20000 in
theorem ggX5_takeLimit_X3_makeEmpty : GoodIn wsX5_takeLimit wsX3_makeEmpty := goodIn_r _ [35, 15, 50, 51] rfl (by decide +kernel)
set_option maxRecDepth 20000 in
theorem gX5_takeLimit_X3_makeEmpty : GoodIn wsX5_takeLimit (wsV RX5 83 RX3 yX3_makeEmpty wsX3_makeEmpty) := goodIn_app (goodIn_of _ (by decide +kernel)) ggX5_takeLimit_X3_makeEmpty
set_option maxRecDepth 20000 in
theorem ggX5_takeLimit_X3_byteAt : GoodIn wsX5_takeLimit wsX3_byteAt := goodIn_r _ [25, 15, 26, 50, 51] rfl (by decide +kernel)
set_option maxRecDepth 20000 in
theorem gX5_takeLimit_X3_byteAt : GoodIn wsX5_takeLimit (wsV RX5 63 RX3 yX3_byteAt wsX3_byteAt) := goodIn_app (goodIn_of _ (by decide +kernel)) ggX5_takeLimit_X3_byteAt
theorem dX5_takeLimit_0 : decode cX5_takeLimit 0 = .ok (.aload_n 0, 1) := by decide +kernel
theorem dX5_takeLimit_1 : decode cX5_takeLimit 1 = .ok (.iconst 2, 1) := by decide +kernel
theorem dX5_takeLimit_2 : decode cX5_takeLimit 2 = .ok (.invokevirtual 39, 3) := by decide +kernel
theorem dX5_takeLimit_5 : decode cX5_takeLimit 5 = .ok (.ifCond .eq 17, 3) := by decide +kernel
theorem dX5_takeLimit_8 : decode cX5_takeLimit 8 = .ok (.aload_n 0, 1) := by decide +kernel
theorem dX5_takeLimit_9 : decode cX5_takeLimit 9 = .ok (.aload_n 1, 1) := by decide +kernel
theorem dX5_takeLimit_10 : decode cX5_takeLimit 10 = .ok (.getfield 75, 3) := by decide +kernel
theorem dX5_takeLimit_13 : decode cX5_takeLimit 13 = .ok (.iconst 1, 1) := by decide +kernel
theorem dX5_takeLimit_14 : decode cX5_takeLimit 14 = .ok (.bipush 60, 2) := by decide +kernel
theorem dX5_takeLimit_16 : decode cX5_takeLimit 16 = .ok (.invokevirtual 46, 3) := by decide +kernel
theorem dX5_takeLimit_19 : decode cX5_takeLimit 19 = .ok (.ifCond .ne 5, 3) := by decide +kernel
theorem dX5_takeLimit_22 : decode cX5_takeLimit 22 = .ok (.iconst 0, 1) := by decide +kernel
theorem dX5_takeLimit_23 : decode cX5_takeLimit 23 = .ok (.ireturn, 1) := by decide +kernel
theorem dX5_takeLimit_24 : decode cX5_takeLimit 24 = .ok (.aload_n 1, 1) := by decide +kernel
theorem dX5_takeLimit_25 : decode cX5_takeLimit 25 = .ok (.getfield 80, 3) := by decide +kernel
theorem dX5_takeLimit_28 : decode cX5_takeLimit 28 = .ok (.invokevirtual 83, 3) := by decide +kernel
theorem dX5_takeLimit_31 : decode cX5_takeLimit 31 = .ok (.aload_n 0, 1) := by decide +kernel
theorem dX5_takeLimit_32 : decode cX5_takeLimit 32 = .ok (.getfield 14, 3) := by decide +kernel
theorem dX5_takeLimit_35 : decode cX5_takeLimit 35 = .ok (.aload_n 0, 1) := by decide +kernel
theorem dX5_takeLimit_36 : decode cX5_takeLimit 36 = .ok (.getfield 24, 3) := by decide +kernel
theorem dX5_takeLimit_39 : decode cX5_takeLimit 39 = .ok (.invokevirtual 63, 3) := by decide +kernel
theorem dX5_takeLimit_42 : decode cX5_takeLimit 42 = .ok (.iconst 4, 1) := by decide +kernel
theorem dX5_takeLimit_43 : decode cX5_takeLimit 43 = .ok (.if_icmp .ne 30, 3) := by decide +kernel
theorem dX5_takeLimit_46 : decode cX5_takeLimit 46 = .ok (.aload_n 0, 1) := by decide +kernel
theorem dX5_takeLimit_47 : decode cX5_takeLimit 47 = .ok (.dup, 1) := by decide +kernel
theorem dX5_takeLimit_48 : decode cX5_takeLimit 48 = .ok (.getfield 24, 3) := by decide +kernel
theorem dX5_takeLimit_51 : decode cX5_takeLimit 51 = .ok (.iconst 1, 1) := by decide +kernel
theorem dX5_takeLimit_52 : decode cX5_takeLimit 52 = .ok (.iadd, 1) := by decide +kernel
theorem dX5_takeLimit_53 : decode cX5_takeLimit 53 = .ok (.putfield 24, 3) := by decide +kernel
theorem dX5_takeLimit_56 : decode cX5_takeLimit 56 = .ok (.aload_n 0, 1) := by decide +kernel
theorem dX5_takeLimit_57 : decode cX5_takeLimit 57 = .ok (.aload_n 1, 1) := by decide +kernel
theorem dX5_takeLimit_58 : decode cX5_takeLimit 58 = .ok (.getfield 80, 3) := by decide +kernel
theorem dX5_takeLimit_61 : decode cX5_takeLimit 61 = .ok (.bipush 32, 2) := by decide +kernel
theorem dX5_takeLimit_63 : decode cX5_takeLimit 63 = .ok (.bipush 32, 2) := by decide +kernel
theorem dX5_takeLimit_65 : decode cX5_takeLimit 65 = .ok (.invokevirtual 46, 3) := by decide +kernel
theorem dX5_takeLimit_68 : decode cX5_takeLimit 68 = .ok (.ifCond .ne 5, 3) := by decide +kernel
theorem dX5_takeLimit_71 : decode cX5_takeLimit 71 = .ok (.iconst 0, 1) := by decide +kernel
theorem dX5_takeLimit_72 : decode cX5_takeLimit 72 = .ok (.ireturn, 1) := by decide +kernel
theorem dX5_takeLimit_73 : decode cX5_takeLimit 73 = .ok (.aload_n 0, 1) := by decide +kernel
theorem dX5_takeLimit_74 : decode cX5_takeLimit 74 = .ok (.iconst 0, 1) := by decide +kernel
theorem dX5_takeLimit_75 : decode cX5_takeLimit 75 = .ok (.invokevirtual 39, 3) := by decide +kernel
theorem dX5_takeLimit_78 : decode cX5_takeLimit 78 = .ok (.ireturn, 1) := by decide +kernel
set_option maxRecDepth 20000 in
theorem ggX5_takeMark_X3_has : GoodIn wsX5_takeMark wsX3_has := goodIn_r _ [7, 8, 25, 26] rfl (by decide +kernel)
set_option maxRecDepth 20000 in
theorem gX5_takeMark_X3_has : GoodIn wsX5_takeMark (wsV RX5 86 RX3 yX3_has wsX3_has) := goodIn_app (goodIn_of _ (by decide +kernel)) ggX5_takeMark_X3_has
set_option maxRecDepth 20000 in
theorem ggX5_takeMark_X5_stopAt : GoodIn wsX5_takeMark wsX5_stopAt := goodIn_r _ [13, 14, 2, 15, 21, 22, 23, 24] rfl (by decide +kernel)
set_option maxRecDepth 20000 in
theorem gX5_takeMark_X5_stopAt : GoodIn wsX5_takeMark (wsV RX5 60 RX5 yX5_stopAt wsX5_stopAt) := goodIn_app (goodIn_of _ (by decide +kernel)) ggX5_takeMark_X5_stopAt
set_option maxRecDepth 20000 in
theorem ggX5_takeMark_X3_byteAt : GoodIn wsX5_takeMark wsX3_byteAt := goodIn_r _ [19, 8, 20, 25, 26] rfl (by decide +kernel)
set_option maxRecDepth 20000 in
theorem gX5_takeMark_X3_byteAt : GoodIn wsX5_takeMark (wsV RX5 63 RX3 yX3_byteAt wsX3_byteAt) := goodIn_app (goodIn_of _ (by decide +kernel)) ggX5_takeMark_X3_byteAt
theorem dX5_takeMark_0 : decode cX5_takeMark 0 = .ok (.aload_n 0, 1) := by decide +kernel
theorem dX5_takeMark_1 : decode cX5_takeMark 1 = .ok (.getfield 14, 3) := by decide +kernel
theorem dX5_takeMark_4 : decode cX5_takeMark 4 = .ok (.aload_n 0, 1) := by decide +kernel
theorem dX5_takeMark_5 : decode cX5_takeMark 5 = .ok (.getfield 24, 3) := by decide +kernel
theorem dX5_takeMark_8 : decode cX5_takeMark 8 = .ok (.invokevirtual 86, 3) := by decide +kernel
theorem dX5_takeMark_11 : decode cX5_takeMark 11 = .ok (.ifCond .ne 9, 3) := by decide +kernel
theorem dX5_takeMark_14 : decode cX5_takeMark 14 = .ok (.aload_n 0, 1) := by decide +kernel
theorem dX5_takeMark_15 : decode cX5_takeMark 15 = .ok (.iconst 1, 1) := by decide +kernel
theorem dX5_takeMark_16 : decode cX5_takeMark 16 = .ok (.invokevirtual 60, 3) := by decide +kernel
theorem dX5_takeMark_19 : decode cX5_takeMark 19 = .ok (.ireturn, 1) := by decide +kernel
theorem dX5_takeMark_20 : decode cX5_takeMark 20 = .ok (.aload_n 0, 1) := by decide +kernel
theorem dX5_takeMark_21 : decode cX5_takeMark 21 = .ok (.getfield 14, 3) := by decide +kernel
theorem dX5_takeMark_24 : decode cX5_takeMark 24 = .ok (.aload_n 0, 1) := by decide +kernel
theorem dX5_takeMark_25 : decode cX5_takeMark 25 = .ok (.getfield 24, 3) := by decide +kernel
theorem dX5_takeMark_28 : decode cX5_takeMark 28 = .ok (.invokevirtual 63, 3) := by decide +kernel
theorem dX5_takeMark_31 : decode cX5_takeMark 31 = .ok (.iload_n 1, 1) := by decide +kernel
theorem dX5_takeMark_32 : decode cX5_takeMark 32 = .ok (.if_icmp .eq 9, 3) := by decide +kernel
theorem dX5_takeMark_35 : decode cX5_takeMark 35 = .ok (.aload_n 0, 1) := by decide +kernel
theorem dX5_takeMark_36 : decode cX5_takeMark 36 = .ok (.iconst 2, 1) := by decide +kernel
theorem dX5_takeMark_37 : decode cX5_takeMark 37 = .ok (.invokevirtual 60, 3) := by decide +kernel
theorem dX5_takeMark_40 : decode cX5_takeMark 40 = .ok (.ireturn, 1) := by decide +kernel
theorem dX5_takeMark_41 : decode cX5_takeMark 41 = .ok (.aload_n 0, 1) := by decide +kernel
theorem dX5_takeMark_42 : decode cX5_takeMark 42 = .ok (.dup, 1) := by decide +kernel
theorem dX5_takeMark_43 : decode cX5_takeMark 43 = .ok (.getfield 24, 3) := by decide +kernel
theorem dX5_takeMark_46 : decode cX5_takeMark 46 = .ok (.iconst 1, 1) := by decide +kernel
theorem dX5_takeMark_47 : decode cX5_takeMark 47 = .ok (.iadd, 1) := by decide +kernel
theorem dX5_takeMark_48 : decode cX5_takeMark 48 = .ok (.putfield 24, 3) := by decide +kernel
theorem dX5_takeMark_51 : decode cX5_takeMark 51 = .ok (.iconst 1, 1) := by decide +kernel
theorem dX5_takeMark_52 : decode cX5_takeMark 52 = .ok (.ireturn, 1) := by decide +kernel
set_option maxRecDepth 20000 in
theorem ggX5_takeBytes_X3_has : GoodIn wsX5_takeBytes wsX3_has := goodIn_r _ [8, 9, 38, 39] rfl (by decide +kernel)
set_option maxRecDepth 20000 in
theorem gX5_takeBytes_X3_has : GoodIn wsX5_takeBytes (wsV RX5 86 RX3 yX3_has wsX3_has) := goodIn_app (goodIn_of _ (by decide +kernel)) ggX5_takeBytes_X3_has
set_option maxRecDepth 20000 in
theorem ggX5_takeBytes_X5_stopAt : GoodIn wsX5_takeBytes wsX5_stopAt := goodIn_r _ [14, 15, 2, 16, 34, 35, 36, 37] rfl (by decide +kernel)
set_option maxRecDepth 20000 in
theorem gX5_takeBytes_X5_stopAt : GoodIn wsX5_takeBytes (wsV RX5 60 RX5 yX5_stopAt wsX5_stopAt) := goodIn_app (goodIn_of _ (by decide +kernel)) ggX5_takeBytes_X5_stopAt
set_option maxRecDepth 20000 in
theorem ggX5_takeBytes_X3_byteAt : GoodIn wsX5_takeBytes wsX3_byteAt := goodIn_r _ [20, 9, 21, 38, 39] rfl (by decide +kernel)
set_option maxRecDepth 20000 in
theorem gX5_takeBytes_X3_byteAt : GoodIn wsX5_takeBytes (wsV RX5 63 RX3 yX3_byteAt wsX3_byteAt) := goodIn_app (goodIn_of _ (by decide +kernel)) ggX5_takeBytes_X3_byteAt
set_option maxRecDepth 20000 in
theorem ggX5_takeBytes_X3_makeEmpty : GoodIn wsX5_takeBytes wsX3_makeEmpty := goodIn_r _ [25, 9, 38, 39] rfl (by decide +kernel)
set_option maxRecDepth 20000 in
theorem gX5_takeBytes_X3_makeEmpty : GoodIn wsX5_takeBytes (wsV RX5 83 RX3 yX3_makeEmpty wsX3_makeEmpty) := goodIn_app (goodIn_of _ (by decide +kernel)) ggX5_takeBytes_X3_makeEmpty
set_option maxRecDepth 20000 in
theorem ggX5_takeBytes_X3_pushPart : GoodIn wsX5_takeBytes wsX3_pushPart := goodIn_r _ [29, 9, 21, 30, 31, 32, 33, 38, 39] rfl (by decide +kernel)
set_option maxRecDepth 20000 in
theorem gX5_takeBytes_X3_pushPart : GoodIn wsX5_takeBytes (wsV RX5 89 RX3 yX3_pushPart wsX3_pushPart) := goodIn_app (goodIn_of _ (by decide +kernel)) ggX5_takeBytes_X3_pushPart
theorem dX5_takeBytes_0 : decode cX5_takeBytes 0 = .ok (.aload_n 0, 1) := by decide +kernel
theorem dX5_takeBytes_1 : decode cX5_takeBytes 1 = .ok (.getfield 14, 3) := by decide +kernel
theorem dX5_takeBytes_4 : decode cX5_takeBytes 4 = .ok (.aload_n 0, 1) := by decide +kernel
theorem dX5_takeBytes_5 : decode cX5_takeBytes 5 = .ok (.getfield 24, 3) := by decide +kernel
theorem dX5_takeBytes_8 : decode cX5_takeBytes 8 = .ok (.invokevirtual 86, 3) := by decide +kernel
theorem dX5_takeBytes_11 : decode cX5_takeBytes 11 = .ok (.ifCond .ne 9, 3) := by decide +kernel
theorem dX5_takeBytes_14 : decode cX5_takeBytes 14 = .ok (.aload_n 0, 1) := by decide +kernel
theorem dX5_takeBytes_15 : decode cX5_takeBytes 15 = .ok (.iconst 1, 1) := by decide +kernel
theorem dX5_takeBytes_16 : decode cX5_takeBytes 16 = .ok (.invokevirtual 60, 3) := by decide +kernel
theorem dX5_takeBytes_19 : decode cX5_takeBytes 19 = .ok (.ireturn, 1) := by decide +kernel
theorem dX5_takeBytes_20 : decode cX5_takeBytes 20 = .ok (.aload_n 0, 1) := by decide +kernel
theorem dX5_takeBytes_21 : decode cX5_takeBytes 21 = .ok (.getfield 14, 3) := by decide +kernel
theorem dX5_takeBytes_24 : decode cX5_takeBytes 24 = .ok (.aload_n 0, 1) := by decide +kernel
theorem dX5_takeBytes_25 : decode cX5_takeBytes 25 = .ok (.getfield 24, 3) := by decide +kernel
theorem dX5_takeBytes_28 : decode cX5_takeBytes 28 = .ok (.invokevirtual 63, 3) := by decide +kernel
theorem dX5_takeBytes_31 : decode cX5_takeBytes 31 = .ok (.istore 4, 2) := by decide +kernel
theorem dX5_takeBytes_33 : decode cX5_takeBytes 33 = .ok (.iload 4, 2) := by decide +kernel
theorem dX5_takeBytes_35 : decode cX5_takeBytes 35 = .ok (.iload_n 2, 1) := by decide +kernel
theorem dX5_takeBytes_36 : decode cX5_takeBytes 36 = .ok (.if_icmp .lt 9, 3) := by decide +kernel
theorem dX5_takeBytes_39 : decode cX5_takeBytes 39 = .ok (.iload 4, 2) := by decide +kernel
theorem dX5_takeBytes_41 : decode cX5_takeBytes 41 = .ok (.iload_n 3, 1) := by decide +kernel
theorem dX5_takeBytes_42 : decode cX5_takeBytes 42 = .ok (.if_icmp .le 9, 3) := by decide +kernel
theorem dX5_takeBytes_45 : decode cX5_takeBytes 45 = .ok (.aload_n 0, 1) := by decide +kernel
theorem dX5_takeBytes_46 : decode cX5_takeBytes 46 = .ok (.iconst 3, 1) := by decide +kernel
theorem dX5_takeBytes_47 : decode cX5_takeBytes 47 = .ok (.invokevirtual 60, 3) := by decide +kernel
theorem dX5_takeBytes_50 : decode cX5_takeBytes 50 = .ok (.ireturn, 1) := by decide +kernel
theorem dX5_takeBytes_51 : decode cX5_takeBytes 51 = .ok (.aload_n 0, 1) := by decide +kernel
theorem dX5_takeBytes_52 : decode cX5_takeBytes 52 = .ok (.dup, 1) := by decide +kernel
theorem dX5_takeBytes_53 : decode cX5_takeBytes 53 = .ok (.getfield 24, 3) := by decide +kernel
theorem dX5_takeBytes_56 : decode cX5_takeBytes 56 = .ok (.iconst 1, 1) := by decide +kernel
theorem dX5_takeBytes_57 : decode cX5_takeBytes 57 = .ok (.iadd, 1) := by decide +kernel
theorem dX5_takeBytes_58 : decode cX5_takeBytes 58 = .ok (.putfield 24, 3) := by decide +kernel
theorem dX5_takeBytes_61 : decode cX5_takeBytes 61 = .ok (.iload 4, 2) := by decide +kernel
theorem dX5_takeBytes_63 : decode cX5_takeBytes 63 = .ok (.aload_n 0, 1) := by decide +kernel
theorem dX5_takeBytes_64 : decode cX5_takeBytes 64 = .ok (.getfield 14, 3) := by decide +kernel
theorem dX5_takeBytes_67 : decode cX5_takeBytes 67 = .ok (.getfield 57, 3) := by decide +kernel
theorem dX5_takeBytes_70 : decode cX5_takeBytes 70 = .ok (.aload_n 0, 1) := by decide +kernel
theorem dX5_takeBytes_71 : decode cX5_takeBytes 71 = .ok (.getfield 24, 3) := by decide +kernel
theorem dX5_takeBytes_74 : decode cX5_takeBytes 74 = .ok (.isub, 1) := by decide +kernel
theorem dX5_takeBytes_75 : decode cX5_takeBytes 75 = .ok (.if_icmp .le 20, 3) := by decide +kernel
theorem dX5_takeBytes_78 : decode cX5_takeBytes 78 = .ok (.aload_n 0, 1) := by decide +kernel
theorem dX5_takeBytes_79 : decode cX5_takeBytes 79 = .ok (.aload_n 0, 1) := by decide +kernel
theorem dX5_takeBytes_80 : decode cX5_takeBytes 80 = .ok (.getfield 14, 3) := by decide +kernel
theorem dX5_takeBytes_83 : decode cX5_takeBytes 83 = .ok (.getfield 57, 3) := by decide +kernel
theorem dX5_takeBytes_86 : decode cX5_takeBytes 86 = .ok (.putfield 24, 3) := by decide +kernel
theorem dX5_takeBytes_89 : decode cX5_takeBytes 89 = .ok (.aload_n 0, 1) := by decide +kernel
theorem dX5_takeBytes_90 : decode cX5_takeBytes 90 = .ok (.iconst 1, 1) := by decide +kernel
theorem dX5_takeBytes_91 : decode cX5_takeBytes 91 = .ok (.invokevirtual 60, 3) := by decide +kernel
theorem dX5_takeBytes_94 : decode cX5_takeBytes 94 = .ok (.ireturn, 1) := by decide +kernel
theorem dX5_takeBytes_95 : decode cX5_takeBytes 95 = .ok (.aload_n 1, 1) := by decide +kernel
theorem dX5_takeBytes_96 : decode cX5_takeBytes 96 = .ok (.invokevirtual 83, 3) := by decide +kernel
theorem dX5_takeBytes_99 : decode cX5_takeBytes 99 = .ok (.aload_n 1, 1) := by decide +kernel
theorem dX5_takeBytes_100 : decode cX5_takeBytes 100 = .ok (.aload_n 0, 1) := by decide +kernel
theorem dX5_takeBytes_101 : decode cX5_takeBytes 101 = .ok (.getfield 14, 3) := by decide +kernel
theorem dX5_takeBytes_104 : decode cX5_takeBytes 104 = .ok (.aload_n 0, 1) := by decide +kernel
theorem dX5_takeBytes_105 : decode cX5_takeBytes 105 = .ok (.getfield 24, 3) := by decide +kernel
theorem dX5_takeBytes_108 : decode cX5_takeBytes 108 = .ok (.iload 4, 2) := by decide +kernel
theorem dX5_takeBytes_110 : decode cX5_takeBytes 110 = .ok (.invokevirtual 89, 3) := by decide +kernel
theorem dX5_takeBytes_113 : decode cX5_takeBytes 113 = .ok (.aload_n 0, 1) := by decide +kernel
theorem dX5_takeBytes_114 : decode cX5_takeBytes 114 = .ok (.dup, 1) := by decide +kernel
theorem dX5_takeBytes_115 : decode cX5_takeBytes 115 = .ok (.getfield 24, 3) := by decide +kernel
theorem dX5_takeBytes_118 : decode cX5_takeBytes 118 = .ok (.iload 4, 2) := by decide +kernel
theorem dX5_takeBytes_120 : decode cX5_takeBytes 120 = .ok (.iadd, 1) := by decide +kernel
theorem dX5_takeBytes_121 : decode cX5_takeBytes 121 = .ok (.putfield 24, 3) := by decide +kernel
theorem dX5_takeBytes_124 : decode cX5_takeBytes 124 = .ok (.iconst 1, 1) := by decide +kernel
theorem dX5_takeBytes_125 : decode cX5_takeBytes 125 = .ok (.ireturn, 1) := by decide +kernel
theorem dX5_stopAt_0 : decode cX5_stopAt 0 = .ok (.aload_n 0, 1) := by decide +kernel
theorem dX5_stopAt_1 : decode cX5_stopAt 1 = .ok (.iload_n 1, 1) := by decide +kernel
theorem dX5_stopAt_2 : decode cX5_stopAt 2 = .ok (.putfield 27, 3) := by decide +kernel
theorem dX5_stopAt_5 : decode cX5_stopAt 5 = .ok (.aload_n 0, 1) := by decide +kernel
theorem dX5_stopAt_6 : decode cX5_stopAt 6 = .ok (.aload_n 0, 1) := by decide +kernel
theorem dX5_stopAt_7 : decode cX5_stopAt 7 = .ok (.getfield 24, 3) := by decide +kernel
theorem dX5_stopAt_10 : decode cX5_stopAt 10 = .ok (.putfield 20, 3) := by decide +kernel
theorem dX5_stopAt_13 : decode cX5_stopAt 13 = .ok (.iconst 0, 1) := by decide +kernel
theorem dX5_stopAt_14 : decode cX5_stopAt 14 = .ok (.ireturn, 1) := by decide +kernel
