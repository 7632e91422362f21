set_option maxRecDepth 20000 in
theorem ggX2_init_X4_init : GoodIn wsX2_init wsX4_init := goodIn_r _ [26, 27, 2, 3, 28, 29, 30, 31, 22, 23, 32, 33, 34, 35, 36, 37, 38, 39, 40, 41, 42, 43, 44, 45, 46, 47, 48, 49, 50, 51, 52, 88, 89, 90, 91, 92, 93, 94, 95, 96, 104, 105] rfl (by decide +kernel)
set_option maxRecDepth 20000 in
theorem gX2_init_X4_init : GoodIn wsX2_init (wsX4_init) := ggX2_init_X4_init
set_option maxRecDepth 20000 in
theorem ggX2_init_X0_init : GoodIn wsX2_init wsX0_init := goodIn_r _ [54, 55, 2, 3, 28, 56, 97, 98] rfl (by decide +kernel)
set_option maxRecDepth 20000 in
theorem gX2_init_X0_init_n26 : GoodIn wsX2_init (wsX0_init) := ggX2_init_X0_init
set_option maxRecDepth 20000 in
theorem ggX2_init_X6_init : GoodIn wsX2_init wsX6_init := goodIn_r _ [59, 60, 2, 3, 61, 22, 23, 62, 63, 64, 65, 66, 67, 68, 40, 41, 42, 43, 44, 45, 46, 28, 47, 69, 70, 71, 72, 73, 74, 75, 104, 105, 99, 100, 101, 102, 103, 106, 107] rfl (by decide +kernel)
set_option maxRecDepth 20000 in
theorem gX2_init_X6_init : GoodIn wsX2_init (wsX6_init) := ggX2_init_X6_init
set_option maxRecDepth 20000 in
theorem ggX2_init_X3_init : GoodIn wsX2_init wsX3_init := goodIn_r _ [41, 42, 2, 3, 43, 44, 45, 46, 28, 47, 104, 105] rfl (by decide +kernel)
set_option maxRecDepth 20000 in
theorem gX2_init_X3_init : GoodIn wsX2_init (wsX3_init) := ggX2_init_X3_init
theorem dX2_init_0 : decode cX2_init 0 = .ok (.aload_n 0, 1) := by decide +kernel
theorem dX2_init_1 : decode cX2_init 1 = .ok (.invokespecial 3, 3) := by decide +kernel
theorem dX2_init_4 : decode cX2_init 4 = .ok (.aload_n 0, 1) := by decide +kernel
theorem dX2_init_5 : decode cX2_init 5 = .ok (.bipush 8, 2) := by decide +kernel
theorem dX2_init_7 : decode cX2_init 7 = .ok (.anewarray 9, 3) := by decide +kernel
theorem dX2_init_10 : decode cX2_init 10 = .ok (.putfield 11, 3) := by decide +kernel
theorem dX2_init_13 : decode cX2_init 13 = .ok (.aload_n 0, 1) := by decide +kernel
theorem dX2_init_14 : decode cX2_init 14 = .ok (.new 17, 3) := by decide +kernel
theorem dX2_init_17 : decode cX2_init 17 = .ok (.dup, 1) := by decide +kernel
theorem dX2_init_18 : decode cX2_init 18 = .ok (.invokespecial 19, 3) := by decide +kernel
theorem dX2_init_21 : decode cX2_init 21 = .ok (.putfield 20, 3) := by decide +kernel
theorem dX2_init_24 : decode cX2_init 24 = .ok (.aload_n 0, 1) := by decide +kernel
theorem dX2_init_25 : decode cX2_init 25 = .ok (.new 24, 3) := by decide +kernel
theorem dX2_init_28 : decode cX2_init 28 = .ok (.dup, 1) := by decide +kernel
theorem dX2_init_29 : decode cX2_init 29 = .ok (.invokespecial 26, 3) := by decide +kernel
theorem dX2_init_32 : decode cX2_init 32 = .ok (.putfield 27, 3) := by decide +kernel
theorem dX2_init_35 : decode cX2_init 35 = .ok (.aload_n 0, 1) := by decide +kernel
theorem dX2_init_36 : decode cX2_init 36 = .ok (.bipush 8, 2) := by decide +kernel
theorem dX2_init_38 : decode cX2_init 38 = .ok (.anewarray 31, 3) := by decide +kernel
theorem dX2_init_41 : decode cX2_init 41 = .ok (.putfield 33, 3) := by decide +kernel
theorem dX2_init_44 : decode cX2_init 44 = .ok (.aload_n 0, 1) := by decide +kernel
theorem dX2_init_45 : decode cX2_init 45 = .ok (.bipush 8, 2) := by decide +kernel
theorem dX2_init_47 : decode cX2_init 47 = .ok (.anewarray 31, 3) := by decide +kernel
theorem dX2_init_50 : decode cX2_init 50 = .ok (.putfield 37, 3) := by decide +kernel
theorem dX2_init_53 : decode cX2_init 53 = .ok (.aload_n 0, 1) := by decide +kernel
theorem dX2_init_54 : decode cX2_init 54 = .ok (.iconst (-1), 1) := by decide +kernel
theorem dX2_init_55 : decode cX2_init 55 = .ok (.putfield 40, 3) := by decide +kernel
theorem dX2_init_58 : decode cX2_init 58 = .ok (.aload_n 0, 1) := by decide +kernel
theorem dX2_init_59 : decode cX2_init 59 = .ok (.iconst (-1), 1) := by decide +kernel
theorem dX2_init_60 : decode cX2_init 60 = .ok (.putfield 44, 3) := by decide +kernel
theorem dX2_init_63 : decode cX2_init 63 = .ok (.aload_n 0, 1) := by decide +kernel
theorem dX2_init_64 : decode cX2_init 64 = .ok (.iconst (-1), 1) := by decide +kernel
theorem dX2_init_65 : decode cX2_init 65 = .ok (.putfield 47, 3) := by decide +kernel
theorem dX2_init_68 : decode cX2_init 68 = .ok (.iconst 0, 1) := by decide +kernel
theorem dX2_init_69 : decode cX2_init 69 = .ok (.istore_n 1, 1) := by decide +kernel
theorem dX2_init_70 : decode cX2_init 70 = .ok (.iload_n 1, 1) := by decide +kernel
theorem dX2_init_71 : decode cX2_init 71 = .ok (.bipush 8, 2) := by decide +kernel
theorem dX2_init_73 : decode cX2_init 73 = .ok (.if_icmp .ge 52, 3) := by decide +kernel
theorem dX2_init_76 : decode cX2_init 76 = .ok (.aload_n 0, 1) := by decide +kernel
theorem dX2_init_77 : decode cX2_init 77 = .ok (.getfield 11, 3) := by decide +kernel
theorem dX2_init_80 : decode cX2_init 80 = .ok (.iload_n 1, 1) := by decide +kernel
theorem dX2_init_81 : decode cX2_init 81 = .ok (.new 9, 3) := by decide +kernel
theorem dX2_init_84 : decode cX2_init 84 = .ok (.dup, 1) := by decide +kernel
theorem dX2_init_85 : decode cX2_init 85 = .ok (.invokespecial 50, 3) := by decide +kernel
theorem dX2_init_88 : decode cX2_init 88 = .ok (.aastore, 1) := by decide +kernel
theorem dX2_init_89 : decode cX2_init 89 = .ok (.aload_n 0, 1) := by decide +kernel
theorem dX2_init_90 : decode cX2_init 90 = .ok (.getfield 33, 3) := by decide +kernel
theorem dX2_init_93 : decode cX2_init 93 = .ok (.iload_n 1, 1) := by decide +kernel
theorem dX2_init_94 : decode cX2_init 94 = .ok (.new 31, 3) := by decide +kernel
theorem dX2_init_97 : decode cX2_init 97 = .ok (.dup, 1) := by decide +kernel
theorem dX2_init_98 : decode cX2_init 98 = .ok (.bipush 32, 2) := by decide +kernel
theorem dX2_init_100 : decode cX2_init 100 = .ok (.invokespecial 51, 3) := by decide +kernel
theorem dX2_init_103 : decode cX2_init 103 = .ok (.aastore, 1) := by decide +kernel
theorem dX2_init_104 : decode cX2_init 104 = .ok (.aload_n 0, 1) := by decide +kernel
theorem dX2_init_105 : decode cX2_init 105 = .ok (.getfield 37, 3) := by decide +kernel
theorem dX2_init_108 : decode cX2_init 108 = .ok (.iload_n 1, 1) := by decide +kernel
theorem dX2_init_109 : decode cX2_init 109 = .ok (.new 31, 3) := by decide +kernel
theorem dX2_init_112 : decode cX2_init 112 = .ok (.dup, 1) := by decide +kernel
theorem dX2_init_113 : decode cX2_init 113 = .ok (.bipush 32, 2) := by decide +kernel
theorem dX2_init_115 : decode cX2_init 115 = .ok (.invokespecial 51, 3) := by decide +kernel
theorem dX2_init_118 : decode cX2_init 118 = .ok (.aastore, 1) := by decide +kernel
theorem dX2_init_119 : decode cX2_init 119 = .ok (.iinc 1 1, 3) := by decide +kernel
theorem dX2_init_122 : decode cX2_init 122 = .ok (.goto (-52), 3) := by decide +kernel
theorem dX2_init_125 : decode cX2_init 125 = .ok (.return_, 1) := by decide +kernel
theorem dX2_begin_0 : decode cX2_begin 0 = .ok (.aload_n 0, 1) := by decide +kernel
theorem dX2_begin_1 : decode cX2_begin 1 = .ok (.iload_n 1, 1) := by decide +kernel
theorem dX2_begin_2 : decode cX2_begin 2 = .ok (.putfield 54, 3) := by decide +kernel
theorem dX2_begin_5 : decode cX2_begin 5 = .ok (.aload_n 0, 1) := by decide +kernel
theorem dX2_begin_6 : decode cX2_begin 6 = .ok (.iload_n 2, 1) := by decide +kernel
theorem dX2_begin_7 : decode cX2_begin 7 = .ok (.iconst 1, 1) := by decide +kernel
theorem dX2_begin_8 : decode cX2_begin 8 = .ok (.iload_n 1, 1) := by decide +kernel
theorem dX2_begin_9 : decode cX2_begin 9 = .ok (.ishl, 1) := by decide +kernel
theorem dX2_begin_10 : decode cX2_begin 10 = .ok (.iconst (-1), 1) := by decide +kernel
theorem dX2_begin_11 : decode cX2_begin 11 = .ok (.ixor, 1) := by decide +kernel
theorem dX2_begin_12 : decode cX2_begin 12 = .ok (.iand, 1) := by decide +kernel
theorem dX2_begin_13 : decode cX2_begin 13 = .ok (.putfield 57, 3) := by decide +kernel
theorem dX2_begin_16 : decode cX2_begin 16 = .ok (.aload_n 0, 1) := by decide +kernel
theorem dX2_begin_17 : decode cX2_begin 17 = .ok (.iconst 0, 1) := by decide +kernel
theorem dX2_begin_18 : decode cX2_begin 18 = .ok (.putfield 60, 3) := by decide +kernel
theorem dX2_begin_21 : decode cX2_begin 21 = .ok (.aload_n 0, 1) := by decide +kernel
theorem dX2_begin_22 : decode cX2_begin 22 = .ok (.iconst (-1), 1) := by decide +kernel
theorem dX2_begin_23 : decode cX2_begin 23 = .ok (.putfield 40, 3) := by decide +kernel
theorem dX2_begin_26 : decode cX2_begin 26 = .ok (.aload_n 0, 1) := by decide +kernel
theorem dX2_begin_27 : decode cX2_begin 27 = .ok (.iconst (-1), 1) := by decide +kernel
theorem dX2_begin_28 : decode cX2_begin 28 = .ok (.putfield 44, 3) := by decide +kernel
theorem dX2_begin_31 : decode cX2_begin 31 = .ok (.aload_n 0, 1) := by decide +kernel
theorem dX2_begin_32 : decode cX2_begin 32 = .ok (.iconst 0, 1) := by decide +kernel
theorem dX2_begin_33 : decode cX2_begin 33 = .ok (.putfield 47, 3) := by decide +kernel
theorem dX2_begin_36 : decode cX2_begin 36 = .ok (.return_, 1) := by decide +kernel
set_option maxRecDepth 20000 in
theorem ggX2_walk_X4_sealInto : GoodIn wsX2_walk wsX4_sealInto := goodIn_r _ [11, 12, 13, 14, 15, 16, 17, 18, 19, 20, 21, 22, 23, 24, 25, 26, 27, 28, 29, 30, 31, 32, 33, 10, 34, 35, 36, 37, 38, 39, 40, 41, 42, 43, 44, 45, 46, 47, 48, 49, 50, 51, 52, 53, 54, 55, 56, 57, 58, 59, 60, 61, 62, 63, 64, 65, 66, 67, 68, 69, 70, 71, 72, 73, 74, 75, 76, 195, 196, 197, 198, 199, 200, 201, 202, 203, 204, 205] rfl (by decide +kernel)
set_option maxRecDepth 20000 in
theorem gX2_walk_X4_sealInto : GoodIn wsX2_walk (wsV RX2 67 RX4 yX4_sealInto wsX4_sealInto) := goodIn_app (goodIn_of _ (by decide +kernel)) ggX2_walk_X4_sealInto
set_option maxRecDepth 20000 in
theorem ggX2_walk_X1_isOfOthers : GoodIn wsX2_walk wsX1_isOfOthers := goodIn_r _ [81, 82, 83, 193, 194, 195, 196] rfl (by decide +kernel)
set_option maxRecDepth 20000 in
theorem gX2_walk_X1_isOfOthers : GoodIn wsX2_walk (wsV RX2 78 RX1 yX1_isOfOthers wsX1_isOfOthers) := goodIn_app (goodIn_of _ (by decide +kernel)) ggX2_walk_X1_isOfOthers
set_option maxRecDepth 20000 in
theorem ggX2_walk_X2_passOthers : GoodIn wsX2_walk wsX2_passOthers := goodIn_r _ [134, 1, 6, 93, 135, 136, 2, 137, 138, 3, 139, 140, 141, 142, 143, 87, 144, 4, 145, 146, 147, 19, 148, 21, 26, 121, 122, 123, 124, 125, 126, 127, 149, 150, 151, 10, 152, 153, 133, 8, 9, 11, 12, 13, 14, 15, 16, 17, 18, 20, 22, 23, 24, 25, 27, 28, 29, 30, 31, 32, 33, 34, 35, 36, 37, 38, 39, 40, 41, 42, 43, 44, 45, 46, 47, 48, 49, 50, 51, 52, 53, 54, 55, 56, 57, 58, 59, 60, 61, 62, 63, 64, 65, 66, 67, 68, 69, 70, 71, 72, 73, 74, 75, 76, 154, 155, 156, 157, 158, 159, 160, 161, 162, 163, 164, 165, 166, 167, 168, 169, 170, 171, 172, 173, 174, 175, 176, 132, 0, 5, 7, 77, 78, 79, 80, 81, 82, 83, 84, 85, 86, 88, 89, 90, 91, 92, 94, 95, 96, 97, 98, 99, 100, 101, 102, 103, 104, 105, 106, 107, 108, 109, 110, 111, 112, 113, 114, 115, 116, 117, 118, 119, 120, 128, 129, 130, 131, 177, 178, 179, 180, 181, 182, 183, 184, 185, 186, 187, 188, 189, 190, 191, 192, 193, 194, 195, 196, 197, 198, 199, 200, 201, 202, 203, 204, 205, 206, 207] rfl (by decide +kernel)
set_option maxRecDepth 20000 in
theorem gX2_walk_X2_passOthers : GoodIn wsX2_walk (wsV RX2 84 RX2 yX2_passOthers wsX2_passOthers) := goodIn_app (goodIn_of _ (by decide +kernel)) ggX2_walk_X2_passOthers
set_option maxRecDepth 20000 in
theorem ggX2_walk_X2_passOwn : GoodIn wsX2_walk wsX2_passOwn := goodIn_r _ [91, 1, 6, 92, 93, 2, 3, 94, 95, 96, 97, 98, 99, 100, 101, 102, 103, 104, 105, 106, 70, 71, 19, 72, 21, 26, 107, 108, 109, 110, 111, 112, 113, 114, 115, 116, 117, 118, 119, 120, 121, 122, 123, 87, 124, 125, 126, 127, 128, 129, 130, 10, 131, 132, 133, 8, 9, 11, 12, 13, 14, 15, 16, 17, 18, 20, 22, 23, 24, 25, 27, 28, 29, 30, 31, 32, 33, 34, 35, 36, 37, 38, 39, 40, 41, 42, 43, 44, 45, 46, 47, 48, 49, 50, 51, 52, 53, 54, 55, 56, 57, 58, 59, 60, 61, 62, 63, 64, 65, 66, 67, 68, 69, 73, 74, 75, 76, 177, 178, 179, 180, 181, 182, 183, 184, 185, 186, 187, 188, 189, 190, 191, 192, 193, 194, 206, 207, 195, 196, 197, 198, 199, 200, 201, 202, 203, 204, 205] rfl (by decide +kernel)
set_option maxRecDepth 20000 in
theorem gX2_walk_X2_passOwn : GoodIn wsX2_walk (wsV RX2 88 RX2 yX2_passOwn wsX2_passOwn) := goodIn_app (goodIn_of _ (by decide +kernel)) ggX2_walk_X2_passOwn
theorem dX2_walk_0 : decode cX2_walk 0 = .ok (.aload_n 0, 1) := by decide +kernel
theorem dX2_walk_1 : decode cX2_walk 1 = .ok (.getfield 11, 3) := by decide +kernel
theorem dX2_walk_4 : decode cX2_walk 4 = .ok (.iload_n 1, 1) := by decide +kernel
theorem dX2_walk_5 : decode cX2_walk 5 = .ok (.aaload, 1) := by decide +kernel
theorem dX2_walk_6 : decode cX2_walk 6 = .ok (.astore 4, 2) := by decide +kernel
theorem dX2_walk_8 : decode cX2_walk 8 = .ok (.aload_n 0, 1) := by decide +kernel
theorem dX2_walk_9 : decode cX2_walk 9 = .ok (.getfield 20, 3) := by decide +kernel
theorem dX2_walk_12 : decode cX2_walk 12 = .ok (.aload_n 0, 1) := by decide +kernel
theorem dX2_walk_13 : decode cX2_walk 13 = .ok (.getfield 33, 3) := by decide +kernel
theorem dX2_walk_16 : decode cX2_walk 16 = .ok (.iload_n 3, 1) := by decide +kernel
theorem dX2_walk_17 : decode cX2_walk 17 = .ok (.aaload, 1) := by decide +kernel
theorem dX2_walk_18 : decode cX2_walk 18 = .ok (.aload_n 2, 1) := by decide +kernel
theorem dX2_walk_19 : decode cX2_walk 19 = .ok (.aload 4, 2) := by decide +kernel
theorem dX2_walk_21 : decode cX2_walk 21 = .ok (.getfield 63, 3) := by decide +kernel
theorem dX2_walk_24 : decode cX2_walk 24 = .ok (.invokevirtual 67, 3) := by decide +kernel
theorem dX2_walk_27 : decode cX2_walk 27 = .ok (.iconst 0, 1) := by decide +kernel
theorem dX2_walk_28 : decode cX2_walk 28 = .ok (.istore 5, 2) := by decide +kernel
theorem dX2_walk_30 : decode cX2_walk 30 = .ok (.iload 5, 2) := by decide +kernel
theorem dX2_walk_32 : decode cX2_walk 32 = .ok (.aload 4, 2) := by decide +kernel
theorem dX2_walk_34 : decode cX2_walk 34 = .ok (.getfield 71, 3) := by decide +kernel
theorem dX2_walk_37 : decode cX2_walk 37 = .ok (.if_icmp .ge 51, 3) := by decide +kernel
theorem dX2_walk_40 : decode cX2_walk 40 = .ok (.aload 4, 2) := by decide +kernel
theorem dX2_walk_42 : decode cX2_walk 42 = .ok (.getfield 74, 3) := by decide +kernel
theorem dX2_walk_45 : decode cX2_walk 45 = .ok (.iload 5, 2) := by decide +kernel
theorem dX2_walk_47 : decode cX2_walk 47 = .ok (.aaload, 1) := by decide +kernel
theorem dX2_walk_48 : decode cX2_walk 48 = .ok (.invokevirtual 78, 3) := by decide +kernel
theorem dX2_walk_51 : decode cX2_walk 51 = .ok (.ifCond .eq 14, 3) := by decide +kernel
theorem dX2_walk_54 : decode cX2_walk 54 = .ok (.aload_n 0, 1) := by decide +kernel
theorem dX2_walk_55 : decode cX2_walk 55 = .ok (.iload_n 1, 1) := by decide +kernel
theorem dX2_walk_56 : decode cX2_walk 56 = .ok (.iload 5, 2) := by decide +kernel
theorem dX2_walk_58 : decode cX2_walk 58 = .ok (.iload_n 3, 1) := by decide +kernel
theorem dX2_walk_59 : decode cX2_walk 59 = .ok (.invokevirtual 84, 3) := by decide +kernel
theorem dX2_walk_62 : decode cX2_walk 62 = .ok (.goto 11, 3) := by decide +kernel
theorem dX2_walk_65 : decode cX2_walk 65 = .ok (.aload_n 0, 1) := by decide +kernel
theorem dX2_walk_66 : decode cX2_walk 66 = .ok (.iload_n 1, 1) := by decide +kernel
theorem dX2_walk_67 : decode cX2_walk 67 = .ok (.iload 5, 2) := by decide +kernel
theorem dX2_walk_69 : decode cX2_walk 69 = .ok (.iload_n 3, 1) := by decide +kernel
theorem dX2_walk_70 : decode cX2_walk 70 = .ok (.invokevirtual 88, 3) := by decide +kernel
theorem dX2_walk_73 : decode cX2_walk 73 = .ok (.istore 6, 2) := by decide +kernel
theorem dX2_walk_75 : decode cX2_walk 75 = .ok (.iload 6, 2) := by decide +kernel
theorem dX2_walk_77 : decode cX2_walk 77 = .ok (.ifCond .ne 5, 3) := by decide +kernel
theorem dX2_walk_80 : decode cX2_walk 80 = .ok (.iconst 0, 1) := by decide +kernel
theorem dX2_walk_81 : decode cX2_walk 81 = .ok (.ireturn, 1) := by decide +kernel
theorem dX2_walk_82 : decode cX2_walk 82 = .ok (.iinc 5 1, 3) := by decide +kernel
theorem dX2_walk_85 : decode cX2_walk 85 = .ok (.goto (-55), 3) := by decide +kernel
theorem dX2_walk_88 : decode cX2_walk 88 = .ok (.iconst 1, 1) := by decide +kernel
theorem dX2_walk_89 : decode cX2_walk 89 = .ok (.ireturn, 1) := by decide +kernel
set_option maxRecDepth 20000 in
theorem ggX2_compareSign_X3_isSameAs : GoodIn wsX2_compareSign wsX3_isSameAs := goodIn_r _ [10, 11, 12, 37, 38] rfl (by decide +kernel)
set_option maxRecDepth 20000 in
theorem gX2_compareSign_X3_isSameAs : GoodIn wsX2_compareSign (wsV RX2 94 RX3 yX3_isSameAs wsX3_isSameAs) := goodIn_app (goodIn_of _ (by decide +kernel)) ggX2_compareSign_X3_isSameAs
set_option maxRecDepth 20000 in
theorem ggX2_compareSign_X2_stopAt : GoodIn wsX2_compareSign wsX2_stopAt := goodIn_r _ [17, 18, 19, 20, 21, 22, 23, 24, 25, 26, 27, 28, 29, 30, 31] rfl (by decide +kernel)
set_option maxRecDepth 20000 in
theorem gX2_compareSign_X2_stopAt : GoodIn wsX2_compareSign (wsV RX2 98 RX2 yX2_stopAt wsX2_stopAt) := goodIn_app (goodIn_of _ (by decide +kernel)) ggX2_compareSign_X2_stopAt
theorem dX2_compareSign_0 : decode cX2_compareSign 0 = .ok (.aload_n 0, 1) := by decide +kernel
theorem dX2_compareSign_1 : decode cX2_compareSign 1 = .ok (.getfield 33, 3) := by decide +kernel
theorem dX2_compareSign_4 : decode cX2_compareSign 4 = .ok (.iconst 0, 1) := by decide +kernel
theorem dX2_compareSign_5 : decode cX2_compareSign 5 = .ok (.aaload, 1) := by decide +kernel
theorem dX2_compareSign_6 : decode cX2_compareSign 6 = .ok (.aload_n 0, 1) := by decide +kernel
theorem dX2_compareSign_7 : decode cX2_compareSign 7 = .ok (.getfield 11, 3) := by decide +kernel
theorem dX2_compareSign_10 : decode cX2_compareSign 10 = .ok (.aload_n 0, 1) := by decide +kernel
theorem dX2_compareSign_11 : decode cX2_compareSign 11 = .ok (.getfield 54, 3) := by decide +kernel
theorem dX2_compareSign_14 : decode cX2_compareSign 14 = .ok (.aaload, 1) := by decide +kernel
theorem dX2_compareSign_15 : decode cX2_compareSign 15 = .ok (.getfield 91, 3) := by decide +kernel
theorem dX2_compareSign_18 : decode cX2_compareSign 18 = .ok (.invokevirtual 94, 3) := by decide +kernel
theorem dX2_compareSign_21 : decode cX2_compareSign 21 = .ok (.ifCond .ne 25, 3) := by decide +kernel
theorem dX2_compareSign_24 : decode cX2_compareSign 24 = .ok (.aload_n 0, 1) := by decide +kernel
theorem dX2_compareSign_25 : decode cX2_compareSign 25 = .ok (.iconst 5, 1) := by decide +kernel
theorem dX2_compareSign_26 : decode cX2_compareSign 26 = .ok (.aload_n 0, 1) := by decide +kernel
theorem dX2_compareSign_27 : decode cX2_compareSign 27 = .ok (.getfield 54, 3) := by decide +kernel
theorem dX2_compareSign_30 : decode cX2_compareSign 30 = .ok (.aload_n 0, 1) := by decide +kernel
theorem dX2_compareSign_31 : decode cX2_compareSign 31 = .ok (.getfield 11, 3) := by decide +kernel
theorem dX2_compareSign_34 : decode cX2_compareSign 34 = .ok (.aload_n 0, 1) := by decide +kernel
theorem dX2_compareSign_35 : decode cX2_compareSign 35 = .ok (.getfield 54, 3) := by decide +kernel
theorem dX2_compareSign_38 : decode cX2_compareSign 38 = .ok (.aaload, 1) := by decide +kernel
theorem dX2_compareSign_39 : decode cX2_compareSign 39 = .ok (.getfield 71, 3) := by decide +kernel
theorem dX2_compareSign_42 : decode cX2_compareSign 42 = .ok (.invokevirtual 98, 3) := by decide +kernel
theorem dX2_compareSign_45 : decode cX2_compareSign 45 = .ok (.pop, 1) := by decide +kernel
theorem dX2_compareSign_46 : decode cX2_compareSign 46 = .ok (.return_, 1) := by decide +kernel
set_option maxRecDepth 20000 in
theorem ggX2_passOwn_X0_judgeText : GoodIn wsX2_passOwn wsX0_judgeText := goodIn_r _ [11, 12, 13, 14, 15, 16, 10, 17, 18, 19, 20, 21, 22, 23, 24, 25, 26, 27, 28, 29, 30, 31, 32, 33, 34, 35, 36, 37, 38, 39, 135, 136, 137, 138] rfl (by decide +kernel)
set_option maxRecDepth 20000 in
theorem gX2_passOwn_X0_judgeText : GoodIn wsX2_passOwn (wsV RX2 104 RX0 yX0_judgeText wsX0_judgeText) := goodIn_app (goodIn_of _ (by decide +kernel)) ggX2_passOwn_X0_judgeText
set_option maxRecDepth 20000 in
theorem ggX2_passOwn_X2_stopAt : GoodIn wsX2_passOwn wsX2_stopAt := goodIn_r _ [44, 45, 46, 47, 117, 118, 119, 120, 121, 122, 123, 124, 125, 126, 127] rfl (by decide +kernel)
set_option maxRecDepth 20000 in
theorem gX2_passOwn_X2_stopAt : GoodIn wsX2_passOwn (wsV RX2 98 RX2 yX2_stopAt wsX2_stopAt) := goodIn_app (goodIn_of _ (by decide +kernel)) ggX2_passOwn_X2_stopAt
set_option maxRecDepth 20000 in
theorem ggX2_passOwn_X4_goOnOwn : GoodIn wsX2_passOwn wsX4_goOnOwn := goodIn_r _ [52, 53, 54, 55, 56, 51, 57, 58, 59, 60, 61, 62, 63, 64, 22, 65, 24, 66, 67, 68, 69, 25, 70, 71, 72, 73, 74, 75, 76, 77, 78, 79, 80, 81, 82, 83, 84, 85, 86, 87, 88, 89, 90, 91, 92, 93, 94, 95, 96, 97, 98, 99, 100, 101, 102, 103, 104, 105, 106, 107, 108, 109, 110, 111, 112, 20, 21, 23, 113, 114, 115, 116, 133, 134, 137, 138, 139, 140, 141, 142, 143, 144, 145, 146, 147] rfl (by decide +kernel)
set_option maxRecDepth 20000 in
theorem gX2_passOwn_X4_goOnOwn : GoodIn wsX2_passOwn (wsV RX2 108 RX4 yX4_goOnOwn wsX4_goOnOwn) := goodIn_app (goodIn_of _ (by decide +kernel)) ggX2_passOwn_X4_goOnOwn
theorem dX2_passOwn_0 : decode cX2_passOwn 0 = .ok (.aload_n 0, 1) := by decide +kernel
theorem dX2_passOwn_1 : decode cX2_passOwn 1 = .ok (.getfield 11, 3) := by decide +kernel
theorem dX2_passOwn_4 : decode cX2_passOwn 4 = .ok (.iload_n 1, 1) := by decide +kernel
theorem dX2_passOwn_5 : decode cX2_passOwn 5 = .ok (.aaload, 1) := by decide +kernel
theorem dX2_passOwn_6 : decode cX2_passOwn 6 = .ok (.getfield 74, 3) := by decide +kernel
theorem dX2_passOwn_9 : decode cX2_passOwn 9 = .ok (.iload_n 2, 1) := by decide +kernel
theorem dX2_passOwn_10 : decode cX2_passOwn 10 = .ok (.aaload, 1) := by decide +kernel
theorem dX2_passOwn_11 : decode cX2_passOwn 11 = .ok (.astore 4, 2) := by decide +kernel
theorem dX2_passOwn_13 : decode cX2_passOwn 13 = .ok (.aload_n 0, 1) := by decide +kernel
theorem dX2_passOwn_14 : decode cX2_passOwn 14 = .ok (.getfield 27, 3) := by decide +kernel
theorem dX2_passOwn_17 : decode cX2_passOwn 17 = .ok (.aload 4, 2) := by decide +kernel
theorem dX2_passOwn_19 : decode cX2_passOwn 19 = .ok (.getfield 101, 3) := by decide +kernel
theorem dX2_passOwn_22 : decode cX2_passOwn 22 = .ok (.invokevirtual 104, 3) := by decide +kernel
theorem dX2_passOwn_25 : decode cX2_passOwn 25 = .ok (.istore 5, 2) := by decide +kernel
theorem dX2_passOwn_27 : decode cX2_passOwn 27 = .ok (.iload 5, 2) := by decide +kernel
theorem dX2_passOwn_29 : decode cX2_passOwn 29 = .ok (.iconst 1, 1) := by decide +kernel
theorem dX2_passOwn_30 : decode cX2_passOwn 30 = .ok (.if_icmp .eq 21, 3) := by decide +kernel
theorem dX2_passOwn_33 : decode cX2_passOwn 33 = .ok (.aload_n 0, 1) := by decide +kernel
theorem dX2_passOwn_34 : decode cX2_passOwn 34 = .ok (.iload 5, 2) := by decide +kernel
theorem dX2_passOwn_36 : decode cX2_passOwn 36 = .ok (.iconst (-1), 1) := by decide +kernel
theorem dX2_passOwn_37 : decode cX2_passOwn 37 = .ok (.if_icmp .ne 7, 3) := by decide +kernel
theorem dX2_passOwn_40 : decode cX2_passOwn 40 = .ok (.iconst 1, 1) := by decide +kernel
theorem dX2_passOwn_41 : decode cX2_passOwn 41 = .ok (.goto 4, 3) := by decide +kernel
theorem dX2_passOwn_44 : decode cX2_passOwn 44 = .ok (.iconst 2, 1) := by decide +kernel
theorem dX2_passOwn_45 : decode cX2_passOwn 45 = .ok (.iload_n 1, 1) := by decide +kernel
theorem dX2_passOwn_46 : decode cX2_passOwn 46 = .ok (.iload_n 2, 1) := by decide +kernel
theorem dX2_passOwn_47 : decode cX2_passOwn 47 = .ok (.invokevirtual 98, 3) := by decide +kernel
theorem dX2_passOwn_50 : decode cX2_passOwn 50 = .ok (.ireturn, 1) := by decide +kernel
theorem dX2_passOwn_51 : decode cX2_passOwn 51 = .ok (.aload_n 0, 1) := by decide +kernel
theorem dX2_passOwn_52 : decode cX2_passOwn 52 = .ok (.getfield 20, 3) := by decide +kernel
theorem dX2_passOwn_55 : decode cX2_passOwn 55 = .ok (.aload_n 0, 1) := by decide +kernel
theorem dX2_passOwn_56 : decode cX2_passOwn 56 = .ok (.getfield 33, 3) := by decide +kernel
theorem dX2_passOwn_59 : decode cX2_passOwn 59 = .ok (.iload_n 3, 1) := by decide +kernel
theorem dX2_passOwn_60 : decode cX2_passOwn 60 = .ok (.aaload, 1) := by decide +kernel
theorem dX2_passOwn_61 : decode cX2_passOwn 61 = .ok (.aload 4, 2) := by decide +kernel
theorem dX2_passOwn_63 : decode cX2_passOwn 63 = .ok (.invokevirtual 108, 3) := by decide +kernel
theorem dX2_passOwn_66 : decode cX2_passOwn 66 = .ok (.iconst 1, 1) := by decide +kernel
theorem dX2_passOwn_67 : decode cX2_passOwn 67 = .ok (.ireturn, 1) := by decide +kernel
set_option maxRecDepth 20000 in
theorem ggX2_passOthers_X2_helperNamed : GoodIn wsX2_passOthers wsX2_helperNamed := goodIn_r _ [16, 4, 1, 17, 18, 19, 20, 21, 22, 23, 24, 177, 178, 179, 180, 181, 182, 183, 184, 185, 186, 187, 188, 189, 190, 191, 192, 195, 196] rfl (by decide +kernel)
set_option maxRecDepth 20000 in
theorem gX2_passOthers_X2_helperNamed : GoodIn wsX2_passOthers (wsV RX2 112 RX2 yX2_helperNamed wsX2_helperNamed) := goodIn_app (goodIn_of _ (by decide +kernel)) ggX2_passOthers_X2_helperNamed
set_option maxRecDepth 20000 in
theorem ggX2_passOthers_X2_stopAt : GoodIn wsX2_passOthers wsX2_stopAt := goodIn_r _ [28, 29, 30, 31, 177, 178, 179, 180, 181, 182, 183, 184, 185, 186, 187] rfl (by decide +kernel)
set_option maxRecDepth 20000 in
theorem gX2_passOthers_X2_stopAt : GoodIn wsX2_passOthers (wsV RX2 98 RX2 yX2_stopAt wsX2_stopAt) := goodIn_app (goodIn_of _ (by decide +kernel)) ggX2_passOthers_X2_stopAt
set_option maxRecDepth 20000 in
theorem ggX2_passOthers_X4_turnKey : GoodIn wsX2_passOthers wsX4_turnKey := goodIn_r _ [36, 37, 38, 39, 40, 35, 41, 42, 43, 44, 45, 46, 47, 48, 21, 49, 23, 50, 51, 52, 53, 24, 54, 55, 56, 57, 58, 59, 60, 61, 62, 63, 64, 65, 66, 67, 68, 69, 70, 71, 72, 73, 74, 75, 76, 77, 78, 79, 80, 81, 82, 83, 84, 85, 86, 87, 88, 89, 90, 91, 92, 93, 94, 95, 96, 97, 98, 99, 100, 101, 102, 103, 104, 105, 106, 107, 108, 109, 110, 111, 197, 198, 199, 200, 201, 202, 203, 204, 205, 195, 196] rfl (by decide +kernel)
set_option maxRecDepth 20000 in
theorem gX2_passOthers_X4_turnKey : GoodIn wsX2_passOthers (wsV RX2 118 RX4 yX4_turnKey wsX4_turnKey) := goodIn_app (goodIn_of _ (by decide +kernel)) ggX2_passOthers_X4_turnKey
set_option maxRecDepth 20000 in
theorem ggX2_passOthers_X2_walk : GoodIn wsX2_passOthers wsX2_walk := goodIn_r _ [128, 1, 6, 9, 17, 129, 2, 130, 39, 40, 35, 41, 42, 43, 44, 45, 46, 47, 48, 21, 49, 23, 50, 51, 52, 53, 24, 54, 55, 56, 57, 58, 59, 60, 61, 62, 63, 64, 65, 66, 67, 68, 69, 70, 71, 72, 73, 74, 75, 76, 77, 78, 79, 80, 81, 82, 83, 84, 85, 86, 87, 88, 89, 90, 91, 92, 93, 94, 95, 96, 97, 98, 99, 100, 101, 102, 103, 131, 132, 133, 134, 135, 136, 137, 138, 139, 140, 15, 141, 142, 143, 144, 145, 3, 146, 147, 148, 149, 150, 151, 152, 153, 154, 155, 156, 157, 158, 159, 160, 161, 162, 163, 164, 165, 166, 167, 168, 169, 170, 171, 172, 25, 26, 27, 28, 29, 30, 31, 173, 174, 175, 176, 127, 38, 0, 4, 5, 7, 8, 10, 11, 12, 13, 14, 16, 18, 19, 20, 22, 32, 33, 34, 36, 37, 104, 105, 106, 107, 108, 109, 110, 111, 112, 113, 114, 115, 116, 117, 118, 119, 120, 121, 122, 123, 124, 125, 126, 177, 178, 179, 180, 181, 182, 183, 184, 185, 186, 187, 188, 189, 190, 191, 192, 193, 194, 195, 196, 197, 198, 199, 200, 201, 202, 203, 204, 205, 206, 207] rfl (by decide +kernel)
set_option maxRecDepth 20000 in
theorem gX2_passOthers_X2_walk : GoodIn wsX2_passOthers (wsV RX2 122 RX2 yX2_walk wsX2_walk) := goodIn_app (goodIn_of _ (by decide +kernel)) ggX2_passOthers_X2_walk
set_option maxRecDepth 20000 in
theorem ggX2_passOthers_X4_bindSign : GoodIn wsX2_passOthers wsX4_bindSign := goodIn_r _ [118, 119, 120, 46, 47, 48, 21, 49, 23, 50, 51, 52, 53, 24, 54, 55, 56, 57, 100, 101, 102, 103, 38, 39, 40, 35, 41, 42, 43, 44, 45, 58, 59, 60, 61, 62, 63, 64, 65, 66, 67, 68, 69, 70, 71, 72, 73, 74, 75, 76, 77, 78, 79, 80, 81, 82, 83, 84, 85, 86, 87, 88, 89, 90, 91, 92, 93, 94, 95, 96, 97, 98, 99, 197, 198, 199, 200, 201, 202, 203, 204, 205, 195, 196] rfl (by decide +kernel)
set_option maxRecDepth 20000 in
theorem gX2_passOthers_X4_bindSign : GoodIn wsX2_passOthers (wsV RX2 126 RX4 yX4_bindSign wsX4_bindSign) := goodIn_app (goodIn_of _ (by decide +kernel)) ggX2_passOthers_X4_bindSign
set_option maxRecDepth 20000 in
theorem ggX2_passOthers_X3_isSameAs : GoodIn wsX2_passOthers wsX3_isSameAs := goodIn_r _ [22, 23, 24, 195, 196] rfl (by decide +kernel)
set_option maxRecDepth 20000 in
theorem gX2_passOthers_X3_isSameAs : GoodIn wsX2_passOthers (wsV RX2 94 RX3 yX3_isSameAs wsX3_isSameAs) := goodIn_app (goodIn_of _ (by decide +kernel)) ggX2_passOthers_X3_isSameAs
set_option maxRecDepth 20000 in
theorem ggX2_passOthers_X4_goOnOthers : GoodIn wsX2_passOthers wsX4_goOnOthers := goodIn_r _ [124, 125, 126, 37, 127, 119, 38, 39, 40, 35, 41, 42, 43, 44, 45, 46, 47, 48, 21, 49, 23, 50, 51, 52, 53, 24, 54, 55, 56, 57, 58, 59, 60, 61, 62, 63, 64, 65, 66, 67, 68, 69, 70, 71, 72, 73, 74, 75, 76, 77, 78, 79, 80, 81, 82, 83, 84, 85, 86, 87, 88, 89, 90, 91, 92, 93, 94, 95, 96, 97, 98, 99, 100, 101, 102, 103, 197, 198, 199, 200, 201, 202, 203, 204, 205, 193, 194, 195, 196] rfl (by decide +kernel)
set_option maxRecDepth 20000 in
theorem gX2_passOthers_X4_goOnOthers : GoodIn wsX2_passOthers (wsV RX2 130 RX4 yX4_goOnOthers wsX4_goOnOthers) := goodIn_app (goodIn_of _ (by decide +kernel)) ggX2_passOthers_X4_goOnOthers
theorem dX2_passOthers_0 : decode cX2_passOthers 0 = .ok (.aload_n 0, 1) := by decide +kernel
theorem dX2_passOthers_1 : decode cX2_passOthers 1 = .ok (.getfield 11, 3) := by decide +kernel
theorem dX2_passOthers_4 : decode cX2_passOthers 4 = .ok (.iload_n 1, 1) := by decide +kernel
theorem dX2_passOthers_5 : decode cX2_passOthers 5 = .ok (.aaload, 1) := by decide +kernel
theorem dX2_passOthers_6 : decode cX2_passOthers 6 = .ok (.getfield 74, 3) := by decide +kernel
theorem dX2_passOthers_9 : decode cX2_passOthers 9 = .ok (.iload_n 2, 1) := by decide +kernel
theorem dX2_passOthers_10 : decode cX2_passOthers 10 = .ok (.aaload, 1) := by decide +kernel
theorem dX2_passOthers_11 : decode cX2_passOthers 11 = .ok (.astore 4, 2) := by decide +kernel
theorem dX2_passOthers_13 : decode cX2_passOthers 13 = .ok (.iload_n 3, 1) := by decide +kernel
theorem dX2_passOthers_14 : decode cX2_passOthers 14 = .ok (.iconst 1, 1) := by decide +kernel
theorem dX2_passOthers_15 : decode cX2_passOthers 15 = .ok (.iadd, 1) := by decide +kernel
theorem dX2_passOthers_16 : decode cX2_passOthers 16 = .ok (.bipush 8, 2) := by decide +kernel
theorem dX2_passOthers_18 : decode cX2_passOthers 18 = .ok (.if_icmp .ge 15, 3) := by decide +kernel
theorem dX2_passOthers_21 : decode cX2_passOthers 21 = .ok (.aload_n 0, 1) := by decide +kernel
theorem dX2_passOthers_22 : decode cX2_passOthers 22 = .ok (.aload 4, 2) := by decide +kernel
theorem dX2_passOthers_24 : decode cX2_passOthers 24 = .ok (.getfield 101, 3) := by decide +kernel
theorem dX2_passOthers_27 : decode cX2_passOthers 27 = .ok (.invokevirtual 112, 3) := by decide +kernel
theorem dX2_passOthers_30 : decode cX2_passOthers 30 = .ok (.goto 4, 3) := by decide +kernel
theorem dX2_passOthers_33 : decode cX2_passOthers 33 = .ok (.iconst (-1), 1) := by decide +kernel
theorem dX2_passOthers_34 : decode cX2_passOthers 34 = .ok (.istore 5, 2) := by decide +kernel
theorem dX2_passOthers_36 : decode cX2_passOthers 36 = .ok (.iload 5, 2) := by decide +kernel
theorem dX2_passOthers_38 : decode cX2_passOthers 38 = .ok (.iconst (-1), 1) := by decide +kernel
theorem dX2_passOthers_39 : decode cX2_passOthers 39 = .ok (.if_icmp .ne 11, 3) := by decide +kernel
theorem dX2_passOthers_42 : decode cX2_passOthers 42 = .ok (.aload_n 0, 1) := by decide +kernel
theorem dX2_passOthers_43 : decode cX2_passOthers 43 = .ok (.iconst 3, 1) := by decide +kernel
theorem dX2_passOthers_44 : decode cX2_passOthers 44 = .ok (.iload_n 1, 1) := by decide +kernel
theorem dX2_passOthers_45 : decode cX2_passOthers 45 = .ok (.iload_n 2, 1) := by decide +kernel
theorem dX2_passOthers_46 : decode cX2_passOthers 46 = .ok (.invokevirtual 98, 3) := by decide +kernel
theorem dX2_passOthers_49 : decode cX2_passOthers 49 = .ok (.ireturn, 1) := by decide +kernel
theorem dX2_passOthers_50 : decode cX2_passOthers 50 = .ok (.aload_n 0, 1) := by decide +kernel
theorem dX2_passOthers_51 : decode cX2_passOthers 51 = .ok (.dup, 1) := by decide +kernel
theorem dX2_passOthers_52 : decode cX2_passOthers 52 = .ok (.getfield 57, 3) := by decide +kernel
theorem dX2_passOthers_55 : decode cX2_passOthers 55 = .ok (.iconst 1, 1) := by decide +kernel
theorem dX2_passOthers_56 : decode cX2_passOthers 56 = .ok (.iload 5, 2) := by decide +kernel
theorem dX2_passOthers_58 : decode cX2_passOthers 58 = .ok (.ishl, 1) := by decide +kernel
theorem dX2_passOthers_59 : decode cX2_passOthers 59 = .ok (.iconst (-1), 1) := by decide +kernel
theorem dX2_passOthers_60 : decode cX2_passOthers 60 = .ok (.ixor, 1) := by decide +kernel
theorem dX2_passOthers_61 : decode cX2_passOthers 61 = .ok (.iand, 1) := by decide +kernel
theorem dX2_passOthers_62 : decode cX2_passOthers 62 = .ok (.putfield 57, 3) := by decide +kernel
theorem dX2_passOthers_65 : decode cX2_passOthers 65 = .ok (.aload_n 0, 1) := by decide +kernel
theorem dX2_passOthers_66 : decode cX2_passOthers 66 = .ok (.dup, 1) := by decide +kernel
theorem dX2_passOthers_67 : decode cX2_passOthers 67 = .ok (.getfield 47, 3) := by decide +kernel
theorem dX2_passOthers_70 : decode cX2_passOthers 70 = .ok (.iconst 1, 1) := by decide +kernel
theorem dX2_passOthers_71 : decode cX2_passOthers 71 = .ok (.iadd, 1) := by decide +kernel
theorem dX2_passOthers_72 : decode cX2_passOthers 72 = .ok (.putfield 47, 3) := by decide +kernel
theorem dX2_passOthers_75 : decode cX2_passOthers 75 = .ok (.aload_n 0, 1) := by decide +kernel
theorem dX2_passOthers_76 : decode cX2_passOthers 76 = .ok (.getfield 20, 3) := by decide +kernel
theorem dX2_passOthers_79 : decode cX2_passOthers 79 = .ok (.aload_n 0, 1) := by decide +kernel
theorem dX2_passOthers_80 : decode cX2_passOthers 80 = .ok (.getfield 37, 3) := by decide +kernel
theorem dX2_passOthers_83 : decode cX2_passOthers 83 = .ok (.iload_n 3, 1) := by decide +kernel
theorem dX2_passOthers_84 : decode cX2_passOthers 84 = .ok (.aaload, 1) := by decide +kernel
theorem dX2_passOthers_85 : decode cX2_passOthers 85 = .ok (.aload 4, 2) := by decide +kernel
theorem dX2_passOthers_87 : decode cX2_passOthers 87 = .ok (.getfield 115, 3) := by decide +kernel
theorem dX2_passOthers_90 : decode cX2_passOthers 90 = .ok (.aload_n 0, 1) := by decide +kernel
theorem dX2_passOthers_91 : decode cX2_passOthers 91 = .ok (.getfield 33, 3) := by decide +kernel
theorem dX2_passOthers_94 : decode cX2_passOthers 94 = .ok (.iload_n 3, 1) := by decide +kernel
theorem dX2_passOthers_95 : decode cX2_passOthers 95 = .ok (.aaload, 1) := by decide +kernel
theorem dX2_passOthers_96 : decode cX2_passOthers 96 = .ok (.aload 4, 2) := by decide +kernel
theorem dX2_passOthers_98 : decode cX2_passOthers 98 = .ok (.getfield 101, 3) := by decide +kernel
theorem dX2_passOthers_101 : decode cX2_passOthers 101 = .ok (.invokevirtual 118, 3) := by decide +kernel
theorem dX2_passOthers_104 : decode cX2_passOthers 104 = .ok (.aload_n 0, 1) := by decide +kernel
theorem dX2_passOthers_105 : decode cX2_passOthers 105 = .ok (.iload 5, 2) := by decide +kernel
theorem dX2_passOthers_107 : decode cX2_passOthers 107 = .ok (.aload_n 0, 1) := by decide +kernel
theorem dX2_passOthers_108 : decode cX2_passOthers 108 = .ok (.getfield 37, 3) := by decide +kernel
theorem dX2_passOthers_111 : decode cX2_passOthers 111 = .ok (.iload_n 3, 1) := by decide +kernel
theorem dX2_passOthers_112 : decode cX2_passOthers 112 = .ok (.aaload, 1) := by decide +kernel
theorem dX2_passOthers_113 : decode cX2_passOthers 113 = .ok (.iload_n 3, 1) := by decide +kernel
theorem dX2_passOthers_114 : decode cX2_passOthers 114 = .ok (.iconst 1, 1) := by decide +kernel
theorem dX2_passOthers_115 : decode cX2_passOthers 115 = .ok (.iadd, 1) := by decide +kernel
theorem dX2_passOthers_116 : decode cX2_passOthers 116 = .ok (.invokevirtual 122, 3) := by decide +kernel
theorem dX2_passOthers_119 : decode cX2_passOthers 119 = .ok (.ifCond .ne 5, 3) := by decide +kernel
theorem dX2_passOthers_122 : decode cX2_passOthers 122 = .ok (.iconst 0, 1) := by decide +kernel
theorem dX2_passOthers_123 : decode cX2_passOthers 123 = .ok (.ireturn, 1) := by decide +kernel
theorem dX2_passOthers_124 : decode cX2_passOthers 124 = .ok (.aload_n 0, 1) := by decide +kernel
theorem dX2_passOthers_125 : decode cX2_passOthers 125 = .ok (.getfield 33, 3) := by decide +kernel
theorem dX2_passOthers_128 : decode cX2_passOthers 128 = .ok (.iload_n 3, 1) := by decide +kernel
theorem dX2_passOthers_129 : decode cX2_passOthers 129 = .ok (.iconst 1, 1) := by decide +kernel
theorem dX2_passOthers_130 : decode cX2_passOthers 130 = .ok (.iadd, 1) := by decide +kernel
theorem dX2_passOthers_131 : decode cX2_passOthers 131 = .ok (.aaload, 1) := by decide +kernel
theorem dX2_passOthers_132 : decode cX2_passOthers 132 = .ok (.astore 6, 2) := by decide +kernel
theorem dX2_passOthers_134 : decode cX2_passOthers 134 = .ok (.aload_n 0, 1) := by decide +kernel
theorem dX2_passOthers_135 : decode cX2_passOthers 135 = .ok (.getfield 20, 3) := by decide +kernel
theorem dX2_passOthers_138 : decode cX2_passOthers 138 = .ok (.aload 6, 2) := by decide +kernel
theorem dX2_passOthers_140 : decode cX2_passOthers 140 = .ok (.aload_n 0, 1) := by decide +kernel
theorem dX2_passOthers_141 : decode cX2_passOthers 141 = .ok (.getfield 11, 3) := by decide +kernel
theorem dX2_passOthers_144 : decode cX2_passOthers 144 = .ok (.aload_n 0, 1) := by decide +kernel
theorem dX2_passOthers_145 : decode cX2_passOthers 145 = .ok (.getfield 54, 3) := by decide +kernel
theorem dX2_passOthers_148 : decode cX2_passOthers 148 = .ok (.aaload, 1) := by decide +kernel
theorem dX2_passOthers_149 : decode cX2_passOthers 149 = .ok (.getfield 91, 3) := by decide +kernel
theorem dX2_passOthers_152 : decode cX2_passOthers 152 = .ok (.invokevirtual 126, 3) := by decide +kernel
theorem dX2_passOthers_155 : decode cX2_passOthers 155 = .ok (.aload 6, 2) := by decide +kernel
theorem dX2_passOthers_157 : decode cX2_passOthers 157 = .ok (.aload_n 0, 1) := by decide +kernel
theorem dX2_passOthers_158 : decode cX2_passOthers 158 = .ok (.getfield 11, 3) := by decide +kernel
theorem dX2_passOthers_161 : decode cX2_passOthers 161 = .ok (.iload 5, 2) := by decide +kernel
theorem dX2_passOthers_163 : decode cX2_passOthers 163 = .ok (.aaload, 1) := by decide +kernel
theorem dX2_passOthers_164 : decode cX2_passOthers 164 = .ok (.getfield 91, 3) := by decide +kernel
theorem dX2_passOthers_167 : decode cX2_passOthers 167 = .ok (.invokevirtual 94, 3) := by decide +kernel
theorem dX2_passOthers_170 : decode cX2_passOthers 170 = .ok (.ifCond .ne 12, 3) := by decide +kernel
theorem dX2_passOthers_173 : decode cX2_passOthers 173 = .ok (.aload_n 0, 1) := by decide +kernel
theorem dX2_passOthers_174 : decode cX2_passOthers 174 = .ok (.iconst 4, 1) := by decide +kernel
theorem dX2_passOthers_175 : decode cX2_passOthers 175 = .ok (.iload 5, 2) := by decide +kernel
theorem dX2_passOthers_177 : decode cX2_passOthers 177 = .ok (.iload_n 2, 1) := by decide +kernel
theorem dX2_passOthers_178 : decode cX2_passOthers 178 = .ok (.invokevirtual 98, 3) := by decide +kernel
theorem dX2_passOthers_181 : decode cX2_passOthers 181 = .ok (.ireturn, 1) := by decide +kernel
theorem dX2_passOthers_182 : decode cX2_passOthers 182 = .ok (.aload_n 0, 1) := by decide +kernel
theorem dX2_passOthers_183 : decode cX2_passOthers 183 = .ok (.getfield 20, 3) := by decide +kernel
theorem dX2_passOthers_186 : decode cX2_passOthers 186 = .ok (.aload_n 0, 1) := by decide +kernel
theorem dX2_passOthers_187 : decode cX2_passOthers 187 = .ok (.getfield 33, 3) := by decide +kernel
theorem dX2_passOthers_190 : decode cX2_passOthers 190 = .ok (.iload_n 3, 1) := by decide +kernel
theorem dX2_passOthers_191 : decode cX2_passOthers 191 = .ok (.aaload, 1) := by decide +kernel
theorem dX2_passOthers_192 : decode cX2_passOthers 192 = .ok (.aload 4, 2) := by decide +kernel
theorem dX2_passOthers_194 : decode cX2_passOthers 194 = .ok (.invokevirtual 130, 3) := by decide +kernel
theorem dX2_passOthers_197 : decode cX2_passOthers 197 = .ok (.iconst 1, 1) := by decide +kernel
theorem dX2_passOthers_198 : decode cX2_passOthers 198 = .ok (.ireturn, 1) := by decide +kernel
set_option maxRecDepth 20000 in
theorem ggX2_helperNamed_X3_isSameAs : GoodIn wsX2_helperNamed wsX3_isSameAs := goodIn_r _ [8, 9, 10, 27, 28] rfl (by decide +kernel)
set_option maxRecDepth 20000 in
theorem gX2_helperNamed_X3_isSameAs : GoodIn wsX2_helperNamed (wsV RX2 94 RX3 yX3_isSameAs wsX3_isSameAs) := goodIn_app (goodIn_of _ (by decide +kernel)) ggX2_helperNamed_X3_isSameAs
theorem dX2_helperNamed_0 : decode cX2_helperNamed 0 = .ok (.iconst 0, 1) := by decide +kernel
theorem dX2_helperNamed_1 : decode cX2_helperNamed 1 = .ok (.istore_n 2, 1) := by decide +kernel
theorem dX2_helperNamed_2 : decode cX2_helperNamed 2 = .ok (.iload_n 2, 1) := by decide +kernel
theorem dX2_helperNamed_3 : decode cX2_helperNamed 3 = .ok (.bipush 8, 2) := by decide +kernel
theorem dX2_helperNamed_5 : decode cX2_helperNamed 5 = .ok (.if_icmp .ge 39, 3) := by decide +kernel
theorem dX2_helperNamed_8 : decode cX2_helperNamed 8 = .ok (.aload_n 0, 1) := by decide +kernel
theorem dX2_helperNamed_9 : decode cX2_helperNamed 9 = .ok (.getfield 57, 3) := by decide +kernel
theorem dX2_helperNamed_12 : decode cX2_helperNamed 12 = .ok (.iload_n 2, 1) := by decide +kernel
theorem dX2_helperNamed_13 : decode cX2_helperNamed 13 = .ok (.ishr, 1) := by decide +kernel
theorem dX2_helperNamed_14 : decode cX2_helperNamed 14 = .ok (.iconst 1, 1) := by decide +kernel
theorem dX2_helperNamed_15 : decode cX2_helperNamed 15 = .ok (.iand, 1) := by decide +kernel
theorem dX2_helperNamed_16 : decode cX2_helperNamed 16 = .ok (.iconst 1, 1) := by decide +kernel
theorem dX2_helperNamed_17 : decode cX2_helperNamed 17 = .ok (.if_icmp .ne 21, 3) := by decide +kernel
theorem dX2_helperNamed_20 : decode cX2_helperNamed 20 = .ok (.aload_n 0, 1) := by decide +kernel
theorem dX2_helperNamed_21 : decode cX2_helperNamed 21 = .ok (.getfield 11, 3) := by decide +kernel
theorem dX2_helperNamed_24 : decode cX2_helperNamed 24 = .ok (.iload_n 2, 1) := by decide +kernel
theorem dX2_helperNamed_25 : decode cX2_helperNamed 25 = .ok (.aaload, 1) := by decide +kernel
theorem dX2_helperNamed_26 : decode cX2_helperNamed 26 = .ok (.getfield 63, 3) := by decide +kernel
theorem dX2_helperNamed_29 : decode cX2_helperNamed 29 = .ok (.aload_n 1, 1) := by decide +kernel
theorem dX2_helperNamed_30 : decode cX2_helperNamed 30 = .ok (.invokevirtual 94, 3) := by decide +kernel
theorem dX2_helperNamed_33 : decode cX2_helperNamed 33 = .ok (.ifCond .eq 5, 3) := by decide +kernel
theorem dX2_helperNamed_36 : decode cX2_helperNamed 36 = .ok (.iload_n 2, 1) := by decide +kernel
theorem dX2_helperNamed_37 : decode cX2_helperNamed 37 = .ok (.ireturn, 1) := by decide +kernel
theorem dX2_helperNamed_38 : decode cX2_helperNamed 38 = .ok (.iinc 2 1, 3) := by decide +kernel
theorem dX2_helperNamed_41 : decode cX2_helperNamed 41 = .ok (.goto (-39), 3) := by decide +kernel
theorem dX2_helperNamed_44 : decode cX2_helperNamed 44 = .ok (.iconst (-1), 1) := by decide +kernel
theorem dX2_helperNamed_45 : decode cX2_helperNamed 45 = .ok (.ireturn, 1) := by decide +kernel
theorem dX2_stopAt_0 : decode cX2_stopAt 0 = .ok (.aload_n 0, 1) := by decide +kernel
theorem dX2_stopAt_1 : decode cX2_stopAt 1 = .ok (.iload_n 1, 1) := by decide +kernel
theorem dX2_stopAt_2 : decode cX2_stopAt 2 = .ok (.putfield 60, 3) := by decide +kernel
theorem dX2_stopAt_5 : decode cX2_stopAt 5 = .ok (.aload_n 0, 1) := by decide +kernel
theorem dX2_stopAt_6 : decode cX2_stopAt 6 = .ok (.iload_n 2, 1) := by decide +kernel
theorem dX2_stopAt_7 : decode cX2_stopAt 7 = .ok (.putfield 40, 3) := by decide +kernel
theorem dX2_stopAt_10 : decode cX2_stopAt 10 = .ok (.aload_n 0, 1) := by decide +kernel
theorem dX2_stopAt_11 : decode cX2_stopAt 11 = .ok (.iload_n 3, 1) := by decide +kernel
theorem dX2_stopAt_12 : decode cX2_stopAt 12 = .ok (.putfield 44, 3) := by decide +kernel
theorem dX2_stopAt_15 : decode cX2_stopAt 15 = .ok (.iconst 0, 1) := by decide +kernel
theorem dX2_stopAt_16 : decode cX2_stopAt 16 = .ok (.ireturn, 1) := by decide +kernel
