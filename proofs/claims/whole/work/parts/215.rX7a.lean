set_option maxRecDepth 20000 in
theorem ggX7_init_X2_init : GoodIn wsX7_init wsX2_init := goodIn_r _ [32, 33, 2, 3, 34, 35, 36, 37, 38, 39, 40, 41, 42, 43, 44, 45, 46, 47, 48, 49, 15, 16, 28, 29, 50, 51, 52, 53, 54, 55, 56, 57, 58, 59, 60, 61, 62, 63, 64, 65, 66, 67, 68, 69, 70, 71, 72, 73, 74, 75, 76, 77, 78, 79, 80, 81, 82, 83, 84, 85, 86, 87, 88, 89, 90, 91, 92, 93, 94, 95, 96, 97, 98, 99, 100, 101, 102, 121, 122, 123, 124, 125, 126, 127, 128, 129, 130, 131, 145, 146, 147, 148, 149, 150, 151, 152, 153, 141, 142, 136, 137, 138, 139, 140, 143, 144, 154, 155] rfl (by decide +kernel)
set_option maxRecDepth 20000 in
theorem gX7_init_X2_init : GoodIn wsX7_init (wsX2_init) := ggX7_init_X2_init
set_option maxRecDepth 20000 in
theorem ggX7_init_X5_init : GoodIn wsX7_init wsX5_init := goodIn_r _ [104, 105, 2, 3, 106, 28, 29, 107, 108, 109, 66, 67, 68, 69, 70, 71, 72, 54, 73, 143, 144, 132, 133, 134, 135] rfl (by decide +kernel)
set_option maxRecDepth 20000 in
theorem gX7_init_X5_init_n24 : GoodIn wsX7_init (wsX5_init) := ggX7_init_X5_init
set_option maxRecDepth 20000 in
theorem ggX7_init_X6_init : GoodIn wsX7_init wsX6_init := goodIn_r _ [85, 86, 2, 3, 87, 28, 29, 88, 89, 90, 91, 92, 93, 94, 66, 67, 68, 69, 70, 71, 72, 54, 73, 95, 96, 97, 98, 99, 100, 101, 143, 144, 136, 137, 138, 139, 140, 154, 155] rfl (by decide +kernel)
set_option maxRecDepth 20000 in
theorem gX7_init_X6_init : GoodIn wsX7_init (wsX6_init) := ggX7_init_X6_init
set_option maxRecDepth 20000 in
theorem ggX7_init_X3_init : GoodIn wsX7_init wsX3_init := goodIn_r _ [67, 68, 2, 3, 69, 70, 71, 72, 54, 73, 143, 144] rfl (by decide +kernel)
set_option maxRecDepth 20000 in
theorem gX7_init_X3_init : GoodIn wsX7_init (wsX3_init) := ggX7_init_X3_init
theorem dX7_init_0 : decode cX7_init 0 = .ok (.aload_n 0, 1) := by decide +kernel
theorem dX7_init_1 : decode cX7_init 1 = .ok (.invokespecial 1, 3) := by decide +kernel
theorem dX7_init_4 : decode cX7_init 4 = .ok (.aload_n 0, 1) := by decide +kernel
theorem dX7_init_5 : decode cX7_init 5 = .ok (.bipush 8, 2) := by decide +kernel
theorem dX7_init_7 : decode cX7_init 7 = .ok (.anewarray 9, 3) := by decide +kernel
theorem dX7_init_10 : decode cX7_init 10 = .ok (.putfield 11, 3) := by decide +kernel
theorem dX7_init_13 : decode cX7_init 13 = .ok (.aload_n 0, 1) := by decide +kernel
theorem dX7_init_14 : decode cX7_init 14 = .ok (.new 15, 3) := by decide +kernel
theorem dX7_init_17 : decode cX7_init 17 = .ok (.dup, 1) := by decide +kernel
theorem dX7_init_18 : decode cX7_init 18 = .ok (.invokespecial 17, 3) := by decide +kernel
theorem dX7_init_21 : decode cX7_init 21 = .ok (.putfield 18, 3) := by decide +kernel
theorem dX7_init_24 : decode cX7_init 24 = .ok (.aload_n 0, 1) := by decide +kernel
theorem dX7_init_25 : decode cX7_init 25 = .ok (.new 22, 3) := by decide +kernel
theorem dX7_init_28 : decode cX7_init 28 = .ok (.dup, 1) := by decide +kernel
theorem dX7_init_29 : decode cX7_init 29 = .ok (.invokespecial 24, 3) := by decide +kernel
theorem dX7_init_32 : decode cX7_init 32 = .ok (.putfield 25, 3) := by decide +kernel
theorem dX7_init_35 : decode cX7_init 35 = .ok (.aload_n 0, 1) := by decide +kernel
theorem dX7_init_36 : decode cX7_init 36 = .ok (.new 29, 3) := by decide +kernel
theorem dX7_init_39 : decode cX7_init 39 = .ok (.dup, 1) := by decide +kernel
theorem dX7_init_40 : decode cX7_init 40 = .ok (.invokespecial 31, 3) := by decide +kernel
theorem dX7_init_43 : decode cX7_init 43 = .ok (.putfield 32, 3) := by decide +kernel
theorem dX7_init_46 : decode cX7_init 46 = .ok (.aload_n 0, 1) := by decide +kernel
theorem dX7_init_47 : decode cX7_init 47 = .ok (.aload_n 0, 1) := by decide +kernel
theorem dX7_init_48 : decode cX7_init 48 = .ok (.getfield 18, 3) := by decide +kernel
theorem dX7_init_51 : decode cX7_init 51 = .ok (.getfield 36, 3) := by decide +kernel
theorem dX7_init_54 : decode cX7_init 54 = .ok (.putfield 40, 3) := by decide +kernel
theorem dX7_init_57 : decode cX7_init 57 = .ok (.aload_n 0, 1) := by decide +kernel
theorem dX7_init_58 : decode cX7_init 58 = .ok (.aload_n 0, 1) := by decide +kernel
theorem dX7_init_59 : decode cX7_init 59 = .ok (.getfield 18, 3) := by decide +kernel
theorem dX7_init_62 : decode cX7_init 62 = .ok (.getfield 41, 3) := by decide +kernel
theorem dX7_init_65 : decode cX7_init 65 = .ok (.putfield 45, 3) := by decide +kernel
theorem dX7_init_68 : decode cX7_init 68 = .ok (.aload_n 0, 1) := by decide +kernel
theorem dX7_init_69 : decode cX7_init 69 = .ok (.aload_n 0, 1) := by decide +kernel
theorem dX7_init_70 : decode cX7_init 70 = .ok (.getfield 18, 3) := by decide +kernel
theorem dX7_init_73 : decode cX7_init 73 = .ok (.getfield 46, 3) := by decide +kernel
theorem dX7_init_76 : decode cX7_init 76 = .ok (.putfield 50, 3) := by decide +kernel
theorem dX7_init_79 : decode cX7_init 79 = .ok (.aload_n 0, 1) := by decide +kernel
theorem dX7_init_80 : decode cX7_init 80 = .ok (.aload_n 0, 1) := by decide +kernel
theorem dX7_init_81 : decode cX7_init 81 = .ok (.getfield 50, 3) := by decide +kernel
theorem dX7_init_84 : decode cX7_init 84 = .ok (.getfield 51, 3) := by decide +kernel
theorem dX7_init_87 : decode cX7_init 87 = .ok (.putfield 57, 3) := by decide +kernel
theorem dX7_init_90 : decode cX7_init 90 = .ok (.aload_n 0, 1) := by decide +kernel
theorem dX7_init_91 : decode cX7_init 91 = .ok (.aload_n 0, 1) := by decide +kernel
theorem dX7_init_92 : decode cX7_init 92 = .ok (.getfield 25, 3) := by decide +kernel
theorem dX7_init_95 : decode cX7_init 95 = .ok (.getfield 58, 3) := by decide +kernel
theorem dX7_init_98 : decode cX7_init 98 = .ok (.putfield 62, 3) := by decide +kernel
theorem dX7_init_101 : decode cX7_init 101 = .ok (.iconst 0, 1) := by decide +kernel
theorem dX7_init_102 : decode cX7_init 102 = .ok (.istore_n 1, 1) := by decide +kernel
theorem dX7_init_103 : decode cX7_init 103 = .ok (.iload_n 1, 1) := by decide +kernel
theorem dX7_init_104 : decode cX7_init 104 = .ok (.bipush 8, 2) := by decide +kernel
theorem dX7_init_106 : decode cX7_init 106 = .ok (.if_icmp .ge 24, 3) := by decide +kernel
theorem dX7_init_109 : decode cX7_init 109 = .ok (.aload_n 0, 1) := by decide +kernel
theorem dX7_init_110 : decode cX7_init 110 = .ok (.getfield 11, 3) := by decide +kernel
theorem dX7_init_113 : decode cX7_init 113 = .ok (.iload_n 1, 1) := by decide +kernel
theorem dX7_init_114 : decode cX7_init 114 = .ok (.new 9, 3) := by decide +kernel
theorem dX7_init_117 : decode cX7_init 117 = .ok (.dup, 1) := by decide +kernel
theorem dX7_init_118 : decode cX7_init 118 = .ok (.bipush 100, 2) := by decide +kernel
theorem dX7_init_120 : decode cX7_init 120 = .ok (.invokespecial 65, 3) := by decide +kernel
theorem dX7_init_123 : decode cX7_init 123 = .ok (.aastore, 1) := by decide +kernel
theorem dX7_init_124 : decode cX7_init 124 = .ok (.iinc 1 1, 3) := by decide +kernel
theorem dX7_init_127 : decode cX7_init 127 = .ok (.goto (-24), 3) := by decide +kernel
theorem dX7_init_130 : decode cX7_init 130 = .ok (.return_, 1) := by decide +kernel
set_option maxRecDepth 20000 in
theorem ggX7_add_X7_isRegister : GoodIn wsX7_add wsX7_isRegister := goodIn_r _ [5] rfl (by decide +kernel)
set_option maxRecDepth 20000 in
theorem gX7_add_X7_isRegister : GoodIn wsX7_add (va_wsS RX7 68 yX7_isRegister wsX7_isRegister) := goodIn_app (goodIn_of _ (by decide +kernel)) ggX7_add_X7_isRegister
set_option maxRecDepth 20000 in
theorem ggX7_add_X7_isWidth : GoodIn wsX7_add wsX7_isWidth := goodIn_r _ [8] rfl (by decide +kernel)
set_option maxRecDepth 20000 in
theorem gX7_add_X7_isWidth : GoodIn wsX7_add (va_wsS RX7 72 yX7_isWidth wsX7_isWidth) := goodIn_app (goodIn_of _ (by decide +kernel)) ggX7_add_X7_isWidth
set_option maxRecDepth 20000 in
theorem ggX7_add_X7_pushLowest : GoodIn wsX7_add wsX7_pushLowest := goodIn_r _ [11, 12, 13, 14, 15, 16, 17, 18, 19, 20, 21, 22, 23, 33, 34] rfl (by decide +kernel)
set_option maxRecDepth 20000 in
theorem gX7_add_X7_pushLowest : GoodIn wsX7_add (va_wsS RX7 75 yX7_pushLowest wsX7_pushLowest) := goodIn_app (goodIn_of _ (by decide +kernel)) ggX7_add_X7_pushLowest
theorem dX7_add_0 : decode cX7_add 0 = .ok (.iload_n 1, 1) := by decide +kernel
theorem dX7_add_1 : decode cX7_add 1 = .ok (.invokestatic 68, 3) := by decide +kernel
theorem dX7_add_4 : decode cX7_add 4 = .ok (.ifCond .eq 10, 3) := by decide +kernel
theorem dX7_add_7 : decode cX7_add 7 = .ok (.iload_n 2, 1) := by decide +kernel
theorem dX7_add_8 : decode cX7_add 8 = .ok (.invokestatic 72, 3) := by decide +kernel
theorem dX7_add_11 : decode cX7_add 11 = .ok (.ifCond .ne 6, 3) := by decide +kernel
theorem dX7_add_14 : decode cX7_add 14 = .ok (.bipush (-2), 2) := by decide +kernel
theorem dX7_add_16 : decode cX7_add 16 = .ok (.ireturn, 1) := by decide +kernel
theorem dX7_add_17 : decode cX7_add 17 = .ok (.aload_n 0, 1) := by decide +kernel
theorem dX7_add_18 : decode cX7_add 18 = .ok (.getfield 11, 3) := by decide +kernel
theorem dX7_add_21 : decode cX7_add 21 = .ok (.iload_n 1, 1) := by decide +kernel
theorem dX7_add_22 : decode cX7_add 22 = .ok (.aaload, 1) := by decide +kernel
theorem dX7_add_23 : decode cX7_add 23 = .ok (.iload_n 2, 1) := by decide +kernel
theorem dX7_add_24 : decode cX7_add 24 = .ok (.lload_n 3, 1) := by decide +kernel
theorem dX7_add_25 : decode cX7_add 25 = .ok (.invokestatic 75, 3) := by decide +kernel
theorem dX7_add_28 : decode cX7_add 28 = .ok (.ireturn, 1) := by decide +kernel
set_option maxRecDepth 20000 in
theorem ggX7_clear_X7_isRegister : GoodIn wsX7_clear wsX7_isRegister := goodIn_r _ [6] rfl (by decide +kernel)
set_option maxRecDepth 20000 in
theorem gX7_clear_X7_isRegister : GoodIn wsX7_clear (va_wsS RX7 68 yX7_isRegister wsX7_isRegister) := goodIn_app (goodIn_of _ (by decide +kernel)) ggX7_clear_X7_isRegister
set_option maxRecDepth 20000 in
theorem ggX7_clear_X3_makeEmpty : GoodIn wsX7_clear wsX3_makeEmpty := goodIn_r _ [11, 12, 22, 23] rfl (by decide +kernel)
set_option maxRecDepth 20000 in
theorem gX7_clear_X3_makeEmpty : GoodIn wsX7_clear (wsV RX7 83 RX3 yX3_makeEmpty wsX3_makeEmpty) := goodIn_app (goodIn_of _ (by decide +kernel)) ggX7_clear_X3_makeEmpty
theorem dX7_clear_0 : decode cX7_clear 0 = .ok (.iload_n 1, 1) := by decide +kernel
theorem dX7_clear_1 : decode cX7_clear 1 = .ok (.invokestatic 68, 3) := by decide +kernel
theorem dX7_clear_4 : decode cX7_clear 4 = .ok (.ifCond .ne 6, 3) := by decide +kernel
theorem dX7_clear_7 : decode cX7_clear 7 = .ok (.bipush (-2), 2) := by decide +kernel
theorem dX7_clear_9 : decode cX7_clear 9 = .ok (.ireturn, 1) := by decide +kernel
theorem dX7_clear_10 : decode cX7_clear 10 = .ok (.aload_n 0, 1) := by decide +kernel
theorem dX7_clear_11 : decode cX7_clear 11 = .ok (.getfield 11, 3) := by decide +kernel
theorem dX7_clear_14 : decode cX7_clear 14 = .ok (.iload_n 1, 1) := by decide +kernel
theorem dX7_clear_15 : decode cX7_clear 15 = .ok (.aaload, 1) := by decide +kernel
theorem dX7_clear_16 : decode cX7_clear 16 = .ok (.getfield 79, 3) := by decide +kernel
theorem dX7_clear_19 : decode cX7_clear 19 = .ok (.istore_n 2, 1) := by decide +kernel
theorem dX7_clear_20 : decode cX7_clear 20 = .ok (.aload_n 0, 1) := by decide +kernel
theorem dX7_clear_21 : decode cX7_clear 21 = .ok (.getfield 11, 3) := by decide +kernel
theorem dX7_clear_24 : decode cX7_clear 24 = .ok (.iload_n 1, 1) := by decide +kernel
theorem dX7_clear_25 : decode cX7_clear 25 = .ok (.aaload, 1) := by decide +kernel
theorem dX7_clear_26 : decode cX7_clear 26 = .ok (.invokevirtual 83, 3) := by decide +kernel
theorem dX7_clear_29 : decode cX7_clear 29 = .ok (.iload_n 2, 1) := by decide +kernel
theorem dX7_clear_30 : decode cX7_clear 30 = .ok (.ireturn, 1) := by decide +kernel
set_option maxRecDepth 20000 in
theorem ggX7_at_X7_isRegister : GoodIn wsX7_at wsX7_isRegister := goodIn_r _ [5] rfl (by decide +kernel)
set_option maxRecDepth 20000 in
theorem gX7_at_X7_isRegister : GoodIn wsX7_at (va_wsS RX7 68 yX7_isRegister wsX7_isRegister) := goodIn_app (goodIn_of _ (by decide +kernel)) ggX7_at_X7_isRegister
set_option maxRecDepth 20000 in
theorem ggX7_at_X3_byteAt : GoodIn wsX7_at wsX3_byteAt := goodIn_r _ [10, 11, 12, 22, 23] rfl (by decide +kernel)
set_option maxRecDepth 20000 in
theorem gX7_at_X3_byteAt : GoodIn wsX7_at (wsV RX7 86 RX3 yX3_byteAt wsX3_byteAt) := goodIn_app (goodIn_of _ (by decide +kernel)) ggX7_at_X3_byteAt
theorem dX7_at_0 : decode cX7_at 0 = .ok (.iload_n 1, 1) := by decide +kernel
theorem dX7_at_1 : decode cX7_at 1 = .ok (.invokestatic 68, 3) := by decide +kernel
theorem dX7_at_4 : decode cX7_at 4 = .ok (.ifCond .eq 16, 3) := by decide +kernel
theorem dX7_at_7 : decode cX7_at 7 = .ok (.aload_n 0, 1) := by decide +kernel
theorem dX7_at_8 : decode cX7_at 8 = .ok (.getfield 11, 3) := by decide +kernel
theorem dX7_at_11 : decode cX7_at 11 = .ok (.iload_n 1, 1) := by decide +kernel
theorem dX7_at_12 : decode cX7_at 12 = .ok (.aaload, 1) := by decide +kernel
theorem dX7_at_13 : decode cX7_at 13 = .ok (.iload_n 2, 1) := by decide +kernel
theorem dX7_at_14 : decode cX7_at 14 = .ok (.invokevirtual 86, 3) := by decide +kernel
theorem dX7_at_17 : decode cX7_at 17 = .ok (.goto 5, 3) := by decide +kernel
theorem dX7_at_20 : decode cX7_at 20 = .ok (.bipush (-2), 2) := by decide +kernel
theorem dX7_at_22 : decode cX7_at 22 = .ok (.ireturn, 1) := by decide +kernel
set_option maxRecDepth 20000 in
theorem ggX7_hash_X7_isRegister : GoodIn wsX7_hash wsX7_isRegister := goodIn_r _ [7] rfl (by decide +kernel)
set_option maxRecDepth 20000 in
theorem gX7_hash_X7_isRegister : GoodIn wsX7_hash (va_wsS RX7 68 yX7_isRegister wsX7_isRegister) := goodIn_app (goodIn_of _ (by decide +kernel)) ggX7_hash_X7_isRegister
set_option maxRecDepth 20000 in
theorem ggX7_hash_X4_hashInto : GoodIn wsX7_hash wsX4_hashInto := goodIn_r _ [12, 13, 14, 15, 16, 17, 18, 19, 20, 21, 22, 23, 24, 25, 26, 27, 28, 29, 30, 31, 11, 32, 33, 34, 35, 36, 37, 38, 39, 40, 41, 42, 43, 44, 45, 46, 47, 48, 49, 50, 51, 52, 53, 54, 55, 56, 57, 58, 59, 60, 61, 62, 63, 75, 76, 77, 78, 79, 80, 81, 82, 83, 73, 74] rfl (by decide +kernel)
set_option maxRecDepth 20000 in
theorem gX7_hash_X4_hashInto : GoodIn wsX7_hash (wsV RX7 90 RX4 yX4_hashInto wsX4_hashInto) := goodIn_app (goodIn_of _ (by decide +kernel)) ggX7_hash_X4_hashInto
theorem dX7_hash_0 : decode cX7_hash 0 = .ok (.iload_n 1, 1) := by decide +kernel
theorem dX7_hash_1 : decode cX7_hash 1 = .ok (.invokestatic 68, 3) := by decide +kernel
theorem dX7_hash_4 : decode cX7_hash 4 = .ok (.ifCond .eq 10, 3) := by decide +kernel
theorem dX7_hash_7 : decode cX7_hash 7 = .ok (.iload_n 2, 1) := by decide +kernel
theorem dX7_hash_8 : decode cX7_hash 8 = .ok (.invokestatic 68, 3) := by decide +kernel
theorem dX7_hash_11 : decode cX7_hash 11 = .ok (.ifCond .ne 6, 3) := by decide +kernel
theorem dX7_hash_14 : decode cX7_hash 14 = .ok (.bipush (-2), 2) := by decide +kernel
theorem dX7_hash_16 : decode cX7_hash 16 = .ok (.ireturn, 1) := by decide +kernel
theorem dX7_hash_17 : decode cX7_hash 17 = .ok (.aload_n 0, 1) := by decide +kernel
theorem dX7_hash_18 : decode cX7_hash 18 = .ok (.getfield 45, 3) := by decide +kernel
theorem dX7_hash_21 : decode cX7_hash 21 = .ok (.aload_n 0, 1) := by decide +kernel
theorem dX7_hash_22 : decode cX7_hash 22 = .ok (.getfield 11, 3) := by decide +kernel
theorem dX7_hash_25 : decode cX7_hash 25 = .ok (.iload_n 1, 1) := by decide +kernel
theorem dX7_hash_26 : decode cX7_hash 26 = .ok (.aaload, 1) := by decide +kernel
theorem dX7_hash_27 : decode cX7_hash 27 = .ok (.aload_n 0, 1) := by decide +kernel
theorem dX7_hash_28 : decode cX7_hash 28 = .ok (.getfield 11, 3) := by decide +kernel
theorem dX7_hash_31 : decode cX7_hash 31 = .ok (.iload_n 2, 1) := by decide +kernel
theorem dX7_hash_32 : decode cX7_hash 32 = .ok (.aaload, 1) := by decide +kernel
theorem dX7_hash_33 : decode cX7_hash 33 = .ok (.invokevirtual 90, 3) := by decide +kernel
theorem dX7_hash_36 : decode cX7_hash 36 = .ok (.aload_n 0, 1) := by decide +kernel
theorem dX7_hash_37 : decode cX7_hash 37 = .ok (.getfield 11, 3) := by decide +kernel
theorem dX7_hash_40 : decode cX7_hash 40 = .ok (.iload_n 1, 1) := by decide +kernel
theorem dX7_hash_41 : decode cX7_hash 41 = .ok (.aaload, 1) := by decide +kernel
theorem dX7_hash_42 : decode cX7_hash 42 = .ok (.getfield 79, 3) := by decide +kernel
theorem dX7_hash_45 : decode cX7_hash 45 = .ok (.ireturn, 1) := by decide +kernel
set_option maxRecDepth 20000 in
theorem ggX7_seal_X7_isRegister : GoodIn wsX7_seal wsX7_isRegister := goodIn_r _ [7] rfl (by decide +kernel)
set_option maxRecDepth 20000 in
theorem gX7_seal_X7_isRegister : GoodIn wsX7_seal (va_wsS RX7 68 yX7_isRegister wsX7_isRegister) := goodIn_app (goodIn_of _ (by decide +kernel)) ggX7_seal_X7_isRegister
set_option maxRecDepth 20000 in
theorem ggX7_seal_X4_sealInto : GoodIn wsX7_seal wsX4_sealInto := goodIn_r _ [12, 13, 14, 15, 16, 17, 18, 19, 20, 21, 22, 23, 24, 25, 26, 27, 28, 29, 30, 31, 32, 33, 34, 11, 35, 36, 37, 38, 39, 40, 41, 42, 43, 44, 45, 46, 47, 48, 49, 50, 51, 52, 53, 54, 55, 56, 57, 58, 59, 60, 61, 62, 63, 64, 65, 66, 67, 68, 69, 70, 71, 72, 73, 74, 75, 76, 77, 87, 88, 89, 90, 91, 92, 93, 94, 95, 96, 97] rfl (by decide +kernel)
set_option maxRecDepth 20000 in
theorem gX7_seal_X4_sealInto : GoodIn wsX7_seal (wsV RX7 96 RX4 yX4_sealInto wsX4_sealInto) := goodIn_app (goodIn_of _ (by decide +kernel)) ggX7_seal_X4_sealInto
theorem dX7_seal_0 : decode cX7_seal 0 = .ok (.iload_n 1, 1) := by decide +kernel
theorem dX7_seal_1 : decode cX7_seal 1 = .ok (.invokestatic 68, 3) := by decide +kernel
theorem dX7_seal_4 : decode cX7_seal 4 = .ok (.ifCond .eq 17, 3) := by decide +kernel
theorem dX7_seal_7 : decode cX7_seal 7 = .ok (.iload_n 2, 1) := by decide +kernel
theorem dX7_seal_8 : decode cX7_seal 8 = .ok (.invokestatic 68, 3) := by decide +kernel
theorem dX7_seal_11 : decode cX7_seal 11 = .ok (.ifCond .eq 10, 3) := by decide +kernel
theorem dX7_seal_14 : decode cX7_seal 14 = .ok (.iload_n 3, 1) := by decide +kernel
theorem dX7_seal_15 : decode cX7_seal 15 = .ok (.invokestatic 68, 3) := by decide +kernel
theorem dX7_seal_18 : decode cX7_seal 18 = .ok (.ifCond .ne 6, 3) := by decide +kernel
theorem dX7_seal_21 : decode cX7_seal 21 = .ok (.bipush (-2), 2) := by decide +kernel
theorem dX7_seal_23 : decode cX7_seal 23 = .ok (.ireturn, 1) := by decide +kernel
theorem dX7_seal_24 : decode cX7_seal 24 = .ok (.aload_n 0, 1) := by decide +kernel
theorem dX7_seal_25 : decode cX7_seal 25 = .ok (.getfield 45, 3) := by decide +kernel
theorem dX7_seal_28 : decode cX7_seal 28 = .ok (.aload_n 0, 1) := by decide +kernel
theorem dX7_seal_29 : decode cX7_seal 29 = .ok (.getfield 11, 3) := by decide +kernel
theorem dX7_seal_32 : decode cX7_seal 32 = .ok (.iload_n 1, 1) := by decide +kernel
theorem dX7_seal_33 : decode cX7_seal 33 = .ok (.aaload, 1) := by decide +kernel
theorem dX7_seal_34 : decode cX7_seal 34 = .ok (.aload_n 0, 1) := by decide +kernel
theorem dX7_seal_35 : decode cX7_seal 35 = .ok (.getfield 11, 3) := by decide +kernel
theorem dX7_seal_38 : decode cX7_seal 38 = .ok (.iload_n 2, 1) := by decide +kernel
theorem dX7_seal_39 : decode cX7_seal 39 = .ok (.aaload, 1) := by decide +kernel
theorem dX7_seal_40 : decode cX7_seal 40 = .ok (.aload_n 0, 1) := by decide +kernel
theorem dX7_seal_41 : decode cX7_seal 41 = .ok (.getfield 11, 3) := by decide +kernel
theorem dX7_seal_44 : decode cX7_seal 44 = .ok (.iload_n 3, 1) := by decide +kernel
theorem dX7_seal_45 : decode cX7_seal 45 = .ok (.aaload, 1) := by decide +kernel
theorem dX7_seal_46 : decode cX7_seal 46 = .ok (.invokevirtual 96, 3) := by decide +kernel
theorem dX7_seal_49 : decode cX7_seal 49 = .ok (.aload_n 0, 1) := by decide +kernel
theorem dX7_seal_50 : decode cX7_seal 50 = .ok (.getfield 11, 3) := by decide +kernel
theorem dX7_seal_53 : decode cX7_seal 53 = .ok (.iload_n 1, 1) := by decide +kernel
theorem dX7_seal_54 : decode cX7_seal 54 = .ok (.aaload, 1) := by decide +kernel
theorem dX7_seal_55 : decode cX7_seal 55 = .ok (.getfield 79, 3) := by decide +kernel
theorem dX7_seal_58 : decode cX7_seal 58 = .ok (.ireturn, 1) := by decide +kernel
set_option maxRecDepth 20000 in
theorem ggX7_make_X7_isTokenNumber : GoodIn wsX7_make wsX7_isTokenNumber := goodIn_r _ [12] rfl (by decide +kernel)
set_option maxRecDepth 20000 in
theorem gX7_make_X7_isTokenNumber : GoodIn wsX7_make (va_wsS RX7 100 yX7_isTokenNumber wsX7_isTokenNumber) := goodIn_app (goodIn_of _ (by decide +kernel)) ggX7_make_X7_isTokenNumber
set_option maxRecDepth 20000 in
theorem ggX7_make_X7_isRegister : GoodIn wsX7_make wsX7_isRegister := goodIn_r _ [15] rfl (by decide +kernel)
set_option maxRecDepth 20000 in
theorem gX7_make_X7_isRegister : GoodIn wsX7_make (va_wsS RX7 68 yX7_isRegister wsX7_isRegister) := goodIn_app (goodIn_of _ (by decide +kernel)) ggX7_make_X7_isRegister
set_option maxRecDepth 20000 in
theorem ggX7_make_X7_isWordingLength : GoodIn wsX7_make wsX7_isWordingLength := goodIn_r _ [18] rfl (by decide +kernel)
set_option maxRecDepth 20000 in
theorem gX7_make_X7_isWordingLength : GoodIn wsX7_make (va_wsS RX7 103 yX7_isWordingLength wsX7_isWordingLength) := goodIn_app (goodIn_of _ (by decide +kernel)) ggX7_make_X7_isWordingLength
set_option maxRecDepth 20000 in
theorem ggX7_make_X3_takeOver : GoodIn wsX7_make wsX3_takeOver := goodIn_r _ [23, 24, 25, 26, 27, 22, 28, 29, 30, 31, 32, 33, 99, 100] rfl (by decide +kernel)
set_option maxRecDepth 20000 in
theorem gX7_make_X3_takeOver : GoodIn wsX7_make (wsV RX7 116 RX3 yX3_takeOver wsX3_takeOver) := goodIn_app (goodIn_of _ (by decide +kernel)) ggX7_make_X3_takeOver
set_option maxRecDepth 20000 in
theorem ggX7_make_X4_sealInto : GoodIn wsX7_make wsX4_sealInto := goodIn_r _ [38, 39, 40, 41, 42, 43, 20, 21, 22, 23, 24, 25, 26, 27, 28, 29, 30, 31, 32, 33, 44, 45, 46, 37, 47, 48, 49, 50, 51, 52, 53, 54, 55, 56, 57, 58, 59, 60, 61, 62, 63, 64, 65, 66, 67, 68, 69, 70, 71, 72, 73, 74, 75, 76, 77, 78, 79, 80, 81, 82, 83, 84, 85, 86, 87, 88, 89, 99, 100, 106, 107, 108, 109, 110, 111, 112, 113, 114] rfl (by decide +kernel)
set_option maxRecDepth 20000 in
theorem gX7_make_X4_sealInto : GoodIn wsX7_make (wsV RX7 96 RX4 yX4_sealInto wsX4_sealInto) := goodIn_app (goodIn_of _ (by decide +kernel)) ggX7_make_X4_sealInto
theorem dX7_make_0 : decode cX7_make 0 = .ok (.iload_n 1, 1) := by decide +kernel
theorem dX7_make_1 : decode cX7_make 1 = .ok (.invokestatic 100, 3) := by decide +kernel
theorem dX7_make_4 : decode cX7_make 4 = .ok (.ifCond .eq 17, 3) := by decide +kernel
theorem dX7_make_7 : decode cX7_make 7 = .ok (.iload_n 2, 1) := by decide +kernel
theorem dX7_make_8 : decode cX7_make 8 = .ok (.invokestatic 68, 3) := by decide +kernel
theorem dX7_make_11 : decode cX7_make 11 = .ok (.ifCond .eq 10, 3) := by decide +kernel
theorem dX7_make_14 : decode cX7_make 14 = .ok (.iload_n 3, 1) := by decide +kernel
theorem dX7_make_15 : decode cX7_make 15 = .ok (.invokestatic 68, 3) := by decide +kernel
theorem dX7_make_18 : decode cX7_make 18 = .ok (.ifCond .ne 6, 3) := by decide +kernel
theorem dX7_make_21 : decode cX7_make 21 = .ok (.bipush (-2), 2) := by decide +kernel
theorem dX7_make_23 : decode cX7_make 23 = .ok (.ireturn, 1) := by decide +kernel
theorem dX7_make_24 : decode cX7_make 24 = .ok (.aload_n 0, 1) := by decide +kernel
theorem dX7_make_25 : decode cX7_make 25 = .ok (.getfield 11, 3) := by decide +kernel
theorem dX7_make_28 : decode cX7_make 28 = .ok (.iload_n 3, 1) := by decide +kernel
theorem dX7_make_29 : decode cX7_make 29 = .ok (.aaload, 1) := by decide +kernel
theorem dX7_make_30 : decode cX7_make 30 = .ok (.getfield 79, 3) := by decide +kernel
theorem dX7_make_33 : decode cX7_make 33 = .ok (.invokestatic 103, 3) := by decide +kernel
theorem dX7_make_36 : decode cX7_make 36 = .ok (.ifCond .ne 6, 3) := by decide +kernel
theorem dX7_make_39 : decode cX7_make 39 = .ok (.bipush (-3), 2) := by decide +kernel
theorem dX7_make_41 : decode cX7_make 41 = .ok (.ireturn, 1) := by decide +kernel
theorem dX7_make_42 : decode cX7_make 42 = .ok (.aload_n 0, 1) := by decide +kernel
theorem dX7_make_43 : decode cX7_make 43 = .ok (.getfield 40, 3) := by decide +kernel
theorem dX7_make_46 : decode cX7_make 46 = .ok (.iload_n 1, 1) := by decide +kernel
theorem dX7_make_47 : decode cX7_make 47 = .ok (.aaload, 1) := by decide +kernel
theorem dX7_make_48 : decode cX7_make 48 = .ok (.astore 4, 2) := by decide +kernel
theorem dX7_make_50 : decode cX7_make 50 = .ok (.aload 4, 2) := by decide +kernel
theorem dX7_make_52 : decode cX7_make 52 = .ok (.iconst 1, 1) := by decide +kernel
theorem dX7_make_53 : decode cX7_make 53 = .ok (.putfield 106, 3) := by decide +kernel
theorem dX7_make_56 : decode cX7_make 56 = .ok (.aload 4, 2) := by decide +kernel
theorem dX7_make_58 : decode cX7_make 58 = .ok (.iconst 0, 1) := by decide +kernel
theorem dX7_make_59 : decode cX7_make 59 = .ok (.putfield 110, 3) := by decide +kernel
theorem dX7_make_62 : decode cX7_make 62 = .ok (.aload 4, 2) := by decide +kernel
theorem dX7_make_64 : decode cX7_make 64 = .ok (.getfield 113, 3) := by decide +kernel
theorem dX7_make_67 : decode cX7_make 67 = .ok (.aload_n 0, 1) := by decide +kernel
theorem dX7_make_68 : decode cX7_make 68 = .ok (.getfield 11, 3) := by decide +kernel
theorem dX7_make_71 : decode cX7_make 71 = .ok (.iload_n 3, 1) := by decide +kernel
theorem dX7_make_72 : decode cX7_make 72 = .ok (.aaload, 1) := by decide +kernel
theorem dX7_make_73 : decode cX7_make 73 = .ok (.invokevirtual 116, 3) := by decide +kernel
theorem dX7_make_76 : decode cX7_make 76 = .ok (.aload_n 0, 1) := by decide +kernel
theorem dX7_make_77 : decode cX7_make 77 = .ok (.getfield 45, 3) := by decide +kernel
theorem dX7_make_80 : decode cX7_make 80 = .ok (.aload 4, 2) := by decide +kernel
theorem dX7_make_82 : decode cX7_make 82 = .ok (.getfield 120, 3) := by decide +kernel
theorem dX7_make_85 : decode cX7_make 85 = .ok (.aload_n 0, 1) := by decide +kernel
theorem dX7_make_86 : decode cX7_make 86 = .ok (.getfield 11, 3) := by decide +kernel
theorem dX7_make_89 : decode cX7_make 89 = .ok (.iload_n 2, 1) := by decide +kernel
theorem dX7_make_90 : decode cX7_make 90 = .ok (.aaload, 1) := by decide +kernel
theorem dX7_make_91 : decode cX7_make 91 = .ok (.aload 4, 2) := by decide +kernel
theorem dX7_make_93 : decode cX7_make 93 = .ok (.getfield 113, 3) := by decide +kernel
theorem dX7_make_96 : decode cX7_make 96 = .ok (.invokevirtual 96, 3) := by decide +kernel
theorem dX7_make_99 : decode cX7_make 99 = .ok (.iconst 0, 1) := by decide +kernel
theorem dX7_make_100 : decode cX7_make 100 = .ok (.ireturn, 1) := by decide +kernel
set_option maxRecDepth 20000 in
theorem ggX7_limit_X7_isThere : GoodIn wsX7_limit wsX7_isThere := goodIn_r _ [14, 1, 15, 16, 17, 13, 18, 108, 109, 110, 111, 112, 113, 114, 115, 116, 119, 120, 121, 122, 123] rfl (by decide +kernel)
set_option maxRecDepth 20000 in
theorem gX7_limit_X7_isThere : GoodIn wsX7_limit (wsV RX7 123 RX7 yX7_isThere wsX7_isThere) := goodIn_app (goodIn_of _ (by decide +kernel)) ggX7_limit_X7_isThere
set_option maxRecDepth 20000 in
theorem ggX7_limit_X7_isRegister : GoodIn wsX7_limit wsX7_isRegister := goodIn_r _ [21] rfl (by decide +kernel)
set_option maxRecDepth 20000 in
theorem gX7_limit_X7_isRegister : GoodIn wsX7_limit (va_wsS RX7 68 yX7_isRegister wsX7_isRegister) := goodIn_app (goodIn_of _ (by decide +kernel)) ggX7_limit_X7_isRegister
set_option maxRecDepth 20000 in
theorem ggX7_limit_X7_isWordingLength : GoodIn wsX7_limit wsX7_isWordingLength := goodIn_r _ [24] rfl (by decide +kernel)
set_option maxRecDepth 20000 in
theorem gX7_limit_X7_isWordingLength : GoodIn wsX7_limit (va_wsS RX7 103 yX7_isWordingLength wsX7_isWordingLength) := goodIn_app (goodIn_of _ (by decide +kernel)) ggX7_limit_X7_isWordingLength
set_option maxRecDepth 20000 in
theorem ggX7_limit_X6_isFull : GoodIn wsX7_limit wsX6_isFull := goodIn_r _ [29, 30, 119, 120, 121, 122, 123] rfl (by decide +kernel)
set_option maxRecDepth 20000 in
theorem gX7_limit_X6_isFull : GoodIn wsX7_limit (wsV RX7 126 RX6 yX6_isFull wsX6_isFull) := goodIn_app (goodIn_of _ (by decide +kernel)) ggX7_limit_X6_isFull
set_option maxRecDepth 20000 in
theorem ggX7_limit_X3_takeOver : GoodIn wsX7_limit wsX3_takeOver := goodIn_r _ [35, 36, 37, 38, 39, 34, 40, 41, 42, 43, 44, 45, 117, 118] rfl (by decide +kernel)
set_option maxRecDepth 20000 in
theorem gX7_limit_X3_takeOver : GoodIn wsX7_limit (wsV RX7 116 RX3 yX3_takeOver wsX3_takeOver) := goodIn_app (goodIn_of _ (by decide +kernel)) ggX7_limit_X3_takeOver
set_option maxRecDepth 20000 in
theorem ggX7_limit_X3_makeEmpty : GoodIn wsX7_limit wsX3_makeEmpty := goodIn_r _ [49, 36, 117, 118] rfl (by decide +kernel)
set_option maxRecDepth 20000 in
theorem gX7_limit_X3_makeEmpty : GoodIn wsX7_limit (wsV RX7 83 RX3 yX3_makeEmpty wsX3_makeEmpty) := goodIn_app (goodIn_of _ (by decide +kernel)) ggX7_limit_X3_makeEmpty
set_option maxRecDepth 20000 in
theorem ggX7_limit_X4_goOnOwn : GoodIn wsX7_limit wsX4_goOnOwn := goodIn_r _ [54, 55, 56, 57, 58, 53, 59, 60, 61, 62, 63, 64, 32, 33, 34, 35, 36, 37, 38, 39, 40, 41, 42, 43, 44, 45, 65, 66, 67, 68, 69, 70, 71, 72, 73, 74, 75, 76, 77, 78, 79, 80, 81, 82, 83, 84, 85, 86, 87, 88, 89, 90, 91, 92, 93, 94, 95, 47, 48, 49, 96, 97, 98, 99, 100, 101, 102, 103, 104, 105, 106, 107, 124, 125, 117, 118, 126, 127, 128, 129, 130, 131, 132, 133, 134] rfl (by decide +kernel)
set_option maxRecDepth 20000 in
theorem gX7_limit_X4_goOnOwn : GoodIn wsX7_limit (wsV RX7 142 RX4 yX4_goOnOwn wsX4_goOnOwn) := goodIn_app (goodIn_of _ (by decide +kernel)) ggX7_limit_X4_goOnOwn
theorem dX7_limit_0 : decode cX7_limit 0 = .ok (.aload_n 0, 1) := by decide +kernel
theorem dX7_limit_1 : decode cX7_limit 1 = .ok (.iload_n 1, 1) := by decide +kernel
theorem dX7_limit_2 : decode cX7_limit 2 = .ok (.invokevirtual 123, 3) := by decide +kernel
theorem dX7_limit_5 : decode cX7_limit 5 = .ok (.ifCond .eq 10, 3) := by decide +kernel
theorem dX7_limit_8 : decode cX7_limit 8 = .ok (.iload_n 2, 1) := by decide +kernel
theorem dX7_limit_9 : decode cX7_limit 9 = .ok (.invokestatic 68, 3) := by decide +kernel
theorem dX7_limit_12 : decode cX7_limit 12 = .ok (.ifCond .ne 6, 3) := by decide +kernel
theorem dX7_limit_15 : decode cX7_limit 15 = .ok (.bipush (-2), 2) := by decide +kernel
theorem dX7_limit_17 : decode cX7_limit 17 = .ok (.ireturn, 1) := by decide +kernel
theorem dX7_limit_18 : decode cX7_limit 18 = .ok (.aload_n 0, 1) := by decide +kernel
theorem dX7_limit_19 : decode cX7_limit 19 = .ok (.getfield 40, 3) := by decide +kernel
theorem dX7_limit_22 : decode cX7_limit 22 = .ok (.iload_n 1, 1) := by decide +kernel
theorem dX7_limit_23 : decode cX7_limit 23 = .ok (.aaload, 1) := by decide +kernel
theorem dX7_limit_24 : decode cX7_limit 24 = .ok (.astore_n 3, 1) := by decide +kernel
theorem dX7_limit_25 : decode cX7_limit 25 = .ok (.aload_n 0, 1) := by decide +kernel
theorem dX7_limit_26 : decode cX7_limit 26 = .ok (.getfield 11, 3) := by decide +kernel
theorem dX7_limit_29 : decode cX7_limit 29 = .ok (.iload_n 2, 1) := by decide +kernel
theorem dX7_limit_30 : decode cX7_limit 30 = .ok (.aaload, 1) := by decide +kernel
theorem dX7_limit_31 : decode cX7_limit 31 = .ok (.getfield 79, 3) := by decide +kernel
theorem dX7_limit_34 : decode cX7_limit 34 = .ok (.invokestatic 103, 3) := by decide +kernel
theorem dX7_limit_37 : decode cX7_limit 37 = .ok (.ifCond .eq 10, 3) := by decide +kernel
theorem dX7_limit_40 : decode cX7_limit 40 = .ok (.aload_n 3, 1) := by decide +kernel
theorem dX7_limit_41 : decode cX7_limit 41 = .ok (.invokevirtual 126, 3) := by decide +kernel
theorem dX7_limit_44 : decode cX7_limit 44 = .ok (.ifCond .eq 6, 3) := by decide +kernel
theorem dX7_limit_47 : decode cX7_limit 47 = .ok (.bipush (-3), 2) := by decide +kernel
theorem dX7_limit_49 : decode cX7_limit 49 = .ok (.ireturn, 1) := by decide +kernel
theorem dX7_limit_50 : decode cX7_limit 50 = .ok (.aload_n 3, 1) := by decide +kernel
theorem dX7_limit_51 : decode cX7_limit 51 = .ok (.getfield 130, 3) := by decide +kernel
theorem dX7_limit_54 : decode cX7_limit 54 = .ok (.aload_n 3, 1) := by decide +kernel
theorem dX7_limit_55 : decode cX7_limit 55 = .ok (.getfield 110, 3) := by decide +kernel
theorem dX7_limit_58 : decode cX7_limit 58 = .ok (.aaload, 1) := by decide +kernel
theorem dX7_limit_59 : decode cX7_limit 59 = .ok (.astore 4, 2) := by decide +kernel
theorem dX7_limit_61 : decode cX7_limit 61 = .ok (.aload 4, 2) := by decide +kernel
theorem dX7_limit_63 : decode cX7_limit 63 = .ok (.getfield 134, 3) := by decide +kernel
theorem dX7_limit_66 : decode cX7_limit 66 = .ok (.aload_n 0, 1) := by decide +kernel
theorem dX7_limit_67 : decode cX7_limit 67 = .ok (.getfield 11, 3) := by decide +kernel
theorem dX7_limit_70 : decode cX7_limit 70 = .ok (.iload_n 2, 1) := by decide +kernel
theorem dX7_limit_71 : decode cX7_limit 71 = .ok (.aaload, 1) := by decide +kernel
theorem dX7_limit_72 : decode cX7_limit 72 = .ok (.invokevirtual 116, 3) := by decide +kernel
theorem dX7_limit_75 : decode cX7_limit 75 = .ok (.aload 4, 2) := by decide +kernel
theorem dX7_limit_77 : decode cX7_limit 77 = .ok (.getfield 139, 3) := by decide +kernel
theorem dX7_limit_80 : decode cX7_limit 80 = .ok (.invokevirtual 83, 3) := by decide +kernel
theorem dX7_limit_83 : decode cX7_limit 83 = .ok (.aload_n 0, 1) := by decide +kernel
theorem dX7_limit_84 : decode cX7_limit 84 = .ok (.getfield 45, 3) := by decide +kernel
theorem dX7_limit_87 : decode cX7_limit 87 = .ok (.aload_n 3, 1) := by decide +kernel
theorem dX7_limit_88 : decode cX7_limit 88 = .ok (.getfield 120, 3) := by decide +kernel
theorem dX7_limit_91 : decode cX7_limit 91 = .ok (.aload 4, 2) := by decide +kernel
theorem dX7_limit_93 : decode cX7_limit 93 = .ok (.invokevirtual 142, 3) := by decide +kernel
theorem dX7_limit_96 : decode cX7_limit 96 = .ok (.aload_n 3, 1) := by decide +kernel
theorem dX7_limit_97 : decode cX7_limit 97 = .ok (.dup, 1) := by decide +kernel
theorem dX7_limit_98 : decode cX7_limit 98 = .ok (.getfield 110, 3) := by decide +kernel
theorem dX7_limit_101 : decode cX7_limit 101 = .ok (.iconst 1, 1) := by decide +kernel
theorem dX7_limit_102 : decode cX7_limit 102 = .ok (.iadd, 1) := by decide +kernel
theorem dX7_limit_103 : decode cX7_limit 103 = .ok (.putfield 110, 3) := by decide +kernel
theorem dX7_limit_106 : decode cX7_limit 106 = .ok (.aload_n 3, 1) := by decide +kernel
theorem dX7_limit_107 : decode cX7_limit 107 = .ok (.getfield 110, 3) := by decide +kernel
theorem dX7_limit_110 : decode cX7_limit 110 = .ok (.ireturn, 1) := by decide +kernel
set_option maxRecDepth 20000 in
theorem ggX7_others_X7_isThere : GoodIn wsX7_others wsX7_isThere := goodIn_r _ [14, 1, 15, 16, 17, 13, 18, 123, 124, 125, 126, 127, 128, 129, 130, 131, 134, 135, 136, 137, 138] rfl (by decide +kernel)
set_option maxRecDepth 20000 in
theorem gX7_others_X7_isThere : GoodIn wsX7_others (wsV RX7 123 RX7 yX7_isThere wsX7_isThere) := goodIn_app (goodIn_of _ (by decide +kernel)) ggX7_others_X7_isThere
set_option maxRecDepth 20000 in
theorem ggX7_others_X7_isRegister : GoodIn wsX7_others wsX7_isRegister := goodIn_r _ [21] rfl (by decide +kernel)
set_option maxRecDepth 20000 in
theorem gX7_others_X7_isRegister : GoodIn wsX7_others (va_wsS RX7 68 yX7_isRegister wsX7_isRegister) := goodIn_app (goodIn_of _ (by decide +kernel)) ggX7_others_X7_isRegister
set_option maxRecDepth 20000 in
theorem ggX7_others_X7_isWordingLength : GoodIn wsX7_others wsX7_isWordingLength := goodIn_r _ [24] rfl (by decide +kernel)
set_option maxRecDepth 20000 in
theorem gX7_others_X7_isWordingLength : GoodIn wsX7_others (va_wsS RX7 103 yX7_isWordingLength wsX7_isWordingLength) := goodIn_app (goodIn_of _ (by decide +kernel)) ggX7_others_X7_isWordingLength
set_option maxRecDepth 20000 in
theorem ggX7_others_X6_isFull : GoodIn wsX7_others wsX6_isFull := goodIn_r _ [29, 30, 134, 135, 136, 137, 138] rfl (by decide +kernel)
set_option maxRecDepth 20000 in
theorem gX7_others_X6_isFull : GoodIn wsX7_others (wsV RX7 126 RX6 yX6_isFull wsX6_isFull) := goodIn_app (goodIn_of _ (by decide +kernel)) ggX7_others_X6_isFull
set_option maxRecDepth 20000 in
theorem ggX7_others_X3_takeOver : GoodIn wsX7_others wsX3_takeOver := goodIn_r _ [35, 36, 37, 38, 39, 34, 40, 41, 42, 43, 44, 45, 132, 133] rfl (by decide +kernel)
set_option maxRecDepth 20000 in
theorem gX7_others_X3_takeOver : GoodIn wsX7_others (wsV RX7 116 RX3 yX3_takeOver wsX3_takeOver) := goodIn_app (goodIn_of _ (by decide +kernel)) ggX7_others_X3_takeOver
set_option maxRecDepth 20000 in
theorem ggX7_others_X4_turnKey : GoodIn wsX7_others wsX4_turnKey := goodIn_r _ [50, 51, 52, 53, 54, 49, 55, 56, 57, 58, 59, 60, 32, 33, 34, 35, 36, 37, 38, 39, 40, 41, 42, 43, 44, 45, 61, 62, 63, 64, 65, 66, 67, 68, 69, 70, 71, 72, 73, 74, 75, 76, 77, 78, 79, 80, 81, 82, 83, 84, 85, 86, 87, 88, 89, 90, 91, 92, 93, 94, 95, 96, 97, 98, 99, 100, 101, 102, 103, 104, 105, 106, 107, 108, 109, 110, 111, 112, 113, 114, 141, 142, 143, 144, 145, 146, 147, 148, 149, 132, 133] rfl (by decide +kernel)
set_option maxRecDepth 20000 in
theorem gX7_others_X4_turnKey : GoodIn wsX7_others (wsV RX7 146 RX4 yX4_turnKey wsX4_turnKey) := goodIn_app (goodIn_of _ (by decide +kernel)) ggX7_others_X4_turnKey
set_option maxRecDepth 20000 in
theorem ggX7_others_X4_goOnOthers : GoodIn wsX7_others wsX4_goOnOthers := goodIn_r _ [118, 119, 120, 51, 121, 122, 52, 53, 54, 49, 55, 56, 57, 58, 59, 60, 32, 33, 34, 35, 36, 37, 38, 39, 40, 41, 42, 43, 44, 45, 61, 62, 63, 64, 65, 66, 67, 68, 69, 70, 71, 72, 73, 74, 75, 76, 77, 78, 79, 80, 81, 82, 83, 84, 85, 86, 87, 88, 89, 90, 91, 92, 93, 94, 95, 96, 97, 98, 99, 100, 101, 102, 103, 104, 105, 106, 141, 142, 143, 144, 145, 146, 147, 148, 149, 139, 140, 132, 133] rfl (by decide +kernel)
set_option maxRecDepth 20000 in
theorem gX7_others_X4_goOnOthers : GoodIn wsX7_others (wsV RX7 150 RX4 yX4_goOnOthers wsX4_goOnOthers) := goodIn_app (goodIn_of _ (by decide +kernel)) ggX7_others_X4_goOnOthers
theorem dX7_others_0 : decode cX7_others 0 = .ok (.aload_n 0, 1) := by decide +kernel
theorem dX7_others_1 : decode cX7_others 1 = .ok (.iload_n 1, 1) := by decide +kernel
theorem dX7_others_2 : decode cX7_others 2 = .ok (.invokevirtual 123, 3) := by decide +kernel
theorem dX7_others_5 : decode cX7_others 5 = .ok (.ifCond .eq 17, 3) := by decide +kernel
theorem dX7_others_8 : decode cX7_others 8 = .ok (.iload_n 2, 1) := by decide +kernel
theorem dX7_others_9 : decode cX7_others 9 = .ok (.invokestatic 68, 3) := by decide +kernel
theorem dX7_others_12 : decode cX7_others 12 = .ok (.ifCond .eq 10, 3) := by decide +kernel
theorem dX7_others_15 : decode cX7_others 15 = .ok (.iload_n 3, 1) := by decide +kernel
theorem dX7_others_16 : decode cX7_others 16 = .ok (.invokestatic 68, 3) := by decide +kernel
theorem dX7_others_19 : decode cX7_others 19 = .ok (.ifCond .ne 6, 3) := by decide +kernel
theorem dX7_others_22 : decode cX7_others 22 = .ok (.bipush (-2), 2) := by decide +kernel
theorem dX7_others_24 : decode cX7_others 24 = .ok (.ireturn, 1) := by decide +kernel
theorem dX7_others_25 : decode cX7_others 25 = .ok (.aload_n 0, 1) := by decide +kernel
theorem dX7_others_26 : decode cX7_others 26 = .ok (.getfield 40, 3) := by decide +kernel
theorem dX7_others_29 : decode cX7_others 29 = .ok (.iload_n 1, 1) := by decide +kernel
theorem dX7_others_30 : decode cX7_others 30 = .ok (.aaload, 1) := by decide +kernel
theorem dX7_others_31 : decode cX7_others 31 = .ok (.astore 4, 2) := by decide +kernel
theorem dX7_others_33 : decode cX7_others 33 = .ok (.aload_n 0, 1) := by decide +kernel
theorem dX7_others_34 : decode cX7_others 34 = .ok (.getfield 11, 3) := by decide +kernel
theorem dX7_others_37 : decode cX7_others 37 = .ok (.iload_n 3, 1) := by decide +kernel
theorem dX7_others_38 : decode cX7_others 38 = .ok (.aaload, 1) := by decide +kernel
theorem dX7_others_39 : decode cX7_others 39 = .ok (.getfield 79, 3) := by decide +kernel
theorem dX7_others_42 : decode cX7_others 42 = .ok (.invokestatic 103, 3) := by decide +kernel
theorem dX7_others_45 : decode cX7_others 45 = .ok (.ifCond .eq 25, 3) := by decide +kernel
theorem dX7_others_48 : decode cX7_others 48 = .ok (.aload 4, 2) := by decide +kernel
theorem dX7_others_50 : decode cX7_others 50 = .ok (.invokevirtual 126, 3) := by decide +kernel
theorem dX7_others_53 : decode cX7_others 53 = .ok (.ifCond .ne 17, 3) := by decide +kernel
theorem dX7_others_56 : decode cX7_others 56 = .ok (.aload_n 0, 1) := by decide +kernel
theorem dX7_others_57 : decode cX7_others 57 = .ok (.getfield 11, 3) := by decide +kernel
theorem dX7_others_60 : decode cX7_others 60 = .ok (.iload_n 2, 1) := by decide +kernel
theorem dX7_others_61 : decode cX7_others 61 = .ok (.aaload, 1) := by decide +kernel
theorem dX7_others_62 : decode cX7_others 62 = .ok (.getfield 79, 3) := by decide +kernel
theorem dX7_others_65 : decode cX7_others 65 = .ok (.bipush 32, 2) := by decide +kernel
theorem dX7_others_67 : decode cX7_others 67 = .ok (.if_icmp .eq 6, 3) := by decide +kernel
theorem dX7_others_70 : decode cX7_others 70 = .ok (.bipush (-3), 2) := by decide +kernel
theorem dX7_others_72 : decode cX7_others 72 = .ok (.ireturn, 1) := by decide +kernel
theorem dX7_others_73 : decode cX7_others 73 = .ok (.aload 4, 2) := by decide +kernel
theorem dX7_others_75 : decode cX7_others 75 = .ok (.getfield 130, 3) := by decide +kernel
theorem dX7_others_78 : decode cX7_others 78 = .ok (.aload 4, 2) := by decide +kernel
theorem dX7_others_80 : decode cX7_others 80 = .ok (.getfield 110, 3) := by decide +kernel
theorem dX7_others_83 : decode cX7_others 83 = .ok (.aaload, 1) := by decide +kernel
theorem dX7_others_84 : decode cX7_others 84 = .ok (.astore 5, 2) := by decide +kernel
theorem dX7_others_86 : decode cX7_others 86 = .ok (.aload 5, 2) := by decide +kernel
theorem dX7_others_88 : decode cX7_others 88 = .ok (.getfield 134, 3) := by decide +kernel
theorem dX7_others_91 : decode cX7_others 91 = .ok (.aload_n 0, 1) := by decide +kernel
theorem dX7_others_92 : decode cX7_others 92 = .ok (.getfield 11, 3) := by decide +kernel
theorem dX7_others_95 : decode cX7_others 95 = .ok (.iload_n 3, 1) := by decide +kernel
theorem dX7_others_96 : decode cX7_others 96 = .ok (.aaload, 1) := by decide +kernel
theorem dX7_others_97 : decode cX7_others 97 = .ok (.invokevirtual 116, 3) := by decide +kernel
theorem dX7_others_100 : decode cX7_others 100 = .ok (.aload_n 0, 1) := by decide +kernel
theorem dX7_others_101 : decode cX7_others 101 = .ok (.getfield 45, 3) := by decide +kernel
theorem dX7_others_104 : decode cX7_others 104 = .ok (.aload 5, 2) := by decide +kernel
theorem dX7_others_106 : decode cX7_others 106 = .ok (.getfield 139, 3) := by decide +kernel
theorem dX7_others_109 : decode cX7_others 109 = .ok (.aload_n 0, 1) := by decide +kernel
theorem dX7_others_110 : decode cX7_others 110 = .ok (.getfield 11, 3) := by decide +kernel
theorem dX7_others_113 : decode cX7_others 113 = .ok (.iload_n 2, 1) := by decide +kernel
theorem dX7_others_114 : decode cX7_others 114 = .ok (.aaload, 1) := by decide +kernel
theorem dX7_others_115 : decode cX7_others 115 = .ok (.aload 4, 2) := by decide +kernel
theorem dX7_others_117 : decode cX7_others 117 = .ok (.getfield 120, 3) := by decide +kernel
theorem dX7_others_120 : decode cX7_others 120 = .ok (.aload 5, 2) := by decide +kernel
theorem dX7_others_122 : decode cX7_others 122 = .ok (.getfield 134, 3) := by decide +kernel
theorem dX7_others_125 : decode cX7_others 125 = .ok (.invokevirtual 146, 3) := by decide +kernel
theorem dX7_others_128 : decode cX7_others 128 = .ok (.aload_n 0, 1) := by decide +kernel
theorem dX7_others_129 : decode cX7_others 129 = .ok (.getfield 45, 3) := by decide +kernel
theorem dX7_others_132 : decode cX7_others 132 = .ok (.aload 4, 2) := by decide +kernel
theorem dX7_others_134 : decode cX7_others 134 = .ok (.getfield 120, 3) := by decide +kernel
theorem dX7_others_137 : decode cX7_others 137 = .ok (.aload 5, 2) := by decide +kernel
theorem dX7_others_139 : decode cX7_others 139 = .ok (.invokevirtual 150, 3) := by decide +kernel
theorem dX7_others_142 : decode cX7_others 142 = .ok (.aload 4, 2) := by decide +kernel
theorem dX7_others_144 : decode cX7_others 144 = .ok (.dup, 1) := by decide +kernel
theorem dX7_others_145 : decode cX7_others 145 = .ok (.getfield 110, 3) := by decide +kernel
theorem dX7_others_148 : decode cX7_others 148 = .ok (.iconst 1, 1) := by decide +kernel
theorem dX7_others_149 : decode cX7_others 149 = .ok (.iadd, 1) := by decide +kernel
theorem dX7_others_150 : decode cX7_others 150 = .ok (.putfield 110, 3) := by decide +kernel
theorem dX7_others_153 : decode cX7_others 153 = .ok (.aload 4, 2) := by decide +kernel
theorem dX7_others_155 : decode cX7_others 155 = .ok (.getfield 110, 3) := by decide +kernel
theorem dX7_others_158 : decode cX7_others 158 = .ok (.ireturn, 1) := by decide +kernel
set_option maxRecDepth 20000 in
theorem ggX7_bind_X7_isThere : GoodIn wsX7_bind wsX7_isThere := goodIn_r _ [8, 2, 9, 10, 11, 7, 12, 89, 90, 91, 92, 93, 94, 95, 96, 97, 98, 99, 100, 101, 102] rfl (by decide +kernel)
set_option maxRecDepth 20000 in
theorem gX7_bind_X7_isThere : GoodIn wsX7_bind (wsV RX7 123 RX7 yX7_isThere wsX7_isThere) := goodIn_app (goodIn_of _ (by decide +kernel)) ggX7_bind_X7_isThere
set_option maxRecDepth 20000 in
theorem ggX7_bind_X4_bindSign : GoodIn wsX7_bind wsX4_bindSign := goodIn_r _ [17, 18, 19, 20, 21, 22, 23, 24, 25, 26, 27, 28, 29, 30, 31, 32, 33, 34, 35, 36, 37, 38, 39, 40, 41, 16, 42, 43, 44, 45, 46, 47, 48, 49, 50, 51, 52, 53, 54, 55, 56, 57, 58, 59, 60, 61, 62, 63, 64, 65, 66, 67, 68, 69, 70, 71, 72, 73, 74, 75, 76, 77, 78, 79, 80, 81, 82, 83, 84, 85, 86, 87, 88, 103, 104, 105, 106, 107, 108, 109, 110, 111, 112, 113] rfl (by decide +kernel)
set_option maxRecDepth 20000 in
theorem gX7_bind_X4_bindSign : GoodIn wsX7_bind (wsV RX7 153 RX4 yX4_bindSign wsX4_bindSign) := goodIn_app (goodIn_of _ (by decide +kernel)) ggX7_bind_X4_bindSign
theorem dX7_bind_0 : decode cX7_bind 0 = .ok (.aload_n 0, 1) := by decide +kernel
theorem dX7_bind_1 : decode cX7_bind 1 = .ok (.iload_n 1, 1) := by decide +kernel
theorem dX7_bind_2 : decode cX7_bind 2 = .ok (.invokevirtual 123, 3) := by decide +kernel
theorem dX7_bind_5 : decode cX7_bind 5 = .ok (.ifCond .eq 11, 3) := by decide +kernel
theorem dX7_bind_8 : decode cX7_bind 8 = .ok (.aload_n 0, 1) := by decide +kernel
theorem dX7_bind_9 : decode cX7_bind 9 = .ok (.iload_n 2, 1) := by decide +kernel
theorem dX7_bind_10 : decode cX7_bind 10 = .ok (.invokevirtual 123, 3) := by decide +kernel
theorem dX7_bind_13 : decode cX7_bind 13 = .ok (.ifCond .ne 6, 3) := by decide +kernel
theorem dX7_bind_16 : decode cX7_bind 16 = .ok (.bipush (-2), 2) := by decide +kernel
theorem dX7_bind_18 : decode cX7_bind 18 = .ok (.ireturn, 1) := by decide +kernel
theorem dX7_bind_19 : decode cX7_bind 19 = .ok (.aload_n 0, 1) := by decide +kernel
theorem dX7_bind_20 : decode cX7_bind 20 = .ok (.getfield 45, 3) := by decide +kernel
theorem dX7_bind_23 : decode cX7_bind 23 = .ok (.aload_n 0, 1) := by decide +kernel
theorem dX7_bind_24 : decode cX7_bind 24 = .ok (.getfield 40, 3) := by decide +kernel
theorem dX7_bind_27 : decode cX7_bind 27 = .ok (.iload_n 1, 1) := by decide +kernel
theorem dX7_bind_28 : decode cX7_bind 28 = .ok (.aaload, 1) := by decide +kernel
theorem dX7_bind_29 : decode cX7_bind 29 = .ok (.getfield 120, 3) := by decide +kernel
theorem dX7_bind_32 : decode cX7_bind 32 = .ok (.aload_n 0, 1) := by decide +kernel
theorem dX7_bind_33 : decode cX7_bind 33 = .ok (.getfield 40, 3) := by decide +kernel
theorem dX7_bind_36 : decode cX7_bind 36 = .ok (.iload_n 2, 1) := by decide +kernel
theorem dX7_bind_37 : decode cX7_bind 37 = .ok (.aaload, 1) := by decide +kernel
theorem dX7_bind_38 : decode cX7_bind 38 = .ok (.getfield 120, 3) := by decide +kernel
theorem dX7_bind_41 : decode cX7_bind 41 = .ok (.invokevirtual 153, 3) := by decide +kernel
theorem dX7_bind_44 : decode cX7_bind 44 = .ok (.iconst 0, 1) := by decide +kernel
theorem dX7_bind_45 : decode cX7_bind 45 = .ok (.ireturn, 1) := by decide +kernel
set_option maxRecDepth 20000 in
theorem ggX7_copy_X7_isThere : GoodIn wsX7_copy wsX7_isThere := goodIn_r _ [7, 1, 8, 9, 10, 6, 11, 45, 46, 47, 48, 49, 50, 51, 52, 53, 54, 55, 56, 57, 58] rfl (by decide +kernel)
set_option maxRecDepth 20000 in
theorem gX7_copy_X7_isThere : GoodIn wsX7_copy (wsV RX7 123 RX7 yX7_isThere wsX7_isThere) := goodIn_app (goodIn_of _ (by decide +kernel)) ggX7_copy_X7_isThere
set_option maxRecDepth 20000 in
theorem ggX7_copy_X7_isTokenNumber : GoodIn wsX7_copy wsX7_isTokenNumber := goodIn_r _ [11] rfl (by decide +kernel)
