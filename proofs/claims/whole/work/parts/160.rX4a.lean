set_option maxRecDepth 20000 in
theorem ggX4_init_X3_init : GoodIn wsX4_init wsX3_init := goodIn_r _ [19, 20, 2, 3, 21, 22, 23, 24, 4, 25, 40, 41] rfl (by decide +kernel)
set_option maxRecDepth 20000 in
theorem gX4_init_X3_init : GoodIn wsX4_init (wsX3_init) := ggX4_init_X3_init
set_option maxRecDepth 20000 in
theorem ggX4_init_X3_pushZeros : GoodIn wsX4_init wsX3_pushZeros := goodIn_r _ [29, 30, 25, 40, 41] rfl (by decide +kernel)
set_option maxRecDepth 20000 in
theorem gX4_init_X3_pushZeros : GoodIn wsX4_init (wsV RX4 45 RX3 yX3_pushZeros wsX3_pushZeros) := goodIn_app (goodIn_of _ (by decide +kernel)) ggX4_init_X3_pushZeros
theorem dX4_init_0 : decode cX4_init 0 = .ok (.aload_n 0, 1) := by decide +kernel
theorem dX4_init_1 : decode cX4_init 1 = .ok (.invokespecial 5, 3) := by decide +kernel
theorem dX4_init_4 : decode cX4_init 4 = .ok (.aload_n 0, 1) := by decide +kernel
theorem dX4_init_5 : decode cX4_init 5 = .ok (.bipush 8, 2) := by decide +kernel
theorem dX4_init_7 : decode cX4_init 7 = .ok (.newarray .int, 2) := by decide +kernel
theorem dX4_init_9 : decode cX4_init 9 = .ok (.putfield 11, 3) := by decide +kernel
theorem dX4_init_12 : decode cX4_init 12 = .ok (.aload_n 0, 1) := by decide +kernel
theorem dX4_init_13 : decode cX4_init 13 = .ok (.bipush 64, 2) := by decide +kernel
theorem dX4_init_15 : decode cX4_init 15 = .ok (.newarray .int, 2) := by decide +kernel
theorem dX4_init_17 : decode cX4_init 17 = .ok (.putfield 15, 3) := by decide +kernel
theorem dX4_init_20 : decode cX4_init 20 = .ok (.aload_n 0, 1) := by decide +kernel
theorem dX4_init_21 : decode cX4_init 21 = .ok (.new 18, 3) := by decide +kernel
theorem dX4_init_24 : decode cX4_init 24 = .ok (.dup, 1) := by decide +kernel
theorem dX4_init_25 : decode cX4_init 25 = .ok (.sipush 256, 3) := by decide +kernel
theorem dX4_init_28 : decode cX4_init 28 = .ok (.invokespecial 20, 3) := by decide +kernel
theorem dX4_init_31 : decode cX4_init 31 = .ok (.putfield 23, 3) := by decide +kernel
theorem dX4_init_34 : decode cX4_init 34 = .ok (.aload_n 0, 1) := by decide +kernel
theorem dX4_init_35 : decode cX4_init 35 = .ok (.new 18, 3) := by decide +kernel
theorem dX4_init_38 : decode cX4_init 38 = .ok (.dup, 1) := by decide +kernel
theorem dX4_init_39 : decode cX4_init 39 = .ok (.bipush 64, 2) := by decide +kernel
theorem dX4_init_41 : decode cX4_init 41 = .ok (.invokespecial 20, 3) := by decide +kernel
theorem dX4_init_44 : decode cX4_init 44 = .ok (.putfield 27, 3) := by decide +kernel
theorem dX4_init_47 : decode cX4_init 47 = .ok (.aload_n 0, 1) := by decide +kernel
theorem dX4_init_48 : decode cX4_init 48 = .ok (.new 18, 3) := by decide +kernel
theorem dX4_init_51 : decode cX4_init 51 = .ok (.dup, 1) := by decide +kernel
theorem dX4_init_52 : decode cX4_init 52 = .ok (.bipush 32, 2) := by decide +kernel
theorem dX4_init_54 : decode cX4_init 54 = .ok (.invokespecial 20, 3) := by decide +kernel
theorem dX4_init_57 : decode cX4_init 57 = .ok (.putfield 30, 3) := by decide +kernel
theorem dX4_init_60 : decode cX4_init 60 = .ok (.aload_n 0, 1) := by decide +kernel
theorem dX4_init_61 : decode cX4_init 61 = .ok (.new 18, 3) := by decide +kernel
theorem dX4_init_64 : decode cX4_init 64 = .ok (.dup, 1) := by decide +kernel
theorem dX4_init_65 : decode cX4_init 65 = .ok (.bipush 64, 2) := by decide +kernel
theorem dX4_init_67 : decode cX4_init 67 = .ok (.invokespecial 20, 3) := by decide +kernel
theorem dX4_init_70 : decode cX4_init 70 = .ok (.putfield 33, 3) := by decide +kernel
theorem dX4_init_73 : decode cX4_init 73 = .ok (.aload_n 0, 1) := by decide +kernel
theorem dX4_init_74 : decode cX4_init 74 = .ok (.new 18, 3) := by decide +kernel
theorem dX4_init_77 : decode cX4_init 77 = .ok (.dup, 1) := by decide +kernel
theorem dX4_init_78 : decode cX4_init 78 = .ok (.bipush 32, 2) := by decide +kernel
theorem dX4_init_80 : decode cX4_init 80 = .ok (.invokespecial 20, 3) := by decide +kernel
theorem dX4_init_83 : decode cX4_init 83 = .ok (.putfield 36, 3) := by decide +kernel
theorem dX4_init_86 : decode cX4_init 86 = .ok (.aload_n 0, 1) := by decide +kernel
theorem dX4_init_87 : decode cX4_init 87 = .ok (.new 18, 3) := by decide +kernel
theorem dX4_init_90 : decode cX4_init 90 = .ok (.dup, 1) := by decide +kernel
theorem dX4_init_91 : decode cX4_init 91 = .ok (.bipush 32, 2) := by decide +kernel
theorem dX4_init_93 : decode cX4_init 93 = .ok (.invokespecial 20, 3) := by decide +kernel
theorem dX4_init_96 : decode cX4_init 96 = .ok (.putfield 39, 3) := by decide +kernel
theorem dX4_init_99 : decode cX4_init 99 = .ok (.aload_n 0, 1) := by decide +kernel
theorem dX4_init_100 : decode cX4_init 100 = .ok (.new 18, 3) := by decide +kernel
theorem dX4_init_103 : decode cX4_init 103 = .ok (.dup, 1) := by decide +kernel
theorem dX4_init_104 : decode cX4_init 104 = .ok (.bipush 32, 2) := by decide +kernel
theorem dX4_init_106 : decode cX4_init 106 = .ok (.invokespecial 20, 3) := by decide +kernel
theorem dX4_init_109 : decode cX4_init 109 = .ok (.putfield 42, 3) := by decide +kernel
theorem dX4_init_112 : decode cX4_init 112 = .ok (.aload_n 0, 1) := by decide +kernel
theorem dX4_init_113 : decode cX4_init 113 = .ok (.getfield 42, 3) := by decide +kernel
theorem dX4_init_116 : decode cX4_init 116 = .ok (.bipush 32, 2) := by decide +kernel
theorem dX4_init_118 : decode cX4_init 118 = .ok (.invokevirtual 45, 3) := by decide +kernel
theorem dX4_init_121 : decode cX4_init 121 = .ok (.return_, 1) := by decide +kernel
set_option maxRecDepth 20000 in
theorem ggX4_hashInto_X3_takeOver : GoodIn wsX4_hashInto wsX3_takeOver := goodIn_r _ [6, 7, 8, 9, 10, 5, 11, 12, 13, 14, 15, 16, 62, 63] rfl (by decide +kernel)
set_option maxRecDepth 20000 in
theorem gX4_hashInto_X3_takeOver : GoodIn wsX4_hashInto (wsV RX4 48 RX3 yX3_takeOver wsX3_takeOver) := goodIn_app (goodIn_of _ (by decide +kernel)) ggX4_hashInto_X3_takeOver
set_option maxRecDepth 20000 in
theorem ggX4_hashInto_X4_hashWork : GoodIn wsX4_hashInto wsX4_hashWork := goodIn_r _ [21, 1, 22, 23, 24, 25, 14, 15, 16, 26, 27, 28, 5, 29, 7, 12, 30, 31, 32, 33, 34, 35, 36, 37, 38, 39, 40, 20, 41, 42, 43, 44, 45, 46, 47, 48, 49, 50, 51, 52, 53, 54, 55, 56, 57, 58, 59, 60, 61, 62, 63] rfl (by decide +kernel)
set_option maxRecDepth 20000 in
theorem gX4_hashInto_X4_hashWork : GoodIn wsX4_hashInto (wsV RX4 52 RX4 yX4_hashWork wsX4_hashWork) := goodIn_app (goodIn_of _ (by decide +kernel)) ggX4_hashInto_X4_hashWork
theorem dX4_hashInto_0 : decode cX4_hashInto 0 = .ok (.aload_n 0, 1) := by decide +kernel
theorem dX4_hashInto_1 : decode cX4_hashInto 1 = .ok (.getfield 23, 3) := by decide +kernel
theorem dX4_hashInto_4 : decode cX4_hashInto 4 = .ok (.aload_n 2, 1) := by decide +kernel
theorem dX4_hashInto_5 : decode cX4_hashInto 5 = .ok (.invokevirtual 48, 3) := by decide +kernel
theorem dX4_hashInto_8 : decode cX4_hashInto 8 = .ok (.aload_n 0, 1) := by decide +kernel
theorem dX4_hashInto_9 : decode cX4_hashInto 9 = .ok (.aload_n 1, 1) := by decide +kernel
theorem dX4_hashInto_10 : decode cX4_hashInto 10 = .ok (.invokevirtual 52, 3) := by decide +kernel
theorem dX4_hashInto_13 : decode cX4_hashInto 13 = .ok (.return_, 1) := by decide +kernel
set_option maxRecDepth 20000 in
theorem ggX4_sealInto_X3_takeOver : GoodIn wsX4_sealInto wsX3_takeOver := goodIn_r _ [9, 10, 11, 12, 13, 8, 14, 15, 16, 17, 18, 19, 67, 68] rfl (by decide +kernel)
set_option maxRecDepth 20000 in
theorem gX4_sealInto_X3_takeOver : GoodIn wsX4_sealInto (wsV RX4 48 RX3 yX3_takeOver wsX3_takeOver) := goodIn_app (goodIn_of _ (by decide +kernel)) ggX4_sealInto_X3_takeOver
set_option maxRecDepth 20000 in
theorem ggX4_sealInto_X4_hashWork : GoodIn wsX4_sealInto wsX4_hashWork := goodIn_r _ [24, 2, 1, 25, 26, 27, 17, 18, 19, 28, 29, 30, 8, 31, 10, 15, 32, 33, 34, 35, 36, 37, 38, 39, 40, 41, 42, 23, 43, 44, 45, 46, 47, 48, 49, 50, 51, 52, 53, 54, 69, 70, 71, 72, 73, 74, 75, 76, 77, 67, 68] rfl (by decide +kernel)
set_option maxRecDepth 20000 in
theorem gX4_sealInto_X4_hashWork : GoodIn wsX4_sealInto (wsV RX4 52 RX4 yX4_hashWork wsX4_hashWork) := goodIn_app (goodIn_of _ (by decide +kernel)) ggX4_sealInto_X4_hashWork
set_option maxRecDepth 20000 in
theorem ggX4_sealInto_X3_pushZeros : GoodIn wsX4_sealInto wsX3_pushZeros := goodIn_r _ [35, 10, 15, 67, 68] rfl (by decide +kernel)
set_option maxRecDepth 20000 in
theorem gX4_sealInto_X3_pushZeros : GoodIn wsX4_sealInto (wsV RX4 45 RX3 yX3_pushZeros wsX3_pushZeros) := goodIn_app (goodIn_of _ (by decide +kernel)) ggX4_sealInto_X3_pushZeros
set_option maxRecDepth 20000 in
theorem ggX4_sealInto_X4_startWork : GoodIn wsX4_sealInto wsX4_startWork := goodIn_r _ [58, 2, 3, 1, 51, 52, 53, 8, 54, 10, 59, 60, 61, 62, 15, 28, 29, 30, 31, 69, 70, 71, 72, 73, 74, 75, 76, 77, 67, 68] rfl (by decide +kernel)
set_option maxRecDepth 20000 in
theorem gX4_sealInto_X4_startWork : GoodIn wsX4_sealInto (wsV RX4 59 RX4 yX4_startWork wsX4_startWork) := goodIn_app (goodIn_of _ (by decide +kernel)) ggX4_sealInto_X4_startWork
set_option maxRecDepth 20000 in
theorem ggX4_sealInto_X3_pushAll : GoodIn wsX4_sealInto wsX3_pushAll := goodIn_r _ [66, 10, 11, 12, 13, 8, 14, 15, 16, 17, 18, 19, 67, 68] rfl (by decide +kernel)
set_option maxRecDepth 20000 in
theorem gX4_sealInto_X3_pushAll : GoodIn wsX4_sealInto (wsV RX4 62 RX3 yX3_pushAll wsX3_pushAll) := goodIn_app (goodIn_of _ (by decide +kernel)) ggX4_sealInto_X3_pushAll
theorem dX4_sealInto_0 : decode cX4_sealInto 0 = .ok (.aload_n 2, 1) := by decide +kernel
theorem dX4_sealInto_1 : decode cX4_sealInto 1 = .ok (.getfield 55, 3) := by decide +kernel
theorem dX4_sealInto_4 : decode cX4_sealInto 4 = .ok (.bipush 64, 2) := by decide +kernel
theorem dX4_sealInto_6 : decode cX4_sealInto 6 = .ok (.if_icmp .le 22, 3) := by decide +kernel
theorem dX4_sealInto_9 : decode cX4_sealInto 9 = .ok (.aload_n 0, 1) := by decide +kernel
theorem dX4_sealInto_10 : decode cX4_sealInto 10 = .ok (.getfield 23, 3) := by decide +kernel
theorem dX4_sealInto_13 : decode cX4_sealInto 13 = .ok (.aload_n 2, 1) := by decide +kernel
theorem dX4_sealInto_14 : decode cX4_sealInto 14 = .ok (.invokevirtual 48, 3) := by decide +kernel
theorem dX4_sealInto_17 : decode cX4_sealInto 17 = .ok (.aload_n 0, 1) := by decide +kernel
theorem dX4_sealInto_18 : decode cX4_sealInto 18 = .ok (.aload_n 0, 1) := by decide +kernel
theorem dX4_sealInto_19 : decode cX4_sealInto 19 = .ok (.getfield 27, 3) := by decide +kernel
theorem dX4_sealInto_22 : decode cX4_sealInto 22 = .ok (.invokevirtual 52, 3) := by decide +kernel
theorem dX4_sealInto_25 : decode cX4_sealInto 25 = .ok (.goto 11, 3) := by decide +kernel
theorem dX4_sealInto_28 : decode cX4_sealInto 28 = .ok (.aload_n 0, 1) := by decide +kernel
theorem dX4_sealInto_29 : decode cX4_sealInto 29 = .ok (.getfield 27, 3) := by decide +kernel
theorem dX4_sealInto_32 : decode cX4_sealInto 32 = .ok (.aload_n 2, 1) := by decide +kernel
theorem dX4_sealInto_33 : decode cX4_sealInto 33 = .ok (.invokevirtual 48, 3) := by decide +kernel
theorem dX4_sealInto_36 : decode cX4_sealInto 36 = .ok (.aload_n 0, 1) := by decide +kernel
theorem dX4_sealInto_37 : decode cX4_sealInto 37 = .ok (.getfield 27, 3) := by decide +kernel
theorem dX4_sealInto_40 : decode cX4_sealInto 40 = .ok (.bipush 64, 2) := by decide +kernel
theorem dX4_sealInto_42 : decode cX4_sealInto 42 = .ok (.aload_n 0, 1) := by decide +kernel
theorem dX4_sealInto_43 : decode cX4_sealInto 43 = .ok (.getfield 27, 3) := by decide +kernel
theorem dX4_sealInto_46 : decode cX4_sealInto 46 = .ok (.getfield 55, 3) := by decide +kernel
theorem dX4_sealInto_49 : decode cX4_sealInto 49 = .ok (.isub, 1) := by decide +kernel
theorem dX4_sealInto_50 : decode cX4_sealInto 50 = .ok (.invokevirtual 45, 3) := by decide +kernel
theorem dX4_sealInto_53 : decode cX4_sealInto 53 = .ok (.aload_n 0, 1) := by decide +kernel
theorem dX4_sealInto_54 : decode cX4_sealInto 54 = .ok (.bipush 54, 2) := by decide +kernel
theorem dX4_sealInto_56 : decode cX4_sealInto 56 = .ok (.invokevirtual 59, 3) := by decide +kernel
theorem dX4_sealInto_59 : decode cX4_sealInto 59 = .ok (.aload_n 0, 1) := by decide +kernel
theorem dX4_sealInto_60 : decode cX4_sealInto 60 = .ok (.getfield 23, 3) := by decide +kernel
theorem dX4_sealInto_63 : decode cX4_sealInto 63 = .ok (.aload_n 3, 1) := by decide +kernel
theorem dX4_sealInto_64 : decode cX4_sealInto 64 = .ok (.invokevirtual 62, 3) := by decide +kernel
theorem dX4_sealInto_67 : decode cX4_sealInto 67 = .ok (.aload_n 0, 1) := by decide +kernel
theorem dX4_sealInto_68 : decode cX4_sealInto 68 = .ok (.aload_n 0, 1) := by decide +kernel
theorem dX4_sealInto_69 : decode cX4_sealInto 69 = .ok (.getfield 30, 3) := by decide +kernel
theorem dX4_sealInto_72 : decode cX4_sealInto 72 = .ok (.invokevirtual 52, 3) := by decide +kernel
theorem dX4_sealInto_75 : decode cX4_sealInto 75 = .ok (.aload_n 0, 1) := by decide +kernel
theorem dX4_sealInto_76 : decode cX4_sealInto 76 = .ok (.bipush 92, 2) := by decide +kernel
theorem dX4_sealInto_78 : decode cX4_sealInto 78 = .ok (.invokevirtual 59, 3) := by decide +kernel
theorem dX4_sealInto_81 : decode cX4_sealInto 81 = .ok (.aload_n 0, 1) := by decide +kernel
theorem dX4_sealInto_82 : decode cX4_sealInto 82 = .ok (.getfield 23, 3) := by decide +kernel
theorem dX4_sealInto_85 : decode cX4_sealInto 85 = .ok (.aload_n 0, 1) := by decide +kernel
theorem dX4_sealInto_86 : decode cX4_sealInto 86 = .ok (.getfield 30, 3) := by decide +kernel
theorem dX4_sealInto_89 : decode cX4_sealInto 89 = .ok (.invokevirtual 62, 3) := by decide +kernel
theorem dX4_sealInto_92 : decode cX4_sealInto 92 = .ok (.aload_n 0, 1) := by decide +kernel
theorem dX4_sealInto_93 : decode cX4_sealInto 93 = .ok (.aload_n 1, 1) := by decide +kernel
theorem dX4_sealInto_94 : decode cX4_sealInto 94 = .ok (.invokevirtual 52, 3) := by decide +kernel
theorem dX4_sealInto_97 : decode cX4_sealInto 97 = .ok (.return_, 1) := by decide +kernel
set_option maxRecDepth 20000 in
theorem ggX4_goOnOwn_X4_sealInto : GoodIn wsX4_goOnOwn wsX4_sealInto := goodIn_r _ [6, 7, 8, 9, 10, 11, 12, 13, 14, 15, 16, 17, 18, 19, 20, 21, 22, 23, 24, 25, 26, 27, 28, 5, 29, 30, 31, 32, 33, 34, 35, 36, 37, 38, 39, 40, 41, 42, 43, 44, 45, 46, 47, 48, 49, 50, 51, 52, 53, 54, 55, 56, 57, 58, 59, 60, 61, 62, 63, 64, 65, 66, 67, 68, 69, 70, 71, 74, 75, 76, 77, 78, 79, 80, 81, 82, 83, 84] rfl (by decide +kernel)
set_option maxRecDepth 20000 in
theorem gX4_goOnOwn_X4_sealInto : GoodIn wsX4_goOnOwn (wsV RX4 70 RX4 yX4_sealInto wsX4_sealInto) := goodIn_app (goodIn_of _ (by decide +kernel)) ggX4_goOnOwn_X4_sealInto
theorem dX4_goOnOwn_0 : decode cX4_goOnOwn 0 = .ok (.aload_n 0, 1) := by decide +kernel
theorem dX4_goOnOwn_1 : decode cX4_goOnOwn 1 = .ok (.aload_n 1, 1) := by decide +kernel
theorem dX4_goOnOwn_2 : decode cX4_goOnOwn 2 = .ok (.aload_n 1, 1) := by decide +kernel
theorem dX4_goOnOwn_3 : decode cX4_goOnOwn 3 = .ok (.aload_n 2, 1) := by decide +kernel
theorem dX4_goOnOwn_4 : decode cX4_goOnOwn 4 = .ok (.getfield 65, 3) := by decide +kernel
theorem dX4_goOnOwn_7 : decode cX4_goOnOwn 7 = .ok (.invokevirtual 70, 3) := by decide +kernel
theorem dX4_goOnOwn_10 : decode cX4_goOnOwn 10 = .ok (.return_, 1) := by decide +kernel
set_option maxRecDepth 20000 in
theorem ggX4_goOnOthers_X4_sealInto : GoodIn wsX4_goOnOthers wsX4_sealInto := goodIn_r _ [10, 11, 12, 13, 14, 15, 16, 17, 18, 19, 20, 21, 22, 23, 24, 25, 26, 27, 28, 29, 30, 31, 32, 9, 33, 34, 35, 36, 37, 38, 39, 40, 41, 42, 43, 44, 45, 46, 47, 48, 49, 50, 51, 52, 53, 54, 55, 56, 57, 58, 59, 60, 61, 62, 63, 64, 65, 66, 67, 68, 69, 70, 71, 72, 73, 74, 75, 87, 88, 76, 77, 78, 79, 80, 81, 82, 83, 84] rfl (by decide +kernel)
set_option maxRecDepth 20000 in
theorem gX4_goOnOthers_X4_sealInto : GoodIn wsX4_goOnOthers (wsV RX4 70 RX4 yX4_sealInto wsX4_sealInto) := goodIn_app (goodIn_of _ (by decide +kernel)) ggX4_goOnOthers_X4_sealInto
set_option maxRecDepth 20000 in
theorem ggX4_goOnOthers_X3_takeOver : GoodIn wsX4_goOnOthers wsX3_takeOver := goodIn_r _ [19, 20, 21, 22, 23, 18, 24, 25, 26, 27, 28, 29, 87, 88] rfl (by decide +kernel)
set_option maxRecDepth 20000 in
theorem gX4_goOnOthers_X3_takeOver : GoodIn wsX4_goOnOthers (wsV RX4 48 RX3 yX3_takeOver wsX3_takeOver) := goodIn_app (goodIn_of _ (by decide +kernel)) ggX4_goOnOthers_X3_takeOver
set_option maxRecDepth 20000 in
theorem ggX4_goOnOthers_X3_pushAll : GoodIn wsX4_goOnOthers wsX3_pushAll := goodIn_r _ [75, 20, 21, 22, 23, 18, 24, 25, 26, 27, 28, 29, 87, 88] rfl (by decide +kernel)
set_option maxRecDepth 20000 in
theorem gX4_goOnOthers_X3_pushAll : GoodIn wsX4_goOnOthers (wsV RX4 62 RX3 yX3_pushAll wsX3_pushAll) := goodIn_app (goodIn_of _ (by decide +kernel)) ggX4_goOnOthers_X3_pushAll
theorem dX4_goOnOthers_0 : decode cX4_goOnOthers 0 = .ok (.aload_n 0, 1) := by decide +kernel
theorem dX4_goOnOthers_1 : decode cX4_goOnOthers 1 = .ok (.aload_n 0, 1) := by decide +kernel
theorem dX4_goOnOthers_2 : decode cX4_goOnOthers 2 = .ok (.getfield 39, 3) := by decide +kernel
theorem dX4_goOnOthers_5 : decode cX4_goOnOthers 5 = .ok (.aload_n 1, 1) := by decide +kernel
theorem dX4_goOnOthers_6 : decode cX4_goOnOthers 6 = .ok (.aload_n 2, 1) := by decide +kernel
theorem dX4_goOnOthers_7 : decode cX4_goOnOthers 7 = .ok (.getfield 74, 3) := by decide +kernel
theorem dX4_goOnOthers_10 : decode cX4_goOnOthers 10 = .ok (.invokevirtual 70, 3) := by decide +kernel
theorem dX4_goOnOthers_13 : decode cX4_goOnOthers 13 = .ok (.aload_n 0, 1) := by decide +kernel
theorem dX4_goOnOthers_14 : decode cX4_goOnOthers 14 = .ok (.aload_n 0, 1) := by decide +kernel
theorem dX4_goOnOthers_15 : decode cX4_goOnOthers 15 = .ok (.getfield 36, 3) := by decide +kernel
theorem dX4_goOnOthers_18 : decode cX4_goOnOthers 18 = .ok (.aload_n 1, 1) := by decide +kernel
theorem dX4_goOnOthers_19 : decode cX4_goOnOthers 19 = .ok (.aload_n 2, 1) := by decide +kernel
theorem dX4_goOnOthers_20 : decode cX4_goOnOthers 20 = .ok (.getfield 65, 3) := by decide +kernel
theorem dX4_goOnOthers_23 : decode cX4_goOnOthers 23 = .ok (.invokevirtual 70, 3) := by decide +kernel
theorem dX4_goOnOthers_26 : decode cX4_goOnOthers 26 = .ok (.aload_n 0, 1) := by decide +kernel
theorem dX4_goOnOthers_27 : decode cX4_goOnOthers 27 = .ok (.getfield 33, 3) := by decide +kernel
theorem dX4_goOnOthers_30 : decode cX4_goOnOthers 30 = .ok (.aload_n 0, 1) := by decide +kernel
theorem dX4_goOnOthers_31 : decode cX4_goOnOthers 31 = .ok (.getfield 39, 3) := by decide +kernel
theorem dX4_goOnOthers_34 : decode cX4_goOnOthers 34 = .ok (.invokevirtual 48, 3) := by decide +kernel
theorem dX4_goOnOthers_37 : decode cX4_goOnOthers 37 = .ok (.aload_n 0, 1) := by decide +kernel
theorem dX4_goOnOthers_38 : decode cX4_goOnOthers 38 = .ok (.getfield 33, 3) := by decide +kernel
theorem dX4_goOnOthers_41 : decode cX4_goOnOthers 41 = .ok (.aload_n 0, 1) := by decide +kernel
theorem dX4_goOnOthers_42 : decode cX4_goOnOthers 42 = .ok (.getfield 36, 3) := by decide +kernel
theorem dX4_goOnOthers_45 : decode cX4_goOnOthers 45 = .ok (.invokevirtual 62, 3) := by decide +kernel
theorem dX4_goOnOthers_48 : decode cX4_goOnOthers 48 = .ok (.aload_n 0, 1) := by decide +kernel
theorem dX4_goOnOthers_49 : decode cX4_goOnOthers 49 = .ok (.aload_n 1, 1) := by decide +kernel
theorem dX4_goOnOthers_50 : decode cX4_goOnOthers 50 = .ok (.aload_n 1, 1) := by decide +kernel
theorem dX4_goOnOthers_51 : decode cX4_goOnOthers 51 = .ok (.aload_n 0, 1) := by decide +kernel
theorem dX4_goOnOthers_52 : decode cX4_goOnOthers 52 = .ok (.getfield 33, 3) := by decide +kernel
theorem dX4_goOnOthers_55 : decode cX4_goOnOthers 55 = .ok (.invokevirtual 70, 3) := by decide +kernel
theorem dX4_goOnOthers_58 : decode cX4_goOnOthers 58 = .ok (.return_, 1) := by decide +kernel
set_option maxRecDepth 20000 in
theorem ggX4_turnKey_X4_sealInto : GoodIn wsX4_turnKey wsX4_sealInto := goodIn_r _ [6, 7, 8, 9, 10, 11, 12, 13, 14, 15, 16, 17, 18, 19, 20, 21, 22, 23, 24, 25, 26, 27, 28, 5, 29, 30, 31, 32, 33, 34, 35, 36, 37, 38, 39, 40, 41, 42, 43, 44, 45, 46, 47, 48, 49, 50, 51, 52, 53, 54, 55, 56, 57, 58, 59, 60, 61, 62, 63, 64, 65, 66, 67, 68, 69, 70, 71, 89, 90, 80, 81, 82, 83, 84, 85, 86, 87, 88] rfl (by decide +kernel)
set_option maxRecDepth 20000 in
theorem gX4_turnKey_X4_sealInto : GoodIn wsX4_turnKey (wsV RX4 70 RX4 yX4_sealInto wsX4_sealInto) := goodIn_app (goodIn_of _ (by decide +kernel)) ggX4_turnKey_X4_sealInto
set_option maxRecDepth 20000 in
theorem ggX4_turnKey_X3_takeOver : GoodIn wsX4_turnKey wsX3_takeOver := goodIn_r _ [15, 16, 17, 18, 19, 14, 20, 21, 22, 23, 24, 25, 89, 90] rfl (by decide +kernel)
set_option maxRecDepth 20000 in
theorem gX4_turnKey_X3_takeOver : GoodIn wsX4_turnKey (wsV RX4 48 RX3 yX3_takeOver wsX3_takeOver) := goodIn_app (goodIn_of _ (by decide +kernel)) ggX4_turnKey_X3_takeOver
set_option maxRecDepth 20000 in
theorem ggX4_turnKey_X3_byteAt : GoodIn wsX4_turnKey wsX3_byteAt := goodIn_r _ [67, 16, 21, 89, 90] rfl (by decide +kernel)
set_option maxRecDepth 20000 in
theorem gX4_turnKey_X3_byteAt : GoodIn wsX4_turnKey (wsV RX4 77 RX3 yX3_byteAt wsX3_byteAt) := goodIn_app (goodIn_of _ (by decide +kernel)) ggX4_turnKey_X3_byteAt
set_option maxRecDepth 20000 in
theorem ggX4_turnKey_X3_flip : GoodIn wsX4_turnKey wsX3_flip := goodIn_r _ [75, 21, 76, 77, 78, 14, 79, 16, 89, 90] rfl (by decide +kernel)
set_option maxRecDepth 20000 in
theorem gX4_turnKey_X3_flip : GoodIn wsX4_turnKey (wsV RX4 81 RX3 yX3_flip wsX3_flip) := goodIn_app (goodIn_of _ (by decide +kernel)) ggX4_turnKey_X3_flip
theorem dX4_turnKey_0 : decode cX4_turnKey 0 = .ok (.aload_n 0, 1) := by decide +kernel
theorem dX4_turnKey_1 : decode cX4_turnKey 1 = .ok (.aload_n 0, 1) := by decide +kernel
theorem dX4_turnKey_2 : decode cX4_turnKey 2 = .ok (.getfield 36, 3) := by decide +kernel
theorem dX4_turnKey_5 : decode cX4_turnKey 5 = .ok (.aload_n 3, 1) := by decide +kernel
theorem dX4_turnKey_6 : decode cX4_turnKey 6 = .ok (.aload 4, 2) := by decide +kernel
theorem dX4_turnKey_8 : decode cX4_turnKey 8 = .ok (.invokevirtual 70, 3) := by decide +kernel
theorem dX4_turnKey_11 : decode cX4_turnKey 11 = .ok (.aload_n 1, 1) := by decide +kernel
theorem dX4_turnKey_12 : decode cX4_turnKey 12 = .ok (.aload_n 2, 1) := by decide +kernel
theorem dX4_turnKey_13 : decode cX4_turnKey 13 = .ok (.invokevirtual 48, 3) := by decide +kernel
theorem dX4_turnKey_16 : decode cX4_turnKey 16 = .ok (.iconst 0, 1) := by decide +kernel
theorem dX4_turnKey_17 : decode cX4_turnKey 17 = .ok (.istore 5, 2) := by decide +kernel
theorem dX4_turnKey_19 : decode cX4_turnKey 19 = .ok (.iload 5, 2) := by decide +kernel
theorem dX4_turnKey_21 : decode cX4_turnKey 21 = .ok (.bipush 32, 2) := by decide +kernel
theorem dX4_turnKey_23 : decode cX4_turnKey 23 = .ok (.if_icmp .ge 25, 3) := by decide +kernel
theorem dX4_turnKey_26 : decode cX4_turnKey 26 = .ok (.aload_n 1, 1) := by decide +kernel
theorem dX4_turnKey_27 : decode cX4_turnKey 27 = .ok (.iload 5, 2) := by decide +kernel
theorem dX4_turnKey_29 : decode cX4_turnKey 29 = .ok (.aload_n 0, 1) := by decide +kernel
theorem dX4_turnKey_30 : decode cX4_turnKey 30 = .ok (.getfield 36, 3) := by decide +kernel
theorem dX4_turnKey_33 : decode cX4_turnKey 33 = .ok (.iload 5, 2) := by decide +kernel
theorem dX4_turnKey_35 : decode cX4_turnKey 35 = .ok (.invokevirtual 77, 3) := by decide +kernel
theorem dX4_turnKey_38 : decode cX4_turnKey 38 = .ok (.invokevirtual 81, 3) := by decide +kernel
theorem dX4_turnKey_41 : decode cX4_turnKey 41 = .ok (.pop, 1) := by decide +kernel
theorem dX4_turnKey_42 : decode cX4_turnKey 42 = .ok (.iinc 5 1, 3) := by decide +kernel
theorem dX4_turnKey_45 : decode cX4_turnKey 45 = .ok (.goto (-26), 3) := by decide +kernel
theorem dX4_turnKey_48 : decode cX4_turnKey 48 = .ok (.return_, 1) := by decide +kernel
set_option maxRecDepth 20000 in
theorem ggX4_bindSign_X3_takeOver : GoodIn wsX4_bindSign wsX3_takeOver := goodIn_r _ [7, 8, 9, 10, 11, 6, 12, 13, 14, 15, 16, 17, 82, 83] rfl (by decide +kernel)
set_option maxRecDepth 20000 in
theorem gX4_bindSign_X3_takeOver : GoodIn wsX4_bindSign (wsV RX4 48 RX3 yX3_takeOver wsX3_takeOver) := goodIn_app (goodIn_of _ (by decide +kernel)) ggX4_bindSign_X3_takeOver
set_option maxRecDepth 20000 in
theorem ggX4_bindSign_X3_pushAll : GoodIn wsX4_bindSign wsX3_pushAll := goodIn_r _ [21, 8, 9, 10, 11, 6, 12, 13, 14, 15, 16, 17, 82, 83] rfl (by decide +kernel)
set_option maxRecDepth 20000 in
theorem gX4_bindSign_X3_pushAll : GoodIn wsX4_bindSign (wsV RX4 62 RX3 yX3_pushAll wsX3_pushAll) := goodIn_app (goodIn_of _ (by decide +kernel)) ggX4_bindSign_X3_pushAll
set_option maxRecDepth 20000 in
theorem ggX4_bindSign_X4_sealInto : GoodIn wsX4_bindSign wsX4_sealInto := goodIn_r _ [26, 27, 28, 29, 30, 3, 4, 5, 6, 7, 8, 9, 10, 11, 12, 13, 14, 15, 16, 17, 31, 32, 33, 25, 34, 35, 36, 37, 38, 39, 40, 41, 42, 43, 44, 45, 46, 47, 48, 49, 50, 51, 52, 53, 54, 55, 56, 57, 58, 59, 60, 61, 62, 63, 64, 65, 66, 67, 68, 69, 70, 71, 72, 18, 19, 20, 21, 82, 83, 73, 74, 75, 76, 77, 78, 79, 80, 81] rfl (by decide +kernel)
set_option maxRecDepth 20000 in
theorem gX4_bindSign_X4_sealInto : GoodIn wsX4_bindSign (wsV RX4 70 RX4 yX4_sealInto wsX4_sealInto) := goodIn_app (goodIn_of _ (by decide +kernel)) ggX4_bindSign_X4_sealInto
theorem dX4_bindSign_0 : decode cX4_bindSign 0 = .ok (.aload_n 0, 1) := by decide +kernel
theorem dX4_bindSign_1 : decode cX4_bindSign 1 = .ok (.getfield 33, 3) := by decide +kernel
theorem dX4_bindSign_4 : decode cX4_bindSign 4 = .ok (.aload_n 2, 1) := by decide +kernel
theorem dX4_bindSign_5 : decode cX4_bindSign 5 = .ok (.invokevirtual 48, 3) := by decide +kernel
theorem dX4_bindSign_8 : decode cX4_bindSign 8 = .ok (.aload_n 0, 1) := by decide +kernel
theorem dX4_bindSign_9 : decode cX4_bindSign 9 = .ok (.getfield 33, 3) := by decide +kernel
theorem dX4_bindSign_12 : decode cX4_bindSign 12 = .ok (.aload_n 1, 1) := by decide +kernel
theorem dX4_bindSign_13 : decode cX4_bindSign 13 = .ok (.invokevirtual 62, 3) := by decide +kernel
theorem dX4_bindSign_16 : decode cX4_bindSign 16 = .ok (.aload_n 0, 1) := by decide +kernel
theorem dX4_bindSign_17 : decode cX4_bindSign 17 = .ok (.aload_n 1, 1) := by decide +kernel
theorem dX4_bindSign_18 : decode cX4_bindSign 18 = .ok (.aload_n 0, 1) := by decide +kernel
theorem dX4_bindSign_19 : decode cX4_bindSign 19 = .ok (.getfield 42, 3) := by decide +kernel
theorem dX4_bindSign_22 : decode cX4_bindSign 22 = .ok (.aload_n 0, 1) := by decide +kernel
theorem dX4_bindSign_23 : decode cX4_bindSign 23 = .ok (.getfield 33, 3) := by decide +kernel
theorem dX4_bindSign_26 : decode cX4_bindSign 26 = .ok (.invokevirtual 70, 3) := by decide +kernel
theorem dX4_bindSign_29 : decode cX4_bindSign 29 = .ok (.return_, 1) := by decide +kernel
set_option maxRecDepth 20000 in
theorem ggX4_startWork_X3_makeEmpty : GoodIn wsX4_startWork wsX3_makeEmpty := goodIn_r _ [8, 9, 28, 29] rfl (by decide +kernel)
set_option maxRecDepth 20000 in
theorem gX4_startWork_X3_makeEmpty : GoodIn wsX4_startWork (wsV RX4 85 RX3 yX3_makeEmpty wsX3_makeEmpty) := goodIn_app (goodIn_of _ (by decide +kernel)) ggX4_startWork_X3_makeEmpty
set_option maxRecDepth 20000 in
theorem ggX4_startWork_X3_byteAt : GoodIn wsX4_startWork wsX3_byteAt := goodIn_r _ [13, 9, 14, 28, 29] rfl (by decide +kernel)
set_option maxRecDepth 20000 in
theorem gX4_startWork_X3_byteAt : GoodIn wsX4_startWork (wsV RX4 77 RX3 yX3_byteAt wsX3_byteAt) := goodIn_app (goodIn_of _ (by decide +kernel)) ggX4_startWork_X3_byteAt
set_option maxRecDepth 20000 in
theorem ggX4_startWork_X3_push : GoodIn wsX4_startWork wsX3_push := goodIn_r _ [18, 9, 14, 28, 29] rfl (by decide +kernel)
set_option maxRecDepth 20000 in
theorem gX4_startWork_X3_push : GoodIn wsX4_startWork (wsV RX4 88 RX3 yX3_push wsX3_push) := goodIn_app (goodIn_of _ (by decide +kernel)) ggX4_startWork_X3_push
theorem dX4_startWork_0 : decode cX4_startWork 0 = .ok (.aload_n 0, 1) := by decide +kernel
theorem dX4_startWork_1 : decode cX4_startWork 1 = .ok (.getfield 23, 3) := by decide +kernel
theorem dX4_startWork_4 : decode cX4_startWork 4 = .ok (.invokevirtual 85, 3) := by decide +kernel
theorem dX4_startWork_7 : decode cX4_startWork 7 = .ok (.iconst 0, 1) := by decide +kernel
theorem dX4_startWork_8 : decode cX4_startWork 8 = .ok (.istore_n 2, 1) := by decide +kernel
theorem dX4_startWork_9 : decode cX4_startWork 9 = .ok (.iload_n 2, 1) := by decide +kernel
theorem dX4_startWork_10 : decode cX4_startWork 10 = .ok (.aload_n 0, 1) := by decide +kernel
theorem dX4_startWork_11 : decode cX4_startWork 11 = .ok (.getfield 27, 3) := by decide +kernel
theorem dX4_startWork_14 : decode cX4_startWork 14 = .ok (.getfield 55, 3) := by decide +kernel
theorem dX4_startWork_17 : decode cX4_startWork 17 = .ok (.if_icmp .ge 26, 3) := by decide +kernel
theorem dX4_startWork_20 : decode cX4_startWork 20 = .ok (.aload_n 0, 1) := by decide +kernel
theorem dX4_startWork_21 : decode cX4_startWork 21 = .ok (.getfield 23, 3) := by decide +kernel
theorem dX4_startWork_24 : decode cX4_startWork 24 = .ok (.aload_n 0, 1) := by decide +kernel
theorem dX4_startWork_25 : decode cX4_startWork 25 = .ok (.getfield 27, 3) := by decide +kernel
theorem dX4_startWork_28 : decode cX4_startWork 28 = .ok (.iload_n 2, 1) := by decide +kernel
theorem dX4_startWork_29 : decode cX4_startWork 29 = .ok (.invokevirtual 77, 3) := by decide +kernel
theorem dX4_startWork_32 : decode cX4_startWork 32 = .ok (.iload_n 1, 1) := by decide +kernel
theorem dX4_startWork_33 : decode cX4_startWork 33 = .ok (.ixor, 1) := by decide +kernel
theorem dX4_startWork_34 : decode cX4_startWork 34 = .ok (.invokevirtual 88, 3) := by decide +kernel
theorem dX4_startWork_37 : decode cX4_startWork 37 = .ok (.iinc 2 1, 3) := by decide +kernel
theorem dX4_startWork_40 : decode cX4_startWork 40 = .ok (.goto (-31), 3) := by decide +kernel
theorem dX4_startWork_43 : decode cX4_startWork 43 = .ok (.return_, 1) := by decide +kernel
set_option maxRecDepth 20000 in
theorem ggX4_hashWork_X3_push : GoodIn wsX4_hashWork wsX3_push := goodIn_r _ [13, 14, 15, 49, 50] rfl (by decide +kernel)
set_option maxRecDepth 20000 in
theorem gX4_hashWork_X3_push : GoodIn wsX4_hashWork (wsV RX4 88 RX3 yX3_push wsX3_push) := goodIn_app (goodIn_of _ (by decide +kernel)) ggX4_hashWork_X3_push
set_option maxRecDepth 20000 in
theorem ggX4_hashWork_X3_pushZeros : GoodIn wsX4_hashWork wsX3_pushZeros := goodIn_r _ [19, 14, 15, 49, 50] rfl (by decide +kernel)
set_option maxRecDepth 20000 in
theorem gX4_hashWork_X3_pushZeros : GoodIn wsX4_hashWork (wsV RX4 45 RX3 yX3_pushZeros wsX3_pushZeros) := goodIn_app (goodIn_of _ (by decide +kernel)) ggX4_hashWork_X3_pushZeros
set_option maxRecDepth 20000 in
theorem ggX4_hashWork_X3_pushWord : GoodIn wsX4_hashWork wsX3_pushWord := goodIn_r _ [23, 14, 15, 49, 50] rfl (by decide +kernel)
set_option maxRecDepth 20000 in
theorem gX4_hashWork_X3_pushWord : GoodIn wsX4_hashWork (wsV RX4 91 RX3 yX3_pushWord wsX3_pushWord) := goodIn_app (goodIn_of _ (by decide +kernel)) ggX4_hashWork_X3_pushWord
set_option maxRecDepth 20000 in
theorem ggX4_hashWork_X4_spreadWords : GoodIn wsX4_hashWork wsX4_spreadWords := goodIn_r _ [28, 1, 29, 30, 40, 41, 42, 43, 44, 45, 46, 47, 48, 49, 50] rfl (by decide +kernel)
set_option maxRecDepth 20000 in
theorem gX4_hashWork_X4_spreadWords : GoodIn wsX4_hashWork (wsV RX4 103 RX4 yX4_spreadWords wsX4_spreadWords) := goodIn_app (goodIn_of _ (by decide +kernel)) ggX4_hashWork_X4_spreadWords
set_option maxRecDepth 20000 in
theorem ggX4_hashWork_X4_mixWords : GoodIn wsX4_hashWork wsX4_mixWords := goodIn_r _ [34, 4, 35, 30, 40, 41, 42, 43, 44, 45, 46, 47, 48] rfl (by decide +kernel)
set_option maxRecDepth 20000 in
theorem gX4_hashWork_X4_mixWords : GoodIn wsX4_hashWork (wsV RX4 106 RX4 yX4_mixWords wsX4_mixWords) := goodIn_app (goodIn_of _ (by decide +kernel)) ggX4_hashWork_X4_mixWords
set_option maxRecDepth 20000 in
theorem ggX4_hashWork_X3_makeEmpty : GoodIn wsX4_hashWork wsX3_makeEmpty := goodIn_r _ [39, 14, 49, 50] rfl (by decide +kernel)
set_option maxRecDepth 20000 in
theorem gX4_hashWork_X3_makeEmpty : GoodIn wsX4_hashWork (wsV RX4 85 RX3 yX3_makeEmpty wsX3_makeEmpty) := goodIn_app (goodIn_of _ (by decide +kernel)) ggX4_hashWork_X3_makeEmpty
theorem dX4_hashWork_0 : decode cX4_hashWork 0 = .ok (.bipush 8, 2) := by decide +kernel
theorem dX4_hashWork_2 : decode cX4_hashWork 2 = .ok (.aload_n 0, 1) := by decide +kernel
theorem dX4_hashWork_3 : decode cX4_hashWork 3 = .ok (.getfield 23, 3) := by decide +kernel
theorem dX4_hashWork_6 : decode cX4_hashWork 6 = .ok (.getfield 55, 3) := by decide +kernel
theorem dX4_hashWork_9 : decode cX4_hashWork 9 = .ok (.imul, 1) := by decide +kernel
theorem dX4_hashWork_10 : decode cX4_hashWork 10 = .ok (.istore_n 2, 1) := by decide +kernel
theorem dX4_hashWork_11 : decode cX4_hashWork 11 = .ok (.aload_n 0, 1) := by decide +kernel
theorem dX4_hashWork_12 : decode cX4_hashWork 12 = .ok (.getfield 23, 3) := by decide +kernel
theorem dX4_hashWork_15 : decode cX4_hashWork 15 = .ok (.sipush 128, 3) := by decide +kernel
theorem dX4_hashWork_18 : decode cX4_hashWork 18 = .ok (.invokevirtual 88, 3) := by decide +kernel
theorem dX4_hashWork_21 : decode cX4_hashWork 21 = .ok (.aload_n 0, 1) := by decide +kernel
theorem dX4_hashWork_22 : decode cX4_hashWork 22 = .ok (.getfield 23, 3) := by decide +kernel
theorem dX4_hashWork_25 : decode cX4_hashWork 25 = .ok (.bipush 120, 2) := by decide +kernel
theorem dX4_hashWork_27 : decode cX4_hashWork 27 = .ok (.aload_n 0, 1) := by decide +kernel
theorem dX4_hashWork_28 : decode cX4_hashWork 28 = .ok (.getfield 23, 3) := by decide +kernel
theorem dX4_hashWork_31 : decode cX4_hashWork 31 = .ok (.getfield 55, 3) := by decide +kernel
theorem dX4_hashWork_34 : decode cX4_hashWork 34 = .ok (.bipush 64, 2) := by decide +kernel
theorem dX4_hashWork_36 : decode cX4_hashWork 36 = .ok (.irem, 1) := by decide +kernel
theorem dX4_hashWork_37 : decode cX4_hashWork 37 = .ok (.isub, 1) := by decide +kernel
theorem dX4_hashWork_38 : decode cX4_hashWork 38 = .ok (.bipush 64, 2) := by decide +kernel
theorem dX4_hashWork_40 : decode cX4_hashWork 40 = .ok (.irem, 1) := by decide +kernel
theorem dX4_hashWork_41 : decode cX4_hashWork 41 = .ok (.invokevirtual 45, 3) := by decide +kernel
theorem dX4_hashWork_44 : decode cX4_hashWork 44 = .ok (.aload_n 0, 1) := by decide +kernel
theorem dX4_hashWork_45 : decode cX4_hashWork 45 = .ok (.getfield 23, 3) := by decide +kernel
theorem dX4_hashWork_48 : decode cX4_hashWork 48 = .ok (.iconst 0, 1) := by decide +kernel
theorem dX4_hashWork_49 : decode cX4_hashWork 49 = .ok (.invokevirtual 91, 3) := by decide +kernel
theorem dX4_hashWork_52 : decode cX4_hashWork 52 = .ok (.aload_n 0, 1) := by decide +kernel
theorem dX4_hashWork_53 : decode cX4_hashWork 53 = .ok (.getfield 23, 3) := by decide +kernel
theorem dX4_hashWork_56 : decode cX4_hashWork 56 = .ok (.iload_n 2, 1) := by decide +kernel
theorem dX4_hashWork_57 : decode cX4_hashWork 57 = .ok (.invokevirtual 91, 3) := by decide +kernel
theorem dX4_hashWork_60 : decode cX4_hashWork 60 = .ok (.getstatic 94, 3) := by decide +kernel
theorem dX4_hashWork_63 : decode cX4_hashWork 63 = .ok (.iconst 0, 1) := by decide +kernel
theorem dX4_hashWork_64 : decode cX4_hashWork 64 = .ok (.aload_n 0, 1) := by decide +kernel
theorem dX4_hashWork_65 : decode cX4_hashWork 65 = .ok (.getfield 11, 3) := by decide +kernel
theorem dX4_hashWork_68 : decode cX4_hashWork 68 = .ok (.iconst 0, 1) := by decide +kernel
theorem dX4_hashWork_69 : decode cX4_hashWork 69 = .ok (.bipush 8, 2) := by decide +kernel
theorem dX4_hashWork_71 : decode cX4_hashWork 71 = .ok (.invokestatic 97, 3) := by decide +kernel
theorem dX4_hashWork_74 : decode cX4_hashWork 74 = .ok (.iconst 0, 1) := by decide +kernel
theorem dX4_hashWork_75 : decode cX4_hashWork 75 = .ok (.istore_n 3, 1) := by decide +kernel
theorem dX4_hashWork_76 : decode cX4_hashWork 76 = .ok (.iload_n 3, 1) := by decide +kernel
theorem dX4_hashWork_77 : decode cX4_hashWork 77 = .ok (.bipush 64, 2) := by decide +kernel
theorem dX4_hashWork_79 : decode cX4_hashWork 79 = .ok (.iadd, 1) := by decide +kernel
theorem dX4_hashWork_80 : decode cX4_hashWork 80 = .ok (.aload_n 0, 1) := by decide +kernel
theorem dX4_hashWork_81 : decode cX4_hashWork 81 = .ok (.getfield 23, 3) := by decide +kernel
theorem dX4_hashWork_84 : decode cX4_hashWork 84 = .ok (.getfield 55, 3) := by decide +kernel
theorem dX4_hashWork_87 : decode cX4_hashWork 87 = .ok (.if_icmp .gt 18, 3) := by decide +kernel
theorem dX4_hashWork_90 : decode cX4_hashWork 90 = .ok (.aload_n 0, 1) := by decide +kernel
theorem dX4_hashWork_91 : decode cX4_hashWork 91 = .ok (.iload_n 3, 1) := by decide +kernel
theorem dX4_hashWork_92 : decode cX4_hashWork 92 = .ok (.invokevirtual 103, 3) := by decide +kernel
theorem dX4_hashWork_95 : decode cX4_hashWork 95 = .ok (.aload_n 0, 1) := by decide +kernel
theorem dX4_hashWork_96 : decode cX4_hashWork 96 = .ok (.invokevirtual 106, 3) := by decide +kernel
theorem dX4_hashWork_99 : decode cX4_hashWork 99 = .ok (.iinc 3 64, 3) := by decide +kernel
theorem dX4_hashWork_102 : decode cX4_hashWork 102 = .ok (.goto (-26), 3) := by decide +kernel
theorem dX4_hashWork_105 : decode cX4_hashWork 105 = .ok (.aload_n 1, 1) := by decide +kernel
theorem dX4_hashWork_106 : decode cX4_hashWork 106 = .ok (.invokevirtual 85, 3) := by decide +kernel
theorem dX4_hashWork_109 : decode cX4_hashWork 109 = .ok (.iconst 0, 1) := by decide +kernel
theorem dX4_hashWork_110 : decode cX4_hashWork 110 = .ok (.istore_n 3, 1) := by decide +kernel
theorem dX4_hashWork_111 : decode cX4_hashWork 111 = .ok (.iload_n 3, 1) := by decide +kernel
theorem dX4_hashWork_112 : decode cX4_hashWork 112 = .ok (.bipush 8, 2) := by decide +kernel
theorem dX4_hashWork_114 : decode cX4_hashWork 114 = .ok (.if_icmp .ge 19, 3) := by decide +kernel
theorem dX4_hashWork_117 : decode cX4_hashWork 117 = .ok (.aload_n 1, 1) := by decide +kernel
theorem dX4_hashWork_118 : decode cX4_hashWork 118 = .ok (.aload_n 0, 1) := by decide +kernel
theorem dX4_hashWork_119 : decode cX4_hashWork 119 = .ok (.getfield 11, 3) := by decide +kernel
theorem dX4_hashWork_122 : decode cX4_hashWork 122 = .ok (.iload_n 3, 1) := by decide +kernel
theorem dX4_hashWork_123 : decode cX4_hashWork 123 = .ok (.iaload, 1) := by decide +kernel
theorem dX4_hashWork_124 : decode cX4_hashWork 124 = .ok (.invokevirtual 91, 3) := by decide +kernel
theorem dX4_hashWork_127 : decode cX4_hashWork 127 = .ok (.iinc 3 1, 3) := by decide +kernel
theorem dX4_hashWork_130 : decode cX4_hashWork 130 = .ok (.goto (-19), 3) := by decide +kernel
theorem dX4_hashWork_133 : decode cX4_hashWork 133 = .ok (.return_, 1) := by decide +kernel
theorem dX4_mixWords_0 : decode cX4_mixWords 0 = .ok (.aload_n 0, 1) := by decide +kernel
theorem dX4_mixWords_1 : decode cX4_mixWords 1 = .ok (.getfield 11, 3) := by decide +kernel
theorem dX4_mixWords_4 : decode cX4_mixWords 4 = .ok (.iconst 0, 1) := by decide +kernel
theorem dX4_mixWords_5 : decode cX4_mixWords 5 = .ok (.iaload, 1) := by decide +kernel
theorem dX4_mixWords_6 : decode cX4_mixWords 6 = .ok (.istore_n 1, 1) := by decide +kernel
theorem dX4_mixWords_7 : decode cX4_mixWords 7 = .ok (.aload_n 0, 1) := by decide +kernel
theorem dX4_mixWords_8 : decode cX4_mixWords 8 = .ok (.getfield 11, 3) := by decide +kernel
theorem dX4_mixWords_11 : decode cX4_mixWords 11 = .ok (.iconst 1, 1) := by decide +kernel
theorem dX4_mixWords_12 : decode cX4_mixWords 12 = .ok (.iaload, 1) := by decide +kernel
theorem dX4_mixWords_13 : decode cX4_mixWords 13 = .ok (.istore_n 2, 1) := by decide +kernel
theorem dX4_mixWords_14 : decode cX4_mixWords 14 = .ok (.aload_n 0, 1) := by decide +kernel
theorem dX4_mixWords_15 : decode cX4_mixWords 15 = .ok (.getfield 11, 3) := by decide +kernel
theorem dX4_mixWords_18 : decode cX4_mixWords 18 = .ok (.iconst 2, 1) := by decide +kernel
theorem dX4_mixWords_19 : decode cX4_mixWords 19 = .ok (.iaload, 1) := by decide +kernel
theorem dX4_mixWords_20 : decode cX4_mixWords 20 = .ok (.istore_n 3, 1) := by decide +kernel
theorem dX4_mixWords_21 : decode cX4_mixWords 21 = .ok (.aload_n 0, 1) := by decide +kernel
theorem dX4_mixWords_22 : decode cX4_mixWords 22 = .ok (.getfield 11, 3) := by decide +kernel
theorem dX4_mixWords_25 : decode cX4_mixWords 25 = .ok (.iconst 3, 1) := by decide +kernel
theorem dX4_mixWords_26 : decode cX4_mixWords 26 = .ok (.iaload, 1) := by decide +kernel
theorem dX4_mixWords_27 : decode cX4_mixWords 27 = .ok (.istore 4, 2) := by decide +kernel
theorem dX4_mixWords_29 : decode cX4_mixWords 29 = .ok (.aload_n 0, 1) := by decide +kernel
theorem dX4_mixWords_30 : decode cX4_mixWords 30 = .ok (.getfield 11, 3) := by decide +kernel
theorem dX4_mixWords_33 : decode cX4_mixWords 33 = .ok (.iconst 4, 1) := by decide +kernel
theorem dX4_mixWords_34 : decode cX4_mixWords 34 = .ok (.iaload, 1) := by decide +kernel
theorem dX4_mixWords_35 : decode cX4_mixWords 35 = .ok (.istore 5, 2) := by decide +kernel
theorem dX4_mixWords_37 : decode cX4_mixWords 37 = .ok (.aload_n 0, 1) := by decide +kernel
theorem dX4_mixWords_38 : decode cX4_mixWords 38 = .ok (.getfield 11, 3) := by decide +kernel
theorem dX4_mixWords_41 : decode cX4_mixWords 41 = .ok (.iconst 5, 1) := by decide +kernel
theorem dX4_mixWords_42 : decode cX4_mixWords 42 = .ok (.iaload, 1) := by decide +kernel
theorem dX4_mixWords_43 : decode cX4_mixWords 43 = .ok (.istore 6, 2) := by decide +kernel
theorem dX4_mixWords_45 : decode cX4_mixWords 45 = .ok (.aload_n 0, 1) := by decide +kernel
theorem dX4_mixWords_46 : decode cX4_mixWords 46 = .ok (.getfield 11, 3) := by decide +kernel
theorem dX4_mixWords_49 : decode cX4_mixWords 49 = .ok (.bipush 6, 2) := by decide +kernel
theorem dX4_mixWords_51 : decode cX4_mixWords 51 = .ok (.iaload, 1) := by decide +kernel
theorem dX4_mixWords_52 : decode cX4_mixWords 52 = .ok (.istore 7, 2) := by decide +kernel
theorem dX4_mixWords_54 : decode cX4_mixWords 54 = .ok (.aload_n 0, 1) := by decide +kernel
theorem dX4_mixWords_55 : decode cX4_mixWords 55 = .ok (.getfield 11, 3) := by decide +kernel
theorem dX4_mixWords_58 : decode cX4_mixWords 58 = .ok (.bipush 7, 2) := by decide +kernel
theorem dX4_mixWords_60 : decode cX4_mixWords 60 = .ok (.iaload, 1) := by decide +kernel
theorem dX4_mixWords_61 : decode cX4_mixWords 61 = .ok (.istore 8, 2) := by decide +kernel
theorem dX4_mixWords_63 : decode cX4_mixWords 63 = .ok (.iconst 0, 1) := by decide +kernel
theorem dX4_mixWords_64 : decode cX4_mixWords 64 = .ok (.istore 9, 2) := by decide +kernel
theorem dX4_mixWords_66 : decode cX4_mixWords 66 = .ok (.iload 9, 2) := by decide +kernel
theorem dX4_mixWords_68 : decode cX4_mixWords 68 = .ok (.bipush 64, 2) := by decide +kernel
theorem dX4_mixWords_70 : decode cX4_mixWords 70 = .ok (.if_icmp .ge 152, 3) := by decide +kernel
theorem dX4_mixWords_73 : decode cX4_mixWords 73 = .ok (.iload 8, 2) := by decide +kernel
theorem dX4_mixWords_75 : decode cX4_mixWords 75 = .ok (.iload 5, 2) := by decide +kernel
theorem dX4_mixWords_77 : decode cX4_mixWords 77 = .ok (.bipush 6, 2) := by decide +kernel
theorem dX4_mixWords_79 : decode cX4_mixWords 79 = .ok (.iushr, 1) := by decide +kernel
theorem dX4_mixWords_80 : decode cX4_mixWords 80 = .ok (.iload 5, 2) := by decide +kernel
theorem dX4_mixWords_82 : decode cX4_mixWords 82 = .ok (.bipush 26, 2) := by decide +kernel
theorem dX4_mixWords_84 : decode cX4_mixWords 84 = .ok (.ishl, 1) := by decide +kernel
theorem dX4_mixWords_85 : decode cX4_mixWords 85 = .ok (.ior, 1) := by decide +kernel
theorem dX4_mixWords_86 : decode cX4_mixWords 86 = .ok (.iload 5, 2) := by decide +kernel
theorem dX4_mixWords_88 : decode cX4_mixWords 88 = .ok (.bipush 11, 2) := by decide +kernel
theorem dX4_mixWords_90 : decode cX4_mixWords 90 = .ok (.iushr, 1) := by decide +kernel
theorem dX4_mixWords_91 : decode cX4_mixWords 91 = .ok (.iload 5, 2) := by decide +kernel
theorem dX4_mixWords_93 : decode cX4_mixWords 93 = .ok (.bipush 21, 2) := by decide +kernel
theorem dX4_mixWords_95 : decode cX4_mixWords 95 = .ok (.ishl, 1) := by decide +kernel
theorem dX4_mixWords_96 : decode cX4_mixWords 96 = .ok (.ior, 1) := by decide +kernel
theorem dX4_mixWords_97 : decode cX4_mixWords 97 = .ok (.ixor, 1) := by decide +kernel
theorem dX4_mixWords_98 : decode cX4_mixWords 98 = .ok (.iload 5, 2) := by decide +kernel
theorem dX4_mixWords_100 : decode cX4_mixWords 100 = .ok (.bipush 25, 2) := by decide +kernel
theorem dX4_mixWords_102 : decode cX4_mixWords 102 = .ok (.iushr, 1) := by decide +kernel
theorem dX4_mixWords_103 : decode cX4_mixWords 103 = .ok (.iload 5, 2) := by decide +kernel
theorem dX4_mixWords_105 : decode cX4_mixWords 105 = .ok (.bipush 7, 2) := by decide +kernel
theorem dX4_mixWords_107 : decode cX4_mixWords 107 = .ok (.ishl, 1) := by decide +kernel
theorem dX4_mixWords_108 : decode cX4_mixWords 108 = .ok (.ior, 1) := by decide +kernel
theorem dX4_mixWords_109 : decode cX4_mixWords 109 = .ok (.ixor, 1) := by decide +kernel
theorem dX4_mixWords_110 : decode cX4_mixWords 110 = .ok (.iadd, 1) := by decide +kernel
theorem dX4_mixWords_111 : decode cX4_mixWords 111 = .ok (.iload 5, 2) := by decide +kernel
theorem dX4_mixWords_113 : decode cX4_mixWords 113 = .ok (.iload 6, 2) := by decide +kernel
theorem dX4_mixWords_115 : decode cX4_mixWords 115 = .ok (.iand, 1) := by decide +kernel
theorem dX4_mixWords_116 : decode cX4_mixWords 116 = .ok (.iload 5, 2) := by decide +kernel
theorem dX4_mixWords_118 : decode cX4_mixWords 118 = .ok (.iconst (-1), 1) := by decide +kernel
theorem dX4_mixWords_119 : decode cX4_mixWords 119 = .ok (.ixor, 1) := by decide +kernel
theorem dX4_mixWords_120 : decode cX4_mixWords 120 = .ok (.iload 7, 2) := by decide +kernel
theorem dX4_mixWords_122 : decode cX4_mixWords 122 = .ok (.iand, 1) := by decide +kernel
theorem dX4_mixWords_123 : decode cX4_mixWords 123 = .ok (.ixor, 1) := by decide +kernel
theorem dX4_mixWords_124 : decode cX4_mixWords 124 = .ok (.iadd, 1) := by decide +kernel
theorem dX4_mixWords_125 : decode cX4_mixWords 125 = .ok (.getstatic 109, 3) := by decide +kernel
theorem dX4_mixWords_128 : decode cX4_mixWords 128 = .ok (.iload 9, 2) := by decide +kernel
theorem dX4_mixWords_130 : decode cX4_mixWords 130 = .ok (.iaload, 1) := by decide +kernel
theorem dX4_mixWords_131 : decode cX4_mixWords 131 = .ok (.iadd, 1) := by decide +kernel
theorem dX4_mixWords_132 : decode cX4_mixWords 132 = .ok (.aload_n 0, 1) := by decide +kernel
theorem dX4_mixWords_133 : decode cX4_mixWords 133 = .ok (.getfield 15, 3) := by decide +kernel
theorem dX4_mixWords_136 : decode cX4_mixWords 136 = .ok (.iload 9, 2) := by decide +kernel
theorem dX4_mixWords_138 : decode cX4_mixWords 138 = .ok (.iaload, 1) := by decide +kernel
theorem dX4_mixWords_139 : decode cX4_mixWords 139 = .ok (.iadd, 1) := by decide +kernel
theorem dX4_mixWords_140 : decode cX4_mixWords 140 = .ok (.istore 10, 2) := by decide +kernel
theorem dX4_mixWords_142 : decode cX4_mixWords 142 = .ok (.iload_n 1, 1) := by decide +kernel
theorem dX4_mixWords_143 : decode cX4_mixWords 143 = .ok (.iconst 2, 1) := by decide +kernel
theorem dX4_mixWords_144 : decode cX4_mixWords 144 = .ok (.iushr, 1) := by decide +kernel
theorem dX4_mixWords_145 : decode cX4_mixWords 145 = .ok (.iload_n 1, 1) := by decide +kernel
theorem dX4_mixWords_146 : decode cX4_mixWords 146 = .ok (.bipush 30, 2) := by decide +kernel
theorem dX4_mixWords_148 : decode cX4_mixWords 148 = .ok (.ishl, 1) := by decide +kernel
theorem dX4_mixWords_149 : decode cX4_mixWords 149 = .ok (.ior, 1) := by decide +kernel
theorem dX4_mixWords_150 : decode cX4_mixWords 150 = .ok (.iload_n 1, 1) := by decide +kernel
theorem dX4_mixWords_151 : decode cX4_mixWords 151 = .ok (.bipush 13, 2) := by decide +kernel
theorem dX4_mixWords_153 : decode cX4_mixWords 153 = .ok (.iushr, 1) := by decide +kernel
theorem dX4_mixWords_154 : decode cX4_mixWords 154 = .ok (.iload_n 1, 1) := by decide +kernel
theorem dX4_mixWords_155 : decode cX4_mixWords 155 = .ok (.bipush 19, 2) := by decide +kernel
theorem dX4_mixWords_157 : decode cX4_mixWords 157 = .ok (.ishl, 1) := by decide +kernel
theorem dX4_mixWords_158 : decode cX4_mixWords 158 = .ok (.ior, 1) := by decide +kernel
theorem dX4_mixWords_159 : decode cX4_mixWords 159 = .ok (.ixor, 1) := by decide +kernel
theorem dX4_mixWords_160 : decode cX4_mixWords 160 = .ok (.iload_n 1, 1) := by decide +kernel
theorem dX4_mixWords_161 : decode cX4_mixWords 161 = .ok (.bipush 22, 2) := by decide +kernel
theorem dX4_mixWords_163 : decode cX4_mixWords 163 = .ok (.iushr, 1) := by decide +kernel
theorem dX4_mixWords_164 : decode cX4_mixWords 164 = .ok (.iload_n 1, 1) := by decide +kernel
