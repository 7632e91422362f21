set_option maxRecDepth 20000 in
theorem ggX1_init_X3_init : GoodIn wsX1_init wsX3_init := goodIn_r _ [11, 12, 2, 3, 13, 14, 15, 16, 17, 18, 19, 20] rfl (by decide +kernel)
set_option maxRecDepth 20000 in
theorem gX1_init_X3_init : GoodIn wsX1_init (wsX3_init) := ggX1_init_X3_init
theorem dX1_init_0 : decode cX1_init 0 = .ok (.aload_n 0, 1) := by decide +kernel
theorem dX1_init_1 : decode cX1_init 1 = .ok (.invokespecial 3, 3) := by decide +kernel
theorem dX1_init_4 : decode cX1_init 4 = .ok (.aload_n 0, 1) := by decide +kernel
theorem dX1_init_5 : decode cX1_init 5 = .ok (.new 9, 3) := by decide +kernel
theorem dX1_init_8 : decode cX1_init 8 = .ok (.dup, 1) := by decide +kernel
theorem dX1_init_9 : decode cX1_init 9 = .ok (.bipush 60, 2) := by decide +kernel
theorem dX1_init_11 : decode cX1_init 11 = .ok (.invokespecial 11, 3) := by decide +kernel
theorem dX1_init_14 : decode cX1_init 14 = .ok (.putfield 14, 3) := by decide +kernel
theorem dX1_init_17 : decode cX1_init 17 = .ok (.aload_n 0, 1) := by decide +kernel
theorem dX1_init_18 : decode cX1_init 18 = .ok (.new 9, 3) := by decide +kernel
theorem dX1_init_21 : decode cX1_init 21 = .ok (.dup, 1) := by decide +kernel
theorem dX1_init_22 : decode cX1_init 22 = .ok (.bipush 32, 2) := by decide +kernel
theorem dX1_init_24 : decode cX1_init 24 = .ok (.invokespecial 11, 3) := by decide +kernel
theorem dX1_init_27 : decode cX1_init 27 = .ok (.putfield 20, 3) := by decide +kernel
theorem dX1_init_30 : decode cX1_init 30 = .ok (.return_, 1) := by decide +kernel
theorem dX1_isOfOthers_0 : decode cX1_isOfOthers 0 = .ok (.aload_n 0, 1) := by decide +kernel
theorem dX1_isOfOthers_1 : decode cX1_isOfOthers 1 = .ok (.getfield 20, 3) := by decide +kernel
theorem dX1_isOfOthers_4 : decode cX1_isOfOthers 4 = .ok (.getfield 23, 3) := by decide +kernel
theorem dX1_isOfOthers_7 : decode cX1_isOfOthers 7 = .ok (.ifCond .le 7, 3) := by decide +kernel
theorem dX1_isOfOthers_10 : decode cX1_isOfOthers 10 = .ok (.iconst 1, 1) := by decide +kernel
theorem dX1_isOfOthers_11 : decode cX1_isOfOthers 11 = .ok (.goto 4, 3) := by decide +kernel
theorem dX1_isOfOthers_14 : decode cX1_isOfOthers 14 = .ok (.iconst 0, 1) := by decide +kernel
theorem dX1_isOfOthers_15 : decode cX1_isOfOthers 15 = .ok (.ireturn, 1) := by decide +kernel
set_option maxRecDepth 20000 in
theorem ggX1_takeOver_X3_takeOver : GoodIn wsX1_takeOver wsX3_takeOver := goodIn_r _ [7, 8, 9, 10, 11, 6, 12, 13, 14, 15, 16, 17, 20, 21] rfl (by decide +kernel)
set_option maxRecDepth 20000 in
theorem gX1_takeOver_X3_takeOver : GoodIn wsX1_takeOver (wsV RX1 27 RX3 yX3_takeOver wsX3_takeOver) := goodIn_app (goodIn_of _ (by decide +kernel)) ggX1_takeOver_X3_takeOver
theorem dX1_takeOver_0 : decode cX1_takeOver 0 = .ok (.aload_n 0, 1) := by decide +kernel
theorem dX1_takeOver_1 : decode cX1_takeOver 1 = .ok (.getfield 14, 3) := by decide +kernel
theorem dX1_takeOver_4 : decode cX1_takeOver 4 = .ok (.aload_n 1, 1) := by decide +kernel
theorem dX1_takeOver_5 : decode cX1_takeOver 5 = .ok (.getfield 14, 3) := by decide +kernel
theorem dX1_takeOver_8 : decode cX1_takeOver 8 = .ok (.invokevirtual 27, 3) := by decide +kernel
theorem dX1_takeOver_11 : decode cX1_takeOver 11 = .ok (.aload_n 0, 1) := by decide +kernel
theorem dX1_takeOver_12 : decode cX1_takeOver 12 = .ok (.getfield 20, 3) := by decide +kernel
theorem dX1_takeOver_15 : decode cX1_takeOver 15 = .ok (.aload_n 1, 1) := by decide +kernel
theorem dX1_takeOver_16 : decode cX1_takeOver 16 = .ok (.getfield 20, 3) := by decide +kernel
theorem dX1_takeOver_19 : decode cX1_takeOver 19 = .ok (.invokevirtual 27, 3) := by decide +kernel
theorem dX1_takeOver_22 : decode cX1_takeOver 22 = .ok (.return_, 1) := by decide +kernel
set_option maxRecDepth 20000 in
theorem ggX1_putOn_X3_push : GoodIn wsX1_putOn wsX3_push := goodIn_r _ [8, 9, 10, 30, 31] rfl (by decide +kernel)
set_option maxRecDepth 20000 in
theorem gX1_putOn_X3_push : GoodIn wsX1_putOn (wsV RX1 31 RX3 yX3_push wsX3_push) := goodIn_app (goodIn_of _ (by decide +kernel)) ggX1_putOn_X3_push
set_option maxRecDepth 20000 in
theorem ggX1_putOn_X3_pushAll : GoodIn wsX1_putOn wsX3_pushAll := goodIn_r _ [14, 9, 15, 16, 17, 7, 18, 10, 19, 20, 21, 22, 30, 31] rfl (by decide +kernel)
set_option maxRecDepth 20000 in
theorem gX1_putOn_X3_pushAll : GoodIn wsX1_putOn (wsV RX1 34 RX3 yX3_pushAll wsX3_pushAll) := goodIn_app (goodIn_of _ (by decide +kernel)) ggX1_putOn_X3_pushAll
set_option maxRecDepth 20000 in
theorem ggX1_putOn_X1_isOfOthers : GoodIn wsX1_putOn wsX1_isOfOthers := goodIn_r _ [27, 3, 2, 28, 29, 30, 31] rfl (by decide +kernel)
set_option maxRecDepth 20000 in
theorem gX1_putOn_X1_isOfOthers : GoodIn wsX1_putOn (wsV RX1 37 RX1 yX1_isOfOthers wsX1_isOfOthers) := goodIn_app (goodIn_of _ (by decide +kernel)) ggX1_putOn_X1_isOfOthers
theorem dX1_putOn_0 : decode cX1_putOn 0 = .ok (.aload_n 1, 1) := by decide +kernel
theorem dX1_putOn_1 : decode cX1_putOn 1 = .ok (.iconst 2, 1) := by decide +kernel
theorem dX1_putOn_2 : decode cX1_putOn 2 = .ok (.invokevirtual 31, 3) := by decide +kernel
theorem dX1_putOn_5 : decode cX1_putOn 5 = .ok (.aload_n 1, 1) := by decide +kernel
theorem dX1_putOn_6 : decode cX1_putOn 6 = .ok (.aload_n 0, 1) := by decide +kernel
theorem dX1_putOn_7 : decode cX1_putOn 7 = .ok (.getfield 14, 3) := by decide +kernel
theorem dX1_putOn_10 : decode cX1_putOn 10 = .ok (.getfield 23, 3) := by decide +kernel
theorem dX1_putOn_13 : decode cX1_putOn 13 = .ok (.invokevirtual 31, 3) := by decide +kernel
theorem dX1_putOn_16 : decode cX1_putOn 16 = .ok (.aload_n 1, 1) := by decide +kernel
theorem dX1_putOn_17 : decode cX1_putOn 17 = .ok (.aload_n 0, 1) := by decide +kernel
theorem dX1_putOn_18 : decode cX1_putOn 18 = .ok (.getfield 14, 3) := by decide +kernel
theorem dX1_putOn_21 : decode cX1_putOn 21 = .ok (.invokevirtual 34, 3) := by decide +kernel
theorem dX1_putOn_24 : decode cX1_putOn 24 = .ok (.aload_n 0, 1) := by decide +kernel
theorem dX1_putOn_25 : decode cX1_putOn 25 = .ok (.invokevirtual 37, 3) := by decide +kernel
theorem dX1_putOn_28 : decode cX1_putOn 28 = .ok (.ifCond .eq 22, 3) := by decide +kernel
theorem dX1_putOn_31 : decode cX1_putOn 31 = .ok (.aload_n 1, 1) := by decide +kernel
theorem dX1_putOn_32 : decode cX1_putOn 32 = .ok (.iconst 4, 1) := by decide +kernel
theorem dX1_putOn_33 : decode cX1_putOn 33 = .ok (.invokevirtual 31, 3) := by decide +kernel
theorem dX1_putOn_36 : decode cX1_putOn 36 = .ok (.aload_n 1, 1) := by decide +kernel
theorem dX1_putOn_37 : decode cX1_putOn 37 = .ok (.bipush 32, 2) := by decide +kernel
theorem dX1_putOn_39 : decode cX1_putOn 39 = .ok (.invokevirtual 31, 3) := by decide +kernel
theorem dX1_putOn_42 : decode cX1_putOn 42 = .ok (.aload_n 1, 1) := by decide +kernel
theorem dX1_putOn_43 : decode cX1_putOn 43 = .ok (.aload_n 0, 1) := by decide +kernel
theorem dX1_putOn_44 : decode cX1_putOn 44 = .ok (.getfield 20, 3) := by decide +kernel
theorem dX1_putOn_47 : decode cX1_putOn 47 = .ok (.invokevirtual 34, 3) := by decide +kernel
theorem dX1_putOn_50 : decode cX1_putOn 50 = .ok (.aload_n 1, 1) := by decide +kernel
theorem dX1_putOn_51 : decode cX1_putOn 51 = .ok (.iconst 0, 1) := by decide +kernel
theorem dX1_putOn_52 : decode cX1_putOn 52 = .ok (.invokevirtual 31, 3) := by decide +kernel
theorem dX1_putOn_55 : decode cX1_putOn 55 = .ok (.return_, 1) := by decide +kernel
