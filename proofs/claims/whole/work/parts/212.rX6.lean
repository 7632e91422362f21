set_option maxRecDepth 20000 in
theorem ggX6_init_X3_init : GoodIn wsX6_init wsX3_init := goodIn_r _ [15, 16, 2, 3, 17, 18, 19, 20, 21, 22, 30, 31] rfl (by decide +kernel)
set_option maxRecDepth 20000 in
theorem gX6_init_X3_init : GoodIn wsX6_init (wsX3_init) := ggX6_init_X3_init
set_option maxRecDepth 20000 in
theorem ggX6_init_X1_init : GoodIn wsX6_init wsX1_init := goodIn_r _ [24, 25, 2, 3, 26, 5, 6, 27, 28, 29, 14, 15, 16, 17, 18, 19, 20, 21, 22, 30, 31, 37, 38] rfl (by decide +kernel)
set_option maxRecDepth 20000 in
theorem gX6_init_X1_init_n29 : GoodIn wsX6_init (wsX1_init) := ggX6_init_X1_init
theorem dX6_init_0 : decode cX6_init 0 = .ok (.aload_n 0, 1) := by decide +kernel
theorem dX6_init_1 : decode cX6_init 1 = .ok (.invokespecial 3, 3) := by decide +kernel
theorem dX6_init_4 : decode cX6_init 4 = .ok (.aload_n 0, 1) := by decide +kernel
theorem dX6_init_5 : decode cX6_init 5 = .ok (.new 9, 3) := by decide +kernel
theorem dX6_init_8 : decode cX6_init 8 = .ok (.dup, 1) := by decide +kernel
theorem dX6_init_9 : decode cX6_init 9 = .ok (.bipush 60, 2) := by decide +kernel
theorem dX6_init_11 : decode cX6_init 11 = .ok (.invokespecial 11, 3) := by decide +kernel
theorem dX6_init_14 : decode cX6_init 14 = .ok (.putfield 14, 3) := by decide +kernel
theorem dX6_init_17 : decode cX6_init 17 = .ok (.aload_n 0, 1) := by decide +kernel
theorem dX6_init_18 : decode cX6_init 18 = .ok (.new 9, 3) := by decide +kernel
theorem dX6_init_21 : decode cX6_init 21 = .ok (.dup, 1) := by decide +kernel
theorem dX6_init_22 : decode cX6_init 22 = .ok (.bipush 32, 2) := by decide +kernel
theorem dX6_init_24 : decode cX6_init 24 = .ok (.invokespecial 11, 3) := by decide +kernel
theorem dX6_init_27 : decode cX6_init 27 = .ok (.putfield 20, 3) := by decide +kernel
theorem dX6_init_30 : decode cX6_init 30 = .ok (.aload_n 0, 1) := by decide +kernel
theorem dX6_init_31 : decode cX6_init 31 = .ok (.bipush 10, 2) := by decide +kernel
theorem dX6_init_33 : decode cX6_init 33 = .ok (.anewarray 23, 3) := by decide +kernel
theorem dX6_init_36 : decode cX6_init 36 = .ok (.putfield 25, 3) := by decide +kernel
theorem dX6_init_39 : decode cX6_init 39 = .ok (.iconst 0, 1) := by decide +kernel
theorem dX6_init_40 : decode cX6_init 40 = .ok (.istore_n 1, 1) := by decide +kernel
theorem dX6_init_41 : decode cX6_init 41 = .ok (.iload_n 1, 1) := by decide +kernel
theorem dX6_init_42 : decode cX6_init 42 = .ok (.bipush 10, 2) := by decide +kernel
theorem dX6_init_44 : decode cX6_init 44 = .ok (.if_icmp .ge 22, 3) := by decide +kernel
theorem dX6_init_47 : decode cX6_init 47 = .ok (.aload_n 0, 1) := by decide +kernel
theorem dX6_init_48 : decode cX6_init 48 = .ok (.getfield 25, 3) := by decide +kernel
theorem dX6_init_51 : decode cX6_init 51 = .ok (.iload_n 1, 1) := by decide +kernel
theorem dX6_init_52 : decode cX6_init 52 = .ok (.new 23, 3) := by decide +kernel
theorem dX6_init_55 : decode cX6_init 55 = .ok (.dup, 1) := by decide +kernel
theorem dX6_init_56 : decode cX6_init 56 = .ok (.invokespecial 29, 3) := by decide +kernel
theorem dX6_init_59 : decode cX6_init 59 = .ok (.aastore, 1) := by decide +kernel
theorem dX6_init_60 : decode cX6_init 60 = .ok (.iinc 1 1, 3) := by decide +kernel
theorem dX6_init_63 : decode cX6_init 63 = .ok (.goto (-22), 3) := by decide +kernel
theorem dX6_init_66 : decode cX6_init 66 = .ok (.return_, 1) := by decide +kernel
theorem dX6_isFull_0 : decode cX6_isFull 0 = .ok (.aload_n 0, 1) := by decide +kernel
theorem dX6_isFull_1 : decode cX6_isFull 1 = .ok (.getfield 30, 3) := by decide +kernel
theorem dX6_isFull_4 : decode cX6_isFull 4 = .ok (.bipush 10, 2) := by decide +kernel
theorem dX6_isFull_6 : decode cX6_isFull 6 = .ok (.if_icmp .lt 7, 3) := by decide +kernel
theorem dX6_isFull_9 : decode cX6_isFull 9 = .ok (.iconst 1, 1) := by decide +kernel
theorem dX6_isFull_10 : decode cX6_isFull 10 = .ok (.goto 4, 3) := by decide +kernel
theorem dX6_isFull_13 : decode cX6_isFull 13 = .ok (.iconst 0, 1) := by decide +kernel
theorem dX6_isFull_14 : decode cX6_isFull 14 = .ok (.ireturn, 1) := by decide +kernel
set_option maxRecDepth 20000 in
theorem ggX6_limitTold_X1_isOfOthers : GoodIn wsX6_limitTold wsX1_isOfOthers := goodIn_r _ [9, 10, 11, 17, 18, 19, 20] rfl (by decide +kernel)
set_option maxRecDepth 20000 in
theorem gX6_limitTold_X1_isOfOthers : GoodIn wsX6_limitTold (wsV RX6 40 RX1 yX1_isOfOthers wsX1_isOfOthers) := goodIn_app (goodIn_of _ (by decide +kernel)) ggX6_limitTold_X1_isOfOthers
theorem dX6_limitTold_0 : decode cX6_limitTold 0 = .ok (.iload_n 1, 1) := by decide +kernel
theorem dX6_limitTold_1 : decode cX6_limitTold 1 = .ok (.ifCond .lt 11, 3) := by decide +kernel
theorem dX6_limitTold_4 : decode cX6_limitTold 4 = .ok (.iload_n 1, 1) := by decide +kernel
theorem dX6_limitTold_5 : decode cX6_limitTold 5 = .ok (.aload_n 0, 1) := by decide +kernel
theorem dX6_limitTold_6 : decode cX6_limitTold 6 = .ok (.getfield 30, 3) := by decide +kernel
theorem dX6_limitTold_9 : decode cX6_limitTold 9 = .ok (.if_icmp .lt 5, 3) := by decide +kernel
theorem dX6_limitTold_12 : decode cX6_limitTold 12 = .ok (.iconst 0, 1) := by decide +kernel
theorem dX6_limitTold_13 : decode cX6_limitTold 13 = .ok (.ireturn, 1) := by decide +kernel
theorem dX6_limitTold_14 : decode cX6_limitTold 14 = .ok (.aload_n 0, 1) := by decide +kernel
theorem dX6_limitTold_15 : decode cX6_limitTold 15 = .ok (.getfield 25, 3) := by decide +kernel
theorem dX6_limitTold_18 : decode cX6_limitTold 18 = .ok (.iload_n 1, 1) := by decide +kernel
theorem dX6_limitTold_19 : decode cX6_limitTold 19 = .ok (.aaload, 1) := by decide +kernel
theorem dX6_limitTold_20 : decode cX6_limitTold 20 = .ok (.getfield 34, 3) := by decide +kernel
theorem dX6_limitTold_23 : decode cX6_limitTold 23 = .ok (.getfield 37, 3) := by decide +kernel
theorem dX6_limitTold_26 : decode cX6_limitTold 26 = .ok (.aload_n 0, 1) := by decide +kernel
theorem dX6_limitTold_27 : decode cX6_limitTold 27 = .ok (.getfield 25, 3) := by decide +kernel
theorem dX6_limitTold_30 : decode cX6_limitTold 30 = .ok (.iload_n 1, 1) := by decide +kernel
theorem dX6_limitTold_31 : decode cX6_limitTold 31 = .ok (.aaload, 1) := by decide +kernel
theorem dX6_limitTold_32 : decode cX6_limitTold 32 = .ok (.invokevirtual 40, 3) := by decide +kernel
theorem dX6_limitTold_35 : decode cX6_limitTold 35 = .ok (.ifCond .eq 8, 3) := by decide +kernel
theorem dX6_limitTold_38 : decode cX6_limitTold 38 = .ok (.bipush 100, 2) := by decide +kernel
theorem dX6_limitTold_40 : decode cX6_limitTold 40 = .ok (.goto 4, 3) := by decide +kernel
theorem dX6_limitTold_43 : decode cX6_limitTold 43 = .ok (.iconst 0, 1) := by decide +kernel
theorem dX6_limitTold_44 : decode cX6_limitTold 44 = .ok (.iadd, 1) := by decide +kernel
theorem dX6_limitTold_45 : decode cX6_limitTold 45 = .ok (.ireturn, 1) := by decide +kernel
set_option maxRecDepth 20000 in
theorem ggX6_takeOver_X3_takeOver : GoodIn wsX6_takeOver wsX3_takeOver := goodIn_r _ [10, 11, 12, 13, 14, 9, 15, 16, 17, 18, 19, 20, 34, 35] rfl (by decide +kernel)
set_option maxRecDepth 20000 in
theorem gX6_takeOver_X3_takeOver : GoodIn wsX6_takeOver (wsV RX6 44 RX3 yX3_takeOver wsX3_takeOver) := goodIn_app (goodIn_of _ (by decide +kernel)) ggX6_takeOver_X3_takeOver
set_option maxRecDepth 20000 in
theorem ggX6_takeOver_X1_takeOver : GoodIn wsX6_takeOver wsX1_takeOver := goodIn_r _ [25, 26, 27, 28, 7, 8, 9, 10, 11, 12, 13, 14, 15, 16, 17, 18, 19, 20, 36, 37, 34, 35] rfl (by decide +kernel)
set_option maxRecDepth 20000 in
theorem gX6_takeOver_X1_takeOver : GoodIn wsX6_takeOver (wsV RX6 48 RX1 yX1_takeOver wsX1_takeOver) := goodIn_app (goodIn_of _ (by decide +kernel)) ggX6_takeOver_X1_takeOver
theorem dX6_takeOver_0 : decode cX6_takeOver 0 = .ok (.aload_n 0, 1) := by decide +kernel
theorem dX6_takeOver_1 : decode cX6_takeOver 1 = .ok (.getfield 14, 3) := by decide +kernel
theorem dX6_takeOver_4 : decode cX6_takeOver 4 = .ok (.aload_n 1, 1) := by decide +kernel
theorem dX6_takeOver_5 : decode cX6_takeOver 5 = .ok (.getfield 14, 3) := by decide +kernel
theorem dX6_takeOver_8 : decode cX6_takeOver 8 = .ok (.invokevirtual 44, 3) := by decide +kernel
theorem dX6_takeOver_11 : decode cX6_takeOver 11 = .ok (.aload_n 0, 1) := by decide +kernel
theorem dX6_takeOver_12 : decode cX6_takeOver 12 = .ok (.getfield 20, 3) := by decide +kernel
theorem dX6_takeOver_15 : decode cX6_takeOver 15 = .ok (.aload_n 1, 1) := by decide +kernel
theorem dX6_takeOver_16 : decode cX6_takeOver 16 = .ok (.getfield 20, 3) := by decide +kernel
theorem dX6_takeOver_19 : decode cX6_takeOver 19 = .ok (.invokevirtual 44, 3) := by decide +kernel
theorem dX6_takeOver_22 : decode cX6_takeOver 22 = .ok (.iconst 0, 1) := by decide +kernel
theorem dX6_takeOver_23 : decode cX6_takeOver 23 = .ok (.istore_n 2, 1) := by decide +kernel
theorem dX6_takeOver_24 : decode cX6_takeOver 24 = .ok (.iload_n 2, 1) := by decide +kernel
theorem dX6_takeOver_25 : decode cX6_takeOver 25 = .ok (.aload_n 1, 1) := by decide +kernel
theorem dX6_takeOver_26 : decode cX6_takeOver 26 = .ok (.getfield 30, 3) := by decide +kernel
theorem dX6_takeOver_29 : decode cX6_takeOver 29 = .ok (.if_icmp .ge 24, 3) := by decide +kernel
theorem dX6_takeOver_32 : decode cX6_takeOver 32 = .ok (.aload_n 0, 1) := by decide +kernel
theorem dX6_takeOver_33 : decode cX6_takeOver 33 = .ok (.getfield 25, 3) := by decide +kernel
theorem dX6_takeOver_36 : decode cX6_takeOver 36 = .ok (.iload_n 2, 1) := by decide +kernel
theorem dX6_takeOver_37 : decode cX6_takeOver 37 = .ok (.aaload, 1) := by decide +kernel
theorem dX6_takeOver_38 : decode cX6_takeOver 38 = .ok (.aload_n 1, 1) := by decide +kernel
theorem dX6_takeOver_39 : decode cX6_takeOver 39 = .ok (.getfield 25, 3) := by decide +kernel
theorem dX6_takeOver_42 : decode cX6_takeOver 42 = .ok (.iload_n 2, 1) := by decide +kernel
theorem dX6_takeOver_43 : decode cX6_takeOver 43 = .ok (.aaload, 1) := by decide +kernel
theorem dX6_takeOver_44 : decode cX6_takeOver 44 = .ok (.invokevirtual 48, 3) := by decide +kernel
theorem dX6_takeOver_47 : decode cX6_takeOver 47 = .ok (.iinc 2 1, 3) := by decide +kernel
theorem dX6_takeOver_50 : decode cX6_takeOver 50 = .ok (.goto (-26), 3) := by decide +kernel
theorem dX6_takeOver_53 : decode cX6_takeOver 53 = .ok (.aload_n 0, 1) := by decide +kernel
theorem dX6_takeOver_54 : decode cX6_takeOver 54 = .ok (.aload_n 1, 1) := by decide +kernel
theorem dX6_takeOver_55 : decode cX6_takeOver 55 = .ok (.getfield 30, 3) := by decide +kernel
theorem dX6_takeOver_58 : decode cX6_takeOver 58 = .ok (.putfield 30, 3) := by decide +kernel
theorem dX6_takeOver_61 : decode cX6_takeOver 61 = .ok (.aload_n 0, 1) := by decide +kernel
theorem dX6_takeOver_62 : decode cX6_takeOver 62 = .ok (.aload_n 1, 1) := by decide +kernel
theorem dX6_takeOver_63 : decode cX6_takeOver 63 = .ok (.getfield 51, 3) := by decide +kernel
theorem dX6_takeOver_66 : decode cX6_takeOver 66 = .ok (.putfield 51, 3) := by decide +kernel
theorem dX6_takeOver_69 : decode cX6_takeOver 69 = .ok (.return_, 1) := by decide +kernel
set_option maxRecDepth 20000 in
theorem ggX6_putOn_X3_push : GoodIn wsX6_putOn wsX3_push := goodIn_r _ [10, 11, 12, 44, 45] rfl (by decide +kernel)
set_option maxRecDepth 20000 in
theorem gX6_putOn_X3_push : GoodIn wsX6_putOn (wsV RX6 55 RX3 yX3_push wsX3_push) := goodIn_app (goodIn_of _ (by decide +kernel)) ggX6_putOn_X3_push
set_option maxRecDepth 20000 in
theorem ggX6_putOn_X3_pushAll : GoodIn wsX6_putOn wsX3_pushAll := goodIn_r _ [16, 11, 17, 18, 19, 9, 20, 12, 21, 22, 23, 24, 44, 45] rfl (by decide +kernel)
set_option maxRecDepth 20000 in
theorem gX6_putOn_X3_pushAll : GoodIn wsX6_putOn (wsV RX6 58 RX3 yX3_pushAll wsX3_pushAll) := goodIn_app (goodIn_of _ (by decide +kernel)) ggX6_putOn_X3_pushAll
set_option maxRecDepth 20000 in
theorem ggX6_putOn_X1_putOn : GoodIn wsX6_putOn wsX1_putOn := goodIn_r _ [29, 30, 31, 32, 33, 7, 8, 9, 10, 11, 12, 34, 14, 15, 16, 17, 18, 19, 20, 21, 22, 23, 24, 35, 36, 37, 28, 38, 46, 47, 44, 45] rfl (by decide +kernel)
set_option maxRecDepth 20000 in
theorem gX6_putOn_X1_putOn : GoodIn wsX6_putOn (wsV RX6 61 RX1 yX1_putOn wsX1_putOn) := goodIn_app (goodIn_of _ (by decide +kernel)) ggX6_putOn_X1_putOn
theorem dX6_putOn_0 : decode cX6_putOn 0 = .ok (.aload_n 1, 1) := by decide +kernel
theorem dX6_putOn_1 : decode cX6_putOn 1 = .ok (.iconst 2, 1) := by decide +kernel
theorem dX6_putOn_2 : decode cX6_putOn 2 = .ok (.invokevirtual 55, 3) := by decide +kernel
theorem dX6_putOn_5 : decode cX6_putOn 5 = .ok (.aload_n 1, 1) := by decide +kernel
theorem dX6_putOn_6 : decode cX6_putOn 6 = .ok (.iconst 2, 1) := by decide +kernel
theorem dX6_putOn_7 : decode cX6_putOn 7 = .ok (.invokevirtual 55, 3) := by decide +kernel
theorem dX6_putOn_10 : decode cX6_putOn 10 = .ok (.aload_n 1, 1) := by decide +kernel
theorem dX6_putOn_11 : decode cX6_putOn 11 = .ok (.aload_n 0, 1) := by decide +kernel
theorem dX6_putOn_12 : decode cX6_putOn 12 = .ok (.getfield 14, 3) := by decide +kernel
theorem dX6_putOn_15 : decode cX6_putOn 15 = .ok (.getfield 37, 3) := by decide +kernel
theorem dX6_putOn_18 : decode cX6_putOn 18 = .ok (.invokevirtual 55, 3) := by decide +kernel
theorem dX6_putOn_21 : decode cX6_putOn 21 = .ok (.aload_n 1, 1) := by decide +kernel
theorem dX6_putOn_22 : decode cX6_putOn 22 = .ok (.aload_n 0, 1) := by decide +kernel
theorem dX6_putOn_23 : decode cX6_putOn 23 = .ok (.getfield 14, 3) := by decide +kernel
theorem dX6_putOn_26 : decode cX6_putOn 26 = .ok (.invokevirtual 58, 3) := by decide +kernel
theorem dX6_putOn_29 : decode cX6_putOn 29 = .ok (.aload_n 1, 1) := by decide +kernel
theorem dX6_putOn_30 : decode cX6_putOn 30 = .ok (.iconst 0, 1) := by decide +kernel
theorem dX6_putOn_31 : decode cX6_putOn 31 = .ok (.invokevirtual 55, 3) := by decide +kernel
theorem dX6_putOn_34 : decode cX6_putOn 34 = .ok (.iconst 0, 1) := by decide +kernel
theorem dX6_putOn_35 : decode cX6_putOn 35 = .ok (.istore_n 2, 1) := by decide +kernel
theorem dX6_putOn_36 : decode cX6_putOn 36 = .ok (.iload_n 2, 1) := by decide +kernel
theorem dX6_putOn_37 : decode cX6_putOn 37 = .ok (.aload_n 0, 1) := by decide +kernel
theorem dX6_putOn_38 : decode cX6_putOn 38 = .ok (.getfield 30, 3) := by decide +kernel
theorem dX6_putOn_41 : decode cX6_putOn 41 = .ok (.if_icmp .ge 19, 3) := by decide +kernel
theorem dX6_putOn_44 : decode cX6_putOn 44 = .ok (.aload_n 0, 1) := by decide +kernel
theorem dX6_putOn_45 : decode cX6_putOn 45 = .ok (.getfield 25, 3) := by decide +kernel
theorem dX6_putOn_48 : decode cX6_putOn 48 = .ok (.iload_n 2, 1) := by decide +kernel
theorem dX6_putOn_49 : decode cX6_putOn 49 = .ok (.aaload, 1) := by decide +kernel
theorem dX6_putOn_50 : decode cX6_putOn 50 = .ok (.aload_n 1, 1) := by decide +kernel
theorem dX6_putOn_51 : decode cX6_putOn 51 = .ok (.invokevirtual 61, 3) := by decide +kernel
theorem dX6_putOn_54 : decode cX6_putOn 54 = .ok (.iinc 2 1, 3) := by decide +kernel
theorem dX6_putOn_57 : decode cX6_putOn 57 = .ok (.goto (-21), 3) := by decide +kernel
theorem dX6_putOn_60 : decode cX6_putOn 60 = .ok (.aload_n 1, 1) := by decide +kernel
theorem dX6_putOn_61 : decode cX6_putOn 61 = .ok (.iconst 0, 1) := by decide +kernel
theorem dX6_putOn_62 : decode cX6_putOn 62 = .ok (.invokevirtual 55, 3) := by decide +kernel
theorem dX6_putOn_65 : decode cX6_putOn 65 = .ok (.aload_n 1, 1) := by decide +kernel
theorem dX6_putOn_66 : decode cX6_putOn 66 = .ok (.bipush 6, 2) := by decide +kernel
theorem dX6_putOn_68 : decode cX6_putOn 68 = .ok (.invokevirtual 55, 3) := by decide +kernel
theorem dX6_putOn_71 : decode cX6_putOn 71 = .ok (.aload_n 1, 1) := by decide +kernel
theorem dX6_putOn_72 : decode cX6_putOn 72 = .ok (.bipush 32, 2) := by decide +kernel
theorem dX6_putOn_74 : decode cX6_putOn 74 = .ok (.invokevirtual 55, 3) := by decide +kernel
theorem dX6_putOn_77 : decode cX6_putOn 77 = .ok (.aload_n 1, 1) := by decide +kernel
theorem dX6_putOn_78 : decode cX6_putOn 78 = .ok (.aload_n 0, 1) := by decide +kernel
theorem dX6_putOn_79 : decode cX6_putOn 79 = .ok (.getfield 20, 3) := by decide +kernel
theorem dX6_putOn_82 : decode cX6_putOn 82 = .ok (.invokevirtual 58, 3) := by decide +kernel
theorem dX6_putOn_85 : decode cX6_putOn 85 = .ok (.return_, 1) := by decide +kernel
