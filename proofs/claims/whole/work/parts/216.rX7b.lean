set_option maxRecDepth 20000 in
theorem gX7_copy_X7_isTokenNumber : GoodIn wsX7_copy (va_wsS RX7 100 yX7_isTokenNumber wsX7_isTokenNumber) := goodIn_app (goodIn_of _ (by decide +kernel)) ggX7_copy_X7_isTokenNumber
set_option maxRecDepth 20000 in
theorem ggX7_copy_X6_takeOver : GoodIn wsX7_copy wsX6_takeOver := goodIn_r _ [16, 17, 18, 19, 20, 21, 22, 23, 24, 25, 26, 27, 28, 29, 30, 31, 32, 33, 34, 35, 36, 37, 38, 39, 40, 41, 42, 43, 44, 54, 55, 56, 57, 58, 59, 60, 61, 62] rfl (by decide +kernel)
set_option maxRecDepth 20000 in
theorem gX7_copy_X6_takeOver : GoodIn wsX7_copy (wsV RX7 156 RX6 yX6_takeOver wsX6_takeOver) := goodIn_app (goodIn_of _ (by decide +kernel)) ggX7_copy_X6_takeOver
theorem dX7_copy_0 : decode cX7_copy 0 = .ok (.aload_n 0, 1) := by decide +kernel
theorem dX7_copy_1 : decode cX7_copy 1 = .ok (.iload_n 1, 1) := by decide +kernel
theorem dX7_copy_2 : decode cX7_copy 2 = .ok (.invokevirtual 123, 3) := by decide +kernel
theorem dX7_copy_5 : decode cX7_copy 5 = .ok (.ifCond .eq 10, 3) := by decide +kernel
theorem dX7_copy_8 : decode cX7_copy 8 = .ok (.iload_n 2, 1) := by decide +kernel
theorem dX7_copy_9 : decode cX7_copy 9 = .ok (.invokestatic 100, 3) := by decide +kernel
theorem dX7_copy_12 : decode cX7_copy 12 = .ok (.ifCond .ne 6, 3) := by decide +kernel
theorem dX7_copy_15 : decode cX7_copy 15 = .ok (.bipush (-2), 2) := by decide +kernel
theorem dX7_copy_17 : decode cX7_copy 17 = .ok (.ireturn, 1) := by decide +kernel
theorem dX7_copy_18 : decode cX7_copy 18 = .ok (.aload_n 0, 1) := by decide +kernel
theorem dX7_copy_19 : decode cX7_copy 19 = .ok (.getfield 40, 3) := by decide +kernel
theorem dX7_copy_22 : decode cX7_copy 22 = .ok (.iload_n 2, 1) := by decide +kernel
theorem dX7_copy_23 : decode cX7_copy 23 = .ok (.aaload, 1) := by decide +kernel
theorem dX7_copy_24 : decode cX7_copy 24 = .ok (.aload_n 0, 1) := by decide +kernel
theorem dX7_copy_25 : decode cX7_copy 25 = .ok (.getfield 40, 3) := by decide +kernel
theorem dX7_copy_28 : decode cX7_copy 28 = .ok (.iload_n 1, 1) := by decide +kernel
theorem dX7_copy_29 : decode cX7_copy 29 = .ok (.aaload, 1) := by decide +kernel
theorem dX7_copy_30 : decode cX7_copy 30 = .ok (.invokevirtual 156, 3) := by decide +kernel
theorem dX7_copy_33 : decode cX7_copy 33 = .ok (.aload_n 0, 1) := by decide +kernel
theorem dX7_copy_34 : decode cX7_copy 34 = .ok (.getfield 40, 3) := by decide +kernel
theorem dX7_copy_37 : decode cX7_copy 37 = .ok (.iload_n 2, 1) := by decide +kernel
theorem dX7_copy_38 : decode cX7_copy 38 = .ok (.aaload, 1) := by decide +kernel
theorem dX7_copy_39 : decode cX7_copy 39 = .ok (.getfield 110, 3) := by decide +kernel
theorem dX7_copy_42 : decode cX7_copy 42 = .ok (.ireturn, 1) := by decide +kernel
set_option maxRecDepth 20000 in
theorem ggX7_drop_X7_isTokenNumber : GoodIn wsX7_drop wsX7_isTokenNumber := goodIn_r _ [6] rfl (by decide +kernel)
set_option maxRecDepth 20000 in
theorem gX7_drop_X7_isTokenNumber : GoodIn wsX7_drop (va_wsS RX7 100 yX7_isTokenNumber wsX7_isTokenNumber) := goodIn_app (goodIn_of _ (by decide +kernel)) ggX7_drop_X7_isTokenNumber
theorem dX7_drop_0 : decode cX7_drop 0 = .ok (.iload_n 1, 1) := by decide +kernel
theorem dX7_drop_1 : decode cX7_drop 1 = .ok (.invokestatic 100, 3) := by decide +kernel
theorem dX7_drop_4 : decode cX7_drop 4 = .ok (.ifCond .ne 6, 3) := by decide +kernel
theorem dX7_drop_7 : decode cX7_drop 7 = .ok (.bipush (-2), 2) := by decide +kernel
theorem dX7_drop_9 : decode cX7_drop 9 = .ok (.ireturn, 1) := by decide +kernel
theorem dX7_drop_10 : decode cX7_drop 10 = .ok (.aload_n 0, 1) := by decide +kernel
theorem dX7_drop_11 : decode cX7_drop 11 = .ok (.getfield 40, 3) := by decide +kernel
theorem dX7_drop_14 : decode cX7_drop 14 = .ok (.iload_n 1, 1) := by decide +kernel
theorem dX7_drop_15 : decode cX7_drop 15 = .ok (.aaload, 1) := by decide +kernel
theorem dX7_drop_16 : decode cX7_drop 16 = .ok (.getfield 106, 3) := by decide +kernel
theorem dX7_drop_19 : decode cX7_drop 19 = .ok (.istore_n 2, 1) := by decide +kernel
theorem dX7_drop_20 : decode cX7_drop 20 = .ok (.aload_n 0, 1) := by decide +kernel
theorem dX7_drop_21 : decode cX7_drop 21 = .ok (.getfield 40, 3) := by decide +kernel
theorem dX7_drop_24 : decode cX7_drop 24 = .ok (.iload_n 1, 1) := by decide +kernel
theorem dX7_drop_25 : decode cX7_drop 25 = .ok (.aaload, 1) := by decide +kernel
theorem dX7_drop_26 : decode cX7_drop 26 = .ok (.iconst 0, 1) := by decide +kernel
theorem dX7_drop_27 : decode cX7_drop 27 = .ok (.putfield 106, 3) := by decide +kernel
theorem dX7_drop_30 : decode cX7_drop 30 = .ok (.iload_n 2, 1) := by decide +kernel
theorem dX7_drop_31 : decode cX7_drop 31 = .ok (.ifCond .eq 7, 3) := by decide +kernel
theorem dX7_drop_34 : decode cX7_drop 34 = .ok (.iconst 1, 1) := by decide +kernel
theorem dX7_drop_35 : decode cX7_drop 35 = .ok (.goto 4, 3) := by decide +kernel
theorem dX7_drop_38 : decode cX7_drop 38 = .ok (.iconst 0, 1) := by decide +kernel
theorem dX7_drop_39 : decode cX7_drop 39 = .ok (.ireturn, 1) := by decide +kernel
set_option maxRecDepth 20000 in
theorem ggX7_told_X7_isThere : GoodIn wsX7_told wsX7_isThere := goodIn_r _ [9, 1, 10, 11, 12, 8, 13, 30, 31, 32, 33, 34, 35, 36, 37, 38, 39, 40, 41, 42, 43] rfl (by decide +kernel)
set_option maxRecDepth 20000 in
theorem gX7_told_X7_isThere : GoodIn wsX7_told (wsV RX7 123 RX7 yX7_isThere wsX7_isThere) := goodIn_app (goodIn_of _ (by decide +kernel)) ggX7_told_X7_isThere
set_option maxRecDepth 20000 in
theorem ggX7_told_X6_limitTold : GoodIn wsX7_told wsX6_limitTold := goodIn_r _ [18, 19, 20, 21, 22, 23, 24, 25, 26, 27, 28, 29, 39, 40, 41, 42, 43, 46, 47, 44, 45] rfl (by decide +kernel)
set_option maxRecDepth 20000 in
theorem gX7_told_X6_limitTold : GoodIn wsX7_told (wsV RX7 159 RX6 yX6_limitTold wsX6_limitTold) := goodIn_app (goodIn_of _ (by decide +kernel)) ggX7_told_X6_limitTold
theorem dX7_told_0 : decode cX7_told 0 = .ok (.aload_n 0, 1) := by decide +kernel
theorem dX7_told_1 : decode cX7_told 1 = .ok (.iload_n 1, 1) := by decide +kernel
theorem dX7_told_2 : decode cX7_told 2 = .ok (.invokevirtual 123, 3) := by decide +kernel
theorem dX7_told_5 : decode cX7_told 5 = .ok (.ifCond .eq 13, 3) := by decide +kernel
theorem dX7_told_8 : decode cX7_told 8 = .ok (.iload_n 2, 1) := by decide +kernel
theorem dX7_told_9 : decode cX7_told 9 = .ok (.ifCond .lt 9, 3) := by decide +kernel
theorem dX7_told_12 : decode cX7_told 12 = .ok (.iload_n 2, 1) := by decide +kernel
theorem dX7_told_13 : decode cX7_told 13 = .ok (.bipush 11, 2) := by decide +kernel
theorem dX7_told_15 : decode cX7_told 15 = .ok (.if_icmp .le 6, 3) := by decide +kernel
theorem dX7_told_18 : decode cX7_told 18 = .ok (.bipush (-2), 2) := by decide +kernel
theorem dX7_told_20 : decode cX7_told 20 = .ok (.ireturn, 1) := by decide +kernel
theorem dX7_told_21 : decode cX7_told 21 = .ok (.iload_n 2, 1) := by decide +kernel
theorem dX7_told_22 : decode cX7_told 22 = .ok (.ifCond .ne 16, 3) := by decide +kernel
theorem dX7_told_25 : decode cX7_told 25 = .ok (.aload_n 0, 1) := by decide +kernel
theorem dX7_told_26 : decode cX7_told 26 = .ok (.getfield 40, 3) := by decide +kernel
theorem dX7_told_29 : decode cX7_told 29 = .ok (.iload_n 1, 1) := by decide +kernel
theorem dX7_told_30 : decode cX7_told 30 = .ok (.aaload, 1) := by decide +kernel
theorem dX7_told_31 : decode cX7_told 31 = .ok (.getfield 113, 3) := by decide +kernel
theorem dX7_told_34 : decode cX7_told 34 = .ok (.getfield 79, 3) := by decide +kernel
theorem dX7_told_37 : decode cX7_told 37 = .ok (.ireturn, 1) := by decide +kernel
theorem dX7_told_38 : decode cX7_told 38 = .ok (.iload_n 2, 1) := by decide +kernel
theorem dX7_told_39 : decode cX7_told 39 = .ok (.iconst 1, 1) := by decide +kernel
theorem dX7_told_40 : decode cX7_told 40 = .ok (.if_icmp .ne 15, 3) := by decide +kernel
theorem dX7_told_43 : decode cX7_told 43 = .ok (.aload_n 0, 1) := by decide +kernel
theorem dX7_told_44 : decode cX7_told 44 = .ok (.getfield 40, 3) := by decide +kernel
theorem dX7_told_47 : decode cX7_told 47 = .ok (.iload_n 1, 1) := by decide +kernel
theorem dX7_told_48 : decode cX7_told 48 = .ok (.aaload, 1) := by decide +kernel
theorem dX7_told_49 : decode cX7_told 49 = .ok (.getfield 110, 3) := by decide +kernel
theorem dX7_told_52 : decode cX7_told 52 = .ok (.goto 15, 3) := by decide +kernel
theorem dX7_told_55 : decode cX7_told 55 = .ok (.aload_n 0, 1) := by decide +kernel
theorem dX7_told_56 : decode cX7_told 56 = .ok (.getfield 40, 3) := by decide +kernel
theorem dX7_told_59 : decode cX7_told 59 = .ok (.iload_n 1, 1) := by decide +kernel
theorem dX7_told_60 : decode cX7_told 60 = .ok (.aaload, 1) := by decide +kernel
theorem dX7_told_61 : decode cX7_told 61 = .ok (.iload_n 2, 1) := by decide +kernel
theorem dX7_told_62 : decode cX7_told 62 = .ok (.iconst 2, 1) := by decide +kernel
theorem dX7_told_63 : decode cX7_told 63 = .ok (.isub, 1) := by decide +kernel
theorem dX7_told_64 : decode cX7_told 64 = .ok (.invokevirtual 159, 3) := by decide +kernel
theorem dX7_told_67 : decode cX7_told 67 = .ok (.ireturn, 1) := by decide +kernel
set_option maxRecDepth 20000 in
theorem ggX7_sign_X7_isThere : GoodIn wsX7_sign wsX7_isThere := goodIn_r _ [7, 1, 8, 9, 10, 6, 11, 23, 24, 25, 26, 27, 28, 29, 30, 31, 32, 33, 34, 35, 36] rfl (by decide +kernel)
set_option maxRecDepth 20000 in
theorem gX7_sign_X7_isThere : GoodIn wsX7_sign (wsV RX7 123 RX7 yX7_isThere wsX7_isThere) := goodIn_app (goodIn_of _ (by decide +kernel)) ggX7_sign_X7_isThere
set_option maxRecDepth 20000 in
theorem ggX7_sign_X3_has : GoodIn wsX7_sign wsX3_has := goodIn_r _ [16, 17, 37, 38] rfl (by decide +kernel)
set_option maxRecDepth 20000 in
theorem gX7_sign_X3_has : GoodIn wsX7_sign (wsV RX7 162 RX3 yX3_has wsX3_has) := goodIn_app (goodIn_of _ (by decide +kernel)) ggX7_sign_X3_has
set_option maxRecDepth 20000 in
theorem ggX7_sign_X3_byteAt : GoodIn wsX7_sign wsX3_byteAt := goodIn_r _ [21, 17, 22, 37, 38] rfl (by decide +kernel)
set_option maxRecDepth 20000 in
theorem gX7_sign_X3_byteAt : GoodIn wsX7_sign (wsV RX7 86 RX3 yX3_byteAt wsX3_byteAt) := goodIn_app (goodIn_of _ (by decide +kernel)) ggX7_sign_X3_byteAt
theorem dX7_sign_0 : decode cX7_sign 0 = .ok (.aload_n 0, 1) := by decide +kernel
theorem dX7_sign_1 : decode cX7_sign 1 = .ok (.iload_n 1, 1) := by decide +kernel
theorem dX7_sign_2 : decode cX7_sign 2 = .ok (.invokevirtual 123, 3) := by decide +kernel
theorem dX7_sign_5 : decode cX7_sign 5 = .ok (.ifCond .eq 19, 3) := by decide +kernel
theorem dX7_sign_8 : decode cX7_sign 8 = .ok (.aload_n 0, 1) := by decide +kernel
theorem dX7_sign_9 : decode cX7_sign 9 = .ok (.getfield 40, 3) := by decide +kernel
theorem dX7_sign_12 : decode cX7_sign 12 = .ok (.iload_n 1, 1) := by decide +kernel
theorem dX7_sign_13 : decode cX7_sign 13 = .ok (.aaload, 1) := by decide +kernel
theorem dX7_sign_14 : decode cX7_sign 14 = .ok (.getfield 120, 3) := by decide +kernel
theorem dX7_sign_17 : decode cX7_sign 17 = .ok (.iload_n 2, 1) := by decide +kernel
theorem dX7_sign_18 : decode cX7_sign 18 = .ok (.invokevirtual 162, 3) := by decide +kernel
theorem dX7_sign_21 : decode cX7_sign 21 = .ok (.ifCond .ne 6, 3) := by decide +kernel
theorem dX7_sign_24 : decode cX7_sign 24 = .ok (.bipush (-2), 2) := by decide +kernel
theorem dX7_sign_26 : decode cX7_sign 26 = .ok (.ireturn, 1) := by decide +kernel
theorem dX7_sign_27 : decode cX7_sign 27 = .ok (.aload_n 0, 1) := by decide +kernel
theorem dX7_sign_28 : decode cX7_sign 28 = .ok (.getfield 40, 3) := by decide +kernel
theorem dX7_sign_31 : decode cX7_sign 31 = .ok (.iload_n 1, 1) := by decide +kernel
theorem dX7_sign_32 : decode cX7_sign 32 = .ok (.aaload, 1) := by decide +kernel
theorem dX7_sign_33 : decode cX7_sign 33 = .ok (.getfield 120, 3) := by decide +kernel
theorem dX7_sign_36 : decode cX7_sign 36 = .ok (.iload_n 2, 1) := by decide +kernel
theorem dX7_sign_37 : decode cX7_sign 37 = .ok (.invokevirtual 86, 3) := by decide +kernel
theorem dX7_sign_40 : decode cX7_sign 40 = .ok (.ireturn, 1) := by decide +kernel
set_option maxRecDepth 20000 in
theorem ggX7_spoil_X7_isThere : GoodIn wsX7_spoil wsX7_isThere := goodIn_r _ [10, 1, 11, 12, 13, 9, 14, 30, 31, 32, 33, 34, 35, 36, 37, 38, 39, 40, 41, 42, 43] rfl (by decide +kernel)
set_option maxRecDepth 20000 in
theorem gX7_spoil_X7_isThere : GoodIn wsX7_spoil (wsV RX7 123 RX7 yX7_isThere wsX7_isThere) := goodIn_app (goodIn_of _ (by decide +kernel)) ggX7_spoil_X7_isThere
set_option maxRecDepth 20000 in
theorem ggX7_spoil_X7_isByte : GoodIn wsX7_spoil wsX7_isByte := goodIn_r _ [17] rfl (by decide +kernel)
set_option maxRecDepth 20000 in
theorem gX7_spoil_X7_isByte : GoodIn wsX7_spoil (va_wsS RX7 165 yX7_isByte wsX7_isByte) := goodIn_app (goodIn_of _ (by decide +kernel)) ggX7_spoil_X7_isByte
set_option maxRecDepth 20000 in
theorem ggX7_spoil_X3_has : GoodIn wsX7_spoil wsX3_has := goodIn_r _ [22, 23, 46, 47] rfl (by decide +kernel)
set_option maxRecDepth 20000 in
theorem gX7_spoil_X3_has : GoodIn wsX7_spoil (wsV RX7 162 RX3 yX3_has wsX3_has) := goodIn_app (goodIn_of _ (by decide +kernel)) ggX7_spoil_X3_has
set_option maxRecDepth 20000 in
theorem ggX7_spoil_X3_flip : GoodIn wsX7_spoil wsX3_flip := goodIn_r _ [27, 28, 29, 19, 20, 21, 22, 23, 46, 47] rfl (by decide +kernel)
set_option maxRecDepth 20000 in
theorem gX7_spoil_X3_flip : GoodIn wsX7_spoil (wsV RX7 168 RX3 yX3_flip wsX3_flip) := goodIn_app (goodIn_of _ (by decide +kernel)) ggX7_spoil_X3_flip
theorem dX7_spoil_0 : decode cX7_spoil 0 = .ok (.aload_n 0, 1) := by decide +kernel
theorem dX7_spoil_1 : decode cX7_spoil 1 = .ok (.iload_n 1, 1) := by decide +kernel
theorem dX7_spoil_2 : decode cX7_spoil 2 = .ok (.invokevirtual 123, 3) := by decide +kernel
theorem dX7_spoil_5 : decode cX7_spoil 5 = .ok (.ifCond .eq 28, 3) := by decide +kernel
theorem dX7_spoil_8 : decode cX7_spoil 8 = .ok (.iload_n 2, 1) := by decide +kernel
theorem dX7_spoil_9 : decode cX7_spoil 9 = .ok (.ifCond .lt 24, 3) := by decide +kernel
theorem dX7_spoil_12 : decode cX7_spoil 12 = .ok (.iload_n 2, 1) := by decide +kernel
theorem dX7_spoil_13 : decode cX7_spoil 13 = .ok (.aload_n 0, 1) := by decide +kernel
theorem dX7_spoil_14 : decode cX7_spoil 14 = .ok (.getfield 40, 3) := by decide +kernel
theorem dX7_spoil_17 : decode cX7_spoil 17 = .ok (.iload_n 1, 1) := by decide +kernel
theorem dX7_spoil_18 : decode cX7_spoil 18 = .ok (.aaload, 1) := by decide +kernel
theorem dX7_spoil_19 : decode cX7_spoil 19 = .ok (.getfield 110, 3) := by decide +kernel
theorem dX7_spoil_22 : decode cX7_spoil 22 = .ok (.if_icmp .gt 11, 3) := by decide +kernel
theorem dX7_spoil_25 : decode cX7_spoil 25 = .ok (.iload 4, 2) := by decide +kernel
theorem dX7_spoil_27 : decode cX7_spoil 27 = .ok (.invokestatic 165, 3) := by decide +kernel
theorem dX7_spoil_30 : decode cX7_spoil 30 = .ok (.ifCond .ne 6, 3) := by decide +kernel
theorem dX7_spoil_33 : decode cX7_spoil 33 = .ok (.bipush (-2), 2) := by decide +kernel
theorem dX7_spoil_35 : decode cX7_spoil 35 = .ok (.ireturn, 1) := by decide +kernel
theorem dX7_spoil_36 : decode cX7_spoil 36 = .ok (.iload_n 2, 1) := by decide +kernel
theorem dX7_spoil_37 : decode cX7_spoil 37 = .ok (.ifCond .ne 15, 3) := by decide +kernel
theorem dX7_spoil_40 : decode cX7_spoil 40 = .ok (.aload_n 0, 1) := by decide +kernel
theorem dX7_spoil_41 : decode cX7_spoil 41 = .ok (.getfield 40, 3) := by decide +kernel
theorem dX7_spoil_44 : decode cX7_spoil 44 = .ok (.iload_n 1, 1) := by decide +kernel
theorem dX7_spoil_45 : decode cX7_spoil 45 = .ok (.aaload, 1) := by decide +kernel
theorem dX7_spoil_46 : decode cX7_spoil 46 = .ok (.getfield 120, 3) := by decide +kernel
theorem dX7_spoil_49 : decode cX7_spoil 49 = .ok (.goto 19, 3) := by decide +kernel
theorem dX7_spoil_52 : decode cX7_spoil 52 = .ok (.aload_n 0, 1) := by decide +kernel
theorem dX7_spoil_53 : decode cX7_spoil 53 = .ok (.getfield 40, 3) := by decide +kernel
theorem dX7_spoil_56 : decode cX7_spoil 56 = .ok (.iload_n 1, 1) := by decide +kernel
theorem dX7_spoil_57 : decode cX7_spoil 57 = .ok (.aaload, 1) := by decide +kernel
theorem dX7_spoil_58 : decode cX7_spoil 58 = .ok (.getfield 130, 3) := by decide +kernel
theorem dX7_spoil_61 : decode cX7_spoil 61 = .ok (.iload_n 2, 1) := by decide +kernel
theorem dX7_spoil_62 : decode cX7_spoil 62 = .ok (.iconst 1, 1) := by decide +kernel
theorem dX7_spoil_63 : decode cX7_spoil 63 = .ok (.isub, 1) := by decide +kernel
theorem dX7_spoil_64 : decode cX7_spoil 64 = .ok (.aaload, 1) := by decide +kernel
theorem dX7_spoil_65 : decode cX7_spoil 65 = .ok (.getfield 134, 3) := by decide +kernel
theorem dX7_spoil_68 : decode cX7_spoil 68 = .ok (.astore 5, 2) := by decide +kernel
theorem dX7_spoil_70 : decode cX7_spoil 70 = .ok (.aload 5, 2) := by decide +kernel
theorem dX7_spoil_72 : decode cX7_spoil 72 = .ok (.iload_n 3, 1) := by decide +kernel
theorem dX7_spoil_73 : decode cX7_spoil 73 = .ok (.invokevirtual 162, 3) := by decide +kernel
theorem dX7_spoil_76 : decode cX7_spoil 76 = .ok (.ifCond .eq 14, 3) := by decide +kernel
theorem dX7_spoil_79 : decode cX7_spoil 79 = .ok (.aload 5, 2) := by decide +kernel
theorem dX7_spoil_81 : decode cX7_spoil 81 = .ok (.iload_n 3, 1) := by decide +kernel
theorem dX7_spoil_82 : decode cX7_spoil 82 = .ok (.iload 4, 2) := by decide +kernel
theorem dX7_spoil_84 : decode cX7_spoil 84 = .ok (.invokevirtual 168, 3) := by decide +kernel
theorem dX7_spoil_87 : decode cX7_spoil 87 = .ok (.goto 5, 3) := by decide +kernel
theorem dX7_spoil_90 : decode cX7_spoil 90 = .ok (.bipush (-2), 2) := by decide +kernel
theorem dX7_spoil_92 : decode cX7_spoil 92 = .ok (.ireturn, 1) := by decide +kernel
theorem dX7_ask_0 : decode cX7_ask 0 = .ok (.iload_n 1, 1) := by decide +kernel
theorem dX7_ask_1 : decode cX7_ask 1 = .ok (.ifCond .lt 19, 3) := by decide +kernel
theorem dX7_ask_4 : decode cX7_ask 4 = .ok (.iload_n 1, 1) := by decide +kernel
theorem dX7_ask_5 : decode cX7_ask 5 = .ok (.bipush 8, 2) := by decide +kernel
theorem dX7_ask_7 : decode cX7_ask 7 = .ok (.if_icmp .ge 13, 3) := by decide +kernel
theorem dX7_ask_10 : decode cX7_ask 10 = .ok (.iload_n 2, 1) := by decide +kernel
theorem dX7_ask_11 : decode cX7_ask 11 = .ok (.ifCond .lt 9, 3) := by decide +kernel
theorem dX7_ask_14 : decode cX7_ask 14 = .ok (.iload_n 2, 1) := by decide +kernel
theorem dX7_ask_15 : decode cX7_ask 15 = .ok (.ldc 172, 2) := by decide +kernel
theorem dX7_ask_17 : decode cX7_ask 17 = .ok (.if_icmp .le 6, 3) := by decide +kernel
theorem dX7_ask_20 : decode cX7_ask 20 = .ok (.bipush (-2), 2) := by decide +kernel
theorem dX7_ask_22 : decode cX7_ask 22 = .ok (.ireturn, 1) := by decide +kernel
theorem dX7_ask_23 : decode cX7_ask 23 = .ok (.aload_n 0, 1) := by decide +kernel
theorem dX7_ask_24 : decode cX7_ask 24 = .ok (.getfield 57, 3) := by decide +kernel
theorem dX7_ask_27 : decode cX7_ask 27 = .ok (.iload_n 1, 1) := by decide +kernel
theorem dX7_ask_28 : decode cX7_ask 28 = .ok (.iaload, 1) := by decide +kernel
theorem dX7_ask_29 : decode cX7_ask 29 = .ok (.istore_n 3, 1) := by decide +kernel
theorem dX7_ask_30 : decode cX7_ask 30 = .ok (.aload_n 0, 1) := by decide +kernel
theorem dX7_ask_31 : decode cX7_ask 31 = .ok (.getfield 57, 3) := by decide +kernel
theorem dX7_ask_34 : decode cX7_ask 34 = .ok (.iload_n 1, 1) := by decide +kernel
theorem dX7_ask_35 : decode cX7_ask 35 = .ok (.iload_n 2, 1) := by decide +kernel
theorem dX7_ask_36 : decode cX7_ask 36 = .ok (.iastore, 1) := by decide +kernel
theorem dX7_ask_37 : decode cX7_ask 37 = .ok (.iload_n 3, 1) := by decide +kernel
theorem dX7_ask_38 : decode cX7_ask 38 = .ok (.ireturn, 1) := by decide +kernel
set_option maxRecDepth 20000 in
theorem ggX7_truth_X7_isRegister : GoodIn wsX7_truth wsX7_isRegister := goodIn_r _ [6] rfl (by decide +kernel)
set_option maxRecDepth 20000 in
theorem gX7_truth_X7_isRegister : GoodIn wsX7_truth (va_wsS RX7 68 yX7_isRegister wsX7_isRegister) := goodIn_app (goodIn_of _ (by decide +kernel)) ggX7_truth_X7_isRegister
set_option maxRecDepth 20000 in
theorem ggX7_truth_X0_judgeText : GoodIn wsX7_truth wsX0_judgeText := goodIn_r _ [11, 12, 13, 14, 15, 16, 10, 17, 18, 19, 20, 21, 22, 23, 24, 25, 26, 27, 28, 29, 30, 31, 32, 33, 34, 35, 36, 37, 38, 39, 49, 50, 51, 52] rfl (by decide +kernel)
set_option maxRecDepth 20000 in
theorem gX7_truth_X0_judgeText : GoodIn wsX7_truth (wsV RX7 173 RX0 yX0_judgeText wsX0_judgeText) := goodIn_app (goodIn_of _ (by decide +kernel)) ggX7_truth_X0_judgeText
theorem dX7_truth_0 : decode cX7_truth 0 = .ok (.iload_n 1, 1) := by decide +kernel
theorem dX7_truth_1 : decode cX7_truth 1 = .ok (.invokestatic 68, 3) := by decide +kernel
theorem dX7_truth_4 : decode cX7_truth 4 = .ok (.ifCond .eq 19, 3) := by decide +kernel
theorem dX7_truth_7 : decode cX7_truth 7 = .ok (.aload_n 0, 1) := by decide +kernel
theorem dX7_truth_8 : decode cX7_truth 8 = .ok (.getfield 50, 3) := by decide +kernel
theorem dX7_truth_11 : decode cX7_truth 11 = .ok (.aload_n 0, 1) := by decide +kernel
theorem dX7_truth_12 : decode cX7_truth 12 = .ok (.getfield 11, 3) := by decide +kernel
theorem dX7_truth_15 : decode cX7_truth 15 = .ok (.iload_n 1, 1) := by decide +kernel
theorem dX7_truth_16 : decode cX7_truth 16 = .ok (.aaload, 1) := by decide +kernel
theorem dX7_truth_17 : decode cX7_truth 17 = .ok (.invokevirtual 173, 3) := by decide +kernel
theorem dX7_truth_20 : decode cX7_truth 20 = .ok (.goto 5, 3) := by decide +kernel
theorem dX7_truth_23 : decode cX7_truth 23 = .ok (.bipush (-2), 2) := by decide +kernel
theorem dX7_truth_25 : decode cX7_truth 25 = .ok (.ireturn, 1) := by decide +kernel
set_option maxRecDepth 20000 in
theorem ggX7_prove_X7_isThere : GoodIn wsX7_prove wsX7_isThere := goodIn_r _ [8, 9, 10, 11, 12, 7, 13, 206, 207, 208, 209, 210, 211, 212, 213, 214, 226, 227, 228, 229, 230] rfl (by decide +kernel)
set_option maxRecDepth 20000 in
theorem gX7_prove_X7_isThere : GoodIn wsX7_prove (wsV RX7 123 RX7 yX7_isThere wsX7_isThere) := goodIn_app (goodIn_of _ (by decide +kernel)) ggX7_prove_X7_isThere
set_option maxRecDepth 20000 in
theorem ggX7_prove_X7_isRegister : GoodIn wsX7_prove wsX7_isRegister := goodIn_r _ [16] rfl (by decide +kernel)
set_option maxRecDepth 20000 in
theorem gX7_prove_X7_isRegister : GoodIn wsX7_prove (va_wsS RX7 68 yX7_isRegister wsX7_isRegister) := goodIn_app (goodIn_of _ (by decide +kernel)) ggX7_prove_X7_isRegister
set_option maxRecDepth 20000 in
theorem ggX7_prove_X7_areThere : GoodIn wsX7_prove wsX7_areThere := goodIn_r _ [20, 9, 10, 206, 207, 208, 209, 210, 211, 212, 213, 214, 226, 227, 228, 229, 230] rfl (by decide +kernel)
set_option maxRecDepth 20000 in
theorem gX7_prove_X7_areThere : GoodIn wsX7_prove (wsV RX7 177 RX7 yX7_areThere wsX7_areThere) := goodIn_app (goodIn_of _ (by decide +kernel)) ggX7_prove_X7_areThere
set_option maxRecDepth 20000 in
theorem ggX7_prove_X2_begin : GoodIn wsX7_prove wsX2_begin := goodIn_r _ [25, 26, 27, 28, 29, 30, 31, 215, 216, 217, 218, 219, 220, 221, 222, 223, 224, 225] rfl (by decide +kernel)
set_option maxRecDepth 20000 in
theorem gX7_prove_X2_begin : GoodIn wsX7_prove (wsV RX7 180 RX2 yX2_begin wsX2_begin) := goodIn_app (goodIn_of _ (by decide +kernel)) ggX7_prove_X2_begin
set_option maxRecDepth 20000 in
theorem ggX7_prove_X2_walk : GoodIn wsX7_prove wsX2_walk := goodIn_r _ [34, 35, 36, 37, 38, 39, 40, 41, 42, 43, 44, 45, 46, 47, 48, 49, 50, 51, 52, 53, 54, 55, 56, 57, 58, 59, 60, 61, 62, 63, 64, 65, 66, 67, 68, 69, 70, 71, 72, 73, 74, 75, 76, 77, 78, 79, 80, 81, 82, 83, 84, 85, 86, 87, 88, 89, 90, 91, 92, 93, 94, 95, 96, 97, 98, 99, 100, 101, 102, 103, 104, 105, 106, 107, 108, 109, 110, 111, 112, 113, 114, 115, 116, 117, 118, 119, 120, 24, 121, 122, 123, 124, 125, 126, 127, 128, 129, 130, 131, 132, 133, 134, 135, 136, 137, 138, 139, 140, 141, 142, 143, 144, 145, 146, 147, 148, 149, 150, 151, 152, 153, 154, 155, 156, 157, 28, 29, 30, 158, 159, 160, 161, 162, 163, 164, 27, 31, 165, 166, 26, 167, 168, 169, 170, 171, 172, 173, 174, 175, 176, 177, 178, 179, 180, 181, 182, 183, 184, 185, 186, 187, 188, 189, 32, 33, 190, 191, 192, 193, 194, 195, 196, 197, 198, 199, 200, 201, 215, 216, 217, 218, 219, 220, 221, 222, 223, 224, 225, 226, 227, 228, 229, 230, 231, 232, 233, 234, 235, 236, 237, 238, 239, 240, 241, 242, 243, 244, 245] rfl (by decide +kernel)
set_option maxRecDepth 20000 in
theorem gX7_prove_X2_walk_n184 : GoodIn wsX7_prove (wsX2_walk) := ggX7_prove_X2_walk
set_option maxRecDepth 20000 in
theorem ggX7_prove_X2_compareSign : GoodIn wsX7_prove wsX2_compareSign := goodIn_r _ [205, 37, 35, 26, 167, 39, 172, 173, 174, 53, 175, 55, 60, 154, 155, 156, 24, 157, 28, 29, 30, 215, 216, 217, 218, 219, 220, 221, 222, 223, 224, 225, 226, 227, 228, 229, 230, 233, 234] rfl (by decide +kernel)
set_option maxRecDepth 20000 in
theorem gX7_prove_X2_compareSign : GoodIn wsX7_prove (wsV RX7 188 RX2 yX2_compareSign wsX2_compareSign) := goodIn_app (goodIn_of _ (by decide +kernel)) ggX7_prove_X2_compareSign
theorem dX7_prove_0 : decode cX7_prove 0 = .ok (.aload_n 0, 1) := by decide +kernel
theorem dX7_prove_1 : decode cX7_prove 1 = .ok (.iload_n 1, 1) := by decide +kernel
theorem dX7_prove_2 : decode cX7_prove 2 = .ok (.invokevirtual 123, 3) := by decide +kernel
theorem dX7_prove_5 : decode cX7_prove 5 = .ok (.ifCond .eq 18, 3) := by decide +kernel
theorem dX7_prove_8 : decode cX7_prove 8 = .ok (.iload_n 2, 1) := by decide +kernel
theorem dX7_prove_9 : decode cX7_prove 9 = .ok (.invokestatic 68, 3) := by decide +kernel
theorem dX7_prove_12 : decode cX7_prove 12 = .ok (.ifCond .eq 11, 3) := by decide +kernel
theorem dX7_prove_15 : decode cX7_prove 15 = .ok (.aload_n 0, 1) := by decide +kernel
theorem dX7_prove_16 : decode cX7_prove 16 = .ok (.iload_n 3, 1) := by decide +kernel
theorem dX7_prove_17 : decode cX7_prove 17 = .ok (.invokevirtual 177, 3) := by decide +kernel
theorem dX7_prove_20 : decode cX7_prove 20 = .ok (.ifCond .ne 6, 3) := by decide +kernel
theorem dX7_prove_23 : decode cX7_prove 23 = .ok (.bipush (-2), 2) := by decide +kernel
theorem dX7_prove_25 : decode cX7_prove 25 = .ok (.ireturn, 1) := by decide +kernel
theorem dX7_prove_26 : decode cX7_prove 26 = .ok (.aload_n 0, 1) := by decide +kernel
theorem dX7_prove_27 : decode cX7_prove 27 = .ok (.getfield 18, 3) := by decide +kernel
theorem dX7_prove_30 : decode cX7_prove 30 = .ok (.iload_n 1, 1) := by decide +kernel
theorem dX7_prove_31 : decode cX7_prove 31 = .ok (.iload_n 3, 1) := by decide +kernel
theorem dX7_prove_32 : decode cX7_prove 32 = .ok (.invokevirtual 180, 3) := by decide +kernel
theorem dX7_prove_35 : decode cX7_prove 35 = .ok (.aload_n 0, 1) := by decide +kernel
theorem dX7_prove_36 : decode cX7_prove 36 = .ok (.getfield 18, 3) := by decide +kernel
theorem dX7_prove_39 : decode cX7_prove 39 = .ok (.iload_n 1, 1) := by decide +kernel
theorem dX7_prove_40 : decode cX7_prove 40 = .ok (.aload_n 0, 1) := by decide +kernel
theorem dX7_prove_41 : decode cX7_prove 41 = .ok (.getfield 11, 3) := by decide +kernel
theorem dX7_prove_44 : decode cX7_prove 44 = .ok (.iload_n 2, 1) := by decide +kernel
theorem dX7_prove_45 : decode cX7_prove 45 = .ok (.aaload, 1) := by decide +kernel
theorem dX7_prove_46 : decode cX7_prove 46 = .ok (.iconst 0, 1) := by decide +kernel
theorem dX7_prove_47 : decode cX7_prove 47 = .ok (.invokevirtual 184, 3) := by decide +kernel
theorem dX7_prove_50 : decode cX7_prove 50 = .ok (.ifCond .eq 10, 3) := by decide +kernel
theorem dX7_prove_53 : decode cX7_prove 53 = .ok (.aload_n 0, 1) := by decide +kernel
theorem dX7_prove_54 : decode cX7_prove 54 = .ok (.getfield 18, 3) := by decide +kernel
theorem dX7_prove_57 : decode cX7_prove 57 = .ok (.invokevirtual 188, 3) := by decide +kernel
theorem dX7_prove_60 : decode cX7_prove 60 = .ok (.aload_n 0, 1) := by decide +kernel
theorem dX7_prove_61 : decode cX7_prove 61 = .ok (.getfield 18, 3) := by decide +kernel
theorem dX7_prove_64 : decode cX7_prove 64 = .ok (.getfield 191, 3) := by decide +kernel
theorem dX7_prove_67 : decode cX7_prove 67 = .ok (.ifCond .ne 7, 3) := by decide +kernel
theorem dX7_prove_70 : decode cX7_prove 70 = .ok (.iconst 0, 1) := by decide +kernel
theorem dX7_prove_71 : decode cX7_prove 71 = .ok (.goto 13, 3) := by decide +kernel
theorem dX7_prove_74 : decode cX7_prove 74 = .ok (.bipush (-10), 2) := by decide +kernel
theorem dX7_prove_76 : decode cX7_prove 76 = .ok (.aload_n 0, 1) := by decide +kernel
theorem dX7_prove_77 : decode cX7_prove 77 = .ok (.getfield 18, 3) := by decide +kernel
theorem dX7_prove_80 : decode cX7_prove 80 = .ok (.getfield 191, 3) := by decide +kernel
theorem dX7_prove_83 : decode cX7_prove 83 = .ok (.isub, 1) := by decide +kernel
theorem dX7_prove_84 : decode cX7_prove 84 = .ok (.ireturn, 1) := by decide +kernel
theorem dX7_fault_0 : decode cX7_fault 0 = .ok (.iload_n 1, 1) := by decide +kernel
theorem dX7_fault_1 : decode cX7_fault 1 = .ok (.tableswitch 51 0 2 #[27, 35, 43], 27) := by decide +kernel
theorem dX7_fault_28 : decode cX7_fault 28 = .ok (.aload_n 0, 1) := by decide +kernel
theorem dX7_fault_29 : decode cX7_fault 29 = .ok (.getfield 18, 3) := by decide +kernel
theorem dX7_fault_32 : decode cX7_fault 32 = .ok (.getfield 194, 3) := by decide +kernel
theorem dX7_fault_35 : decode cX7_fault 35 = .ok (.ireturn, 1) := by decide +kernel
theorem dX7_fault_36 : decode cX7_fault 36 = .ok (.aload_n 0, 1) := by decide +kernel
theorem dX7_fault_37 : decode cX7_fault 37 = .ok (.getfield 18, 3) := by decide +kernel
theorem dX7_fault_40 : decode cX7_fault 40 = .ok (.getfield 197, 3) := by decide +kernel
theorem dX7_fault_43 : decode cX7_fault 43 = .ok (.ireturn, 1) := by decide +kernel
theorem dX7_fault_44 : decode cX7_fault 44 = .ok (.aload_n 0, 1) := by decide +kernel
theorem dX7_fault_45 : decode cX7_fault 45 = .ok (.getfield 18, 3) := by decide +kernel
theorem dX7_fault_48 : decode cX7_fault 48 = .ok (.getfield 200, 3) := by decide +kernel
theorem dX7_fault_51 : decode cX7_fault 51 = .ok (.ireturn, 1) := by decide +kernel
theorem dX7_fault_52 : decode cX7_fault 52 = .ok (.bipush (-2), 2) := by decide +kernel
theorem dX7_fault_54 : decode cX7_fault 54 = .ok (.ireturn, 1) := by decide +kernel
set_option maxRecDepth 20000 in
theorem ggX7_write_X7_isThere : GoodIn wsX7_write wsX7_isThere := goodIn_r _ [8, 2, 9, 10, 11, 7, 12, 60, 61, 62, 63, 64, 65, 66, 67, 68, 71, 72, 73, 74, 75] rfl (by decide +kernel)
set_option maxRecDepth 20000 in
theorem gX7_write_X7_isThere : GoodIn wsX7_write (wsV RX7 123 RX7 yX7_isThere wsX7_isThere) := goodIn_app (goodIn_of _ (by decide +kernel)) ggX7_write_X7_isThere
set_option maxRecDepth 20000 in
theorem ggX7_write_X3_makeEmpty : GoodIn wsX7_write wsX3_makeEmpty := goodIn_r _ [17, 18, 69, 70] rfl (by decide +kernel)
set_option maxRecDepth 20000 in
theorem gX7_write_X3_makeEmpty : GoodIn wsX7_write (wsV RX7 83 RX3 yX3_makeEmpty wsX3_makeEmpty) := goodIn_app (goodIn_of _ (by decide +kernel)) ggX7_write_X3_makeEmpty
set_option maxRecDepth 20000 in
theorem ggX7_write_X6_putOn : GoodIn wsX7_write wsX6_putOn := goodIn_r _ [23, 24, 25, 26, 27, 28, 29, 30, 31, 16, 32, 18, 33, 34, 35, 36, 37, 38, 39, 40, 41, 42, 43, 44, 45, 46, 47, 48, 49, 50, 51, 52, 53, 54, 55, 56, 57, 58, 59, 71, 72, 73, 74, 75, 69, 70, 76, 77] rfl (by decide +kernel)
set_option maxRecDepth 20000 in
theorem gX7_write_X6_putOn : GoodIn wsX7_write (wsV RX7 203 RX6 yX6_putOn wsX6_putOn) := goodIn_app (goodIn_of _ (by decide +kernel)) ggX7_write_X6_putOn
theorem dX7_write_0 : decode cX7_write 0 = .ok (.aload_n 0, 1) := by decide +kernel
theorem dX7_write_1 : decode cX7_write 1 = .ok (.iload_n 1, 1) := by decide +kernel
theorem dX7_write_2 : decode cX7_write 2 = .ok (.invokevirtual 123, 3) := by decide +kernel
theorem dX7_write_5 : decode cX7_write 5 = .ok (.ifCond .ne 6, 3) := by decide +kernel
theorem dX7_write_8 : decode cX7_write 8 = .ok (.bipush (-2), 2) := by decide +kernel
theorem dX7_write_10 : decode cX7_write 10 = .ok (.ireturn, 1) := by decide +kernel
theorem dX7_write_11 : decode cX7_write 11 = .ok (.aload_n 0, 1) := by decide +kernel
theorem dX7_write_12 : decode cX7_write 12 = .ok (.getfield 62, 3) := by decide +kernel
theorem dX7_write_15 : decode cX7_write 15 = .ok (.invokevirtual 83, 3) := by decide +kernel
theorem dX7_write_18 : decode cX7_write 18 = .ok (.aload_n 0, 1) := by decide +kernel
theorem dX7_write_19 : decode cX7_write 19 = .ok (.getfield 40, 3) := by decide +kernel
theorem dX7_write_22 : decode cX7_write 22 = .ok (.iload_n 1, 1) := by decide +kernel
theorem dX7_write_23 : decode cX7_write 23 = .ok (.aaload, 1) := by decide +kernel
theorem dX7_write_24 : decode cX7_write 24 = .ok (.aload_n 0, 1) := by decide +kernel
theorem dX7_write_25 : decode cX7_write 25 = .ok (.getfield 62, 3) := by decide +kernel
theorem dX7_write_28 : decode cX7_write 28 = .ok (.invokevirtual 203, 3) := by decide +kernel
theorem dX7_write_31 : decode cX7_write 31 = .ok (.aload_n 0, 1) := by decide +kernel
theorem dX7_write_32 : decode cX7_write 32 = .ok (.getfield 62, 3) := by decide +kernel
theorem dX7_write_35 : decode cX7_write 35 = .ok (.getfield 79, 3) := by decide +kernel
theorem dX7_write_38 : decode cX7_write 38 = .ok (.ireturn, 1) := by decide +kernel
set_option maxRecDepth 20000 in
theorem ggX7_type_X7_isWidth : GoodIn wsX7_type wsX7_isWidth := goodIn_r _ [5] rfl (by decide +kernel)
set_option maxRecDepth 20000 in
theorem gX7_type_X7_isWidth : GoodIn wsX7_type (va_wsS RX7 72 yX7_isWidth wsX7_isWidth) := goodIn_app (goodIn_of _ (by decide +kernel)) ggX7_type_X7_isWidth
set_option maxRecDepth 20000 in
theorem ggX7_type_X7_pushLowest : GoodIn wsX7_type wsX7_pushLowest := goodIn_r _ [8, 9, 10, 11, 12, 13, 14, 15, 16, 17, 18, 19, 20, 30, 31] rfl (by decide +kernel)
set_option maxRecDepth 20000 in
theorem gX7_type_X7_pushLowest : GoodIn wsX7_type (va_wsS RX7 75 yX7_pushLowest wsX7_pushLowest) := goodIn_app (goodIn_of _ (by decide +kernel)) ggX7_type_X7_pushLowest
theorem dX7_type_0 : decode cX7_type 0 = .ok (.iload_n 3, 1) := by decide +kernel
theorem dX7_type_1 : decode cX7_type 1 = .ok (.invokestatic 72, 3) := by decide +kernel
theorem dX7_type_4 : decode cX7_type 4 = .ok (.ifCond .eq 15, 3) := by decide +kernel
theorem dX7_type_7 : decode cX7_type 7 = .ok (.aload_n 0, 1) := by decide +kernel
theorem dX7_type_8 : decode cX7_type 8 = .ok (.getfield 62, 3) := by decide +kernel
theorem dX7_type_11 : decode cX7_type 11 = .ok (.iload_n 3, 1) := by decide +kernel
theorem dX7_type_12 : decode cX7_type 12 = .ok (.lload_n 1, 1) := by decide +kernel
theorem dX7_type_13 : decode cX7_type 13 = .ok (.invokestatic 75, 3) := by decide +kernel
theorem dX7_type_16 : decode cX7_type 16 = .ok (.goto 5, 3) := by decide +kernel
theorem dX7_type_19 : decode cX7_type 19 = .ok (.bipush (-2), 2) := by decide +kernel
theorem dX7_type_21 : decode cX7_type 21 = .ok (.ireturn, 1) := by decide +kernel
set_option maxRecDepth 20000 in
theorem ggX7_tape_X3_byteAt : GoodIn wsX7_tape wsX3_byteAt := goodIn_r _ [6, 7, 8, 18, 19] rfl (by decide +kernel)
set_option maxRecDepth 20000 in
theorem gX7_tape_X3_byteAt : GoodIn wsX7_tape (wsV RX7 86 RX3 yX3_byteAt wsX3_byteAt) := goodIn_app (goodIn_of _ (by decide +kernel)) ggX7_tape_X3_byteAt
theorem dX7_tape_0 : decode cX7_tape 0 = .ok (.aload_n 0, 1) := by decide +kernel
theorem dX7_tape_1 : decode cX7_tape 1 = .ok (.getfield 62, 3) := by decide +kernel
theorem dX7_tape_4 : decode cX7_tape 4 = .ok (.iload_n 1, 1) := by decide +kernel
theorem dX7_tape_5 : decode cX7_tape 5 = .ok (.invokevirtual 86, 3) := by decide +kernel
theorem dX7_tape_8 : decode cX7_tape 8 = .ok (.ireturn, 1) := by decide +kernel
theorem dX7_cut_0 : decode cX7_cut 0 = .ok (.iload_n 1, 1) := by decide +kernel
theorem dX7_cut_1 : decode cX7_cut 1 = .ok (.ifCond .lt 14, 3) := by decide +kernel
theorem dX7_cut_4 : decode cX7_cut 4 = .ok (.iload_n 1, 1) := by decide +kernel
theorem dX7_cut_5 : decode cX7_cut 5 = .ok (.aload_n 0, 1) := by decide +kernel
theorem dX7_cut_6 : decode cX7_cut 6 = .ok (.getfield 62, 3) := by decide +kernel
theorem dX7_cut_9 : decode cX7_cut 9 = .ok (.getfield 79, 3) := by decide +kernel
theorem dX7_cut_12 : decode cX7_cut 12 = .ok (.if_icmp .le 6, 3) := by decide +kernel
theorem dX7_cut_15 : decode cX7_cut 15 = .ok (.bipush (-2), 2) := by decide +kernel
theorem dX7_cut_17 : decode cX7_cut 17 = .ok (.ireturn, 1) := by decide +kernel
theorem dX7_cut_18 : decode cX7_cut 18 = .ok (.aload_n 0, 1) := by decide +kernel
theorem dX7_cut_19 : decode cX7_cut 19 = .ok (.getfield 62, 3) := by decide +kernel
theorem dX7_cut_22 : decode cX7_cut 22 = .ok (.getfield 79, 3) := by decide +kernel
theorem dX7_cut_25 : decode cX7_cut 25 = .ok (.iload_n 1, 1) := by decide +kernel
theorem dX7_cut_26 : decode cX7_cut 26 = .ok (.isub, 1) := by decide +kernel
theorem dX7_cut_27 : decode cX7_cut 27 = .ok (.istore_n 2, 1) := by decide +kernel
theorem dX7_cut_28 : decode cX7_cut 28 = .ok (.aload_n 0, 1) := by decide +kernel
theorem dX7_cut_29 : decode cX7_cut 29 = .ok (.getfield 62, 3) := by decide +kernel
theorem dX7_cut_32 : decode cX7_cut 32 = .ok (.iload_n 1, 1) := by decide +kernel
theorem dX7_cut_33 : decode cX7_cut 33 = .ok (.putfield 79, 3) := by decide +kernel
theorem dX7_cut_36 : decode cX7_cut 36 = .ok (.iload_n 2, 1) := by decide +kernel
theorem dX7_cut_37 : decode cX7_cut 37 = .ok (.ireturn, 1) := by decide +kernel
set_option maxRecDepth 20000 in
theorem ggX7_forge_X3_has : GoodIn wsX7_forge wsX3_has := goodIn_r _ [6, 7, 27, 28] rfl (by decide +kernel)
set_option maxRecDepth 20000 in
theorem gX7_forge_X3_has : GoodIn wsX7_forge (wsV RX7 162 RX3 yX3_has wsX3_has) := goodIn_app (goodIn_of _ (by decide +kernel)) ggX7_forge_X3_has
set_option maxRecDepth 20000 in
theorem ggX7_forge_X7_isByte : GoodIn wsX7_forge wsX7_isByte := goodIn_r _ [11] rfl (by decide +kernel)
set_option maxRecDepth 20000 in
theorem gX7_forge_X7_isByte : GoodIn wsX7_forge (va_wsS RX7 165 yX7_isByte wsX7_isByte) := goodIn_app (goodIn_of _ (by decide +kernel)) ggX7_forge_X7_isByte
set_option maxRecDepth 20000 in
theorem ggX7_forge_X3_flip : GoodIn wsX7_forge wsX3_flip := goodIn_r _ [15, 16, 17, 3, 4, 5, 6, 7, 27, 28] rfl (by decide +kernel)
set_option maxRecDepth 20000 in
theorem gX7_forge_X3_flip : GoodIn wsX7_forge (wsV RX7 168 RX3 yX3_flip wsX3_flip) := goodIn_app (goodIn_of _ (by decide +kernel)) ggX7_forge_X3_flip
theorem dX7_forge_0 : decode cX7_forge 0 = .ok (.aload_n 0, 1) := by decide +kernel
theorem dX7_forge_1 : decode cX7_forge 1 = .ok (.getfield 62, 3) := by decide +kernel
theorem dX7_forge_4 : decode cX7_forge 4 = .ok (.iload_n 1, 1) := by decide +kernel
theorem dX7_forge_5 : decode cX7_forge 5 = .ok (.invokevirtual 162, 3) := by decide +kernel
theorem dX7_forge_8 : decode cX7_forge 8 = .ok (.ifCond .eq 22, 3) := by decide +kernel
theorem dX7_forge_11 : decode cX7_forge 11 = .ok (.iload_n 2, 1) := by decide +kernel
theorem dX7_forge_12 : decode cX7_forge 12 = .ok (.invokestatic 165, 3) := by decide +kernel
theorem dX7_forge_15 : decode cX7_forge 15 = .ok (.ifCond .eq 15, 3) := by decide +kernel
theorem dX7_forge_18 : decode cX7_forge 18 = .ok (.aload_n 0, 1) := by decide +kernel
theorem dX7_forge_19 : decode cX7_forge 19 = .ok (.getfield 62, 3) := by decide +kernel
theorem dX7_forge_22 : decode cX7_forge 22 = .ok (.iload_n 1, 1) := by decide +kernel
theorem dX7_forge_23 : decode cX7_forge 23 = .ok (.iload_n 2, 1) := by decide +kernel
theorem dX7_forge_24 : decode cX7_forge 24 = .ok (.invokevirtual 168, 3) := by decide +kernel
theorem dX7_forge_27 : decode cX7_forge 27 = .ok (.goto 5, 3) := by decide +kernel
theorem dX7_forge_30 : decode cX7_forge 30 = .ok (.bipush (-2), 2) := by decide +kernel
theorem dX7_forge_32 : decode cX7_forge 32 = .ok (.ireturn, 1) := by decide +kernel
set_option maxRecDepth 20000 in
theorem ggX7_read_X7_isTokenNumber : GoodIn wsX7_read wsX7_isTokenNumber := goodIn_r _ [9] rfl (by decide +kernel)
set_option maxRecDepth 20000 in
theorem gX7_read_X7_isTokenNumber : GoodIn wsX7_read (va_wsS RX7 100 yX7_isTokenNumber wsX7_isTokenNumber) := goodIn_app (goodIn_of _ (by decide +kernel)) ggX7_read_X7_isTokenNumber
set_option maxRecDepth 20000 in
theorem ggX7_read_X5_readToken : GoodIn wsX7_read wsX5_readToken := goodIn_r _ [14, 15, 16, 17, 18, 19, 20, 21, 22, 23, 24, 25, 26, 13, 27, 28, 29, 30, 31, 32, 33, 34, 35, 36, 37, 38, 39, 40, 41, 42, 43, 44, 45, 46, 47, 48, 49, 50, 51, 52, 53, 54, 55, 56, 57, 58, 59, 60, 61, 62, 63, 64, 65, 66, 67, 68, 69, 102, 103, 104, 105, 106, 107, 108, 109, 110, 111, 112, 113, 114] rfl (by decide +kernel)
set_option maxRecDepth 20000 in
theorem gX7_read_X5_readToken : GoodIn wsX7_read (wsV RX7 206 RX5 yX5_readToken wsX5_readToken) := goodIn_app (goodIn_of _ (by decide +kernel)) ggX7_read_X5_readToken
set_option maxRecDepth 20000 in
theorem ggX7_read_X6_takeOver : GoodIn wsX7_read wsX6_takeOver := goodIn_r _ [74, 75, 76, 77, 78, 79, 80, 81, 82, 31, 83, 33, 84, 52, 53, 54, 42, 55, 56, 57, 58, 85, 86, 87, 88, 89, 90, 91, 92, 106, 107, 108, 109, 110, 111, 112, 113, 114] rfl (by decide +kernel)
set_option maxRecDepth 20000 in
theorem gX7_read_X6_takeOver : GoodIn wsX7_read (wsV RX7 156 RX6 yX6_takeOver wsX6_takeOver) := goodIn_app (goodIn_of _ (by decide +kernel)) ggX7_read_X6_takeOver
theorem dX7_read_0 : decode cX7_read 0 = .ok (.iload_n 1, 1) := by decide +kernel
theorem dX7_read_1 : decode cX7_read 1 = .ok (.invokestatic 100, 3) := by decide +kernel
theorem dX7_read_4 : decode cX7_read 4 = .ok (.ifCond .ne 6, 3) := by decide +kernel
theorem dX7_read_7 : decode cX7_read 7 = .ok (.bipush (-2), 2) := by decide +kernel
theorem dX7_read_9 : decode cX7_read 9 = .ok (.ireturn, 1) := by decide +kernel
theorem dX7_read_10 : decode cX7_read 10 = .ok (.aload_n 0, 1) := by decide +kernel
theorem dX7_read_11 : decode cX7_read 11 = .ok (.getfield 25, 3) := by decide +kernel
theorem dX7_read_14 : decode cX7_read 14 = .ok (.aload_n 0, 1) := by decide +kernel
theorem dX7_read_15 : decode cX7_read 15 = .ok (.getfield 32, 3) := by decide +kernel
theorem dX7_read_18 : decode cX7_read 18 = .ok (.invokevirtual 206, 3) := by decide +kernel
theorem dX7_read_21 : decode cX7_read 21 = .ok (.ifCond .ne 14, 3) := by decide +kernel
theorem dX7_read_24 : decode cX7_read 24 = .ok (.bipush (-10), 2) := by decide +kernel
theorem dX7_read_26 : decode cX7_read 26 = .ok (.aload_n 0, 1) := by decide +kernel
theorem dX7_read_27 : decode cX7_read 27 = .ok (.getfield 25, 3) := by decide +kernel
theorem dX7_read_30 : decode cX7_read 30 = .ok (.getfield 210, 3) := by decide +kernel
theorem dX7_read_33 : decode cX7_read 33 = .ok (.isub, 1) := by decide +kernel
theorem dX7_read_34 : decode cX7_read 34 = .ok (.ireturn, 1) := by decide +kernel
theorem dX7_read_35 : decode cX7_read 35 = .ok (.aload_n 0, 1) := by decide +kernel
theorem dX7_read_36 : decode cX7_read 36 = .ok (.getfield 40, 3) := by decide +kernel
theorem dX7_read_39 : decode cX7_read 39 = .ok (.iload_n 1, 1) := by decide +kernel
theorem dX7_read_40 : decode cX7_read 40 = .ok (.aaload, 1) := by decide +kernel
theorem dX7_read_41 : decode cX7_read 41 = .ok (.aload_n 0, 1) := by decide +kernel
theorem dX7_read_42 : decode cX7_read 42 = .ok (.getfield 32, 3) := by decide +kernel
theorem dX7_read_45 : decode cX7_read 45 = .ok (.invokevirtual 156, 3) := by decide +kernel
theorem dX7_read_48 : decode cX7_read 48 = .ok (.aload_n 0, 1) := by decide +kernel
theorem dX7_read_49 : decode cX7_read 49 = .ok (.getfield 40, 3) := by decide +kernel
theorem dX7_read_52 : decode cX7_read 52 = .ok (.iload_n 1, 1) := by decide +kernel
theorem dX7_read_53 : decode cX7_read 53 = .ok (.aaload, 1) := by decide +kernel
theorem dX7_read_54 : decode cX7_read 54 = .ok (.getfield 110, 3) := by decide +kernel
theorem dX7_read_57 : decode cX7_read 57 = .ok (.ireturn, 1) := by decide +kernel
theorem dX7_place_0 : decode cX7_place 0 = .ok (.aload_n 0, 1) := by decide +kernel
theorem dX7_place_1 : decode cX7_place 1 = .ok (.getfield 25, 3) := by decide +kernel
theorem dX7_place_4 : decode cX7_place 4 = .ok (.getfield 211, 3) := by decide +kernel
theorem dX7_place_7 : decode cX7_place 7 = .ok (.ireturn, 1) := by decide +kernel
theorem dX7_isRegister_0 : decode cX7_isRegister 0 = .ok (.iload_n 0, 1) := by decide +kernel
theorem dX7_isRegister_1 : decode cX7_isRegister 1 = .ok (.ifCond .lt 13, 3) := by decide +kernel
theorem dX7_isRegister_4 : decode cX7_isRegister 4 = .ok (.iload_n 0, 1) := by decide +kernel
theorem dX7_isRegister_5 : decode cX7_isRegister 5 = .ok (.bipush 8, 2) := by decide +kernel
theorem dX7_isRegister_7 : decode cX7_isRegister 7 = .ok (.if_icmp .ge 7, 3) := by decide +kernel
theorem dX7_isRegister_10 : decode cX7_isRegister 10 = .ok (.iconst 1, 1) := by decide +kernel
theorem dX7_isRegister_11 : decode cX7_isRegister 11 = .ok (.goto 4, 3) := by decide +kernel
theorem dX7_isRegister_14 : decode cX7_isRegister 14 = .ok (.iconst 0, 1) := by decide +kernel
theorem dX7_isRegister_15 : decode cX7_isRegister 15 = .ok (.ireturn, 1) := by decide +kernel
theorem dX7_isTokenNumber_0 : decode cX7_isTokenNumber 0 = .ok (.iload_n 0, 1) := by decide +kernel
theorem dX7_isTokenNumber_1 : decode cX7_isTokenNumber 1 = .ok (.ifCond .lt 13, 3) := by decide +kernel
theorem dX7_isTokenNumber_4 : decode cX7_isTokenNumber 4 = .ok (.iload_n 0, 1) := by decide +kernel
theorem dX7_isTokenNumber_5 : decode cX7_isTokenNumber 5 = .ok (.bipush 8, 2) := by decide +kernel
theorem dX7_isTokenNumber_7 : decode cX7_isTokenNumber 7 = .ok (.if_icmp .ge 7, 3) := by decide +kernel
theorem dX7_isTokenNumber_10 : decode cX7_isTokenNumber 10 = .ok (.iconst 1, 1) := by decide +kernel
theorem dX7_isTokenNumber_11 : decode cX7_isTokenNumber 11 = .ok (.goto 4, 3) := by decide +kernel
theorem dX7_isTokenNumber_14 : decode cX7_isTokenNumber 14 = .ok (.iconst 0, 1) := by decide +kernel
theorem dX7_isTokenNumber_15 : decode cX7_isTokenNumber 15 = .ok (.ireturn, 1) := by decide +kernel
theorem dX7_isWidth_0 : decode cX7_isWidth 0 = .ok (.iload_n 0, 1) := by decide +kernel
theorem dX7_isWidth_1 : decode cX7_isWidth 1 = .ok (.iconst 1, 1) := by decide +kernel
theorem dX7_isWidth_2 : decode cX7_isWidth 2 = .ok (.if_icmp .lt 13, 3) := by decide +kernel
theorem dX7_isWidth_5 : decode cX7_isWidth 5 = .ok (.iload_n 0, 1) := by decide +kernel
theorem dX7_isWidth_6 : decode cX7_isWidth 6 = .ok (.bipush 8, 2) := by decide +kernel
theorem dX7_isWidth_8 : decode cX7_isWidth 8 = .ok (.if_icmp .gt 7, 3) := by decide +kernel
theorem dX7_isWidth_11 : decode cX7_isWidth 11 = .ok (.iconst 1, 1) := by decide +kernel
theorem dX7_isWidth_12 : decode cX7_isWidth 12 = .ok (.goto 4, 3) := by decide +kernel
theorem dX7_isWidth_15 : decode cX7_isWidth 15 = .ok (.iconst 0, 1) := by decide +kernel
theorem dX7_isWidth_16 : decode cX7_isWidth 16 = .ok (.ireturn, 1) := by decide +kernel
theorem dX7_isByte_0 : decode cX7_isByte 0 = .ok (.iload_n 0, 1) := by decide +kernel
