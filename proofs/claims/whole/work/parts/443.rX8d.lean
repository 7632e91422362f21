-- needs:
theorem dX8_place_11 : decode cX8_place 11 = .ok (.istore_n 3, 1) := by decide +kernel
theorem dX8_place_12 : decode cX8_place 12 = .ok (.aload_n 0, 1) := by decide +kernel
theorem dX8_place_13 : decode cX8_place 13 = .ok (.getfield 72, 3) := by decide +kernel
theorem dX8_place_16 : decode cX8_place 16 = .ok (.iload_n 3, 1) := by decide +kernel
theorem dX8_place_17 : decode cX8_place 17 = .ok (.aload_n 0, 1) := by decide +kernel
theorem dX8_place_18 : decode cX8_place 18 = .ok (.getfield 49, 3) := by decide +kernel
theorem dX8_place_21 : decode cX8_place 21 = .ok (.iload_n 2, 1) := by decide +kernel
theorem dX8_place_22 : decode cX8_place 22 = .ok (.iaload, 1) := by decide +kernel
theorem dX8_place_23 : decode cX8_place 23 = .ok (.iastore, 1) := by decide +kernel
theorem dX8_place_24 : decode cX8_place 24 = .ok (.iconst 0, 1) := by decide +kernel
theorem dX8_place_25 : decode cX8_place 25 = .ok (.istore 4, 2) := by decide +kernel
theorem dX8_place_27 : decode cX8_place 27 = .ok (.iload 4, 2) := by decide +kernel
theorem dX8_place_29 : decode cX8_place 29 = .ok (.aload_n 0, 1) := by decide +kernel
theorem dX8_place_30 : decode cX8_place 30 = .ok (.getfield 72, 3) := by decide +kernel
theorem dX8_place_33 : decode cX8_place 33 = .ok (.iload_n 3, 1) := by decide +kernel
theorem dX8_place_34 : decode cX8_place 34 = .ok (.iaload, 1) := by decide +kernel
theorem dX8_place_35 : decode cX8_place 35 = .ok (.if_icmp .ge 33, 3) := by decide +kernel
theorem dX8_place_38 : decode cX8_place 38 = .ok (.aload_n 0, 1) := by decide +kernel
theorem dX8_place_39 : decode cX8_place 39 = .ok (.getfield 75, 3) := by decide +kernel
theorem dX8_place_42 : decode cX8_place 42 = .ok (.bipush 60, 2) := by decide +kernel
theorem dX8_place_44 : decode cX8_place 44 = .ok (.iload_n 3, 1) := by decide +kernel
theorem dX8_place_45 : decode cX8_place 45 = .ok (.imul, 1) := by decide +kernel
theorem dX8_place_46 : decode cX8_place 46 = .ok (.iload 4, 2) := by decide +kernel
theorem dX8_place_48 : decode cX8_place 48 = .ok (.iadd, 1) := by decide +kernel
theorem dX8_place_49 : decode cX8_place 49 = .ok (.aload_n 0, 1) := by decide +kernel
theorem dX8_place_50 : decode cX8_place 50 = .ok (.getfield 46, 3) := by decide +kernel
theorem dX8_place_53 : decode cX8_place 53 = .ok (.bipush 100, 2) := by decide +kernel
theorem dX8_place_55 : decode cX8_place 55 = .ok (.iload_n 2, 1) := by decide +kernel
theorem dX8_place_56 : decode cX8_place 56 = .ok (.imul, 1) := by decide +kernel
theorem dX8_place_57 : decode cX8_place 57 = .ok (.iload 4, 2) := by decide +kernel
theorem dX8_place_59 : decode cX8_place 59 = .ok (.iadd, 1) := by decide +kernel
theorem dX8_place_60 : decode cX8_place 60 = .ok (.iaload, 1) := by decide +kernel
theorem dX8_place_61 : decode cX8_place 61 = .ok (.iastore, 1) := by decide +kernel
theorem dX8_place_62 : decode cX8_place 62 = .ok (.iinc 4 1, 3) := by decide +kernel
theorem dX8_place_65 : decode cX8_place 65 = .ok (.goto (-38), 3) := by decide +kernel
theorem dX8_place_68 : decode cX8_place 68 = .ok (.aload_n 0, 1) := by decide +kernel
theorem dX8_place_69 : decode cX8_place 69 = .ok (.getfield 69, 3) := by decide +kernel
theorem dX8_place_72 : decode cX8_place 72 = .ok (.iload_n 1, 1) := by decide +kernel
theorem dX8_place_73 : decode cX8_place 73 = .ok (.dup2, 1) := by decide +kernel
theorem dX8_place_74 : decode cX8_place 74 = .ok (.iaload, 1) := by decide +kernel
theorem dX8_place_75 : decode cX8_place 75 = .ok (.iconst 1, 1) := by decide +kernel
theorem dX8_place_76 : decode cX8_place 76 = .ok (.iadd, 1) := by decide +kernel
theorem dX8_place_77 : decode cX8_place 77 = .ok (.iastore, 1) := by decide +kernel
theorem dX8_place_78 : decode cX8_place 78 = .ok (.iload_n 3, 1) := by decide +kernel
theorem dX8_place_79 : decode cX8_place 79 = .ok (.ireturn, 1) := by decide +kernel
set_option maxRecDepth 20000 in
theorem ggX8_limit_X8_isToken : GoodIn wsX8_limit wsX8_isToken := goodIn_r _ [9, 10, 11, 12, 8, 13, 14, 15, 16, 82, 83, 84, 85, 86, 87, 88, 89, 90, 91, 92, 93, 94, 95, 96, 97, 98, 99, 100, 101, 102, 103, 104, 105, 106, 107, 108, 109, 110, 111, 112, 113, 114, 115, 116, 117, 118, 119, 120, 121, 122, 123] rfl (by decide +kernel)
set_option maxRecDepth 20000 in
theorem gX8_limit_X8_isToken : GoodIn wsX8_limit (wsV RX8 175 RX8 yX8_isToken wsX8_isToken) := goodIn_app (goodIn_of _ (by decide +kernel)) ggX8_limit_X8_isToken
set_option maxRecDepth 20000 in
theorem ggX8_limit_X8_is : GoodIn wsX8_limit wsX8_is := goodIn_r _ [13, 14, 15, 8, 16] rfl (by decide +kernel)
set_option maxRecDepth 20000 in
theorem gX8_limit_X8_is : GoodIn wsX8_limit (va_wsS RX8 157 yX8_is wsX8_is) := goodIn_app (goodIn_of _ (by decide +kernel)) ggX8_limit_X8_is
set_option maxRecDepth 20000 in
theorem ggX8_limit_X8_isText : GoodIn wsX8_limit wsX8_isText := goodIn_r _ [20, 21, 14, 15, 8, 16, 82, 83, 84, 85, 86, 87, 88, 89, 90, 91, 92, 93, 94, 95, 96, 97, 98, 99, 100, 101, 102, 103, 104, 105, 106, 107, 108, 109, 110, 111, 112, 113, 114, 115, 116, 117, 118, 119, 120, 121, 122, 123] rfl (by decide +kernel)
set_option maxRecDepth 20000 in
theorem gX8_limit_X8_isText : GoodIn wsX8_limit (wsV RX8 172 RX8 yX8_isText wsX8_isText) := goodIn_app (goodIn_of _ (by decide +kernel)) ggX8_limit_X8_isText
set_option maxRecDepth 20000 in
theorem ggX8_limit_X8_place : GoodIn wsX8_limit wsX8_place := goodIn_r _ [25, 2, 26, 21, 27, 28, 82, 83, 84, 85, 86, 87, 88, 89, 90, 91, 92, 93, 94, 95, 96, 97, 98, 99, 100, 101, 102, 103, 104, 105, 106, 107, 108, 109, 110, 111, 112, 113, 114, 115, 116, 117, 118, 119, 120, 121, 122, 123] rfl (by decide +kernel)
set_option maxRecDepth 20000 in
theorem gX8_limit_X8_place : GoodIn wsX8_limit (wsV RX8 178 RX8 yX8_place wsX8_place) := goodIn_app (goodIn_of _ (by decide +kernel)) ggX8_limit_X8_place
set_option maxRecDepth 20000 in
theorem ggX8_limit_X8_goOn : GoodIn wsX8_limit wsX8_goOn := goodIn_r _ [32, 3, 27, 26, 33, 34, 35, 36, 37, 38, 8, 39, 40, 41, 42, 43, 44, 45, 46, 47, 48, 49, 50, 51, 52, 53, 54, 55, 56, 57, 58, 59, 60, 61, 62, 63, 64, 65, 66, 67, 68, 69, 70, 71, 72, 73, 74, 75, 76, 77, 78, 79, 80, 81, 82, 83, 84, 85, 86, 87, 88, 89, 90, 91, 92, 93, 94, 95, 96, 97, 98, 99, 100, 101, 102, 103, 104, 105, 106, 107, 108, 109, 110, 111, 112, 113, 114, 115, 116, 117, 118, 119, 120, 121, 122, 123] rfl (by decide +kernel)
set_option maxRecDepth 20000 in
theorem gX8_limit_X8_goOn : GoodIn wsX8_limit (wsV RX8 180 RX8 yX8_goOn wsX8_goOn) := goodIn_app (goodIn_of _ (by decide +kernel)) ggX8_limit_X8_goOn
theorem dX8_limit_0 : decode cX8_limit 0 = .ok (.aload_n 0, 1) := by decide +kernel
theorem dX8_limit_1 : decode cX8_limit 1 = .ok (.iconst 0, 1) := by decide +kernel
theorem dX8_limit_2 : decode cX8_limit 2 = .ok (.putfield 112, 3) := by decide +kernel
theorem dX8_limit_5 : decode cX8_limit 5 = .ok (.aload_n 0, 1) := by decide +kernel
theorem dX8_limit_6 : decode cX8_limit 6 = .ok (.iload_n 1, 1) := by decide +kernel
theorem dX8_limit_7 : decode cX8_limit 7 = .ok (.invokevirtual 175, 3) := by decide +kernel
theorem dX8_limit_10 : decode cX8_limit 10 = .ok (.ifCond .eq 10, 3) := by decide +kernel
theorem dX8_limit_13 : decode cX8_limit 13 = .ok (.iload_n 2, 1) := by decide +kernel
theorem dX8_limit_14 : decode cX8_limit 14 = .ok (.invokestatic 157, 3) := by decide +kernel
theorem dX8_limit_17 : decode cX8_limit 17 = .ok (.ifCond .ne 6, 3) := by decide +kernel
theorem dX8_limit_20 : decode cX8_limit 20 = .ok (.bipush (-2), 2) := by decide +kernel
theorem dX8_limit_22 : decode cX8_limit 22 = .ok (.ireturn, 1) := by decide +kernel
theorem dX8_limit_23 : decode cX8_limit 23 = .ok (.aload_n 0, 1) := by decide +kernel
theorem dX8_limit_24 : decode cX8_limit 24 = .ok (.iload_n 2, 1) := by decide +kernel
theorem dX8_limit_25 : decode cX8_limit 25 = .ok (.invokevirtual 172, 3) := by decide +kernel
theorem dX8_limit_28 : decode cX8_limit 28 = .ok (.ifCond .eq 14, 3) := by decide +kernel
theorem dX8_limit_31 : decode cX8_limit 31 = .ok (.aload_n 0, 1) := by decide +kernel
theorem dX8_limit_32 : decode cX8_limit 32 = .ok (.getfield 69, 3) := by decide +kernel
theorem dX8_limit_35 : decode cX8_limit 35 = .ok (.iload_n 1, 1) := by decide +kernel
theorem dX8_limit_36 : decode cX8_limit 36 = .ok (.iaload, 1) := by decide +kernel
theorem dX8_limit_37 : decode cX8_limit 37 = .ok (.bipush 10, 2) := by decide +kernel
theorem dX8_limit_39 : decode cX8_limit 39 = .ok (.if_icmp .ne 6, 3) := by decide +kernel
theorem dX8_limit_42 : decode cX8_limit 42 = .ok (.bipush (-3), 2) := by decide +kernel
theorem dX8_limit_44 : decode cX8_limit 44 = .ok (.ireturn, 1) := by decide +kernel
theorem dX8_limit_45 : decode cX8_limit 45 = .ok (.aload_n 0, 1) := by decide +kernel
theorem dX8_limit_46 : decode cX8_limit 46 = .ok (.iload_n 1, 1) := by decide +kernel
theorem dX8_limit_47 : decode cX8_limit 47 = .ok (.iload_n 2, 1) := by decide +kernel
theorem dX8_limit_48 : decode cX8_limit 48 = .ok (.invokevirtual 178, 3) := by decide +kernel
theorem dX8_limit_51 : decode cX8_limit 51 = .ok (.istore_n 3, 1) := by decide +kernel
theorem dX8_limit_52 : decode cX8_limit 52 = .ok (.aload_n 0, 1) := by decide +kernel
theorem dX8_limit_53 : decode cX8_limit 53 = .ok (.getfield 78, 3) := by decide +kernel
theorem dX8_limit_56 : decode cX8_limit 56 = .ok (.iload_n 3, 1) := by decide +kernel
theorem dX8_limit_57 : decode cX8_limit 57 = .ok (.iconst 0, 1) := by decide +kernel
theorem dX8_limit_58 : decode cX8_limit 58 = .ok (.bastore, 1) := by decide +kernel
theorem dX8_limit_59 : decode cX8_limit 59 = .ok (.aload_n 0, 1) := by decide +kernel
theorem dX8_limit_60 : decode cX8_limit 60 = .ok (.aload_n 0, 1) := by decide +kernel
theorem dX8_limit_61 : decode cX8_limit 61 = .ok (.getfield 84, 3) := by decide +kernel
theorem dX8_limit_64 : decode cX8_limit 64 = .ok (.bipush 32, 2) := by decide +kernel
theorem dX8_limit_66 : decode cX8_limit 66 = .ok (.iload_n 1, 1) := by decide +kernel
theorem dX8_limit_67 : decode cX8_limit 67 = .ok (.imul, 1) := by decide +kernel
theorem dX8_limit_68 : decode cX8_limit 68 = .ok (.iload_n 3, 1) := by decide +kernel
theorem dX8_limit_69 : decode cX8_limit 69 = .ok (.invokevirtual 180, 3) := by decide +kernel
theorem dX8_limit_72 : decode cX8_limit 72 = .ok (.aload_n 0, 1) := by decide +kernel
theorem dX8_limit_73 : decode cX8_limit 73 = .ok (.getfield 69, 3) := by decide +kernel
theorem dX8_limit_76 : decode cX8_limit 76 = .ok (.iload_n 1, 1) := by decide +kernel
theorem dX8_limit_77 : decode cX8_limit 77 = .ok (.iaload, 1) := by decide +kernel
theorem dX8_limit_78 : decode cX8_limit 78 = .ok (.ireturn, 1) := by decide +kernel
set_option maxRecDepth 20000 in
theorem ggX8_goOn_X8_keyIs : GoodIn wsX8_goOn wsX8_keyIs := goodIn_r _ [11, 12, 13, 14, 54, 55, 56, 57, 58, 59, 60, 61, 62, 63, 64, 65, 66, 67, 68, 69, 70, 71, 72, 73, 74, 75, 76, 77, 78, 79, 80, 81, 82, 83, 84, 85, 86, 87, 88, 89, 90, 91, 92, 93, 94, 95] rfl (by decide +kernel)
set_option maxRecDepth 20000 in
theorem gX8_goOn_X8_keyIs : GoodIn wsX8_goOn (wsV RX8 163 RX8 yX8_keyIs wsX8_keyIs) := goodIn_app (goodIn_of _ (by decide +kernel)) ggX8_goOn_X8_keyIs
set_option maxRecDepth 20000 in
theorem ggX8_goOn_X8_add : GoodIn wsX8_goOn wsX8_add := goodIn_r _ [18, 19, 14, 54, 55, 56, 57, 58, 59, 60, 61, 62, 63, 64, 65, 66, 67, 68, 69, 70, 71, 72, 73, 74, 75, 76, 77, 78, 79, 80, 81, 82, 83, 84, 85, 86, 87, 88, 89, 90, 91, 92, 93, 94, 95] rfl (by decide +kernel)
set_option maxRecDepth 20000 in
theorem gX8_goOn_X8_add : GoodIn wsX8_goOn (wsV RX8 166 RX8 yX8_add wsX8_add) := goodIn_app (goodIn_of _ (by decide +kernel)) ggX8_goOn_X8_add
set_option maxRecDepth 20000 in
theorem ggX8_goOn_X8_sealNow : GoodIn wsX8_goOn wsX8_sealNow := goodIn_r _ [23, 13, 24, 12, 25, 19, 14, 4, 26, 27, 28, 10, 29, 30, 31, 32, 33, 34, 35, 36, 37, 38, 39, 40, 41, 42, 43, 44, 45, 46, 47, 48, 49, 50, 51, 52, 53, 54, 55, 56, 57, 58, 59, 60, 61, 62, 63, 64, 65, 66, 67, 68, 69, 70, 71, 72, 73, 74, 75, 76, 77, 78, 79, 80, 81, 82, 83, 84, 85, 86, 87, 88, 89, 90, 91, 92, 93, 94, 95] rfl (by decide +kernel)
set_option maxRecDepth 20000 in
theorem gX8_goOn_X8_sealNow : GoodIn wsX8_goOn (wsV RX8 169 RX8 yX8_sealNow wsX8_sealNow) := goodIn_app (goodIn_of _ (by decide +kernel)) ggX8_goOn_X8_sealNow
set_option maxRecDepth 20000 in
theorem ggX8_goOn_X8_copyTo : GoodIn wsX8_goOn wsX8_copyTo := goodIn_r _ [53] rfl (by decide +kernel)
set_option maxRecDepth 20000 in
theorem gX8_goOn_X8_copyTo : GoodIn wsX8_goOn (va_wsS RX8 149 yX8_copyTo wsX8_copyTo) := goodIn_app (goodIn_of _ (by decide +kernel)) ggX8_goOn_X8_copyTo
theorem dX8_goOn_0 : decode cX8_goOn 0 = .ok (.aload_n 0, 1) := by decide +kernel
theorem dX8_goOn_1 : decode cX8_goOn 1 = .ok (.getfield 78, 3) := by decide +kernel
theorem dX8_goOn_4 : decode cX8_goOn 4 = .ok (.iload_n 3, 1) := by decide +kernel
theorem dX8_goOn_5 : decode cX8_goOn 5 = .ok (.baload, 1) := by decide +kernel
theorem dX8_goOn_6 : decode cX8_goOn 6 = .ok (.ifCond .ne 43, 3) := by decide +kernel
theorem dX8_goOn_9 : decode cX8_goOn 9 = .ok (.aload_n 0, 1) := by decide +kernel
theorem dX8_goOn_10 : decode cX8_goOn 10 = .ok (.aload_n 1, 1) := by decide +kernel
theorem dX8_goOn_11 : decode cX8_goOn 11 = .ok (.iload_n 2, 1) := by decide +kernel
theorem dX8_goOn_12 : decode cX8_goOn 12 = .ok (.bipush 32, 2) := by decide +kernel
theorem dX8_goOn_14 : decode cX8_goOn 14 = .ok (.invokevirtual 163, 3) := by decide +kernel
theorem dX8_goOn_17 : decode cX8_goOn 17 = .ok (.aload_n 0, 1) := by decide +kernel
theorem dX8_goOn_18 : decode cX8_goOn 18 = .ok (.aload_n 0, 1) := by decide +kernel
theorem dX8_goOn_19 : decode cX8_goOn 19 = .ok (.getfield 75, 3) := by decide +kernel
theorem dX8_goOn_22 : decode cX8_goOn 22 = .ok (.bipush 60, 2) := by decide +kernel
theorem dX8_goOn_24 : decode cX8_goOn 24 = .ok (.iload_n 3, 1) := by decide +kernel
theorem dX8_goOn_25 : decode cX8_goOn 25 = .ok (.imul, 1) := by decide +kernel
theorem dX8_goOn_26 : decode cX8_goOn 26 = .ok (.aload_n 0, 1) := by decide +kernel
theorem dX8_goOn_27 : decode cX8_goOn 27 = .ok (.getfield 72, 3) := by decide +kernel
theorem dX8_goOn_30 : decode cX8_goOn 30 = .ok (.iload_n 3, 1) := by decide +kernel
theorem dX8_goOn_31 : decode cX8_goOn 31 = .ok (.iaload, 1) := by decide +kernel
theorem dX8_goOn_32 : decode cX8_goOn 32 = .ok (.invokevirtual 166, 3) := by decide +kernel
theorem dX8_goOn_35 : decode cX8_goOn 35 = .ok (.aload_n 0, 1) := by decide +kernel
theorem dX8_goOn_36 : decode cX8_goOn 36 = .ok (.invokevirtual 169, 3) := by decide +kernel
theorem dX8_goOn_39 : decode cX8_goOn 39 = .ok (.aload_n 0, 1) := by decide +kernel
theorem dX8_goOn_40 : decode cX8_goOn 40 = .ok (.getfield 37, 3) := by decide +kernel
theorem dX8_goOn_43 : decode cX8_goOn 43 = .ok (.aload_n 1, 1) := by decide +kernel
theorem dX8_goOn_44 : decode cX8_goOn 44 = .ok (.iload_n 2, 1) := by decide +kernel
theorem dX8_goOn_45 : decode cX8_goOn 45 = .ok (.invokestatic 149, 3) := by decide +kernel
theorem dX8_goOn_48 : decode cX8_goOn 48 = .ok (.return_, 1) := by decide +kernel
theorem dX8_goOn_49 : decode cX8_goOn 49 = .ok (.aload_n 0, 1) := by decide +kernel
theorem dX8_goOn_50 : decode cX8_goOn 50 = .ok (.aload_n 1, 1) := by decide +kernel
theorem dX8_goOn_51 : decode cX8_goOn 51 = .ok (.iload_n 2, 1) := by decide +kernel
theorem dX8_goOn_52 : decode cX8_goOn 52 = .ok (.bipush 32, 2) := by decide +kernel
theorem dX8_goOn_54 : decode cX8_goOn 54 = .ok (.invokevirtual 163, 3) := by decide +kernel
theorem dX8_goOn_57 : decode cX8_goOn 57 = .ok (.aload_n 0, 1) := by decide +kernel
theorem dX8_goOn_58 : decode cX8_goOn 58 = .ok (.aload_n 0, 1) := by decide +kernel
theorem dX8_goOn_59 : decode cX8_goOn 59 = .ok (.getfield 81, 3) := by decide +kernel
theorem dX8_goOn_62 : decode cX8_goOn 62 = .ok (.bipush 32, 2) := by decide +kernel
theorem dX8_goOn_64 : decode cX8_goOn 64 = .ok (.iload_n 3, 1) := by decide +kernel
theorem dX8_goOn_65 : decode cX8_goOn 65 = .ok (.imul, 1) := by decide +kernel
theorem dX8_goOn_66 : decode cX8_goOn 66 = .ok (.bipush 32, 2) := by decide +kernel
theorem dX8_goOn_68 : decode cX8_goOn 68 = .ok (.invokevirtual 166, 3) := by decide +kernel
theorem dX8_goOn_71 : decode cX8_goOn 71 = .ok (.aload_n 0, 1) := by decide +kernel
theorem dX8_goOn_72 : decode cX8_goOn 72 = .ok (.invokevirtual 169, 3) := by decide +kernel
theorem dX8_goOn_75 : decode cX8_goOn 75 = .ok (.aload_n 0, 1) := by decide +kernel
theorem dX8_goOn_76 : decode cX8_goOn 76 = .ok (.getfield 37, 3) := by decide +kernel
theorem dX8_goOn_79 : decode cX8_goOn 79 = .ok (.aload_n 0, 1) := by decide +kernel
theorem dX8_goOn_80 : decode cX8_goOn 80 = .ok (.getfield 40, 3) := by decide +kernel
theorem dX8_goOn_83 : decode cX8_goOn 83 = .ok (.iconst 0, 1) := by decide +kernel
theorem dX8_goOn_84 : decode cX8_goOn 84 = .ok (.invokestatic 149, 3) := by decide +kernel
theorem dX8_goOn_87 : decode cX8_goOn 87 = .ok (.aload_n 0, 1) := by decide +kernel
theorem dX8_goOn_88 : decode cX8_goOn 88 = .ok (.aload_n 1, 1) := by decide +kernel
theorem dX8_goOn_89 : decode cX8_goOn 89 = .ok (.iload_n 2, 1) := by decide +kernel
theorem dX8_goOn_90 : decode cX8_goOn 90 = .ok (.bipush 32, 2) := by decide +kernel
theorem dX8_goOn_92 : decode cX8_goOn 92 = .ok (.invokevirtual 163, 3) := by decide +kernel
theorem dX8_goOn_95 : decode cX8_goOn 95 = .ok (.aload_n 0, 1) := by decide +kernel
theorem dX8_goOn_96 : decode cX8_goOn 96 = .ok (.aload_n 0, 1) := by decide +kernel
theorem dX8_goOn_97 : decode cX8_goOn 97 = .ok (.getfield 75, 3) := by decide +kernel
theorem dX8_goOn_100 : decode cX8_goOn 100 = .ok (.bipush 60, 2) := by decide +kernel
theorem dX8_goOn_102 : decode cX8_goOn 102 = .ok (.iload_n 3, 1) := by decide +kernel
theorem dX8_goOn_103 : decode cX8_goOn 103 = .ok (.imul, 1) := by decide +kernel
theorem dX8_goOn_104 : decode cX8_goOn 104 = .ok (.aload_n 0, 1) := by decide +kernel
theorem dX8_goOn_105 : decode cX8_goOn 105 = .ok (.getfield 72, 3) := by decide +kernel
theorem dX8_goOn_108 : decode cX8_goOn 108 = .ok (.iload_n 3, 1) := by decide +kernel
theorem dX8_goOn_109 : decode cX8_goOn 109 = .ok (.iaload, 1) := by decide +kernel
theorem dX8_goOn_110 : decode cX8_goOn 110 = .ok (.invokevirtual 166, 3) := by decide +kernel
theorem dX8_goOn_113 : decode cX8_goOn 113 = .ok (.aload_n 0, 1) := by decide +kernel
theorem dX8_goOn_114 : decode cX8_goOn 114 = .ok (.invokevirtual 169, 3) := by decide +kernel
theorem dX8_goOn_117 : decode cX8_goOn 117 = .ok (.aload_n 0, 1) := by decide +kernel
theorem dX8_goOn_118 : decode cX8_goOn 118 = .ok (.aload_n 1, 1) := by decide +kernel
theorem dX8_goOn_119 : decode cX8_goOn 119 = .ok (.iload_n 2, 1) := by decide +kernel
theorem dX8_goOn_120 : decode cX8_goOn 120 = .ok (.bipush 32, 2) := by decide +kernel
theorem dX8_goOn_122 : decode cX8_goOn 122 = .ok (.invokevirtual 163, 3) := by decide +kernel
theorem dX8_goOn_125 : decode cX8_goOn 125 = .ok (.aload_n 0, 1) := by decide +kernel
theorem dX8_goOn_126 : decode cX8_goOn 126 = .ok (.aload_n 0, 1) := by decide +kernel
theorem dX8_goOn_127 : decode cX8_goOn 127 = .ok (.getfield 40, 3) := by decide +kernel
theorem dX8_goOn_130 : decode cX8_goOn 130 = .ok (.iconst 0, 1) := by decide +kernel
theorem dX8_goOn_131 : decode cX8_goOn 131 = .ok (.bipush 32, 2) := by decide +kernel
theorem dX8_goOn_133 : decode cX8_goOn 133 = .ok (.invokevirtual 166, 3) := by decide +kernel
theorem dX8_goOn_136 : decode cX8_goOn 136 = .ok (.aload_n 0, 1) := by decide +kernel
theorem dX8_goOn_137 : decode cX8_goOn 137 = .ok (.aload_n 0, 1) := by decide +kernel
theorem dX8_goOn_138 : decode cX8_goOn 138 = .ok (.getfield 37, 3) := by decide +kernel
theorem dX8_goOn_141 : decode cX8_goOn 141 = .ok (.iconst 0, 1) := by decide +kernel
theorem dX8_goOn_142 : decode cX8_goOn 142 = .ok (.bipush 32, 2) := by decide +kernel
theorem dX8_goOn_144 : decode cX8_goOn 144 = .ok (.invokevirtual 166, 3) := by decide +kernel
theorem dX8_goOn_147 : decode cX8_goOn 147 = .ok (.aload_n 0, 1) := by decide +kernel
theorem dX8_goOn_148 : decode cX8_goOn 148 = .ok (.invokevirtual 169, 3) := by decide +kernel
theorem dX8_goOn_151 : decode cX8_goOn 151 = .ok (.aload_n 0, 1) := by decide +kernel
theorem dX8_goOn_152 : decode cX8_goOn 152 = .ok (.getfield 37, 3) := by decide +kernel
theorem dX8_goOn_155 : decode cX8_goOn 155 = .ok (.aload_n 1, 1) := by decide +kernel
theorem dX8_goOn_156 : decode cX8_goOn 156 = .ok (.iload_n 2, 1) := by decide +kernel
theorem dX8_goOn_157 : decode cX8_goOn 157 = .ok (.invokestatic 149, 3) := by decide +kernel
theorem dX8_goOn_160 : decode cX8_goOn 160 = .ok (.return_, 1) := by decide +kernel
set_option maxRecDepth 20000 in
theorem ggX8_others_X8_isToken : GoodIn wsX8_others wsX8_isToken := goodIn_r _ [15, 16, 17, 18, 14, 19, 20, 21, 22, 82, 83, 84, 85, 86, 87, 88, 89, 90, 91, 92, 93, 94, 95, 96, 97, 98, 99, 100, 101, 102, 103, 104, 105, 106, 107, 108, 109, 110, 111, 112, 113, 114, 115, 116, 117, 118, 119, 120, 121, 122, 123] rfl (by decide +kernel)
set_option maxRecDepth 20000 in
theorem gX8_others_X8_isToken : GoodIn wsX8_others (wsV RX8 175 RX8 yX8_isToken wsX8_isToken) := goodIn_app (goodIn_of _ (by decide +kernel)) ggX8_others_X8_isToken
set_option maxRecDepth 20000 in
theorem ggX8_others_X8_is : GoodIn wsX8_others wsX8_is := goodIn_r _ [19, 20, 21, 14, 22] rfl (by decide +kernel)
set_option maxRecDepth 20000 in
theorem gX8_others_X8_is : GoodIn wsX8_others (va_wsS RX8 157 yX8_is wsX8_is) := goodIn_app (goodIn_of _ (by decide +kernel)) ggX8_others_X8_is
set_option maxRecDepth 20000 in
theorem ggX8_others_X8_isText : GoodIn wsX8_others wsX8_isText := goodIn_r _ [26, 3, 20, 21, 14, 22, 82, 83, 84, 85, 86, 87, 88, 89, 90, 91, 92, 93, 94, 95, 96, 97, 98, 99, 100, 101, 102, 103, 104, 105, 106, 107, 108, 109, 110, 111, 112, 113, 114, 115, 116, 117, 118, 119, 120, 121, 122, 123] rfl (by decide +kernel)
set_option maxRecDepth 20000 in
theorem gX8_others_X8_isText : GoodIn wsX8_others (wsV RX8 172 RX8 yX8_isText wsX8_isText) := goodIn_app (goodIn_of _ (by decide +kernel)) ggX8_others_X8_isText
set_option maxRecDepth 20000 in
theorem ggX8_others_X8_place : GoodIn wsX8_others wsX8_place := goodIn_r _ [30, 2, 7, 3, 6, 9, 82, 83, 84, 85, 86, 87, 88, 89, 90, 91, 92, 93, 94, 95, 96, 97, 98, 99, 100, 101, 102, 103, 104, 105, 106, 107, 108, 109, 110, 111, 112, 113, 114, 115, 116, 117, 118, 119, 120, 121, 122, 123] rfl (by decide +kernel)
set_option maxRecDepth 20000 in
theorem gX8_others_X8_place : GoodIn wsX8_others (wsV RX8 178 RX8 yX8_place wsX8_place) := goodIn_app (goodIn_of _ (by decide +kernel)) ggX8_others_X8_place
set_option maxRecDepth 20000 in
theorem ggX8_others_X8_keyIs : GoodIn wsX8_others wsX8_keyIs := goodIn_r _ [34, 35, 36, 37, 82, 83, 84, 85, 86, 87, 88, 89, 90, 91, 92, 93, 94, 95, 96, 97, 98, 99, 100, 101, 102, 103, 104, 105, 106, 107, 108, 109, 110, 111, 112, 113, 114, 115, 116, 117, 118, 119, 120, 121, 122, 123] rfl (by decide +kernel)
set_option maxRecDepth 20000 in
theorem gX8_others_X8_keyIs : GoodIn wsX8_others (wsV RX8 163 RX8 yX8_keyIs wsX8_keyIs) := goodIn_app (goodIn_of _ (by decide +kernel)) ggX8_others_X8_keyIs
set_option maxRecDepth 20000 in
theorem ggX8_others_X8_add : GoodIn wsX8_others wsX8_add := goodIn_r _ [41, 42, 37, 82, 83, 84, 85, 86, 87, 88, 89, 90, 91, 92, 93, 94, 95, 96, 97, 98, 99, 100, 101, 102, 103, 104, 105, 106, 107, 108, 109, 110, 111, 112, 113, 114, 115, 116, 117, 118, 119, 120, 121, 122, 123] rfl (by decide +kernel)
set_option maxRecDepth 20000 in
theorem gX8_others_X8_add : GoodIn wsX8_others (wsV RX8 166 RX8 yX8_add wsX8_add) := goodIn_app (goodIn_of _ (by decide +kernel)) ggX8_others_X8_add
set_option maxRecDepth 20000 in
theorem ggX8_others_X8_sealNow : GoodIn wsX8_others wsX8_sealNow := goodIn_r _ [46, 36, 47, 35, 48, 42, 37, 10, 49, 50, 51, 14, 52, 53, 54, 55, 56, 57, 58, 59, 60, 61, 62, 63, 64, 65, 66, 67, 68, 69, 70, 71, 72, 73, 74, 75, 76, 82, 83, 84, 85, 86, 87, 88, 89, 90, 91, 92, 93, 94, 95, 96, 97, 98, 99, 100, 101, 102, 103, 104, 105, 106, 107, 108, 109, 110, 111, 112, 113, 114, 115, 116, 117, 118, 119, 120, 121, 122, 123] rfl (by decide +kernel)
set_option maxRecDepth 20000 in
theorem gX8_others_X8_sealNow : GoodIn wsX8_others (wsV RX8 169 RX8 yX8_sealNow wsX8_sealNow) := goodIn_app (goodIn_of _ (by decide +kernel)) ggX8_others_X8_sealNow
set_option maxRecDepth 20000 in
theorem ggX8_others_X8_goOn : GoodIn wsX8_others wsX8_goOn := goodIn_r _ [80, 4, 6, 7, 10, 8, 81, 31, 32, 33, 14, 34, 35, 36, 37, 38, 39, 40, 41, 42, 43, 44, 45, 46, 47, 48, 49, 50, 51, 52, 53, 54, 55, 56, 57, 58, 59, 60, 61, 62, 63, 64, 65, 66, 67, 68, 69, 70, 71, 72, 73, 74, 75, 76, 82, 83, 84, 85, 86, 87, 88, 89, 90, 91, 92, 93, 94, 95, 96, 97, 98, 99, 100, 101, 102, 103, 104, 105, 106, 107, 108, 109, 110, 111, 112, 113, 114, 115, 116, 117, 118, 119, 120, 121, 122, 123] rfl (by decide +kernel)
set_option maxRecDepth 20000 in
theorem gX8_others_X8_goOn : GoodIn wsX8_others (wsV RX8 180 RX8 yX8_goOn wsX8_goOn) := goodIn_app (goodIn_of _ (by decide +kernel)) ggX8_others_X8_goOn
theorem dX8_others_0 : decode cX8_others 0 = .ok (.aload_n 0, 1) := by decide +kernel
theorem dX8_others_1 : decode cX8_others 1 = .ok (.iconst 0, 1) := by decide +kernel
theorem dX8_others_2 : decode cX8_others 2 = .ok (.putfield 112, 3) := by decide +kernel
theorem dX8_others_5 : decode cX8_others 5 = .ok (.aload_n 0, 1) := by decide +kernel
theorem dX8_others_6 : decode cX8_others 6 = .ok (.iload_n 1, 1) := by decide +kernel
theorem dX8_others_7 : decode cX8_others 7 = .ok (.invokevirtual 175, 3) := by decide +kernel
theorem dX8_others_10 : decode cX8_others 10 = .ok (.ifCond .eq 17, 3) := by decide +kernel
theorem dX8_others_13 : decode cX8_others 13 = .ok (.iload_n 2, 1) := by decide +kernel
theorem dX8_others_14 : decode cX8_others 14 = .ok (.invokestatic 157, 3) := by decide +kernel
theorem dX8_others_17 : decode cX8_others 17 = .ok (.ifCond .eq 10, 3) := by decide +kernel
theorem dX8_others_20 : decode cX8_others 20 = .ok (.iload_n 3, 1) := by decide +kernel
theorem dX8_others_21 : decode cX8_others 21 = .ok (.invokestatic 157, 3) := by decide +kernel
theorem dX8_others_24 : decode cX8_others 24 = .ok (.ifCond .ne 6, 3) := by decide +kernel
theorem dX8_others_27 : decode cX8_others 27 = .ok (.bipush (-2), 2) := by decide +kernel
theorem dX8_others_29 : decode cX8_others 29 = .ok (.ireturn, 1) := by decide +kernel
theorem dX8_others_30 : decode cX8_others 30 = .ok (.aload_n 0, 1) := by decide +kernel
theorem dX8_others_31 : decode cX8_others 31 = .ok (.iload_n 3, 1) := by decide +kernel
theorem dX8_others_32 : decode cX8_others 32 = .ok (.invokevirtual 172, 3) := by decide +kernel
theorem dX8_others_35 : decode cX8_others 35 = .ok (.ifCond .eq 25, 3) := by decide +kernel
theorem dX8_others_38 : decode cX8_others 38 = .ok (.aload_n 0, 1) := by decide +kernel
theorem dX8_others_39 : decode cX8_others 39 = .ok (.getfield 69, 3) := by decide +kernel
theorem dX8_others_42 : decode cX8_others 42 = .ok (.iload_n 1, 1) := by decide +kernel
theorem dX8_others_43 : decode cX8_others 43 = .ok (.iaload, 1) := by decide +kernel
theorem dX8_others_44 : decode cX8_others 44 = .ok (.bipush 10, 2) := by decide +kernel
theorem dX8_others_46 : decode cX8_others 46 = .ok (.if_icmp .eq 14, 3) := by decide +kernel
theorem dX8_others_49 : decode cX8_others 49 = .ok (.aload_n 0, 1) := by decide +kernel
theorem dX8_others_50 : decode cX8_others 50 = .ok (.getfield 49, 3) := by decide +kernel
theorem dX8_others_53 : decode cX8_others 53 = .ok (.iload_n 2, 1) := by decide +kernel
theorem dX8_others_54 : decode cX8_others 54 = .ok (.iaload, 1) := by decide +kernel
theorem dX8_others_55 : decode cX8_others 55 = .ok (.bipush 32, 2) := by decide +kernel
theorem dX8_others_57 : decode cX8_others 57 = .ok (.if_icmp .eq 6, 3) := by decide +kernel
theorem dX8_others_60 : decode cX8_others 60 = .ok (.bipush (-3), 2) := by decide +kernel
theorem dX8_others_62 : decode cX8_others 62 = .ok (.ireturn, 1) := by decide +kernel
theorem dX8_others_63 : decode cX8_others 63 = .ok (.aload_n 0, 1) := by decide +kernel
theorem dX8_others_64 : decode cX8_others 64 = .ok (.iload_n 1, 1) := by decide +kernel
theorem dX8_others_65 : decode cX8_others 65 = .ok (.iload_n 3, 1) := by decide +kernel
theorem dX8_others_66 : decode cX8_others 66 = .ok (.invokevirtual 178, 3) := by decide +kernel
theorem dX8_others_69 : decode cX8_others 69 = .ok (.istore 4, 2) := by decide +kernel
theorem dX8_others_71 : decode cX8_others 71 = .ok (.aload_n 0, 1) := by decide +kernel
theorem dX8_others_72 : decode cX8_others 72 = .ok (.getfield 78, 3) := by decide +kernel
theorem dX8_others_75 : decode cX8_others 75 = .ok (.iload 4, 2) := by decide +kernel
theorem dX8_others_77 : decode cX8_others 77 = .ok (.iconst 1, 1) := by decide +kernel
theorem dX8_others_78 : decode cX8_others 78 = .ok (.bastore, 1) := by decide +kernel
theorem dX8_others_79 : decode cX8_others 79 = .ok (.aload_n 0, 1) := by decide +kernel
theorem dX8_others_80 : decode cX8_others 80 = .ok (.aload_n 0, 1) := by decide +kernel
theorem dX8_others_81 : decode cX8_others 81 = .ok (.getfield 84, 3) := by decide +kernel
theorem dX8_others_84 : decode cX8_others 84 = .ok (.bipush 32, 2) := by decide +kernel
theorem dX8_others_86 : decode cX8_others 86 = .ok (.iload_n 1, 1) := by decide +kernel
theorem dX8_others_87 : decode cX8_others 87 = .ok (.imul, 1) := by decide +kernel
theorem dX8_others_88 : decode cX8_others 88 = .ok (.bipush 32, 2) := by decide +kernel
theorem dX8_others_90 : decode cX8_others 90 = .ok (.invokevirtual 163, 3) := by decide +kernel
theorem dX8_others_93 : decode cX8_others 93 = .ok (.aload_n 0, 1) := by decide +kernel
theorem dX8_others_94 : decode cX8_others 94 = .ok (.aload_n 0, 1) := by decide +kernel
theorem dX8_others_95 : decode cX8_others 95 = .ok (.getfield 75, 3) := by decide +kernel
theorem dX8_others_98 : decode cX8_others 98 = .ok (.bipush 60, 2) := by decide +kernel
theorem dX8_others_100 : decode cX8_others 100 = .ok (.iload 4, 2) := by decide +kernel
theorem dX8_others_102 : decode cX8_others 102 = .ok (.imul, 1) := by decide +kernel
theorem dX8_others_103 : decode cX8_others 103 = .ok (.aload_n 0, 1) := by decide +kernel
theorem dX8_others_104 : decode cX8_others 104 = .ok (.getfield 72, 3) := by decide +kernel
theorem dX8_others_107 : decode cX8_others 107 = .ok (.iload 4, 2) := by decide +kernel
theorem dX8_others_109 : decode cX8_others 109 = .ok (.iaload, 1) := by decide +kernel
theorem dX8_others_110 : decode cX8_others 110 = .ok (.invokevirtual 166, 3) := by decide +kernel
theorem dX8_others_113 : decode cX8_others 113 = .ok (.aload_n 0, 1) := by decide +kernel
theorem dX8_others_114 : decode cX8_others 114 = .ok (.invokevirtual 169, 3) := by decide +kernel
theorem dX8_others_117 : decode cX8_others 117 = .ok (.iconst 0, 1) := by decide +kernel
theorem dX8_others_118 : decode cX8_others 118 = .ok (.istore 5, 2) := by decide +kernel
theorem dX8_others_120 : decode cX8_others 120 = .ok (.iload 5, 2) := by decide +kernel
theorem dX8_others_122 : decode cX8_others 122 = .ok (.bipush 32, 2) := by decide +kernel
theorem dX8_others_124 : decode cX8_others 124 = .ok (.if_icmp .ge 42, 3) := by decide +kernel
theorem dX8_others_127 : decode cX8_others 127 = .ok (.aload_n 0, 1) := by decide +kernel
theorem dX8_others_128 : decode cX8_others 128 = .ok (.getfield 81, 3) := by decide +kernel
theorem dX8_others_131 : decode cX8_others 131 = .ok (.bipush 32, 2) := by decide +kernel
theorem dX8_others_133 : decode cX8_others 133 = .ok (.iload 4, 2) := by decide +kernel
theorem dX8_others_135 : decode cX8_others 135 = .ok (.imul, 1) := by decide +kernel
theorem dX8_others_136 : decode cX8_others 136 = .ok (.iload 5, 2) := by decide +kernel
theorem dX8_others_138 : decode cX8_others 138 = .ok (.iadd, 1) := by decide +kernel
theorem dX8_others_139 : decode cX8_others 139 = .ok (.aload_n 0, 1) := by decide +kernel
theorem dX8_others_140 : decode cX8_others 140 = .ok (.getfield 46, 3) := by decide +kernel
theorem dX8_others_143 : decode cX8_others 143 = .ok (.bipush 100, 2) := by decide +kernel
theorem dX8_others_145 : decode cX8_others 145 = .ok (.iload_n 2, 1) := by decide +kernel
theorem dX8_others_146 : decode cX8_others 146 = .ok (.imul, 1) := by decide +kernel
theorem dX8_others_147 : decode cX8_others 147 = .ok (.iload 5, 2) := by decide +kernel
theorem dX8_others_149 : decode cX8_others 149 = .ok (.iadd, 1) := by decide +kernel
theorem dX8_others_150 : decode cX8_others 150 = .ok (.iaload, 1) := by decide +kernel
theorem dX8_others_151 : decode cX8_others 151 = .ok (.aload_n 0, 1) := by decide +kernel
theorem dX8_others_152 : decode cX8_others 152 = .ok (.getfield 37, 3) := by decide +kernel
theorem dX8_others_155 : decode cX8_others 155 = .ok (.iload 5, 2) := by decide +kernel
theorem dX8_others_157 : decode cX8_others 157 = .ok (.iaload, 1) := by decide +kernel
theorem dX8_others_158 : decode cX8_others 158 = .ok (.ixor, 1) := by decide +kernel
theorem dX8_others_159 : decode cX8_others 159 = .ok (.iastore, 1) := by decide +kernel
theorem dX8_others_160 : decode cX8_others 160 = .ok (.iinc 5 1, 3) := by decide +kernel
theorem dX8_others_163 : decode cX8_others 163 = .ok (.goto (-43), 3) := by decide +kernel
theorem dX8_others_166 : decode cX8_others 166 = .ok (.aload_n 0, 1) := by decide +kernel
theorem dX8_others_167 : decode cX8_others 167 = .ok (.aload_n 0, 1) := by decide +kernel
theorem dX8_others_168 : decode cX8_others 168 = .ok (.getfield 84, 3) := by decide +kernel
theorem dX8_others_171 : decode cX8_others 171 = .ok (.bipush 32, 2) := by decide +kernel
theorem dX8_others_173 : decode cX8_others 173 = .ok (.iload_n 1, 1) := by decide +kernel
theorem dX8_others_174 : decode cX8_others 174 = .ok (.imul, 1) := by decide +kernel
theorem dX8_others_175 : decode cX8_others 175 = .ok (.iload 4, 2) := by decide +kernel
theorem dX8_others_177 : decode cX8_others 177 = .ok (.invokevirtual 180, 3) := by decide +kernel
theorem dX8_others_180 : decode cX8_others 180 = .ok (.aload_n 0, 1) := by decide +kernel
theorem dX8_others_181 : decode cX8_others 181 = .ok (.getfield 69, 3) := by decide +kernel
theorem dX8_others_184 : decode cX8_others 184 = .ok (.iload_n 1, 1) := by decide +kernel
theorem dX8_others_185 : decode cX8_others 185 = .ok (.iaload, 1) := by decide +kernel
theorem dX8_others_186 : decode cX8_others 186 = .ok (.ireturn, 1) := by decide +kernel
set_option maxRecDepth 20000 in
theorem ggX8_bind_X8_isToken : GoodIn wsX8_bind wsX8_isToken := goodIn_r _ [9, 10, 11, 12, 8, 13, 14, 15, 16, 63, 64, 65, 66, 67, 68, 69, 70, 71, 72, 73, 74, 75, 76, 77, 78, 79, 80, 81, 82, 83, 84, 85, 86, 87, 88, 89, 90, 91, 92, 93, 94, 95, 96, 97, 98, 99, 100, 101, 102, 103, 104] rfl (by decide +kernel)
set_option maxRecDepth 20000 in
theorem gX8_bind_X8_isToken : GoodIn wsX8_bind (wsV RX8 175 RX8 yX8_isToken wsX8_isToken) := goodIn_app (goodIn_of _ (by decide +kernel)) ggX8_bind_X8_isToken
set_option maxRecDepth 20000 in
theorem ggX8_bind_X8_keyIs : GoodIn wsX8_bind wsX8_keyIs := goodIn_r _ [20, 21, 22, 23, 63, 64, 65, 66, 67, 68, 69, 70, 71, 72, 73, 74, 75, 76, 77, 78, 79, 80, 81, 82, 83, 84, 85, 86, 87, 88, 89, 90, 91, 92, 93, 94, 95, 96, 97, 98, 99, 100, 101, 102, 103, 104] rfl (by decide +kernel)
set_option maxRecDepth 20000 in
theorem gX8_bind_X8_keyIs : GoodIn wsX8_bind (wsV RX8 163 RX8 yX8_keyIs wsX8_keyIs) := goodIn_app (goodIn_of _ (by decide +kernel)) ggX8_bind_X8_keyIs
set_option maxRecDepth 20000 in
theorem ggX8_bind_X8_add : GoodIn wsX8_bind wsX8_add := goodIn_r _ [27, 28, 23, 63, 64, 65, 66, 67, 68, 69, 70, 71, 72, 73, 74, 75, 76, 77, 78, 79, 80, 81, 82, 83, 84, 85, 86, 87, 88, 89, 90, 91, 92, 93, 94, 95, 96, 97, 98, 99, 100, 101, 102, 103, 104] rfl (by decide +kernel)
set_option maxRecDepth 20000 in
theorem gX8_bind_X8_add : GoodIn wsX8_bind (wsV RX8 166 RX8 yX8_add wsX8_add) := goodIn_app (goodIn_of _ (by decide +kernel)) ggX8_bind_X8_add
set_option maxRecDepth 20000 in
theorem ggX8_bind_X8_sealNow : GoodIn wsX8_bind wsX8_sealNow := goodIn_r _ [32, 22, 33, 21, 34, 28, 23, 4, 35, 36, 37, 8, 38, 39, 40, 41, 42, 43, 44, 45, 46, 47, 48, 49, 50, 51, 52, 53, 54, 55, 56, 57, 58, 59, 60, 61, 62, 63, 64, 65, 66, 67, 68, 69, 70, 71, 72, 73, 74, 75, 76, 77, 78, 79, 80, 81, 82, 83, 84, 85, 86, 87, 88, 89, 90, 91, 92, 93, 94, 95, 96, 97, 98, 99, 100, 101, 102, 103, 104] rfl (by decide +kernel)
set_option maxRecDepth 20000 in
theorem gX8_bind_X8_sealNow : GoodIn wsX8_bind (wsV RX8 169 RX8 yX8_sealNow wsX8_sealNow) := goodIn_app (goodIn_of _ (by decide +kernel)) ggX8_bind_X8_sealNow
set_option maxRecDepth 20000 in
theorem ggX8_bind_X8_copyTo : GoodIn wsX8_bind wsX8_copyTo := goodIn_r _ [62] rfl (by decide +kernel)
set_option maxRecDepth 20000 in
theorem gX8_bind_X8_copyTo : GoodIn wsX8_bind (va_wsS RX8 149 yX8_copyTo wsX8_copyTo) := goodIn_app (goodIn_of _ (by decide +kernel)) ggX8_bind_X8_copyTo
theorem dX8_bind_0 : decode cX8_bind 0 = .ok (.aload_n 0, 1) := by decide +kernel
theorem dX8_bind_1 : decode cX8_bind 1 = .ok (.iconst 0, 1) := by decide +kernel
theorem dX8_bind_2 : decode cX8_bind 2 = .ok (.putfield 112, 3) := by decide +kernel
theorem dX8_bind_5 : decode cX8_bind 5 = .ok (.aload_n 0, 1) := by decide +kernel
theorem dX8_bind_6 : decode cX8_bind 6 = .ok (.iload_n 1, 1) := by decide +kernel
theorem dX8_bind_7 : decode cX8_bind 7 = .ok (.invokevirtual 175, 3) := by decide +kernel
theorem dX8_bind_10 : decode cX8_bind 10 = .ok (.ifCond .eq 11, 3) := by decide +kernel
theorem dX8_bind_13 : decode cX8_bind 13 = .ok (.aload_n 0, 1) := by decide +kernel
theorem dX8_bind_14 : decode cX8_bind 14 = .ok (.iload_n 2, 1) := by decide +kernel
theorem dX8_bind_15 : decode cX8_bind 15 = .ok (.invokevirtual 175, 3) := by decide +kernel
theorem dX8_bind_18 : decode cX8_bind 18 = .ok (.ifCond .ne 6, 3) := by decide +kernel
theorem dX8_bind_21 : decode cX8_bind 21 = .ok (.bipush (-2), 2) := by decide +kernel
theorem dX8_bind_23 : decode cX8_bind 23 = .ok (.ireturn, 1) := by decide +kernel
theorem dX8_bind_24 : decode cX8_bind 24 = .ok (.aload_n 0, 1) := by decide +kernel
theorem dX8_bind_25 : decode cX8_bind 25 = .ok (.aload_n 0, 1) := by decide +kernel
theorem dX8_bind_26 : decode cX8_bind 26 = .ok (.getfield 43, 3) := by decide +kernel
theorem dX8_bind_29 : decode cX8_bind 29 = .ok (.iconst 0, 1) := by decide +kernel
theorem dX8_bind_30 : decode cX8_bind 30 = .ok (.bipush 32, 2) := by decide +kernel
theorem dX8_bind_32 : decode cX8_bind 32 = .ok (.invokevirtual 163, 3) := by decide +kernel
theorem dX8_bind_35 : decode cX8_bind 35 = .ok (.aload_n 0, 1) := by decide +kernel
theorem dX8_bind_36 : decode cX8_bind 36 = .ok (.aload_n 0, 1) := by decide +kernel
theorem dX8_bind_37 : decode cX8_bind 37 = .ok (.getfield 84, 3) := by decide +kernel
theorem dX8_bind_40 : decode cX8_bind 40 = .ok (.bipush 32, 2) := by decide +kernel
theorem dX8_bind_42 : decode cX8_bind 42 = .ok (.iload_n 2, 1) := by decide +kernel
theorem dX8_bind_43 : decode cX8_bind 43 = .ok (.imul, 1) := by decide +kernel
theorem dX8_bind_44 : decode cX8_bind 44 = .ok (.bipush 32, 2) := by decide +kernel
theorem dX8_bind_46 : decode cX8_bind 46 = .ok (.invokevirtual 166, 3) := by decide +kernel
theorem dX8_bind_49 : decode cX8_bind 49 = .ok (.aload_n 0, 1) := by decide +kernel
theorem dX8_bind_50 : decode cX8_bind 50 = .ok (.aload_n 0, 1) := by decide +kernel
theorem dX8_bind_51 : decode cX8_bind 51 = .ok (.getfield 84, 3) := by decide +kernel
theorem dX8_bind_54 : decode cX8_bind 54 = .ok (.bipush 32, 2) := by decide +kernel
theorem dX8_bind_56 : decode cX8_bind 56 = .ok (.iload_n 1, 1) := by decide +kernel
theorem dX8_bind_57 : decode cX8_bind 57 = .ok (.imul, 1) := by decide +kernel
theorem dX8_bind_58 : decode cX8_bind 58 = .ok (.bipush 32, 2) := by decide +kernel
theorem dX8_bind_60 : decode cX8_bind 60 = .ok (.invokevirtual 166, 3) := by decide +kernel
theorem dX8_bind_63 : decode cX8_bind 63 = .ok (.aload_n 0, 1) := by decide +kernel
theorem dX8_bind_64 : decode cX8_bind 64 = .ok (.invokevirtual 169, 3) := by decide +kernel
theorem dX8_bind_67 : decode cX8_bind 67 = .ok (.aload_n 0, 1) := by decide +kernel
theorem dX8_bind_68 : decode cX8_bind 68 = .ok (.getfield 37, 3) := by decide +kernel
theorem dX8_bind_71 : decode cX8_bind 71 = .ok (.aload_n 0, 1) := by decide +kernel
theorem dX8_bind_72 : decode cX8_bind 72 = .ok (.getfield 84, 3) := by decide +kernel
theorem dX8_bind_75 : decode cX8_bind 75 = .ok (.bipush 32, 2) := by decide +kernel
theorem dX8_bind_77 : decode cX8_bind 77 = .ok (.iload_n 1, 1) := by decide +kernel
theorem dX8_bind_78 : decode cX8_bind 78 = .ok (.imul, 1) := by decide +kernel
theorem dX8_bind_79 : decode cX8_bind 79 = .ok (.invokestatic 149, 3) := by decide +kernel
theorem dX8_bind_82 : decode cX8_bind 82 = .ok (.iconst 0, 1) := by decide +kernel
theorem dX8_bind_83 : decode cX8_bind 83 = .ok (.ireturn, 1) := by decide +kernel
theorem dX8_copyToken_0 : decode cX8_copyToken 0 = .ok (.aload_n 0, 1) := by decide +kernel
theorem dX8_copyToken_1 : decode cX8_copyToken 1 = .ok (.getfield 59, 3) := by decide +kernel
theorem dX8_copyToken_4 : decode cX8_copyToken 4 = .ok (.iload_n 2, 1) := by decide +kernel
theorem dX8_copyToken_5 : decode cX8_copyToken 5 = .ok (.iconst 1, 1) := by decide +kernel
theorem dX8_copyToken_6 : decode cX8_copyToken 6 = .ok (.bastore, 1) := by decide +kernel
theorem dX8_copyToken_7 : decode cX8_copyToken 7 = .ok (.aload_n 0, 1) := by decide +kernel
theorem dX8_copyToken_8 : decode cX8_copyToken 8 = .ok (.getfield 63, 3) := by decide +kernel
theorem dX8_copyToken_11 : decode cX8_copyToken 11 = .ok (.iload_n 2, 1) := by decide +kernel
theorem dX8_copyToken_12 : decode cX8_copyToken 12 = .ok (.aload_n 0, 1) := by decide +kernel
theorem dX8_copyToken_13 : decode cX8_copyToken 13 = .ok (.getfield 63, 3) := by decide +kernel
theorem dX8_copyToken_16 : decode cX8_copyToken 16 = .ok (.iload_n 1, 1) := by decide +kernel
theorem dX8_copyToken_17 : decode cX8_copyToken 17 = .ok (.iaload, 1) := by decide +kernel
theorem dX8_copyToken_18 : decode cX8_copyToken 18 = .ok (.iastore, 1) := by decide +kernel
theorem dX8_copyToken_19 : decode cX8_copyToken 19 = .ok (.aload_n 0, 1) := by decide +kernel
theorem dX8_copyToken_20 : decode cX8_copyToken 20 = .ok (.getfield 69, 3) := by decide +kernel
theorem dX8_copyToken_23 : decode cX8_copyToken 23 = .ok (.iload_n 2, 1) := by decide +kernel
theorem dX8_copyToken_24 : decode cX8_copyToken 24 = .ok (.aload_n 0, 1) := by decide +kernel
theorem dX8_copyToken_25 : decode cX8_copyToken 25 = .ok (.getfield 69, 3) := by decide +kernel
theorem dX8_copyToken_28 : decode cX8_copyToken 28 = .ok (.iload_n 1, 1) := by decide +kernel
theorem dX8_copyToken_29 : decode cX8_copyToken 29 = .ok (.iaload, 1) := by decide +kernel
theorem dX8_copyToken_30 : decode cX8_copyToken 30 = .ok (.iastore, 1) := by decide +kernel
theorem dX8_copyToken_31 : decode cX8_copyToken 31 = .ok (.iconst 0, 1) := by decide +kernel
theorem dX8_copyToken_32 : decode cX8_copyToken 32 = .ok (.istore_n 3, 1) := by decide +kernel
theorem dX8_copyToken_33 : decode cX8_copyToken 33 = .ok (.iload_n 3, 1) := by decide +kernel
theorem dX8_copyToken_34 : decode cX8_copyToken 34 = .ok (.bipush 60, 2) := by decide +kernel
theorem dX8_copyToken_36 : decode cX8_copyToken 36 = .ok (.if_icmp .ge 31, 3) := by decide +kernel
theorem dX8_copyToken_39 : decode cX8_copyToken 39 = .ok (.aload_n 0, 1) := by decide +kernel
theorem dX8_copyToken_40 : decode cX8_copyToken 40 = .ok (.getfield 66, 3) := by decide +kernel
theorem dX8_copyToken_43 : decode cX8_copyToken 43 = .ok (.bipush 60, 2) := by decide +kernel
theorem dX8_copyToken_45 : decode cX8_copyToken 45 = .ok (.iload_n 2, 1) := by decide +kernel
theorem dX8_copyToken_46 : decode cX8_copyToken 46 = .ok (.imul, 1) := by decide +kernel
theorem dX8_copyToken_47 : decode cX8_copyToken 47 = .ok (.iload_n 3, 1) := by decide +kernel
theorem dX8_copyToken_48 : decode cX8_copyToken 48 = .ok (.iadd, 1) := by decide +kernel
theorem dX8_copyToken_49 : decode cX8_copyToken 49 = .ok (.aload_n 0, 1) := by decide +kernel
theorem dX8_copyToken_50 : decode cX8_copyToken 50 = .ok (.getfield 66, 3) := by decide +kernel
theorem dX8_copyToken_53 : decode cX8_copyToken 53 = .ok (.bipush 60, 2) := by decide +kernel
theorem dX8_copyToken_55 : decode cX8_copyToken 55 = .ok (.iload_n 1, 1) := by decide +kernel
theorem dX8_copyToken_56 : decode cX8_copyToken 56 = .ok (.imul, 1) := by decide +kernel
theorem dX8_copyToken_57 : decode cX8_copyToken 57 = .ok (.iload_n 3, 1) := by decide +kernel
theorem dX8_copyToken_58 : decode cX8_copyToken 58 = .ok (.iadd, 1) := by decide +kernel
theorem dX8_copyToken_59 : decode cX8_copyToken 59 = .ok (.iaload, 1) := by decide +kernel
theorem dX8_copyToken_60 : decode cX8_copyToken 60 = .ok (.iastore, 1) := by decide +kernel
theorem dX8_copyToken_61 : decode cX8_copyToken 61 = .ok (.iinc 3 1, 3) := by decide +kernel
theorem dX8_copyToken_64 : decode cX8_copyToken 64 = .ok (.goto (-31), 3) := by decide +kernel
theorem dX8_copyToken_67 : decode cX8_copyToken 67 = .ok (.iconst 0, 1) := by decide +kernel
theorem dX8_copyToken_68 : decode cX8_copyToken 68 = .ok (.istore_n 3, 1) := by decide +kernel
theorem dX8_copyToken_69 : decode cX8_copyToken 69 = .ok (.iload_n 3, 1) := by decide +kernel
theorem dX8_copyToken_70 : decode cX8_copyToken 70 = .ok (.bipush 10, 2) := by decide +kernel
theorem dX8_copyToken_72 : decode cX8_copyToken 72 = .ok (.if_icmp .ge 53, 3) := by decide +kernel
theorem dX8_copyToken_75 : decode cX8_copyToken 75 = .ok (.aload_n 0, 1) := by decide +kernel
theorem dX8_copyToken_76 : decode cX8_copyToken 76 = .ok (.getfield 72, 3) := by decide +kernel
theorem dX8_copyToken_79 : decode cX8_copyToken 79 = .ok (.bipush 10, 2) := by decide +kernel
theorem dX8_copyToken_81 : decode cX8_copyToken 81 = .ok (.iload_n 2, 1) := by decide +kernel
theorem dX8_copyToken_82 : decode cX8_copyToken 82 = .ok (.imul, 1) := by decide +kernel
theorem dX8_copyToken_83 : decode cX8_copyToken 83 = .ok (.iload_n 3, 1) := by decide +kernel
theorem dX8_copyToken_84 : decode cX8_copyToken 84 = .ok (.iadd, 1) := by decide +kernel
theorem dX8_copyToken_85 : decode cX8_copyToken 85 = .ok (.aload_n 0, 1) := by decide +kernel
theorem dX8_copyToken_86 : decode cX8_copyToken 86 = .ok (.getfield 72, 3) := by decide +kernel
theorem dX8_copyToken_89 : decode cX8_copyToken 89 = .ok (.bipush 10, 2) := by decide +kernel
theorem dX8_copyToken_91 : decode cX8_copyToken 91 = .ok (.iload_n 1, 1) := by decide +kernel
theorem dX8_copyToken_92 : decode cX8_copyToken 92 = .ok (.imul, 1) := by decide +kernel
theorem dX8_copyToken_93 : decode cX8_copyToken 93 = .ok (.iload_n 3, 1) := by decide +kernel
theorem dX8_copyToken_94 : decode cX8_copyToken 94 = .ok (.iadd, 1) := by decide +kernel
theorem dX8_copyToken_95 : decode cX8_copyToken 95 = .ok (.iaload, 1) := by decide +kernel
theorem dX8_copyToken_96 : decode cX8_copyToken 96 = .ok (.iastore, 1) := by decide +kernel
theorem dX8_copyToken_97 : decode cX8_copyToken 97 = .ok (.aload_n 0, 1) := by decide +kernel
theorem dX8_copyToken_98 : decode cX8_copyToken 98 = .ok (.getfield 78, 3) := by decide +kernel
theorem dX8_copyToken_101 : decode cX8_copyToken 101 = .ok (.bipush 10, 2) := by decide +kernel
theorem dX8_copyToken_103 : decode cX8_copyToken 103 = .ok (.iload_n 2, 1) := by decide +kernel
