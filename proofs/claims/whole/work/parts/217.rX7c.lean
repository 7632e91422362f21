theorem dX7_isByte_1 : decode cX7_isByte 1 = .ok (.ifCond .lt 14, 3) := by decide +kernel
theorem dX7_isByte_4 : decode cX7_isByte 4 = .ok (.iload_n 0, 1) := by decide +kernel
theorem dX7_isByte_5 : decode cX7_isByte 5 = .ok (.sipush 255, 3) := by decide +kernel
theorem dX7_isByte_8 : decode cX7_isByte 8 = .ok (.if_icmp .gt 7, 3) := by decide +kernel
theorem dX7_isByte_11 : decode cX7_isByte 11 = .ok (.iconst 1, 1) := by decide +kernel
theorem dX7_isByte_12 : decode cX7_isByte 12 = .ok (.goto 4, 3) := by decide +kernel
theorem dX7_isByte_15 : decode cX7_isByte 15 = .ok (.iconst 0, 1) := by decide +kernel
theorem dX7_isByte_16 : decode cX7_isByte 16 = .ok (.ireturn, 1) := by decide +kernel
theorem dX7_isWordingLength_0 : decode cX7_isWordingLength 0 = .ok (.iload_n 0, 1) := by decide +kernel
theorem dX7_isWordingLength_1 : decode cX7_isWordingLength 1 = .ok (.iconst 1, 1) := by decide +kernel
theorem dX7_isWordingLength_2 : decode cX7_isWordingLength 2 = .ok (.if_icmp .lt 13, 3) := by decide +kernel
theorem dX7_isWordingLength_5 : decode cX7_isWordingLength 5 = .ok (.iload_n 0, 1) := by decide +kernel
theorem dX7_isWordingLength_6 : decode cX7_isWordingLength 6 = .ok (.bipush 60, 2) := by decide +kernel
theorem dX7_isWordingLength_8 : decode cX7_isWordingLength 8 = .ok (.if_icmp .gt 7, 3) := by decide +kernel
theorem dX7_isWordingLength_11 : decode cX7_isWordingLength 11 = .ok (.iconst 1, 1) := by decide +kernel
theorem dX7_isWordingLength_12 : decode cX7_isWordingLength 12 = .ok (.goto 4, 3) := by decide +kernel
theorem dX7_isWordingLength_15 : decode cX7_isWordingLength 15 = .ok (.iconst 0, 1) := by decide +kernel
theorem dX7_isWordingLength_16 : decode cX7_isWordingLength 16 = .ok (.ireturn, 1) := by decide +kernel
set_option maxRecDepth 20000 in
theorem ggX7_isThere_X7_isTokenNumber : GoodIn wsX7_isThere wsX7_isTokenNumber := goodIn_r _ [6] rfl (by decide +kernel)
set_option maxRecDepth 20000 in
theorem gX7_isThere_X7_isTokenNumber : GoodIn wsX7_isThere (va_wsS RX7 100 yX7_isTokenNumber wsX7_isTokenNumber) := goodIn_app (goodIn_of _ (by decide +kernel)) ggX7_isThere_X7_isTokenNumber
theorem dX7_isThere_0 : decode cX7_isThere 0 = .ok (.iload_n 1, 1) := by decide +kernel
theorem dX7_isThere_1 : decode cX7_isThere 1 = .ok (.invokestatic 100, 3) := by decide +kernel
theorem dX7_isThere_4 : decode cX7_isThere 4 = .ok (.ifCond .eq 19, 3) := by decide +kernel
theorem dX7_isThere_7 : decode cX7_isThere 7 = .ok (.aload_n 0, 1) := by decide +kernel
theorem dX7_isThere_8 : decode cX7_isThere 8 = .ok (.getfield 40, 3) := by decide +kernel
theorem dX7_isThere_11 : decode cX7_isThere 11 = .ok (.iload_n 1, 1) := by decide +kernel
theorem dX7_isThere_12 : decode cX7_isThere 12 = .ok (.aaload, 1) := by decide +kernel
theorem dX7_isThere_13 : decode cX7_isThere 13 = .ok (.getfield 106, 3) := by decide +kernel
theorem dX7_isThere_16 : decode cX7_isThere 16 = .ok (.ifCond .eq 7, 3) := by decide +kernel
theorem dX7_isThere_19 : decode cX7_isThere 19 = .ok (.iconst 1, 1) := by decide +kernel
theorem dX7_isThere_20 : decode cX7_isThere 20 = .ok (.goto 4, 3) := by decide +kernel
theorem dX7_isThere_23 : decode cX7_isThere 23 = .ok (.iconst 0, 1) := by decide +kernel
theorem dX7_isThere_24 : decode cX7_isThere 24 = .ok (.ireturn, 1) := by decide +kernel
theorem dX7_areThere_0 : decode cX7_areThere 0 = .ok (.iload_n 1, 1) := by decide +kernel
theorem dX7_areThere_1 : decode cX7_areThere 1 = .ok (.ifCond .lt 10, 3) := by decide +kernel
theorem dX7_areThere_4 : decode cX7_areThere 4 = .ok (.iload_n 1, 1) := by decide +kernel
theorem dX7_areThere_5 : decode cX7_areThere 5 = .ok (.sipush 256, 3) := by decide +kernel
theorem dX7_areThere_8 : decode cX7_areThere 8 = .ok (.if_icmp .lt 5, 3) := by decide +kernel
theorem dX7_areThere_11 : decode cX7_areThere 11 = .ok (.iconst 0, 1) := by decide +kernel
theorem dX7_areThere_12 : decode cX7_areThere 12 = .ok (.ireturn, 1) := by decide +kernel
theorem dX7_areThere_13 : decode cX7_areThere 13 = .ok (.iconst 0, 1) := by decide +kernel
theorem dX7_areThere_14 : decode cX7_areThere 14 = .ok (.istore_n 2, 1) := by decide +kernel
theorem dX7_areThere_15 : decode cX7_areThere 15 = .ok (.iload_n 2, 1) := by decide +kernel
theorem dX7_areThere_16 : decode cX7_areThere 16 = .ok (.bipush 8, 2) := by decide +kernel
theorem dX7_areThere_18 : decode cX7_areThere 18 = .ok (.if_icmp .ge 32, 3) := by decide +kernel
theorem dX7_areThere_21 : decode cX7_areThere 21 = .ok (.iload_n 1, 1) := by decide +kernel
theorem dX7_areThere_22 : decode cX7_areThere 22 = .ok (.iload_n 2, 1) := by decide +kernel
theorem dX7_areThere_23 : decode cX7_areThere 23 = .ok (.ishr, 1) := by decide +kernel
theorem dX7_areThere_24 : decode cX7_areThere 24 = .ok (.iconst 1, 1) := by decide +kernel
theorem dX7_areThere_25 : decode cX7_areThere 25 = .ok (.iand, 1) := by decide +kernel
theorem dX7_areThere_26 : decode cX7_areThere 26 = .ok (.iconst 1, 1) := by decide +kernel
theorem dX7_areThere_27 : decode cX7_areThere 27 = .ok (.if_icmp .ne 17, 3) := by decide +kernel
theorem dX7_areThere_30 : decode cX7_areThere 30 = .ok (.aload_n 0, 1) := by decide +kernel
theorem dX7_areThere_31 : decode cX7_areThere 31 = .ok (.getfield 40, 3) := by decide +kernel
theorem dX7_areThere_34 : decode cX7_areThere 34 = .ok (.iload_n 2, 1) := by decide +kernel
theorem dX7_areThere_35 : decode cX7_areThere 35 = .ok (.aaload, 1) := by decide +kernel
theorem dX7_areThere_36 : decode cX7_areThere 36 = .ok (.getfield 106, 3) := by decide +kernel
theorem dX7_areThere_39 : decode cX7_areThere 39 = .ok (.ifCond .ne 5, 3) := by decide +kernel
theorem dX7_areThere_42 : decode cX7_areThere 42 = .ok (.iconst 0, 1) := by decide +kernel
theorem dX7_areThere_43 : decode cX7_areThere 43 = .ok (.ireturn, 1) := by decide +kernel
theorem dX7_areThere_44 : decode cX7_areThere 44 = .ok (.iinc 2 1, 3) := by decide +kernel
theorem dX7_areThere_47 : decode cX7_areThere 47 = .ok (.goto (-32), 3) := by decide +kernel
theorem dX7_areThere_50 : decode cX7_areThere 50 = .ok (.iconst 1, 1) := by decide +kernel
theorem dX7_areThere_51 : decode cX7_areThere 51 = .ok (.ireturn, 1) := by decide +kernel
set_option maxRecDepth 20000 in
theorem ggX7_pushLowest_X3_hasRoomFor : GoodIn wsX7_pushLowest wsX3_hasRoomFor := goodIn_r _ [6, 7, 8, 13, 14] rfl (by decide +kernel)
set_option maxRecDepth 20000 in
theorem gX7_pushLowest_X3_hasRoomFor : GoodIn wsX7_pushLowest (wsV RX7 214 RX3 yX3_hasRoomFor wsX3_hasRoomFor) := goodIn_app (goodIn_of _ (by decide +kernel)) ggX7_pushLowest_X3_hasRoomFor
set_option maxRecDepth 20000 in
theorem ggX7_pushLowest_X3_push : GoodIn wsX7_pushLowest wsX3_push := goodIn_r _ [12, 8, 7, 13, 14] rfl (by decide +kernel)
set_option maxRecDepth 20000 in
theorem gX7_pushLowest_X3_push : GoodIn wsX7_pushLowest (wsV RX7 217 RX3 yX3_push wsX3_push) := goodIn_app (goodIn_of _ (by decide +kernel)) ggX7_pushLowest_X3_push
theorem dX7_pushLowest_0 : decode cX7_pushLowest 0 = .ok (.aload_n 0, 1) := by decide +kernel
theorem dX7_pushLowest_1 : decode cX7_pushLowest 1 = .ok (.iload_n 1, 1) := by decide +kernel
theorem dX7_pushLowest_2 : decode cX7_pushLowest 2 = .ok (.invokevirtual 214, 3) := by decide +kernel
theorem dX7_pushLowest_5 : decode cX7_pushLowest 5 = .ok (.ifCond .ne 6, 3) := by decide +kernel
theorem dX7_pushLowest_8 : decode cX7_pushLowest 8 = .ok (.bipush (-3), 2) := by decide +kernel
theorem dX7_pushLowest_10 : decode cX7_pushLowest 10 = .ok (.ireturn, 1) := by decide +kernel
theorem dX7_pushLowest_11 : decode cX7_pushLowest 11 = .ok (.iconst 0, 1) := by decide +kernel
theorem dX7_pushLowest_12 : decode cX7_pushLowest 12 = .ok (.istore 4, 2) := by decide +kernel
theorem dX7_pushLowest_14 : decode cX7_pushLowest 14 = .ok (.iload 4, 2) := by decide +kernel
theorem dX7_pushLowest_16 : decode cX7_pushLowest 16 = .ok (.iload_n 1, 1) := by decide +kernel
theorem dX7_pushLowest_17 : decode cX7_pushLowest 17 = .ok (.if_icmp .ge 25, 3) := by decide +kernel
theorem dX7_pushLowest_20 : decode cX7_pushLowest 20 = .ok (.aload_n 0, 1) := by decide +kernel
theorem dX7_pushLowest_21 : decode cX7_pushLowest 21 = .ok (.lload_n 2, 1) := by decide +kernel
theorem dX7_pushLowest_22 : decode cX7_pushLowest 22 = .ok (.bipush 8, 2) := by decide +kernel
theorem dX7_pushLowest_24 : decode cX7_pushLowest 24 = .ok (.iload 4, 2) := by decide +kernel
theorem dX7_pushLowest_26 : decode cX7_pushLowest 26 = .ok (.imul, 1) := by decide +kernel
theorem dX7_pushLowest_27 : decode cX7_pushLowest 27 = .ok (.lushr, 1) := by decide +kernel
theorem dX7_pushLowest_28 : decode cX7_pushLowest 28 = .ok (.l2i, 1) := by decide +kernel
theorem dX7_pushLowest_29 : decode cX7_pushLowest 29 = .ok (.sipush 255, 3) := by decide +kernel
theorem dX7_pushLowest_32 : decode cX7_pushLowest 32 = .ok (.iand, 1) := by decide +kernel
theorem dX7_pushLowest_33 : decode cX7_pushLowest 33 = .ok (.invokevirtual 217, 3) := by decide +kernel
theorem dX7_pushLowest_36 : decode cX7_pushLowest 36 = .ok (.iinc 4 1, 3) := by decide +kernel
theorem dX7_pushLowest_39 : decode cX7_pushLowest 39 = .ok (.goto (-25), 3) := by decide +kernel
theorem dX7_pushLowest_42 : decode cX7_pushLowest 42 = .ok (.aload_n 0, 1) := by decide +kernel
theorem dX7_pushLowest_43 : decode cX7_pushLowest 43 = .ok (.getfield 79, 3) := by decide +kernel
theorem dX7_pushLowest_46 : decode cX7_pushLowest 46 = .ok (.ireturn, 1) := by decide +kernel
