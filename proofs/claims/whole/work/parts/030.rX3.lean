theorem dX3_init_0 : decode cX3_init 0 = .ok (.aload_n 0, 1) := by decide +kernel
theorem dX3_init_1 : decode cX3_init 1 = .ok (.invokespecial 3, 3) := by decide +kernel
theorem dX3_init_4 : decode cX3_init 4 = .ok (.aload_n 0, 1) := by decide +kernel
theorem dX3_init_5 : decode cX3_init 5 = .ok (.iconst 0, 1) := by decide +kernel
theorem dX3_init_6 : decode cX3_init 6 = .ok (.iload_n 1, 1) := by decide +kernel
theorem dX3_init_7 : decode cX3_init 7 = .ok (.invokestatic 9, 3) := by decide +kernel
theorem dX3_init_10 : decode cX3_init 10 = .ok (.newarray .int, 2) := by decide +kernel
theorem dX3_init_12 : decode cX3_init 12 = .ok (.putfield 15, 3) := by decide +kernel
theorem dX3_init_15 : decode cX3_init 15 = .ok (.return_, 1) := by decide +kernel
theorem dX3_has_0 : decode cX3_has 0 = .ok (.iload_n 1, 1) := by decide +kernel
theorem dX3_has_1 : decode cX3_has 1 = .ok (.ifCond .lt 15, 3) := by decide +kernel
theorem dX3_has_4 : decode cX3_has 4 = .ok (.iload_n 1, 1) := by decide +kernel
theorem dX3_has_5 : decode cX3_has 5 = .ok (.aload_n 0, 1) := by decide +kernel
theorem dX3_has_6 : decode cX3_has 6 = .ok (.getfield 21, 3) := by decide +kernel
theorem dX3_has_9 : decode cX3_has 9 = .ok (.if_icmp .ge 7, 3) := by decide +kernel
theorem dX3_has_12 : decode cX3_has 12 = .ok (.iconst 1, 1) := by decide +kernel
theorem dX3_has_13 : decode cX3_has 13 = .ok (.goto 4, 3) := by decide +kernel
theorem dX3_has_16 : decode cX3_has 16 = .ok (.iconst 0, 1) := by decide +kernel
theorem dX3_has_17 : decode cX3_has 17 = .ok (.ireturn, 1) := by decide +kernel
theorem dX3_hasRoomFor_0 : decode cX3_hasRoomFor 0 = .ok (.iload_n 1, 1) := by decide +kernel
theorem dX3_hasRoomFor_1 : decode cX3_hasRoomFor 1 = .ok (.aload_n 0, 1) := by decide +kernel
theorem dX3_hasRoomFor_2 : decode cX3_hasRoomFor 2 = .ok (.getfield 15, 3) := by decide +kernel
theorem dX3_hasRoomFor_5 : decode cX3_hasRoomFor 5 = .ok (.arraylength, 1) := by decide +kernel
theorem dX3_hasRoomFor_6 : decode cX3_hasRoomFor 6 = .ok (.aload_n 0, 1) := by decide +kernel
theorem dX3_hasRoomFor_7 : decode cX3_hasRoomFor 7 = .ok (.getfield 21, 3) := by decide +kernel
theorem dX3_hasRoomFor_10 : decode cX3_hasRoomFor 10 = .ok (.isub, 1) := by decide +kernel
theorem dX3_hasRoomFor_11 : decode cX3_hasRoomFor 11 = .ok (.if_icmp .gt 7, 3) := by decide +kernel
theorem dX3_hasRoomFor_14 : decode cX3_hasRoomFor 14 = .ok (.iconst 1, 1) := by decide +kernel
theorem dX3_hasRoomFor_15 : decode cX3_hasRoomFor 15 = .ok (.goto 4, 3) := by decide +kernel
theorem dX3_hasRoomFor_18 : decode cX3_hasRoomFor 18 = .ok (.iconst 0, 1) := by decide +kernel
theorem dX3_hasRoomFor_19 : decode cX3_hasRoomFor 19 = .ok (.ireturn, 1) := by decide +kernel
theorem dX3_byteAt_0 : decode cX3_byteAt 0 = .ok (.iload_n 1, 1) := by decide +kernel
theorem dX3_byteAt_1 : decode cX3_byteAt 1 = .ok (.ifCond .lt 20, 3) := by decide +kernel
theorem dX3_byteAt_4 : decode cX3_byteAt 4 = .ok (.iload_n 1, 1) := by decide +kernel
theorem dX3_byteAt_5 : decode cX3_byteAt 5 = .ok (.aload_n 0, 1) := by decide +kernel
theorem dX3_byteAt_6 : decode cX3_byteAt 6 = .ok (.getfield 21, 3) := by decide +kernel
theorem dX3_byteAt_9 : decode cX3_byteAt 9 = .ok (.if_icmp .ge 12, 3) := by decide +kernel
theorem dX3_byteAt_12 : decode cX3_byteAt 12 = .ok (.aload_n 0, 1) := by decide +kernel
theorem dX3_byteAt_13 : decode cX3_byteAt 13 = .ok (.getfield 15, 3) := by decide +kernel
theorem dX3_byteAt_16 : decode cX3_byteAt 16 = .ok (.iload_n 1, 1) := by decide +kernel
theorem dX3_byteAt_17 : decode cX3_byteAt 17 = .ok (.iaload, 1) := by decide +kernel
theorem dX3_byteAt_18 : decode cX3_byteAt 18 = .ok (.goto 4, 3) := by decide +kernel
theorem dX3_byteAt_21 : decode cX3_byteAt 21 = .ok (.iconst (-1), 1) := by decide +kernel
theorem dX3_byteAt_22 : decode cX3_byteAt 22 = .ok (.ireturn, 1) := by decide +kernel
theorem dX3_makeEmpty_0 : decode cX3_makeEmpty 0 = .ok (.aload_n 0, 1) := by decide +kernel
theorem dX3_makeEmpty_1 : decode cX3_makeEmpty 1 = .ok (.iconst 0, 1) := by decide +kernel
theorem dX3_makeEmpty_2 : decode cX3_makeEmpty 2 = .ok (.putfield 21, 3) := by decide +kernel
theorem dX3_makeEmpty_5 : decode cX3_makeEmpty 5 = .ok (.return_, 1) := by decide +kernel
theorem dX3_push_0 : decode cX3_push 0 = .ok (.aload_n 0, 1) := by decide +kernel
theorem dX3_push_1 : decode cX3_push 1 = .ok (.getfield 21, 3) := by decide +kernel
theorem dX3_push_4 : decode cX3_push 4 = .ok (.aload_n 0, 1) := by decide +kernel
theorem dX3_push_5 : decode cX3_push 5 = .ok (.getfield 15, 3) := by decide +kernel
theorem dX3_push_8 : decode cX3_push 8 = .ok (.arraylength, 1) := by decide +kernel
theorem dX3_push_9 : decode cX3_push 9 = .ok (.if_icmp .ge 23, 3) := by decide +kernel
theorem dX3_push_12 : decode cX3_push 12 = .ok (.aload_n 0, 1) := by decide +kernel
theorem dX3_push_13 : decode cX3_push 13 = .ok (.getfield 15, 3) := by decide +kernel
theorem dX3_push_16 : decode cX3_push 16 = .ok (.aload_n 0, 1) := by decide +kernel
theorem dX3_push_17 : decode cX3_push 17 = .ok (.getfield 21, 3) := by decide +kernel
theorem dX3_push_20 : decode cX3_push 20 = .ok (.iload_n 1, 1) := by decide +kernel
theorem dX3_push_21 : decode cX3_push 21 = .ok (.iastore, 1) := by decide +kernel
theorem dX3_push_22 : decode cX3_push 22 = .ok (.aload_n 0, 1) := by decide +kernel
theorem dX3_push_23 : decode cX3_push 23 = .ok (.dup, 1) := by decide +kernel
theorem dX3_push_24 : decode cX3_push 24 = .ok (.getfield 21, 3) := by decide +kernel
theorem dX3_push_27 : decode cX3_push 27 = .ok (.iconst 1, 1) := by decide +kernel
theorem dX3_push_28 : decode cX3_push 28 = .ok (.iadd, 1) := by decide +kernel
theorem dX3_push_29 : decode cX3_push 29 = .ok (.putfield 21, 3) := by decide +kernel
theorem dX3_push_32 : decode cX3_push 32 = .ok (.return_, 1) := by decide +kernel
theorem dX3_pushWord_0 : decode cX3_pushWord 0 = .ok (.aload_n 0, 1) := by decide +kernel
theorem dX3_pushWord_1 : decode cX3_pushWord 1 = .ok (.getfield 21, 3) := by decide +kernel
theorem dX3_pushWord_4 : decode cX3_pushWord 4 = .ok (.aload_n 0, 1) := by decide +kernel
theorem dX3_pushWord_5 : decode cX3_pushWord 5 = .ok (.getfield 15, 3) := by decide +kernel
theorem dX3_pushWord_8 : decode cX3_pushWord 8 = .ok (.arraylength, 1) := by decide +kernel
theorem dX3_pushWord_9 : decode cX3_pushWord 9 = .ok (.iconst 4, 1) := by decide +kernel
theorem dX3_pushWord_10 : decode cX3_pushWord 10 = .ok (.isub, 1) := by decide +kernel
theorem dX3_pushWord_11 : decode cX3_pushWord 11 = .ok (.if_icmp .gt 80, 3) := by decide +kernel
theorem dX3_pushWord_14 : decode cX3_pushWord 14 = .ok (.aload_n 0, 1) := by decide +kernel
theorem dX3_pushWord_15 : decode cX3_pushWord 15 = .ok (.getfield 15, 3) := by decide +kernel
theorem dX3_pushWord_18 : decode cX3_pushWord 18 = .ok (.aload_n 0, 1) := by decide +kernel
theorem dX3_pushWord_19 : decode cX3_pushWord 19 = .ok (.getfield 21, 3) := by decide +kernel
theorem dX3_pushWord_22 : decode cX3_pushWord 22 = .ok (.iload_n 1, 1) := by decide +kernel
theorem dX3_pushWord_23 : decode cX3_pushWord 23 = .ok (.bipush 24, 2) := by decide +kernel
theorem dX3_pushWord_25 : decode cX3_pushWord 25 = .ok (.iushr, 1) := by decide +kernel
theorem dX3_pushWord_26 : decode cX3_pushWord 26 = .ok (.iastore, 1) := by decide +kernel
theorem dX3_pushWord_27 : decode cX3_pushWord 27 = .ok (.aload_n 0, 1) := by decide +kernel
theorem dX3_pushWord_28 : decode cX3_pushWord 28 = .ok (.getfield 15, 3) := by decide +kernel
theorem dX3_pushWord_31 : decode cX3_pushWord 31 = .ok (.aload_n 0, 1) := by decide +kernel
theorem dX3_pushWord_32 : decode cX3_pushWord 32 = .ok (.getfield 21, 3) := by decide +kernel
theorem dX3_pushWord_35 : decode cX3_pushWord 35 = .ok (.iconst 1, 1) := by decide +kernel
theorem dX3_pushWord_36 : decode cX3_pushWord 36 = .ok (.iadd, 1) := by decide +kernel
theorem dX3_pushWord_37 : decode cX3_pushWord 37 = .ok (.iload_n 1, 1) := by decide +kernel
theorem dX3_pushWord_38 : decode cX3_pushWord 38 = .ok (.bipush 16, 2) := by decide +kernel
theorem dX3_pushWord_40 : decode cX3_pushWord 40 = .ok (.iushr, 1) := by decide +kernel
theorem dX3_pushWord_41 : decode cX3_pushWord 41 = .ok (.sipush 255, 3) := by decide +kernel
theorem dX3_pushWord_44 : decode cX3_pushWord 44 = .ok (.iand, 1) := by decide +kernel
theorem dX3_pushWord_45 : decode cX3_pushWord 45 = .ok (.iastore, 1) := by decide +kernel
theorem dX3_pushWord_46 : decode cX3_pushWord 46 = .ok (.aload_n 0, 1) := by decide +kernel
theorem dX3_pushWord_47 : decode cX3_pushWord 47 = .ok (.getfield 15, 3) := by decide +kernel
theorem dX3_pushWord_50 : decode cX3_pushWord 50 = .ok (.aload_n 0, 1) := by decide +kernel
theorem dX3_pushWord_51 : decode cX3_pushWord 51 = .ok (.getfield 21, 3) := by decide +kernel
theorem dX3_pushWord_54 : decode cX3_pushWord 54 = .ok (.iconst 2, 1) := by decide +kernel
theorem dX3_pushWord_55 : decode cX3_pushWord 55 = .ok (.iadd, 1) := by decide +kernel
theorem dX3_pushWord_56 : decode cX3_pushWord 56 = .ok (.iload_n 1, 1) := by decide +kernel
theorem dX3_pushWord_57 : decode cX3_pushWord 57 = .ok (.bipush 8, 2) := by decide +kernel
theorem dX3_pushWord_59 : decode cX3_pushWord 59 = .ok (.iushr, 1) := by decide +kernel
theorem dX3_pushWord_60 : decode cX3_pushWord 60 = .ok (.sipush 255, 3) := by decide +kernel
theorem dX3_pushWord_63 : decode cX3_pushWord 63 = .ok (.iand, 1) := by decide +kernel
theorem dX3_pushWord_64 : decode cX3_pushWord 64 = .ok (.iastore, 1) := by decide +kernel
theorem dX3_pushWord_65 : decode cX3_pushWord 65 = .ok (.aload_n 0, 1) := by decide +kernel
theorem dX3_pushWord_66 : decode cX3_pushWord 66 = .ok (.getfield 15, 3) := by decide +kernel
theorem dX3_pushWord_69 : decode cX3_pushWord 69 = .ok (.aload_n 0, 1) := by decide +kernel
theorem dX3_pushWord_70 : decode cX3_pushWord 70 = .ok (.getfield 21, 3) := by decide +kernel
theorem dX3_pushWord_73 : decode cX3_pushWord 73 = .ok (.iconst 3, 1) := by decide +kernel
theorem dX3_pushWord_74 : decode cX3_pushWord 74 = .ok (.iadd, 1) := by decide +kernel
theorem dX3_pushWord_75 : decode cX3_pushWord 75 = .ok (.iload_n 1, 1) := by decide +kernel
theorem dX3_pushWord_76 : decode cX3_pushWord 76 = .ok (.sipush 255, 3) := by decide +kernel
theorem dX3_pushWord_79 : decode cX3_pushWord 79 = .ok (.iand, 1) := by decide +kernel
theorem dX3_pushWord_80 : decode cX3_pushWord 80 = .ok (.iastore, 1) := by decide +kernel
theorem dX3_pushWord_81 : decode cX3_pushWord 81 = .ok (.aload_n 0, 1) := by decide +kernel
theorem dX3_pushWord_82 : decode cX3_pushWord 82 = .ok (.dup, 1) := by decide +kernel
theorem dX3_pushWord_83 : decode cX3_pushWord 83 = .ok (.getfield 21, 3) := by decide +kernel
theorem dX3_pushWord_86 : decode cX3_pushWord 86 = .ok (.iconst 4, 1) := by decide +kernel
theorem dX3_pushWord_87 : decode cX3_pushWord 87 = .ok (.iadd, 1) := by decide +kernel
theorem dX3_pushWord_88 : decode cX3_pushWord 88 = .ok (.putfield 21, 3) := by decide +kernel
theorem dX3_pushWord_91 : decode cX3_pushWord 91 = .ok (.return_, 1) := by decide +kernel
theorem dX3_pushZeros_0 : decode cX3_pushZeros 0 = .ok (.iconst 0, 1) := by decide +kernel
theorem dX3_pushZeros_1 : decode cX3_pushZeros 1 = .ok (.istore_n 2, 1) := by decide +kernel
theorem dX3_pushZeros_2 : decode cX3_pushZeros 2 = .ok (.iload_n 2, 1) := by decide +kernel
theorem dX3_pushZeros_3 : decode cX3_pushZeros 3 = .ok (.iload_n 1, 1) := by decide +kernel
theorem dX3_pushZeros_4 : decode cX3_pushZeros 4 = .ok (.if_icmp .ge 41, 3) := by decide +kernel
theorem dX3_pushZeros_7 : decode cX3_pushZeros 7 = .ok (.aload_n 0, 1) := by decide +kernel
theorem dX3_pushZeros_8 : decode cX3_pushZeros 8 = .ok (.getfield 21, 3) := by decide +kernel
theorem dX3_pushZeros_11 : decode cX3_pushZeros 11 = .ok (.aload_n 0, 1) := by decide +kernel
theorem dX3_pushZeros_12 : decode cX3_pushZeros 12 = .ok (.getfield 15, 3) := by decide +kernel
theorem dX3_pushZeros_15 : decode cX3_pushZeros 15 = .ok (.arraylength, 1) := by decide +kernel
theorem dX3_pushZeros_16 : decode cX3_pushZeros 16 = .ok (.if_icmp .ge 29, 3) := by decide +kernel
theorem dX3_pushZeros_19 : decode cX3_pushZeros 19 = .ok (.aload_n 0, 1) := by decide +kernel
theorem dX3_pushZeros_20 : decode cX3_pushZeros 20 = .ok (.getfield 15, 3) := by decide +kernel
theorem dX3_pushZeros_23 : decode cX3_pushZeros 23 = .ok (.aload_n 0, 1) := by decide +kernel
theorem dX3_pushZeros_24 : decode cX3_pushZeros 24 = .ok (.getfield 21, 3) := by decide +kernel
theorem dX3_pushZeros_27 : decode cX3_pushZeros 27 = .ok (.iconst 0, 1) := by decide +kernel
theorem dX3_pushZeros_28 : decode cX3_pushZeros 28 = .ok (.iastore, 1) := by decide +kernel
theorem dX3_pushZeros_29 : decode cX3_pushZeros 29 = .ok (.aload_n 0, 1) := by decide +kernel
theorem dX3_pushZeros_30 : decode cX3_pushZeros 30 = .ok (.dup, 1) := by decide +kernel
theorem dX3_pushZeros_31 : decode cX3_pushZeros 31 = .ok (.getfield 21, 3) := by decide +kernel
theorem dX3_pushZeros_34 : decode cX3_pushZeros 34 = .ok (.iconst 1, 1) := by decide +kernel
theorem dX3_pushZeros_35 : decode cX3_pushZeros 35 = .ok (.iadd, 1) := by decide +kernel
theorem dX3_pushZeros_36 : decode cX3_pushZeros 36 = .ok (.putfield 21, 3) := by decide +kernel
theorem dX3_pushZeros_39 : decode cX3_pushZeros 39 = .ok (.iinc 2 1, 3) := by decide +kernel
theorem dX3_pushZeros_42 : decode cX3_pushZeros 42 = .ok (.goto (-40), 3) := by decide +kernel
theorem dX3_pushZeros_45 : decode cX3_pushZeros 45 = .ok (.return_, 1) := by decide +kernel
set_option maxRecDepth 20000 in
theorem ggX3_pushAll_X3_pushPart : GoodIn wsX3_pushAll wsX3_pushPart := goodIn_r _ [6, 1, 7, 8, 9, 10, 11, 12, 13] (by decide +kernel) (by decide +kernel)
set_option maxRecDepth 20000 in
theorem gX3_pushAll_X3_pushPart : GoodIn wsX3_pushAll (wsV RX3 25 RX3 yX3_pushPart wsX3_pushPart) := goodIn_app (goodIn_of _ (by decide +kernel)) ggX3_pushAll_X3_pushPart
theorem dX3_pushAll_0 : decode cX3_pushAll 0 = .ok (.aload_n 0, 1) := by decide +kernel
theorem dX3_pushAll_1 : decode cX3_pushAll 1 = .ok (.aload_n 1, 1) := by decide +kernel
theorem dX3_pushAll_2 : decode cX3_pushAll 2 = .ok (.iconst 0, 1) := by decide +kernel
theorem dX3_pushAll_3 : decode cX3_pushAll 3 = .ok (.aload_n 1, 1) := by decide +kernel
theorem dX3_pushAll_4 : decode cX3_pushAll 4 = .ok (.getfield 21, 3) := by decide +kernel
theorem dX3_pushAll_7 : decode cX3_pushAll 7 = .ok (.invokevirtual 25, 3) := by decide +kernel
theorem dX3_pushAll_10 : decode cX3_pushAll 10 = .ok (.return_, 1) := by decide +kernel
theorem dX3_pushPart_0 : decode cX3_pushPart 0 = .ok (.iload_n 2, 1) := by decide +kernel
theorem dX3_pushPart_1 : decode cX3_pushPart 1 = .ok (.ifCond .lt 58, 3) := by decide +kernel
theorem dX3_pushPart_4 : decode cX3_pushPart 4 = .ok (.iload_n 3, 1) := by decide +kernel
theorem dX3_pushPart_5 : decode cX3_pushPart 5 = .ok (.ifCond .lt 54, 3) := by decide +kernel
theorem dX3_pushPart_8 : decode cX3_pushPart 8 = .ok (.iload_n 3, 1) := by decide +kernel
theorem dX3_pushPart_9 : decode cX3_pushPart 9 = .ok (.aload_n 1, 1) := by decide +kernel
theorem dX3_pushPart_10 : decode cX3_pushPart 10 = .ok (.getfield 21, 3) := by decide +kernel
theorem dX3_pushPart_13 : decode cX3_pushPart 13 = .ok (.iload_n 2, 1) := by decide +kernel
theorem dX3_pushPart_14 : decode cX3_pushPart 14 = .ok (.isub, 1) := by decide +kernel
theorem dX3_pushPart_15 : decode cX3_pushPart 15 = .ok (.if_icmp .gt 44, 3) := by decide +kernel
theorem dX3_pushPart_18 : decode cX3_pushPart 18 = .ok (.iload_n 3, 1) := by decide +kernel
theorem dX3_pushPart_19 : decode cX3_pushPart 19 = .ok (.aload_n 0, 1) := by decide +kernel
theorem dX3_pushPart_20 : decode cX3_pushPart 20 = .ok (.getfield 15, 3) := by decide +kernel
theorem dX3_pushPart_23 : decode cX3_pushPart 23 = .ok (.arraylength, 1) := by decide +kernel
theorem dX3_pushPart_24 : decode cX3_pushPart 24 = .ok (.aload_n 0, 1) := by decide +kernel
theorem dX3_pushPart_25 : decode cX3_pushPart 25 = .ok (.getfield 21, 3) := by decide +kernel
theorem dX3_pushPart_28 : decode cX3_pushPart 28 = .ok (.isub, 1) := by decide +kernel
theorem dX3_pushPart_29 : decode cX3_pushPart 29 = .ok (.if_icmp .gt 30, 3) := by decide +kernel
theorem dX3_pushPart_32 : decode cX3_pushPart 32 = .ok (.aload_n 1, 1) := by decide +kernel
theorem dX3_pushPart_33 : decode cX3_pushPart 33 = .ok (.getfield 15, 3) := by decide +kernel
theorem dX3_pushPart_36 : decode cX3_pushPart 36 = .ok (.iload_n 2, 1) := by decide +kernel
theorem dX3_pushPart_37 : decode cX3_pushPart 37 = .ok (.aload_n 0, 1) := by decide +kernel
theorem dX3_pushPart_38 : decode cX3_pushPart 38 = .ok (.getfield 15, 3) := by decide +kernel
theorem dX3_pushPart_41 : decode cX3_pushPart 41 = .ok (.aload_n 0, 1) := by decide +kernel
theorem dX3_pushPart_42 : decode cX3_pushPart 42 = .ok (.getfield 21, 3) := by decide +kernel
theorem dX3_pushPart_45 : decode cX3_pushPart 45 = .ok (.iload_n 3, 1) := by decide +kernel
theorem dX3_pushPart_46 : decode cX3_pushPart 46 = .ok (.invokestatic 29, 3) := by decide +kernel
theorem dX3_pushPart_49 : decode cX3_pushPart 49 = .ok (.aload_n 0, 1) := by decide +kernel
theorem dX3_pushPart_50 : decode cX3_pushPart 50 = .ok (.dup, 1) := by decide +kernel
theorem dX3_pushPart_51 : decode cX3_pushPart 51 = .ok (.getfield 21, 3) := by decide +kernel
theorem dX3_pushPart_54 : decode cX3_pushPart 54 = .ok (.iload_n 3, 1) := by decide +kernel
theorem dX3_pushPart_55 : decode cX3_pushPart 55 = .ok (.iadd, 1) := by decide +kernel
theorem dX3_pushPart_56 : decode cX3_pushPart 56 = .ok (.putfield 21, 3) := by decide +kernel
theorem dX3_pushPart_59 : decode cX3_pushPart 59 = .ok (.return_, 1) := by decide +kernel
set_option maxRecDepth 20000 in
theorem ggX3_takeOver_X3_pushPart : GoodIn wsX3_takeOver wsX3_pushPart := goodIn_r _ [6, 1, 7, 8, 9, 10, 11, 12, 13] (by decide +kernel) (by decide +kernel)
set_option maxRecDepth 20000 in
theorem gX3_takeOver_X3_pushPart : GoodIn wsX3_takeOver (wsV RX3 25 RX3 yX3_pushPart wsX3_pushPart) := goodIn_app (goodIn_of _ (by decide +kernel)) ggX3_takeOver_X3_pushPart
theorem dX3_takeOver_0 : decode cX3_takeOver 0 = .ok (.aload_n 1, 1) := by decide +kernel
theorem dX3_takeOver_1 : decode cX3_takeOver 1 = .ok (.aload_n 0, 1) := by decide +kernel
theorem dX3_takeOver_2 : decode cX3_takeOver 2 = .ok (.if_acmp .eq 18, 3) := by decide +kernel
theorem dX3_takeOver_5 : decode cX3_takeOver 5 = .ok (.aload_n 0, 1) := by decide +kernel
theorem dX3_takeOver_6 : decode cX3_takeOver 6 = .ok (.iconst 0, 1) := by decide +kernel
theorem dX3_takeOver_7 : decode cX3_takeOver 7 = .ok (.putfield 21, 3) := by decide +kernel
theorem dX3_takeOver_10 : decode cX3_takeOver 10 = .ok (.aload_n 0, 1) := by decide +kernel
theorem dX3_takeOver_11 : decode cX3_takeOver 11 = .ok (.aload_n 1, 1) := by decide +kernel
theorem dX3_takeOver_12 : decode cX3_takeOver 12 = .ok (.iconst 0, 1) := by decide +kernel
theorem dX3_takeOver_13 : decode cX3_takeOver 13 = .ok (.aload_n 1, 1) := by decide +kernel
theorem dX3_takeOver_14 : decode cX3_takeOver 14 = .ok (.getfield 21, 3) := by decide +kernel
theorem dX3_takeOver_17 : decode cX3_takeOver 17 = .ok (.invokevirtual 25, 3) := by decide +kernel
theorem dX3_takeOver_20 : decode cX3_takeOver 20 = .ok (.return_, 1) := by decide +kernel
set_option maxRecDepth 20000 in
theorem ggX3_flip_X3_has : GoodIn wsX3_flip wsX3_has := goodIn_r _ [6, 7, 8, 9] (by decide +kernel) (by decide +kernel)
set_option maxRecDepth 20000 in
theorem gX3_flip_X3_has : GoodIn wsX3_flip (wsV RX3 35 RX3 yX3_has wsX3_has) := goodIn_app (goodIn_of _ (by decide +kernel)) ggX3_flip_X3_has
theorem dX3_flip_0 : decode cX3_flip 0 = .ok (.aload_n 0, 1) := by decide +kernel
theorem dX3_flip_1 : decode cX3_flip 1 = .ok (.iload_n 1, 1) := by decide +kernel
theorem dX3_flip_2 : decode cX3_flip 2 = .ok (.invokevirtual 35, 3) := by decide +kernel
theorem dX3_flip_5 : decode cX3_flip 5 = .ok (.ifCond .ne 5, 3) := by decide +kernel
theorem dX3_flip_8 : decode cX3_flip 8 = .ok (.iconst (-1), 1) := by decide +kernel
theorem dX3_flip_9 : decode cX3_flip 9 = .ok (.ireturn, 1) := by decide +kernel
theorem dX3_flip_10 : decode cX3_flip 10 = .ok (.aload_n 0, 1) := by decide +kernel
theorem dX3_flip_11 : decode cX3_flip 11 = .ok (.getfield 15, 3) := by decide +kernel
theorem dX3_flip_14 : decode cX3_flip 14 = .ok (.iload_n 1, 1) := by decide +kernel
theorem dX3_flip_15 : decode cX3_flip 15 = .ok (.dup2, 1) := by decide +kernel
theorem dX3_flip_16 : decode cX3_flip 16 = .ok (.iaload, 1) := by decide +kernel
theorem dX3_flip_17 : decode cX3_flip 17 = .ok (.iload_n 2, 1) := by decide +kernel
theorem dX3_flip_18 : decode cX3_flip 18 = .ok (.ixor, 1) := by decide +kernel
theorem dX3_flip_19 : decode cX3_flip 19 = .ok (.iastore, 1) := by decide +kernel
theorem dX3_flip_20 : decode cX3_flip 20 = .ok (.aload_n 0, 1) := by decide +kernel
theorem dX3_flip_21 : decode cX3_flip 21 = .ok (.getfield 15, 3) := by decide +kernel
theorem dX3_flip_24 : decode cX3_flip 24 = .ok (.iload_n 1, 1) := by decide +kernel
theorem dX3_flip_25 : decode cX3_flip 25 = .ok (.iaload, 1) := by decide +kernel
theorem dX3_flip_26 : decode cX3_flip 26 = .ok (.ireturn, 1) := by decide +kernel
theorem dX3_isSameAs_0 : decode cX3_isSameAs 0 = .ok (.aload_n 0, 1) := by decide +kernel
theorem dX3_isSameAs_1 : decode cX3_isSameAs 1 = .ok (.getfield 21, 3) := by decide +kernel
theorem dX3_isSameAs_4 : decode cX3_isSameAs 4 = .ok (.aload_n 1, 1) := by decide +kernel
theorem dX3_isSameAs_5 : decode cX3_isSameAs 5 = .ok (.getfield 21, 3) := by decide +kernel
theorem dX3_isSameAs_8 : decode cX3_isSameAs 8 = .ok (.if_icmp .eq 5, 3) := by decide +kernel
theorem dX3_isSameAs_11 : decode cX3_isSameAs 11 = .ok (.iconst 0, 1) := by decide +kernel
theorem dX3_isSameAs_12 : decode cX3_isSameAs 12 = .ok (.ireturn, 1) := by decide +kernel
theorem dX3_isSameAs_13 : decode cX3_isSameAs 13 = .ok (.iconst 0, 1) := by decide +kernel
theorem dX3_isSameAs_14 : decode cX3_isSameAs 14 = .ok (.istore_n 2, 1) := by decide +kernel
theorem dX3_isSameAs_15 : decode cX3_isSameAs 15 = .ok (.iload_n 2, 1) := by decide +kernel
theorem dX3_isSameAs_16 : decode cX3_isSameAs 16 = .ok (.aload_n 0, 1) := by decide +kernel
theorem dX3_isSameAs_17 : decode cX3_isSameAs 17 = .ok (.getfield 21, 3) := by decide +kernel
theorem dX3_isSameAs_20 : decode cX3_isSameAs 20 = .ok (.if_icmp .ge 26, 3) := by decide +kernel
theorem dX3_isSameAs_23 : decode cX3_isSameAs 23 = .ok (.aload_n 0, 1) := by decide +kernel
theorem dX3_isSameAs_24 : decode cX3_isSameAs 24 = .ok (.getfield 15, 3) := by decide +kernel
theorem dX3_isSameAs_27 : decode cX3_isSameAs 27 = .ok (.iload_n 2, 1) := by decide +kernel
theorem dX3_isSameAs_28 : decode cX3_isSameAs 28 = .ok (.iaload, 1) := by decide +kernel
theorem dX3_isSameAs_29 : decode cX3_isSameAs 29 = .ok (.aload_n 1, 1) := by decide +kernel
theorem dX3_isSameAs_30 : decode cX3_isSameAs 30 = .ok (.getfield 15, 3) := by decide +kernel
theorem dX3_isSameAs_33 : decode cX3_isSameAs 33 = .ok (.iload_n 2, 1) := by decide +kernel
theorem dX3_isSameAs_34 : decode cX3_isSameAs 34 = .ok (.iaload, 1) := by decide +kernel
theorem dX3_isSameAs_35 : decode cX3_isSameAs 35 = .ok (.if_icmp .eq 5, 3) := by decide +kernel
theorem dX3_isSameAs_38 : decode cX3_isSameAs 38 = .ok (.iconst 0, 1) := by decide +kernel
theorem dX3_isSameAs_39 : decode cX3_isSameAs 39 = .ok (.ireturn, 1) := by decide +kernel
theorem dX3_isSameAs_40 : decode cX3_isSameAs 40 = .ok (.iinc 2 1, 3) := by decide +kernel
theorem dX3_isSameAs_43 : decode cX3_isSameAs 43 = .ok (.goto (-28), 3) := by decide +kernel
theorem dX3_isSameAs_46 : decode cX3_isSameAs 46 = .ok (.iconst 1, 1) := by decide +kernel
theorem dX3_isSameAs_47 : decode cX3_isSameAs 47 = .ok (.ireturn, 1) := by decide +kernel
