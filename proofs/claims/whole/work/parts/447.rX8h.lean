-- needs:
theorem dX8_type_18 : decode cX8_type 18 = .ok (.aload_n 0, 1) := by decide +kernel
theorem dX8_type_19 : decode cX8_type 19 = .ok (.getfield 227, 3) := by decide +kernel
theorem dX8_type_22 : decode cX8_type 22 = .ok (.iload_n 3, 1) := by decide +kernel
theorem dX8_type_23 : decode cX8_type 23 = .ok (.iadd, 1) := by decide +kernel
theorem dX8_type_24 : decode cX8_type 24 = .ok (.sipush 1200, 3) := by decide +kernel
theorem dX8_type_27 : decode cX8_type 27 = .ok (.if_icmp .le 6, 3) := by decide +kernel
theorem dX8_type_30 : decode cX8_type 30 = .ok (.bipush (-3), 2) := by decide +kernel
theorem dX8_type_32 : decode cX8_type 32 = .ok (.ireturn, 1) := by decide +kernel
theorem dX8_type_33 : decode cX8_type 33 = .ok (.iconst 0, 1) := by decide +kernel
theorem dX8_type_34 : decode cX8_type 34 = .ok (.istore 4, 2) := by decide +kernel
theorem dX8_type_36 : decode cX8_type 36 = .ok (.iload 4, 2) := by decide +kernel
theorem dX8_type_38 : decode cX8_type 38 = .ok (.iload_n 3, 1) := by decide +kernel
theorem dX8_type_39 : decode cX8_type 39 = .ok (.if_icmp .ge 25, 3) := by decide +kernel
theorem dX8_type_42 : decode cX8_type 42 = .ok (.aload_n 0, 1) := by decide +kernel
theorem dX8_type_43 : decode cX8_type 43 = .ok (.lload_n 1, 1) := by decide +kernel
theorem dX8_type_44 : decode cX8_type 44 = .ok (.bipush 8, 2) := by decide +kernel
theorem dX8_type_46 : decode cX8_type 46 = .ok (.iload 4, 2) := by decide +kernel
theorem dX8_type_48 : decode cX8_type 48 = .ok (.imul, 1) := by decide +kernel
theorem dX8_type_49 : decode cX8_type 49 = .ok (.lshr, 1) := by decide +kernel
theorem dX8_type_50 : decode cX8_type 50 = .ok (.ldc2_w 161, 3) := by decide +kernel
theorem dX8_type_53 : decode cX8_type 53 = .ok (.land, 1) := by decide +kernel
theorem dX8_type_54 : decode cX8_type 54 = .ok (.l2i, 1) := by decide +kernel
theorem dX8_type_55 : decode cX8_type 55 = .ok (.invokevirtual 230, 3) := by decide +kernel
theorem dX8_type_58 : decode cX8_type 58 = .ok (.iinc 4 1, 3) := by decide +kernel
theorem dX8_type_61 : decode cX8_type 61 = .ok (.goto (-25), 3) := by decide +kernel
theorem dX8_type_64 : decode cX8_type 64 = .ok (.aload_n 0, 1) := by decide +kernel
theorem dX8_type_65 : decode cX8_type 65 = .ok (.getfield 227, 3) := by decide +kernel
theorem dX8_type_68 : decode cX8_type 68 = .ok (.ireturn, 1) := by decide +kernel
set_option maxRecDepth 20000 in
theorem ggX8_tape_X8_within : GoodIn wsX8_tape wsX8_within := goodIn_r _ [7] rfl (by decide +kernel)
set_option maxRecDepth 20000 in
theorem gX8_tape_X8_within : GoodIn wsX8_tape (va_wsS RX8 153 yX8_within wsX8_within) := goodIn_app (goodIn_of _ (by decide +kernel)) ggX8_tape_X8_within
theorem dX8_tape_0 : decode cX8_tape 0 = .ok (.aload_n 0, 1) := by decide +kernel
theorem dX8_tape_1 : decode cX8_tape 1 = .ok (.iconst 0, 1) := by decide +kernel
theorem dX8_tape_2 : decode cX8_tape 2 = .ok (.putfield 112, 3) := by decide +kernel
theorem dX8_tape_5 : decode cX8_tape 5 = .ok (.iload_n 1, 1) := by decide +kernel
theorem dX8_tape_6 : decode cX8_tape 6 = .ok (.iconst 0, 1) := by decide +kernel
theorem dX8_tape_7 : decode cX8_tape 7 = .ok (.aload_n 0, 1) := by decide +kernel
theorem dX8_tape_8 : decode cX8_tape 8 = .ok (.getfield 227, 3) := by decide +kernel
theorem dX8_tape_11 : decode cX8_tape 11 = .ok (.iconst 1, 1) := by decide +kernel
theorem dX8_tape_12 : decode cX8_tape 12 = .ok (.isub, 1) := by decide +kernel
theorem dX8_tape_13 : decode cX8_tape 13 = .ok (.invokestatic 153, 3) := by decide +kernel
theorem dX8_tape_16 : decode cX8_tape 16 = .ok (.ifCond .eq 12, 3) := by decide +kernel
theorem dX8_tape_19 : decode cX8_tape 19 = .ok (.aload_n 0, 1) := by decide +kernel
theorem dX8_tape_20 : decode cX8_tape 20 = .ok (.getfield 52, 3) := by decide +kernel
theorem dX8_tape_23 : decode cX8_tape 23 = .ok (.iload_n 1, 1) := by decide +kernel
theorem dX8_tape_24 : decode cX8_tape 24 = .ok (.iaload, 1) := by decide +kernel
theorem dX8_tape_25 : decode cX8_tape 25 = .ok (.goto 4, 3) := by decide +kernel
theorem dX8_tape_28 : decode cX8_tape 28 = .ok (.iconst (-1), 1) := by decide +kernel
theorem dX8_tape_29 : decode cX8_tape 29 = .ok (.ireturn, 1) := by decide +kernel
set_option maxRecDepth 20000 in
theorem ggX8_cut_X8_within : GoodIn wsX8_cut wsX8_within := goodIn_r _ [6] rfl (by decide +kernel)
set_option maxRecDepth 20000 in
theorem gX8_cut_X8_within : GoodIn wsX8_cut (va_wsS RX8 153 yX8_within wsX8_within) := goodIn_app (goodIn_of _ (by decide +kernel)) ggX8_cut_X8_within
theorem dX8_cut_0 : decode cX8_cut 0 = .ok (.aload_n 0, 1) := by decide +kernel
theorem dX8_cut_1 : decode cX8_cut 1 = .ok (.iconst 0, 1) := by decide +kernel
theorem dX8_cut_2 : decode cX8_cut 2 = .ok (.putfield 112, 3) := by decide +kernel
theorem dX8_cut_5 : decode cX8_cut 5 = .ok (.iload_n 1, 1) := by decide +kernel
theorem dX8_cut_6 : decode cX8_cut 6 = .ok (.iconst 0, 1) := by decide +kernel
theorem dX8_cut_7 : decode cX8_cut 7 = .ok (.aload_n 0, 1) := by decide +kernel
theorem dX8_cut_8 : decode cX8_cut 8 = .ok (.getfield 227, 3) := by decide +kernel
theorem dX8_cut_11 : decode cX8_cut 11 = .ok (.invokestatic 153, 3) := by decide +kernel
theorem dX8_cut_14 : decode cX8_cut 14 = .ok (.ifCond .ne 6, 3) := by decide +kernel
theorem dX8_cut_17 : decode cX8_cut 17 = .ok (.bipush (-2), 2) := by decide +kernel
theorem dX8_cut_19 : decode cX8_cut 19 = .ok (.ireturn, 1) := by decide +kernel
theorem dX8_cut_20 : decode cX8_cut 20 = .ok (.aload_n 0, 1) := by decide +kernel
theorem dX8_cut_21 : decode cX8_cut 21 = .ok (.getfield 227, 3) := by decide +kernel
theorem dX8_cut_24 : decode cX8_cut 24 = .ok (.iload_n 1, 1) := by decide +kernel
theorem dX8_cut_25 : decode cX8_cut 25 = .ok (.isub, 1) := by decide +kernel
theorem dX8_cut_26 : decode cX8_cut 26 = .ok (.istore_n 2, 1) := by decide +kernel
theorem dX8_cut_27 : decode cX8_cut 27 = .ok (.aload_n 0, 1) := by decide +kernel
theorem dX8_cut_28 : decode cX8_cut 28 = .ok (.iload_n 1, 1) := by decide +kernel
theorem dX8_cut_29 : decode cX8_cut 29 = .ok (.putfield 227, 3) := by decide +kernel
theorem dX8_cut_32 : decode cX8_cut 32 = .ok (.iload_n 2, 1) := by decide +kernel
theorem dX8_cut_33 : decode cX8_cut 33 = .ok (.ireturn, 1) := by decide +kernel
set_option maxRecDepth 20000 in
theorem ggX8_forge_X8_within : GoodIn wsX8_forge wsX8_within := goodIn_r _ [7] rfl (by decide +kernel)
set_option maxRecDepth 20000 in
theorem gX8_forge_X8_within : GoodIn wsX8_forge (va_wsS RX8 153 yX8_within wsX8_within) := goodIn_app (goodIn_of _ (by decide +kernel)) ggX8_forge_X8_within
theorem dX8_forge_0 : decode cX8_forge 0 = .ok (.aload_n 0, 1) := by decide +kernel
theorem dX8_forge_1 : decode cX8_forge 1 = .ok (.iconst 0, 1) := by decide +kernel
theorem dX8_forge_2 : decode cX8_forge 2 = .ok (.putfield 112, 3) := by decide +kernel
theorem dX8_forge_5 : decode cX8_forge 5 = .ok (.iload_n 1, 1) := by decide +kernel
theorem dX8_forge_6 : decode cX8_forge 6 = .ok (.iconst 0, 1) := by decide +kernel
theorem dX8_forge_7 : decode cX8_forge 7 = .ok (.aload_n 0, 1) := by decide +kernel
theorem dX8_forge_8 : decode cX8_forge 8 = .ok (.getfield 227, 3) := by decide +kernel
theorem dX8_forge_11 : decode cX8_forge 11 = .ok (.iconst 1, 1) := by decide +kernel
theorem dX8_forge_12 : decode cX8_forge 12 = .ok (.isub, 1) := by decide +kernel
theorem dX8_forge_13 : decode cX8_forge 13 = .ok (.invokestatic 153, 3) := by decide +kernel
theorem dX8_forge_16 : decode cX8_forge 16 = .ok (.ifCond .eq 14, 3) := by decide +kernel
theorem dX8_forge_19 : decode cX8_forge 19 = .ok (.iload_n 2, 1) := by decide +kernel
theorem dX8_forge_20 : decode cX8_forge 20 = .ok (.iconst 0, 1) := by decide +kernel
theorem dX8_forge_21 : decode cX8_forge 21 = .ok (.sipush 255, 3) := by decide +kernel
theorem dX8_forge_24 : decode cX8_forge 24 = .ok (.invokestatic 153, 3) := by decide +kernel
theorem dX8_forge_27 : decode cX8_forge 27 = .ok (.ifCond .ne 6, 3) := by decide +kernel
theorem dX8_forge_30 : decode cX8_forge 30 = .ok (.bipush (-2), 2) := by decide +kernel
theorem dX8_forge_32 : decode cX8_forge 32 = .ok (.ireturn, 1) := by decide +kernel
theorem dX8_forge_33 : decode cX8_forge 33 = .ok (.aload_n 0, 1) := by decide +kernel
theorem dX8_forge_34 : decode cX8_forge 34 = .ok (.getfield 52, 3) := by decide +kernel
theorem dX8_forge_37 : decode cX8_forge 37 = .ok (.iload_n 1, 1) := by decide +kernel
theorem dX8_forge_38 : decode cX8_forge 38 = .ok (.dup2, 1) := by decide +kernel
theorem dX8_forge_39 : decode cX8_forge 39 = .ok (.iaload, 1) := by decide +kernel
theorem dX8_forge_40 : decode cX8_forge 40 = .ok (.iload_n 2, 1) := by decide +kernel
theorem dX8_forge_41 : decode cX8_forge 41 = .ok (.ixor, 1) := by decide +kernel
theorem dX8_forge_42 : decode cX8_forge 42 = .ok (.iastore, 1) := by decide +kernel
theorem dX8_forge_43 : decode cX8_forge 43 = .ok (.aload_n 0, 1) := by decide +kernel
theorem dX8_forge_44 : decode cX8_forge 44 = .ok (.getfield 52, 3) := by decide +kernel
theorem dX8_forge_47 : decode cX8_forge 47 = .ok (.iload_n 1, 1) := by decide +kernel
theorem dX8_forge_48 : decode cX8_forge 48 = .ok (.iaload, 1) := by decide +kernel
theorem dX8_forge_49 : decode cX8_forge 49 = .ok (.ireturn, 1) := by decide +kernel
theorem dX8_wrong_0 : decode cX8_wrong 0 = .ok (.aload_n 0, 1) := by decide +kernel
theorem dX8_wrong_1 : decode cX8_wrong 1 = .ok (.getfield 237, 3) := by decide +kernel
theorem dX8_wrong_4 : decode cX8_wrong 4 = .ok (.ifCond .ne 13, 3) := by decide +kernel
theorem dX8_wrong_7 : decode cX8_wrong 7 = .ok (.aload_n 0, 1) := by decide +kernel
theorem dX8_wrong_8 : decode cX8_wrong 8 = .ok (.iload_n 1, 1) := by decide +kernel
theorem dX8_wrong_9 : decode cX8_wrong 9 = .ok (.putfield 237, 3) := by decide +kernel
theorem dX8_wrong_12 : decode cX8_wrong 12 = .ok (.aload_n 0, 1) := by decide +kernel
theorem dX8_wrong_13 : decode cX8_wrong 13 = .ok (.iload_n 2, 1) := by decide +kernel
theorem dX8_wrong_14 : decode cX8_wrong 14 = .ok (.putfield 55, 3) := by decide +kernel
theorem dX8_wrong_17 : decode cX8_wrong 17 = .ok (.return_, 1) := by decide +kernel
set_option maxRecDepth 20000 in
theorem ggX8_next_X8_wrong : GoodIn wsX8_next wsX8_wrong := goodIn_r _ [9, 1, 10, 11, 12, 13, 14, 15, 16, 17, 18, 19, 20, 21, 22, 23, 24, 25, 26, 27, 28, 29, 30, 31, 32, 33, 34, 35, 36, 37, 38, 39, 40, 41, 42, 43, 44, 45, 46, 47, 48, 49, 50, 51, 52] rfl (by decide +kernel)
set_option maxRecDepth 20000 in
theorem gX8_next_X8_wrong : GoodIn wsX8_next (wsV RX8 243 RX8 yX8_wrong wsX8_wrong) := goodIn_app (goodIn_of _ (by decide +kernel)) ggX8_next_X8_wrong
theorem dX8_next_0 : decode cX8_next 0 = .ok (.aload_n 0, 1) := by decide +kernel
theorem dX8_next_1 : decode cX8_next 1 = .ok (.getfield 237, 3) := by decide +kernel
theorem dX8_next_4 : decode cX8_next 4 = .ok (.ifCond .eq 5, 3) := by decide +kernel
theorem dX8_next_7 : decode cX8_next 7 = .ok (.iconst 0, 1) := by decide +kernel
theorem dX8_next_8 : decode cX8_next 8 = .ok (.ireturn, 1) := by decide +kernel
theorem dX8_next_9 : decode cX8_next 9 = .ok (.aload_n 0, 1) := by decide +kernel
theorem dX8_next_10 : decode cX8_next 10 = .ok (.getfield 240, 3) := by decide +kernel
theorem dX8_next_13 : decode cX8_next 13 = .ok (.aload_n 0, 1) := by decide +kernel
theorem dX8_next_14 : decode cX8_next 14 = .ok (.getfield 227, 3) := by decide +kernel
theorem dX8_next_17 : decode cX8_next 17 = .ok (.if_icmp .ne 14, 3) := by decide +kernel
theorem dX8_next_20 : decode cX8_next 20 = .ok (.aload_n 0, 1) := by decide +kernel
theorem dX8_next_21 : decode cX8_next 21 = .ok (.iconst 1, 1) := by decide +kernel
theorem dX8_next_22 : decode cX8_next 22 = .ok (.aload_n 0, 1) := by decide +kernel
theorem dX8_next_23 : decode cX8_next 23 = .ok (.getfield 227, 3) := by decide +kernel
theorem dX8_next_26 : decode cX8_next 26 = .ok (.invokevirtual 243, 3) := by decide +kernel
theorem dX8_next_29 : decode cX8_next 29 = .ok (.iconst 0, 1) := by decide +kernel
theorem dX8_next_30 : decode cX8_next 30 = .ok (.ireturn, 1) := by decide +kernel
theorem dX8_next_31 : decode cX8_next 31 = .ok (.aload_n 0, 1) := by decide +kernel
theorem dX8_next_32 : decode cX8_next 32 = .ok (.dup, 1) := by decide +kernel
theorem dX8_next_33 : decode cX8_next 33 = .ok (.getfield 240, 3) := by decide +kernel
theorem dX8_next_36 : decode cX8_next 36 = .ok (.iconst 1, 1) := by decide +kernel
theorem dX8_next_37 : decode cX8_next 37 = .ok (.iadd, 1) := by decide +kernel
theorem dX8_next_38 : decode cX8_next 38 = .ok (.putfield 240, 3) := by decide +kernel
theorem dX8_next_41 : decode cX8_next 41 = .ok (.aload_n 0, 1) := by decide +kernel
theorem dX8_next_42 : decode cX8_next 42 = .ok (.getfield 52, 3) := by decide +kernel
theorem dX8_next_45 : decode cX8_next 45 = .ok (.aload_n 0, 1) := by decide +kernel
theorem dX8_next_46 : decode cX8_next 46 = .ok (.getfield 240, 3) := by decide +kernel
theorem dX8_next_49 : decode cX8_next 49 = .ok (.iconst 1, 1) := by decide +kernel
theorem dX8_next_50 : decode cX8_next 50 = .ok (.isub, 1) := by decide +kernel
theorem dX8_next_51 : decode cX8_next 51 = .ok (.iaload, 1) := by decide +kernel
theorem dX8_next_52 : decode cX8_next 52 = .ok (.ireturn, 1) := by decide +kernel
set_option maxRecDepth 20000 in
theorem ggX8_want_X8_next : GoodIn wsX8_want wsX8_next := goodIn_r _ [7, 1, 2, 8, 9, 10, 11, 12, 6, 13, 14, 15, 16, 17, 18, 19, 20, 21, 22, 23, 24, 25, 26, 27, 28, 29, 30, 31, 32, 33, 34, 35, 36, 37, 38, 39, 40, 41, 42, 43, 44, 45, 46, 47, 48, 49, 50, 51, 52, 53, 54, 55, 56] rfl (by decide +kernel)
set_option maxRecDepth 20000 in
theorem gX8_want_X8_next : GoodIn wsX8_want (wsV RX8 246 RX8 yX8_next wsX8_next) := goodIn_app (goodIn_of _ (by decide +kernel)) ggX8_want_X8_next
set_option maxRecDepth 20000 in
theorem ggX8_want_X8_wrong : GoodIn wsX8_want wsX8_wrong := goodIn_r _ [13, 1, 14, 15, 16, 17, 18, 19, 20, 21, 22, 23, 24, 25, 26, 27, 28, 29, 30, 31, 32, 33, 34, 35, 36, 37, 38, 39, 40, 41, 42, 43, 44, 45, 46, 47, 48, 49, 50, 51, 52, 53, 54, 55, 56] rfl (by decide +kernel)
set_option maxRecDepth 20000 in
theorem gX8_want_X8_wrong : GoodIn wsX8_want (wsV RX8 243 RX8 yX8_wrong wsX8_wrong) := goodIn_app (goodIn_of _ (by decide +kernel)) ggX8_want_X8_wrong
theorem dX8_want_0 : decode cX8_want 0 = .ok (.aload_n 0, 1) := by decide +kernel
theorem dX8_want_1 : decode cX8_want 1 = .ok (.invokevirtual 246, 3) := by decide +kernel
theorem dX8_want_4 : decode cX8_want 4 = .ok (.istore_n 2, 1) := by decide +kernel
theorem dX8_want_5 : decode cX8_want 5 = .ok (.aload_n 0, 1) := by decide +kernel
theorem dX8_want_6 : decode cX8_want 6 = .ok (.getfield 237, 3) := by decide +kernel
theorem dX8_want_9 : decode cX8_want 9 = .ok (.ifCond .ne 19, 3) := by decide +kernel
theorem dX8_want_12 : decode cX8_want 12 = .ok (.iload_n 2, 1) := by decide +kernel
theorem dX8_want_13 : decode cX8_want 13 = .ok (.iload_n 1, 1) := by decide +kernel
theorem dX8_want_14 : decode cX8_want 14 = .ok (.if_icmp .eq 14, 3) := by decide +kernel
theorem dX8_want_17 : decode cX8_want 17 = .ok (.aload_n 0, 1) := by decide +kernel
theorem dX8_want_18 : decode cX8_want 18 = .ok (.iconst 2, 1) := by decide +kernel
theorem dX8_want_19 : decode cX8_want 19 = .ok (.aload_n 0, 1) := by decide +kernel
theorem dX8_want_20 : decode cX8_want 20 = .ok (.getfield 240, 3) := by decide +kernel
theorem dX8_want_23 : decode cX8_want 23 = .ok (.iconst 1, 1) := by decide +kernel
theorem dX8_want_24 : decode cX8_want 24 = .ok (.isub, 1) := by decide +kernel
theorem dX8_want_25 : decode cX8_want 25 = .ok (.invokevirtual 243, 3) := by decide +kernel
theorem dX8_want_28 : decode cX8_want 28 = .ok (.return_, 1) := by decide +kernel
set_option maxRecDepth 20000 in
theorem ggX8_readRow_X8_next : GoodIn wsX8_readRow wsX8_next := goodIn_r _ [7, 1, 2, 8, 9, 10, 11, 12, 6, 13, 14, 18, 19, 20, 21, 22, 23, 24, 25, 26, 27, 28, 29, 30, 31, 32, 33, 34, 35, 36, 37, 38, 39, 40, 41, 42, 43, 44, 45, 46, 47, 48, 49, 50, 51, 52, 53, 54, 55, 56, 57, 58, 59] rfl (by decide +kernel)
set_option maxRecDepth 20000 in
theorem gX8_readRow_X8_next : GoodIn wsX8_readRow (wsV RX8 246 RX8 yX8_next wsX8_next) := goodIn_app (goodIn_of _ (by decide +kernel)) ggX8_readRow_X8_next
set_option maxRecDepth 20000 in
theorem ggX8_readRow_X8_within : GoodIn wsX8_readRow wsX8_within := goodIn_r _ [17] rfl (by decide +kernel)
set_option maxRecDepth 20000 in
theorem gX8_readRow_X8_within : GoodIn wsX8_readRow (va_wsS RX8 153 yX8_within wsX8_within) := goodIn_app (goodIn_of _ (by decide +kernel)) ggX8_readRow_X8_within
set_option maxRecDepth 20000 in
theorem ggX8_readRow_X8_wrong : GoodIn wsX8_readRow wsX8_wrong := goodIn_r _ [13, 1, 14, 18, 19, 20, 21, 22, 23, 24, 25, 26, 27, 28, 29, 30, 31, 32, 33, 34, 35, 36, 37, 38, 39, 40, 41, 42, 43, 44, 45, 46, 47, 48, 49, 50, 51, 52, 53, 54, 55, 56, 57, 58, 59] rfl (by decide +kernel)
set_option maxRecDepth 20000 in
theorem gX8_readRow_X8_wrong : GoodIn wsX8_readRow (wsV RX8 243 RX8 yX8_wrong wsX8_wrong) := goodIn_app (goodIn_of _ (by decide +kernel)) ggX8_readRow_X8_wrong
theorem dX8_readRow_0 : decode cX8_readRow 0 = .ok (.aload_n 0, 1) := by decide +kernel
theorem dX8_readRow_1 : decode cX8_readRow 1 = .ok (.invokevirtual 246, 3) := by decide +kernel
theorem dX8_readRow_4 : decode cX8_readRow 4 = .ok (.istore 5, 2) := by decide +kernel
theorem dX8_readRow_6 : decode cX8_readRow 6 = .ok (.aload_n 0, 1) := by decide +kernel
theorem dX8_readRow_7 : decode cX8_readRow 7 = .ok (.getfield 237, 3) := by decide +kernel
theorem dX8_readRow_10 : decode cX8_readRow 10 = .ok (.ifCond .ne 25, 3) := by decide +kernel
theorem dX8_readRow_13 : decode cX8_readRow 13 = .ok (.iload 5, 2) := by decide +kernel
theorem dX8_readRow_15 : decode cX8_readRow 15 = .ok (.iload_n 3, 1) := by decide +kernel
theorem dX8_readRow_16 : decode cX8_readRow 16 = .ok (.iload 4, 2) := by decide +kernel
theorem dX8_readRow_18 : decode cX8_readRow 18 = .ok (.invokestatic 153, 3) := by decide +kernel
theorem dX8_readRow_21 : decode cX8_readRow 21 = .ok (.ifCond .ne 14, 3) := by decide +kernel
theorem dX8_readRow_24 : decode cX8_readRow 24 = .ok (.aload_n 0, 1) := by decide +kernel
theorem dX8_readRow_25 : decode cX8_readRow 25 = .ok (.iconst 3, 1) := by decide +kernel
theorem dX8_readRow_26 : decode cX8_readRow 26 = .ok (.aload_n 0, 1) := by decide +kernel
theorem dX8_readRow_27 : decode cX8_readRow 27 = .ok (.getfield 240, 3) := by decide +kernel
theorem dX8_readRow_30 : decode cX8_readRow 30 = .ok (.iconst 1, 1) := by decide +kernel
theorem dX8_readRow_31 : decode cX8_readRow 31 = .ok (.isub, 1) := by decide +kernel
theorem dX8_readRow_32 : decode cX8_readRow 32 = .ok (.invokevirtual 243, 3) := by decide +kernel
theorem dX8_readRow_35 : decode cX8_readRow 35 = .ok (.iconst 0, 1) := by decide +kernel
theorem dX8_readRow_36 : decode cX8_readRow 36 = .ok (.istore 6, 2) := by decide +kernel
theorem dX8_readRow_38 : decode cX8_readRow 38 = .ok (.iload 6, 2) := by decide +kernel
theorem dX8_readRow_40 : decode cX8_readRow 40 = .ok (.iload 5, 2) := by decide +kernel
theorem dX8_readRow_42 : decode cX8_readRow 42 = .ok (.if_icmp .ge 26, 3) := by decide +kernel
theorem dX8_readRow_45 : decode cX8_readRow 45 = .ok (.aload_n 0, 1) := by decide +kernel
theorem dX8_readRow_46 : decode cX8_readRow 46 = .ok (.getfield 237, 3) := by decide +kernel
theorem dX8_readRow_49 : decode cX8_readRow 49 = .ok (.ifCond .ne 19, 3) := by decide +kernel
theorem dX8_readRow_52 : decode cX8_readRow 52 = .ok (.aload_n 1, 1) := by decide +kernel
theorem dX8_readRow_53 : decode cX8_readRow 53 = .ok (.iload_n 2, 1) := by decide +kernel
theorem dX8_readRow_54 : decode cX8_readRow 54 = .ok (.iload 6, 2) := by decide +kernel
theorem dX8_readRow_56 : decode cX8_readRow 56 = .ok (.iadd, 1) := by decide +kernel
theorem dX8_readRow_57 : decode cX8_readRow 57 = .ok (.aload_n 0, 1) := by decide +kernel
theorem dX8_readRow_58 : decode cX8_readRow 58 = .ok (.invokevirtual 246, 3) := by decide +kernel
theorem dX8_readRow_61 : decode cX8_readRow 61 = .ok (.iastore, 1) := by decide +kernel
theorem dX8_readRow_62 : decode cX8_readRow 62 = .ok (.iinc 6 1, 3) := by decide +kernel
theorem dX8_readRow_65 : decode cX8_readRow 65 = .ok (.goto (-27), 3) := by decide +kernel
theorem dX8_readRow_68 : decode cX8_readRow 68 = .ok (.iload 5, 2) := by decide +kernel
theorem dX8_readRow_70 : decode cX8_readRow 70 = .ok (.ireturn, 1) := by decide +kernel
set_option maxRecDepth 20000 in
theorem ggX8_readLimit_X8_readRow : GoodIn wsX8_readLimit wsX8_readRow := goodIn_r _ [12, 4, 5, 13, 14, 15, 11, 16, 17, 18, 19, 20, 21, 22, 23, 24, 25, 26, 31, 32, 33, 34, 35, 36, 37, 38, 39, 40, 41, 42, 43, 44, 45, 46, 47, 48, 49, 50, 51, 52, 53, 54, 55, 56, 57, 58, 59, 60, 61, 62, 63, 64, 65, 66, 67, 68, 69, 70, 71, 72] rfl (by decide +kernel)
set_option maxRecDepth 20000 in
theorem gX8_readLimit_X8_readRow : GoodIn wsX8_readLimit (wsV RX8 250 RX8 yX8_readRow wsX8_readRow) := goodIn_app (goodIn_of _ (by decide +kernel)) ggX8_readLimit_X8_readRow
set_option maxRecDepth 20000 in
theorem ggX8_readLimit_X8_next : GoodIn wsX8_readLimit wsX8_next := goodIn_r _ [16, 4, 5, 17, 18, 19, 20, 21, 11, 22, 23, 31, 32, 33, 34, 35, 36, 37, 38, 39, 40, 41, 42, 43, 44, 45, 46, 47, 48, 49, 50, 51, 52, 53, 54, 55, 56, 57, 58, 59, 60, 61, 62, 63, 64, 65, 66, 67, 68, 69, 70, 71, 72] rfl (by decide +kernel)
set_option maxRecDepth 20000 in
theorem gX8_readLimit_X8_next : GoodIn wsX8_readLimit (wsV RX8 246 RX8 yX8_next wsX8_next) := goodIn_app (goodIn_of _ (by decide +kernel)) ggX8_readLimit_X8_next
set_option maxRecDepth 20000 in
theorem ggX8_readLimit_X8_wrong : GoodIn wsX8_readLimit wsX8_wrong := goodIn_r _ [22, 4, 23, 31, 32, 33, 34, 35, 36, 37, 38, 39, 40, 41, 42, 43, 44, 45, 46, 47, 48, 49, 50, 51, 52, 53, 54, 55, 56, 57, 58, 59, 60, 61, 62, 63, 64, 65, 66, 67, 68, 69, 70, 71, 72] rfl (by decide +kernel)
set_option maxRecDepth 20000 in
theorem gX8_readLimit_X8_wrong : GoodIn wsX8_readLimit (wsV RX8 243 RX8 yX8_wrong wsX8_wrong) := goodIn_app (goodIn_of _ (by decide +kernel)) ggX8_readLimit_X8_wrong
set_option maxRecDepth 20000 in
theorem ggX8_readLimit_X8_want : GoodIn wsX8_readLimit wsX8_want := goodIn_r _ [30, 4, 5, 13, 14, 15, 11, 16, 17, 18, 19, 20, 21, 22, 23, 31, 32, 33, 34, 35, 36, 37, 38, 39, 40, 41, 42, 43, 44, 45, 46, 47, 48, 49, 50, 51, 52, 53, 54, 55, 56, 57, 58, 59, 60, 61, 62, 63, 64, 65, 66, 67, 68, 69, 70, 71, 72] rfl (by decide +kernel)
set_option maxRecDepth 20000 in
theorem gX8_readLimit_X8_want : GoodIn wsX8_readLimit (wsV RX8 254 RX8 yX8_want wsX8_want) := goodIn_app (goodIn_of _ (by decide +kernel)) ggX8_readLimit_X8_want
theorem dX8_readLimit_0 : decode cX8_readLimit 0 = .ok (.bipush 80, 2) := by decide +kernel
theorem dX8_readLimit_2 : decode cX8_readLimit 2 = .ok (.aload_n 0, 1) := by decide +kernel
theorem dX8_readLimit_3 : decode cX8_readLimit 3 = .ok (.getfield 69, 3) := by decide +kernel
theorem dX8_readLimit_6 : decode cX8_readLimit 6 = .ok (.bipush 8, 2) := by decide +kernel
theorem dX8_readLimit_8 : decode cX8_readLimit 8 = .ok (.iaload, 1) := by decide +kernel
theorem dX8_readLimit_9 : decode cX8_readLimit 9 = .ok (.iadd, 1) := by decide +kernel
theorem dX8_readLimit_10 : decode cX8_readLimit 10 = .ok (.istore_n 1, 1) := by decide +kernel
theorem dX8_readLimit_11 : decode cX8_readLimit 11 = .ok (.aload_n 0, 1) := by decide +kernel
theorem dX8_readLimit_12 : decode cX8_readLimit 12 = .ok (.getfield 72, 3) := by decide +kernel
theorem dX8_readLimit_15 : decode cX8_readLimit 15 = .ok (.iload_n 1, 1) := by decide +kernel
theorem dX8_readLimit_16 : decode cX8_readLimit 16 = .ok (.aload_n 0, 1) := by decide +kernel
theorem dX8_readLimit_17 : decode cX8_readLimit 17 = .ok (.aload_n 0, 1) := by decide +kernel
theorem dX8_readLimit_18 : decode cX8_readLimit 18 = .ok (.getfield 75, 3) := by decide +kernel
theorem dX8_readLimit_21 : decode cX8_readLimit 21 = .ok (.bipush 60, 2) := by decide +kernel
theorem dX8_readLimit_23 : decode cX8_readLimit 23 = .ok (.iload_n 1, 1) := by decide +kernel
theorem dX8_readLimit_24 : decode cX8_readLimit 24 = .ok (.imul, 1) := by decide +kernel
theorem dX8_readLimit_25 : decode cX8_readLimit 25 = .ok (.iconst 1, 1) := by decide +kernel
theorem dX8_readLimit_26 : decode cX8_readLimit 26 = .ok (.bipush 60, 2) := by decide +kernel
theorem dX8_readLimit_28 : decode cX8_readLimit 28 = .ok (.invokevirtual 250, 3) := by decide +kernel
theorem dX8_readLimit_31 : decode cX8_readLimit 31 = .ok (.iastore, 1) := by decide +kernel
theorem dX8_readLimit_32 : decode cX8_readLimit 32 = .ok (.aload_n 0, 1) := by decide +kernel
theorem dX8_readLimit_33 : decode cX8_readLimit 33 = .ok (.invokevirtual 246, 3) := by decide +kernel
theorem dX8_readLimit_36 : decode cX8_readLimit 36 = .ok (.istore_n 2, 1) := by decide +kernel
theorem dX8_readLimit_37 : decode cX8_readLimit 37 = .ok (.aload_n 0, 1) := by decide +kernel
theorem dX8_readLimit_38 : decode cX8_readLimit 38 = .ok (.getfield 237, 3) := by decide +kernel
theorem dX8_readLimit_41 : decode cX8_readLimit 41 = .ok (.ifCond .ne 23, 3) := by decide +kernel
theorem dX8_readLimit_44 : decode cX8_readLimit 44 = .ok (.iload_n 2, 1) := by decide +kernel
theorem dX8_readLimit_45 : decode cX8_readLimit 45 = .ok (.ifCond .eq 19, 3) := by decide +kernel
theorem dX8_readLimit_48 : decode cX8_readLimit 48 = .ok (.iload_n 2, 1) := by decide +kernel
theorem dX8_readLimit_49 : decode cX8_readLimit 49 = .ok (.iconst 4, 1) := by decide +kernel
theorem dX8_readLimit_50 : decode cX8_readLimit 50 = .ok (.if_icmp .eq 14, 3) := by decide +kernel
theorem dX8_readLimit_53 : decode cX8_readLimit 53 = .ok (.aload_n 0, 1) := by decide +kernel
theorem dX8_readLimit_54 : decode cX8_readLimit 54 = .ok (.iconst 2, 1) := by decide +kernel
theorem dX8_readLimit_55 : decode cX8_readLimit 55 = .ok (.aload_n 0, 1) := by decide +kernel
theorem dX8_readLimit_56 : decode cX8_readLimit 56 = .ok (.getfield 240, 3) := by decide +kernel
theorem dX8_readLimit_59 : decode cX8_readLimit 59 = .ok (.iconst 1, 1) := by decide +kernel
theorem dX8_readLimit_60 : decode cX8_readLimit 60 = .ok (.isub, 1) := by decide +kernel
theorem dX8_readLimit_61 : decode cX8_readLimit 61 = .ok (.invokevirtual 243, 3) := by decide +kernel
theorem dX8_readLimit_64 : decode cX8_readLimit 64 = .ok (.aload_n 0, 1) := by decide +kernel
theorem dX8_readLimit_65 : decode cX8_readLimit 65 = .ok (.getfield 78, 3) := by decide +kernel
theorem dX8_readLimit_68 : decode cX8_readLimit 68 = .ok (.iload_n 1, 1) := by decide +kernel
theorem dX8_readLimit_69 : decode cX8_readLimit 69 = .ok (.iload_n 2, 1) := by decide +kernel
theorem dX8_readLimit_70 : decode cX8_readLimit 70 = .ok (.iconst 4, 1) := by decide +kernel
theorem dX8_readLimit_71 : decode cX8_readLimit 71 = .ok (.if_icmp .ne 7, 3) := by decide +kernel
theorem dX8_readLimit_74 : decode cX8_readLimit 74 = .ok (.iconst 1, 1) := by decide +kernel
theorem dX8_readLimit_75 : decode cX8_readLimit 75 = .ok (.goto 4, 3) := by decide +kernel
theorem dX8_readLimit_78 : decode cX8_readLimit 78 = .ok (.iconst 0, 1) := by decide +kernel
theorem dX8_readLimit_79 : decode cX8_readLimit 79 = .ok (.bastore, 1) := by decide +kernel
theorem dX8_readLimit_80 : decode cX8_readLimit 80 = .ok (.iload_n 2, 1) := by decide +kernel
theorem dX8_readLimit_81 : decode cX8_readLimit 81 = .ok (.iconst 4, 1) := by decide +kernel
theorem dX8_readLimit_82 : decode cX8_readLimit 82 = .ok (.if_icmp .ne 25, 3) := by decide +kernel
theorem dX8_readLimit_85 : decode cX8_readLimit 85 = .ok (.aload_n 0, 1) := by decide +kernel
theorem dX8_readLimit_86 : decode cX8_readLimit 86 = .ok (.aload_n 0, 1) := by decide +kernel
theorem dX8_readLimit_87 : decode cX8_readLimit 87 = .ok (.getfield 81, 3) := by decide +kernel
theorem dX8_readLimit_90 : decode cX8_readLimit 90 = .ok (.bipush 32, 2) := by decide +kernel
theorem dX8_readLimit_92 : decode cX8_readLimit 92 = .ok (.iload_n 1, 1) := by decide +kernel
theorem dX8_readLimit_93 : decode cX8_readLimit 93 = .ok (.imul, 1) := by decide +kernel
theorem dX8_readLimit_94 : decode cX8_readLimit 94 = .ok (.bipush 32, 2) := by decide +kernel
theorem dX8_readLimit_96 : decode cX8_readLimit 96 = .ok (.bipush 32, 2) := by decide +kernel
theorem dX8_readLimit_98 : decode cX8_readLimit 98 = .ok (.invokevirtual 250, 3) := by decide +kernel
theorem dX8_readLimit_101 : decode cX8_readLimit 101 = .ok (.istore_n 3, 1) := by decide +kernel
theorem dX8_readLimit_102 : decode cX8_readLimit 102 = .ok (.aload_n 0, 1) := by decide +kernel
theorem dX8_readLimit_103 : decode cX8_readLimit 103 = .ok (.iconst 0, 1) := by decide +kernel
theorem dX8_readLimit_104 : decode cX8_readLimit 104 = .ok (.invokevirtual 254, 3) := by decide +kernel
theorem dX8_readLimit_107 : decode cX8_readLimit 107 = .ok (.aload_n 0, 1) := by decide +kernel
theorem dX8_readLimit_108 : decode cX8_readLimit 108 = .ok (.getfield 69, 3) := by decide +kernel
theorem dX8_readLimit_111 : decode cX8_readLimit 111 = .ok (.bipush 8, 2) := by decide +kernel
theorem dX8_readLimit_113 : decode cX8_readLimit 113 = .ok (.dup2, 1) := by decide +kernel
theorem dX8_readLimit_114 : decode cX8_readLimit 114 = .ok (.iaload, 1) := by decide +kernel
theorem dX8_readLimit_115 : decode cX8_readLimit 115 = .ok (.iconst 1, 1) := by decide +kernel
theorem dX8_readLimit_116 : decode cX8_readLimit 116 = .ok (.iadd, 1) := by decide +kernel
theorem dX8_readLimit_117 : decode cX8_readLimit 117 = .ok (.iastore, 1) := by decide +kernel
theorem dX8_readLimit_118 : decode cX8_readLimit 118 = .ok (.return_, 1) := by decide +kernel
set_option maxRecDepth 20000 in
theorem ggX8_read_X8_is : GoodIn wsX8_read wsX8_is := goodIn_r _ [13, 14, 15, 12, 16] rfl (by decide +kernel)
set_option maxRecDepth 20000 in
theorem gX8_read_X8_is : GoodIn wsX8_read (va_wsS RX8 157 yX8_is wsX8_is) := goodIn_app (goodIn_of _ (by decide +kernel)) ggX8_read_X8_is
set_option maxRecDepth 20000 in
theorem ggX8_read_X8_want : GoodIn wsX8_read wsX8_want := goodIn_r _ [20, 3, 2, 21, 22, 23, 12, 24, 9, 25, 26, 27, 28, 29, 4, 47, 48, 49, 50, 51, 52, 53, 54, 55, 56, 57, 58, 59, 60, 61, 62, 63, 64, 65, 66, 67, 68, 69, 70, 71, 72, 73, 74, 75, 76, 77, 78, 79, 80, 81, 82, 83, 84, 85, 86, 87, 88] rfl (by decide +kernel)
set_option maxRecDepth 20000 in
theorem gX8_read_X8_want : GoodIn wsX8_read (wsV RX8 254 RX8 yX8_want wsX8_want) := goodIn_app (goodIn_of _ (by decide +kernel)) ggX8_read_X8_want
set_option maxRecDepth 20000 in
theorem ggX8_read_X8_readRow : GoodIn wsX8_read wsX8_readRow := goodIn_r _ [33, 3, 2, 21, 22, 23, 12, 24, 9, 25, 26, 27, 28, 29, 4, 14, 15, 16, 47, 48, 49, 50, 51, 52, 53, 54, 55, 56, 57, 58, 59, 60, 61, 62, 63, 64, 65, 66, 67, 68, 69, 70, 71, 72, 73, 74, 75, 76, 77, 78, 79, 80, 81, 82, 83, 84, 85, 86, 87, 88] rfl (by decide +kernel)
set_option maxRecDepth 20000 in
theorem gX8_read_X8_readRow : GoodIn wsX8_read (wsV RX8 250 RX8 yX8_readRow wsX8_readRow) := goodIn_app (goodIn_of _ (by decide +kernel)) ggX8_read_X8_readRow
set_option maxRecDepth 20000 in
theorem ggX8_read_X8_next : GoodIn wsX8_read wsX8_next := goodIn_r _ [24, 3, 2, 9, 25, 26, 27, 28, 12, 29, 4, 47, 48, 49, 50, 51, 52, 53, 54, 55, 56, 57, 58, 59, 60, 61, 62, 63, 64, 65, 66, 67, 68, 69, 70, 71, 72, 73, 74, 75, 76, 77, 78, 79, 80, 81, 82, 83, 84, 85, 86, 87, 88] rfl (by decide +kernel)
set_option maxRecDepth 20000 in
theorem gX8_read_X8_next : GoodIn wsX8_read (wsV RX8 246 RX8 yX8_next wsX8_next) := goodIn_app (goodIn_of _ (by decide +kernel)) ggX8_read_X8_next
set_option maxRecDepth 20000 in
theorem ggX8_read_X8_wrong : GoodIn wsX8_read wsX8_wrong := goodIn_r _ [29, 3, 4, 47, 48, 49, 50, 51, 52, 53, 54, 55, 56, 57, 58, 59, 60, 61, 62, 63, 64, 65, 66, 67, 68, 69, 70, 71, 72, 73, 74, 75, 76, 77, 78, 79, 80, 81, 82, 83, 84, 85, 86, 87, 88] rfl (by decide +kernel)
set_option maxRecDepth 20000 in
theorem gX8_read_X8_wrong : GoodIn wsX8_read (wsV RX8 243 RX8 yX8_wrong wsX8_wrong) := goodIn_app (goodIn_of _ (by decide +kernel)) ggX8_read_X8_wrong
set_option maxRecDepth 20000 in
theorem ggX8_read_X8_readLimit : GoodIn wsX8_read wsX8_readLimit := goodIn_r _ [37, 5, 38, 39, 3, 2, 40, 41, 30, 31, 32, 12, 33, 21, 22, 23, 24, 9, 25, 26, 27, 28, 29, 4, 14, 15, 16, 17, 18, 19, 20, 47, 48, 49, 50, 51, 52, 53, 54, 55, 56, 57, 58, 59, 60, 61, 62, 63, 64, 65, 66, 67, 68, 69, 70, 71, 72, 73, 74, 75, 76, 77, 78, 79, 80, 81, 82, 83, 84, 85, 86, 87, 88] rfl (by decide +kernel)
set_option maxRecDepth 20000 in
theorem gX8_read_X8_readLimit : GoodIn wsX8_read (wsV RX8 257 RX8 yX8_readLimit wsX8_readLimit) := goodIn_app (goodIn_of _ (by decide +kernel)) ggX8_read_X8_readLimit
set_option maxRecDepth 20000 in
theorem ggX8_read_X8_copyToken : GoodIn wsX8_read wsX8_copyToken := goodIn_r _ [45, 46, 6, 5, 7, 38, 40, 39, 41, 8, 47, 48, 49, 50, 51, 52, 53, 54, 55, 56, 57, 58, 59, 60, 61, 62, 63, 64, 65, 66, 67, 68, 69, 70, 71, 72, 73, 74, 75, 76, 77, 78, 79, 80, 81, 82, 83, 84, 85, 86, 87, 88] rfl (by decide +kernel)
set_option maxRecDepth 20000 in
theorem gX8_read_X8_copyToken : GoodIn wsX8_read (wsV RX8 183 RX8 yX8_copyToken wsX8_copyToken) := goodIn_app (goodIn_of _ (by decide +kernel)) ggX8_read_X8_copyToken
theorem dX8_read_0 : decode cX8_read 0 = .ok (.aload_n 0, 1) := by decide +kernel
theorem dX8_read_1 : decode cX8_read 1 = .ok (.iconst 0, 1) := by decide +kernel
theorem dX8_read_2 : decode cX8_read 2 = .ok (.putfield 112, 3) := by decide +kernel
theorem dX8_read_5 : decode cX8_read 5 = .ok (.iload_n 1, 1) := by decide +kernel
theorem dX8_read_6 : decode cX8_read 6 = .ok (.invokestatic 157, 3) := by decide +kernel
theorem dX8_read_9 : decode cX8_read 9 = .ok (.ifCond .ne 6, 3) := by decide +kernel
theorem dX8_read_12 : decode cX8_read 12 = .ok (.bipush (-2), 2) := by decide +kernel
theorem dX8_read_14 : decode cX8_read 14 = .ok (.ireturn, 1) := by decide +kernel
theorem dX8_read_15 : decode cX8_read 15 = .ok (.aload_n 0, 1) := by decide +kernel
theorem dX8_read_16 : decode cX8_read 16 = .ok (.iconst 0, 1) := by decide +kernel
theorem dX8_read_17 : decode cX8_read 17 = .ok (.putfield 240, 3) := by decide +kernel
theorem dX8_read_20 : decode cX8_read 20 = .ok (.aload_n 0, 1) := by decide +kernel
theorem dX8_read_21 : decode cX8_read 21 = .ok (.iconst 0, 1) := by decide +kernel
theorem dX8_read_22 : decode cX8_read 22 = .ok (.putfield 237, 3) := by decide +kernel
theorem dX8_read_25 : decode cX8_read 25 = .ok (.aload_n 0, 1) := by decide +kernel
theorem dX8_read_26 : decode cX8_read 26 = .ok (.iconst (-1), 1) := by decide +kernel
theorem dX8_read_27 : decode cX8_read 27 = .ok (.putfield 55, 3) := by decide +kernel
theorem dX8_read_30 : decode cX8_read 30 = .ok (.aload_n 0, 1) := by decide +kernel
theorem dX8_read_31 : decode cX8_read 31 = .ok (.getfield 69, 3) := by decide +kernel
theorem dX8_read_34 : decode cX8_read 34 = .ok (.bipush 8, 2) := by decide +kernel
theorem dX8_read_36 : decode cX8_read 36 = .ok (.iconst 0, 1) := by decide +kernel
theorem dX8_read_37 : decode cX8_read 37 = .ok (.iastore, 1) := by decide +kernel
theorem dX8_read_38 : decode cX8_read 38 = .ok (.aload_n 0, 1) := by decide +kernel
theorem dX8_read_39 : decode cX8_read 39 = .ok (.iconst 2, 1) := by decide +kernel
theorem dX8_read_40 : decode cX8_read 40 = .ok (.invokevirtual 254, 3) := by decide +kernel
theorem dX8_read_43 : decode cX8_read 43 = .ok (.aload_n 0, 1) := by decide +kernel
theorem dX8_read_44 : decode cX8_read 44 = .ok (.iconst 2, 1) := by decide +kernel
theorem dX8_read_45 : decode cX8_read 45 = .ok (.invokevirtual 254, 3) := by decide +kernel
theorem dX8_read_48 : decode cX8_read 48 = .ok (.aload_n 0, 1) := by decide +kernel
theorem dX8_read_49 : decode cX8_read 49 = .ok (.getfield 63, 3) := by decide +kernel
theorem dX8_read_52 : decode cX8_read 52 = .ok (.bipush 8, 2) := by decide +kernel
theorem dX8_read_54 : decode cX8_read 54 = .ok (.aload_n 0, 1) := by decide +kernel
theorem dX8_read_55 : decode cX8_read 55 = .ok (.aload_n 0, 1) := by decide +kernel
theorem dX8_read_56 : decode cX8_read 56 = .ok (.getfield 66, 3) := by decide +kernel
theorem dX8_read_59 : decode cX8_read 59 = .ok (.sipush 480, 3) := by decide +kernel
theorem dX8_read_62 : decode cX8_read 62 = .ok (.iconst 1, 1) := by decide +kernel
theorem dX8_read_63 : decode cX8_read 63 = .ok (.bipush 60, 2) := by decide +kernel
theorem dX8_read_65 : decode cX8_read 65 = .ok (.invokevirtual 250, 3) := by decide +kernel
theorem dX8_read_68 : decode cX8_read 68 = .ok (.iastore, 1) := by decide +kernel
theorem dX8_read_69 : decode cX8_read 69 = .ok (.aload_n 0, 1) := by decide +kernel
theorem dX8_read_70 : decode cX8_read 70 = .ok (.iconst 0, 1) := by decide +kernel
theorem dX8_read_71 : decode cX8_read 71 = .ok (.invokevirtual 254, 3) := by decide +kernel
theorem dX8_read_74 : decode cX8_read 74 = .ok (.iconst 1, 1) := by decide +kernel
theorem dX8_read_75 : decode cX8_read 75 = .ok (.istore_n 2, 1) := by decide +kernel
theorem dX8_read_76 : decode cX8_read 76 = .ok (.iload_n 2, 1) := by decide +kernel
theorem dX8_read_77 : decode cX8_read 77 = .ok (.ifCond .eq 97, 3) := by decide +kernel
theorem dX8_read_80 : decode cX8_read 80 = .ok (.aload_n 0, 1) := by decide +kernel
theorem dX8_read_81 : decode cX8_read 81 = .ok (.getfield 237, 3) := by decide +kernel
theorem dX8_read_84 : decode cX8_read 84 = .ok (.ifCond .ne 90, 3) := by decide +kernel
theorem dX8_read_87 : decode cX8_read 87 = .ok (.aload_n 0, 1) := by decide +kernel
theorem dX8_read_88 : decode cX8_read 88 = .ok (.invokevirtual 246, 3) := by decide +kernel
theorem dX8_read_91 : decode cX8_read 91 = .ok (.istore_n 3, 1) := by decide +kernel
theorem dX8_read_92 : decode cX8_read 92 = .ok (.iload_n 3, 1) := by decide +kernel
theorem dX8_read_93 : decode cX8_read 93 = .ok (.iconst 2, 1) := by decide +kernel
theorem dX8_read_94 : decode cX8_read 94 = .ok (.if_icmp .ne 7, 3) := by decide +kernel
theorem dX8_read_97 : decode cX8_read 97 = .ok (.iconst 1, 1) := by decide +kernel
theorem dX8_read_98 : decode cX8_read 98 = .ok (.goto 4, 3) := by decide +kernel
theorem dX8_read_101 : decode cX8_read 101 = .ok (.iconst 0, 1) := by decide +kernel
theorem dX8_read_102 : decode cX8_read 102 = .ok (.istore_n 2, 1) := by decide +kernel
theorem dX8_read_103 : decode cX8_read 103 = .ok (.aload_n 0, 1) := by decide +kernel
theorem dX8_read_104 : decode cX8_read 104 = .ok (.getfield 237, 3) := by decide +kernel
theorem dX8_read_107 : decode cX8_read 107 = .ok (.ifCond .ne 26, 3) := by decide +kernel
theorem dX8_read_110 : decode cX8_read 110 = .ok (.iload_n 3, 1) := by decide +kernel
theorem dX8_read_111 : decode cX8_read 111 = .ok (.iconst 2, 1) := by decide +kernel
theorem dX8_read_112 : decode cX8_read 112 = .ok (.if_icmp .eq 21, 3) := by decide +kernel
theorem dX8_read_115 : decode cX8_read 115 = .ok (.iload_n 3, 1) := by decide +kernel
theorem dX8_read_116 : decode cX8_read 116 = .ok (.ifCond .eq 17, 3) := by decide +kernel
theorem dX8_read_119 : decode cX8_read 119 = .ok (.aload_n 0, 1) := by decide +kernel
theorem dX8_read_120 : decode cX8_read 120 = .ok (.iconst 2, 1) := by decide +kernel
theorem dX8_read_121 : decode cX8_read 121 = .ok (.aload_n 0, 1) := by decide +kernel
theorem dX8_read_122 : decode cX8_read 122 = .ok (.getfield 240, 3) := by decide +kernel
theorem dX8_read_125 : decode cX8_read 125 = .ok (.iconst 1, 1) := by decide +kernel
theorem dX8_read_126 : decode cX8_read 126 = .ok (.isub, 1) := by decide +kernel
theorem dX8_read_127 : decode cX8_read 127 = .ok (.invokevirtual 243, 3) := by decide +kernel
theorem dX8_read_130 : decode cX8_read 130 = .ok (.goto 41, 3) := by decide +kernel
theorem dX8_read_133 : decode cX8_read 133 = .ok (.iload_n 2, 1) := by decide +kernel
theorem dX8_read_134 : decode cX8_read 134 = .ok (.ifCond .eq 29, 3) := by decide +kernel
theorem dX8_read_137 : decode cX8_read 137 = .ok (.aload_n 0, 1) := by decide +kernel
theorem dX8_read_138 : decode cX8_read 138 = .ok (.getfield 69, 3) := by decide +kernel
theorem dX8_read_141 : decode cX8_read 141 = .ok (.bipush 8, 2) := by decide +kernel
theorem dX8_read_143 : decode cX8_read 143 = .ok (.iaload, 1) := by decide +kernel
theorem dX8_read_144 : decode cX8_read 144 = .ok (.bipush 10, 2) := by decide +kernel
theorem dX8_read_146 : decode cX8_read 146 = .ok (.if_icmp .ne 17, 3) := by decide +kernel
theorem dX8_read_149 : decode cX8_read 149 = .ok (.aload_n 0, 1) := by decide +kernel
theorem dX8_read_150 : decode cX8_read 150 = .ok (.iconst 4, 1) := by decide +kernel
theorem dX8_read_151 : decode cX8_read 151 = .ok (.aload_n 0, 1) := by decide +kernel
theorem dX8_read_152 : decode cX8_read 152 = .ok (.getfield 240, 3) := by decide +kernel
theorem dX8_read_155 : decode cX8_read 155 = .ok (.iconst 1, 1) := by decide +kernel
theorem dX8_read_156 : decode cX8_read 156 = .ok (.isub, 1) := by decide +kernel
theorem dX8_read_157 : decode cX8_read 157 = .ok (.invokevirtual 243, 3) := by decide +kernel
theorem dX8_read_160 : decode cX8_read 160 = .ok (.goto 11, 3) := by decide +kernel
theorem dX8_read_163 : decode cX8_read 163 = .ok (.iload_n 2, 1) := by decide +kernel
theorem dX8_read_164 : decode cX8_read 164 = .ok (.ifCond .eq 7, 3) := by decide +kernel
theorem dX8_read_167 : decode cX8_read 167 = .ok (.aload_n 0, 1) := by decide +kernel
theorem dX8_read_168 : decode cX8_read 168 = .ok (.invokevirtual 257, 3) := by decide +kernel
theorem dX8_read_171 : decode cX8_read 171 = .ok (.goto (-95), 3) := by decide +kernel
theorem dX8_read_174 : decode cX8_read 174 = .ok (.aload_n 0, 1) := by decide +kernel
theorem dX8_read_175 : decode cX8_read 175 = .ok (.bipush 6, 2) := by decide +kernel
theorem dX8_read_177 : decode cX8_read 177 = .ok (.invokevirtual 254, 3) := by decide +kernel
theorem dX8_read_180 : decode cX8_read 180 = .ok (.aload_n 0, 1) := by decide +kernel
theorem dX8_read_181 : decode cX8_read 181 = .ok (.aload_n 0, 1) := by decide +kernel
theorem dX8_read_182 : decode cX8_read 182 = .ok (.getfield 84, 3) := by decide +kernel
theorem dX8_read_185 : decode cX8_read 185 = .ok (.sipush 256, 3) := by decide +kernel
theorem dX8_read_188 : decode cX8_read 188 = .ok (.bipush 32, 2) := by decide +kernel
theorem dX8_read_190 : decode cX8_read 190 = .ok (.bipush 32, 2) := by decide +kernel
theorem dX8_read_192 : decode cX8_read 192 = .ok (.invokevirtual 250, 3) := by decide +kernel
theorem dX8_read_195 : decode cX8_read 195 = .ok (.istore_n 3, 1) := by decide +kernel
theorem dX8_read_196 : decode cX8_read 196 = .ok (.aload_n 0, 1) := by decide +kernel
theorem dX8_read_197 : decode cX8_read 197 = .ok (.getfield 237, 3) := by decide +kernel
theorem dX8_read_200 : decode cX8_read 200 = .ok (.ifCond .ne 23, 3) := by decide +kernel
theorem dX8_read_203 : decode cX8_read 203 = .ok (.aload_n 0, 1) := by decide +kernel
theorem dX8_read_204 : decode cX8_read 204 = .ok (.getfield 240, 3) := by decide +kernel
theorem dX8_read_207 : decode cX8_read 207 = .ok (.aload_n 0, 1) := by decide +kernel
theorem dX8_read_208 : decode cX8_read 208 = .ok (.getfield 227, 3) := by decide +kernel
theorem dX8_read_211 : decode cX8_read 211 = .ok (.if_icmp .ge 12, 3) := by decide +kernel
theorem dX8_read_214 : decode cX8_read 214 = .ok (.aload_n 0, 1) := by decide +kernel
theorem dX8_read_215 : decode cX8_read 215 = .ok (.iconst 5, 1) := by decide +kernel
theorem dX8_read_216 : decode cX8_read 216 = .ok (.aload_n 0, 1) := by decide +kernel
theorem dX8_read_217 : decode cX8_read 217 = .ok (.getfield 240, 3) := by decide +kernel
theorem dX8_read_220 : decode cX8_read 220 = .ok (.invokevirtual 243, 3) := by decide +kernel
theorem dX8_read_223 : decode cX8_read 223 = .ok (.aload_n 0, 1) := by decide +kernel
theorem dX8_read_224 : decode cX8_read 224 = .ok (.getfield 237, 3) := by decide +kernel
theorem dX8_read_227 : decode cX8_read 227 = .ok (.ifCond .eq 11, 3) := by decide +kernel
theorem dX8_read_230 : decode cX8_read 230 = .ok (.bipush (-10), 2) := by decide +kernel
theorem dX8_read_232 : decode cX8_read 232 = .ok (.aload_n 0, 1) := by decide +kernel
theorem dX8_read_233 : decode cX8_read 233 = .ok (.getfield 237, 3) := by decide +kernel
theorem dX8_read_236 : decode cX8_read 236 = .ok (.isub, 1) := by decide +kernel
theorem dX8_read_237 : decode cX8_read 237 = .ok (.ireturn, 1) := by decide +kernel
theorem dX8_read_238 : decode cX8_read 238 = .ok (.aload_n 0, 1) := by decide +kernel
theorem dX8_read_239 : decode cX8_read 239 = .ok (.bipush 8, 2) := by decide +kernel
theorem dX8_read_241 : decode cX8_read 241 = .ok (.iload_n 1, 1) := by decide +kernel
theorem dX8_read_242 : decode cX8_read 242 = .ok (.invokevirtual 183, 3) := by decide +kernel
theorem dX8_read_245 : decode cX8_read 245 = .ok (.aload_n 0, 1) := by decide +kernel
theorem dX8_read_246 : decode cX8_read 246 = .ok (.getfield 69, 3) := by decide +kernel
theorem dX8_read_249 : decode cX8_read 249 = .ok (.iload_n 1, 1) := by decide +kernel
theorem dX8_read_250 : decode cX8_read 250 = .ok (.iaload, 1) := by decide +kernel
theorem dX8_read_251 : decode cX8_read 251 = .ok (.ireturn, 1) := by decide +kernel
theorem dX8_place__0 : decode cX8_place_ 0 = .ok (.aload_n 0, 1) := by decide +kernel
theorem dX8_place__1 : decode cX8_place_ 1 = .ok (.iconst 0, 1) := by decide +kernel
theorem dX8_place__2 : decode cX8_place_ 2 = .ok (.putfield 112, 3) := by decide +kernel
theorem dX8_place__5 : decode cX8_place_ 5 = .ok (.aload_n 0, 1) := by decide +kernel
theorem dX8_place__6 : decode cX8_place_ 6 = .ok (.getfield 55, 3) := by decide +kernel
theorem dX8_place__9 : decode cX8_place_ 9 = .ok (.ireturn, 1) := by decide +kernel
