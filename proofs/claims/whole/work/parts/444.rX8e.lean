-- needs:
theorem dX8_copyToken_104 : decode cX8_copyToken 104 = .ok (.imul, 1) := by decide +kernel
theorem dX8_copyToken_105 : decode cX8_copyToken 105 = .ok (.iload_n 3, 1) := by decide +kernel
theorem dX8_copyToken_106 : decode cX8_copyToken 106 = .ok (.iadd, 1) := by decide +kernel
theorem dX8_copyToken_107 : decode cX8_copyToken 107 = .ok (.aload_n 0, 1) := by decide +kernel
theorem dX8_copyToken_108 : decode cX8_copyToken 108 = .ok (.getfield 78, 3) := by decide +kernel
theorem dX8_copyToken_111 : decode cX8_copyToken 111 = .ok (.bipush 10, 2) := by decide +kernel
theorem dX8_copyToken_113 : decode cX8_copyToken 113 = .ok (.iload_n 1, 1) := by decide +kernel
theorem dX8_copyToken_114 : decode cX8_copyToken 114 = .ok (.imul, 1) := by decide +kernel
theorem dX8_copyToken_115 : decode cX8_copyToken 115 = .ok (.iload_n 3, 1) := by decide +kernel
theorem dX8_copyToken_116 : decode cX8_copyToken 116 = .ok (.iadd, 1) := by decide +kernel
theorem dX8_copyToken_117 : decode cX8_copyToken 117 = .ok (.baload, 1) := by decide +kernel
theorem dX8_copyToken_118 : decode cX8_copyToken 118 = .ok (.bastore, 1) := by decide +kernel
theorem dX8_copyToken_119 : decode cX8_copyToken 119 = .ok (.iinc 3 1, 3) := by decide +kernel
theorem dX8_copyToken_122 : decode cX8_copyToken 122 = .ok (.goto (-53), 3) := by decide +kernel
theorem dX8_copyToken_125 : decode cX8_copyToken 125 = .ok (.iconst 0, 1) := by decide +kernel
theorem dX8_copyToken_126 : decode cX8_copyToken 126 = .ok (.istore_n 3, 1) := by decide +kernel
theorem dX8_copyToken_127 : decode cX8_copyToken 127 = .ok (.iload_n 3, 1) := by decide +kernel
theorem dX8_copyToken_128 : decode cX8_copyToken 128 = .ok (.sipush 600, 3) := by decide +kernel
theorem dX8_copyToken_131 : decode cX8_copyToken 131 = .ok (.if_icmp .ge 33, 3) := by decide +kernel
theorem dX8_copyToken_134 : decode cX8_copyToken 134 = .ok (.aload_n 0, 1) := by decide +kernel
theorem dX8_copyToken_135 : decode cX8_copyToken 135 = .ok (.getfield 75, 3) := by decide +kernel
theorem dX8_copyToken_138 : decode cX8_copyToken 138 = .ok (.sipush 600, 3) := by decide +kernel
theorem dX8_copyToken_141 : decode cX8_copyToken 141 = .ok (.iload_n 2, 1) := by decide +kernel
theorem dX8_copyToken_142 : decode cX8_copyToken 142 = .ok (.imul, 1) := by decide +kernel
theorem dX8_copyToken_143 : decode cX8_copyToken 143 = .ok (.iload_n 3, 1) := by decide +kernel
theorem dX8_copyToken_144 : decode cX8_copyToken 144 = .ok (.iadd, 1) := by decide +kernel
theorem dX8_copyToken_145 : decode cX8_copyToken 145 = .ok (.aload_n 0, 1) := by decide +kernel
theorem dX8_copyToken_146 : decode cX8_copyToken 146 = .ok (.getfield 75, 3) := by decide +kernel
theorem dX8_copyToken_149 : decode cX8_copyToken 149 = .ok (.sipush 600, 3) := by decide +kernel
theorem dX8_copyToken_152 : decode cX8_copyToken 152 = .ok (.iload_n 1, 1) := by decide +kernel
theorem dX8_copyToken_153 : decode cX8_copyToken 153 = .ok (.imul, 1) := by decide +kernel
theorem dX8_copyToken_154 : decode cX8_copyToken 154 = .ok (.iload_n 3, 1) := by decide +kernel
theorem dX8_copyToken_155 : decode cX8_copyToken 155 = .ok (.iadd, 1) := by decide +kernel
theorem dX8_copyToken_156 : decode cX8_copyToken 156 = .ok (.iaload, 1) := by decide +kernel
theorem dX8_copyToken_157 : decode cX8_copyToken 157 = .ok (.iastore, 1) := by decide +kernel
theorem dX8_copyToken_158 : decode cX8_copyToken 158 = .ok (.iinc 3 1, 3) := by decide +kernel
theorem dX8_copyToken_161 : decode cX8_copyToken 161 = .ok (.goto (-34), 3) := by decide +kernel
theorem dX8_copyToken_164 : decode cX8_copyToken 164 = .ok (.iconst 0, 1) := by decide +kernel
theorem dX8_copyToken_165 : decode cX8_copyToken 165 = .ok (.istore_n 3, 1) := by decide +kernel
theorem dX8_copyToken_166 : decode cX8_copyToken 166 = .ok (.iload_n 3, 1) := by decide +kernel
theorem dX8_copyToken_167 : decode cX8_copyToken 167 = .ok (.sipush 320, 3) := by decide +kernel
theorem dX8_copyToken_170 : decode cX8_copyToken 170 = .ok (.if_icmp .ge 33, 3) := by decide +kernel
theorem dX8_copyToken_173 : decode cX8_copyToken 173 = .ok (.aload_n 0, 1) := by decide +kernel
theorem dX8_copyToken_174 : decode cX8_copyToken 174 = .ok (.getfield 81, 3) := by decide +kernel
theorem dX8_copyToken_177 : decode cX8_copyToken 177 = .ok (.sipush 320, 3) := by decide +kernel
theorem dX8_copyToken_180 : decode cX8_copyToken 180 = .ok (.iload_n 2, 1) := by decide +kernel
theorem dX8_copyToken_181 : decode cX8_copyToken 181 = .ok (.imul, 1) := by decide +kernel
theorem dX8_copyToken_182 : decode cX8_copyToken 182 = .ok (.iload_n 3, 1) := by decide +kernel
theorem dX8_copyToken_183 : decode cX8_copyToken 183 = .ok (.iadd, 1) := by decide +kernel
theorem dX8_copyToken_184 : decode cX8_copyToken 184 = .ok (.aload_n 0, 1) := by decide +kernel
theorem dX8_copyToken_185 : decode cX8_copyToken 185 = .ok (.getfield 81, 3) := by decide +kernel
theorem dX8_copyToken_188 : decode cX8_copyToken 188 = .ok (.sipush 320, 3) := by decide +kernel
theorem dX8_copyToken_191 : decode cX8_copyToken 191 = .ok (.iload_n 1, 1) := by decide +kernel
theorem dX8_copyToken_192 : decode cX8_copyToken 192 = .ok (.imul, 1) := by decide +kernel
theorem dX8_copyToken_193 : decode cX8_copyToken 193 = .ok (.iload_n 3, 1) := by decide +kernel
theorem dX8_copyToken_194 : decode cX8_copyToken 194 = .ok (.iadd, 1) := by decide +kernel
theorem dX8_copyToken_195 : decode cX8_copyToken 195 = .ok (.iaload, 1) := by decide +kernel
theorem dX8_copyToken_196 : decode cX8_copyToken 196 = .ok (.iastore, 1) := by decide +kernel
theorem dX8_copyToken_197 : decode cX8_copyToken 197 = .ok (.iinc 3 1, 3) := by decide +kernel
theorem dX8_copyToken_200 : decode cX8_copyToken 200 = .ok (.goto (-34), 3) := by decide +kernel
theorem dX8_copyToken_203 : decode cX8_copyToken 203 = .ok (.iconst 0, 1) := by decide +kernel
theorem dX8_copyToken_204 : decode cX8_copyToken 204 = .ok (.istore_n 3, 1) := by decide +kernel
theorem dX8_copyToken_205 : decode cX8_copyToken 205 = .ok (.iload_n 3, 1) := by decide +kernel
theorem dX8_copyToken_206 : decode cX8_copyToken 206 = .ok (.bipush 32, 2) := by decide +kernel
theorem dX8_copyToken_208 : decode cX8_copyToken 208 = .ok (.if_icmp .ge 31, 3) := by decide +kernel
theorem dX8_copyToken_211 : decode cX8_copyToken 211 = .ok (.aload_n 0, 1) := by decide +kernel
theorem dX8_copyToken_212 : decode cX8_copyToken 212 = .ok (.getfield 84, 3) := by decide +kernel
theorem dX8_copyToken_215 : decode cX8_copyToken 215 = .ok (.bipush 32, 2) := by decide +kernel
theorem dX8_copyToken_217 : decode cX8_copyToken 217 = .ok (.iload_n 2, 1) := by decide +kernel
theorem dX8_copyToken_218 : decode cX8_copyToken 218 = .ok (.imul, 1) := by decide +kernel
theorem dX8_copyToken_219 : decode cX8_copyToken 219 = .ok (.iload_n 3, 1) := by decide +kernel
theorem dX8_copyToken_220 : decode cX8_copyToken 220 = .ok (.iadd, 1) := by decide +kernel
theorem dX8_copyToken_221 : decode cX8_copyToken 221 = .ok (.aload_n 0, 1) := by decide +kernel
theorem dX8_copyToken_222 : decode cX8_copyToken 222 = .ok (.getfield 84, 3) := by decide +kernel
theorem dX8_copyToken_225 : decode cX8_copyToken 225 = .ok (.bipush 32, 2) := by decide +kernel
theorem dX8_copyToken_227 : decode cX8_copyToken 227 = .ok (.iload_n 1, 1) := by decide +kernel
theorem dX8_copyToken_228 : decode cX8_copyToken 228 = .ok (.imul, 1) := by decide +kernel
theorem dX8_copyToken_229 : decode cX8_copyToken 229 = .ok (.iload_n 3, 1) := by decide +kernel
theorem dX8_copyToken_230 : decode cX8_copyToken 230 = .ok (.iadd, 1) := by decide +kernel
theorem dX8_copyToken_231 : decode cX8_copyToken 231 = .ok (.iaload, 1) := by decide +kernel
theorem dX8_copyToken_232 : decode cX8_copyToken 232 = .ok (.iastore, 1) := by decide +kernel
theorem dX8_copyToken_233 : decode cX8_copyToken 233 = .ok (.iinc 3 1, 3) := by decide +kernel
theorem dX8_copyToken_236 : decode cX8_copyToken 236 = .ok (.goto (-31), 3) := by decide +kernel
theorem dX8_copyToken_239 : decode cX8_copyToken 239 = .ok (.return_, 1) := by decide +kernel
set_option maxRecDepth 20000 in
theorem ggX8_copy_X8_isToken : GoodIn wsX8_copy wsX8_isToken := goodIn_r _ [7, 8, 9, 10, 6, 11, 12, 13, 14, 26, 27, 28, 29, 30, 31, 32, 33, 34, 35, 36, 37, 38, 39, 40, 41, 42, 43, 44, 45, 46, 47, 48, 49, 50, 51, 52, 53, 54, 55, 56, 57, 58, 59, 60, 61, 62, 63, 64, 65, 66, 67] rfl (by decide +kernel)
set_option maxRecDepth 20000 in
theorem gX8_copy_X8_isToken : GoodIn wsX8_copy (wsV RX8 175 RX8 yX8_isToken wsX8_isToken) := goodIn_app (goodIn_of _ (by decide +kernel)) ggX8_copy_X8_isToken
set_option maxRecDepth 20000 in
theorem ggX8_copy_X8_is : GoodIn wsX8_copy wsX8_is := goodIn_r _ [11, 12, 13, 6, 14] rfl (by decide +kernel)
set_option maxRecDepth 20000 in
theorem gX8_copy_X8_is : GoodIn wsX8_copy (va_wsS RX8 157 yX8_is wsX8_is) := goodIn_app (goodIn_of _ (by decide +kernel)) ggX8_copy_X8_is
set_option maxRecDepth 20000 in
theorem ggX8_copy_X8_copyToken : GoodIn wsX8_copy wsX8_copyToken := goodIn_r _ [18, 8, 19, 2, 20, 21, 22, 23, 24, 25, 26, 27, 28, 29, 30, 31, 32, 33, 34, 35, 36, 37, 38, 39, 40, 41, 42, 43, 44, 45, 46, 47, 48, 49, 50, 51, 52, 53, 54, 55, 56, 57, 58, 59, 60, 61, 62, 63, 64, 65, 66, 67] rfl (by decide +kernel)
set_option maxRecDepth 20000 in
theorem gX8_copy_X8_copyToken : GoodIn wsX8_copy (wsV RX8 183 RX8 yX8_copyToken wsX8_copyToken) := goodIn_app (goodIn_of _ (by decide +kernel)) ggX8_copy_X8_copyToken
theorem dX8_copy_0 : decode cX8_copy 0 = .ok (.aload_n 0, 1) := by decide +kernel
theorem dX8_copy_1 : decode cX8_copy 1 = .ok (.iconst 0, 1) := by decide +kernel
theorem dX8_copy_2 : decode cX8_copy 2 = .ok (.putfield 112, 3) := by decide +kernel
theorem dX8_copy_5 : decode cX8_copy 5 = .ok (.aload_n 0, 1) := by decide +kernel
theorem dX8_copy_6 : decode cX8_copy 6 = .ok (.iload_n 1, 1) := by decide +kernel
theorem dX8_copy_7 : decode cX8_copy 7 = .ok (.invokevirtual 175, 3) := by decide +kernel
theorem dX8_copy_10 : decode cX8_copy 10 = .ok (.ifCond .eq 10, 3) := by decide +kernel
theorem dX8_copy_13 : decode cX8_copy 13 = .ok (.iload_n 2, 1) := by decide +kernel
theorem dX8_copy_14 : decode cX8_copy 14 = .ok (.invokestatic 157, 3) := by decide +kernel
theorem dX8_copy_17 : decode cX8_copy 17 = .ok (.ifCond .ne 6, 3) := by decide +kernel
theorem dX8_copy_20 : decode cX8_copy 20 = .ok (.bipush (-2), 2) := by decide +kernel
theorem dX8_copy_22 : decode cX8_copy 22 = .ok (.ireturn, 1) := by decide +kernel
theorem dX8_copy_23 : decode cX8_copy 23 = .ok (.aload_n 0, 1) := by decide +kernel
theorem dX8_copy_24 : decode cX8_copy 24 = .ok (.iload_n 1, 1) := by decide +kernel
theorem dX8_copy_25 : decode cX8_copy 25 = .ok (.iload_n 2, 1) := by decide +kernel
theorem dX8_copy_26 : decode cX8_copy 26 = .ok (.invokevirtual 183, 3) := by decide +kernel
theorem dX8_copy_29 : decode cX8_copy 29 = .ok (.aload_n 0, 1) := by decide +kernel
theorem dX8_copy_30 : decode cX8_copy 30 = .ok (.getfield 69, 3) := by decide +kernel
theorem dX8_copy_33 : decode cX8_copy 33 = .ok (.iload_n 2, 1) := by decide +kernel
theorem dX8_copy_34 : decode cX8_copy 34 = .ok (.iaload, 1) := by decide +kernel
theorem dX8_copy_35 : decode cX8_copy 35 = .ok (.ireturn, 1) := by decide +kernel
set_option maxRecDepth 20000 in
theorem ggX8_drop_X8_is : GoodIn wsX8_drop wsX8_is := goodIn_r _ [6, 7, 8, 5, 9] rfl (by decide +kernel)
set_option maxRecDepth 20000 in
theorem gX8_drop_X8_is : GoodIn wsX8_drop (va_wsS RX8 157 yX8_is wsX8_is) := goodIn_app (goodIn_of _ (by decide +kernel)) ggX8_drop_X8_is
theorem dX8_drop_0 : decode cX8_drop 0 = .ok (.aload_n 0, 1) := by decide +kernel
theorem dX8_drop_1 : decode cX8_drop 1 = .ok (.iconst 0, 1) := by decide +kernel
theorem dX8_drop_2 : decode cX8_drop 2 = .ok (.putfield 112, 3) := by decide +kernel
theorem dX8_drop_5 : decode cX8_drop 5 = .ok (.iload_n 1, 1) := by decide +kernel
theorem dX8_drop_6 : decode cX8_drop 6 = .ok (.invokestatic 157, 3) := by decide +kernel
theorem dX8_drop_9 : decode cX8_drop 9 = .ok (.ifCond .ne 6, 3) := by decide +kernel
theorem dX8_drop_12 : decode cX8_drop 12 = .ok (.bipush (-2), 2) := by decide +kernel
theorem dX8_drop_14 : decode cX8_drop 14 = .ok (.ireturn, 1) := by decide +kernel
theorem dX8_drop_15 : decode cX8_drop 15 = .ok (.aload_n 0, 1) := by decide +kernel
theorem dX8_drop_16 : decode cX8_drop 16 = .ok (.getfield 59, 3) := by decide +kernel
theorem dX8_drop_19 : decode cX8_drop 19 = .ok (.iload_n 1, 1) := by decide +kernel
theorem dX8_drop_20 : decode cX8_drop 20 = .ok (.baload, 1) := by decide +kernel
theorem dX8_drop_21 : decode cX8_drop 21 = .ok (.ifCond .eq 7, 3) := by decide +kernel
theorem dX8_drop_24 : decode cX8_drop 24 = .ok (.iconst 1, 1) := by decide +kernel
theorem dX8_drop_25 : decode cX8_drop 25 = .ok (.goto 4, 3) := by decide +kernel
theorem dX8_drop_28 : decode cX8_drop 28 = .ok (.iconst 0, 1) := by decide +kernel
theorem dX8_drop_29 : decode cX8_drop 29 = .ok (.istore_n 2, 1) := by decide +kernel
theorem dX8_drop_30 : decode cX8_drop 30 = .ok (.aload_n 0, 1) := by decide +kernel
theorem dX8_drop_31 : decode cX8_drop 31 = .ok (.getfield 59, 3) := by decide +kernel
theorem dX8_drop_34 : decode cX8_drop 34 = .ok (.iload_n 1, 1) := by decide +kernel
theorem dX8_drop_35 : decode cX8_drop 35 = .ok (.iconst 0, 1) := by decide +kernel
theorem dX8_drop_36 : decode cX8_drop 36 = .ok (.bastore, 1) := by decide +kernel
theorem dX8_drop_37 : decode cX8_drop 37 = .ok (.iload_n 2, 1) := by decide +kernel
theorem dX8_drop_38 : decode cX8_drop 38 = .ok (.ireturn, 1) := by decide +kernel
set_option maxRecDepth 20000 in
theorem ggX8_told_X8_isToken : GoodIn wsX8_told wsX8_isToken := goodIn_r _ [10, 11, 12, 13, 9, 14, 15, 16, 17, 18, 19, 20, 21, 22, 23, 24, 25, 26, 27, 28, 29, 30, 31, 32, 33, 34, 35, 36, 37, 38, 39, 40, 41, 42, 43, 44, 45, 46, 47, 48, 49, 50, 51, 52, 53, 54, 55, 56, 57, 58, 59] rfl (by decide +kernel)
set_option maxRecDepth 20000 in
theorem gX8_told_X8_isToken : GoodIn wsX8_told (wsV RX8 175 RX8 yX8_isToken wsX8_isToken) := goodIn_app (goodIn_of _ (by decide +kernel)) ggX8_told_X8_isToken
set_option maxRecDepth 20000 in
theorem ggX8_told_X8_within : GoodIn wsX8_told wsX8_within := goodIn_r _ [17] rfl (by decide +kernel)
set_option maxRecDepth 20000 in
theorem gX8_told_X8_within : GoodIn wsX8_told (va_wsS RX8 153 yX8_within wsX8_within) := goodIn_app (goodIn_of _ (by decide +kernel)) ggX8_told_X8_within
theorem dX8_told_0 : decode cX8_told 0 = .ok (.aload_n 0, 1) := by decide +kernel
theorem dX8_told_1 : decode cX8_told 1 = .ok (.iconst 0, 1) := by decide +kernel
theorem dX8_told_2 : decode cX8_told 2 = .ok (.putfield 112, 3) := by decide +kernel
theorem dX8_told_5 : decode cX8_told 5 = .ok (.aload_n 0, 1) := by decide +kernel
theorem dX8_told_6 : decode cX8_told 6 = .ok (.iload_n 1, 1) := by decide +kernel
theorem dX8_told_7 : decode cX8_told 7 = .ok (.invokevirtual 175, 3) := by decide +kernel
theorem dX8_told_10 : decode cX8_told 10 = .ok (.ifCond .eq 13, 3) := by decide +kernel
theorem dX8_told_13 : decode cX8_told 13 = .ok (.iload_n 2, 1) := by decide +kernel
theorem dX8_told_14 : decode cX8_told 14 = .ok (.iconst 0, 1) := by decide +kernel
theorem dX8_told_15 : decode cX8_told 15 = .ok (.bipush 11, 2) := by decide +kernel
theorem dX8_told_17 : decode cX8_told 17 = .ok (.invokestatic 153, 3) := by decide +kernel
theorem dX8_told_20 : decode cX8_told 20 = .ok (.ifCond .ne 6, 3) := by decide +kernel
theorem dX8_told_23 : decode cX8_told 23 = .ok (.bipush (-2), 2) := by decide +kernel
theorem dX8_told_25 : decode cX8_told 25 = .ok (.ireturn, 1) := by decide +kernel
theorem dX8_told_26 : decode cX8_told 26 = .ok (.iload_n 2, 1) := by decide +kernel
theorem dX8_told_27 : decode cX8_told 27 = .ok (.iconst 2, 1) := by decide +kernel
theorem dX8_told_28 : decode cX8_told 28 = .ok (.if_icmp .ge 23, 3) := by decide +kernel
theorem dX8_told_31 : decode cX8_told 31 = .ok (.iload_n 2, 1) := by decide +kernel
theorem dX8_told_32 : decode cX8_told 32 = .ok (.ifCond .ne 12, 3) := by decide +kernel
theorem dX8_told_35 : decode cX8_told 35 = .ok (.aload_n 0, 1) := by decide +kernel
theorem dX8_told_36 : decode cX8_told 36 = .ok (.getfield 63, 3) := by decide +kernel
theorem dX8_told_39 : decode cX8_told 39 = .ok (.iload_n 1, 1) := by decide +kernel
theorem dX8_told_40 : decode cX8_told 40 = .ok (.iaload, 1) := by decide +kernel
theorem dX8_told_41 : decode cX8_told 41 = .ok (.goto 9, 3) := by decide +kernel
theorem dX8_told_44 : decode cX8_told 44 = .ok (.aload_n 0, 1) := by decide +kernel
theorem dX8_told_45 : decode cX8_told 45 = .ok (.getfield 69, 3) := by decide +kernel
theorem dX8_told_48 : decode cX8_told 48 = .ok (.iload_n 1, 1) := by decide +kernel
theorem dX8_told_49 : decode cX8_told 49 = .ok (.iaload, 1) := by decide +kernel
theorem dX8_told_50 : decode cX8_told 50 = .ok (.ireturn, 1) := by decide +kernel
theorem dX8_told_51 : decode cX8_told 51 = .ok (.bipush 10, 2) := by decide +kernel
theorem dX8_told_53 : decode cX8_told 53 = .ok (.iload_n 1, 1) := by decide +kernel
theorem dX8_told_54 : decode cX8_told 54 = .ok (.imul, 1) := by decide +kernel
theorem dX8_told_55 : decode cX8_told 55 = .ok (.iload_n 2, 1) := by decide +kernel
theorem dX8_told_56 : decode cX8_told 56 = .ok (.iadd, 1) := by decide +kernel
theorem dX8_told_57 : decode cX8_told 57 = .ok (.iconst 2, 1) := by decide +kernel
theorem dX8_told_58 : decode cX8_told 58 = .ok (.isub, 1) := by decide +kernel
theorem dX8_told_59 : decode cX8_told 59 = .ok (.istore_n 3, 1) := by decide +kernel
theorem dX8_told_60 : decode cX8_told 60 = .ok (.iload_n 2, 1) := by decide +kernel
theorem dX8_told_61 : decode cX8_told 61 = .ok (.iconst 2, 1) := by decide +kernel
theorem dX8_told_62 : decode cX8_told 62 = .ok (.isub, 1) := by decide +kernel
theorem dX8_told_63 : decode cX8_told 63 = .ok (.aload_n 0, 1) := by decide +kernel
theorem dX8_told_64 : decode cX8_told 64 = .ok (.getfield 69, 3) := by decide +kernel
theorem dX8_told_67 : decode cX8_told 67 = .ok (.iload_n 1, 1) := by decide +kernel
theorem dX8_told_68 : decode cX8_told 68 = .ok (.iaload, 1) := by decide +kernel
theorem dX8_told_69 : decode cX8_told 69 = .ok (.if_icmp .ge 28, 3) := by decide +kernel
theorem dX8_told_72 : decode cX8_told 72 = .ok (.aload_n 0, 1) := by decide +kernel
theorem dX8_told_73 : decode cX8_told 73 = .ok (.getfield 72, 3) := by decide +kernel
theorem dX8_told_76 : decode cX8_told 76 = .ok (.iload_n 3, 1) := by decide +kernel
theorem dX8_told_77 : decode cX8_told 77 = .ok (.iaload, 1) := by decide +kernel
theorem dX8_told_78 : decode cX8_told 78 = .ok (.aload_n 0, 1) := by decide +kernel
theorem dX8_told_79 : decode cX8_told 79 = .ok (.getfield 78, 3) := by decide +kernel
theorem dX8_told_82 : decode cX8_told 82 = .ok (.iload_n 3, 1) := by decide +kernel
theorem dX8_told_83 : decode cX8_told 83 = .ok (.baload, 1) := by decide +kernel
theorem dX8_told_84 : decode cX8_told 84 = .ok (.ifCond .eq 8, 3) := by decide +kernel
theorem dX8_told_87 : decode cX8_told 87 = .ok (.bipush 100, 2) := by decide +kernel
theorem dX8_told_89 : decode cX8_told 89 = .ok (.goto 4, 3) := by decide +kernel
theorem dX8_told_92 : decode cX8_told 92 = .ok (.iconst 0, 1) := by decide +kernel
theorem dX8_told_93 : decode cX8_told 93 = .ok (.iadd, 1) := by decide +kernel
theorem dX8_told_94 : decode cX8_told 94 = .ok (.goto 4, 3) := by decide +kernel
theorem dX8_told_97 : decode cX8_told 97 = .ok (.iconst 0, 1) := by decide +kernel
theorem dX8_told_98 : decode cX8_told 98 = .ok (.ireturn, 1) := by decide +kernel
set_option maxRecDepth 20000 in
theorem ggX8_sign_X8_isToken : GoodIn wsX8_sign wsX8_isToken := goodIn_r _ [7, 8, 9, 10, 6, 11, 12, 13, 14, 15, 16, 17, 18, 19, 20, 21, 22, 23, 24, 25, 26, 27, 28, 29, 30, 31, 32, 33, 34, 35, 36, 37, 38, 39, 40, 41, 42, 43, 44, 45, 46, 47, 48, 49, 50, 51, 52, 53, 54, 55, 56] rfl (by decide +kernel)
set_option maxRecDepth 20000 in
theorem gX8_sign_X8_isToken : GoodIn wsX8_sign (wsV RX8 175 RX8 yX8_isToken wsX8_isToken) := goodIn_app (goodIn_of _ (by decide +kernel)) ggX8_sign_X8_isToken
set_option maxRecDepth 20000 in
theorem ggX8_sign_X8_within : GoodIn wsX8_sign wsX8_within := goodIn_r _ [14] rfl (by decide +kernel)
set_option maxRecDepth 20000 in
theorem gX8_sign_X8_within : GoodIn wsX8_sign (va_wsS RX8 153 yX8_within wsX8_within) := goodIn_app (goodIn_of _ (by decide +kernel)) ggX8_sign_X8_within
theorem dX8_sign_0 : decode cX8_sign 0 = .ok (.aload_n 0, 1) := by decide +kernel
theorem dX8_sign_1 : decode cX8_sign 1 = .ok (.iconst 0, 1) := by decide +kernel
theorem dX8_sign_2 : decode cX8_sign 2 = .ok (.putfield 112, 3) := by decide +kernel
theorem dX8_sign_5 : decode cX8_sign 5 = .ok (.aload_n 0, 1) := by decide +kernel
theorem dX8_sign_6 : decode cX8_sign 6 = .ok (.iload_n 1, 1) := by decide +kernel
theorem dX8_sign_7 : decode cX8_sign 7 = .ok (.invokevirtual 175, 3) := by decide +kernel
theorem dX8_sign_10 : decode cX8_sign 10 = .ok (.ifCond .eq 27, 3) := by decide +kernel
theorem dX8_sign_13 : decode cX8_sign 13 = .ok (.iload_n 2, 1) := by decide +kernel
theorem dX8_sign_14 : decode cX8_sign 14 = .ok (.iconst 0, 1) := by decide +kernel
theorem dX8_sign_15 : decode cX8_sign 15 = .ok (.bipush 31, 2) := by decide +kernel
theorem dX8_sign_17 : decode cX8_sign 17 = .ok (.invokestatic 153, 3) := by decide +kernel
theorem dX8_sign_20 : decode cX8_sign 20 = .ok (.ifCond .eq 17, 3) := by decide +kernel
theorem dX8_sign_23 : decode cX8_sign 23 = .ok (.aload_n 0, 1) := by decide +kernel
theorem dX8_sign_24 : decode cX8_sign 24 = .ok (.getfield 84, 3) := by decide +kernel
theorem dX8_sign_27 : decode cX8_sign 27 = .ok (.bipush 32, 2) := by decide +kernel
theorem dX8_sign_29 : decode cX8_sign 29 = .ok (.iload_n 1, 1) := by decide +kernel
theorem dX8_sign_30 : decode cX8_sign 30 = .ok (.imul, 1) := by decide +kernel
theorem dX8_sign_31 : decode cX8_sign 31 = .ok (.iload_n 2, 1) := by decide +kernel
theorem dX8_sign_32 : decode cX8_sign 32 = .ok (.iadd, 1) := by decide +kernel
theorem dX8_sign_33 : decode cX8_sign 33 = .ok (.iaload, 1) := by decide +kernel
theorem dX8_sign_34 : decode cX8_sign 34 = .ok (.goto 5, 3) := by decide +kernel
theorem dX8_sign_37 : decode cX8_sign 37 = .ok (.bipush (-2), 2) := by decide +kernel
theorem dX8_sign_39 : decode cX8_sign 39 = .ok (.ireturn, 1) := by decide +kernel
set_option maxRecDepth 20000 in
theorem ggX8_spoil_X8_isToken : GoodIn wsX8_spoil wsX8_isToken := goodIn_r _ [10, 11, 12, 13, 9, 14, 15, 16, 17, 18, 19, 20, 21, 22, 23, 24, 25, 26, 27, 28, 29, 30, 31, 32, 33, 34, 35, 36, 37, 38, 39, 40, 41, 42, 43, 44, 45, 46, 47, 48, 49, 50, 51, 52, 53, 54, 55, 56, 57, 58, 59] rfl (by decide +kernel)
set_option maxRecDepth 20000 in
theorem gX8_spoil_X8_isToken : GoodIn wsX8_spoil (wsV RX8 175 RX8 yX8_isToken wsX8_isToken) := goodIn_app (goodIn_of _ (by decide +kernel)) ggX8_spoil_X8_isToken
set_option maxRecDepth 20000 in
theorem ggX8_spoil_X8_within : GoodIn wsX8_spoil wsX8_within := goodIn_r _ [17] rfl (by decide +kernel)
set_option maxRecDepth 20000 in
theorem gX8_spoil_X8_within : GoodIn wsX8_spoil (va_wsS RX8 153 yX8_within wsX8_within) := goodIn_app (goodIn_of _ (by decide +kernel)) ggX8_spoil_X8_within
theorem dX8_spoil_0 : decode cX8_spoil 0 = .ok (.aload_n 0, 1) := by decide +kernel
theorem dX8_spoil_1 : decode cX8_spoil 1 = .ok (.iconst 0, 1) := by decide +kernel
theorem dX8_spoil_2 : decode cX8_spoil 2 = .ok (.putfield 112, 3) := by decide +kernel
theorem dX8_spoil_5 : decode cX8_spoil 5 = .ok (.aload_n 0, 1) := by decide +kernel
theorem dX8_spoil_6 : decode cX8_spoil 6 = .ok (.iload_n 1, 1) := by decide +kernel
theorem dX8_spoil_7 : decode cX8_spoil 7 = .ok (.invokevirtual 175, 3) := by decide +kernel
theorem dX8_spoil_10 : decode cX8_spoil 10 = .ok (.ifCond .eq 29, 3) := by decide +kernel
theorem dX8_spoil_13 : decode cX8_spoil 13 = .ok (.iload_n 2, 1) := by decide +kernel
theorem dX8_spoil_14 : decode cX8_spoil 14 = .ok (.iconst 0, 1) := by decide +kernel
theorem dX8_spoil_15 : decode cX8_spoil 15 = .ok (.aload_n 0, 1) := by decide +kernel
theorem dX8_spoil_16 : decode cX8_spoil 16 = .ok (.getfield 69, 3) := by decide +kernel
theorem dX8_spoil_19 : decode cX8_spoil 19 = .ok (.iload_n 1, 1) := by decide +kernel
theorem dX8_spoil_20 : decode cX8_spoil 20 = .ok (.iaload, 1) := by decide +kernel
theorem dX8_spoil_21 : decode cX8_spoil 21 = .ok (.invokestatic 153, 3) := by decide +kernel
theorem dX8_spoil_24 : decode cX8_spoil 24 = .ok (.ifCond .eq 15, 3) := by decide +kernel
theorem dX8_spoil_27 : decode cX8_spoil 27 = .ok (.iload 4, 2) := by decide +kernel
theorem dX8_spoil_29 : decode cX8_spoil 29 = .ok (.iconst 0, 1) := by decide +kernel
theorem dX8_spoil_30 : decode cX8_spoil 30 = .ok (.sipush 255, 3) := by decide +kernel
theorem dX8_spoil_33 : decode cX8_spoil 33 = .ok (.invokestatic 153, 3) := by decide +kernel
theorem dX8_spoil_36 : decode cX8_spoil 36 = .ok (.ifCond .ne 6, 3) := by decide +kernel
theorem dX8_spoil_39 : decode cX8_spoil 39 = .ok (.bipush (-2), 2) := by decide +kernel
theorem dX8_spoil_41 : decode cX8_spoil 41 = .ok (.ireturn, 1) := by decide +kernel
theorem dX8_spoil_42 : decode cX8_spoil 42 = .ok (.bipush 10, 2) := by decide +kernel
theorem dX8_spoil_44 : decode cX8_spoil 44 = .ok (.iload_n 1, 1) := by decide +kernel
theorem dX8_spoil_45 : decode cX8_spoil 45 = .ok (.imul, 1) := by decide +kernel
theorem dX8_spoil_46 : decode cX8_spoil 46 = .ok (.iload_n 2, 1) := by decide +kernel
theorem dX8_spoil_47 : decode cX8_spoil 47 = .ok (.iadd, 1) := by decide +kernel
theorem dX8_spoil_48 : decode cX8_spoil 48 = .ok (.iconst 1, 1) := by decide +kernel
theorem dX8_spoil_49 : decode cX8_spoil 49 = .ok (.isub, 1) := by decide +kernel
theorem dX8_spoil_50 : decode cX8_spoil 50 = .ok (.istore 5, 2) := by decide +kernel
theorem dX8_spoil_52 : decode cX8_spoil 52 = .ok (.iload_n 3, 1) := by decide +kernel
theorem dX8_spoil_53 : decode cX8_spoil 53 = .ok (.iconst 0, 1) := by decide +kernel
theorem dX8_spoil_54 : decode cX8_spoil 54 = .ok (.iload_n 2, 1) := by decide +kernel
theorem dX8_spoil_55 : decode cX8_spoil 55 = .ok (.ifCond .ne 8, 3) := by decide +kernel
theorem dX8_spoil_58 : decode cX8_spoil 58 = .ok (.bipush 32, 2) := by decide +kernel
theorem dX8_spoil_60 : decode cX8_spoil 60 = .ok (.goto 10, 3) := by decide +kernel
theorem dX8_spoil_63 : decode cX8_spoil 63 = .ok (.aload_n 0, 1) := by decide +kernel
theorem dX8_spoil_64 : decode cX8_spoil 64 = .ok (.getfield 72, 3) := by decide +kernel
theorem dX8_spoil_67 : decode cX8_spoil 67 = .ok (.iload 5, 2) := by decide +kernel
theorem dX8_spoil_69 : decode cX8_spoil 69 = .ok (.iaload, 1) := by decide +kernel
theorem dX8_spoil_70 : decode cX8_spoil 70 = .ok (.iconst 1, 1) := by decide +kernel
theorem dX8_spoil_71 : decode cX8_spoil 71 = .ok (.isub, 1) := by decide +kernel
theorem dX8_spoil_72 : decode cX8_spoil 72 = .ok (.invokestatic 153, 3) := by decide +kernel
theorem dX8_spoil_75 : decode cX8_spoil 75 = .ok (.ifCond .ne 6, 3) := by decide +kernel
theorem dX8_spoil_78 : decode cX8_spoil 78 = .ok (.bipush (-2), 2) := by decide +kernel
theorem dX8_spoil_80 : decode cX8_spoil 80 = .ok (.ireturn, 1) := by decide +kernel
theorem dX8_spoil_81 : decode cX8_spoil 81 = .ok (.iload_n 2, 1) := by decide +kernel
theorem dX8_spoil_82 : decode cX8_spoil 82 = .ok (.ifCond .ne 31, 3) := by decide +kernel
theorem dX8_spoil_85 : decode cX8_spoil 85 = .ok (.aload_n 0, 1) := by decide +kernel
theorem dX8_spoil_86 : decode cX8_spoil 86 = .ok (.getfield 84, 3) := by decide +kernel
theorem dX8_spoil_89 : decode cX8_spoil 89 = .ok (.bipush 32, 2) := by decide +kernel
theorem dX8_spoil_91 : decode cX8_spoil 91 = .ok (.iload_n 1, 1) := by decide +kernel
theorem dX8_spoil_92 : decode cX8_spoil 92 = .ok (.imul, 1) := by decide +kernel
theorem dX8_spoil_93 : decode cX8_spoil 93 = .ok (.iload_n 3, 1) := by decide +kernel
theorem dX8_spoil_94 : decode cX8_spoil 94 = .ok (.iadd, 1) := by decide +kernel
theorem dX8_spoil_95 : decode cX8_spoil 95 = .ok (.dup2, 1) := by decide +kernel
theorem dX8_spoil_96 : decode cX8_spoil 96 = .ok (.iaload, 1) := by decide +kernel
theorem dX8_spoil_97 : decode cX8_spoil 97 = .ok (.iload 4, 2) := by decide +kernel
theorem dX8_spoil_99 : decode cX8_spoil 99 = .ok (.ixor, 1) := by decide +kernel
theorem dX8_spoil_100 : decode cX8_spoil 100 = .ok (.iastore, 1) := by decide +kernel
theorem dX8_spoil_101 : decode cX8_spoil 101 = .ok (.aload_n 0, 1) := by decide +kernel
theorem dX8_spoil_102 : decode cX8_spoil 102 = .ok (.getfield 84, 3) := by decide +kernel
theorem dX8_spoil_105 : decode cX8_spoil 105 = .ok (.bipush 32, 2) := by decide +kernel
theorem dX8_spoil_107 : decode cX8_spoil 107 = .ok (.iload_n 1, 1) := by decide +kernel
theorem dX8_spoil_108 : decode cX8_spoil 108 = .ok (.imul, 1) := by decide +kernel
theorem dX8_spoil_109 : decode cX8_spoil 109 = .ok (.iload_n 3, 1) := by decide +kernel
theorem dX8_spoil_110 : decode cX8_spoil 110 = .ok (.iadd, 1) := by decide +kernel
theorem dX8_spoil_111 : decode cX8_spoil 111 = .ok (.iaload, 1) := by decide +kernel
theorem dX8_spoil_112 : decode cX8_spoil 112 = .ok (.ireturn, 1) := by decide +kernel
theorem dX8_spoil_113 : decode cX8_spoil 113 = .ok (.aload_n 0, 1) := by decide +kernel
theorem dX8_spoil_114 : decode cX8_spoil 114 = .ok (.getfield 75, 3) := by decide +kernel
theorem dX8_spoil_117 : decode cX8_spoil 117 = .ok (.bipush 60, 2) := by decide +kernel
theorem dX8_spoil_119 : decode cX8_spoil 119 = .ok (.iload 5, 2) := by decide +kernel
theorem dX8_spoil_121 : decode cX8_spoil 121 = .ok (.imul, 1) := by decide +kernel
theorem dX8_spoil_122 : decode cX8_spoil 122 = .ok (.iload_n 3, 1) := by decide +kernel
theorem dX8_spoil_123 : decode cX8_spoil 123 = .ok (.iadd, 1) := by decide +kernel
theorem dX8_spoil_124 : decode cX8_spoil 124 = .ok (.dup2, 1) := by decide +kernel
theorem dX8_spoil_125 : decode cX8_spoil 125 = .ok (.iaload, 1) := by decide +kernel
theorem dX8_spoil_126 : decode cX8_spoil 126 = .ok (.iload 4, 2) := by decide +kernel
theorem dX8_spoil_128 : decode cX8_spoil 128 = .ok (.ixor, 1) := by decide +kernel
theorem dX8_spoil_129 : decode cX8_spoil 129 = .ok (.iastore, 1) := by decide +kernel
theorem dX8_spoil_130 : decode cX8_spoil 130 = .ok (.aload_n 0, 1) := by decide +kernel
theorem dX8_spoil_131 : decode cX8_spoil 131 = .ok (.getfield 75, 3) := by decide +kernel
theorem dX8_spoil_134 : decode cX8_spoil 134 = .ok (.bipush 60, 2) := by decide +kernel
theorem dX8_spoil_136 : decode cX8_spoil 136 = .ok (.iload 5, 2) := by decide +kernel
theorem dX8_spoil_138 : decode cX8_spoil 138 = .ok (.imul, 1) := by decide +kernel
theorem dX8_spoil_139 : decode cX8_spoil 139 = .ok (.iload_n 3, 1) := by decide +kernel
theorem dX8_spoil_140 : decode cX8_spoil 140 = .ok (.iadd, 1) := by decide +kernel
theorem dX8_spoil_141 : decode cX8_spoil 141 = .ok (.iaload, 1) := by decide +kernel
theorem dX8_spoil_142 : decode cX8_spoil 142 = .ok (.ireturn, 1) := by decide +kernel
set_option maxRecDepth 20000 in
theorem ggX8_ask_X8_is : GoodIn wsX8_ask wsX8_is := goodIn_r _ [7, 8, 9, 6, 10] rfl (by decide +kernel)
set_option maxRecDepth 20000 in
theorem gX8_ask_X8_is : GoodIn wsX8_ask (va_wsS RX8 157 yX8_is wsX8_is) := goodIn_app (goodIn_of _ (by decide +kernel)) ggX8_ask_X8_is
set_option maxRecDepth 20000 in
theorem ggX8_ask_X8_within : GoodIn wsX8_ask wsX8_within := goodIn_r _ [10] rfl (by decide +kernel)
set_option maxRecDepth 20000 in
theorem gX8_ask_X8_within : GoodIn wsX8_ask (va_wsS RX8 153 yX8_within wsX8_within) := goodIn_app (goodIn_of _ (by decide +kernel)) ggX8_ask_X8_within
theorem dX8_ask_0 : decode cX8_ask 0 = .ok (.aload_n 0, 1) := by decide +kernel
theorem dX8_ask_1 : decode cX8_ask 1 = .ok (.iconst 0, 1) := by decide +kernel
theorem dX8_ask_2 : decode cX8_ask 2 = .ok (.putfield 112, 3) := by decide +kernel
theorem dX8_ask_5 : decode cX8_ask 5 = .ok (.iload_n 1, 1) := by decide +kernel
theorem dX8_ask_6 : decode cX8_ask 6 = .ok (.invokestatic 157, 3) := by decide +kernel
theorem dX8_ask_9 : decode cX8_ask 9 = .ok (.ifCond .eq 13, 3) := by decide +kernel
theorem dX8_ask_12 : decode cX8_ask 12 = .ok (.iload_n 2, 1) := by decide +kernel
theorem dX8_ask_13 : decode cX8_ask 13 = .ok (.iconst 0, 1) := by decide +kernel
theorem dX8_ask_14 : decode cX8_ask 14 = .ok (.ldc 187, 2) := by decide +kernel
theorem dX8_ask_16 : decode cX8_ask 16 = .ok (.invokestatic 153, 3) := by decide +kernel
theorem dX8_ask_19 : decode cX8_ask 19 = .ok (.ifCond .ne 6, 3) := by decide +kernel
theorem dX8_ask_22 : decode cX8_ask 22 = .ok (.bipush (-2), 2) := by decide +kernel
theorem dX8_ask_24 : decode cX8_ask 24 = .ok (.ireturn, 1) := by decide +kernel
theorem dX8_ask_25 : decode cX8_ask 25 = .ok (.aload_n 0, 1) := by decide +kernel
theorem dX8_ask_26 : decode cX8_ask 26 = .ok (.getfield 87, 3) := by decide +kernel
theorem dX8_ask_29 : decode cX8_ask 29 = .ok (.iload_n 1, 1) := by decide +kernel
theorem dX8_ask_30 : decode cX8_ask 30 = .ok (.iaload, 1) := by decide +kernel
theorem dX8_ask_31 : decode cX8_ask 31 = .ok (.istore_n 3, 1) := by decide +kernel
theorem dX8_ask_32 : decode cX8_ask 32 = .ok (.aload_n 0, 1) := by decide +kernel
theorem dX8_ask_33 : decode cX8_ask 33 = .ok (.getfield 87, 3) := by decide +kernel
theorem dX8_ask_36 : decode cX8_ask 36 = .ok (.iload_n 1, 1) := by decide +kernel
theorem dX8_ask_37 : decode cX8_ask 37 = .ok (.iload_n 2, 1) := by decide +kernel
theorem dX8_ask_38 : decode cX8_ask 38 = .ok (.iastore, 1) := by decide +kernel
theorem dX8_ask_39 : decode cX8_ask 39 = .ok (.iload_n 3, 1) := by decide +kernel
theorem dX8_ask_40 : decode cX8_ask 40 = .ok (.ireturn, 1) := by decide +kernel
set_option maxRecDepth 20000 in
theorem ggX8_isDigit_X8_within : GoodIn wsX8_isDigit wsX8_within := goodIn_r _ [4] rfl (by decide +kernel)
set_option maxRecDepth 20000 in
theorem gX8_isDigit_X8_within : GoodIn wsX8_isDigit (va_wsS RX8 153 yX8_within wsX8_within) := goodIn_app (goodIn_of _ (by decide +kernel)) ggX8_isDigit_X8_within
theorem dX8_isDigit_0 : decode cX8_isDigit 0 = .ok (.iload_n 0, 1) := by decide +kernel
theorem dX8_isDigit_1 : decode cX8_isDigit 1 = .ok (.bipush 48, 2) := by decide +kernel
theorem dX8_isDigit_3 : decode cX8_isDigit 3 = .ok (.bipush 57, 2) := by decide +kernel
theorem dX8_isDigit_5 : decode cX8_isDigit 5 = .ok (.invokestatic 153, 3) := by decide +kernel
theorem dX8_isDigit_8 : decode cX8_isDigit 8 = .ok (.ireturn, 1) := by decide +kernel
set_option maxRecDepth 20000 in
theorem ggX8_truthOf_X8_within : GoodIn wsX8_truthOf wsX8_within := goodIn_r _ [5] rfl (by decide +kernel)
set_option maxRecDepth 20000 in
theorem gX8_truthOf_X8_within : GoodIn wsX8_truthOf (va_wsS RX8 153 yX8_within wsX8_within) := goodIn_app (goodIn_of _ (by decide +kernel)) ggX8_truthOf_X8_within
set_option maxRecDepth 20000 in
theorem ggX8_truthOf_X8_isDigit : GoodIn wsX8_truthOf wsX8_isDigit := goodIn_r _ [8, 2, 3, 4, 5] rfl (by decide +kernel)
set_option maxRecDepth 20000 in
theorem gX8_truthOf_X8_isDigit : GoodIn wsX8_truthOf (va_wsS RX8 188 yX8_isDigit wsX8_isDigit) := goodIn_app (goodIn_of _ (by decide +kernel)) ggX8_truthOf_X8_isDigit
theorem dX8_truthOf_0 : decode cX8_truthOf 0 = .ok (.iload_n 2, 1) := by decide +kernel
theorem dX8_truthOf_1 : decode cX8_truthOf 1 = .ok (.iload_n 3, 1) := by decide +kernel
theorem dX8_truthOf_2 : decode cX8_truthOf 2 = .ok (.iadd, 1) := by decide +kernel
theorem dX8_truthOf_3 : decode cX8_truthOf 3 = .ok (.istore 4, 2) := by decide +kernel
theorem dX8_truthOf_5 : decode cX8_truthOf 5 = .ok (.iload_n 2, 1) := by decide +kernel
theorem dX8_truthOf_6 : decode cX8_truthOf 6 = .ok (.istore 5, 2) := by decide +kernel
theorem dX8_truthOf_8 : decode cX8_truthOf 8 = .ok (.iconst 0, 1) := by decide +kernel
theorem dX8_truthOf_9 : decode cX8_truthOf 9 = .ok (.istore 6, 2) := by decide +kernel
theorem dX8_truthOf_11 : decode cX8_truthOf 11 = .ok (.iconst 1, 1) := by decide +kernel
theorem dX8_truthOf_12 : decode cX8_truthOf 12 = .ok (.istore 7, 2) := by decide +kernel
theorem dX8_truthOf_14 : decode cX8_truthOf 14 = .ok (.iconst 1, 1) := by decide +kernel
theorem dX8_truthOf_15 : decode cX8_truthOf 15 = .ok (.istore 8, 2) := by decide +kernel
theorem dX8_truthOf_17 : decode cX8_truthOf 17 = .ok (.iload 8, 2) := by decide +kernel
theorem dX8_truthOf_19 : decode cX8_truthOf 19 = .ok (.ifCond .eq 383, 3) := by decide +kernel
theorem dX8_truthOf_22 : decode cX8_truthOf 22 = .ok (.iload 5, 2) := by decide +kernel
theorem dX8_truthOf_24 : decode cX8_truthOf 24 = .ok (.iload 4, 2) := by decide +kernel
theorem dX8_truthOf_26 : decode cX8_truthOf 26 = .ok (.if_icmp .ge 16, 3) := by decide +kernel
theorem dX8_truthOf_29 : decode cX8_truthOf 29 = .ok (.aload_n 1, 1) := by decide +kernel
theorem dX8_truthOf_30 : decode cX8_truthOf 30 = .ok (.iload 5, 2) := by decide +kernel
theorem dX8_truthOf_32 : decode cX8_truthOf 32 = .ok (.iaload, 1) := by decide +kernel
theorem dX8_truthOf_33 : decode cX8_truthOf 33 = .ok (.bipush 33, 2) := by decide +kernel
theorem dX8_truthOf_35 : decode cX8_truthOf 35 = .ok (.if_icmp .ne 7, 3) := by decide +kernel
theorem dX8_truthOf_38 : decode cX8_truthOf 38 = .ok (.iconst 1, 1) := by decide +kernel
theorem dX8_truthOf_39 : decode cX8_truthOf 39 = .ok (.goto 4, 3) := by decide +kernel
theorem dX8_truthOf_42 : decode cX8_truthOf 42 = .ok (.iconst 0, 1) := by decide +kernel
theorem dX8_truthOf_43 : decode cX8_truthOf 43 = .ok (.istore 9, 2) := by decide +kernel
theorem dX8_truthOf_45 : decode cX8_truthOf 45 = .ok (.iload 5, 2) := by decide +kernel
theorem dX8_truthOf_47 : decode cX8_truthOf 47 = .ok (.iload 9, 2) := by decide +kernel
theorem dX8_truthOf_49 : decode cX8_truthOf 49 = .ok (.ifCond .eq 7, 3) := by decide +kernel
theorem dX8_truthOf_52 : decode cX8_truthOf 52 = .ok (.iconst 1, 1) := by decide +kernel
theorem dX8_truthOf_53 : decode cX8_truthOf 53 = .ok (.goto 4, 3) := by decide +kernel
theorem dX8_truthOf_56 : decode cX8_truthOf 56 = .ok (.iconst 0, 1) := by decide +kernel
theorem dX8_truthOf_57 : decode cX8_truthOf 57 = .ok (.iadd, 1) := by decide +kernel
theorem dX8_truthOf_58 : decode cX8_truthOf 58 = .ok (.istore 5, 2) := by decide +kernel
theorem dX8_truthOf_60 : decode cX8_truthOf 60 = .ok (.iload 5, 2) := by decide +kernel
theorem dX8_truthOf_62 : decode cX8_truthOf 62 = .ok (.iconst 2, 1) := by decide +kernel
theorem dX8_truthOf_63 : decode cX8_truthOf 63 = .ok (.iadd, 1) := by decide +kernel
theorem dX8_truthOf_64 : decode cX8_truthOf 64 = .ok (.iload 4, 2) := by decide +kernel
theorem dX8_truthOf_66 : decode cX8_truthOf 66 = .ok (.if_icmp .ge 17, 3) := by decide +kernel
theorem dX8_truthOf_69 : decode cX8_truthOf 69 = .ok (.aload_n 1, 1) := by decide +kernel
theorem dX8_truthOf_70 : decode cX8_truthOf 70 = .ok (.iload 5, 2) := by decide +kernel
theorem dX8_truthOf_72 : decode cX8_truthOf 72 = .ok (.iaload, 1) := by decide +kernel
theorem dX8_truthOf_73 : decode cX8_truthOf 73 = .ok (.bipush 97, 2) := by decide +kernel
theorem dX8_truthOf_75 : decode cX8_truthOf 75 = .ok (.bipush 104, 2) := by decide +kernel
theorem dX8_truthOf_77 : decode cX8_truthOf 77 = .ok (.invokestatic 153, 3) := by decide +kernel
theorem dX8_truthOf_80 : decode cX8_truthOf 80 = .ok (.ifCond .ne 5, 3) := by decide +kernel
theorem dX8_truthOf_83 : decode cX8_truthOf 83 = .ok (.iconst (-1), 1) := by decide +kernel
theorem dX8_truthOf_84 : decode cX8_truthOf 84 = .ok (.ireturn, 1) := by decide +kernel
theorem dX8_truthOf_85 : decode cX8_truthOf 85 = .ok (.aload_n 0, 1) := by decide +kernel
theorem dX8_truthOf_86 : decode cX8_truthOf 86 = .ok (.getfield 87, 3) := by decide +kernel
theorem dX8_truthOf_89 : decode cX8_truthOf 89 = .ok (.aload_n 1, 1) := by decide +kernel
theorem dX8_truthOf_90 : decode cX8_truthOf 90 = .ok (.iload 5, 2) := by decide +kernel
theorem dX8_truthOf_92 : decode cX8_truthOf 92 = .ok (.iaload, 1) := by decide +kernel
theorem dX8_truthOf_93 : decode cX8_truthOf 93 = .ok (.bipush 97, 2) := by decide +kernel
theorem dX8_truthOf_95 : decode cX8_truthOf 95 = .ok (.isub, 1) := by decide +kernel
theorem dX8_truthOf_96 : decode cX8_truthOf 96 = .ok (.iaload, 1) := by decide +kernel
theorem dX8_truthOf_97 : decode cX8_truthOf 97 = .ok (.istore 10, 2) := by decide +kernel
theorem dX8_truthOf_99 : decode cX8_truthOf 99 = .ok (.aload_n 1, 1) := by decide +kernel
theorem dX8_truthOf_100 : decode cX8_truthOf 100 = .ok (.iload 5, 2) := by decide +kernel
theorem dX8_truthOf_102 : decode cX8_truthOf 102 = .ok (.iconst 1, 1) := by decide +kernel
theorem dX8_truthOf_103 : decode cX8_truthOf 103 = .ok (.iadd, 1) := by decide +kernel
theorem dX8_truthOf_104 : decode cX8_truthOf 104 = .ok (.iaload, 1) := by decide +kernel
theorem dX8_truthOf_105 : decode cX8_truthOf 105 = .ok (.istore 11, 2) := by decide +kernel
theorem dX8_truthOf_107 : decode cX8_truthOf 107 = .ok (.iinc 5 2, 3) := by decide +kernel
theorem dX8_truthOf_110 : decode cX8_truthOf 110 = .ok (.iconst 0, 1) := by decide +kernel
theorem dX8_truthOf_111 : decode cX8_truthOf 111 = .ok (.istore 12, 2) := by decide +kernel
theorem dX8_truthOf_113 : decode cX8_truthOf 113 = .ok (.iconst 0, 1) := by decide +kernel
theorem dX8_truthOf_114 : decode cX8_truthOf 114 = .ok (.istore 13, 2) := by decide +kernel
theorem dX8_truthOf_116 : decode cX8_truthOf 116 = .ok (.iload 5, 2) := by decide +kernel
theorem dX8_truthOf_118 : decode cX8_truthOf 118 = .ok (.iload 4, 2) := by decide +kernel
theorem dX8_truthOf_120 : decode cX8_truthOf 120 = .ok (.if_icmp .ge 44, 3) := by decide +kernel
theorem dX8_truthOf_123 : decode cX8_truthOf 123 = .ok (.aload_n 1, 1) := by decide +kernel
theorem dX8_truthOf_124 : decode cX8_truthOf 124 = .ok (.iload 5, 2) := by decide +kernel
theorem dX8_truthOf_126 : decode cX8_truthOf 126 = .ok (.iaload, 1) := by decide +kernel
theorem dX8_truthOf_127 : decode cX8_truthOf 127 = .ok (.invokestatic 188, 3) := by decide +kernel
theorem dX8_truthOf_130 : decode cX8_truthOf 130 = .ok (.ifCond .eq 34, 3) := by decide +kernel
theorem dX8_truthOf_133 : decode cX8_truthOf 133 = .ok (.iload 12, 2) := by decide +kernel
theorem dX8_truthOf_135 : decode cX8_truthOf 135 = .ok (.bipush 7, 2) := by decide +kernel
theorem dX8_truthOf_137 : decode cX8_truthOf 137 = .ok (.if_icmp .ge 27, 3) := by decide +kernel
theorem dX8_truthOf_140 : decode cX8_truthOf 140 = .ok (.bipush 10, 2) := by decide +kernel
theorem dX8_truthOf_142 : decode cX8_truthOf 142 = .ok (.iload 13, 2) := by decide +kernel
theorem dX8_truthOf_144 : decode cX8_truthOf 144 = .ok (.imul, 1) := by decide +kernel
theorem dX8_truthOf_145 : decode cX8_truthOf 145 = .ok (.aload_n 1, 1) := by decide +kernel
theorem dX8_truthOf_146 : decode cX8_truthOf 146 = .ok (.iload 5, 2) := by decide +kernel
theorem dX8_truthOf_148 : decode cX8_truthOf 148 = .ok (.iaload, 1) := by decide +kernel
theorem dX8_truthOf_149 : decode cX8_truthOf 149 = .ok (.iadd, 1) := by decide +kernel
theorem dX8_truthOf_150 : decode cX8_truthOf 150 = .ok (.bipush 48, 2) := by decide +kernel
