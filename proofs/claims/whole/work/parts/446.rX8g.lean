-- needs:
theorem dX8_walkOn_61 : decode cX8_walkOn 61 = .ok (.aload_n 0, 1) := by decide +kernel
theorem dX8_walkOn_62 : decode cX8_walkOn 62 = .ok (.getfield 75, 3) := by decide +kernel
theorem dX8_walkOn_65 : decode cX8_walkOn 65 = .ok (.bipush 60, 2) := by decide +kernel
theorem dX8_walkOn_67 : decode cX8_walkOn 67 = .ok (.iload 4, 2) := by decide +kernel
theorem dX8_walkOn_69 : decode cX8_walkOn 69 = .ok (.imul, 1) := by decide +kernel
theorem dX8_walkOn_70 : decode cX8_walkOn 70 = .ok (.aload_n 0, 1) := by decide +kernel
theorem dX8_walkOn_71 : decode cX8_walkOn 71 = .ok (.getfield 72, 3) := by decide +kernel
theorem dX8_walkOn_74 : decode cX8_walkOn 74 = .ok (.iload 4, 2) := by decide +kernel
theorem dX8_walkOn_76 : decode cX8_walkOn 76 = .ok (.iaload, 1) := by decide +kernel
theorem dX8_walkOn_77 : decode cX8_walkOn 77 = .ok (.invokevirtual 191, 3) := by decide +kernel
theorem dX8_walkOn_80 : decode cX8_walkOn 80 = .ok (.istore 5, 2) := by decide +kernel
theorem dX8_walkOn_82 : decode cX8_walkOn 82 = .ok (.iload 5, 2) := by decide +kernel
theorem dX8_walkOn_84 : decode cX8_walkOn 84 = .ok (.iconst 1, 1) := by decide +kernel
theorem dX8_walkOn_85 : decode cX8_walkOn 85 = .ok (.if_icmp .eq 26, 3) := by decide +kernel
theorem dX8_walkOn_88 : decode cX8_walkOn 88 = .ok (.aload_n 0, 1) := by decide +kernel
theorem dX8_walkOn_89 : decode cX8_walkOn 89 = .ok (.iload 5, 2) := by decide +kernel
theorem dX8_walkOn_91 : decode cX8_walkOn 91 = .ok (.iconst (-1), 1) := by decide +kernel
theorem dX8_walkOn_92 : decode cX8_walkOn 92 = .ok (.if_icmp .ne 7, 3) := by decide +kernel
theorem dX8_walkOn_95 : decode cX8_walkOn 95 = .ok (.iconst 1, 1) := by decide +kernel
theorem dX8_walkOn_96 : decode cX8_walkOn 96 = .ok (.goto 4, 3) := by decide +kernel
theorem dX8_walkOn_99 : decode cX8_walkOn 99 = .ok (.iconst 2, 1) := by decide +kernel
theorem dX8_walkOn_100 : decode cX8_walkOn 100 = .ok (.iload_n 3, 1) := by decide +kernel
theorem dX8_walkOn_101 : decode cX8_walkOn 101 = .ok (.aload_n 0, 1) := by decide +kernel
theorem dX8_walkOn_102 : decode cX8_walkOn 102 = .ok (.getfield 93, 3) := by decide +kernel
theorem dX8_walkOn_105 : decode cX8_walkOn 105 = .ok (.iload_n 2, 1) := by decide +kernel
theorem dX8_walkOn_106 : decode cX8_walkOn 106 = .ok (.iaload, 1) := by decide +kernel
theorem dX8_walkOn_107 : decode cX8_walkOn 107 = .ok (.invokevirtual 216, 3) := by decide +kernel
theorem dX8_walkOn_110 : decode cX8_walkOn 110 = .ok (.ireturn, 1) := by decide +kernel
theorem dX8_walkOn_111 : decode cX8_walkOn 111 = .ok (.aload_n 0, 1) := by decide +kernel
theorem dX8_walkOn_112 : decode cX8_walkOn 112 = .ok (.aload_n 0, 1) := by decide +kernel
theorem dX8_walkOn_113 : decode cX8_walkOn 113 = .ok (.getfield 96, 3) := by decide +kernel
theorem dX8_walkOn_116 : decode cX8_walkOn 116 = .ok (.bipush 32, 2) := by decide +kernel
theorem dX8_walkOn_118 : decode cX8_walkOn 118 = .ok (.iload_n 2, 1) := by decide +kernel
theorem dX8_walkOn_119 : decode cX8_walkOn 119 = .ok (.imul, 1) := by decide +kernel
theorem dX8_walkOn_120 : decode cX8_walkOn 120 = .ok (.iload 4, 2) := by decide +kernel
theorem dX8_walkOn_122 : decode cX8_walkOn 122 = .ok (.invokevirtual 180, 3) := by decide +kernel
theorem dX8_walkOn_125 : decode cX8_walkOn 125 = .ok (.aload_n 0, 1) := by decide +kernel
theorem dX8_walkOn_126 : decode cX8_walkOn 126 = .ok (.getfield 93, 3) := by decide +kernel
theorem dX8_walkOn_129 : decode cX8_walkOn 129 = .ok (.iload_n 2, 1) := by decide +kernel
theorem dX8_walkOn_130 : decode cX8_walkOn 130 = .ok (.dup2, 1) := by decide +kernel
theorem dX8_walkOn_131 : decode cX8_walkOn 131 = .ok (.iaload, 1) := by decide +kernel
theorem dX8_walkOn_132 : decode cX8_walkOn 132 = .ok (.iconst 1, 1) := by decide +kernel
theorem dX8_walkOn_133 : decode cX8_walkOn 133 = .ok (.iadd, 1) := by decide +kernel
theorem dX8_walkOn_134 : decode cX8_walkOn 134 = .ok (.iastore, 1) := by decide +kernel
theorem dX8_walkOn_135 : decode cX8_walkOn 135 = .ok (.iconst 0, 1) := by decide +kernel
theorem dX8_walkOn_136 : decode cX8_walkOn 136 = .ok (.ireturn, 1) := by decide +kernel
theorem dX8_walkOn_137 : decode cX8_walkOn 137 = .ok (.iconst (-1), 1) := by decide +kernel
theorem dX8_walkOn_138 : decode cX8_walkOn 138 = .ok (.istore 5, 2) := by decide +kernel
theorem dX8_walkOn_140 : decode cX8_walkOn 140 = .ok (.bipush 7, 2) := by decide +kernel
theorem dX8_walkOn_142 : decode cX8_walkOn 142 = .ok (.istore 6, 2) := by decide +kernel
theorem dX8_walkOn_144 : decode cX8_walkOn 144 = .ok (.iload 6, 2) := by decide +kernel
theorem dX8_walkOn_146 : decode cX8_walkOn 146 = .ok (.ifCond .lt 39, 3) := by decide +kernel
theorem dX8_walkOn_149 : decode cX8_walkOn 149 = .ok (.aload_n 0, 1) := by decide +kernel
theorem dX8_walkOn_150 : decode cX8_walkOn 150 = .ok (.getfield 99, 3) := by decide +kernel
theorem dX8_walkOn_153 : decode cX8_walkOn 153 = .ok (.iload 6, 2) := by decide +kernel
theorem dX8_walkOn_155 : decode cX8_walkOn 155 = .ok (.baload, 1) := by decide +kernel
theorem dX8_walkOn_156 : decode cX8_walkOn 156 = .ok (.ifCond .ne 19, 3) := by decide +kernel
theorem dX8_walkOn_159 : decode cX8_walkOn 159 = .ok (.aload_n 0, 1) := by decide +kernel
theorem dX8_walkOn_160 : decode cX8_walkOn 160 = .ok (.iload 6, 2) := by decide +kernel
theorem dX8_walkOn_162 : decode cX8_walkOn 162 = .ok (.iload 4, 2) := by decide +kernel
theorem dX8_walkOn_164 : decode cX8_walkOn 164 = .ok (.invokevirtual 219, 3) := by decide +kernel
theorem dX8_walkOn_167 : decode cX8_walkOn 167 = .ok (.ifCond .eq 8, 3) := by decide +kernel
theorem dX8_walkOn_170 : decode cX8_walkOn 170 = .ok (.iload 6, 2) := by decide +kernel
theorem dX8_walkOn_172 : decode cX8_walkOn 172 = .ok (.goto 5, 3) := by decide +kernel
theorem dX8_walkOn_175 : decode cX8_walkOn 175 = .ok (.iload 5, 2) := by decide +kernel
theorem dX8_walkOn_177 : decode cX8_walkOn 177 = .ok (.istore 5, 2) := by decide +kernel
theorem dX8_walkOn_179 : decode cX8_walkOn 179 = .ok (.iinc 6 (-1), 3) := by decide +kernel
theorem dX8_walkOn_182 : decode cX8_walkOn 182 = .ok (.goto (-38), 3) := by decide +kernel
theorem dX8_walkOn_185 : decode cX8_walkOn 185 = .ok (.iload 5, 2) := by decide +kernel
theorem dX8_walkOn_187 : decode cX8_walkOn 187 = .ok (.iconst (-1), 1) := by decide +kernel
theorem dX8_walkOn_188 : decode cX8_walkOn 188 = .ok (.if_icmp .ne 16, 3) := by decide +kernel
theorem dX8_walkOn_191 : decode cX8_walkOn 191 = .ok (.aload_n 0, 1) := by decide +kernel
theorem dX8_walkOn_192 : decode cX8_walkOn 192 = .ok (.iconst 3, 1) := by decide +kernel
theorem dX8_walkOn_193 : decode cX8_walkOn 193 = .ok (.iload_n 3, 1) := by decide +kernel
theorem dX8_walkOn_194 : decode cX8_walkOn 194 = .ok (.aload_n 0, 1) := by decide +kernel
theorem dX8_walkOn_195 : decode cX8_walkOn 195 = .ok (.getfield 93, 3) := by decide +kernel
theorem dX8_walkOn_198 : decode cX8_walkOn 198 = .ok (.iload_n 2, 1) := by decide +kernel
theorem dX8_walkOn_199 : decode cX8_walkOn 199 = .ok (.iaload, 1) := by decide +kernel
theorem dX8_walkOn_200 : decode cX8_walkOn 200 = .ok (.invokevirtual 216, 3) := by decide +kernel
theorem dX8_walkOn_203 : decode cX8_walkOn 203 = .ok (.ireturn, 1) := by decide +kernel
theorem dX8_walkOn_204 : decode cX8_walkOn 204 = .ok (.aload_n 0, 1) := by decide +kernel
theorem dX8_walkOn_205 : decode cX8_walkOn 205 = .ok (.getfield 99, 3) := by decide +kernel
theorem dX8_walkOn_208 : decode cX8_walkOn 208 = .ok (.iload 5, 2) := by decide +kernel
theorem dX8_walkOn_210 : decode cX8_walkOn 210 = .ok (.iconst 1, 1) := by decide +kernel
theorem dX8_walkOn_211 : decode cX8_walkOn 211 = .ok (.bastore, 1) := by decide +kernel
theorem dX8_walkOn_212 : decode cX8_walkOn 212 = .ok (.aload_n 0, 1) := by decide +kernel
theorem dX8_walkOn_213 : decode cX8_walkOn 213 = .ok (.dup, 1) := by decide +kernel
theorem dX8_walkOn_214 : decode cX8_walkOn 214 = .ok (.getfield 202, 3) := by decide +kernel
theorem dX8_walkOn_217 : decode cX8_walkOn 217 = .ok (.iconst 1, 1) := by decide +kernel
theorem dX8_walkOn_218 : decode cX8_walkOn 218 = .ok (.iadd, 1) := by decide +kernel
theorem dX8_walkOn_219 : decode cX8_walkOn 219 = .ok (.putfield 202, 3) := by decide +kernel
theorem dX8_walkOn_222 : decode cX8_walkOn 222 = .ok (.aload_n 0, 1) := by decide +kernel
theorem dX8_walkOn_223 : decode cX8_walkOn 223 = .ok (.aload_n 0, 1) := by decide +kernel
theorem dX8_walkOn_224 : decode cX8_walkOn 224 = .ok (.getfield 96, 3) := by decide +kernel
theorem dX8_walkOn_227 : decode cX8_walkOn 227 = .ok (.bipush 32, 2) := by decide +kernel
theorem dX8_walkOn_229 : decode cX8_walkOn 229 = .ok (.iload_n 2, 1) := by decide +kernel
theorem dX8_walkOn_230 : decode cX8_walkOn 230 = .ok (.imul, 1) := by decide +kernel
theorem dX8_walkOn_231 : decode cX8_walkOn 231 = .ok (.bipush 32, 2) := by decide +kernel
theorem dX8_walkOn_233 : decode cX8_walkOn 233 = .ok (.invokevirtual 163, 3) := by decide +kernel
theorem dX8_walkOn_236 : decode cX8_walkOn 236 = .ok (.aload_n 0, 1) := by decide +kernel
theorem dX8_walkOn_237 : decode cX8_walkOn 237 = .ok (.aload_n 0, 1) := by decide +kernel
theorem dX8_walkOn_238 : decode cX8_walkOn 238 = .ok (.getfield 75, 3) := by decide +kernel
theorem dX8_walkOn_241 : decode cX8_walkOn 241 = .ok (.bipush 60, 2) := by decide +kernel
theorem dX8_walkOn_243 : decode cX8_walkOn 243 = .ok (.iload 4, 2) := by decide +kernel
theorem dX8_walkOn_245 : decode cX8_walkOn 245 = .ok (.imul, 1) := by decide +kernel
theorem dX8_walkOn_246 : decode cX8_walkOn 246 = .ok (.aload_n 0, 1) := by decide +kernel
theorem dX8_walkOn_247 : decode cX8_walkOn 247 = .ok (.getfield 72, 3) := by decide +kernel
theorem dX8_walkOn_250 : decode cX8_walkOn 250 = .ok (.iload 4, 2) := by decide +kernel
theorem dX8_walkOn_252 : decode cX8_walkOn 252 = .ok (.iaload, 1) := by decide +kernel
theorem dX8_walkOn_253 : decode cX8_walkOn 253 = .ok (.invokevirtual 166, 3) := by decide +kernel
theorem dX8_walkOn_256 : decode cX8_walkOn 256 = .ok (.aload_n 0, 1) := by decide +kernel
theorem dX8_walkOn_257 : decode cX8_walkOn 257 = .ok (.invokevirtual 169, 3) := by decide +kernel
theorem dX8_walkOn_260 : decode cX8_walkOn 260 = .ok (.iconst 0, 1) := by decide +kernel
theorem dX8_walkOn_261 : decode cX8_walkOn 261 = .ok (.istore 6, 2) := by decide +kernel
theorem dX8_walkOn_263 : decode cX8_walkOn 263 = .ok (.iload 6, 2) := by decide +kernel
theorem dX8_walkOn_265 : decode cX8_walkOn 265 = .ok (.bipush 32, 2) := by decide +kernel
theorem dX8_walkOn_267 : decode cX8_walkOn 267 = .ok (.if_icmp .ge 37, 3) := by decide +kernel
theorem dX8_walkOn_270 : decode cX8_walkOn 270 = .ok (.aload_n 0, 1) := by decide +kernel
theorem dX8_walkOn_271 : decode cX8_walkOn 271 = .ok (.getfield 40, 3) := by decide +kernel
theorem dX8_walkOn_274 : decode cX8_walkOn 274 = .ok (.iload 6, 2) := by decide +kernel
theorem dX8_walkOn_276 : decode cX8_walkOn 276 = .ok (.aload_n 0, 1) := by decide +kernel
theorem dX8_walkOn_277 : decode cX8_walkOn 277 = .ok (.getfield 81, 3) := by decide +kernel
theorem dX8_walkOn_280 : decode cX8_walkOn 280 = .ok (.bipush 32, 2) := by decide +kernel
theorem dX8_walkOn_282 : decode cX8_walkOn 282 = .ok (.iload 4, 2) := by decide +kernel
theorem dX8_walkOn_284 : decode cX8_walkOn 284 = .ok (.imul, 1) := by decide +kernel
theorem dX8_walkOn_285 : decode cX8_walkOn 285 = .ok (.iload 6, 2) := by decide +kernel
theorem dX8_walkOn_287 : decode cX8_walkOn 287 = .ok (.iadd, 1) := by decide +kernel
theorem dX8_walkOn_288 : decode cX8_walkOn 288 = .ok (.iaload, 1) := by decide +kernel
theorem dX8_walkOn_289 : decode cX8_walkOn 289 = .ok (.aload_n 0, 1) := by decide +kernel
theorem dX8_walkOn_290 : decode cX8_walkOn 290 = .ok (.getfield 37, 3) := by decide +kernel
theorem dX8_walkOn_293 : decode cX8_walkOn 293 = .ok (.iload 6, 2) := by decide +kernel
theorem dX8_walkOn_295 : decode cX8_walkOn 295 = .ok (.iaload, 1) := by decide +kernel
theorem dX8_walkOn_296 : decode cX8_walkOn 296 = .ok (.ixor, 1) := by decide +kernel
theorem dX8_walkOn_297 : decode cX8_walkOn 297 = .ok (.iastore, 1) := by decide +kernel
theorem dX8_walkOn_298 : decode cX8_walkOn 298 = .ok (.iinc 6 1, 3) := by decide +kernel
theorem dX8_walkOn_301 : decode cX8_walkOn 301 = .ok (.goto (-38), 3) := by decide +kernel
theorem dX8_walkOn_304 : decode cX8_walkOn 304 = .ok (.aload_n 0, 1) := by decide +kernel
theorem dX8_walkOn_305 : decode cX8_walkOn 305 = .ok (.aload_n 0, 1) := by decide +kernel
theorem dX8_walkOn_306 : decode cX8_walkOn 306 = .ok (.getfield 40, 3) := by decide +kernel
theorem dX8_walkOn_309 : decode cX8_walkOn 309 = .ok (.iconst 0, 1) := by decide +kernel
theorem dX8_walkOn_310 : decode cX8_walkOn 310 = .ok (.bipush 32, 2) := by decide +kernel
theorem dX8_walkOn_312 : decode cX8_walkOn 312 = .ok (.invokevirtual 163, 3) := by decide +kernel
theorem dX8_walkOn_315 : decode cX8_walkOn 315 = .ok (.aload_n 0, 1) := by decide +kernel
theorem dX8_walkOn_316 : decode cX8_walkOn 316 = .ok (.iload 5, 2) := by decide +kernel
theorem dX8_walkOn_318 : decode cX8_walkOn 318 = .ok (.invokevirtual 205, 3) := by decide +kernel
theorem dX8_walkOn_321 : decode cX8_walkOn 321 = .ok (.iconst 0, 1) := by decide +kernel
theorem dX8_walkOn_322 : decode cX8_walkOn 322 = .ok (.ireturn, 1) := by decide +kernel
set_option maxRecDepth 20000 in
theorem ggX8_endWalk_X8_isSame : GoodIn wsX8_endWalk wsX8_isSame := goodIn_r _ [13, 6, 75, 76, 77, 78, 79, 80, 81, 82, 83, 84, 85, 86, 87, 88, 89, 90, 91, 92, 93, 94, 95, 96, 97, 98, 99, 100, 101, 102, 103, 104, 105, 106, 107, 108, 109, 110, 111, 112, 113, 114, 115, 116] rfl (by decide +kernel)
set_option maxRecDepth 20000 in
theorem gX8_endWalk_X8_isSame : GoodIn wsX8_endWalk (wsV RX8 223 RX8 yX8_isSame wsX8_isSame) := goodIn_app (goodIn_of _ (by decide +kernel)) ggX8_endWalk_X8_isSame
set_option maxRecDepth 20000 in
theorem ggX8_endWalk_X8_fail : GoodIn wsX8_endWalk wsX8_fail := goodIn_r _ [17, 18, 19, 75, 76, 77, 78, 79, 80, 81, 82, 83, 84, 85, 86, 87, 88, 89, 90, 91, 92, 93, 94, 95, 96, 97, 98, 99, 100, 101, 102, 103, 104, 105, 106, 107, 108, 109, 110, 111, 112, 113, 114, 115, 116] rfl (by decide +kernel)
set_option maxRecDepth 20000 in
theorem gX8_endWalk_X8_fail : GoodIn wsX8_endWalk (wsV RX8 216 RX8 yX8_fail wsX8_fail) := goodIn_app (goodIn_of _ (by decide +kernel)) ggX8_endWalk_X8_fail
set_option maxRecDepth 20000 in
theorem ggX8_endWalk_X8_keyIs : GoodIn wsX8_endWalk wsX8_keyIs := goodIn_r _ [23, 24, 25, 26, 75, 76, 77, 78, 79, 80, 81, 82, 83, 84, 85, 86, 87, 88, 89, 90, 91, 92, 93, 94, 95, 96, 97, 98, 99, 100, 101, 102, 103, 104, 105, 106, 107, 108, 109, 110, 111, 112, 113, 114, 115, 116] rfl (by decide +kernel)
set_option maxRecDepth 20000 in
theorem gX8_endWalk_X8_keyIs : GoodIn wsX8_endWalk (wsV RX8 163 RX8 yX8_keyIs wsX8_keyIs) := goodIn_app (goodIn_of _ (by decide +kernel)) ggX8_endWalk_X8_keyIs
set_option maxRecDepth 20000 in
theorem ggX8_endWalk_X8_add : GoodIn wsX8_endWalk wsX8_add := goodIn_r _ [30, 31, 26, 75, 76, 77, 78, 79, 80, 81, 82, 83, 84, 85, 86, 87, 88, 89, 90, 91, 92, 93, 94, 95, 96, 97, 98, 99, 100, 101, 102, 103, 104, 105, 106, 107, 108, 109, 110, 111, 112, 113, 114, 115, 116] rfl (by decide +kernel)
set_option maxRecDepth 20000 in
theorem gX8_endWalk_X8_add : GoodIn wsX8_endWalk (wsV RX8 166 RX8 yX8_add wsX8_add) := goodIn_app (goodIn_of _ (by decide +kernel)) ggX8_endWalk_X8_add
set_option maxRecDepth 20000 in
theorem ggX8_endWalk_X8_sealNow : GoodIn wsX8_endWalk wsX8_sealNow := goodIn_r _ [35, 25, 36, 24, 37, 31, 26, 1, 38, 39, 40, 12, 41, 42, 43, 44, 45, 46, 47, 48, 49, 50, 51, 52, 53, 54, 55, 56, 57, 58, 59, 60, 61, 62, 63, 64, 65, 75, 76, 77, 78, 79, 80, 81, 82, 83, 84, 85, 86, 87, 88, 89, 90, 91, 92, 93, 94, 95, 96, 97, 98, 99, 100, 101, 102, 103, 104, 105, 106, 107, 108, 109, 110, 111, 112, 113, 114, 115, 116] rfl (by decide +kernel)
set_option maxRecDepth 20000 in
theorem gX8_endWalk_X8_sealNow : GoodIn wsX8_endWalk (wsV RX8 169 RX8 yX8_sealNow wsX8_sealNow) := goodIn_app (goodIn_of _ (by decide +kernel)) ggX8_endWalk_X8_sealNow
set_option maxRecDepth 20000 in
theorem ggX8_endWalk_X8_goOn : GoodIn wsX8_endWalk wsX8_goOn := goodIn_r _ [69, 70, 71, 72, 1, 73, 74, 20, 21, 22, 12, 23, 24, 25, 26, 27, 28, 29, 30, 31, 32, 33, 34, 35, 36, 37, 38, 39, 40, 41, 42, 43, 44, 45, 46, 47, 48, 49, 50, 51, 52, 53, 54, 55, 56, 57, 58, 59, 60, 61, 62, 63, 64, 65, 75, 76, 77, 78, 79, 80, 81, 82, 83, 84, 85, 86, 87, 88, 89, 90, 91, 92, 93, 94, 95, 96, 97, 98, 99, 100, 101, 102, 103, 104, 105, 106, 107, 108, 109, 110, 111, 112, 113, 114, 115, 116] rfl (by decide +kernel)
set_option maxRecDepth 20000 in
theorem gX8_endWalk_X8_goOn : GoodIn wsX8_endWalk (wsV RX8 180 RX8 yX8_goOn wsX8_goOn) := goodIn_app (goodIn_of _ (by decide +kernel)) ggX8_endWalk_X8_goOn
theorem dX8_endWalk_0 : decode cX8_endWalk 0 = .ok (.iload_n 2, 1) := by decide +kernel
theorem dX8_endWalk_1 : decode cX8_endWalk 1 = .ok (.ifCond .ne 67, 3) := by decide +kernel
theorem dX8_endWalk_4 : decode cX8_endWalk 4 = .ok (.iconst 0, 1) := by decide +kernel
theorem dX8_endWalk_5 : decode cX8_endWalk 5 = .ok (.istore 4, 2) := by decide +kernel
theorem dX8_endWalk_7 : decode cX8_endWalk 7 = .ok (.iload 4, 2) := by decide +kernel
theorem dX8_endWalk_9 : decode cX8_endWalk 9 = .ok (.bipush 32, 2) := by decide +kernel
theorem dX8_endWalk_11 : decode cX8_endWalk 11 = .ok (.if_icmp .ge 23, 3) := by decide +kernel
theorem dX8_endWalk_14 : decode cX8_endWalk 14 = .ok (.aload_n 0, 1) := by decide +kernel
theorem dX8_endWalk_15 : decode cX8_endWalk 15 = .ok (.getfield 37, 3) := by decide +kernel
theorem dX8_endWalk_18 : decode cX8_endWalk 18 = .ok (.iload 4, 2) := by decide +kernel
theorem dX8_endWalk_20 : decode cX8_endWalk 20 = .ok (.aload_n 0, 1) := by decide +kernel
theorem dX8_endWalk_21 : decode cX8_endWalk 21 = .ok (.getfield 96, 3) := by decide +kernel
theorem dX8_endWalk_24 : decode cX8_endWalk 24 = .ok (.iload 4, 2) := by decide +kernel
theorem dX8_endWalk_26 : decode cX8_endWalk 26 = .ok (.iaload, 1) := by decide +kernel
theorem dX8_endWalk_27 : decode cX8_endWalk 27 = .ok (.iastore, 1) := by decide +kernel
theorem dX8_endWalk_28 : decode cX8_endWalk 28 = .ok (.iinc 4 1, 3) := by decide +kernel
theorem dX8_endWalk_31 : decode cX8_endWalk 31 = .ok (.goto (-24), 3) := by decide +kernel
theorem dX8_endWalk_34 : decode cX8_endWalk 34 = .ok (.aload_n 0, 1) := by decide +kernel
theorem dX8_endWalk_35 : decode cX8_endWalk 35 = .ok (.iconst 0, 1) := by decide +kernel
theorem dX8_endWalk_36 : decode cX8_endWalk 36 = .ok (.putfield 195, 3) := by decide +kernel
theorem dX8_endWalk_39 : decode cX8_endWalk 39 = .ok (.aload_n 0, 1) := by decide +kernel
theorem dX8_endWalk_40 : decode cX8_endWalk 40 = .ok (.aload_n 0, 1) := by decide +kernel
theorem dX8_endWalk_41 : decode cX8_endWalk 41 = .ok (.getfield 37, 3) := by decide +kernel
theorem dX8_endWalk_44 : decode cX8_endWalk 44 = .ok (.iload_n 1, 1) := by decide +kernel
theorem dX8_endWalk_45 : decode cX8_endWalk 45 = .ok (.invokevirtual 223, 3) := by decide +kernel
theorem dX8_endWalk_48 : decode cX8_endWalk 48 = .ok (.ifCond .eq 7, 3) := by decide +kernel
theorem dX8_endWalk_51 : decode cX8_endWalk 51 = .ok (.iconst 0, 1) := by decide +kernel
theorem dX8_endWalk_52 : decode cX8_endWalk 52 = .ok (.goto 15, 3) := by decide +kernel
theorem dX8_endWalk_55 : decode cX8_endWalk 55 = .ok (.aload_n 0, 1) := by decide +kernel
theorem dX8_endWalk_56 : decode cX8_endWalk 56 = .ok (.iconst 5, 1) := by decide +kernel
theorem dX8_endWalk_57 : decode cX8_endWalk 57 = .ok (.iload_n 1, 1) := by decide +kernel
theorem dX8_endWalk_58 : decode cX8_endWalk 58 = .ok (.aload_n 0, 1) := by decide +kernel
theorem dX8_endWalk_59 : decode cX8_endWalk 59 = .ok (.getfield 69, 3) := by decide +kernel
theorem dX8_endWalk_62 : decode cX8_endWalk 62 = .ok (.iload_n 1, 1) := by decide +kernel
theorem dX8_endWalk_63 : decode cX8_endWalk 63 = .ok (.iaload, 1) := by decide +kernel
theorem dX8_endWalk_64 : decode cX8_endWalk 64 = .ok (.invokevirtual 216, 3) := by decide +kernel
theorem dX8_endWalk_67 : decode cX8_endWalk 67 = .ok (.ireturn, 1) := by decide +kernel
theorem dX8_endWalk_68 : decode cX8_endWalk 68 = .ok (.aload_n 0, 1) := by decide +kernel
theorem dX8_endWalk_69 : decode cX8_endWalk 69 = .ok (.aload_n 0, 1) := by decide +kernel
theorem dX8_endWalk_70 : decode cX8_endWalk 70 = .ok (.getfield 43, 3) := by decide +kernel
theorem dX8_endWalk_73 : decode cX8_endWalk 73 = .ok (.iconst 0, 1) := by decide +kernel
theorem dX8_endWalk_74 : decode cX8_endWalk 74 = .ok (.bipush 32, 2) := by decide +kernel
theorem dX8_endWalk_76 : decode cX8_endWalk 76 = .ok (.invokevirtual 163, 3) := by decide +kernel
theorem dX8_endWalk_79 : decode cX8_endWalk 79 = .ok (.aload_n 0, 1) := by decide +kernel
theorem dX8_endWalk_80 : decode cX8_endWalk 80 = .ok (.aload_n 0, 1) := by decide +kernel
theorem dX8_endWalk_81 : decode cX8_endWalk 81 = .ok (.getfield 84, 3) := by decide +kernel
theorem dX8_endWalk_84 : decode cX8_endWalk 84 = .ok (.bipush 32, 2) := by decide +kernel
theorem dX8_endWalk_86 : decode cX8_endWalk 86 = .ok (.iload_n 1, 1) := by decide +kernel
theorem dX8_endWalk_87 : decode cX8_endWalk 87 = .ok (.imul, 1) := by decide +kernel
theorem dX8_endWalk_88 : decode cX8_endWalk 88 = .ok (.bipush 32, 2) := by decide +kernel
theorem dX8_endWalk_90 : decode cX8_endWalk 90 = .ok (.invokevirtual 166, 3) := by decide +kernel
theorem dX8_endWalk_93 : decode cX8_endWalk 93 = .ok (.aload_n 0, 1) := by decide +kernel
theorem dX8_endWalk_94 : decode cX8_endWalk 94 = .ok (.aload_n 0, 1) := by decide +kernel
theorem dX8_endWalk_95 : decode cX8_endWalk 95 = .ok (.getfield 96, 3) := by decide +kernel
theorem dX8_endWalk_98 : decode cX8_endWalk 98 = .ok (.bipush 32, 2) := by decide +kernel
theorem dX8_endWalk_100 : decode cX8_endWalk 100 = .ok (.iload_n 2, 1) := by decide +kernel
theorem dX8_endWalk_101 : decode cX8_endWalk 101 = .ok (.imul, 1) := by decide +kernel
theorem dX8_endWalk_102 : decode cX8_endWalk 102 = .ok (.bipush 32, 2) := by decide +kernel
theorem dX8_endWalk_104 : decode cX8_endWalk 104 = .ok (.invokevirtual 166, 3) := by decide +kernel
theorem dX8_endWalk_107 : decode cX8_endWalk 107 = .ok (.aload_n 0, 1) := by decide +kernel
theorem dX8_endWalk_108 : decode cX8_endWalk 108 = .ok (.invokevirtual 169, 3) := by decide +kernel
theorem dX8_endWalk_111 : decode cX8_endWalk 111 = .ok (.aload_n 0, 1) := by decide +kernel
theorem dX8_endWalk_112 : decode cX8_endWalk 112 = .ok (.dup, 1) := by decide +kernel
theorem dX8_endWalk_113 : decode cX8_endWalk 113 = .ok (.getfield 195, 3) := by decide +kernel
theorem dX8_endWalk_116 : decode cX8_endWalk 116 = .ok (.iconst 1, 1) := by decide +kernel
theorem dX8_endWalk_117 : decode cX8_endWalk 117 = .ok (.isub, 1) := by decide +kernel
theorem dX8_endWalk_118 : decode cX8_endWalk 118 = .ok (.putfield 195, 3) := by decide +kernel
theorem dX8_endWalk_121 : decode cX8_endWalk 121 = .ok (.iload_n 2, 1) := by decide +kernel
theorem dX8_endWalk_122 : decode cX8_endWalk 122 = .ok (.iconst 1, 1) := by decide +kernel
theorem dX8_endWalk_123 : decode cX8_endWalk 123 = .ok (.isub, 1) := by decide +kernel
theorem dX8_endWalk_124 : decode cX8_endWalk 124 = .ok (.istore 4, 2) := by decide +kernel
theorem dX8_endWalk_126 : decode cX8_endWalk 126 = .ok (.aload_n 0, 1) := by decide +kernel
theorem dX8_endWalk_127 : decode cX8_endWalk 127 = .ok (.aload_n 0, 1) := by decide +kernel
theorem dX8_endWalk_128 : decode cX8_endWalk 128 = .ok (.getfield 37, 3) := by decide +kernel
theorem dX8_endWalk_131 : decode cX8_endWalk 131 = .ok (.iload_n 3, 1) := by decide +kernel
theorem dX8_endWalk_132 : decode cX8_endWalk 132 = .ok (.invokevirtual 223, 3) := by decide +kernel
theorem dX8_endWalk_135 : decode cX8_endWalk 135 = .ok (.ifCond .ne 17, 3) := by decide +kernel
theorem dX8_endWalk_138 : decode cX8_endWalk 138 = .ok (.aload_n 0, 1) := by decide +kernel
theorem dX8_endWalk_139 : decode cX8_endWalk 139 = .ok (.iconst 4, 1) := by decide +kernel
theorem dX8_endWalk_140 : decode cX8_endWalk 140 = .ok (.iload_n 3, 1) := by decide +kernel
theorem dX8_endWalk_141 : decode cX8_endWalk 141 = .ok (.aload_n 0, 1) := by decide +kernel
theorem dX8_endWalk_142 : decode cX8_endWalk 142 = .ok (.getfield 93, 3) := by decide +kernel
theorem dX8_endWalk_145 : decode cX8_endWalk 145 = .ok (.iload 4, 2) := by decide +kernel
theorem dX8_endWalk_147 : decode cX8_endWalk 147 = .ok (.iaload, 1) := by decide +kernel
theorem dX8_endWalk_148 : decode cX8_endWalk 148 = .ok (.invokevirtual 216, 3) := by decide +kernel
theorem dX8_endWalk_151 : decode cX8_endWalk 151 = .ok (.ireturn, 1) := by decide +kernel
theorem dX8_endWalk_152 : decode cX8_endWalk 152 = .ok (.aload_n 0, 1) := by decide +kernel
theorem dX8_endWalk_153 : decode cX8_endWalk 153 = .ok (.aload_n 0, 1) := by decide +kernel
theorem dX8_endWalk_154 : decode cX8_endWalk 154 = .ok (.getfield 96, 3) := by decide +kernel
theorem dX8_endWalk_157 : decode cX8_endWalk 157 = .ok (.bipush 32, 2) := by decide +kernel
theorem dX8_endWalk_159 : decode cX8_endWalk 159 = .ok (.iload 4, 2) := by decide +kernel
theorem dX8_endWalk_161 : decode cX8_endWalk 161 = .ok (.imul, 1) := by decide +kernel
theorem dX8_endWalk_162 : decode cX8_endWalk 162 = .ok (.bipush 10, 2) := by decide +kernel
theorem dX8_endWalk_164 : decode cX8_endWalk 164 = .ok (.aload_n 0, 1) := by decide +kernel
theorem dX8_endWalk_165 : decode cX8_endWalk 165 = .ok (.getfield 90, 3) := by decide +kernel
theorem dX8_endWalk_168 : decode cX8_endWalk 168 = .ok (.iload 4, 2) := by decide +kernel
theorem dX8_endWalk_170 : decode cX8_endWalk 170 = .ok (.iaload, 1) := by decide +kernel
theorem dX8_endWalk_171 : decode cX8_endWalk 171 = .ok (.imul, 1) := by decide +kernel
theorem dX8_endWalk_172 : decode cX8_endWalk 172 = .ok (.aload_n 0, 1) := by decide +kernel
theorem dX8_endWalk_173 : decode cX8_endWalk 173 = .ok (.getfield 93, 3) := by decide +kernel
theorem dX8_endWalk_176 : decode cX8_endWalk 176 = .ok (.iload 4, 2) := by decide +kernel
theorem dX8_endWalk_178 : decode cX8_endWalk 178 = .ok (.iaload, 1) := by decide +kernel
theorem dX8_endWalk_179 : decode cX8_endWalk 179 = .ok (.iadd, 1) := by decide +kernel
theorem dX8_endWalk_180 : decode cX8_endWalk 180 = .ok (.invokevirtual 180, 3) := by decide +kernel
theorem dX8_endWalk_183 : decode cX8_endWalk 183 = .ok (.aload_n 0, 1) := by decide +kernel
theorem dX8_endWalk_184 : decode cX8_endWalk 184 = .ok (.getfield 93, 3) := by decide +kernel
theorem dX8_endWalk_187 : decode cX8_endWalk 187 = .ok (.iload 4, 2) := by decide +kernel
theorem dX8_endWalk_189 : decode cX8_endWalk 189 = .ok (.dup2, 1) := by decide +kernel
theorem dX8_endWalk_190 : decode cX8_endWalk 190 = .ok (.iaload, 1) := by decide +kernel
theorem dX8_endWalk_191 : decode cX8_endWalk 191 = .ok (.iconst 1, 1) := by decide +kernel
theorem dX8_endWalk_192 : decode cX8_endWalk 192 = .ok (.iadd, 1) := by decide +kernel
theorem dX8_endWalk_193 : decode cX8_endWalk 193 = .ok (.iastore, 1) := by decide +kernel
theorem dX8_endWalk_194 : decode cX8_endWalk 194 = .ok (.iconst 0, 1) := by decide +kernel
theorem dX8_endWalk_195 : decode cX8_endWalk 195 = .ok (.ireturn, 1) := by decide +kernel
set_option maxRecDepth 20000 in
theorem ggX8_fault_X8_within : GoodIn wsX8_fault wsX8_within := goodIn_r _ [9] rfl (by decide +kernel)
set_option maxRecDepth 20000 in
theorem gX8_fault_X8_within : GoodIn wsX8_fault (va_wsS RX8 153 yX8_within wsX8_within) := goodIn_app (goodIn_of _ (by decide +kernel)) ggX8_fault_X8_within
theorem dX8_fault_0 : decode cX8_fault 0 = .ok (.aload_n 0, 1) := by decide +kernel
theorem dX8_fault_1 : decode cX8_fault 1 = .ok (.iconst 0, 1) := by decide +kernel
theorem dX8_fault_2 : decode cX8_fault 2 = .ok (.putfield 112, 3) := by decide +kernel
theorem dX8_fault_5 : decode cX8_fault 5 = .ok (.iload_n 1, 1) := by decide +kernel
theorem dX8_fault_6 : decode cX8_fault 6 = .ok (.iconst 0, 1) := by decide +kernel
theorem dX8_fault_7 : decode cX8_fault 7 = .ok (.iconst 2, 1) := by decide +kernel
theorem dX8_fault_8 : decode cX8_fault 8 = .ok (.invokestatic 153, 3) := by decide +kernel
theorem dX8_fault_11 : decode cX8_fault 11 = .ok (.ifCond .ne 6, 3) := by decide +kernel
theorem dX8_fault_14 : decode cX8_fault 14 = .ok (.bipush (-2), 2) := by decide +kernel
theorem dX8_fault_16 : decode cX8_fault 16 = .ok (.ireturn, 1) := by decide +kernel
theorem dX8_fault_17 : decode cX8_fault 17 = .ok (.aload_n 0, 1) := by decide +kernel
theorem dX8_fault_18 : decode cX8_fault 18 = .ok (.getfield 198, 3) := by decide +kernel
theorem dX8_fault_21 : decode cX8_fault 21 = .ok (.ifCond .ne 7, 3) := by decide +kernel
theorem dX8_fault_24 : decode cX8_fault 24 = .ok (.iconst (-1), 1) := by decide +kernel
theorem dX8_fault_25 : decode cX8_fault 25 = .ok (.goto 30, 3) := by decide +kernel
theorem dX8_fault_28 : decode cX8_fault 28 = .ok (.iload_n 1, 1) := by decide +kernel
theorem dX8_fault_29 : decode cX8_fault 29 = .ok (.ifCond .ne 10, 3) := by decide +kernel
theorem dX8_fault_32 : decode cX8_fault 32 = .ok (.aload_n 0, 1) := by decide +kernel
theorem dX8_fault_33 : decode cX8_fault 33 = .ok (.getfield 102, 3) := by decide +kernel
theorem dX8_fault_36 : decode cX8_fault 36 = .ok (.goto 19, 3) := by decide +kernel
theorem dX8_fault_39 : decode cX8_fault 39 = .ok (.iload_n 1, 1) := by decide +kernel
theorem dX8_fault_40 : decode cX8_fault 40 = .ok (.iconst 1, 1) := by decide +kernel
theorem dX8_fault_41 : decode cX8_fault 41 = .ok (.if_icmp .ne 10, 3) := by decide +kernel
theorem dX8_fault_44 : decode cX8_fault 44 = .ok (.aload_n 0, 1) := by decide +kernel
theorem dX8_fault_45 : decode cX8_fault 45 = .ok (.getfield 105, 3) := by decide +kernel
theorem dX8_fault_48 : decode cX8_fault 48 = .ok (.goto 7, 3) := by decide +kernel
theorem dX8_fault_51 : decode cX8_fault 51 = .ok (.aload_n 0, 1) := by decide +kernel
theorem dX8_fault_52 : decode cX8_fault 52 = .ok (.getfield 202, 3) := by decide +kernel
theorem dX8_fault_55 : decode cX8_fault 55 = .ok (.ireturn, 1) := by decide +kernel
theorem dX8_put_0 : decode cX8_put 0 = .ok (.aload_n 0, 1) := by decide +kernel
theorem dX8_put_1 : decode cX8_put 1 = .ok (.getfield 52, 3) := by decide +kernel
theorem dX8_put_4 : decode cX8_put 4 = .ok (.aload_n 0, 1) := by decide +kernel
theorem dX8_put_5 : decode cX8_put 5 = .ok (.getfield 227, 3) := by decide +kernel
theorem dX8_put_8 : decode cX8_put 8 = .ok (.iload_n 1, 1) := by decide +kernel
theorem dX8_put_9 : decode cX8_put 9 = .ok (.iastore, 1) := by decide +kernel
theorem dX8_put_10 : decode cX8_put 10 = .ok (.aload_n 0, 1) := by decide +kernel
theorem dX8_put_11 : decode cX8_put 11 = .ok (.dup, 1) := by decide +kernel
theorem dX8_put_12 : decode cX8_put 12 = .ok (.getfield 227, 3) := by decide +kernel
theorem dX8_put_15 : decode cX8_put 15 = .ok (.iconst 1, 1) := by decide +kernel
theorem dX8_put_16 : decode cX8_put 16 = .ok (.iadd, 1) := by decide +kernel
theorem dX8_put_17 : decode cX8_put 17 = .ok (.putfield 227, 3) := by decide +kernel
theorem dX8_put_20 : decode cX8_put 20 = .ok (.return_, 1) := by decide +kernel
set_option maxRecDepth 20000 in
theorem ggX8_putRow_X8_put : GoodIn wsX8_putRow wsX8_put := goodIn_r _ [5, 6, 7, 8, 9, 10, 11, 12, 13, 14, 15, 16, 17, 18, 19, 20, 21, 22, 23, 24, 25, 26, 27, 28, 29, 30, 31, 32, 33, 34, 35, 36, 37, 38, 39, 40, 41, 42, 43, 44, 45, 46, 47, 48, 49] rfl (by decide +kernel)
set_option maxRecDepth 20000 in
theorem gX8_putRow_X8_put : GoodIn wsX8_putRow (wsV RX8 230 RX8 yX8_put wsX8_put) := goodIn_app (goodIn_of _ (by decide +kernel)) ggX8_putRow_X8_put
theorem dX8_putRow_0 : decode cX8_putRow 0 = .ok (.aload_n 0, 1) := by decide +kernel
theorem dX8_putRow_1 : decode cX8_putRow 1 = .ok (.iload_n 1, 1) := by decide +kernel
theorem dX8_putRow_2 : decode cX8_putRow 2 = .ok (.invokevirtual 230, 3) := by decide +kernel
theorem dX8_putRow_5 : decode cX8_putRow 5 = .ok (.aload_n 0, 1) := by decide +kernel
theorem dX8_putRow_6 : decode cX8_putRow 6 = .ok (.iload 4, 2) := by decide +kernel
theorem dX8_putRow_8 : decode cX8_putRow 8 = .ok (.invokevirtual 230, 3) := by decide +kernel
theorem dX8_putRow_11 : decode cX8_putRow 11 = .ok (.iconst 0, 1) := by decide +kernel
theorem dX8_putRow_12 : decode cX8_putRow 12 = .ok (.istore 5, 2) := by decide +kernel
theorem dX8_putRow_14 : decode cX8_putRow 14 = .ok (.iload 5, 2) := by decide +kernel
theorem dX8_putRow_16 : decode cX8_putRow 16 = .ok (.iload 4, 2) := by decide +kernel
theorem dX8_putRow_18 : decode cX8_putRow 18 = .ok (.if_icmp .ge 19, 3) := by decide +kernel
theorem dX8_putRow_21 : decode cX8_putRow 21 = .ok (.aload_n 0, 1) := by decide +kernel
theorem dX8_putRow_22 : decode cX8_putRow 22 = .ok (.aload_n 2, 1) := by decide +kernel
theorem dX8_putRow_23 : decode cX8_putRow 23 = .ok (.iload_n 3, 1) := by decide +kernel
theorem dX8_putRow_24 : decode cX8_putRow 24 = .ok (.iload 5, 2) := by decide +kernel
theorem dX8_putRow_26 : decode cX8_putRow 26 = .ok (.iadd, 1) := by decide +kernel
theorem dX8_putRow_27 : decode cX8_putRow 27 = .ok (.iaload, 1) := by decide +kernel
theorem dX8_putRow_28 : decode cX8_putRow 28 = .ok (.invokevirtual 230, 3) := by decide +kernel
theorem dX8_putRow_31 : decode cX8_putRow 31 = .ok (.iinc 5 1, 3) := by decide +kernel
theorem dX8_putRow_34 : decode cX8_putRow 34 = .ok (.goto (-20), 3) := by decide +kernel
theorem dX8_putRow_37 : decode cX8_putRow 37 = .ok (.return_, 1) := by decide +kernel
set_option maxRecDepth 20000 in
theorem ggX8_write_X8_isToken : GoodIn wsX8_write wsX8_isToken := goodIn_r _ [15, 16, 17, 18, 14, 19, 20, 21, 22, 32, 33, 34, 35, 36, 37, 38, 39, 40, 41, 42, 43, 44, 45, 46, 47, 48, 49, 50, 51, 52, 53, 54, 55, 56, 57, 58, 59, 60, 61, 62, 63, 64, 65, 66, 67, 68, 69, 70, 71, 72, 73] rfl (by decide +kernel)
set_option maxRecDepth 20000 in
theorem gX8_write_X8_isToken : GoodIn wsX8_write (wsV RX8 175 RX8 yX8_isToken wsX8_isToken) := goodIn_app (goodIn_of _ (by decide +kernel)) ggX8_write_X8_isToken
set_option maxRecDepth 20000 in
theorem ggX8_write_X8_put : GoodIn wsX8_write wsX8_put := goodIn_r _ [26, 27, 2, 32, 33, 34, 35, 36, 37, 38, 39, 40, 41, 42, 43, 44, 45, 46, 47, 48, 49, 50, 51, 52, 53, 54, 55, 56, 57, 58, 59, 60, 61, 62, 63, 64, 65, 66, 67, 68, 69, 70, 71, 72, 73] rfl (by decide +kernel)
set_option maxRecDepth 20000 in
theorem gX8_write_X8_put : GoodIn wsX8_write (wsV RX8 230 RX8 yX8_put wsX8_put) := goodIn_app (goodIn_of _ (by decide +kernel)) ggX8_write_X8_put
set_option maxRecDepth 20000 in
theorem ggX8_write_X8_putRow : GoodIn wsX8_write wsX8_putRow := goodIn_r _ [31, 23, 24, 25, 14, 26, 27, 2, 32, 33, 34, 35, 36, 37, 38, 39, 40, 41, 42, 43, 44, 45, 46, 47, 48, 49, 50, 51, 52, 53, 54, 55, 56, 57, 58, 59, 60, 61, 62, 63, 64, 65, 66, 67, 68, 69, 70, 71, 72, 73] rfl (by decide +kernel)
set_option maxRecDepth 20000 in
theorem gX8_write_X8_putRow : GoodIn wsX8_write (wsV RX8 233 RX8 yX8_putRow wsX8_putRow) := goodIn_app (goodIn_of _ (by decide +kernel)) ggX8_write_X8_putRow
theorem dX8_write_0 : decode cX8_write 0 = .ok (.aload_n 0, 1) := by decide +kernel
theorem dX8_write_1 : decode cX8_write 1 = .ok (.iconst 0, 1) := by decide +kernel
theorem dX8_write_2 : decode cX8_write 2 = .ok (.putfield 112, 3) := by decide +kernel
theorem dX8_write_5 : decode cX8_write 5 = .ok (.aload_n 0, 1) := by decide +kernel
theorem dX8_write_6 : decode cX8_write 6 = .ok (.iload_n 1, 1) := by decide +kernel
theorem dX8_write_7 : decode cX8_write 7 = .ok (.invokevirtual 175, 3) := by decide +kernel
theorem dX8_write_10 : decode cX8_write 10 = .ok (.ifCond .ne 6, 3) := by decide +kernel
theorem dX8_write_13 : decode cX8_write 13 = .ok (.bipush (-2), 2) := by decide +kernel
theorem dX8_write_15 : decode cX8_write 15 = .ok (.ireturn, 1) := by decide +kernel
theorem dX8_write_16 : decode cX8_write 16 = .ok (.aload_n 0, 1) := by decide +kernel
theorem dX8_write_17 : decode cX8_write 17 = .ok (.iconst 0, 1) := by decide +kernel
theorem dX8_write_18 : decode cX8_write 18 = .ok (.putfield 227, 3) := by decide +kernel
theorem dX8_write_21 : decode cX8_write 21 = .ok (.aload_n 0, 1) := by decide +kernel
theorem dX8_write_22 : decode cX8_write 22 = .ok (.iconst 2, 1) := by decide +kernel
theorem dX8_write_23 : decode cX8_write 23 = .ok (.invokevirtual 230, 3) := by decide +kernel
theorem dX8_write_26 : decode cX8_write 26 = .ok (.aload_n 0, 1) := by decide +kernel
theorem dX8_write_27 : decode cX8_write 27 = .ok (.iconst 2, 1) := by decide +kernel
theorem dX8_write_28 : decode cX8_write 28 = .ok (.aload_n 0, 1) := by decide +kernel
theorem dX8_write_29 : decode cX8_write 29 = .ok (.getfield 66, 3) := by decide +kernel
theorem dX8_write_32 : decode cX8_write 32 = .ok (.bipush 60, 2) := by decide +kernel
theorem dX8_write_34 : decode cX8_write 34 = .ok (.iload_n 1, 1) := by decide +kernel
theorem dX8_write_35 : decode cX8_write 35 = .ok (.imul, 1) := by decide +kernel
theorem dX8_write_36 : decode cX8_write 36 = .ok (.aload_n 0, 1) := by decide +kernel
theorem dX8_write_37 : decode cX8_write 37 = .ok (.getfield 63, 3) := by decide +kernel
theorem dX8_write_40 : decode cX8_write 40 = .ok (.iload_n 1, 1) := by decide +kernel
theorem dX8_write_41 : decode cX8_write 41 = .ok (.iaload, 1) := by decide +kernel
theorem dX8_write_42 : decode cX8_write 42 = .ok (.invokevirtual 233, 3) := by decide +kernel
theorem dX8_write_45 : decode cX8_write 45 = .ok (.aload_n 0, 1) := by decide +kernel
theorem dX8_write_46 : decode cX8_write 46 = .ok (.iconst 0, 1) := by decide +kernel
theorem dX8_write_47 : decode cX8_write 47 = .ok (.invokevirtual 230, 3) := by decide +kernel
theorem dX8_write_50 : decode cX8_write 50 = .ok (.iconst 0, 1) := by decide +kernel
theorem dX8_write_51 : decode cX8_write 51 = .ok (.istore_n 2, 1) := by decide +kernel
theorem dX8_write_52 : decode cX8_write 52 = .ok (.iload_n 2, 1) := by decide +kernel
theorem dX8_write_53 : decode cX8_write 53 = .ok (.aload_n 0, 1) := by decide +kernel
theorem dX8_write_54 : decode cX8_write 54 = .ok (.getfield 69, 3) := by decide +kernel
theorem dX8_write_57 : decode cX8_write 57 = .ok (.iload_n 1, 1) := by decide +kernel
theorem dX8_write_58 : decode cX8_write 58 = .ok (.iaload, 1) := by decide +kernel
theorem dX8_write_59 : decode cX8_write 59 = .ok (.if_icmp .ge 64, 3) := by decide +kernel
theorem dX8_write_62 : decode cX8_write 62 = .ok (.bipush 10, 2) := by decide +kernel
theorem dX8_write_64 : decode cX8_write 64 = .ok (.iload_n 1, 1) := by decide +kernel
theorem dX8_write_65 : decode cX8_write 65 = .ok (.imul, 1) := by decide +kernel
theorem dX8_write_66 : decode cX8_write 66 = .ok (.iload_n 2, 1) := by decide +kernel
theorem dX8_write_67 : decode cX8_write 67 = .ok (.iadd, 1) := by decide +kernel
theorem dX8_write_68 : decode cX8_write 68 = .ok (.istore_n 3, 1) := by decide +kernel
theorem dX8_write_69 : decode cX8_write 69 = .ok (.aload_n 0, 1) := by decide +kernel
theorem dX8_write_70 : decode cX8_write 70 = .ok (.iconst 2, 1) := by decide +kernel
theorem dX8_write_71 : decode cX8_write 71 = .ok (.aload_n 0, 1) := by decide +kernel
theorem dX8_write_72 : decode cX8_write 72 = .ok (.getfield 75, 3) := by decide +kernel
theorem dX8_write_75 : decode cX8_write 75 = .ok (.bipush 60, 2) := by decide +kernel
theorem dX8_write_77 : decode cX8_write 77 = .ok (.iload_n 3, 1) := by decide +kernel
theorem dX8_write_78 : decode cX8_write 78 = .ok (.imul, 1) := by decide +kernel
theorem dX8_write_79 : decode cX8_write 79 = .ok (.aload_n 0, 1) := by decide +kernel
theorem dX8_write_80 : decode cX8_write 80 = .ok (.getfield 72, 3) := by decide +kernel
theorem dX8_write_83 : decode cX8_write 83 = .ok (.iload_n 3, 1) := by decide +kernel
theorem dX8_write_84 : decode cX8_write 84 = .ok (.iaload, 1) := by decide +kernel
theorem dX8_write_85 : decode cX8_write 85 = .ok (.invokevirtual 233, 3) := by decide +kernel
theorem dX8_write_88 : decode cX8_write 88 = .ok (.aload_n 0, 1) := by decide +kernel
theorem dX8_write_89 : decode cX8_write 89 = .ok (.getfield 78, 3) := by decide +kernel
theorem dX8_write_92 : decode cX8_write 92 = .ok (.iload_n 3, 1) := by decide +kernel
theorem dX8_write_93 : decode cX8_write 93 = .ok (.baload, 1) := by decide +kernel
theorem dX8_write_94 : decode cX8_write 94 = .ok (.ifCond .eq 18, 3) := by decide +kernel
theorem dX8_write_97 : decode cX8_write 97 = .ok (.aload_n 0, 1) := by decide +kernel
theorem dX8_write_98 : decode cX8_write 98 = .ok (.iconst 4, 1) := by decide +kernel
theorem dX8_write_99 : decode cX8_write 99 = .ok (.aload_n 0, 1) := by decide +kernel
theorem dX8_write_100 : decode cX8_write 100 = .ok (.getfield 81, 3) := by decide +kernel
theorem dX8_write_103 : decode cX8_write 103 = .ok (.bipush 32, 2) := by decide +kernel
theorem dX8_write_105 : decode cX8_write 105 = .ok (.iload_n 3, 1) := by decide +kernel
theorem dX8_write_106 : decode cX8_write 106 = .ok (.imul, 1) := by decide +kernel
theorem dX8_write_107 : decode cX8_write 107 = .ok (.bipush 32, 2) := by decide +kernel
theorem dX8_write_109 : decode cX8_write 109 = .ok (.invokevirtual 233, 3) := by decide +kernel
theorem dX8_write_112 : decode cX8_write 112 = .ok (.aload_n 0, 1) := by decide +kernel
theorem dX8_write_113 : decode cX8_write 113 = .ok (.iconst 0, 1) := by decide +kernel
theorem dX8_write_114 : decode cX8_write 114 = .ok (.invokevirtual 230, 3) := by decide +kernel
theorem dX8_write_117 : decode cX8_write 117 = .ok (.iinc 2 1, 3) := by decide +kernel
theorem dX8_write_120 : decode cX8_write 120 = .ok (.goto (-68), 3) := by decide +kernel
theorem dX8_write_123 : decode cX8_write 123 = .ok (.aload_n 0, 1) := by decide +kernel
theorem dX8_write_124 : decode cX8_write 124 = .ok (.iconst 0, 1) := by decide +kernel
theorem dX8_write_125 : decode cX8_write 125 = .ok (.invokevirtual 230, 3) := by decide +kernel
theorem dX8_write_128 : decode cX8_write 128 = .ok (.aload_n 0, 1) := by decide +kernel
theorem dX8_write_129 : decode cX8_write 129 = .ok (.bipush 6, 2) := by decide +kernel
theorem dX8_write_131 : decode cX8_write 131 = .ok (.aload_n 0, 1) := by decide +kernel
theorem dX8_write_132 : decode cX8_write 132 = .ok (.getfield 84, 3) := by decide +kernel
theorem dX8_write_135 : decode cX8_write 135 = .ok (.bipush 32, 2) := by decide +kernel
theorem dX8_write_137 : decode cX8_write 137 = .ok (.iload_n 1, 1) := by decide +kernel
theorem dX8_write_138 : decode cX8_write 138 = .ok (.imul, 1) := by decide +kernel
theorem dX8_write_139 : decode cX8_write 139 = .ok (.bipush 32, 2) := by decide +kernel
theorem dX8_write_141 : decode cX8_write 141 = .ok (.invokevirtual 233, 3) := by decide +kernel
theorem dX8_write_144 : decode cX8_write 144 = .ok (.aload_n 0, 1) := by decide +kernel
theorem dX8_write_145 : decode cX8_write 145 = .ok (.getfield 227, 3) := by decide +kernel
theorem dX8_write_148 : decode cX8_write 148 = .ok (.ireturn, 1) := by decide +kernel
set_option maxRecDepth 20000 in
theorem ggX8_type_X8_within : GoodIn wsX8_type wsX8_within := goodIn_r _ [7] rfl (by decide +kernel)
set_option maxRecDepth 20000 in
theorem gX8_type_X8_within : GoodIn wsX8_type (va_wsS RX8 153 yX8_within wsX8_within) := goodIn_app (goodIn_of _ (by decide +kernel)) ggX8_type_X8_within
set_option maxRecDepth 20000 in
theorem ggX8_type_X8_put : GoodIn wsX8_type wsX8_put := goodIn_r _ [11, 12, 2, 13, 14, 15, 16, 17, 18, 19, 20, 21, 22, 23, 24, 25, 26, 27, 28, 29, 30, 31, 32, 33, 34, 35, 36, 37, 38, 39, 40, 41, 42, 43, 44, 45, 46, 47, 48, 49, 50, 51, 52, 53, 54] rfl (by decide +kernel)
set_option maxRecDepth 20000 in
theorem gX8_type_X8_put : GoodIn wsX8_type (wsV RX8 230 RX8 yX8_put wsX8_put) := goodIn_app (goodIn_of _ (by decide +kernel)) ggX8_type_X8_put
theorem dX8_type_0 : decode cX8_type 0 = .ok (.aload_n 0, 1) := by decide +kernel
theorem dX8_type_1 : decode cX8_type 1 = .ok (.iconst 0, 1) := by decide +kernel
theorem dX8_type_2 : decode cX8_type 2 = .ok (.putfield 112, 3) := by decide +kernel
theorem dX8_type_5 : decode cX8_type 5 = .ok (.iload_n 3, 1) := by decide +kernel
theorem dX8_type_6 : decode cX8_type 6 = .ok (.iconst 1, 1) := by decide +kernel
theorem dX8_type_7 : decode cX8_type 7 = .ok (.bipush 8, 2) := by decide +kernel
theorem dX8_type_9 : decode cX8_type 9 = .ok (.invokestatic 153, 3) := by decide +kernel
theorem dX8_type_12 : decode cX8_type 12 = .ok (.ifCond .ne 6, 3) := by decide +kernel
theorem dX8_type_15 : decode cX8_type 15 = .ok (.bipush (-2), 2) := by decide +kernel
theorem dX8_type_17 : decode cX8_type 17 = .ok (.ireturn, 1) := by decide +kernel
