-- needs:
set_option maxRecDepth 20000 in
theorem ggX8_init_X8_root : GoodIn wsX8_init wsX8_root := goodIn_r _ [41, 42, 43, 44, 40, 45, 46] rfl (by decide +kernel)
set_option maxRecDepth 20000 in
theorem gX8_init_X8_root : GoodIn wsX8_init (va_wsS RX8 108 yX8_root wsX8_root) := goodIn_app (goodIn_of _ (by decide +kernel)) ggX8_init_X8_root
theorem dX8_init_0 : decode cX8_init 0 = .ok (.aload_n 0, 1) := by decide +kernel
theorem dX8_init_1 : decode cX8_init 1 = .ok (.invokespecial 1, 3) := by decide +kernel
theorem dX8_init_4 : decode cX8_init 4 = .ok (.aload_n 0, 1) := by decide +kernel
theorem dX8_init_5 : decode cX8_init 5 = .ok (.bipush 8, 2) := by decide +kernel
theorem dX8_init_7 : decode cX8_init 7 = .ok (.newarray .int, 2) := by decide +kernel
theorem dX8_init_9 : decode cX8_init 9 = .ok (.putfield 7, 3) := by decide +kernel
theorem dX8_init_12 : decode cX8_init 12 = .ok (.aload_n 0, 1) := by decide +kernel
theorem dX8_init_13 : decode cX8_init 13 = .ok (.bipush 64, 2) := by decide +kernel
theorem dX8_init_15 : decode cX8_init 15 = .ok (.newarray .int, 2) := by decide +kernel
theorem dX8_init_17 : decode cX8_init 17 = .ok (.putfield 13, 3) := by decide +kernel
theorem dX8_init_20 : decode cX8_init 20 = .ok (.aload_n 0, 1) := by decide +kernel
theorem dX8_init_21 : decode cX8_init 21 = .ok (.bipush 8, 2) := by decide +kernel
theorem dX8_init_23 : decode cX8_init 23 = .ok (.newarray .int, 2) := by decide +kernel
theorem dX8_init_25 : decode cX8_init 25 = .ok (.putfield 16, 3) := by decide +kernel
theorem dX8_init_28 : decode cX8_init 28 = .ok (.aload_n 0, 1) := by decide +kernel
theorem dX8_init_29 : decode cX8_init 29 = .ok (.bipush 64, 2) := by decide +kernel
theorem dX8_init_31 : decode cX8_init 31 = .ok (.newarray .int, 2) := by decide +kernel
theorem dX8_init_33 : decode cX8_init 33 = .ok (.putfield 19, 3) := by decide +kernel
theorem dX8_init_36 : decode cX8_init 36 = .ok (.aload_n 0, 1) := by decide +kernel
theorem dX8_init_37 : decode cX8_init 37 = .ok (.bipush 8, 2) := by decide +kernel
theorem dX8_init_39 : decode cX8_init 39 = .ok (.newarray .int, 2) := by decide +kernel
theorem dX8_init_41 : decode cX8_init 41 = .ok (.putfield 22, 3) := by decide +kernel
theorem dX8_init_44 : decode cX8_init 44 = .ok (.aload_n 0, 1) := by decide +kernel
theorem dX8_init_45 : decode cX8_init 45 = .ok (.sipush 400, 3) := by decide +kernel
theorem dX8_init_48 : decode cX8_init 48 = .ok (.newarray .int, 2) := by decide +kernel
theorem dX8_init_50 : decode cX8_init 50 = .ok (.putfield 25, 3) := by decide +kernel
theorem dX8_init_53 : decode cX8_init 53 = .ok (.aload_n 0, 1) := by decide +kernel
theorem dX8_init_54 : decode cX8_init 54 = .ok (.bipush 32, 2) := by decide +kernel
theorem dX8_init_56 : decode cX8_init 56 = .ok (.newarray .int, 2) := by decide +kernel
theorem dX8_init_58 : decode cX8_init 58 = .ok (.putfield 28, 3) := by decide +kernel
theorem dX8_init_61 : decode cX8_init 61 = .ok (.aload_n 0, 1) := by decide +kernel
theorem dX8_init_62 : decode cX8_init 62 = .ok (.bipush 100, 2) := by decide +kernel
theorem dX8_init_64 : decode cX8_init 64 = .ok (.newarray .int, 2) := by decide +kernel
theorem dX8_init_66 : decode cX8_init 66 = .ok (.putfield 31, 3) := by decide +kernel
theorem dX8_init_69 : decode cX8_init 69 = .ok (.aload_n 0, 1) := by decide +kernel
theorem dX8_init_70 : decode cX8_init 70 = .ok (.sipush 200, 3) := by decide +kernel
theorem dX8_init_73 : decode cX8_init 73 = .ok (.newarray .int, 2) := by decide +kernel
theorem dX8_init_75 : decode cX8_init 75 = .ok (.putfield 34, 3) := by decide +kernel
theorem dX8_init_78 : decode cX8_init 78 = .ok (.aload_n 0, 1) := by decide +kernel
theorem dX8_init_79 : decode cX8_init 79 = .ok (.bipush 32, 2) := by decide +kernel
theorem dX8_init_81 : decode cX8_init 81 = .ok (.newarray .int, 2) := by decide +kernel
theorem dX8_init_83 : decode cX8_init 83 = .ok (.putfield 37, 3) := by decide +kernel
theorem dX8_init_86 : decode cX8_init 86 = .ok (.aload_n 0, 1) := by decide +kernel
theorem dX8_init_87 : decode cX8_init 87 = .ok (.bipush 32, 2) := by decide +kernel
theorem dX8_init_89 : decode cX8_init 89 = .ok (.newarray .int, 2) := by decide +kernel
theorem dX8_init_91 : decode cX8_init 91 = .ok (.putfield 40, 3) := by decide +kernel
theorem dX8_init_94 : decode cX8_init 94 = .ok (.aload_n 0, 1) := by decide +kernel
theorem dX8_init_95 : decode cX8_init 95 = .ok (.bipush 32, 2) := by decide +kernel
theorem dX8_init_97 : decode cX8_init 97 = .ok (.newarray .int, 2) := by decide +kernel
theorem dX8_init_99 : decode cX8_init 99 = .ok (.putfield 43, 3) := by decide +kernel
theorem dX8_init_102 : decode cX8_init 102 = .ok (.aload_n 0, 1) := by decide +kernel
theorem dX8_init_103 : decode cX8_init 103 = .ok (.sipush 800, 3) := by decide +kernel
theorem dX8_init_106 : decode cX8_init 106 = .ok (.newarray .int, 2) := by decide +kernel
theorem dX8_init_108 : decode cX8_init 108 = .ok (.putfield 46, 3) := by decide +kernel
theorem dX8_init_111 : decode cX8_init 111 = .ok (.aload_n 0, 1) := by decide +kernel
theorem dX8_init_112 : decode cX8_init 112 = .ok (.bipush 8, 2) := by decide +kernel
theorem dX8_init_114 : decode cX8_init 114 = .ok (.newarray .int, 2) := by decide +kernel
theorem dX8_init_116 : decode cX8_init 116 = .ok (.putfield 49, 3) := by decide +kernel
theorem dX8_init_119 : decode cX8_init 119 = .ok (.aload_n 0, 1) := by decide +kernel
theorem dX8_init_120 : decode cX8_init 120 = .ok (.sipush 1200, 3) := by decide +kernel
theorem dX8_init_123 : decode cX8_init 123 = .ok (.newarray .int, 2) := by decide +kernel
theorem dX8_init_125 : decode cX8_init 125 = .ok (.putfield 52, 3) := by decide +kernel
theorem dX8_init_128 : decode cX8_init 128 = .ok (.aload_n 0, 1) := by decide +kernel
theorem dX8_init_129 : decode cX8_init 129 = .ok (.iconst (-1), 1) := by decide +kernel
theorem dX8_init_130 : decode cX8_init 130 = .ok (.putfield 55, 3) := by decide +kernel
theorem dX8_init_133 : decode cX8_init 133 = .ok (.aload_n 0, 1) := by decide +kernel
theorem dX8_init_134 : decode cX8_init 134 = .ok (.bipush 9, 2) := by decide +kernel
theorem dX8_init_136 : decode cX8_init 136 = .ok (.newarray .boolean, 2) := by decide +kernel
theorem dX8_init_138 : decode cX8_init 138 = .ok (.putfield 59, 3) := by decide +kernel
theorem dX8_init_141 : decode cX8_init 141 = .ok (.aload_n 0, 1) := by decide +kernel
theorem dX8_init_142 : decode cX8_init 142 = .ok (.bipush 9, 2) := by decide +kernel
theorem dX8_init_144 : decode cX8_init 144 = .ok (.newarray .int, 2) := by decide +kernel
theorem dX8_init_146 : decode cX8_init 146 = .ok (.putfield 63, 3) := by decide +kernel
theorem dX8_init_149 : decode cX8_init 149 = .ok (.aload_n 0, 1) := by decide +kernel
theorem dX8_init_150 : decode cX8_init 150 = .ok (.sipush 540, 3) := by decide +kernel
theorem dX8_init_153 : decode cX8_init 153 = .ok (.newarray .int, 2) := by decide +kernel
theorem dX8_init_155 : decode cX8_init 155 = .ok (.putfield 66, 3) := by decide +kernel
theorem dX8_init_158 : decode cX8_init 158 = .ok (.aload_n 0, 1) := by decide +kernel
theorem dX8_init_159 : decode cX8_init 159 = .ok (.bipush 9, 2) := by decide +kernel
theorem dX8_init_161 : decode cX8_init 161 = .ok (.newarray .int, 2) := by decide +kernel
theorem dX8_init_163 : decode cX8_init 163 = .ok (.putfield 69, 3) := by decide +kernel
theorem dX8_init_166 : decode cX8_init 166 = .ok (.aload_n 0, 1) := by decide +kernel
theorem dX8_init_167 : decode cX8_init 167 = .ok (.bipush 90, 2) := by decide +kernel
theorem dX8_init_169 : decode cX8_init 169 = .ok (.newarray .int, 2) := by decide +kernel
theorem dX8_init_171 : decode cX8_init 171 = .ok (.putfield 72, 3) := by decide +kernel
theorem dX8_init_174 : decode cX8_init 174 = .ok (.aload_n 0, 1) := by decide +kernel
theorem dX8_init_175 : decode cX8_init 175 = .ok (.sipush 5400, 3) := by decide +kernel
theorem dX8_init_178 : decode cX8_init 178 = .ok (.newarray .int, 2) := by decide +kernel
theorem dX8_init_180 : decode cX8_init 180 = .ok (.putfield 75, 3) := by decide +kernel
theorem dX8_init_183 : decode cX8_init 183 = .ok (.aload_n 0, 1) := by decide +kernel
theorem dX8_init_184 : decode cX8_init 184 = .ok (.bipush 90, 2) := by decide +kernel
theorem dX8_init_186 : decode cX8_init 186 = .ok (.newarray .boolean, 2) := by decide +kernel
theorem dX8_init_188 : decode cX8_init 188 = .ok (.putfield 78, 3) := by decide +kernel
theorem dX8_init_191 : decode cX8_init 191 = .ok (.aload_n 0, 1) := by decide +kernel
theorem dX8_init_192 : decode cX8_init 192 = .ok (.sipush 2880, 3) := by decide +kernel
theorem dX8_init_195 : decode cX8_init 195 = .ok (.newarray .int, 2) := by decide +kernel
theorem dX8_init_197 : decode cX8_init 197 = .ok (.putfield 81, 3) := by decide +kernel
theorem dX8_init_200 : decode cX8_init 200 = .ok (.aload_n 0, 1) := by decide +kernel
theorem dX8_init_201 : decode cX8_init 201 = .ok (.sipush 288, 3) := by decide +kernel
theorem dX8_init_204 : decode cX8_init 204 = .ok (.newarray .int, 2) := by decide +kernel
theorem dX8_init_206 : decode cX8_init 206 = .ok (.putfield 84, 3) := by decide +kernel
theorem dX8_init_209 : decode cX8_init 209 = .ok (.aload_n 0, 1) := by decide +kernel
theorem dX8_init_210 : decode cX8_init 210 = .ok (.bipush 8, 2) := by decide +kernel
theorem dX8_init_212 : decode cX8_init 212 = .ok (.newarray .int, 2) := by decide +kernel
theorem dX8_init_214 : decode cX8_init 214 = .ok (.putfield 87, 3) := by decide +kernel
theorem dX8_init_217 : decode cX8_init 217 = .ok (.aload_n 0, 1) := by decide +kernel
theorem dX8_init_218 : decode cX8_init 218 = .ok (.bipush 9, 2) := by decide +kernel
theorem dX8_init_220 : decode cX8_init 220 = .ok (.newarray .int, 2) := by decide +kernel
theorem dX8_init_222 : decode cX8_init 222 = .ok (.putfield 90, 3) := by decide +kernel
theorem dX8_init_225 : decode cX8_init 225 = .ok (.aload_n 0, 1) := by decide +kernel
theorem dX8_init_226 : decode cX8_init 226 = .ok (.bipush 9, 2) := by decide +kernel
theorem dX8_init_228 : decode cX8_init 228 = .ok (.newarray .int, 2) := by decide +kernel
theorem dX8_init_230 : decode cX8_init 230 = .ok (.putfield 93, 3) := by decide +kernel
theorem dX8_init_233 : decode cX8_init 233 = .ok (.aload_n 0, 1) := by decide +kernel
theorem dX8_init_234 : decode cX8_init 234 = .ok (.sipush 288, 3) := by decide +kernel
theorem dX8_init_237 : decode cX8_init 237 = .ok (.newarray .int, 2) := by decide +kernel
theorem dX8_init_239 : decode cX8_init 239 = .ok (.putfield 96, 3) := by decide +kernel
theorem dX8_init_242 : decode cX8_init 242 = .ok (.aload_n 0, 1) := by decide +kernel
theorem dX8_init_243 : decode cX8_init 243 = .ok (.bipush 8, 2) := by decide +kernel
theorem dX8_init_245 : decode cX8_init 245 = .ok (.newarray .boolean, 2) := by decide +kernel
theorem dX8_init_247 : decode cX8_init 247 = .ok (.putfield 99, 3) := by decide +kernel
theorem dX8_init_250 : decode cX8_init 250 = .ok (.aload_n 0, 1) := by decide +kernel
theorem dX8_init_251 : decode cX8_init 251 = .ok (.iconst (-1), 1) := by decide +kernel
theorem dX8_init_252 : decode cX8_init 252 = .ok (.putfield 102, 3) := by decide +kernel
theorem dX8_init_255 : decode cX8_init 255 = .ok (.aload_n 0, 1) := by decide +kernel
theorem dX8_init_256 : decode cX8_init 256 = .ok (.iconst (-1), 1) := by decide +kernel
theorem dX8_init_257 : decode cX8_init 257 = .ok (.putfield 105, 3) := by decide +kernel
theorem dX8_init_260 : decode cX8_init 260 = .ok (.iconst 0, 1) := by decide +kernel
theorem dX8_init_261 : decode cX8_init 261 = .ok (.istore_n 1, 1) := by decide +kernel
theorem dX8_init_262 : decode cX8_init 262 = .ok (.iconst 2, 1) := by decide +kernel
theorem dX8_init_263 : decode cX8_init 263 = .ok (.istore_n 2, 1) := by decide +kernel
theorem dX8_init_264 : decode cX8_init 264 = .ok (.iload_n 1, 1) := by decide +kernel
theorem dX8_init_265 : decode cX8_init 265 = .ok (.bipush 64, 2) := by decide +kernel
theorem dX8_init_267 : decode cX8_init 267 = .ok (.if_icmp .ge 78, 3) := by decide +kernel
theorem dX8_init_270 : decode cX8_init 270 = .ok (.iconst 1, 1) := by decide +kernel
theorem dX8_init_271 : decode cX8_init 271 = .ok (.istore_n 3, 1) := by decide +kernel
theorem dX8_init_272 : decode cX8_init 272 = .ok (.iconst 2, 1) := by decide +kernel
theorem dX8_init_273 : decode cX8_init 273 = .ok (.istore 4, 2) := by decide +kernel
theorem dX8_init_275 : decode cX8_init 275 = .ok (.iload 4, 2) := by decide +kernel
theorem dX8_init_277 : decode cX8_init 277 = .ok (.iload_n 2, 1) := by decide +kernel
theorem dX8_init_278 : decode cX8_init 278 = .ok (.if_icmp .ge 26, 3) := by decide +kernel
theorem dX8_init_281 : decode cX8_init 281 = .ok (.iload_n 3, 1) := by decide +kernel
theorem dX8_init_282 : decode cX8_init 282 = .ok (.ifCond .eq 14, 3) := by decide +kernel
theorem dX8_init_285 : decode cX8_init 285 = .ok (.iload_n 2, 1) := by decide +kernel
theorem dX8_init_286 : decode cX8_init 286 = .ok (.iload 4, 2) := by decide +kernel
theorem dX8_init_288 : decode cX8_init 288 = .ok (.irem, 1) := by decide +kernel
theorem dX8_init_289 : decode cX8_init 289 = .ok (.ifCond .eq 7, 3) := by decide +kernel
theorem dX8_init_292 : decode cX8_init 292 = .ok (.iconst 1, 1) := by decide +kernel
theorem dX8_init_293 : decode cX8_init 293 = .ok (.goto 4, 3) := by decide +kernel
theorem dX8_init_296 : decode cX8_init 296 = .ok (.iconst 0, 1) := by decide +kernel
theorem dX8_init_297 : decode cX8_init 297 = .ok (.istore_n 3, 1) := by decide +kernel
theorem dX8_init_298 : decode cX8_init 298 = .ok (.iinc 4 1, 3) := by decide +kernel
theorem dX8_init_301 : decode cX8_init 301 = .ok (.goto (-26), 3) := by decide +kernel
theorem dX8_init_304 : decode cX8_init 304 = .ok (.iload_n 3, 1) := by decide +kernel
theorem dX8_init_305 : decode cX8_init 305 = .ok (.ifCond .eq 34, 3) := by decide +kernel
theorem dX8_init_308 : decode cX8_init 308 = .ok (.aload_n 0, 1) := by decide +kernel
theorem dX8_init_309 : decode cX8_init 309 = .ok (.getfield 13, 3) := by decide +kernel
theorem dX8_init_312 : decode cX8_init 312 = .ok (.iload_n 1, 1) := by decide +kernel
theorem dX8_init_313 : decode cX8_init 313 = .ok (.iload_n 2, 1) := by decide +kernel
theorem dX8_init_314 : decode cX8_init 314 = .ok (.iconst 3, 1) := by decide +kernel
theorem dX8_init_315 : decode cX8_init 315 = .ok (.invokestatic 108, 3) := by decide +kernel
theorem dX8_init_318 : decode cX8_init 318 = .ok (.iastore, 1) := by decide +kernel
theorem dX8_init_319 : decode cX8_init 319 = .ok (.iload_n 1, 1) := by decide +kernel
theorem dX8_init_320 : decode cX8_init 320 = .ok (.bipush 8, 2) := by decide +kernel
theorem dX8_init_322 : decode cX8_init 322 = .ok (.if_icmp .ge 14, 3) := by decide +kernel
theorem dX8_init_325 : decode cX8_init 325 = .ok (.aload_n 0, 1) := by decide +kernel
theorem dX8_init_326 : decode cX8_init 326 = .ok (.getfield 7, 3) := by decide +kernel
theorem dX8_init_329 : decode cX8_init 329 = .ok (.iload_n 1, 1) := by decide +kernel
theorem dX8_init_330 : decode cX8_init 330 = .ok (.iload_n 2, 1) := by decide +kernel
theorem dX8_init_331 : decode cX8_init 331 = .ok (.iconst 2, 1) := by decide +kernel
theorem dX8_init_332 : decode cX8_init 332 = .ok (.invokestatic 108, 3) := by decide +kernel
theorem dX8_init_335 : decode cX8_init 335 = .ok (.iastore, 1) := by decide +kernel
theorem dX8_init_336 : decode cX8_init 336 = .ok (.iinc 1 1, 3) := by decide +kernel
theorem dX8_init_339 : decode cX8_init 339 = .ok (.iinc 2 1, 3) := by decide +kernel
theorem dX8_init_342 : decode cX8_init 342 = .ok (.goto (-78), 3) := by decide +kernel
theorem dX8_init_345 : decode cX8_init 345 = .ok (.return_, 1) := by decide +kernel
theorem dX8_within_0 : decode cX8_within 0 = .ok (.iload_n 0, 1) := by decide +kernel
theorem dX8_within_1 : decode cX8_within 1 = .ok (.iload_n 1, 1) := by decide +kernel
theorem dX8_within_2 : decode cX8_within 2 = .ok (.if_icmp .lt 12, 3) := by decide +kernel
theorem dX8_within_5 : decode cX8_within 5 = .ok (.iload_n 0, 1) := by decide +kernel
theorem dX8_within_6 : decode cX8_within 6 = .ok (.iload_n 2, 1) := by decide +kernel
theorem dX8_within_7 : decode cX8_within 7 = .ok (.if_icmp .gt 7, 3) := by decide +kernel
theorem dX8_within_10 : decode cX8_within 10 = .ok (.iconst 1, 1) := by decide +kernel
theorem dX8_within_11 : decode cX8_within 11 = .ok (.goto 4, 3) := by decide +kernel
theorem dX8_within_14 : decode cX8_within 14 = .ok (.iconst 0, 1) := by decide +kernel
theorem dX8_within_15 : decode cX8_within 15 = .ok (.ireturn, 1) := by decide +kernel
set_option maxRecDepth 20000 in
theorem ggX8_root_X8_isUnder : GoodIn wsX8_root wsX8_isUnder := goodIn_r _ [5, 1, 6] rfl (by decide +kernel)
set_option maxRecDepth 20000 in
theorem gX8_root_X8_isUnder : GoodIn wsX8_root (va_wsS RX8 115 yX8_isUnder wsX8_isUnder) := goodIn_app (goodIn_of _ (by decide +kernel)) ggX8_root_X8_isUnder
theorem dX8_root_0 : decode cX8_root 0 = .ok (.lconst 0, 1) := by decide +kernel
theorem dX8_root_1 : decode cX8_root 1 = .ok (.lstore_n 2, 1) := by decide +kernel
theorem dX8_root_2 : decode cX8_root 2 = .ok (.bipush 36, 2) := by decide +kernel
theorem dX8_root_4 : decode cX8_root 4 = .ok (.istore 4, 2) := by decide +kernel
theorem dX8_root_6 : decode cX8_root 6 = .ok (.iload 4, 2) := by decide +kernel
theorem dX8_root_8 : decode cX8_root 8 = .ok (.ifCond .lt 34, 3) := by decide +kernel
theorem dX8_root_11 : decode cX8_root 11 = .ok (.lload_n 2, 1) := by decide +kernel
theorem dX8_root_12 : decode cX8_root 12 = .ok (.lconst 1, 1) := by decide +kernel
theorem dX8_root_13 : decode cX8_root 13 = .ok (.iload 4, 2) := by decide +kernel
theorem dX8_root_15 : decode cX8_root 15 = .ok (.lshl, 1) := by decide +kernel
theorem dX8_root_16 : decode cX8_root 16 = .ok (.ladd, 1) := by decide +kernel
theorem dX8_root_17 : decode cX8_root 17 = .ok (.lstore 5, 2) := by decide +kernel
theorem dX8_root_19 : decode cX8_root 19 = .ok (.lload 5, 2) := by decide +kernel
theorem dX8_root_21 : decode cX8_root 21 = .ok (.iload_n 0, 1) := by decide +kernel
theorem dX8_root_22 : decode cX8_root 22 = .ok (.iload_n 1, 1) := by decide +kernel
theorem dX8_root_23 : decode cX8_root 23 = .ok (.invokestatic 115, 3) := by decide +kernel
theorem dX8_root_26 : decode cX8_root 26 = .ok (.ifCond .eq 8, 3) := by decide +kernel
theorem dX8_root_29 : decode cX8_root 29 = .ok (.lload 5, 2) := by decide +kernel
theorem dX8_root_31 : decode cX8_root 31 = .ok (.goto 4, 3) := by decide +kernel
theorem dX8_root_34 : decode cX8_root 34 = .ok (.lload_n 2, 1) := by decide +kernel
theorem dX8_root_35 : decode cX8_root 35 = .ok (.lstore_n 2, 1) := by decide +kernel
theorem dX8_root_36 : decode cX8_root 36 = .ok (.iinc 4 (-1), 3) := by decide +kernel
theorem dX8_root_39 : decode cX8_root 39 = .ok (.goto (-33), 3) := by decide +kernel
theorem dX8_root_42 : decode cX8_root 42 = .ok (.lload_n 2, 1) := by decide +kernel
theorem dX8_root_43 : decode cX8_root 43 = .ok (.ldc2_w 119, 3) := by decide +kernel
theorem dX8_root_46 : decode cX8_root 46 = .ok (.land, 1) := by decide +kernel
theorem dX8_root_47 : decode cX8_root 47 = .ok (.l2i, 1) := by decide +kernel
theorem dX8_root_48 : decode cX8_root 48 = .ok (.ireturn, 1) := by decide +kernel
theorem dX8_isUnder_0 : decode cX8_isUnder 0 = .ok (.lload_n 0, 1) := by decide +kernel
theorem dX8_isUnder_1 : decode cX8_isUnder 1 = .ok (.ldc2_w 119, 3) := by decide +kernel
theorem dX8_isUnder_4 : decode cX8_isUnder 4 = .ok (.land, 1) := by decide +kernel
theorem dX8_isUnder_5 : decode cX8_isUnder 5 = .ok (.lstore 4, 2) := by decide +kernel
theorem dX8_isUnder_7 : decode cX8_isUnder 7 = .ok (.lload_n 0, 1) := by decide +kernel
theorem dX8_isUnder_8 : decode cX8_isUnder 8 = .ok (.bipush 32, 2) := by decide +kernel
theorem dX8_isUnder_10 : decode cX8_isUnder 10 = .ok (.lshr, 1) := by decide +kernel
theorem dX8_isUnder_11 : decode cX8_isUnder 11 = .ok (.lstore 6, 2) := by decide +kernel
theorem dX8_isUnder_13 : decode cX8_isUnder 13 = .ok (.lload 4, 2) := by decide +kernel
theorem dX8_isUnder_15 : decode cX8_isUnder 15 = .ok (.lload 4, 2) := by decide +kernel
theorem dX8_isUnder_17 : decode cX8_isUnder 17 = .ok (.lmul, 1) := by decide +kernel
theorem dX8_isUnder_18 : decode cX8_isUnder 18 = .ok (.lstore 8, 2) := by decide +kernel
theorem dX8_isUnder_20 : decode cX8_isUnder 20 = .ok (.lload 8, 2) := by decide +kernel
theorem dX8_isUnder_22 : decode cX8_isUnder 22 = .ok (.ldc2_w 119, 3) := by decide +kernel
theorem dX8_isUnder_25 : decode cX8_isUnder 25 = .ok (.land, 1) := by decide +kernel
theorem dX8_isUnder_26 : decode cX8_isUnder 26 = .ok (.lstore 10, 2) := by decide +kernel
theorem dX8_isUnder_28 : decode cX8_isUnder 28 = .ok (.ldc2_w 121, 3) := by decide +kernel
theorem dX8_isUnder_31 : decode cX8_isUnder 31 = .ok (.lload 4, 2) := by decide +kernel
theorem dX8_isUnder_33 : decode cX8_isUnder 33 = .ok (.lmul, 1) := by decide +kernel
theorem dX8_isUnder_34 : decode cX8_isUnder 34 = .ok (.lload 6, 2) := by decide +kernel
theorem dX8_isUnder_36 : decode cX8_isUnder 36 = .ok (.lmul, 1) := by decide +kernel
theorem dX8_isUnder_37 : decode cX8_isUnder 37 = .ok (.lload 8, 2) := by decide +kernel
theorem dX8_isUnder_39 : decode cX8_isUnder 39 = .ok (.bipush 32, 2) := by decide +kernel
theorem dX8_isUnder_41 : decode cX8_isUnder 41 = .ok (.lushr, 1) := by decide +kernel
theorem dX8_isUnder_42 : decode cX8_isUnder 42 = .ok (.ladd, 1) := by decide +kernel
theorem dX8_isUnder_43 : decode cX8_isUnder 43 = .ok (.lstore 12, 2) := by decide +kernel
theorem dX8_isUnder_45 : decode cX8_isUnder 45 = .ok (.lload 12, 2) := by decide +kernel
theorem dX8_isUnder_47 : decode cX8_isUnder 47 = .ok (.ldc2_w 119, 3) := by decide +kernel
theorem dX8_isUnder_50 : decode cX8_isUnder 50 = .ok (.land, 1) := by decide +kernel
theorem dX8_isUnder_51 : decode cX8_isUnder 51 = .ok (.lstore 14, 2) := by decide +kernel
theorem dX8_isUnder_53 : decode cX8_isUnder 53 = .ok (.lload 6, 2) := by decide +kernel
theorem dX8_isUnder_55 : decode cX8_isUnder 55 = .ok (.lload 6, 2) := by decide +kernel
theorem dX8_isUnder_57 : decode cX8_isUnder 57 = .ok (.lmul, 1) := by decide +kernel
theorem dX8_isUnder_58 : decode cX8_isUnder 58 = .ok (.lload 12, 2) := by decide +kernel
theorem dX8_isUnder_60 : decode cX8_isUnder 60 = .ok (.bipush 32, 2) := by decide +kernel
theorem dX8_isUnder_62 : decode cX8_isUnder 62 = .ok (.lushr, 1) := by decide +kernel
theorem dX8_isUnder_63 : decode cX8_isUnder 63 = .ok (.ladd, 1) := by decide +kernel
theorem dX8_isUnder_64 : decode cX8_isUnder 64 = .ok (.lstore 16, 2) := by decide +kernel
theorem dX8_isUnder_66 : decode cX8_isUnder 66 = .ok (.iload_n 3, 1) := by decide +kernel
theorem dX8_isUnder_67 : decode cX8_isUnder 67 = .ok (.iconst 2, 1) := by decide +kernel
theorem dX8_isUnder_68 : decode cX8_isUnder 68 = .ok (.if_icmp .ne 39, 3) := by decide +kernel
theorem dX8_isUnder_71 : decode cX8_isUnder 71 = .ok (.lload 16, 2) := by decide +kernel
theorem dX8_isUnder_73 : decode cX8_isUnder 73 = .ok (.iload_n 2, 1) := by decide +kernel
theorem dX8_isUnder_74 : decode cX8_isUnder 74 = .ok (.i2l, 1) := by decide +kernel
theorem dX8_isUnder_75 : decode cX8_isUnder 75 = .ok (.lcmp, 1) := by decide +kernel
theorem dX8_isUnder_76 : decode cX8_isUnder 76 = .ok (.ifCond .lt 25, 3) := by decide +kernel
theorem dX8_isUnder_79 : decode cX8_isUnder 79 = .ok (.lload 16, 2) := by decide +kernel
theorem dX8_isUnder_81 : decode cX8_isUnder 81 = .ok (.iload_n 2, 1) := by decide +kernel
theorem dX8_isUnder_82 : decode cX8_isUnder 82 = .ok (.i2l, 1) := by decide +kernel
theorem dX8_isUnder_83 : decode cX8_isUnder 83 = .ok (.lcmp, 1) := by decide +kernel
theorem dX8_isUnder_84 : decode cX8_isUnder 84 = .ok (.ifCond .ne 21, 3) := by decide +kernel
theorem dX8_isUnder_87 : decode cX8_isUnder 87 = .ok (.lload 14, 2) := by decide +kernel
theorem dX8_isUnder_89 : decode cX8_isUnder 89 = .ok (.lconst 0, 1) := by decide +kernel
theorem dX8_isUnder_90 : decode cX8_isUnder 90 = .ok (.lcmp, 1) := by decide +kernel
theorem dX8_isUnder_91 : decode cX8_isUnder 91 = .ok (.ifCond .ne 14, 3) := by decide +kernel
theorem dX8_isUnder_94 : decode cX8_isUnder 94 = .ok (.lload 10, 2) := by decide +kernel
theorem dX8_isUnder_96 : decode cX8_isUnder 96 = .ok (.lconst 0, 1) := by decide +kernel
theorem dX8_isUnder_97 : decode cX8_isUnder 97 = .ok (.lcmp, 1) := by decide +kernel
theorem dX8_isUnder_98 : decode cX8_isUnder 98 = .ok (.ifCond .ne 7, 3) := by decide +kernel
theorem dX8_isUnder_101 : decode cX8_isUnder 101 = .ok (.iconst 1, 1) := by decide +kernel
theorem dX8_isUnder_102 : decode cX8_isUnder 102 = .ok (.goto 4, 3) := by decide +kernel
theorem dX8_isUnder_105 : decode cX8_isUnder 105 = .ok (.iconst 0, 1) := by decide +kernel
theorem dX8_isUnder_106 : decode cX8_isUnder 106 = .ok (.ireturn, 1) := by decide +kernel
theorem dX8_isUnder_107 : decode cX8_isUnder 107 = .ok (.lload 10, 2) := by decide +kernel
theorem dX8_isUnder_109 : decode cX8_isUnder 109 = .ok (.lload 4, 2) := by decide +kernel
theorem dX8_isUnder_111 : decode cX8_isUnder 111 = .ok (.lmul, 1) := by decide +kernel
theorem dX8_isUnder_112 : decode cX8_isUnder 112 = .ok (.lstore 18, 2) := by decide +kernel
theorem dX8_isUnder_114 : decode cX8_isUnder 114 = .ok (.lload 18, 2) := by decide +kernel
theorem dX8_isUnder_116 : decode cX8_isUnder 116 = .ok (.ldc2_w 119, 3) := by decide +kernel
theorem dX8_isUnder_119 : decode cX8_isUnder 119 = .ok (.land, 1) := by decide +kernel
theorem dX8_isUnder_120 : decode cX8_isUnder 120 = .ok (.lstore 20, 2) := by decide +kernel
theorem dX8_isUnder_122 : decode cX8_isUnder 122 = .ok (.lload 18, 2) := by decide +kernel
theorem dX8_isUnder_124 : decode cX8_isUnder 124 = .ok (.bipush 32, 2) := by decide +kernel
theorem dX8_isUnder_126 : decode cX8_isUnder 126 = .ok (.lushr, 1) := by decide +kernel
theorem dX8_isUnder_127 : decode cX8_isUnder 127 = .ok (.lstore 22, 2) := by decide +kernel
theorem dX8_isUnder_129 : decode cX8_isUnder 129 = .ok (.lload 14, 2) := by decide +kernel
theorem dX8_isUnder_131 : decode cX8_isUnder 131 = .ok (.lload 4, 2) := by decide +kernel
theorem dX8_isUnder_133 : decode cX8_isUnder 133 = .ok (.lmul, 1) := by decide +kernel
theorem dX8_isUnder_134 : decode cX8_isUnder 134 = .ok (.lstore 24, 2) := by decide +kernel
theorem dX8_isUnder_136 : decode cX8_isUnder 136 = .ok (.lload 24, 2) := by decide +kernel
theorem dX8_isUnder_138 : decode cX8_isUnder 138 = .ok (.ldc2_w 119, 3) := by decide +kernel
theorem dX8_isUnder_141 : decode cX8_isUnder 141 = .ok (.land, 1) := by decide +kernel
theorem dX8_isUnder_142 : decode cX8_isUnder 142 = .ok (.lload 10, 2) := by decide +kernel
theorem dX8_isUnder_144 : decode cX8_isUnder 144 = .ok (.lload 6, 2) := by decide +kernel
theorem dX8_isUnder_146 : decode cX8_isUnder 146 = .ok (.lmul, 1) := by decide +kernel
theorem dX8_isUnder_147 : decode cX8_isUnder 147 = .ok (.ladd, 1) := by decide +kernel
theorem dX8_isUnder_148 : decode cX8_isUnder 148 = .ok (.lload 22, 2) := by decide +kernel
theorem dX8_isUnder_150 : decode cX8_isUnder 150 = .ok (.ladd, 1) := by decide +kernel
theorem dX8_isUnder_151 : decode cX8_isUnder 151 = .ok (.lstore 26, 2) := by decide +kernel
theorem dX8_isUnder_153 : decode cX8_isUnder 153 = .ok (.lload 26, 2) := by decide +kernel
theorem dX8_isUnder_155 : decode cX8_isUnder 155 = .ok (.ldc2_w 119, 3) := by decide +kernel
theorem dX8_isUnder_158 : decode cX8_isUnder 158 = .ok (.land, 1) := by decide +kernel
theorem dX8_isUnder_159 : decode cX8_isUnder 159 = .ok (.lstore 28, 2) := by decide +kernel
theorem dX8_isUnder_161 : decode cX8_isUnder 161 = .ok (.lload 24, 2) := by decide +kernel
theorem dX8_isUnder_163 : decode cX8_isUnder 163 = .ok (.bipush 32, 2) := by decide +kernel
theorem dX8_isUnder_165 : decode cX8_isUnder 165 = .ok (.lushr, 1) := by decide +kernel
theorem dX8_isUnder_166 : decode cX8_isUnder 166 = .ok (.lload 26, 2) := by decide +kernel
theorem dX8_isUnder_168 : decode cX8_isUnder 168 = .ok (.bipush 32, 2) := by decide +kernel
theorem dX8_isUnder_170 : decode cX8_isUnder 170 = .ok (.lushr, 1) := by decide +kernel
theorem dX8_isUnder_171 : decode cX8_isUnder 171 = .ok (.ladd, 1) := by decide +kernel
theorem dX8_isUnder_172 : decode cX8_isUnder 172 = .ok (.lload 16, 2) := by decide +kernel
theorem dX8_isUnder_174 : decode cX8_isUnder 174 = .ok (.lload 4, 2) := by decide +kernel
theorem dX8_isUnder_176 : decode cX8_isUnder 176 = .ok (.lmul, 1) := by decide +kernel
theorem dX8_isUnder_177 : decode cX8_isUnder 177 = .ok (.ladd, 1) := by decide +kernel
theorem dX8_isUnder_178 : decode cX8_isUnder 178 = .ok (.lload 14, 2) := by decide +kernel
theorem dX8_isUnder_180 : decode cX8_isUnder 180 = .ok (.lload 6, 2) := by decide +kernel
theorem dX8_isUnder_182 : decode cX8_isUnder 182 = .ok (.lmul, 1) := by decide +kernel
theorem dX8_isUnder_183 : decode cX8_isUnder 183 = .ok (.ladd, 1) := by decide +kernel
theorem dX8_isUnder_184 : decode cX8_isUnder 184 = .ok (.lstore 30, 2) := by decide +kernel
theorem dX8_isUnder_186 : decode cX8_isUnder 186 = .ok (.lload 30, 2) := by decide +kernel
theorem dX8_isUnder_188 : decode cX8_isUnder 188 = .ok (.ldc2_w 119, 3) := by decide +kernel
theorem dX8_isUnder_191 : decode cX8_isUnder 191 = .ok (.land, 1) := by decide +kernel
theorem dX8_isUnder_192 : decode cX8_isUnder 192 = .ok (.lstore 32, 2) := by decide +kernel
theorem dX8_isUnder_194 : decode cX8_isUnder 194 = .ok (.lload 30, 2) := by decide +kernel
theorem dX8_isUnder_196 : decode cX8_isUnder 196 = .ok (.bipush 32, 2) := by decide +kernel
theorem dX8_isUnder_198 : decode cX8_isUnder 198 = .ok (.lushr, 1) := by decide +kernel
theorem dX8_isUnder_199 : decode cX8_isUnder 199 = .ok (.lload 16, 2) := by decide +kernel
theorem dX8_isUnder_201 : decode cX8_isUnder 201 = .ok (.lload 6, 2) := by decide +kernel
theorem dX8_isUnder_203 : decode cX8_isUnder 203 = .ok (.lmul, 1) := by decide +kernel
theorem dX8_isUnder_204 : decode cX8_isUnder 204 = .ok (.ladd, 1) := by decide +kernel
theorem dX8_isUnder_205 : decode cX8_isUnder 205 = .ok (.lstore 34, 2) := by decide +kernel
theorem dX8_isUnder_207 : decode cX8_isUnder 207 = .ok (.lload 34, 2) := by decide +kernel
theorem dX8_isUnder_209 : decode cX8_isUnder 209 = .ok (.iload_n 2, 1) := by decide +kernel
theorem dX8_isUnder_210 : decode cX8_isUnder 210 = .ok (.i2l, 1) := by decide +kernel
theorem dX8_isUnder_211 : decode cX8_isUnder 211 = .ok (.lcmp, 1) := by decide +kernel
theorem dX8_isUnder_212 : decode cX8_isUnder 212 = .ok (.ifCond .lt 32, 3) := by decide +kernel
theorem dX8_isUnder_215 : decode cX8_isUnder 215 = .ok (.lload 34, 2) := by decide +kernel
theorem dX8_isUnder_217 : decode cX8_isUnder 217 = .ok (.iload_n 2, 1) := by decide +kernel
theorem dX8_isUnder_218 : decode cX8_isUnder 218 = .ok (.i2l, 1) := by decide +kernel
theorem dX8_isUnder_219 : decode cX8_isUnder 219 = .ok (.lcmp, 1) := by decide +kernel
theorem dX8_isUnder_220 : decode cX8_isUnder 220 = .ok (.ifCond .ne 28, 3) := by decide +kernel
theorem dX8_isUnder_223 : decode cX8_isUnder 223 = .ok (.lload 32, 2) := by decide +kernel
theorem dX8_isUnder_225 : decode cX8_isUnder 225 = .ok (.lconst 0, 1) := by decide +kernel
theorem dX8_isUnder_226 : decode cX8_isUnder 226 = .ok (.lcmp, 1) := by decide +kernel
theorem dX8_isUnder_227 : decode cX8_isUnder 227 = .ok (.ifCond .ne 21, 3) := by decide +kernel
theorem dX8_isUnder_230 : decode cX8_isUnder 230 = .ok (.lload 28, 2) := by decide +kernel
theorem dX8_isUnder_232 : decode cX8_isUnder 232 = .ok (.lconst 0, 1) := by decide +kernel
theorem dX8_isUnder_233 : decode cX8_isUnder 233 = .ok (.lcmp, 1) := by decide +kernel
theorem dX8_isUnder_234 : decode cX8_isUnder 234 = .ok (.ifCond .ne 14, 3) := by decide +kernel
theorem dX8_isUnder_237 : decode cX8_isUnder 237 = .ok (.lload 20, 2) := by decide +kernel
theorem dX8_isUnder_239 : decode cX8_isUnder 239 = .ok (.lconst 0, 1) := by decide +kernel
theorem dX8_isUnder_240 : decode cX8_isUnder 240 = .ok (.lcmp, 1) := by decide +kernel
theorem dX8_isUnder_241 : decode cX8_isUnder 241 = .ok (.ifCond .ne 7, 3) := by decide +kernel
theorem dX8_isUnder_244 : decode cX8_isUnder 244 = .ok (.iconst 1, 1) := by decide +kernel
theorem dX8_isUnder_245 : decode cX8_isUnder 245 = .ok (.goto 4, 3) := by decide +kernel
theorem dX8_isUnder_248 : decode cX8_isUnder 248 = .ok (.iconst 0, 1) := by decide +kernel
theorem dX8_isUnder_249 : decode cX8_isUnder 249 = .ok (.ireturn, 1) := by decide +kernel
theorem dX8_turned_0 : decode cX8_turned 0 = .ok (.iload_n 0, 1) := by decide +kernel
theorem dX8_turned_1 : decode cX8_turned 1 = .ok (.iload_n 1, 1) := by decide +kernel
theorem dX8_turned_2 : decode cX8_turned 2 = .ok (.iushr, 1) := by decide +kernel
theorem dX8_turned_3 : decode cX8_turned 3 = .ok (.iload_n 0, 1) := by decide +kernel
theorem dX8_turned_4 : decode cX8_turned 4 = .ok (.bipush 32, 2) := by decide +kernel
theorem dX8_turned_6 : decode cX8_turned 6 = .ok (.iload_n 1, 1) := by decide +kernel
theorem dX8_turned_7 : decode cX8_turned 7 = .ok (.isub, 1) := by decide +kernel
theorem dX8_turned_8 : decode cX8_turned 8 = .ok (.ishl, 1) := by decide +kernel
theorem dX8_turned_9 : decode cX8_turned 9 = .ok (.ior, 1) := by decide +kernel
theorem dX8_turned_10 : decode cX8_turned 10 = .ok (.ireturn, 1) := by decide +kernel
set_option maxRecDepth 20000 in
theorem ggX8_mix_X8_turned : GoodIn wsX8_mix wsX8_turned := goodIn_r _ [8] rfl (by decide +kernel)
set_option maxRecDepth 20000 in
theorem gX8_mix_X8_turned : GoodIn wsX8_mix (va_wsS RX8 123 yX8_turned wsX8_turned) := goodIn_app (goodIn_of _ (by decide +kernel)) ggX8_mix_X8_turned
theorem dX8_mix_0 : decode cX8_mix 0 = .ok (.bipush 16, 2) := by decide +kernel
theorem dX8_mix_2 : decode cX8_mix 2 = .ok (.istore_n 1, 1) := by decide +kernel
theorem dX8_mix_3 : decode cX8_mix 3 = .ok (.iload_n 1, 1) := by decide +kernel
theorem dX8_mix_4 : decode cX8_mix 4 = .ok (.bipush 64, 2) := by decide +kernel
theorem dX8_mix_6 : decode cX8_mix 6 = .ok (.if_icmp .ge 90, 3) := by decide +kernel
theorem dX8_mix_9 : decode cX8_mix 9 = .ok (.aload_n 0, 1) := by decide +kernel
theorem dX8_mix_10 : decode cX8_mix 10 = .ok (.getfield 19, 3) := by decide +kernel
theorem dX8_mix_13 : decode cX8_mix 13 = .ok (.iload_n 1, 1) := by decide +kernel
theorem dX8_mix_14 : decode cX8_mix 14 = .ok (.bipush 15, 2) := by decide +kernel
theorem dX8_mix_16 : decode cX8_mix 16 = .ok (.isub, 1) := by decide +kernel
theorem dX8_mix_17 : decode cX8_mix 17 = .ok (.iaload, 1) := by decide +kernel
theorem dX8_mix_18 : decode cX8_mix 18 = .ok (.istore_n 2, 1) := by decide +kernel
theorem dX8_mix_19 : decode cX8_mix 19 = .ok (.aload_n 0, 1) := by decide +kernel
theorem dX8_mix_20 : decode cX8_mix 20 = .ok (.getfield 19, 3) := by decide +kernel
theorem dX8_mix_23 : decode cX8_mix 23 = .ok (.iload_n 1, 1) := by decide +kernel
theorem dX8_mix_24 : decode cX8_mix 24 = .ok (.iconst 2, 1) := by decide +kernel
theorem dX8_mix_25 : decode cX8_mix 25 = .ok (.isub, 1) := by decide +kernel
theorem dX8_mix_26 : decode cX8_mix 26 = .ok (.iaload, 1) := by decide +kernel
theorem dX8_mix_27 : decode cX8_mix 27 = .ok (.istore_n 3, 1) := by decide +kernel
theorem dX8_mix_28 : decode cX8_mix 28 = .ok (.aload_n 0, 1) := by decide +kernel
theorem dX8_mix_29 : decode cX8_mix 29 = .ok (.getfield 19, 3) := by decide +kernel
theorem dX8_mix_32 : decode cX8_mix 32 = .ok (.iload_n 1, 1) := by decide +kernel
theorem dX8_mix_33 : decode cX8_mix 33 = .ok (.aload_n 0, 1) := by decide +kernel
theorem dX8_mix_34 : decode cX8_mix 34 = .ok (.getfield 19, 3) := by decide +kernel
theorem dX8_mix_37 : decode cX8_mix 37 = .ok (.iload_n 1, 1) := by decide +kernel
theorem dX8_mix_38 : decode cX8_mix 38 = .ok (.bipush 16, 2) := by decide +kernel
theorem dX8_mix_40 : decode cX8_mix 40 = .ok (.isub, 1) := by decide +kernel
theorem dX8_mix_41 : decode cX8_mix 41 = .ok (.iaload, 1) := by decide +kernel
theorem dX8_mix_42 : decode cX8_mix 42 = .ok (.iload_n 2, 1) := by decide +kernel
theorem dX8_mix_43 : decode cX8_mix 43 = .ok (.bipush 7, 2) := by decide +kernel
theorem dX8_mix_45 : decode cX8_mix 45 = .ok (.invokestatic 123, 3) := by decide +kernel
theorem dX8_mix_48 : decode cX8_mix 48 = .ok (.iload_n 2, 1) := by decide +kernel
theorem dX8_mix_49 : decode cX8_mix 49 = .ok (.bipush 18, 2) := by decide +kernel
theorem dX8_mix_51 : decode cX8_mix 51 = .ok (.invokestatic 123, 3) := by decide +kernel
theorem dX8_mix_54 : decode cX8_mix 54 = .ok (.ixor, 1) := by decide +kernel
theorem dX8_mix_55 : decode cX8_mix 55 = .ok (.iload_n 2, 1) := by decide +kernel
theorem dX8_mix_56 : decode cX8_mix 56 = .ok (.iconst 3, 1) := by decide +kernel
theorem dX8_mix_57 : decode cX8_mix 57 = .ok (.iushr, 1) := by decide +kernel
theorem dX8_mix_58 : decode cX8_mix 58 = .ok (.ixor, 1) := by decide +kernel
theorem dX8_mix_59 : decode cX8_mix 59 = .ok (.iadd, 1) := by decide +kernel
theorem dX8_mix_60 : decode cX8_mix 60 = .ok (.aload_n 0, 1) := by decide +kernel
theorem dX8_mix_61 : decode cX8_mix 61 = .ok (.getfield 19, 3) := by decide +kernel
theorem dX8_mix_64 : decode cX8_mix 64 = .ok (.iload_n 1, 1) := by decide +kernel
theorem dX8_mix_65 : decode cX8_mix 65 = .ok (.bipush 7, 2) := by decide +kernel
theorem dX8_mix_67 : decode cX8_mix 67 = .ok (.isub, 1) := by decide +kernel
theorem dX8_mix_68 : decode cX8_mix 68 = .ok (.iaload, 1) := by decide +kernel
theorem dX8_mix_69 : decode cX8_mix 69 = .ok (.iadd, 1) := by decide +kernel
theorem dX8_mix_70 : decode cX8_mix 70 = .ok (.iload_n 3, 1) := by decide +kernel
theorem dX8_mix_71 : decode cX8_mix 71 = .ok (.bipush 17, 2) := by decide +kernel
theorem dX8_mix_73 : decode cX8_mix 73 = .ok (.invokestatic 123, 3) := by decide +kernel
theorem dX8_mix_76 : decode cX8_mix 76 = .ok (.iload_n 3, 1) := by decide +kernel
theorem dX8_mix_77 : decode cX8_mix 77 = .ok (.bipush 19, 2) := by decide +kernel
theorem dX8_mix_79 : decode cX8_mix 79 = .ok (.invokestatic 123, 3) := by decide +kernel
theorem dX8_mix_82 : decode cX8_mix 82 = .ok (.ixor, 1) := by decide +kernel
theorem dX8_mix_83 : decode cX8_mix 83 = .ok (.iload_n 3, 1) := by decide +kernel
theorem dX8_mix_84 : decode cX8_mix 84 = .ok (.bipush 10, 2) := by decide +kernel
theorem dX8_mix_86 : decode cX8_mix 86 = .ok (.iushr, 1) := by decide +kernel
theorem dX8_mix_87 : decode cX8_mix 87 = .ok (.ixor, 1) := by decide +kernel
theorem dX8_mix_88 : decode cX8_mix 88 = .ok (.iadd, 1) := by decide +kernel
theorem dX8_mix_89 : decode cX8_mix 89 = .ok (.iastore, 1) := by decide +kernel
theorem dX8_mix_90 : decode cX8_mix 90 = .ok (.iinc 1 1, 3) := by decide +kernel
theorem dX8_mix_93 : decode cX8_mix 93 = .ok (.goto (-90), 3) := by decide +kernel
theorem dX8_mix_96 : decode cX8_mix 96 = .ok (.iconst 0, 1) := by decide +kernel
theorem dX8_mix_97 : decode cX8_mix 97 = .ok (.istore_n 1, 1) := by decide +kernel
theorem dX8_mix_98 : decode cX8_mix 98 = .ok (.iload_n 1, 1) := by decide +kernel
theorem dX8_mix_99 : decode cX8_mix 99 = .ok (.bipush 8, 2) := by decide +kernel
theorem dX8_mix_101 : decode cX8_mix 101 = .ok (.if_icmp .ge 21, 3) := by decide +kernel
theorem dX8_mix_104 : decode cX8_mix 104 = .ok (.aload_n 0, 1) := by decide +kernel
theorem dX8_mix_105 : decode cX8_mix 105 = .ok (.getfield 22, 3) := by decide +kernel
theorem dX8_mix_108 : decode cX8_mix 108 = .ok (.iload_n 1, 1) := by decide +kernel
theorem dX8_mix_109 : decode cX8_mix 109 = .ok (.aload_n 0, 1) := by decide +kernel
theorem dX8_mix_110 : decode cX8_mix 110 = .ok (.getfield 16, 3) := by decide +kernel
theorem dX8_mix_113 : decode cX8_mix 113 = .ok (.iload_n 1, 1) := by decide +kernel
