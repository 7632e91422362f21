-- needs:
theorem dX8_truthOf_152 : decode cX8_truthOf 152 = .ok (.isub, 1) := by decide +kernel
theorem dX8_truthOf_153 : decode cX8_truthOf 153 = .ok (.istore 13, 2) := by decide +kernel
theorem dX8_truthOf_155 : decode cX8_truthOf 155 = .ok (.iinc 12 1, 3) := by decide +kernel
theorem dX8_truthOf_158 : decode cX8_truthOf 158 = .ok (.iinc 5 1, 3) := by decide +kernel
theorem dX8_truthOf_161 : decode cX8_truthOf 161 = .ok (.goto (-45), 3) := by decide +kernel
theorem dX8_truthOf_164 : decode cX8_truthOf 164 = .ok (.iload 11, 2) := by decide +kernel
theorem dX8_truthOf_166 : decode cX8_truthOf 166 = .ok (.bipush 60, 2) := by decide +kernel
theorem dX8_truthOf_168 : decode cX8_truthOf 168 = .ok (.if_icmp .eq 24, 3) := by decide +kernel
theorem dX8_truthOf_171 : decode cX8_truthOf 171 = .ok (.iload 11, 2) := by decide +kernel
theorem dX8_truthOf_173 : decode cX8_truthOf 173 = .ok (.bipush 61, 2) := by decide +kernel
theorem dX8_truthOf_175 : decode cX8_truthOf 175 = .ok (.if_icmp .eq 17, 3) := by decide +kernel
theorem dX8_truthOf_178 : decode cX8_truthOf 178 = .ok (.iload 11, 2) := by decide +kernel
theorem dX8_truthOf_180 : decode cX8_truthOf 180 = .ok (.bipush 62, 2) := by decide +kernel
theorem dX8_truthOf_182 : decode cX8_truthOf 182 = .ok (.if_icmp .eq 10, 3) := by decide +kernel
theorem dX8_truthOf_185 : decode cX8_truthOf 185 = .ok (.iload 11, 2) := by decide +kernel
theorem dX8_truthOf_187 : decode cX8_truthOf 187 = .ok (.bipush 35, 2) := by decide +kernel
theorem dX8_truthOf_189 : decode cX8_truthOf 189 = .ok (.if_icmp .ne 14, 3) := by decide +kernel
theorem dX8_truthOf_192 : decode cX8_truthOf 192 = .ok (.iload 12, 2) := by decide +kernel
theorem dX8_truthOf_194 : decode cX8_truthOf 194 = .ok (.iconst 1, 1) := by decide +kernel
theorem dX8_truthOf_195 : decode cX8_truthOf 195 = .ok (.bipush 6, 2) := by decide +kernel
theorem dX8_truthOf_197 : decode cX8_truthOf 197 = .ok (.invokestatic 153, 3) := by decide +kernel
theorem dX8_truthOf_200 : decode cX8_truthOf 200 = .ok (.ifCond .ne 5, 3) := by decide +kernel
theorem dX8_truthOf_203 : decode cX8_truthOf 203 = .ok (.iconst (-1), 1) := by decide +kernel
theorem dX8_truthOf_204 : decode cX8_truthOf 204 = .ok (.ireturn, 1) := by decide +kernel
theorem dX8_truthOf_205 : decode cX8_truthOf 205 = .ok (.iload 11, 2) := by decide +kernel
theorem dX8_truthOf_207 : decode cX8_truthOf 207 = .ok (.bipush 60, 2) := by decide +kernel
theorem dX8_truthOf_209 : decode cX8_truthOf 209 = .ok (.if_icmp .ne 18, 3) := by decide +kernel
theorem dX8_truthOf_212 : decode cX8_truthOf 212 = .ok (.iload 10, 2) := by decide +kernel
theorem dX8_truthOf_214 : decode cX8_truthOf 214 = .ok (.iload 13, 2) := by decide +kernel
theorem dX8_truthOf_216 : decode cX8_truthOf 216 = .ok (.if_icmp .ge 7, 3) := by decide +kernel
theorem dX8_truthOf_219 : decode cX8_truthOf 219 = .ok (.iconst 1, 1) := by decide +kernel
theorem dX8_truthOf_220 : decode cX8_truthOf 220 = .ok (.goto 82, 3) := by decide +kernel
theorem dX8_truthOf_223 : decode cX8_truthOf 223 = .ok (.iconst 0, 1) := by decide +kernel
theorem dX8_truthOf_224 : decode cX8_truthOf 224 = .ok (.goto 78, 3) := by decide +kernel
theorem dX8_truthOf_227 : decode cX8_truthOf 227 = .ok (.iload 11, 2) := by decide +kernel
theorem dX8_truthOf_229 : decode cX8_truthOf 229 = .ok (.bipush 61, 2) := by decide +kernel
theorem dX8_truthOf_231 : decode cX8_truthOf 231 = .ok (.if_icmp .ne 18, 3) := by decide +kernel
theorem dX8_truthOf_234 : decode cX8_truthOf 234 = .ok (.iload 10, 2) := by decide +kernel
theorem dX8_truthOf_236 : decode cX8_truthOf 236 = .ok (.iload 13, 2) := by decide +kernel
theorem dX8_truthOf_238 : decode cX8_truthOf 238 = .ok (.if_icmp .ne 7, 3) := by decide +kernel
theorem dX8_truthOf_241 : decode cX8_truthOf 241 = .ok (.iconst 1, 1) := by decide +kernel
theorem dX8_truthOf_242 : decode cX8_truthOf 242 = .ok (.goto 60, 3) := by decide +kernel
theorem dX8_truthOf_245 : decode cX8_truthOf 245 = .ok (.iconst 0, 1) := by decide +kernel
theorem dX8_truthOf_246 : decode cX8_truthOf 246 = .ok (.goto 56, 3) := by decide +kernel
theorem dX8_truthOf_249 : decode cX8_truthOf 249 = .ok (.iload 11, 2) := by decide +kernel
theorem dX8_truthOf_251 : decode cX8_truthOf 251 = .ok (.bipush 62, 2) := by decide +kernel
theorem dX8_truthOf_253 : decode cX8_truthOf 253 = .ok (.if_icmp .ne 18, 3) := by decide +kernel
theorem dX8_truthOf_256 : decode cX8_truthOf 256 = .ok (.iload 10, 2) := by decide +kernel
theorem dX8_truthOf_258 : decode cX8_truthOf 258 = .ok (.iload 13, 2) := by decide +kernel
theorem dX8_truthOf_260 : decode cX8_truthOf 260 = .ok (.if_icmp .le 7, 3) := by decide +kernel
theorem dX8_truthOf_263 : decode cX8_truthOf 263 = .ok (.iconst 1, 1) := by decide +kernel
theorem dX8_truthOf_264 : decode cX8_truthOf 264 = .ok (.goto 38, 3) := by decide +kernel
theorem dX8_truthOf_267 : decode cX8_truthOf 267 = .ok (.iconst 0, 1) := by decide +kernel
theorem dX8_truthOf_268 : decode cX8_truthOf 268 = .ok (.goto 34, 3) := by decide +kernel
theorem dX8_truthOf_271 : decode cX8_truthOf 271 = .ok (.iload 13, 2) := by decide +kernel
theorem dX8_truthOf_273 : decode cX8_truthOf 273 = .ok (.ifCond .ne 16, 3) := by decide +kernel
theorem dX8_truthOf_276 : decode cX8_truthOf 276 = .ok (.iload 10, 2) := by decide +kernel
theorem dX8_truthOf_278 : decode cX8_truthOf 278 = .ok (.ifCond .ne 7, 3) := by decide +kernel
theorem dX8_truthOf_281 : decode cX8_truthOf 281 = .ok (.iconst 1, 1) := by decide +kernel
theorem dX8_truthOf_282 : decode cX8_truthOf 282 = .ok (.goto 20, 3) := by decide +kernel
theorem dX8_truthOf_285 : decode cX8_truthOf 285 = .ok (.iconst 0, 1) := by decide +kernel
theorem dX8_truthOf_286 : decode cX8_truthOf 286 = .ok (.goto 16, 3) := by decide +kernel
theorem dX8_truthOf_289 : decode cX8_truthOf 289 = .ok (.iload 10, 2) := by decide +kernel
theorem dX8_truthOf_291 : decode cX8_truthOf 291 = .ok (.iload 13, 2) := by decide +kernel
theorem dX8_truthOf_293 : decode cX8_truthOf 293 = .ok (.irem, 1) := by decide +kernel
theorem dX8_truthOf_294 : decode cX8_truthOf 294 = .ok (.ifCond .ne 7, 3) := by decide +kernel
theorem dX8_truthOf_297 : decode cX8_truthOf 297 = .ok (.iconst 1, 1) := by decide +kernel
theorem dX8_truthOf_298 : decode cX8_truthOf 298 = .ok (.goto 4, 3) := by decide +kernel
theorem dX8_truthOf_301 : decode cX8_truthOf 301 = .ok (.iconst 0, 1) := by decide +kernel
theorem dX8_truthOf_302 : decode cX8_truthOf 302 = .ok (.istore 14, 2) := by decide +kernel
theorem dX8_truthOf_304 : decode cX8_truthOf 304 = .ok (.iload 7, 2) := by decide +kernel
theorem dX8_truthOf_306 : decode cX8_truthOf 306 = .ok (.ifCond .eq 14, 3) := by decide +kernel
theorem dX8_truthOf_309 : decode cX8_truthOf 309 = .ok (.iload 14, 2) := by decide +kernel
theorem dX8_truthOf_311 : decode cX8_truthOf 311 = .ok (.iload 9, 2) := by decide +kernel
theorem dX8_truthOf_313 : decode cX8_truthOf 313 = .ok (.if_icmp .eq 7, 3) := by decide +kernel
theorem dX8_truthOf_316 : decode cX8_truthOf 316 = .ok (.iconst 1, 1) := by decide +kernel
theorem dX8_truthOf_317 : decode cX8_truthOf 317 = .ok (.goto 4, 3) := by decide +kernel
theorem dX8_truthOf_320 : decode cX8_truthOf 320 = .ok (.iconst 0, 1) := by decide +kernel
theorem dX8_truthOf_321 : decode cX8_truthOf 321 = .ok (.istore 7, 2) := by decide +kernel
theorem dX8_truthOf_323 : decode cX8_truthOf 323 = .ok (.iload 5, 2) := by decide +kernel
theorem dX8_truthOf_325 : decode cX8_truthOf 325 = .ok (.iload 4, 2) := by decide +kernel
theorem dX8_truthOf_327 : decode cX8_truthOf 327 = .ok (.if_icmp .ge 7, 3) := by decide +kernel
theorem dX8_truthOf_330 : decode cX8_truthOf 330 = .ok (.iconst 1, 1) := by decide +kernel
theorem dX8_truthOf_331 : decode cX8_truthOf 331 = .ok (.goto 4, 3) := by decide +kernel
theorem dX8_truthOf_334 : decode cX8_truthOf 334 = .ok (.iconst 0, 1) := by decide +kernel
theorem dX8_truthOf_335 : decode cX8_truthOf 335 = .ok (.istore 8, 2) := by decide +kernel
theorem dX8_truthOf_337 : decode cX8_truthOf 337 = .ok (.iload 8, 2) := by decide +kernel
theorem dX8_truthOf_339 : decode cX8_truthOf 339 = .ok (.ifCond .eq 23, 3) := by decide +kernel
theorem dX8_truthOf_342 : decode cX8_truthOf 342 = .ok (.aload_n 1, 1) := by decide +kernel
theorem dX8_truthOf_343 : decode cX8_truthOf 343 = .ok (.iload 5, 2) := by decide +kernel
theorem dX8_truthOf_345 : decode cX8_truthOf 345 = .ok (.iaload, 1) := by decide +kernel
theorem dX8_truthOf_346 : decode cX8_truthOf 346 = .ok (.bipush 124, 2) := by decide +kernel
theorem dX8_truthOf_348 : decode cX8_truthOf 348 = .ok (.if_icmp .eq 14, 3) := by decide +kernel
theorem dX8_truthOf_351 : decode cX8_truthOf 351 = .ok (.aload_n 1, 1) := by decide +kernel
theorem dX8_truthOf_352 : decode cX8_truthOf 352 = .ok (.iload 5, 2) := by decide +kernel
theorem dX8_truthOf_354 : decode cX8_truthOf 354 = .ok (.iaload, 1) := by decide +kernel
theorem dX8_truthOf_355 : decode cX8_truthOf 355 = .ok (.bipush 38, 2) := by decide +kernel
theorem dX8_truthOf_357 : decode cX8_truthOf 357 = .ok (.if_icmp .eq 5, 3) := by decide +kernel
theorem dX8_truthOf_360 : decode cX8_truthOf 360 = .ok (.iconst (-1), 1) := by decide +kernel
theorem dX8_truthOf_361 : decode cX8_truthOf 361 = .ok (.ireturn, 1) := by decide +kernel
theorem dX8_truthOf_362 : decode cX8_truthOf 362 = .ok (.iload 8, 2) := by decide +kernel
theorem dX8_truthOf_364 : decode cX8_truthOf 364 = .ok (.ifCond .eq 12, 3) := by decide +kernel
theorem dX8_truthOf_367 : decode cX8_truthOf 367 = .ok (.aload_n 1, 1) := by decide +kernel
theorem dX8_truthOf_368 : decode cX8_truthOf 368 = .ok (.iload 5, 2) := by decide +kernel
theorem dX8_truthOf_370 : decode cX8_truthOf 370 = .ok (.iaload, 1) := by decide +kernel
theorem dX8_truthOf_371 : decode cX8_truthOf 371 = .ok (.bipush 124, 2) := by decide +kernel
theorem dX8_truthOf_373 : decode cX8_truthOf 373 = .ok (.if_icmp .ne 23, 3) := by decide +kernel
theorem dX8_truthOf_376 : decode cX8_truthOf 376 = .ok (.iload 6, 2) := by decide +kernel
theorem dX8_truthOf_378 : decode cX8_truthOf 378 = .ok (.ifCond .ne 8, 3) := by decide +kernel
theorem dX8_truthOf_381 : decode cX8_truthOf 381 = .ok (.iload 7, 2) := by decide +kernel
theorem dX8_truthOf_383 : decode cX8_truthOf 383 = .ok (.ifCond .eq 7, 3) := by decide +kernel
theorem dX8_truthOf_386 : decode cX8_truthOf 386 = .ok (.iconst 1, 1) := by decide +kernel
theorem dX8_truthOf_387 : decode cX8_truthOf 387 = .ok (.goto 4, 3) := by decide +kernel
theorem dX8_truthOf_390 : decode cX8_truthOf 390 = .ok (.iconst 0, 1) := by decide +kernel
theorem dX8_truthOf_391 : decode cX8_truthOf 391 = .ok (.istore 6, 2) := by decide +kernel
theorem dX8_truthOf_393 : decode cX8_truthOf 393 = .ok (.iconst 1, 1) := by decide +kernel
theorem dX8_truthOf_394 : decode cX8_truthOf 394 = .ok (.istore 7, 2) := by decide +kernel
theorem dX8_truthOf_396 : decode cX8_truthOf 396 = .ok (.iinc 5 1, 3) := by decide +kernel
theorem dX8_truthOf_399 : decode cX8_truthOf 399 = .ok (.goto (-382), 3) := by decide +kernel
theorem dX8_truthOf_402 : decode cX8_truthOf 402 = .ok (.iload 6, 2) := by decide +kernel
theorem dX8_truthOf_404 : decode cX8_truthOf 404 = .ok (.ifCond .eq 7, 3) := by decide +kernel
theorem dX8_truthOf_407 : decode cX8_truthOf 407 = .ok (.iconst 1, 1) := by decide +kernel
theorem dX8_truthOf_408 : decode cX8_truthOf 408 = .ok (.goto 4, 3) := by decide +kernel
theorem dX8_truthOf_411 : decode cX8_truthOf 411 = .ok (.iconst 0, 1) := by decide +kernel
theorem dX8_truthOf_412 : decode cX8_truthOf 412 = .ok (.ireturn, 1) := by decide +kernel
set_option maxRecDepth 20000 in
theorem ggX8_truth_X8_is : GoodIn wsX8_truth wsX8_is := goodIn_r _ [7, 8, 9, 6, 10] rfl (by decide +kernel)
set_option maxRecDepth 20000 in
theorem gX8_truth_X8_is : GoodIn wsX8_truth (va_wsS RX8 157 yX8_is wsX8_is) := goodIn_app (goodIn_of _ (by decide +kernel)) ggX8_truth_X8_is
set_option maxRecDepth 20000 in
theorem ggX8_truth_X8_truthOf : GoodIn wsX8_truth wsX8_truthOf := goodIn_r _ [14, 15, 8, 9, 6, 10, 16, 17, 18, 19, 20, 21, 22, 23, 24, 25, 26, 27, 28, 29, 30, 31, 32, 33, 34, 35, 36, 37, 38, 39, 40, 41, 42, 43, 44, 45, 46, 47, 48, 49, 50, 51, 52, 53, 54, 55, 56, 57, 58, 59, 60] rfl (by decide +kernel)
set_option maxRecDepth 20000 in
theorem gX8_truth_X8_truthOf : GoodIn wsX8_truth (wsV RX8 191 RX8 yX8_truthOf wsX8_truthOf) := goodIn_app (goodIn_of _ (by decide +kernel)) ggX8_truth_X8_truthOf
theorem dX8_truth_0 : decode cX8_truth 0 = .ok (.aload_n 0, 1) := by decide +kernel
theorem dX8_truth_1 : decode cX8_truth 1 = .ok (.iconst 0, 1) := by decide +kernel
theorem dX8_truth_2 : decode cX8_truth 2 = .ok (.putfield 112, 3) := by decide +kernel
theorem dX8_truth_5 : decode cX8_truth 5 = .ok (.iload_n 1, 1) := by decide +kernel
theorem dX8_truth_6 : decode cX8_truth 6 = .ok (.invokestatic 157, 3) := by decide +kernel
theorem dX8_truth_9 : decode cX8_truth 9 = .ok (.ifCond .ne 8, 3) := by decide +kernel
theorem dX8_truth_12 : decode cX8_truth 12 = .ok (.bipush (-2), 2) := by decide +kernel
theorem dX8_truth_14 : decode cX8_truth 14 = .ok (.goto 21, 3) := by decide +kernel
theorem dX8_truth_17 : decode cX8_truth 17 = .ok (.aload_n 0, 1) := by decide +kernel
theorem dX8_truth_18 : decode cX8_truth 18 = .ok (.aload_n 0, 1) := by decide +kernel
theorem dX8_truth_19 : decode cX8_truth 19 = .ok (.getfield 46, 3) := by decide +kernel
theorem dX8_truth_22 : decode cX8_truth 22 = .ok (.bipush 100, 2) := by decide +kernel
theorem dX8_truth_24 : decode cX8_truth 24 = .ok (.iload_n 1, 1) := by decide +kernel
theorem dX8_truth_25 : decode cX8_truth 25 = .ok (.imul, 1) := by decide +kernel
theorem dX8_truth_26 : decode cX8_truth 26 = .ok (.aload_n 0, 1) := by decide +kernel
theorem dX8_truth_27 : decode cX8_truth 27 = .ok (.getfield 49, 3) := by decide +kernel
theorem dX8_truth_30 : decode cX8_truth 30 = .ok (.iload_n 1, 1) := by decide +kernel
theorem dX8_truth_31 : decode cX8_truth 31 = .ok (.iaload, 1) := by decide +kernel
theorem dX8_truth_32 : decode cX8_truth 32 = .ok (.invokevirtual 191, 3) := by decide +kernel
theorem dX8_truth_35 : decode cX8_truth 35 = .ok (.ireturn, 1) := by decide +kernel
theorem dX8_fail_0 : decode cX8_fail 0 = .ok (.aload_n 0, 1) := by decide +kernel
theorem dX8_fail_1 : decode cX8_fail 1 = .ok (.iload_n 2, 1) := by decide +kernel
theorem dX8_fail_2 : decode cX8_fail 2 = .ok (.putfield 102, 3) := by decide +kernel
theorem dX8_fail_5 : decode cX8_fail 5 = .ok (.aload_n 0, 1) := by decide +kernel
theorem dX8_fail_6 : decode cX8_fail 6 = .ok (.iload_n 3, 1) := by decide +kernel
theorem dX8_fail_7 : decode cX8_fail 7 = .ok (.putfield 105, 3) := by decide +kernel
theorem dX8_fail_10 : decode cX8_fail 10 = .ok (.bipush (-10), 2) := by decide +kernel
theorem dX8_fail_12 : decode cX8_fail 12 = .ok (.iload_n 1, 1) := by decide +kernel
theorem dX8_fail_13 : decode cX8_fail 13 = .ok (.isub, 1) := by decide +kernel
theorem dX8_fail_14 : decode cX8_fail 14 = .ok (.ireturn, 1) := by decide +kernel
theorem dX8_isSame_0 : decode cX8_isSame 0 = .ok (.iconst 1, 1) := by decide +kernel
theorem dX8_isSame_1 : decode cX8_isSame 1 = .ok (.istore_n 3, 1) := by decide +kernel
theorem dX8_isSame_2 : decode cX8_isSame 2 = .ok (.iconst 0, 1) := by decide +kernel
theorem dX8_isSame_3 : decode cX8_isSame 3 = .ok (.istore 4, 2) := by decide +kernel
theorem dX8_isSame_5 : decode cX8_isSame 5 = .ok (.iload 4, 2) := by decide +kernel
theorem dX8_isSame_7 : decode cX8_isSame 7 = .ok (.bipush 32, 2) := by decide +kernel
theorem dX8_isSame_9 : decode cX8_isSame 9 = .ok (.if_icmp .ge 38, 3) := by decide +kernel
theorem dX8_isSame_12 : decode cX8_isSame 12 = .ok (.iload_n 3, 1) := by decide +kernel
theorem dX8_isSame_13 : decode cX8_isSame 13 = .ok (.ifCond .eq 26, 3) := by decide +kernel
theorem dX8_isSame_16 : decode cX8_isSame 16 = .ok (.aload_n 1, 1) := by decide +kernel
theorem dX8_isSame_17 : decode cX8_isSame 17 = .ok (.iload 4, 2) := by decide +kernel
theorem dX8_isSame_19 : decode cX8_isSame 19 = .ok (.iaload, 1) := by decide +kernel
theorem dX8_isSame_20 : decode cX8_isSame 20 = .ok (.aload_n 0, 1) := by decide +kernel
theorem dX8_isSame_21 : decode cX8_isSame 21 = .ok (.getfield 84, 3) := by decide +kernel
theorem dX8_isSame_24 : decode cX8_isSame 24 = .ok (.bipush 32, 2) := by decide +kernel
theorem dX8_isSame_26 : decode cX8_isSame 26 = .ok (.iload_n 2, 1) := by decide +kernel
theorem dX8_isSame_27 : decode cX8_isSame 27 = .ok (.imul, 1) := by decide +kernel
theorem dX8_isSame_28 : decode cX8_isSame 28 = .ok (.iload 4, 2) := by decide +kernel
theorem dX8_isSame_30 : decode cX8_isSame 30 = .ok (.iadd, 1) := by decide +kernel
theorem dX8_isSame_31 : decode cX8_isSame 31 = .ok (.iaload, 1) := by decide +kernel
theorem dX8_isSame_32 : decode cX8_isSame 32 = .ok (.if_icmp .ne 7, 3) := by decide +kernel
theorem dX8_isSame_35 : decode cX8_isSame 35 = .ok (.iconst 1, 1) := by decide +kernel
theorem dX8_isSame_36 : decode cX8_isSame 36 = .ok (.goto 4, 3) := by decide +kernel
theorem dX8_isSame_39 : decode cX8_isSame 39 = .ok (.iconst 0, 1) := by decide +kernel
theorem dX8_isSame_40 : decode cX8_isSame 40 = .ok (.istore_n 3, 1) := by decide +kernel
theorem dX8_isSame_41 : decode cX8_isSame 41 = .ok (.iinc 4 1, 3) := by decide +kernel
theorem dX8_isSame_44 : decode cX8_isSame 44 = .ok (.goto (-39), 3) := by decide +kernel
theorem dX8_isSame_47 : decode cX8_isSame 47 = .ok (.iload_n 3, 1) := by decide +kernel
theorem dX8_isSame_48 : decode cX8_isSame 48 = .ok (.ireturn, 1) := by decide +kernel
theorem dX8_isNamed_0 : decode cX8_isNamed 0 = .ok (.aload_n 0, 1) := by decide +kernel
theorem dX8_isNamed_1 : decode cX8_isNamed 1 = .ok (.getfield 63, 3) := by decide +kernel
theorem dX8_isNamed_4 : decode cX8_isNamed 4 = .ok (.iload_n 1, 1) := by decide +kernel
theorem dX8_isNamed_5 : decode cX8_isNamed 5 = .ok (.iaload, 1) := by decide +kernel
theorem dX8_isNamed_6 : decode cX8_isNamed 6 = .ok (.aload_n 0, 1) := by decide +kernel
theorem dX8_isNamed_7 : decode cX8_isNamed 7 = .ok (.getfield 72, 3) := by decide +kernel
theorem dX8_isNamed_10 : decode cX8_isNamed 10 = .ok (.iload_n 2, 1) := by decide +kernel
theorem dX8_isNamed_11 : decode cX8_isNamed 11 = .ok (.iaload, 1) := by decide +kernel
theorem dX8_isNamed_12 : decode cX8_isNamed 12 = .ok (.if_icmp .ne 7, 3) := by decide +kernel
theorem dX8_isNamed_15 : decode cX8_isNamed 15 = .ok (.iconst 1, 1) := by decide +kernel
theorem dX8_isNamed_16 : decode cX8_isNamed 16 = .ok (.goto 4, 3) := by decide +kernel
theorem dX8_isNamed_19 : decode cX8_isNamed 19 = .ok (.iconst 0, 1) := by decide +kernel
theorem dX8_isNamed_20 : decode cX8_isNamed 20 = .ok (.istore_n 3, 1) := by decide +kernel
theorem dX8_isNamed_21 : decode cX8_isNamed 21 = .ok (.iconst 0, 1) := by decide +kernel
theorem dX8_isNamed_22 : decode cX8_isNamed 22 = .ok (.istore 4, 2) := by decide +kernel
theorem dX8_isNamed_24 : decode cX8_isNamed 24 = .ok (.iload 4, 2) := by decide +kernel
theorem dX8_isNamed_26 : decode cX8_isNamed 26 = .ok (.aload_n 0, 1) := by decide +kernel
theorem dX8_isNamed_27 : decode cX8_isNamed 27 = .ok (.getfield 72, 3) := by decide +kernel
theorem dX8_isNamed_30 : decode cX8_isNamed 30 = .ok (.iload_n 2, 1) := by decide +kernel
theorem dX8_isNamed_31 : decode cX8_isNamed 31 = .ok (.iaload, 1) := by decide +kernel
theorem dX8_isNamed_32 : decode cX8_isNamed 32 = .ok (.if_icmp .ge 46, 3) := by decide +kernel
theorem dX8_isNamed_35 : decode cX8_isNamed 35 = .ok (.iload_n 3, 1) := by decide +kernel
theorem dX8_isNamed_36 : decode cX8_isNamed 36 = .ok (.ifCond .eq 42, 3) := by decide +kernel
theorem dX8_isNamed_39 : decode cX8_isNamed 39 = .ok (.aload_n 0, 1) := by decide +kernel
theorem dX8_isNamed_40 : decode cX8_isNamed 40 = .ok (.getfield 66, 3) := by decide +kernel
theorem dX8_isNamed_43 : decode cX8_isNamed 43 = .ok (.bipush 60, 2) := by decide +kernel
theorem dX8_isNamed_45 : decode cX8_isNamed 45 = .ok (.iload_n 1, 1) := by decide +kernel
theorem dX8_isNamed_46 : decode cX8_isNamed 46 = .ok (.imul, 1) := by decide +kernel
theorem dX8_isNamed_47 : decode cX8_isNamed 47 = .ok (.iload 4, 2) := by decide +kernel
theorem dX8_isNamed_49 : decode cX8_isNamed 49 = .ok (.iadd, 1) := by decide +kernel
theorem dX8_isNamed_50 : decode cX8_isNamed 50 = .ok (.iaload, 1) := by decide +kernel
theorem dX8_isNamed_51 : decode cX8_isNamed 51 = .ok (.aload_n 0, 1) := by decide +kernel
theorem dX8_isNamed_52 : decode cX8_isNamed 52 = .ok (.getfield 75, 3) := by decide +kernel
theorem dX8_isNamed_55 : decode cX8_isNamed 55 = .ok (.bipush 60, 2) := by decide +kernel
theorem dX8_isNamed_57 : decode cX8_isNamed 57 = .ok (.iload_n 2, 1) := by decide +kernel
theorem dX8_isNamed_58 : decode cX8_isNamed 58 = .ok (.imul, 1) := by decide +kernel
theorem dX8_isNamed_59 : decode cX8_isNamed 59 = .ok (.iload 4, 2) := by decide +kernel
theorem dX8_isNamed_61 : decode cX8_isNamed 61 = .ok (.iadd, 1) := by decide +kernel
theorem dX8_isNamed_62 : decode cX8_isNamed 62 = .ok (.iaload, 1) := by decide +kernel
theorem dX8_isNamed_63 : decode cX8_isNamed 63 = .ok (.if_icmp .ne 7, 3) := by decide +kernel
theorem dX8_isNamed_66 : decode cX8_isNamed 66 = .ok (.iconst 1, 1) := by decide +kernel
theorem dX8_isNamed_67 : decode cX8_isNamed 67 = .ok (.goto 4, 3) := by decide +kernel
theorem dX8_isNamed_70 : decode cX8_isNamed 70 = .ok (.iconst 0, 1) := by decide +kernel
theorem dX8_isNamed_71 : decode cX8_isNamed 71 = .ok (.istore_n 3, 1) := by decide +kernel
theorem dX8_isNamed_72 : decode cX8_isNamed 72 = .ok (.iinc 4 1, 3) := by decide +kernel
theorem dX8_isNamed_75 : decode cX8_isNamed 75 = .ok (.goto (-51), 3) := by decide +kernel
theorem dX8_isNamed_78 : decode cX8_isNamed 78 = .ok (.iload_n 3, 1) := by decide +kernel
theorem dX8_isNamed_79 : decode cX8_isNamed 79 = .ok (.ireturn, 1) := by decide +kernel
set_option maxRecDepth 20000 in
theorem ggX8_beginWalk_X8_add : GoodIn wsX8_beginWalk wsX8_add := goodIn_r _ [12, 13, 14, 51, 52, 53, 54, 55, 56, 57, 58, 59, 60, 61, 62, 63, 64, 65, 66, 67, 68, 69, 70, 71, 72, 73, 74, 75, 76, 77, 78, 79, 80, 81, 82, 83, 84, 85, 86, 87, 88, 89, 90, 91, 92] rfl (by decide +kernel)
set_option maxRecDepth 20000 in
theorem gX8_beginWalk_X8_add : GoodIn wsX8_beginWalk (wsV RX8 166 RX8 yX8_add wsX8_add) := goodIn_app (goodIn_of _ (by decide +kernel)) ggX8_beginWalk_X8_add
set_option maxRecDepth 20000 in
theorem ggX8_beginWalk_X8_sealNow : GoodIn wsX8_beginWalk wsX8_sealNow := goodIn_r _ [18, 19, 20, 21, 22, 13, 14, 3, 23, 24, 25, 11, 26, 27, 28, 29, 30, 31, 32, 33, 34, 35, 36, 37, 38, 39, 40, 41, 42, 43, 44, 45, 46, 47, 48, 49, 50, 51, 52, 53, 54, 55, 56, 57, 58, 59, 60, 61, 62, 63, 64, 65, 66, 67, 68, 69, 70, 71, 72, 73, 74, 75, 76, 77, 78, 79, 80, 81, 82, 83, 84, 85, 86, 87, 88, 89, 90, 91, 92] rfl (by decide +kernel)
set_option maxRecDepth 20000 in
theorem gX8_beginWalk_X8_sealNow : GoodIn wsX8_beginWalk (wsV RX8 169 RX8 yX8_sealNow wsX8_sealNow) := goodIn_app (goodIn_of _ (by decide +kernel)) ggX8_beginWalk_X8_sealNow
set_option maxRecDepth 20000 in
theorem ggX8_beginWalk_X8_copyTo : GoodIn wsX8_beginWalk wsX8_copyTo := goodIn_r _ [50] rfl (by decide +kernel)
set_option maxRecDepth 20000 in
theorem gX8_beginWalk_X8_copyTo : GoodIn wsX8_beginWalk (va_wsS RX8 149 yX8_copyTo wsX8_copyTo) := goodIn_app (goodIn_of _ (by decide +kernel)) ggX8_beginWalk_X8_copyTo
theorem dX8_beginWalk_0 : decode cX8_beginWalk 0 = .ok (.aload_n 0, 1) := by decide +kernel
theorem dX8_beginWalk_1 : decode cX8_beginWalk 1 = .ok (.aload_n 0, 1) := by decide +kernel
theorem dX8_beginWalk_2 : decode cX8_beginWalk 2 = .ok (.getfield 66, 3) := by decide +kernel
theorem dX8_beginWalk_5 : decode cX8_beginWalk 5 = .ok (.bipush 60, 2) := by decide +kernel
theorem dX8_beginWalk_7 : decode cX8_beginWalk 7 = .ok (.iload_n 1, 1) := by decide +kernel
theorem dX8_beginWalk_8 : decode cX8_beginWalk 8 = .ok (.imul, 1) := by decide +kernel
theorem dX8_beginWalk_9 : decode cX8_beginWalk 9 = .ok (.aload_n 0, 1) := by decide +kernel
theorem dX8_beginWalk_10 : decode cX8_beginWalk 10 = .ok (.getfield 63, 3) := by decide +kernel
theorem dX8_beginWalk_13 : decode cX8_beginWalk 13 = .ok (.iload_n 1, 1) := by decide +kernel
theorem dX8_beginWalk_14 : decode cX8_beginWalk 14 = .ok (.iaload, 1) := by decide +kernel
theorem dX8_beginWalk_15 : decode cX8_beginWalk 15 = .ok (.invokevirtual 166, 3) := by decide +kernel
theorem dX8_beginWalk_18 : decode cX8_beginWalk 18 = .ok (.aload_n 0, 1) := by decide +kernel
theorem dX8_beginWalk_19 : decode cX8_beginWalk 19 = .ok (.invokevirtual 169, 3) := by decide +kernel
theorem dX8_beginWalk_22 : decode cX8_beginWalk 22 = .ok (.aload_n 0, 1) := by decide +kernel
theorem dX8_beginWalk_23 : decode cX8_beginWalk 23 = .ok (.getfield 37, 3) := by decide +kernel
theorem dX8_beginWalk_26 : decode cX8_beginWalk 26 = .ok (.aload_n 0, 1) := by decide +kernel
theorem dX8_beginWalk_27 : decode cX8_beginWalk 27 = .ok (.getfield 96, 3) := by decide +kernel
theorem dX8_beginWalk_30 : decode cX8_beginWalk 30 = .ok (.bipush 32, 2) := by decide +kernel
theorem dX8_beginWalk_32 : decode cX8_beginWalk 32 = .ok (.aload_n 0, 1) := by decide +kernel
theorem dX8_beginWalk_33 : decode cX8_beginWalk 33 = .ok (.getfield 195, 3) := by decide +kernel
theorem dX8_beginWalk_36 : decode cX8_beginWalk 36 = .ok (.imul, 1) := by decide +kernel
theorem dX8_beginWalk_37 : decode cX8_beginWalk 37 = .ok (.invokestatic 149, 3) := by decide +kernel
theorem dX8_beginWalk_40 : decode cX8_beginWalk 40 = .ok (.aload_n 0, 1) := by decide +kernel
theorem dX8_beginWalk_41 : decode cX8_beginWalk 41 = .ok (.getfield 90, 3) := by decide +kernel
theorem dX8_beginWalk_44 : decode cX8_beginWalk 44 = .ok (.aload_n 0, 1) := by decide +kernel
theorem dX8_beginWalk_45 : decode cX8_beginWalk 45 = .ok (.getfield 195, 3) := by decide +kernel
theorem dX8_beginWalk_48 : decode cX8_beginWalk 48 = .ok (.iload_n 1, 1) := by decide +kernel
theorem dX8_beginWalk_49 : decode cX8_beginWalk 49 = .ok (.iastore, 1) := by decide +kernel
theorem dX8_beginWalk_50 : decode cX8_beginWalk 50 = .ok (.aload_n 0, 1) := by decide +kernel
theorem dX8_beginWalk_51 : decode cX8_beginWalk 51 = .ok (.getfield 93, 3) := by decide +kernel
theorem dX8_beginWalk_54 : decode cX8_beginWalk 54 = .ok (.aload_n 0, 1) := by decide +kernel
theorem dX8_beginWalk_55 : decode cX8_beginWalk 55 = .ok (.getfield 195, 3) := by decide +kernel
theorem dX8_beginWalk_58 : decode cX8_beginWalk 58 = .ok (.iconst 0, 1) := by decide +kernel
theorem dX8_beginWalk_59 : decode cX8_beginWalk 59 = .ok (.iastore, 1) := by decide +kernel
theorem dX8_beginWalk_60 : decode cX8_beginWalk 60 = .ok (.aload_n 0, 1) := by decide +kernel
theorem dX8_beginWalk_61 : decode cX8_beginWalk 61 = .ok (.dup, 1) := by decide +kernel
theorem dX8_beginWalk_62 : decode cX8_beginWalk 62 = .ok (.getfield 195, 3) := by decide +kernel
theorem dX8_beginWalk_65 : decode cX8_beginWalk 65 = .ok (.iconst 1, 1) := by decide +kernel
theorem dX8_beginWalk_66 : decode cX8_beginWalk 66 = .ok (.iadd, 1) := by decide +kernel
theorem dX8_beginWalk_67 : decode cX8_beginWalk 67 = .ok (.putfield 195, 3) := by decide +kernel
theorem dX8_beginWalk_70 : decode cX8_beginWalk 70 = .ok (.return_, 1) := by decide +kernel
set_option maxRecDepth 20000 in
theorem ggX8_prove_X8_isToken : GoodIn wsX8_prove wsX8_isToken := goodIn_r _ [15, 2, 16, 17, 14, 18, 19, 20, 21, 118, 119, 120, 121, 122, 123, 124, 125, 126, 127, 128, 129, 130, 131, 132, 133, 134, 135, 136, 137, 138, 139, 140, 141, 142, 143, 144, 145, 146, 147, 148, 149, 150, 151, 152, 153, 154, 155, 156, 157, 158, 159] rfl (by decide +kernel)
set_option maxRecDepth 20000 in
theorem gX8_prove_X8_isToken : GoodIn wsX8_prove (wsV RX8 175 RX8 yX8_isToken wsX8_isToken) := goodIn_app (goodIn_of _ (by decide +kernel)) ggX8_prove_X8_isToken
set_option maxRecDepth 20000 in
theorem ggX8_prove_X8_is : GoodIn wsX8_prove wsX8_is := goodIn_r _ [18, 19, 20, 14, 21] rfl (by decide +kernel)
set_option maxRecDepth 20000 in
theorem gX8_prove_X8_is : GoodIn wsX8_prove (va_wsS RX8 157 yX8_is wsX8_is) := goodIn_app (goodIn_of _ (by decide +kernel)) ggX8_prove_X8_is
set_option maxRecDepth 20000 in
theorem ggX8_prove_X8_within : GoodIn wsX8_prove wsX8_within := goodIn_r _ [21] rfl (by decide +kernel)
set_option maxRecDepth 20000 in
theorem gX8_prove_X8_within : GoodIn wsX8_prove (va_wsS RX8 153 yX8_within wsX8_within) := goodIn_app (goodIn_of _ (by decide +kernel)) ggX8_prove_X8_within
set_option maxRecDepth 20000 in
theorem ggX8_prove_X8_keyIs : GoodIn wsX8_prove wsX8_keyIs := goodIn_r _ [25, 26, 27, 28, 118, 119, 120, 121, 122, 123, 124, 125, 126, 127, 128, 129, 130, 131, 132, 133, 134, 135, 136, 137, 138, 139, 140, 141, 142, 143, 144, 145, 146, 147, 148, 149, 150, 151, 152, 153, 154, 155, 156, 157, 158, 159] rfl (by decide +kernel)
set_option maxRecDepth 20000 in
theorem gX8_prove_X8_keyIs : GoodIn wsX8_prove (wsV RX8 163 RX8 yX8_keyIs wsX8_keyIs) := goodIn_app (goodIn_of _ (by decide +kernel)) ggX8_prove_X8_keyIs
set_option maxRecDepth 20000 in
theorem ggX8_prove_X8_beginWalk : GoodIn wsX8_prove wsX8_beginWalk := goodIn_r _ [32, 33, 34, 35, 36, 8, 37, 38, 39, 40, 41, 14, 42, 43, 28, 44, 45, 46, 47, 27, 48, 26, 49, 50, 51, 52, 53, 54, 55, 56, 57, 58, 59, 60, 61, 62, 63, 64, 65, 66, 67, 68, 69, 70, 71, 72, 73, 74, 75, 76, 77, 118, 119, 120, 121, 122, 123, 124, 125, 126, 127, 128, 129, 130, 131, 132, 133, 134, 135, 136, 137, 138, 139, 140, 141, 142, 143, 144, 145, 146, 147, 148, 149, 150, 151, 152, 153, 154, 155, 156, 157, 158, 159] rfl (by decide +kernel)
set_option maxRecDepth 20000 in
theorem gX8_prove_X8_beginWalk : GoodIn wsX8_prove (wsV RX8 205 RX8 yX8_beginWalk wsX8_beginWalk) := goodIn_app (goodIn_of _ (by decide +kernel)) ggX8_prove_X8_beginWalk
set_option maxRecDepth 20000 in
theorem ggX8_prove_X8_walkOn : GoodIn wsX8_prove wsX8_walkOn := goodIn_r _ [81, 8, 37, 38, 82, 83, 84, 85, 36, 3, 5, 86, 87, 35, 88, 89, 90, 14, 91, 92, 93, 94, 95, 96, 97, 98, 99, 100, 101, 6, 7, 22, 23, 24, 25, 26, 27, 28, 39, 40, 41, 42, 43, 44, 45, 46, 47, 48, 49, 50, 51, 52, 53, 54, 55, 56, 57, 58, 59, 60, 61, 62, 63, 64, 65, 66, 67, 68, 69, 70, 71, 72, 73, 74, 75, 76, 77, 102, 103, 104, 105, 106, 107, 108, 109, 110, 19, 20, 21, 111, 112, 113, 114, 115, 116, 117, 34, 33, 29, 30, 31, 32, 118, 119, 120, 121, 122, 123, 124, 125, 126, 127, 128, 129, 130, 131, 132, 133, 134, 135, 136, 137, 138, 139, 140, 141, 142, 143, 144, 145, 146, 147, 148, 149, 150, 151, 152, 153, 154, 155, 156, 157, 158, 159] rfl (by decide +kernel)
set_option maxRecDepth 20000 in
theorem gX8_prove_X8_walkOn : GoodIn wsX8_prove (wsV RX8 208 RX8 yX8_walkOn wsX8_walkOn) := goodIn_app (goodIn_of _ (by decide +kernel)) ggX8_prove_X8_walkOn
theorem dX8_prove_0 : decode cX8_prove 0 = .ok (.aload_n 0, 1) := by decide +kernel
theorem dX8_prove_1 : decode cX8_prove 1 = .ok (.iconst 0, 1) := by decide +kernel
theorem dX8_prove_2 : decode cX8_prove 2 = .ok (.putfield 112, 3) := by decide +kernel
theorem dX8_prove_5 : decode cX8_prove 5 = .ok (.aload_n 0, 1) := by decide +kernel
theorem dX8_prove_6 : decode cX8_prove 6 = .ok (.iload_n 1, 1) := by decide +kernel
theorem dX8_prove_7 : decode cX8_prove 7 = .ok (.invokevirtual 175, 3) := by decide +kernel
theorem dX8_prove_10 : decode cX8_prove 10 = .ok (.ifCond .eq 21, 3) := by decide +kernel
theorem dX8_prove_13 : decode cX8_prove 13 = .ok (.iload_n 2, 1) := by decide +kernel
theorem dX8_prove_14 : decode cX8_prove 14 = .ok (.invokestatic 157, 3) := by decide +kernel
theorem dX8_prove_17 : decode cX8_prove 17 = .ok (.ifCond .eq 14, 3) := by decide +kernel
theorem dX8_prove_20 : decode cX8_prove 20 = .ok (.iload_n 3, 1) := by decide +kernel
theorem dX8_prove_21 : decode cX8_prove 21 = .ok (.iconst 0, 1) := by decide +kernel
theorem dX8_prove_22 : decode cX8_prove 22 = .ok (.sipush 255, 3) := by decide +kernel
theorem dX8_prove_25 : decode cX8_prove 25 = .ok (.invokestatic 153, 3) := by decide +kernel
theorem dX8_prove_28 : decode cX8_prove 28 = .ok (.ifCond .ne 6, 3) := by decide +kernel
theorem dX8_prove_31 : decode cX8_prove 31 = .ok (.bipush (-2), 2) := by decide +kernel
theorem dX8_prove_33 : decode cX8_prove 33 = .ok (.ireturn, 1) := by decide +kernel
theorem dX8_prove_34 : decode cX8_prove 34 = .ok (.iconst 0, 1) := by decide +kernel
theorem dX8_prove_35 : decode cX8_prove 35 = .ok (.istore 4, 2) := by decide +kernel
theorem dX8_prove_37 : decode cX8_prove 37 = .ok (.iload 4, 2) := by decide +kernel
theorem dX8_prove_39 : decode cX8_prove 39 = .ok (.bipush 8, 2) := by decide +kernel
theorem dX8_prove_41 : decode cX8_prove 41 = .ok (.if_icmp .ge 59, 3) := by decide +kernel
theorem dX8_prove_44 : decode cX8_prove 44 = .ok (.iload_n 3, 1) := by decide +kernel
theorem dX8_prove_45 : decode cX8_prove 45 = .ok (.iload 4, 2) := by decide +kernel
theorem dX8_prove_47 : decode cX8_prove 47 = .ok (.ishr, 1) := by decide +kernel
theorem dX8_prove_48 : decode cX8_prove 48 = .ok (.iconst 1, 1) := by decide +kernel
theorem dX8_prove_49 : decode cX8_prove 49 = .ok (.iand, 1) := by decide +kernel
theorem dX8_prove_50 : decode cX8_prove 50 = .ok (.iconst 1, 1) := by decide +kernel
theorem dX8_prove_51 : decode cX8_prove 51 = .ok (.if_icmp .ne 16, 3) := by decide +kernel
theorem dX8_prove_54 : decode cX8_prove 54 = .ok (.aload_n 0, 1) := by decide +kernel
theorem dX8_prove_55 : decode cX8_prove 55 = .ok (.getfield 59, 3) := by decide +kernel
theorem dX8_prove_58 : decode cX8_prove 58 = .ok (.iload 4, 2) := by decide +kernel
theorem dX8_prove_60 : decode cX8_prove 60 = .ok (.baload, 1) := by decide +kernel
theorem dX8_prove_61 : decode cX8_prove 61 = .ok (.ifCond .ne 6, 3) := by decide +kernel
theorem dX8_prove_64 : decode cX8_prove 64 = .ok (.bipush (-2), 2) := by decide +kernel
theorem dX8_prove_66 : decode cX8_prove 66 = .ok (.ireturn, 1) := by decide +kernel
theorem dX8_prove_67 : decode cX8_prove 67 = .ok (.aload_n 0, 1) := by decide +kernel
theorem dX8_prove_68 : decode cX8_prove 68 = .ok (.getfield 99, 3) := by decide +kernel
theorem dX8_prove_71 : decode cX8_prove 71 = .ok (.iload 4, 2) := by decide +kernel
theorem dX8_prove_73 : decode cX8_prove 73 = .ok (.iload 4, 2) := by decide +kernel
theorem dX8_prove_75 : decode cX8_prove 75 = .ok (.iload_n 1, 1) := by decide +kernel
theorem dX8_prove_76 : decode cX8_prove 76 = .ok (.if_icmp .eq 12, 3) := by decide +kernel
theorem dX8_prove_79 : decode cX8_prove 79 = .ok (.iload_n 3, 1) := by decide +kernel
theorem dX8_prove_80 : decode cX8_prove 80 = .ok (.iload 4, 2) := by decide +kernel
theorem dX8_prove_82 : decode cX8_prove 82 = .ok (.ishr, 1) := by decide +kernel
theorem dX8_prove_83 : decode cX8_prove 83 = .ok (.iconst 1, 1) := by decide +kernel
theorem dX8_prove_84 : decode cX8_prove 84 = .ok (.iand, 1) := by decide +kernel
theorem dX8_prove_85 : decode cX8_prove 85 = .ok (.ifCond .ne 7, 3) := by decide +kernel
theorem dX8_prove_88 : decode cX8_prove 88 = .ok (.iconst 1, 1) := by decide +kernel
theorem dX8_prove_89 : decode cX8_prove 89 = .ok (.goto 4, 3) := by decide +kernel
theorem dX8_prove_92 : decode cX8_prove 92 = .ok (.iconst 0, 1) := by decide +kernel
theorem dX8_prove_93 : decode cX8_prove 93 = .ok (.bastore, 1) := by decide +kernel
theorem dX8_prove_94 : decode cX8_prove 94 = .ok (.iinc 4 1, 3) := by decide +kernel
theorem dX8_prove_97 : decode cX8_prove 97 = .ok (.goto (-60), 3) := by decide +kernel
theorem dX8_prove_100 : decode cX8_prove 100 = .ok (.aload_n 0, 1) := by decide +kernel
theorem dX8_prove_101 : decode cX8_prove 101 = .ok (.iconst 1, 1) := by decide +kernel
theorem dX8_prove_102 : decode cX8_prove 102 = .ok (.putfield 198, 3) := by decide +kernel
theorem dX8_prove_105 : decode cX8_prove 105 = .ok (.aload_n 0, 1) := by decide +kernel
theorem dX8_prove_106 : decode cX8_prove 106 = .ok (.iconst 0, 1) := by decide +kernel
theorem dX8_prove_107 : decode cX8_prove 107 = .ok (.putfield 202, 3) := by decide +kernel
theorem dX8_prove_110 : decode cX8_prove 110 = .ok (.aload_n 0, 1) := by decide +kernel
theorem dX8_prove_111 : decode cX8_prove 111 = .ok (.iconst (-1), 1) := by decide +kernel
theorem dX8_prove_112 : decode cX8_prove 112 = .ok (.putfield 102, 3) := by decide +kernel
theorem dX8_prove_115 : decode cX8_prove 115 = .ok (.aload_n 0, 1) := by decide +kernel
theorem dX8_prove_116 : decode cX8_prove 116 = .ok (.iconst (-1), 1) := by decide +kernel
theorem dX8_prove_117 : decode cX8_prove 117 = .ok (.putfield 105, 3) := by decide +kernel
theorem dX8_prove_120 : decode cX8_prove 120 = .ok (.aload_n 0, 1) := by decide +kernel
theorem dX8_prove_121 : decode cX8_prove 121 = .ok (.iconst 0, 1) := by decide +kernel
theorem dX8_prove_122 : decode cX8_prove 122 = .ok (.putfield 195, 3) := by decide +kernel
theorem dX8_prove_125 : decode cX8_prove 125 = .ok (.aload_n 0, 1) := by decide +kernel
theorem dX8_prove_126 : decode cX8_prove 126 = .ok (.aload_n 0, 1) := by decide +kernel
theorem dX8_prove_127 : decode cX8_prove 127 = .ok (.getfield 46, 3) := by decide +kernel
theorem dX8_prove_130 : decode cX8_prove 130 = .ok (.bipush 100, 2) := by decide +kernel
theorem dX8_prove_132 : decode cX8_prove 132 = .ok (.iload_n 2, 1) := by decide +kernel
theorem dX8_prove_133 : decode cX8_prove 133 = .ok (.imul, 1) := by decide +kernel
theorem dX8_prove_134 : decode cX8_prove 134 = .ok (.aload_n 0, 1) := by decide +kernel
theorem dX8_prove_135 : decode cX8_prove 135 = .ok (.getfield 49, 3) := by decide +kernel
theorem dX8_prove_138 : decode cX8_prove 138 = .ok (.iload_n 2, 1) := by decide +kernel
theorem dX8_prove_139 : decode cX8_prove 139 = .ok (.iaload, 1) := by decide +kernel
theorem dX8_prove_140 : decode cX8_prove 140 = .ok (.invokevirtual 163, 3) := by decide +kernel
theorem dX8_prove_143 : decode cX8_prove 143 = .ok (.aload_n 0, 1) := by decide +kernel
theorem dX8_prove_144 : decode cX8_prove 144 = .ok (.iload_n 1, 1) := by decide +kernel
theorem dX8_prove_145 : decode cX8_prove 145 = .ok (.invokevirtual 205, 3) := by decide +kernel
theorem dX8_prove_148 : decode cX8_prove 148 = .ok (.iconst 0, 1) := by decide +kernel
theorem dX8_prove_149 : decode cX8_prove 149 = .ok (.istore 4, 2) := by decide +kernel
theorem dX8_prove_151 : decode cX8_prove 151 = .ok (.aload_n 0, 1) := by decide +kernel
theorem dX8_prove_152 : decode cX8_prove 152 = .ok (.getfield 195, 3) := by decide +kernel
theorem dX8_prove_155 : decode cX8_prove 155 = .ok (.ifCond .le 18, 3) := by decide +kernel
theorem dX8_prove_158 : decode cX8_prove 158 = .ok (.iload 4, 2) := by decide +kernel
theorem dX8_prove_160 : decode cX8_prove 160 = .ok (.ifCond .ne 13, 3) := by decide +kernel
theorem dX8_prove_163 : decode cX8_prove 163 = .ok (.aload_n 0, 1) := by decide +kernel
theorem dX8_prove_164 : decode cX8_prove 164 = .ok (.iload_n 1, 1) := by decide +kernel
theorem dX8_prove_165 : decode cX8_prove 165 = .ok (.invokevirtual 208, 3) := by decide +kernel
theorem dX8_prove_168 : decode cX8_prove 168 = .ok (.istore 4, 2) := by decide +kernel
theorem dX8_prove_170 : decode cX8_prove 170 = .ok (.goto (-19), 3) := by decide +kernel
theorem dX8_prove_173 : decode cX8_prove 173 = .ok (.iload 4, 2) := by decide +kernel
theorem dX8_prove_175 : decode cX8_prove 175 = .ok (.ireturn, 1) := by decide +kernel
set_option maxRecDepth 20000 in
theorem ggX8_walkOn_X8_endWalk : GoodIn wsX8_walkOn wsX8_endWalk := goodIn_r _ [18, 13, 8, 1, 4, 19, 20, 3, 2, 21, 22, 23, 17, 24, 25, 26, 27, 28, 29, 30, 31, 32, 33, 34, 35, 36, 37, 38, 39, 40, 41, 42, 43, 44, 45, 46, 47, 48, 49, 50, 51, 52, 53, 54, 55, 56, 57, 58, 59, 60, 61, 62, 63, 64, 65, 66, 67, 68, 69, 70, 71, 72, 73, 74, 75, 76, 77, 78, 79, 80, 5, 6, 7, 12, 11, 102, 103, 104, 105, 106, 107, 108, 109, 110, 111, 112, 113, 114, 115, 116, 117, 118, 119, 120, 121, 122, 123, 124, 125, 126, 127, 128, 129, 130, 131, 132, 133, 134, 135, 136, 137, 138, 139, 140, 141, 142, 143] rfl (by decide +kernel)
set_option maxRecDepth 20000 in
theorem gX8_walkOn_X8_endWalk : GoodIn wsX8_walkOn (wsV RX8 212 RX8 yX8_endWalk wsX8_endWalk) := goodIn_app (goodIn_of _ (by decide +kernel)) ggX8_walkOn_X8_endWalk
set_option maxRecDepth 20000 in
theorem ggX8_walkOn_X8_truthOf : GoodIn wsX8_walkOn wsX8_truthOf := goodIn_r _ [84, 85, 86, 87, 17, 88, 89, 90, 91, 102, 103, 104, 105, 106, 107, 108, 109, 110, 111, 112, 113, 114, 115, 116, 117, 118, 119, 120, 121, 122, 123, 124, 125, 126, 127, 128, 129, 130, 131, 132, 133, 134, 135, 136, 137, 138, 139, 140, 141, 142, 143] rfl (by decide +kernel)
set_option maxRecDepth 20000 in
theorem gX8_walkOn_X8_truthOf : GoodIn wsX8_walkOn (wsV RX8 191 RX8 yX8_truthOf wsX8_truthOf) := goodIn_app (goodIn_of _ (by decide +kernel)) ggX8_walkOn_X8_truthOf
set_option maxRecDepth 20000 in
theorem ggX8_walkOn_X8_fail : GoodIn wsX8_walkOn wsX8_fail := goodIn_r _ [28, 29, 30, 102, 103, 104, 105, 106, 107, 108, 109, 110, 111, 112, 113, 114, 115, 116, 117, 118, 119, 120, 121, 122, 123, 124, 125, 126, 127, 128, 129, 130, 131, 132, 133, 134, 135, 136, 137, 138, 139, 140, 141, 142, 143] rfl (by decide +kernel)
set_option maxRecDepth 20000 in
theorem gX8_walkOn_X8_fail : GoodIn wsX8_walkOn (wsV RX8 216 RX8 yX8_fail wsX8_fail) := goodIn_app (goodIn_of _ (by decide +kernel)) ggX8_walkOn_X8_fail
set_option maxRecDepth 20000 in
theorem ggX8_walkOn_X8_goOn : GoodIn wsX8_walkOn wsX8_goOn := goodIn_r _ [80, 5, 6, 7, 13, 12, 11, 31, 32, 33, 17, 34, 35, 36, 37, 38, 39, 40, 41, 42, 43, 44, 45, 46, 47, 48, 49, 50, 51, 52, 53, 54, 55, 56, 57, 58, 59, 60, 61, 62, 63, 64, 65, 66, 67, 68, 69, 70, 71, 72, 73, 74, 75, 76, 102, 103, 104, 105, 106, 107, 108, 109, 110, 111, 112, 113, 114, 115, 116, 117, 118, 119, 120, 121, 122, 123, 124, 125, 126, 127, 128, 129, 130, 131, 132, 133, 134, 135, 136, 137, 138, 139, 140, 141, 142, 143] rfl (by decide +kernel)
set_option maxRecDepth 20000 in
theorem gX8_walkOn_X8_goOn : GoodIn wsX8_walkOn (wsV RX8 180 RX8 yX8_goOn wsX8_goOn) := goodIn_app (goodIn_of _ (by decide +kernel)) ggX8_walkOn_X8_goOn
set_option maxRecDepth 20000 in
theorem ggX8_walkOn_X8_isNamed : GoodIn wsX8_walkOn wsX8_isNamed := goodIn_r _ [95, 96, 7, 97, 6, 102, 103, 104, 105, 106, 107, 108, 109, 110, 111, 112, 113, 114, 115, 116, 117, 118, 119, 120, 121, 122, 123, 124, 125, 126, 127, 128, 129, 130, 131, 132, 133, 134, 135, 136, 137, 138, 139, 140, 141, 142, 143] rfl (by decide +kernel)
set_option maxRecDepth 20000 in
theorem gX8_walkOn_X8_isNamed : GoodIn wsX8_walkOn (wsV RX8 219 RX8 yX8_isNamed wsX8_isNamed) := goodIn_app (goodIn_of _ (by decide +kernel)) ggX8_walkOn_X8_isNamed
set_option maxRecDepth 20000 in
theorem ggX8_walkOn_X8_keyIs : GoodIn wsX8_walkOn wsX8_keyIs := goodIn_r _ [34, 35, 36, 37, 102, 103, 104, 105, 106, 107, 108, 109, 110, 111, 112, 113, 114, 115, 116, 117, 118, 119, 120, 121, 122, 123, 124, 125, 126, 127, 128, 129, 130, 131, 132, 133, 134, 135, 136, 137, 138, 139, 140, 141, 142, 143] rfl (by decide +kernel)
set_option maxRecDepth 20000 in
theorem gX8_walkOn_X8_keyIs : GoodIn wsX8_walkOn (wsV RX8 163 RX8 yX8_keyIs wsX8_keyIs) := goodIn_app (goodIn_of _ (by decide +kernel)) ggX8_walkOn_X8_keyIs
set_option maxRecDepth 20000 in
theorem ggX8_walkOn_X8_add : GoodIn wsX8_walkOn wsX8_add := goodIn_r _ [41, 42, 37, 102, 103, 104, 105, 106, 107, 108, 109, 110, 111, 112, 113, 114, 115, 116, 117, 118, 119, 120, 121, 122, 123, 124, 125, 126, 127, 128, 129, 130, 131, 132, 133, 134, 135, 136, 137, 138, 139, 140, 141, 142, 143] rfl (by decide +kernel)
set_option maxRecDepth 20000 in
theorem gX8_walkOn_X8_add : GoodIn wsX8_walkOn (wsV RX8 166 RX8 yX8_add wsX8_add) := goodIn_app (goodIn_of _ (by decide +kernel)) ggX8_walkOn_X8_add
set_option maxRecDepth 20000 in
theorem ggX8_walkOn_X8_sealNow : GoodIn wsX8_walkOn wsX8_sealNow := goodIn_r _ [46, 36, 47, 35, 48, 42, 37, 13, 49, 50, 51, 17, 52, 53, 54, 55, 56, 57, 58, 59, 60, 61, 62, 63, 64, 65, 66, 67, 68, 69, 70, 71, 72, 73, 74, 75, 76, 102, 103, 104, 105, 106, 107, 108, 109, 110, 111, 112, 113, 114, 115, 116, 117, 118, 119, 120, 121, 122, 123, 124, 125, 126, 127, 128, 129, 130, 131, 132, 133, 134, 135, 136, 137, 138, 139, 140, 141, 142, 143] rfl (by decide +kernel)
set_option maxRecDepth 20000 in
theorem gX8_walkOn_X8_sealNow : GoodIn wsX8_walkOn (wsV RX8 169 RX8 yX8_sealNow wsX8_sealNow) := goodIn_app (goodIn_of _ (by decide +kernel)) ggX8_walkOn_X8_sealNow
set_option maxRecDepth 20000 in
theorem ggX8_walkOn_X8_beginWalk : GoodIn wsX8_walkOn wsX8_beginWalk := goodIn_r _ [101, 97, 96, 13, 8, 1, 2, 3, 38, 39, 40, 17, 41, 42, 37, 43, 44, 45, 46, 36, 47, 35, 48, 49, 50, 51, 52, 53, 54, 55, 56, 57, 58, 59, 60, 61, 62, 63, 64, 65, 66, 67, 68, 69, 70, 71, 72, 73, 74, 75, 76, 102, 103, 104, 105, 106, 107, 108, 109, 110, 111, 112, 113, 114, 115, 116, 117, 118, 119, 120, 121, 122, 123, 124, 125, 126, 127, 128, 129, 130, 131, 132, 133, 134, 135, 136, 137, 138, 139, 140, 141, 142, 143] rfl (by decide +kernel)
set_option maxRecDepth 20000 in
theorem gX8_walkOn_X8_beginWalk : GoodIn wsX8_walkOn (wsV RX8 205 RX8 yX8_beginWalk wsX8_beginWalk) := goodIn_app (goodIn_of _ (by decide +kernel)) ggX8_walkOn_X8_beginWalk
theorem dX8_walkOn_0 : decode cX8_walkOn 0 = .ok (.aload_n 0, 1) := by decide +kernel
theorem dX8_walkOn_1 : decode cX8_walkOn 1 = .ok (.getfield 195, 3) := by decide +kernel
theorem dX8_walkOn_4 : decode cX8_walkOn 4 = .ok (.iconst 1, 1) := by decide +kernel
theorem dX8_walkOn_5 : decode cX8_walkOn 5 = .ok (.isub, 1) := by decide +kernel
theorem dX8_walkOn_6 : decode cX8_walkOn 6 = .ok (.istore_n 2, 1) := by decide +kernel
theorem dX8_walkOn_7 : decode cX8_walkOn 7 = .ok (.aload_n 0, 1) := by decide +kernel
theorem dX8_walkOn_8 : decode cX8_walkOn 8 = .ok (.getfield 90, 3) := by decide +kernel
theorem dX8_walkOn_11 : decode cX8_walkOn 11 = .ok (.iload_n 2, 1) := by decide +kernel
theorem dX8_walkOn_12 : decode cX8_walkOn 12 = .ok (.iaload, 1) := by decide +kernel
theorem dX8_walkOn_13 : decode cX8_walkOn 13 = .ok (.istore_n 3, 1) := by decide +kernel
theorem dX8_walkOn_14 : decode cX8_walkOn 14 = .ok (.aload_n 0, 1) := by decide +kernel
theorem dX8_walkOn_15 : decode cX8_walkOn 15 = .ok (.getfield 93, 3) := by decide +kernel
theorem dX8_walkOn_18 : decode cX8_walkOn 18 = .ok (.iload_n 2, 1) := by decide +kernel
theorem dX8_walkOn_19 : decode cX8_walkOn 19 = .ok (.iaload, 1) := by decide +kernel
theorem dX8_walkOn_20 : decode cX8_walkOn 20 = .ok (.aload_n 0, 1) := by decide +kernel
theorem dX8_walkOn_21 : decode cX8_walkOn 21 = .ok (.getfield 69, 3) := by decide +kernel
theorem dX8_walkOn_24 : decode cX8_walkOn 24 = .ok (.iload_n 3, 1) := by decide +kernel
theorem dX8_walkOn_25 : decode cX8_walkOn 25 = .ok (.iaload, 1) := by decide +kernel
theorem dX8_walkOn_26 : decode cX8_walkOn 26 = .ok (.if_icmp .ne 11, 3) := by decide +kernel
theorem dX8_walkOn_29 : decode cX8_walkOn 29 = .ok (.aload_n 0, 1) := by decide +kernel
theorem dX8_walkOn_30 : decode cX8_walkOn 30 = .ok (.iload_n 1, 1) := by decide +kernel
theorem dX8_walkOn_31 : decode cX8_walkOn 31 = .ok (.iload_n 2, 1) := by decide +kernel
theorem dX8_walkOn_32 : decode cX8_walkOn 32 = .ok (.iload_n 3, 1) := by decide +kernel
theorem dX8_walkOn_33 : decode cX8_walkOn 33 = .ok (.invokevirtual 212, 3) := by decide +kernel
theorem dX8_walkOn_36 : decode cX8_walkOn 36 = .ok (.ireturn, 1) := by decide +kernel
theorem dX8_walkOn_37 : decode cX8_walkOn 37 = .ok (.bipush 10, 2) := by decide +kernel
theorem dX8_walkOn_39 : decode cX8_walkOn 39 = .ok (.iload_n 3, 1) := by decide +kernel
theorem dX8_walkOn_40 : decode cX8_walkOn 40 = .ok (.imul, 1) := by decide +kernel
theorem dX8_walkOn_41 : decode cX8_walkOn 41 = .ok (.aload_n 0, 1) := by decide +kernel
theorem dX8_walkOn_42 : decode cX8_walkOn 42 = .ok (.getfield 93, 3) := by decide +kernel
theorem dX8_walkOn_45 : decode cX8_walkOn 45 = .ok (.iload_n 2, 1) := by decide +kernel
theorem dX8_walkOn_46 : decode cX8_walkOn 46 = .ok (.iaload, 1) := by decide +kernel
theorem dX8_walkOn_47 : decode cX8_walkOn 47 = .ok (.iadd, 1) := by decide +kernel
theorem dX8_walkOn_48 : decode cX8_walkOn 48 = .ok (.istore 4, 2) := by decide +kernel
theorem dX8_walkOn_50 : decode cX8_walkOn 50 = .ok (.aload_n 0, 1) := by decide +kernel
theorem dX8_walkOn_51 : decode cX8_walkOn 51 = .ok (.getfield 78, 3) := by decide +kernel
theorem dX8_walkOn_54 : decode cX8_walkOn 54 = .ok (.iload 4, 2) := by decide +kernel
theorem dX8_walkOn_56 : decode cX8_walkOn 56 = .ok (.baload, 1) := by decide +kernel
theorem dX8_walkOn_57 : decode cX8_walkOn 57 = .ok (.ifCond .ne 80, 3) := by decide +kernel
theorem dX8_walkOn_60 : decode cX8_walkOn 60 = .ok (.aload_n 0, 1) := by decide +kernel
