-- needs:
theorem dX8_mix_114 : decode cX8_mix 114 = .ok (.iaload, 1) := by decide +kernel
theorem dX8_mix_115 : decode cX8_mix 115 = .ok (.iastore, 1) := by decide +kernel
theorem dX8_mix_116 : decode cX8_mix 116 = .ok (.iinc 1 1, 3) := by decide +kernel
theorem dX8_mix_119 : decode cX8_mix 119 = .ok (.goto (-21), 3) := by decide +kernel
theorem dX8_mix_122 : decode cX8_mix 122 = .ok (.iconst 0, 1) := by decide +kernel
theorem dX8_mix_123 : decode cX8_mix 123 = .ok (.istore_n 1, 1) := by decide +kernel
theorem dX8_mix_124 : decode cX8_mix 124 = .ok (.iload_n 1, 1) := by decide +kernel
theorem dX8_mix_125 : decode cX8_mix 125 = .ok (.bipush 64, 2) := by decide +kernel
theorem dX8_mix_127 : decode cX8_mix 127 = .ok (.if_icmp .ge 194, 3) := by decide +kernel
theorem dX8_mix_130 : decode cX8_mix 130 = .ok (.aload_n 0, 1) := by decide +kernel
theorem dX8_mix_131 : decode cX8_mix 131 = .ok (.getfield 22, 3) := by decide +kernel
theorem dX8_mix_134 : decode cX8_mix 134 = .ok (.iconst 4, 1) := by decide +kernel
theorem dX8_mix_135 : decode cX8_mix 135 = .ok (.iaload, 1) := by decide +kernel
theorem dX8_mix_136 : decode cX8_mix 136 = .ok (.istore_n 2, 1) := by decide +kernel
theorem dX8_mix_137 : decode cX8_mix 137 = .ok (.aload_n 0, 1) := by decide +kernel
theorem dX8_mix_138 : decode cX8_mix 138 = .ok (.getfield 22, 3) := by decide +kernel
theorem dX8_mix_141 : decode cX8_mix 141 = .ok (.iconst 0, 1) := by decide +kernel
theorem dX8_mix_142 : decode cX8_mix 142 = .ok (.iaload, 1) := by decide +kernel
theorem dX8_mix_143 : decode cX8_mix 143 = .ok (.istore_n 3, 1) := by decide +kernel
theorem dX8_mix_144 : decode cX8_mix 144 = .ok (.aload_n 0, 1) := by decide +kernel
theorem dX8_mix_145 : decode cX8_mix 145 = .ok (.getfield 22, 3) := by decide +kernel
theorem dX8_mix_148 : decode cX8_mix 148 = .ok (.bipush 7, 2) := by decide +kernel
theorem dX8_mix_150 : decode cX8_mix 150 = .ok (.iaload, 1) := by decide +kernel
theorem dX8_mix_151 : decode cX8_mix 151 = .ok (.iload_n 2, 1) := by decide +kernel
theorem dX8_mix_152 : decode cX8_mix 152 = .ok (.bipush 6, 2) := by decide +kernel
theorem dX8_mix_154 : decode cX8_mix 154 = .ok (.invokestatic 123, 3) := by decide +kernel
theorem dX8_mix_157 : decode cX8_mix 157 = .ok (.iload_n 2, 1) := by decide +kernel
theorem dX8_mix_158 : decode cX8_mix 158 = .ok (.bipush 11, 2) := by decide +kernel
theorem dX8_mix_160 : decode cX8_mix 160 = .ok (.invokestatic 123, 3) := by decide +kernel
theorem dX8_mix_163 : decode cX8_mix 163 = .ok (.ixor, 1) := by decide +kernel
theorem dX8_mix_164 : decode cX8_mix 164 = .ok (.iload_n 2, 1) := by decide +kernel
theorem dX8_mix_165 : decode cX8_mix 165 = .ok (.bipush 25, 2) := by decide +kernel
theorem dX8_mix_167 : decode cX8_mix 167 = .ok (.invokestatic 123, 3) := by decide +kernel
theorem dX8_mix_170 : decode cX8_mix 170 = .ok (.ixor, 1) := by decide +kernel
theorem dX8_mix_171 : decode cX8_mix 171 = .ok (.iadd, 1) := by decide +kernel
theorem dX8_mix_172 : decode cX8_mix 172 = .ok (.iload_n 2, 1) := by decide +kernel
theorem dX8_mix_173 : decode cX8_mix 173 = .ok (.aload_n 0, 1) := by decide +kernel
theorem dX8_mix_174 : decode cX8_mix 174 = .ok (.getfield 22, 3) := by decide +kernel
theorem dX8_mix_177 : decode cX8_mix 177 = .ok (.iconst 5, 1) := by decide +kernel
theorem dX8_mix_178 : decode cX8_mix 178 = .ok (.iaload, 1) := by decide +kernel
theorem dX8_mix_179 : decode cX8_mix 179 = .ok (.iand, 1) := by decide +kernel
theorem dX8_mix_180 : decode cX8_mix 180 = .ok (.iload_n 2, 1) := by decide +kernel
theorem dX8_mix_181 : decode cX8_mix 181 = .ok (.iconst (-1), 1) := by decide +kernel
theorem dX8_mix_182 : decode cX8_mix 182 = .ok (.ixor, 1) := by decide +kernel
theorem dX8_mix_183 : decode cX8_mix 183 = .ok (.aload_n 0, 1) := by decide +kernel
theorem dX8_mix_184 : decode cX8_mix 184 = .ok (.getfield 22, 3) := by decide +kernel
theorem dX8_mix_187 : decode cX8_mix 187 = .ok (.bipush 6, 2) := by decide +kernel
theorem dX8_mix_189 : decode cX8_mix 189 = .ok (.iaload, 1) := by decide +kernel
theorem dX8_mix_190 : decode cX8_mix 190 = .ok (.iand, 1) := by decide +kernel
theorem dX8_mix_191 : decode cX8_mix 191 = .ok (.ixor, 1) := by decide +kernel
theorem dX8_mix_192 : decode cX8_mix 192 = .ok (.iadd, 1) := by decide +kernel
theorem dX8_mix_193 : decode cX8_mix 193 = .ok (.aload_n 0, 1) := by decide +kernel
theorem dX8_mix_194 : decode cX8_mix 194 = .ok (.getfield 13, 3) := by decide +kernel
theorem dX8_mix_197 : decode cX8_mix 197 = .ok (.iload_n 1, 1) := by decide +kernel
theorem dX8_mix_198 : decode cX8_mix 198 = .ok (.iaload, 1) := by decide +kernel
theorem dX8_mix_199 : decode cX8_mix 199 = .ok (.iadd, 1) := by decide +kernel
theorem dX8_mix_200 : decode cX8_mix 200 = .ok (.aload_n 0, 1) := by decide +kernel
theorem dX8_mix_201 : decode cX8_mix 201 = .ok (.getfield 19, 3) := by decide +kernel
theorem dX8_mix_204 : decode cX8_mix 204 = .ok (.iload_n 1, 1) := by decide +kernel
theorem dX8_mix_205 : decode cX8_mix 205 = .ok (.iaload, 1) := by decide +kernel
theorem dX8_mix_206 : decode cX8_mix 206 = .ok (.iadd, 1) := by decide +kernel
theorem dX8_mix_207 : decode cX8_mix 207 = .ok (.istore 4, 2) := by decide +kernel
theorem dX8_mix_209 : decode cX8_mix 209 = .ok (.iload_n 3, 1) := by decide +kernel
theorem dX8_mix_210 : decode cX8_mix 210 = .ok (.iconst 2, 1) := by decide +kernel
theorem dX8_mix_211 : decode cX8_mix 211 = .ok (.invokestatic 123, 3) := by decide +kernel
theorem dX8_mix_214 : decode cX8_mix 214 = .ok (.iload_n 3, 1) := by decide +kernel
theorem dX8_mix_215 : decode cX8_mix 215 = .ok (.bipush 13, 2) := by decide +kernel
theorem dX8_mix_217 : decode cX8_mix 217 = .ok (.invokestatic 123, 3) := by decide +kernel
theorem dX8_mix_220 : decode cX8_mix 220 = .ok (.ixor, 1) := by decide +kernel
theorem dX8_mix_221 : decode cX8_mix 221 = .ok (.iload_n 3, 1) := by decide +kernel
theorem dX8_mix_222 : decode cX8_mix 222 = .ok (.bipush 22, 2) := by decide +kernel
theorem dX8_mix_224 : decode cX8_mix 224 = .ok (.invokestatic 123, 3) := by decide +kernel
theorem dX8_mix_227 : decode cX8_mix 227 = .ok (.ixor, 1) := by decide +kernel
theorem dX8_mix_228 : decode cX8_mix 228 = .ok (.iload_n 3, 1) := by decide +kernel
theorem dX8_mix_229 : decode cX8_mix 229 = .ok (.aload_n 0, 1) := by decide +kernel
theorem dX8_mix_230 : decode cX8_mix 230 = .ok (.getfield 22, 3) := by decide +kernel
theorem dX8_mix_233 : decode cX8_mix 233 = .ok (.iconst 1, 1) := by decide +kernel
theorem dX8_mix_234 : decode cX8_mix 234 = .ok (.iaload, 1) := by decide +kernel
theorem dX8_mix_235 : decode cX8_mix 235 = .ok (.iand, 1) := by decide +kernel
theorem dX8_mix_236 : decode cX8_mix 236 = .ok (.iload_n 3, 1) := by decide +kernel
theorem dX8_mix_237 : decode cX8_mix 237 = .ok (.aload_n 0, 1) := by decide +kernel
theorem dX8_mix_238 : decode cX8_mix 238 = .ok (.getfield 22, 3) := by decide +kernel
theorem dX8_mix_241 : decode cX8_mix 241 = .ok (.iconst 2, 1) := by decide +kernel
theorem dX8_mix_242 : decode cX8_mix 242 = .ok (.iaload, 1) := by decide +kernel
theorem dX8_mix_243 : decode cX8_mix 243 = .ok (.iand, 1) := by decide +kernel
theorem dX8_mix_244 : decode cX8_mix 244 = .ok (.ixor, 1) := by decide +kernel
theorem dX8_mix_245 : decode cX8_mix 245 = .ok (.aload_n 0, 1) := by decide +kernel
theorem dX8_mix_246 : decode cX8_mix 246 = .ok (.getfield 22, 3) := by decide +kernel
theorem dX8_mix_249 : decode cX8_mix 249 = .ok (.iconst 1, 1) := by decide +kernel
theorem dX8_mix_250 : decode cX8_mix 250 = .ok (.iaload, 1) := by decide +kernel
theorem dX8_mix_251 : decode cX8_mix 251 = .ok (.aload_n 0, 1) := by decide +kernel
theorem dX8_mix_252 : decode cX8_mix 252 = .ok (.getfield 22, 3) := by decide +kernel
theorem dX8_mix_255 : decode cX8_mix 255 = .ok (.iconst 2, 1) := by decide +kernel
theorem dX8_mix_256 : decode cX8_mix 256 = .ok (.iaload, 1) := by decide +kernel
theorem dX8_mix_257 : decode cX8_mix 257 = .ok (.iand, 1) := by decide +kernel
theorem dX8_mix_258 : decode cX8_mix 258 = .ok (.ixor, 1) := by decide +kernel
theorem dX8_mix_259 : decode cX8_mix 259 = .ok (.iadd, 1) := by decide +kernel
theorem dX8_mix_260 : decode cX8_mix 260 = .ok (.istore 5, 2) := by decide +kernel
theorem dX8_mix_262 : decode cX8_mix 262 = .ok (.bipush 7, 2) := by decide +kernel
theorem dX8_mix_264 : decode cX8_mix 264 = .ok (.istore 6, 2) := by decide +kernel
theorem dX8_mix_266 : decode cX8_mix 266 = .ok (.iload 6, 2) := by decide +kernel
theorem dX8_mix_268 : decode cX8_mix 268 = .ok (.ifCond .le 25, 3) := by decide +kernel
theorem dX8_mix_271 : decode cX8_mix 271 = .ok (.aload_n 0, 1) := by decide +kernel
theorem dX8_mix_272 : decode cX8_mix 272 = .ok (.getfield 22, 3) := by decide +kernel
theorem dX8_mix_275 : decode cX8_mix 275 = .ok (.iload 6, 2) := by decide +kernel
theorem dX8_mix_277 : decode cX8_mix 277 = .ok (.aload_n 0, 1) := by decide +kernel
theorem dX8_mix_278 : decode cX8_mix 278 = .ok (.getfield 22, 3) := by decide +kernel
theorem dX8_mix_281 : decode cX8_mix 281 = .ok (.iload 6, 2) := by decide +kernel
theorem dX8_mix_283 : decode cX8_mix 283 = .ok (.iconst 1, 1) := by decide +kernel
theorem dX8_mix_284 : decode cX8_mix 284 = .ok (.isub, 1) := by decide +kernel
theorem dX8_mix_285 : decode cX8_mix 285 = .ok (.iaload, 1) := by decide +kernel
theorem dX8_mix_286 : decode cX8_mix 286 = .ok (.iastore, 1) := by decide +kernel
theorem dX8_mix_287 : decode cX8_mix 287 = .ok (.iinc 6 (-1), 3) := by decide +kernel
theorem dX8_mix_290 : decode cX8_mix 290 = .ok (.goto (-24), 3) := by decide +kernel
theorem dX8_mix_293 : decode cX8_mix 293 = .ok (.aload_n 0, 1) := by decide +kernel
theorem dX8_mix_294 : decode cX8_mix 294 = .ok (.getfield 22, 3) := by decide +kernel
theorem dX8_mix_297 : decode cX8_mix 297 = .ok (.iconst 4, 1) := by decide +kernel
theorem dX8_mix_298 : decode cX8_mix 298 = .ok (.dup2, 1) := by decide +kernel
theorem dX8_mix_299 : decode cX8_mix 299 = .ok (.iaload, 1) := by decide +kernel
theorem dX8_mix_300 : decode cX8_mix 300 = .ok (.iload 4, 2) := by decide +kernel
theorem dX8_mix_302 : decode cX8_mix 302 = .ok (.iadd, 1) := by decide +kernel
theorem dX8_mix_303 : decode cX8_mix 303 = .ok (.iastore, 1) := by decide +kernel
theorem dX8_mix_304 : decode cX8_mix 304 = .ok (.aload_n 0, 1) := by decide +kernel
theorem dX8_mix_305 : decode cX8_mix 305 = .ok (.getfield 22, 3) := by decide +kernel
theorem dX8_mix_308 : decode cX8_mix 308 = .ok (.iconst 0, 1) := by decide +kernel
theorem dX8_mix_309 : decode cX8_mix 309 = .ok (.iload 4, 2) := by decide +kernel
theorem dX8_mix_311 : decode cX8_mix 311 = .ok (.iload 5, 2) := by decide +kernel
theorem dX8_mix_313 : decode cX8_mix 313 = .ok (.iadd, 1) := by decide +kernel
theorem dX8_mix_314 : decode cX8_mix 314 = .ok (.iastore, 1) := by decide +kernel
theorem dX8_mix_315 : decode cX8_mix 315 = .ok (.iinc 1 1, 3) := by decide +kernel
theorem dX8_mix_318 : decode cX8_mix 318 = .ok (.goto (-194), 3) := by decide +kernel
theorem dX8_mix_321 : decode cX8_mix 321 = .ok (.iconst 0, 1) := by decide +kernel
theorem dX8_mix_322 : decode cX8_mix 322 = .ok (.istore_n 1, 1) := by decide +kernel
theorem dX8_mix_323 : decode cX8_mix 323 = .ok (.iload_n 1, 1) := by decide +kernel
theorem dX8_mix_324 : decode cX8_mix 324 = .ok (.bipush 8, 2) := by decide +kernel
theorem dX8_mix_326 : decode cX8_mix 326 = .ok (.if_icmp .ge 24, 3) := by decide +kernel
theorem dX8_mix_329 : decode cX8_mix 329 = .ok (.aload_n 0, 1) := by decide +kernel
theorem dX8_mix_330 : decode cX8_mix 330 = .ok (.getfield 16, 3) := by decide +kernel
theorem dX8_mix_333 : decode cX8_mix 333 = .ok (.iload_n 1, 1) := by decide +kernel
theorem dX8_mix_334 : decode cX8_mix 334 = .ok (.dup2, 1) := by decide +kernel
theorem dX8_mix_335 : decode cX8_mix 335 = .ok (.iaload, 1) := by decide +kernel
theorem dX8_mix_336 : decode cX8_mix 336 = .ok (.aload_n 0, 1) := by decide +kernel
theorem dX8_mix_337 : decode cX8_mix 337 = .ok (.getfield 22, 3) := by decide +kernel
theorem dX8_mix_340 : decode cX8_mix 340 = .ok (.iload_n 1, 1) := by decide +kernel
theorem dX8_mix_341 : decode cX8_mix 341 = .ok (.iaload, 1) := by decide +kernel
theorem dX8_mix_342 : decode cX8_mix 342 = .ok (.iadd, 1) := by decide +kernel
theorem dX8_mix_343 : decode cX8_mix 343 = .ok (.iastore, 1) := by decide +kernel
theorem dX8_mix_344 : decode cX8_mix 344 = .ok (.iinc 1 1, 3) := by decide +kernel
theorem dX8_mix_347 : decode cX8_mix 347 = .ok (.goto (-24), 3) := by decide +kernel
theorem dX8_mix_350 : decode cX8_mix 350 = .ok (.return_, 1) := by decide +kernel
set_option maxRecDepth 20000 in
theorem ggX8_hashNow_X8_mix : GoodIn wsX8_hashNow wsX8_mix := goodIn_r _ [11, 5, 12, 3, 13, 14, 15, 10, 16, 17, 18, 19, 20, 21, 22, 23, 24, 25, 26, 27, 28, 29, 30, 31, 32, 33, 34, 35, 36, 37, 38, 39, 40, 41, 42, 43, 44, 45, 46, 47, 48, 49, 50, 51, 52, 53, 54, 55, 56, 57, 58] rfl (by decide +kernel)
set_option maxRecDepth 20000 in
theorem gX8_hashNow_X8_mix : GoodIn wsX8_hashNow (wsV RX8 129 RX8 yX8_mix wsX8_mix) := goodIn_app (goodIn_of _ (by decide +kernel)) ggX8_hashNow_X8_mix
theorem dX8_hashNow_0 : decode cX8_hashNow 0 = .ok (.bipush 8, 2) := by decide +kernel
theorem dX8_hashNow_2 : decode cX8_hashNow 2 = .ok (.aload_n 0, 1) := by decide +kernel
theorem dX8_hashNow_3 : decode cX8_hashNow 3 = .ok (.getfield 126, 3) := by decide +kernel
theorem dX8_hashNow_6 : decode cX8_hashNow 6 = .ok (.imul, 1) := by decide +kernel
theorem dX8_hashNow_7 : decode cX8_hashNow 7 = .ok (.istore_n 1, 1) := by decide +kernel
theorem dX8_hashNow_8 : decode cX8_hashNow 8 = .ok (.aload_n 0, 1) := by decide +kernel
theorem dX8_hashNow_9 : decode cX8_hashNow 9 = .ok (.getfield 25, 3) := by decide +kernel
theorem dX8_hashNow_12 : decode cX8_hashNow 12 = .ok (.aload_n 0, 1) := by decide +kernel
theorem dX8_hashNow_13 : decode cX8_hashNow 13 = .ok (.getfield 126, 3) := by decide +kernel
theorem dX8_hashNow_16 : decode cX8_hashNow 16 = .ok (.sipush 128, 3) := by decide +kernel
theorem dX8_hashNow_19 : decode cX8_hashNow 19 = .ok (.iastore, 1) := by decide +kernel
theorem dX8_hashNow_20 : decode cX8_hashNow 20 = .ok (.aload_n 0, 1) := by decide +kernel
theorem dX8_hashNow_21 : decode cX8_hashNow 21 = .ok (.dup, 1) := by decide +kernel
theorem dX8_hashNow_22 : decode cX8_hashNow 22 = .ok (.getfield 126, 3) := by decide +kernel
theorem dX8_hashNow_25 : decode cX8_hashNow 25 = .ok (.iconst 1, 1) := by decide +kernel
theorem dX8_hashNow_26 : decode cX8_hashNow 26 = .ok (.iadd, 1) := by decide +kernel
theorem dX8_hashNow_27 : decode cX8_hashNow 27 = .ok (.putfield 126, 3) := by decide +kernel
theorem dX8_hashNow_30 : decode cX8_hashNow 30 = .ok (.aload_n 0, 1) := by decide +kernel
theorem dX8_hashNow_31 : decode cX8_hashNow 31 = .ok (.getfield 126, 3) := by decide +kernel
theorem dX8_hashNow_34 : decode cX8_hashNow 34 = .ok (.bipush 64, 2) := by decide +kernel
theorem dX8_hashNow_36 : decode cX8_hashNow 36 = .ok (.irem, 1) := by decide +kernel
theorem dX8_hashNow_37 : decode cX8_hashNow 37 = .ok (.bipush 56, 2) := by decide +kernel
theorem dX8_hashNow_39 : decode cX8_hashNow 39 = .ok (.if_icmp .eq 26, 3) := by decide +kernel
theorem dX8_hashNow_42 : decode cX8_hashNow 42 = .ok (.aload_n 0, 1) := by decide +kernel
theorem dX8_hashNow_43 : decode cX8_hashNow 43 = .ok (.getfield 25, 3) := by decide +kernel
theorem dX8_hashNow_46 : decode cX8_hashNow 46 = .ok (.aload_n 0, 1) := by decide +kernel
theorem dX8_hashNow_47 : decode cX8_hashNow 47 = .ok (.getfield 126, 3) := by decide +kernel
theorem dX8_hashNow_50 : decode cX8_hashNow 50 = .ok (.iconst 0, 1) := by decide +kernel
theorem dX8_hashNow_51 : decode cX8_hashNow 51 = .ok (.iastore, 1) := by decide +kernel
theorem dX8_hashNow_52 : decode cX8_hashNow 52 = .ok (.aload_n 0, 1) := by decide +kernel
theorem dX8_hashNow_53 : decode cX8_hashNow 53 = .ok (.dup, 1) := by decide +kernel
theorem dX8_hashNow_54 : decode cX8_hashNow 54 = .ok (.getfield 126, 3) := by decide +kernel
theorem dX8_hashNow_57 : decode cX8_hashNow 57 = .ok (.iconst 1, 1) := by decide +kernel
theorem dX8_hashNow_58 : decode cX8_hashNow 58 = .ok (.iadd, 1) := by decide +kernel
theorem dX8_hashNow_59 : decode cX8_hashNow 59 = .ok (.putfield 126, 3) := by decide +kernel
theorem dX8_hashNow_62 : decode cX8_hashNow 62 = .ok (.goto (-32), 3) := by decide +kernel
theorem dX8_hashNow_65 : decode cX8_hashNow 65 = .ok (.iconst 0, 1) := by decide +kernel
theorem dX8_hashNow_66 : decode cX8_hashNow 66 = .ok (.istore_n 2, 1) := by decide +kernel
theorem dX8_hashNow_67 : decode cX8_hashNow 67 = .ok (.iload_n 2, 1) := by decide +kernel
theorem dX8_hashNow_68 : decode cX8_hashNow 68 = .ok (.bipush 8, 2) := by decide +kernel
theorem dX8_hashNow_70 : decode cX8_hashNow 70 = .ok (.if_icmp .ge 50, 3) := by decide +kernel
theorem dX8_hashNow_73 : decode cX8_hashNow 73 = .ok (.aload_n 0, 1) := by decide +kernel
theorem dX8_hashNow_74 : decode cX8_hashNow 74 = .ok (.getfield 25, 3) := by decide +kernel
theorem dX8_hashNow_77 : decode cX8_hashNow 77 = .ok (.aload_n 0, 1) := by decide +kernel
theorem dX8_hashNow_78 : decode cX8_hashNow 78 = .ok (.getfield 126, 3) := by decide +kernel
theorem dX8_hashNow_81 : decode cX8_hashNow 81 = .ok (.iload_n 2, 1) := by decide +kernel
theorem dX8_hashNow_82 : decode cX8_hashNow 82 = .ok (.iconst 4, 1) := by decide +kernel
theorem dX8_hashNow_83 : decode cX8_hashNow 83 = .ok (.if_icmp .ge 7, 3) := by decide +kernel
theorem dX8_hashNow_86 : decode cX8_hashNow 86 = .ok (.iconst 0, 1) := by decide +kernel
theorem dX8_hashNow_87 : decode cX8_hashNow 87 = .ok (.goto 16, 3) := by decide +kernel
theorem dX8_hashNow_90 : decode cX8_hashNow 90 = .ok (.iload_n 1, 1) := by decide +kernel
theorem dX8_hashNow_91 : decode cX8_hashNow 91 = .ok (.bipush 8, 2) := by decide +kernel
theorem dX8_hashNow_93 : decode cX8_hashNow 93 = .ok (.bipush 7, 2) := by decide +kernel
theorem dX8_hashNow_95 : decode cX8_hashNow 95 = .ok (.iload_n 2, 1) := by decide +kernel
theorem dX8_hashNow_96 : decode cX8_hashNow 96 = .ok (.isub, 1) := by decide +kernel
theorem dX8_hashNow_97 : decode cX8_hashNow 97 = .ok (.imul, 1) := by decide +kernel
theorem dX8_hashNow_98 : decode cX8_hashNow 98 = .ok (.iushr, 1) := by decide +kernel
theorem dX8_hashNow_99 : decode cX8_hashNow 99 = .ok (.sipush 255, 3) := by decide +kernel
theorem dX8_hashNow_102 : decode cX8_hashNow 102 = .ok (.iand, 1) := by decide +kernel
theorem dX8_hashNow_103 : decode cX8_hashNow 103 = .ok (.iastore, 1) := by decide +kernel
theorem dX8_hashNow_104 : decode cX8_hashNow 104 = .ok (.aload_n 0, 1) := by decide +kernel
theorem dX8_hashNow_105 : decode cX8_hashNow 105 = .ok (.dup, 1) := by decide +kernel
theorem dX8_hashNow_106 : decode cX8_hashNow 106 = .ok (.getfield 126, 3) := by decide +kernel
theorem dX8_hashNow_109 : decode cX8_hashNow 109 = .ok (.iconst 1, 1) := by decide +kernel
theorem dX8_hashNow_110 : decode cX8_hashNow 110 = .ok (.iadd, 1) := by decide +kernel
theorem dX8_hashNow_111 : decode cX8_hashNow 111 = .ok (.putfield 126, 3) := by decide +kernel
theorem dX8_hashNow_114 : decode cX8_hashNow 114 = .ok (.iinc 2 1, 3) := by decide +kernel
theorem dX8_hashNow_117 : decode cX8_hashNow 117 = .ok (.goto (-50), 3) := by decide +kernel
theorem dX8_hashNow_120 : decode cX8_hashNow 120 = .ok (.iconst 0, 1) := by decide +kernel
theorem dX8_hashNow_121 : decode cX8_hashNow 121 = .ok (.istore_n 2, 1) := by decide +kernel
theorem dX8_hashNow_122 : decode cX8_hashNow 122 = .ok (.iload_n 2, 1) := by decide +kernel
theorem dX8_hashNow_123 : decode cX8_hashNow 123 = .ok (.bipush 8, 2) := by decide +kernel
theorem dX8_hashNow_125 : decode cX8_hashNow 125 = .ok (.if_icmp .ge 21, 3) := by decide +kernel
theorem dX8_hashNow_128 : decode cX8_hashNow 128 = .ok (.aload_n 0, 1) := by decide +kernel
theorem dX8_hashNow_129 : decode cX8_hashNow 129 = .ok (.getfield 16, 3) := by decide +kernel
theorem dX8_hashNow_132 : decode cX8_hashNow 132 = .ok (.iload_n 2, 1) := by decide +kernel
theorem dX8_hashNow_133 : decode cX8_hashNow 133 = .ok (.aload_n 0, 1) := by decide +kernel
theorem dX8_hashNow_134 : decode cX8_hashNow 134 = .ok (.getfield 7, 3) := by decide +kernel
theorem dX8_hashNow_137 : decode cX8_hashNow 137 = .ok (.iload_n 2, 1) := by decide +kernel
theorem dX8_hashNow_138 : decode cX8_hashNow 138 = .ok (.iaload, 1) := by decide +kernel
theorem dX8_hashNow_139 : decode cX8_hashNow 139 = .ok (.iastore, 1) := by decide +kernel
theorem dX8_hashNow_140 : decode cX8_hashNow 140 = .ok (.iinc 2 1, 3) := by decide +kernel
theorem dX8_hashNow_143 : decode cX8_hashNow 143 = .ok (.goto (-21), 3) := by decide +kernel
theorem dX8_hashNow_146 : decode cX8_hashNow 146 = .ok (.iconst 0, 1) := by decide +kernel
theorem dX8_hashNow_147 : decode cX8_hashNow 147 = .ok (.istore_n 2, 1) := by decide +kernel
theorem dX8_hashNow_148 : decode cX8_hashNow 148 = .ok (.iload_n 2, 1) := by decide +kernel
theorem dX8_hashNow_149 : decode cX8_hashNow 149 = .ok (.aload_n 0, 1) := by decide +kernel
theorem dX8_hashNow_150 : decode cX8_hashNow 150 = .ok (.getfield 126, 3) := by decide +kernel
theorem dX8_hashNow_153 : decode cX8_hashNow 153 = .ok (.if_icmp .ge 86, 3) := by decide +kernel
theorem dX8_hashNow_156 : decode cX8_hashNow 156 = .ok (.iconst 0, 1) := by decide +kernel
theorem dX8_hashNow_157 : decode cX8_hashNow 157 = .ok (.istore_n 3, 1) := by decide +kernel
theorem dX8_hashNow_158 : decode cX8_hashNow 158 = .ok (.iload_n 3, 1) := by decide +kernel
theorem dX8_hashNow_159 : decode cX8_hashNow 159 = .ok (.bipush 16, 2) := by decide +kernel
theorem dX8_hashNow_161 : decode cX8_hashNow 161 = .ok (.if_icmp .ge 68, 3) := by decide +kernel
theorem dX8_hashNow_164 : decode cX8_hashNow 164 = .ok (.iload_n 2, 1) := by decide +kernel
theorem dX8_hashNow_165 : decode cX8_hashNow 165 = .ok (.iconst 4, 1) := by decide +kernel
theorem dX8_hashNow_166 : decode cX8_hashNow 166 = .ok (.iload_n 3, 1) := by decide +kernel
theorem dX8_hashNow_167 : decode cX8_hashNow 167 = .ok (.imul, 1) := by decide +kernel
theorem dX8_hashNow_168 : decode cX8_hashNow 168 = .ok (.iadd, 1) := by decide +kernel
theorem dX8_hashNow_169 : decode cX8_hashNow 169 = .ok (.istore 4, 2) := by decide +kernel
theorem dX8_hashNow_171 : decode cX8_hashNow 171 = .ok (.aload_n 0, 1) := by decide +kernel
theorem dX8_hashNow_172 : decode cX8_hashNow 172 = .ok (.getfield 19, 3) := by decide +kernel
theorem dX8_hashNow_175 : decode cX8_hashNow 175 = .ok (.iload_n 3, 1) := by decide +kernel
theorem dX8_hashNow_176 : decode cX8_hashNow 176 = .ok (.aload_n 0, 1) := by decide +kernel
theorem dX8_hashNow_177 : decode cX8_hashNow 177 = .ok (.getfield 25, 3) := by decide +kernel
theorem dX8_hashNow_180 : decode cX8_hashNow 180 = .ok (.iload 4, 2) := by decide +kernel
theorem dX8_hashNow_182 : decode cX8_hashNow 182 = .ok (.iaload, 1) := by decide +kernel
theorem dX8_hashNow_183 : decode cX8_hashNow 183 = .ok (.bipush 24, 2) := by decide +kernel
theorem dX8_hashNow_185 : decode cX8_hashNow 185 = .ok (.ishl, 1) := by decide +kernel
theorem dX8_hashNow_186 : decode cX8_hashNow 186 = .ok (.aload_n 0, 1) := by decide +kernel
theorem dX8_hashNow_187 : decode cX8_hashNow 187 = .ok (.getfield 25, 3) := by decide +kernel
theorem dX8_hashNow_190 : decode cX8_hashNow 190 = .ok (.iload 4, 2) := by decide +kernel
theorem dX8_hashNow_192 : decode cX8_hashNow 192 = .ok (.iconst 1, 1) := by decide +kernel
theorem dX8_hashNow_193 : decode cX8_hashNow 193 = .ok (.iadd, 1) := by decide +kernel
theorem dX8_hashNow_194 : decode cX8_hashNow 194 = .ok (.iaload, 1) := by decide +kernel
theorem dX8_hashNow_195 : decode cX8_hashNow 195 = .ok (.bipush 16, 2) := by decide +kernel
theorem dX8_hashNow_197 : decode cX8_hashNow 197 = .ok (.ishl, 1) := by decide +kernel
theorem dX8_hashNow_198 : decode cX8_hashNow 198 = .ok (.ior, 1) := by decide +kernel
theorem dX8_hashNow_199 : decode cX8_hashNow 199 = .ok (.aload_n 0, 1) := by decide +kernel
theorem dX8_hashNow_200 : decode cX8_hashNow 200 = .ok (.getfield 25, 3) := by decide +kernel
theorem dX8_hashNow_203 : decode cX8_hashNow 203 = .ok (.iload 4, 2) := by decide +kernel
theorem dX8_hashNow_205 : decode cX8_hashNow 205 = .ok (.iconst 2, 1) := by decide +kernel
theorem dX8_hashNow_206 : decode cX8_hashNow 206 = .ok (.iadd, 1) := by decide +kernel
theorem dX8_hashNow_207 : decode cX8_hashNow 207 = .ok (.iaload, 1) := by decide +kernel
theorem dX8_hashNow_208 : decode cX8_hashNow 208 = .ok (.bipush 8, 2) := by decide +kernel
theorem dX8_hashNow_210 : decode cX8_hashNow 210 = .ok (.ishl, 1) := by decide +kernel
theorem dX8_hashNow_211 : decode cX8_hashNow 211 = .ok (.ior, 1) := by decide +kernel
theorem dX8_hashNow_212 : decode cX8_hashNow 212 = .ok (.aload_n 0, 1) := by decide +kernel
theorem dX8_hashNow_213 : decode cX8_hashNow 213 = .ok (.getfield 25, 3) := by decide +kernel
theorem dX8_hashNow_216 : decode cX8_hashNow 216 = .ok (.iload 4, 2) := by decide +kernel
theorem dX8_hashNow_218 : decode cX8_hashNow 218 = .ok (.iconst 3, 1) := by decide +kernel
theorem dX8_hashNow_219 : decode cX8_hashNow 219 = .ok (.iadd, 1) := by decide +kernel
theorem dX8_hashNow_220 : decode cX8_hashNow 220 = .ok (.iaload, 1) := by decide +kernel
theorem dX8_hashNow_221 : decode cX8_hashNow 221 = .ok (.ior, 1) := by decide +kernel
theorem dX8_hashNow_222 : decode cX8_hashNow 222 = .ok (.iastore, 1) := by decide +kernel
theorem dX8_hashNow_223 : decode cX8_hashNow 223 = .ok (.iinc 3 1, 3) := by decide +kernel
theorem dX8_hashNow_226 : decode cX8_hashNow 226 = .ok (.goto (-68), 3) := by decide +kernel
theorem dX8_hashNow_229 : decode cX8_hashNow 229 = .ok (.aload_n 0, 1) := by decide +kernel
theorem dX8_hashNow_230 : decode cX8_hashNow 230 = .ok (.invokevirtual 129, 3) := by decide +kernel
theorem dX8_hashNow_233 : decode cX8_hashNow 233 = .ok (.iinc 2 64, 3) := by decide +kernel
theorem dX8_hashNow_236 : decode cX8_hashNow 236 = .ok (.goto (-88), 3) := by decide +kernel
theorem dX8_hashNow_239 : decode cX8_hashNow 239 = .ok (.iconst 0, 1) := by decide +kernel
theorem dX8_hashNow_240 : decode cX8_hashNow 240 = .ok (.istore_n 2, 1) := by decide +kernel
theorem dX8_hashNow_241 : decode cX8_hashNow 241 = .ok (.iload_n 2, 1) := by decide +kernel
theorem dX8_hashNow_242 : decode cX8_hashNow 242 = .ok (.bipush 32, 2) := by decide +kernel
theorem dX8_hashNow_244 : decode cX8_hashNow 244 = .ok (.if_icmp .ge 36, 3) := by decide +kernel
theorem dX8_hashNow_247 : decode cX8_hashNow 247 = .ok (.aload_n 0, 1) := by decide +kernel
theorem dX8_hashNow_248 : decode cX8_hashNow 248 = .ok (.getfield 28, 3) := by decide +kernel
theorem dX8_hashNow_251 : decode cX8_hashNow 251 = .ok (.iload_n 2, 1) := by decide +kernel
theorem dX8_hashNow_252 : decode cX8_hashNow 252 = .ok (.aload_n 0, 1) := by decide +kernel
theorem dX8_hashNow_253 : decode cX8_hashNow 253 = .ok (.getfield 16, 3) := by decide +kernel
theorem dX8_hashNow_256 : decode cX8_hashNow 256 = .ok (.iload_n 2, 1) := by decide +kernel
theorem dX8_hashNow_257 : decode cX8_hashNow 257 = .ok (.iconst 4, 1) := by decide +kernel
theorem dX8_hashNow_258 : decode cX8_hashNow 258 = .ok (.idiv, 1) := by decide +kernel
theorem dX8_hashNow_259 : decode cX8_hashNow 259 = .ok (.iaload, 1) := by decide +kernel
theorem dX8_hashNow_260 : decode cX8_hashNow 260 = .ok (.bipush 8, 2) := by decide +kernel
theorem dX8_hashNow_262 : decode cX8_hashNow 262 = .ok (.iconst 3, 1) := by decide +kernel
theorem dX8_hashNow_263 : decode cX8_hashNow 263 = .ok (.iload_n 2, 1) := by decide +kernel
theorem dX8_hashNow_264 : decode cX8_hashNow 264 = .ok (.iconst 4, 1) := by decide +kernel
theorem dX8_hashNow_265 : decode cX8_hashNow 265 = .ok (.irem, 1) := by decide +kernel
theorem dX8_hashNow_266 : decode cX8_hashNow 266 = .ok (.isub, 1) := by decide +kernel
theorem dX8_hashNow_267 : decode cX8_hashNow 267 = .ok (.imul, 1) := by decide +kernel
theorem dX8_hashNow_268 : decode cX8_hashNow 268 = .ok (.iushr, 1) := by decide +kernel
theorem dX8_hashNow_269 : decode cX8_hashNow 269 = .ok (.sipush 255, 3) := by decide +kernel
theorem dX8_hashNow_272 : decode cX8_hashNow 272 = .ok (.iand, 1) := by decide +kernel
theorem dX8_hashNow_273 : decode cX8_hashNow 273 = .ok (.iastore, 1) := by decide +kernel
theorem dX8_hashNow_274 : decode cX8_hashNow 274 = .ok (.iinc 2 1, 3) := by decide +kernel
theorem dX8_hashNow_277 : decode cX8_hashNow 277 = .ok (.goto (-36), 3) := by decide +kernel
theorem dX8_hashNow_280 : decode cX8_hashNow 280 = .ok (.aload_n 0, 1) := by decide +kernel
theorem dX8_hashNow_281 : decode cX8_hashNow 281 = .ok (.iconst 0, 1) := by decide +kernel
theorem dX8_hashNow_282 : decode cX8_hashNow 282 = .ok (.putfield 126, 3) := by decide +kernel
theorem dX8_hashNow_285 : decode cX8_hashNow 285 = .ok (.return_, 1) := by decide +kernel
theorem dX8_take_0 : decode cX8_take 0 = .ok (.iconst 0, 1) := by decide +kernel
theorem dX8_take_1 : decode cX8_take 1 = .ok (.istore 4, 2) := by decide +kernel
theorem dX8_take_3 : decode cX8_take 3 = .ok (.iload 4, 2) := by decide +kernel
theorem dX8_take_5 : decode cX8_take 5 = .ok (.iload_n 3, 1) := by decide +kernel
theorem dX8_take_6 : decode cX8_take 6 = .ok (.if_icmp .ge 34, 3) := by decide +kernel
theorem dX8_take_9 : decode cX8_take 9 = .ok (.aload_n 0, 1) := by decide +kernel
theorem dX8_take_10 : decode cX8_take 10 = .ok (.getfield 25, 3) := by decide +kernel
theorem dX8_take_13 : decode cX8_take 13 = .ok (.aload_n 0, 1) := by decide +kernel
theorem dX8_take_14 : decode cX8_take 14 = .ok (.getfield 126, 3) := by decide +kernel
theorem dX8_take_17 : decode cX8_take 17 = .ok (.aload_n 1, 1) := by decide +kernel
theorem dX8_take_18 : decode cX8_take 18 = .ok (.iload_n 2, 1) := by decide +kernel
theorem dX8_take_19 : decode cX8_take 19 = .ok (.iload 4, 2) := by decide +kernel
theorem dX8_take_21 : decode cX8_take 21 = .ok (.iadd, 1) := by decide +kernel
theorem dX8_take_22 : decode cX8_take 22 = .ok (.iaload, 1) := by decide +kernel
theorem dX8_take_23 : decode cX8_take 23 = .ok (.iastore, 1) := by decide +kernel
theorem dX8_take_24 : decode cX8_take 24 = .ok (.aload_n 0, 1) := by decide +kernel
theorem dX8_take_25 : decode cX8_take 25 = .ok (.dup, 1) := by decide +kernel
theorem dX8_take_26 : decode cX8_take 26 = .ok (.getfield 126, 3) := by decide +kernel
theorem dX8_take_29 : decode cX8_take 29 = .ok (.iconst 1, 1) := by decide +kernel
theorem dX8_take_30 : decode cX8_take 30 = .ok (.iadd, 1) := by decide +kernel
theorem dX8_take_31 : decode cX8_take 31 = .ok (.putfield 126, 3) := by decide +kernel
theorem dX8_take_34 : decode cX8_take 34 = .ok (.iinc 4 1, 3) := by decide +kernel
theorem dX8_take_37 : decode cX8_take 37 = .ok (.goto (-34), 3) := by decide +kernel
theorem dX8_take_40 : decode cX8_take 40 = .ok (.return_, 1) := by decide +kernel
theorem dX8_keyIs_0 : decode cX8_keyIs 0 = .ok (.iconst 0, 1) := by decide +kernel
theorem dX8_keyIs_1 : decode cX8_keyIs 1 = .ok (.istore 4, 2) := by decide +kernel
theorem dX8_keyIs_3 : decode cX8_keyIs 3 = .ok (.iload 4, 2) := by decide +kernel
theorem dX8_keyIs_5 : decode cX8_keyIs 5 = .ok (.iload_n 3, 1) := by decide +kernel
theorem dX8_keyIs_6 : decode cX8_keyIs 6 = .ok (.if_icmp .ge 22, 3) := by decide +kernel
theorem dX8_keyIs_9 : decode cX8_keyIs 9 = .ok (.aload_n 0, 1) := by decide +kernel
theorem dX8_keyIs_10 : decode cX8_keyIs 10 = .ok (.getfield 31, 3) := by decide +kernel
theorem dX8_keyIs_13 : decode cX8_keyIs 13 = .ok (.iload 4, 2) := by decide +kernel
theorem dX8_keyIs_15 : decode cX8_keyIs 15 = .ok (.aload_n 1, 1) := by decide +kernel
theorem dX8_keyIs_16 : decode cX8_keyIs 16 = .ok (.iload_n 2, 1) := by decide +kernel
theorem dX8_keyIs_17 : decode cX8_keyIs 17 = .ok (.iload 4, 2) := by decide +kernel
theorem dX8_keyIs_19 : decode cX8_keyIs 19 = .ok (.iadd, 1) := by decide +kernel
theorem dX8_keyIs_20 : decode cX8_keyIs 20 = .ok (.iaload, 1) := by decide +kernel
theorem dX8_keyIs_21 : decode cX8_keyIs 21 = .ok (.iastore, 1) := by decide +kernel
theorem dX8_keyIs_22 : decode cX8_keyIs 22 = .ok (.iinc 4 1, 3) := by decide +kernel
theorem dX8_keyIs_25 : decode cX8_keyIs 25 = .ok (.goto (-22), 3) := by decide +kernel
theorem dX8_keyIs_28 : decode cX8_keyIs 28 = .ok (.aload_n 0, 1) := by decide +kernel
theorem dX8_keyIs_29 : decode cX8_keyIs 29 = .ok (.iload_n 3, 1) := by decide +kernel
theorem dX8_keyIs_30 : decode cX8_keyIs 30 = .ok (.putfield 132, 3) := by decide +kernel
theorem dX8_keyIs_33 : decode cX8_keyIs 33 = .ok (.aload_n 0, 1) := by decide +kernel
theorem dX8_keyIs_34 : decode cX8_keyIs 34 = .ok (.iconst 0, 1) := by decide +kernel
theorem dX8_keyIs_35 : decode cX8_keyIs 35 = .ok (.putfield 135, 3) := by decide +kernel
theorem dX8_keyIs_38 : decode cX8_keyIs 38 = .ok (.return_, 1) := by decide +kernel
theorem dX8_add_0 : decode cX8_add 0 = .ok (.iconst 0, 1) := by decide +kernel
theorem dX8_add_1 : decode cX8_add 1 = .ok (.istore 4, 2) := by decide +kernel
theorem dX8_add_3 : decode cX8_add 3 = .ok (.iload 4, 2) := by decide +kernel
theorem dX8_add_5 : decode cX8_add 5 = .ok (.iload_n 3, 1) := by decide +kernel
theorem dX8_add_6 : decode cX8_add 6 = .ok (.if_icmp .ge 34, 3) := by decide +kernel
theorem dX8_add_9 : decode cX8_add 9 = .ok (.aload_n 0, 1) := by decide +kernel
theorem dX8_add_10 : decode cX8_add 10 = .ok (.getfield 34, 3) := by decide +kernel
theorem dX8_add_13 : decode cX8_add 13 = .ok (.aload_n 0, 1) := by decide +kernel
theorem dX8_add_14 : decode cX8_add 14 = .ok (.getfield 135, 3) := by decide +kernel
theorem dX8_add_17 : decode cX8_add 17 = .ok (.aload_n 1, 1) := by decide +kernel
theorem dX8_add_18 : decode cX8_add 18 = .ok (.iload_n 2, 1) := by decide +kernel
theorem dX8_add_19 : decode cX8_add 19 = .ok (.iload 4, 2) := by decide +kernel
theorem dX8_add_21 : decode cX8_add 21 = .ok (.iadd, 1) := by decide +kernel
theorem dX8_add_22 : decode cX8_add 22 = .ok (.iaload, 1) := by decide +kernel
theorem dX8_add_23 : decode cX8_add 23 = .ok (.iastore, 1) := by decide +kernel
theorem dX8_add_24 : decode cX8_add 24 = .ok (.aload_n 0, 1) := by decide +kernel
theorem dX8_add_25 : decode cX8_add 25 = .ok (.dup, 1) := by decide +kernel
theorem dX8_add_26 : decode cX8_add 26 = .ok (.getfield 135, 3) := by decide +kernel
theorem dX8_add_29 : decode cX8_add 29 = .ok (.iconst 1, 1) := by decide +kernel
theorem dX8_add_30 : decode cX8_add 30 = .ok (.iadd, 1) := by decide +kernel
theorem dX8_add_31 : decode cX8_add 31 = .ok (.putfield 135, 3) := by decide +kernel
theorem dX8_add_34 : decode cX8_add 34 = .ok (.iinc 4 1, 3) := by decide +kernel
theorem dX8_add_37 : decode cX8_add 37 = .ok (.goto (-34), 3) := by decide +kernel
theorem dX8_add_40 : decode cX8_add 40 = .ok (.return_, 1) := by decide +kernel
theorem dX8_keyed_0 : decode cX8_keyed 0 = .ok (.aload_n 0, 1) := by decide +kernel
theorem dX8_keyed_1 : decode cX8_keyed 1 = .ok (.iconst 0, 1) := by decide +kernel
theorem dX8_keyed_2 : decode cX8_keyed 2 = .ok (.putfield 126, 3) := by decide +kernel
theorem dX8_keyed_5 : decode cX8_keyed 5 = .ok (.iconst 0, 1) := by decide +kernel
theorem dX8_keyed_6 : decode cX8_keyed 6 = .ok (.istore_n 2, 1) := by decide +kernel
theorem dX8_keyed_7 : decode cX8_keyed 7 = .ok (.iload_n 2, 1) := by decide +kernel
theorem dX8_keyed_8 : decode cX8_keyed 8 = .ok (.bipush 64, 2) := by decide +kernel
theorem dX8_keyed_10 : decode cX8_keyed 10 = .ok (.if_icmp .ge 48, 3) := by decide +kernel
theorem dX8_keyed_13 : decode cX8_keyed 13 = .ok (.aload_n 0, 1) := by decide +kernel
theorem dX8_keyed_14 : decode cX8_keyed 14 = .ok (.getfield 25, 3) := by decide +kernel
theorem dX8_keyed_17 : decode cX8_keyed 17 = .ok (.aload_n 0, 1) := by decide +kernel
theorem dX8_keyed_18 : decode cX8_keyed 18 = .ok (.getfield 126, 3) := by decide +kernel
theorem dX8_keyed_21 : decode cX8_keyed 21 = .ok (.iload_n 2, 1) := by decide +kernel
theorem dX8_keyed_22 : decode cX8_keyed 22 = .ok (.aload_n 0, 1) := by decide +kernel
theorem dX8_keyed_23 : decode cX8_keyed 23 = .ok (.getfield 132, 3) := by decide +kernel
theorem dX8_keyed_26 : decode cX8_keyed 26 = .ok (.if_icmp .ge 12, 3) := by decide +kernel
theorem dX8_keyed_29 : decode cX8_keyed 29 = .ok (.aload_n 0, 1) := by decide +kernel
theorem dX8_keyed_30 : decode cX8_keyed 30 = .ok (.getfield 31, 3) := by decide +kernel
theorem dX8_keyed_33 : decode cX8_keyed 33 = .ok (.iload_n 2, 1) := by decide +kernel
theorem dX8_keyed_34 : decode cX8_keyed 34 = .ok (.iaload, 1) := by decide +kernel
theorem dX8_keyed_35 : decode cX8_keyed 35 = .ok (.goto 4, 3) := by decide +kernel
theorem dX8_keyed_38 : decode cX8_keyed 38 = .ok (.iconst 0, 1) := by decide +kernel
theorem dX8_keyed_39 : decode cX8_keyed 39 = .ok (.iload_n 1, 1) := by decide +kernel
theorem dX8_keyed_40 : decode cX8_keyed 40 = .ok (.ixor, 1) := by decide +kernel
theorem dX8_keyed_41 : decode cX8_keyed 41 = .ok (.iastore, 1) := by decide +kernel
theorem dX8_keyed_42 : decode cX8_keyed 42 = .ok (.aload_n 0, 1) := by decide +kernel
theorem dX8_keyed_43 : decode cX8_keyed 43 = .ok (.dup, 1) := by decide +kernel
theorem dX8_keyed_44 : decode cX8_keyed 44 = .ok (.getfield 126, 3) := by decide +kernel
theorem dX8_keyed_47 : decode cX8_keyed 47 = .ok (.iconst 1, 1) := by decide +kernel
theorem dX8_keyed_48 : decode cX8_keyed 48 = .ok (.iadd, 1) := by decide +kernel
theorem dX8_keyed_49 : decode cX8_keyed 49 = .ok (.putfield 126, 3) := by decide +kernel
theorem dX8_keyed_52 : decode cX8_keyed 52 = .ok (.iinc 2 1, 3) := by decide +kernel
theorem dX8_keyed_55 : decode cX8_keyed 55 = .ok (.goto (-48), 3) := by decide +kernel
theorem dX8_keyed_58 : decode cX8_keyed 58 = .ok (.return_, 1) := by decide +kernel
set_option maxRecDepth 20000 in
theorem ggX8_sealNow_X8_take : GoodIn wsX8_sealNow wsX8_take := goodIn_r _ [12, 13, 2, 37, 38, 39, 40, 41, 42, 43, 44, 45, 46, 47, 48, 49, 50, 51, 52, 53, 54, 55, 56, 57, 58, 59, 60, 61, 62, 63, 64, 65, 66, 67, 68, 69, 70, 71, 72, 73, 74, 75, 76, 77, 78] rfl (by decide +kernel)
set_option maxRecDepth 20000 in
theorem gX8_sealNow_X8_take : GoodIn wsX8_sealNow (wsV RX8 138 RX8 yX8_take wsX8_take) := goodIn_app (goodIn_of _ (by decide +kernel)) ggX8_sealNow_X8_take
set_option maxRecDepth 20000 in
theorem ggX8_sealNow_X8_hashNow : GoodIn wsX8_sealNow wsX8_hashNow := goodIn_r _ [17, 2, 13, 18, 19, 20, 4, 21, 22, 23, 11, 24, 25, 26, 27, 28, 29, 37, 38, 39, 40, 41, 42, 43, 44, 45, 46, 47, 48, 49, 50, 51, 52, 53, 54, 55, 56, 57, 58, 59, 60, 61, 62, 63, 64, 65, 66, 67, 68, 69, 70, 71, 72, 73, 74, 75, 76, 77, 78] rfl (by decide +kernel)
set_option maxRecDepth 20000 in
theorem gX8_sealNow_X8_hashNow : GoodIn wsX8_sealNow (wsV RX8 142 RX8 yX8_hashNow wsX8_hashNow) := goodIn_app (goodIn_of _ (by decide +kernel)) ggX8_sealNow_X8_hashNow
set_option maxRecDepth 20000 in
theorem ggX8_sealNow_X8_keyed : GoodIn wsX8_sealNow wsX8_keyed := goodIn_r _ [33, 2, 13, 1, 3, 37, 38, 39, 40, 41, 42, 43, 44, 45, 46, 47, 48, 49, 50, 51, 52, 53, 54, 55, 56, 57, 58, 59, 60, 61, 62, 63, 64, 65, 66, 67, 68, 69, 70, 71, 72, 73, 74, 75, 76, 77, 78] rfl (by decide +kernel)
set_option maxRecDepth 20000 in
theorem gX8_sealNow_X8_keyed : GoodIn wsX8_sealNow (wsV RX8 145 RX8 yX8_keyed wsX8_keyed) := goodIn_app (goodIn_of _ (by decide +kernel)) ggX8_sealNow_X8_keyed
set_option maxRecDepth 20000 in
theorem ggX8_sealNow_X8_copyTo : GoodIn wsX8_sealNow wsX8_copyTo := goodIn_r _ [36] rfl (by decide +kernel)
set_option maxRecDepth 20000 in
theorem gX8_sealNow_X8_copyTo : GoodIn wsX8_sealNow (va_wsS RX8 149 yX8_copyTo wsX8_copyTo) := goodIn_app (goodIn_of _ (by decide +kernel)) ggX8_sealNow_X8_copyTo
theorem dX8_sealNow_0 : decode cX8_sealNow 0 = .ok (.aload_n 0, 1) := by decide +kernel
theorem dX8_sealNow_1 : decode cX8_sealNow 1 = .ok (.getfield 132, 3) := by decide +kernel
theorem dX8_sealNow_4 : decode cX8_sealNow 4 = .ok (.bipush 64, 2) := by decide +kernel
theorem dX8_sealNow_6 : decode cX8_sealNow 6 = .ok (.if_icmp .le 57, 3) := by decide +kernel
theorem dX8_sealNow_9 : decode cX8_sealNow 9 = .ok (.aload_n 0, 1) := by decide +kernel
theorem dX8_sealNow_10 : decode cX8_sealNow 10 = .ok (.iconst 0, 1) := by decide +kernel
theorem dX8_sealNow_11 : decode cX8_sealNow 11 = .ok (.putfield 126, 3) := by decide +kernel
theorem dX8_sealNow_14 : decode cX8_sealNow 14 = .ok (.aload_n 0, 1) := by decide +kernel
theorem dX8_sealNow_15 : decode cX8_sealNow 15 = .ok (.aload_n 0, 1) := by decide +kernel
theorem dX8_sealNow_16 : decode cX8_sealNow 16 = .ok (.getfield 31, 3) := by decide +kernel
theorem dX8_sealNow_19 : decode cX8_sealNow 19 = .ok (.iconst 0, 1) := by decide +kernel
theorem dX8_sealNow_20 : decode cX8_sealNow 20 = .ok (.aload_n 0, 1) := by decide +kernel
theorem dX8_sealNow_21 : decode cX8_sealNow 21 = .ok (.getfield 132, 3) := by decide +kernel
