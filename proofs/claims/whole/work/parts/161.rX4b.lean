theorem dX4_mixWords_165 : decode cX4_mixWords 165 = .ok (.bipush 10, 2) := by decide +kernel
theorem dX4_mixWords_167 : decode cX4_mixWords 167 = .ok (.ishl, 1) := by decide +kernel
theorem dX4_mixWords_168 : decode cX4_mixWords 168 = .ok (.ior, 1) := by decide +kernel
theorem dX4_mixWords_169 : decode cX4_mixWords 169 = .ok (.ixor, 1) := by decide +kernel
theorem dX4_mixWords_170 : decode cX4_mixWords 170 = .ok (.iload_n 1, 1) := by decide +kernel
theorem dX4_mixWords_171 : decode cX4_mixWords 171 = .ok (.iload_n 2, 1) := by decide +kernel
theorem dX4_mixWords_172 : decode cX4_mixWords 172 = .ok (.iand, 1) := by decide +kernel
theorem dX4_mixWords_173 : decode cX4_mixWords 173 = .ok (.iload_n 1, 1) := by decide +kernel
theorem dX4_mixWords_174 : decode cX4_mixWords 174 = .ok (.iload_n 3, 1) := by decide +kernel
theorem dX4_mixWords_175 : decode cX4_mixWords 175 = .ok (.iand, 1) := by decide +kernel
theorem dX4_mixWords_176 : decode cX4_mixWords 176 = .ok (.ixor, 1) := by decide +kernel
theorem dX4_mixWords_177 : decode cX4_mixWords 177 = .ok (.iload_n 2, 1) := by decide +kernel
theorem dX4_mixWords_178 : decode cX4_mixWords 178 = .ok (.iload_n 3, 1) := by decide +kernel
theorem dX4_mixWords_179 : decode cX4_mixWords 179 = .ok (.iand, 1) := by decide +kernel
theorem dX4_mixWords_180 : decode cX4_mixWords 180 = .ok (.ixor, 1) := by decide +kernel
theorem dX4_mixWords_181 : decode cX4_mixWords 181 = .ok (.iadd, 1) := by decide +kernel
theorem dX4_mixWords_182 : decode cX4_mixWords 182 = .ok (.istore 11, 2) := by decide +kernel
theorem dX4_mixWords_184 : decode cX4_mixWords 184 = .ok (.iload 7, 2) := by decide +kernel
theorem dX4_mixWords_186 : decode cX4_mixWords 186 = .ok (.istore 8, 2) := by decide +kernel
theorem dX4_mixWords_188 : decode cX4_mixWords 188 = .ok (.iload 6, 2) := by decide +kernel
theorem dX4_mixWords_190 : decode cX4_mixWords 190 = .ok (.istore 7, 2) := by decide +kernel
theorem dX4_mixWords_192 : decode cX4_mixWords 192 = .ok (.iload 5, 2) := by decide +kernel
theorem dX4_mixWords_194 : decode cX4_mixWords 194 = .ok (.istore 6, 2) := by decide +kernel
theorem dX4_mixWords_196 : decode cX4_mixWords 196 = .ok (.iload 4, 2) := by decide +kernel
theorem dX4_mixWords_198 : decode cX4_mixWords 198 = .ok (.iload 10, 2) := by decide +kernel
theorem dX4_mixWords_200 : decode cX4_mixWords 200 = .ok (.iadd, 1) := by decide +kernel
theorem dX4_mixWords_201 : decode cX4_mixWords 201 = .ok (.istore 5, 2) := by decide +kernel
theorem dX4_mixWords_203 : decode cX4_mixWords 203 = .ok (.iload_n 3, 1) := by decide +kernel
theorem dX4_mixWords_204 : decode cX4_mixWords 204 = .ok (.istore 4, 2) := by decide +kernel
theorem dX4_mixWords_206 : decode cX4_mixWords 206 = .ok (.iload_n 2, 1) := by decide +kernel
theorem dX4_mixWords_207 : decode cX4_mixWords 207 = .ok (.istore_n 3, 1) := by decide +kernel
theorem dX4_mixWords_208 : decode cX4_mixWords 208 = .ok (.iload_n 1, 1) := by decide +kernel
theorem dX4_mixWords_209 : decode cX4_mixWords 209 = .ok (.istore_n 2, 1) := by decide +kernel
theorem dX4_mixWords_210 : decode cX4_mixWords 210 = .ok (.iload 10, 2) := by decide +kernel
theorem dX4_mixWords_212 : decode cX4_mixWords 212 = .ok (.iload 11, 2) := by decide +kernel
theorem dX4_mixWords_214 : decode cX4_mixWords 214 = .ok (.iadd, 1) := by decide +kernel
theorem dX4_mixWords_215 : decode cX4_mixWords 215 = .ok (.istore_n 1, 1) := by decide +kernel
theorem dX4_mixWords_216 : decode cX4_mixWords 216 = .ok (.iinc 9 1, 3) := by decide +kernel
theorem dX4_mixWords_219 : decode cX4_mixWords 219 = .ok (.goto (-153), 3) := by decide +kernel
theorem dX4_mixWords_222 : decode cX4_mixWords 222 = .ok (.aload_n 0, 1) := by decide +kernel
theorem dX4_mixWords_223 : decode cX4_mixWords 223 = .ok (.getfield 11, 3) := by decide +kernel
theorem dX4_mixWords_226 : decode cX4_mixWords 226 = .ok (.iconst 0, 1) := by decide +kernel
theorem dX4_mixWords_227 : decode cX4_mixWords 227 = .ok (.dup2, 1) := by decide +kernel
theorem dX4_mixWords_228 : decode cX4_mixWords 228 = .ok (.iaload, 1) := by decide +kernel
theorem dX4_mixWords_229 : decode cX4_mixWords 229 = .ok (.iload_n 1, 1) := by decide +kernel
theorem dX4_mixWords_230 : decode cX4_mixWords 230 = .ok (.iadd, 1) := by decide +kernel
theorem dX4_mixWords_231 : decode cX4_mixWords 231 = .ok (.iastore, 1) := by decide +kernel
theorem dX4_mixWords_232 : decode cX4_mixWords 232 = .ok (.aload_n 0, 1) := by decide +kernel
theorem dX4_mixWords_233 : decode cX4_mixWords 233 = .ok (.getfield 11, 3) := by decide +kernel
theorem dX4_mixWords_236 : decode cX4_mixWords 236 = .ok (.iconst 1, 1) := by decide +kernel
theorem dX4_mixWords_237 : decode cX4_mixWords 237 = .ok (.dup2, 1) := by decide +kernel
theorem dX4_mixWords_238 : decode cX4_mixWords 238 = .ok (.iaload, 1) := by decide +kernel
theorem dX4_mixWords_239 : decode cX4_mixWords 239 = .ok (.iload_n 2, 1) := by decide +kernel
theorem dX4_mixWords_240 : decode cX4_mixWords 240 = .ok (.iadd, 1) := by decide +kernel
theorem dX4_mixWords_241 : decode cX4_mixWords 241 = .ok (.iastore, 1) := by decide +kernel
theorem dX4_mixWords_242 : decode cX4_mixWords 242 = .ok (.aload_n 0, 1) := by decide +kernel
theorem dX4_mixWords_243 : decode cX4_mixWords 243 = .ok (.getfield 11, 3) := by decide +kernel
theorem dX4_mixWords_246 : decode cX4_mixWords 246 = .ok (.iconst 2, 1) := by decide +kernel
theorem dX4_mixWords_247 : decode cX4_mixWords 247 = .ok (.dup2, 1) := by decide +kernel
theorem dX4_mixWords_248 : decode cX4_mixWords 248 = .ok (.iaload, 1) := by decide +kernel
theorem dX4_mixWords_249 : decode cX4_mixWords 249 = .ok (.iload_n 3, 1) := by decide +kernel
theorem dX4_mixWords_250 : decode cX4_mixWords 250 = .ok (.iadd, 1) := by decide +kernel
theorem dX4_mixWords_251 : decode cX4_mixWords 251 = .ok (.iastore, 1) := by decide +kernel
theorem dX4_mixWords_252 : decode cX4_mixWords 252 = .ok (.aload_n 0, 1) := by decide +kernel
theorem dX4_mixWords_253 : decode cX4_mixWords 253 = .ok (.getfield 11, 3) := by decide +kernel
theorem dX4_mixWords_256 : decode cX4_mixWords 256 = .ok (.iconst 3, 1) := by decide +kernel
theorem dX4_mixWords_257 : decode cX4_mixWords 257 = .ok (.dup2, 1) := by decide +kernel
theorem dX4_mixWords_258 : decode cX4_mixWords 258 = .ok (.iaload, 1) := by decide +kernel
theorem dX4_mixWords_259 : decode cX4_mixWords 259 = .ok (.iload 4, 2) := by decide +kernel
theorem dX4_mixWords_261 : decode cX4_mixWords 261 = .ok (.iadd, 1) := by decide +kernel
theorem dX4_mixWords_262 : decode cX4_mixWords 262 = .ok (.iastore, 1) := by decide +kernel
theorem dX4_mixWords_263 : decode cX4_mixWords 263 = .ok (.aload_n 0, 1) := by decide +kernel
theorem dX4_mixWords_264 : decode cX4_mixWords 264 = .ok (.getfield 11, 3) := by decide +kernel
theorem dX4_mixWords_267 : decode cX4_mixWords 267 = .ok (.iconst 4, 1) := by decide +kernel
theorem dX4_mixWords_268 : decode cX4_mixWords 268 = .ok (.dup2, 1) := by decide +kernel
theorem dX4_mixWords_269 : decode cX4_mixWords 269 = .ok (.iaload, 1) := by decide +kernel
theorem dX4_mixWords_270 : decode cX4_mixWords 270 = .ok (.iload 5, 2) := by decide +kernel
theorem dX4_mixWords_272 : decode cX4_mixWords 272 = .ok (.iadd, 1) := by decide +kernel
theorem dX4_mixWords_273 : decode cX4_mixWords 273 = .ok (.iastore, 1) := by decide +kernel
theorem dX4_mixWords_274 : decode cX4_mixWords 274 = .ok (.aload_n 0, 1) := by decide +kernel
theorem dX4_mixWords_275 : decode cX4_mixWords 275 = .ok (.getfield 11, 3) := by decide +kernel
theorem dX4_mixWords_278 : decode cX4_mixWords 278 = .ok (.iconst 5, 1) := by decide +kernel
theorem dX4_mixWords_279 : decode cX4_mixWords 279 = .ok (.dup2, 1) := by decide +kernel
theorem dX4_mixWords_280 : decode cX4_mixWords 280 = .ok (.iaload, 1) := by decide +kernel
theorem dX4_mixWords_281 : decode cX4_mixWords 281 = .ok (.iload 6, 2) := by decide +kernel
theorem dX4_mixWords_283 : decode cX4_mixWords 283 = .ok (.iadd, 1) := by decide +kernel
theorem dX4_mixWords_284 : decode cX4_mixWords 284 = .ok (.iastore, 1) := by decide +kernel
theorem dX4_mixWords_285 : decode cX4_mixWords 285 = .ok (.aload_n 0, 1) := by decide +kernel
theorem dX4_mixWords_286 : decode cX4_mixWords 286 = .ok (.getfield 11, 3) := by decide +kernel
theorem dX4_mixWords_289 : decode cX4_mixWords 289 = .ok (.bipush 6, 2) := by decide +kernel
theorem dX4_mixWords_291 : decode cX4_mixWords 291 = .ok (.dup2, 1) := by decide +kernel
theorem dX4_mixWords_292 : decode cX4_mixWords 292 = .ok (.iaload, 1) := by decide +kernel
theorem dX4_mixWords_293 : decode cX4_mixWords 293 = .ok (.iload 7, 2) := by decide +kernel
theorem dX4_mixWords_295 : decode cX4_mixWords 295 = .ok (.iadd, 1) := by decide +kernel
theorem dX4_mixWords_296 : decode cX4_mixWords 296 = .ok (.iastore, 1) := by decide +kernel
theorem dX4_mixWords_297 : decode cX4_mixWords 297 = .ok (.aload_n 0, 1) := by decide +kernel
theorem dX4_mixWords_298 : decode cX4_mixWords 298 = .ok (.getfield 11, 3) := by decide +kernel
theorem dX4_mixWords_301 : decode cX4_mixWords 301 = .ok (.bipush 7, 2) := by decide +kernel
theorem dX4_mixWords_303 : decode cX4_mixWords 303 = .ok (.dup2, 1) := by decide +kernel
theorem dX4_mixWords_304 : decode cX4_mixWords 304 = .ok (.iaload, 1) := by decide +kernel
theorem dX4_mixWords_305 : decode cX4_mixWords 305 = .ok (.iload 8, 2) := by decide +kernel
theorem dX4_mixWords_307 : decode cX4_mixWords 307 = .ok (.iadd, 1) := by decide +kernel
theorem dX4_mixWords_308 : decode cX4_mixWords 308 = .ok (.iastore, 1) := by decide +kernel
theorem dX4_mixWords_309 : decode cX4_mixWords 309 = .ok (.return_, 1) := by decide +kernel
theorem dX4_spreadWords_0 : decode cX4_spreadWords 0 = .ok (.aload_n 0, 1) := by decide +kernel
theorem dX4_spreadWords_1 : decode cX4_spreadWords 1 = .ok (.getfield 23, 3) := by decide +kernel
theorem dX4_spreadWords_4 : decode cX4_spreadWords 4 = .ok (.getfield 112, 3) := by decide +kernel
theorem dX4_spreadWords_7 : decode cX4_spreadWords 7 = .ok (.astore_n 2, 1) := by decide +kernel
theorem dX4_spreadWords_8 : decode cX4_spreadWords 8 = .ok (.iconst 0, 1) := by decide +kernel
theorem dX4_spreadWords_9 : decode cX4_spreadWords 9 = .ok (.istore_n 3, 1) := by decide +kernel
theorem dX4_spreadWords_10 : decode cX4_spreadWords 10 = .ok (.iload_n 3, 1) := by decide +kernel
theorem dX4_spreadWords_11 : decode cX4_spreadWords 11 = .ok (.bipush 16, 2) := by decide +kernel
theorem dX4_spreadWords_13 : decode cX4_spreadWords 13 = .ok (.if_icmp .ge 56, 3) := by decide +kernel
theorem dX4_spreadWords_16 : decode cX4_spreadWords 16 = .ok (.iload_n 1, 1) := by decide +kernel
theorem dX4_spreadWords_17 : decode cX4_spreadWords 17 = .ok (.iconst 4, 1) := by decide +kernel
theorem dX4_spreadWords_18 : decode cX4_spreadWords 18 = .ok (.iload_n 3, 1) := by decide +kernel
theorem dX4_spreadWords_19 : decode cX4_spreadWords 19 = .ok (.imul, 1) := by decide +kernel
theorem dX4_spreadWords_20 : decode cX4_spreadWords 20 = .ok (.iadd, 1) := by decide +kernel
theorem dX4_spreadWords_21 : decode cX4_spreadWords 21 = .ok (.istore 4, 2) := by decide +kernel
theorem dX4_spreadWords_23 : decode cX4_spreadWords 23 = .ok (.aload_n 0, 1) := by decide +kernel
theorem dX4_spreadWords_24 : decode cX4_spreadWords 24 = .ok (.getfield 15, 3) := by decide +kernel
theorem dX4_spreadWords_27 : decode cX4_spreadWords 27 = .ok (.iload_n 3, 1) := by decide +kernel
theorem dX4_spreadWords_28 : decode cX4_spreadWords 28 = .ok (.aload_n 2, 1) := by decide +kernel
theorem dX4_spreadWords_29 : decode cX4_spreadWords 29 = .ok (.iload 4, 2) := by decide +kernel
theorem dX4_spreadWords_31 : decode cX4_spreadWords 31 = .ok (.iaload, 1) := by decide +kernel
theorem dX4_spreadWords_32 : decode cX4_spreadWords 32 = .ok (.bipush 24, 2) := by decide +kernel
theorem dX4_spreadWords_34 : decode cX4_spreadWords 34 = .ok (.ishl, 1) := by decide +kernel
theorem dX4_spreadWords_35 : decode cX4_spreadWords 35 = .ok (.aload_n 2, 1) := by decide +kernel
theorem dX4_spreadWords_36 : decode cX4_spreadWords 36 = .ok (.iload 4, 2) := by decide +kernel
theorem dX4_spreadWords_38 : decode cX4_spreadWords 38 = .ok (.iconst 1, 1) := by decide +kernel
theorem dX4_spreadWords_39 : decode cX4_spreadWords 39 = .ok (.iadd, 1) := by decide +kernel
theorem dX4_spreadWords_40 : decode cX4_spreadWords 40 = .ok (.iaload, 1) := by decide +kernel
theorem dX4_spreadWords_41 : decode cX4_spreadWords 41 = .ok (.bipush 16, 2) := by decide +kernel
theorem dX4_spreadWords_43 : decode cX4_spreadWords 43 = .ok (.ishl, 1) := by decide +kernel
theorem dX4_spreadWords_44 : decode cX4_spreadWords 44 = .ok (.ior, 1) := by decide +kernel
theorem dX4_spreadWords_45 : decode cX4_spreadWords 45 = .ok (.aload_n 2, 1) := by decide +kernel
theorem dX4_spreadWords_46 : decode cX4_spreadWords 46 = .ok (.iload 4, 2) := by decide +kernel
theorem dX4_spreadWords_48 : decode cX4_spreadWords 48 = .ok (.iconst 2, 1) := by decide +kernel
theorem dX4_spreadWords_49 : decode cX4_spreadWords 49 = .ok (.iadd, 1) := by decide +kernel
theorem dX4_spreadWords_50 : decode cX4_spreadWords 50 = .ok (.iaload, 1) := by decide +kernel
theorem dX4_spreadWords_51 : decode cX4_spreadWords 51 = .ok (.bipush 8, 2) := by decide +kernel
theorem dX4_spreadWords_53 : decode cX4_spreadWords 53 = .ok (.ishl, 1) := by decide +kernel
theorem dX4_spreadWords_54 : decode cX4_spreadWords 54 = .ok (.ior, 1) := by decide +kernel
theorem dX4_spreadWords_55 : decode cX4_spreadWords 55 = .ok (.aload_n 2, 1) := by decide +kernel
theorem dX4_spreadWords_56 : decode cX4_spreadWords 56 = .ok (.iload 4, 2) := by decide +kernel
theorem dX4_spreadWords_58 : decode cX4_spreadWords 58 = .ok (.iconst 3, 1) := by decide +kernel
theorem dX4_spreadWords_59 : decode cX4_spreadWords 59 = .ok (.iadd, 1) := by decide +kernel
theorem dX4_spreadWords_60 : decode cX4_spreadWords 60 = .ok (.iaload, 1) := by decide +kernel
theorem dX4_spreadWords_61 : decode cX4_spreadWords 61 = .ok (.ior, 1) := by decide +kernel
theorem dX4_spreadWords_62 : decode cX4_spreadWords 62 = .ok (.iastore, 1) := by decide +kernel
theorem dX4_spreadWords_63 : decode cX4_spreadWords 63 = .ok (.iinc 3 1, 3) := by decide +kernel
theorem dX4_spreadWords_66 : decode cX4_spreadWords 66 = .ok (.goto (-56), 3) := by decide +kernel
theorem dX4_spreadWords_69 : decode cX4_spreadWords 69 = .ok (.bipush 16, 2) := by decide +kernel
theorem dX4_spreadWords_71 : decode cX4_spreadWords 71 = .ok (.istore_n 3, 1) := by decide +kernel
theorem dX4_spreadWords_72 : decode cX4_spreadWords 72 = .ok (.iload_n 3, 1) := by decide +kernel
theorem dX4_spreadWords_73 : decode cX4_spreadWords 73 = .ok (.bipush 64, 2) := by decide +kernel
theorem dX4_spreadWords_75 : decode cX4_spreadWords 75 = .ok (.if_icmp .ge 114, 3) := by decide +kernel
theorem dX4_spreadWords_78 : decode cX4_spreadWords 78 = .ok (.aload_n 0, 1) := by decide +kernel
theorem dX4_spreadWords_79 : decode cX4_spreadWords 79 = .ok (.getfield 15, 3) := by decide +kernel
theorem dX4_spreadWords_82 : decode cX4_spreadWords 82 = .ok (.iload_n 3, 1) := by decide +kernel
theorem dX4_spreadWords_83 : decode cX4_spreadWords 83 = .ok (.bipush 15, 2) := by decide +kernel
theorem dX4_spreadWords_85 : decode cX4_spreadWords 85 = .ok (.isub, 1) := by decide +kernel
theorem dX4_spreadWords_86 : decode cX4_spreadWords 86 = .ok (.iaload, 1) := by decide +kernel
theorem dX4_spreadWords_87 : decode cX4_spreadWords 87 = .ok (.istore 4, 2) := by decide +kernel
theorem dX4_spreadWords_89 : decode cX4_spreadWords 89 = .ok (.aload_n 0, 1) := by decide +kernel
theorem dX4_spreadWords_90 : decode cX4_spreadWords 90 = .ok (.getfield 15, 3) := by decide +kernel
theorem dX4_spreadWords_93 : decode cX4_spreadWords 93 = .ok (.iload_n 3, 1) := by decide +kernel
theorem dX4_spreadWords_94 : decode cX4_spreadWords 94 = .ok (.iconst 2, 1) := by decide +kernel
theorem dX4_spreadWords_95 : decode cX4_spreadWords 95 = .ok (.isub, 1) := by decide +kernel
theorem dX4_spreadWords_96 : decode cX4_spreadWords 96 = .ok (.iaload, 1) := by decide +kernel
theorem dX4_spreadWords_97 : decode cX4_spreadWords 97 = .ok (.istore 5, 2) := by decide +kernel
theorem dX4_spreadWords_99 : decode cX4_spreadWords 99 = .ok (.aload_n 0, 1) := by decide +kernel
theorem dX4_spreadWords_100 : decode cX4_spreadWords 100 = .ok (.getfield 15, 3) := by decide +kernel
theorem dX4_spreadWords_103 : decode cX4_spreadWords 103 = .ok (.iload_n 3, 1) := by decide +kernel
theorem dX4_spreadWords_104 : decode cX4_spreadWords 104 = .ok (.aload_n 0, 1) := by decide +kernel
theorem dX4_spreadWords_105 : decode cX4_spreadWords 105 = .ok (.getfield 15, 3) := by decide +kernel
theorem dX4_spreadWords_108 : decode cX4_spreadWords 108 = .ok (.iload_n 3, 1) := by decide +kernel
theorem dX4_spreadWords_109 : decode cX4_spreadWords 109 = .ok (.bipush 16, 2) := by decide +kernel
theorem dX4_spreadWords_111 : decode cX4_spreadWords 111 = .ok (.isub, 1) := by decide +kernel
theorem dX4_spreadWords_112 : decode cX4_spreadWords 112 = .ok (.iaload, 1) := by decide +kernel
theorem dX4_spreadWords_113 : decode cX4_spreadWords 113 = .ok (.iload 4, 2) := by decide +kernel
theorem dX4_spreadWords_115 : decode cX4_spreadWords 115 = .ok (.bipush 7, 2) := by decide +kernel
theorem dX4_spreadWords_117 : decode cX4_spreadWords 117 = .ok (.iushr, 1) := by decide +kernel
theorem dX4_spreadWords_118 : decode cX4_spreadWords 118 = .ok (.iload 4, 2) := by decide +kernel
theorem dX4_spreadWords_120 : decode cX4_spreadWords 120 = .ok (.bipush 25, 2) := by decide +kernel
theorem dX4_spreadWords_122 : decode cX4_spreadWords 122 = .ok (.ishl, 1) := by decide +kernel
theorem dX4_spreadWords_123 : decode cX4_spreadWords 123 = .ok (.ior, 1) := by decide +kernel
theorem dX4_spreadWords_124 : decode cX4_spreadWords 124 = .ok (.iload 4, 2) := by decide +kernel
theorem dX4_spreadWords_126 : decode cX4_spreadWords 126 = .ok (.bipush 18, 2) := by decide +kernel
theorem dX4_spreadWords_128 : decode cX4_spreadWords 128 = .ok (.iushr, 1) := by decide +kernel
theorem dX4_spreadWords_129 : decode cX4_spreadWords 129 = .ok (.iload 4, 2) := by decide +kernel
theorem dX4_spreadWords_131 : decode cX4_spreadWords 131 = .ok (.bipush 14, 2) := by decide +kernel
theorem dX4_spreadWords_133 : decode cX4_spreadWords 133 = .ok (.ishl, 1) := by decide +kernel
theorem dX4_spreadWords_134 : decode cX4_spreadWords 134 = .ok (.ior, 1) := by decide +kernel
theorem dX4_spreadWords_135 : decode cX4_spreadWords 135 = .ok (.ixor, 1) := by decide +kernel
theorem dX4_spreadWords_136 : decode cX4_spreadWords 136 = .ok (.iload 4, 2) := by decide +kernel
theorem dX4_spreadWords_138 : decode cX4_spreadWords 138 = .ok (.iconst 3, 1) := by decide +kernel
theorem dX4_spreadWords_139 : decode cX4_spreadWords 139 = .ok (.iushr, 1) := by decide +kernel
theorem dX4_spreadWords_140 : decode cX4_spreadWords 140 = .ok (.ixor, 1) := by decide +kernel
theorem dX4_spreadWords_141 : decode cX4_spreadWords 141 = .ok (.iadd, 1) := by decide +kernel
theorem dX4_spreadWords_142 : decode cX4_spreadWords 142 = .ok (.aload_n 0, 1) := by decide +kernel
theorem dX4_spreadWords_143 : decode cX4_spreadWords 143 = .ok (.getfield 15, 3) := by decide +kernel
theorem dX4_spreadWords_146 : decode cX4_spreadWords 146 = .ok (.iload_n 3, 1) := by decide +kernel
theorem dX4_spreadWords_147 : decode cX4_spreadWords 147 = .ok (.bipush 7, 2) := by decide +kernel
theorem dX4_spreadWords_149 : decode cX4_spreadWords 149 = .ok (.isub, 1) := by decide +kernel
theorem dX4_spreadWords_150 : decode cX4_spreadWords 150 = .ok (.iaload, 1) := by decide +kernel
theorem dX4_spreadWords_151 : decode cX4_spreadWords 151 = .ok (.iadd, 1) := by decide +kernel
theorem dX4_spreadWords_152 : decode cX4_spreadWords 152 = .ok (.iload 5, 2) := by decide +kernel
theorem dX4_spreadWords_154 : decode cX4_spreadWords 154 = .ok (.bipush 17, 2) := by decide +kernel
theorem dX4_spreadWords_156 : decode cX4_spreadWords 156 = .ok (.iushr, 1) := by decide +kernel
theorem dX4_spreadWords_157 : decode cX4_spreadWords 157 = .ok (.iload 5, 2) := by decide +kernel
theorem dX4_spreadWords_159 : decode cX4_spreadWords 159 = .ok (.bipush 15, 2) := by decide +kernel
theorem dX4_spreadWords_161 : decode cX4_spreadWords 161 = .ok (.ishl, 1) := by decide +kernel
theorem dX4_spreadWords_162 : decode cX4_spreadWords 162 = .ok (.ior, 1) := by decide +kernel
theorem dX4_spreadWords_163 : decode cX4_spreadWords 163 = .ok (.iload 5, 2) := by decide +kernel
theorem dX4_spreadWords_165 : decode cX4_spreadWords 165 = .ok (.bipush 19, 2) := by decide +kernel
theorem dX4_spreadWords_167 : decode cX4_spreadWords 167 = .ok (.iushr, 1) := by decide +kernel
theorem dX4_spreadWords_168 : decode cX4_spreadWords 168 = .ok (.iload 5, 2) := by decide +kernel
theorem dX4_spreadWords_170 : decode cX4_spreadWords 170 = .ok (.bipush 13, 2) := by decide +kernel
theorem dX4_spreadWords_172 : decode cX4_spreadWords 172 = .ok (.ishl, 1) := by decide +kernel
theorem dX4_spreadWords_173 : decode cX4_spreadWords 173 = .ok (.ior, 1) := by decide +kernel
theorem dX4_spreadWords_174 : decode cX4_spreadWords 174 = .ok (.ixor, 1) := by decide +kernel
theorem dX4_spreadWords_175 : decode cX4_spreadWords 175 = .ok (.iload 5, 2) := by decide +kernel
theorem dX4_spreadWords_177 : decode cX4_spreadWords 177 = .ok (.bipush 10, 2) := by decide +kernel
theorem dX4_spreadWords_179 : decode cX4_spreadWords 179 = .ok (.iushr, 1) := by decide +kernel
theorem dX4_spreadWords_180 : decode cX4_spreadWords 180 = .ok (.ixor, 1) := by decide +kernel
theorem dX4_spreadWords_181 : decode cX4_spreadWords 181 = .ok (.iadd, 1) := by decide +kernel
theorem dX4_spreadWords_182 : decode cX4_spreadWords 182 = .ok (.iastore, 1) := by decide +kernel
theorem dX4_spreadWords_183 : decode cX4_spreadWords 183 = .ok (.iinc 3 1, 3) := by decide +kernel
theorem dX4_spreadWords_186 : decode cX4_spreadWords 186 = .ok (.goto (-114), 3) := by decide +kernel
theorem dX4_spreadWords_189 : decode cX4_spreadWords 189 = .ok (.return_, 1) := by decide +kernel
